/-! ===== the calls of the law 2 ===== -/
set_option maxRecDepth 100000 in
set_option maxHeartbeats 4000000 in
theorem o_13 {xs : Nat → Int32} {L i0 d nc ns P Q : Nat} {c : ME} {Z : AR → Prop} (hi : i0 + 8 ≤ L) (hL : L ≤ 100000) (hI : Iv 0 (-1) P Q c) (hR : Rq P c) (K : ∀ (P2 Q2 : Nat) (c2 : ME) (e : Nat), e ≤ 1 → Iv 0 (-1) P2 Q2 c2 → (Rq P2 c2) → Wp (a_scr L xs) (d + 90) 296 1844 [(4, vi (i0 : Int)), (3, .ref 67), (2, .ref 41), (1, .ref 0), (0, .ref a_SC)] [] (Wd P2 Q2 P2 P2 c2) (nc + e) (ns + 6 * e) Z) : Wp (a_scr L xs) (d + 90) 296 643 [(4, vi (i0 : Int)), (3, .ref 67), (2, .ref 41), (1, .ref 0), (0, .ref a_SC)] [] (Wd P Q P P c) nc ns Z := by
  obtain ⟨x1, hx1⟩ : ∃ z, (xs (i0 + 1)).toInt = z := ⟨_, rfl⟩
  have x1r := c_rng (xs (i0 + 1))
  rw [hx1] at x1r
  obtain ⟨x2, hx2⟩ : ∃ z, (xs (i0 + 2)).toInt = z := ⟨_, rfl⟩
  have x2r := c_rng (xs (i0 + 2))
  rw [hx2] at x2r
  obtain ⟨x3, hx3⟩ : ∃ z, (xs (i0 + 3)).toInt = z := ⟨_, rfl⟩
  have x3r := c_rng (xs (i0 + 3))
  rw [hx3] at x3r
  obtain ⟨x4, hx4⟩ : ∃ z, (xs (i0 + 4)).toInt = z := ⟨_, rfl⟩
  have x4r := c_rng (xs (i0 + 4))
  rw [hx4] at x4r
  obtain ⟨x5, hx5⟩ : ∃ z, (xs (i0 + 5)).toInt = z := ⟨_, rfl⟩
  have x5r := c_rng (xs (i0 + 5))
  rw [hx5] at x5r
  obtain ⟨x6, hx6⟩ : ∃ z, (xs (i0 + 6)).toInt = z := ⟨_, rfl⟩
  have x6r := c_rng (xs (i0 + 6))
  rw [hx6] at x6r
  obtain ⟨x7, hx7⟩ : ∃ z, (xs (i0 + 7)).toInt = z := ⟨_, rfl⟩
  have x7r := c_rng (xs (i0 + 7))
  rw [hx7] at x7r
  have hT := rl_t hR
  have hU := rl_u hR
  obtain ⟨nl, hnl⟩ : ∃ z, c (P + 7) 4 = z := ⟨_, rfl⟩
  have hml : c 41 30 = nl := (rl_law hR).1.symm.trans hnl
  have hlr := ir_41_30 hI
  rw [hml] at hlr
  have hCe : Ce nl (c (P + 8)) (c 52) (c 53) := ce_le (rl_law hR).2 (by omega)
  have hHw : Hw (c 52) (c 53) nl := by rw [← hml]; exact iv_hc hI
  have hP := iv_P hI
  have hQ := iv_Q hI
  refine q_aload_n rfl rfl ?_
  refine q_aload_n rfl rfl ?_
  refine q_iload rfl rfl ?_
  refine q_iconst rfl ?_
  refine v_iadd (v := (i0 : Int) + 1) rfl rfl ?_
  refine v_scr (j := i0 + 1) rfl (by omega) (by omega) hL hx1 ?_
  refine q_aload_n rfl rfl ?_
  refine q_iload rfl rfl ?_
  refine q_iconst rfl ?_
  refine v_iadd (v := (i0 : Int) + 2) rfl rfl ?_
  refine v_scr (j := i0 + 2) rfl (by omega) (by omega) hL hx2 ?_
  refine q_aload_n rfl rfl ?_
  refine q_iload rfl rfl ?_
  refine q_iconst rfl ?_
  refine v_iadd (v := (i0 : Int) + 3) rfl rfl ?_
  refine v_scr (j := i0 + 3) rfl (by omega) (by omega) hL hx3 ?_
  refine q_aload_n rfl rfl ?_
  refine q_iload rfl rfl ?_
  refine q_iconst rfl ?_
  refine v_iadd (v := (i0 : Int) + 4) rfl rfl ?_
  refine v_scr (j := i0 + 4) rfl (by omega) (by omega) hL hx4 ?_
  refine q_aload_n rfl rfl ?_
  refine q_iload rfl rfl ?_
  refine q_iconst rfl ?_
  refine v_iadd (v := (i0 : Int) + 5) rfl rfl ?_
  refine v_scr (j := i0 + 5) rfl (by omega) (by omega) hL hx5 ?_
  refine q_aload_n rfl rfl ?_
  refine q_iload rfl rfl ?_
  refine v_bip rfl (by decide) ?_
  refine v_iadd (v := (i0 : Int) + 6) rfl rfl ?_
  refine v_scr (j := i0 + 6) rfl (by omega) (by omega) hL hx6 ?_
  refine q_aload_n rfl rfl ?_
  refine q_iload rfl rfl ?_
  refine v_bip rfl (by decide) ?_
  refine v_iadd (v := (i0 : Int) + 7) rfl rfl ?_
  refine v_scr (j := i0 + 7) rfl (by omega) (by omega) hL hx7 ?_
  refine q_aload_n rfl rfl ?_
  refine q_call rfl rfl rfl rfl ?_
  refine q_aload rfl rfl ?_
  refine q_iconst rfl ?_
  refine q_aload_n rfl rfl ?_
  refine q_iload_n rfl rfl ?_
  refine q_iload_n rfl rfl ?_
  refine q_iload_n rfl rfl ?_
  refine q_iload rfl rfl ?_
  refine q_iload rfl rfl ?_
  refine q_iload rfl rfl ?_
  refine q_iload rfl rfl ?_
  refine v_cv rfl rfl rfl rfl (by decide) ⟨⟨rfl, rfl⟩, by decide, rfl⟩ (Nat.le_of_ble_eq_true rfl) (Nat.le_of_ble_eq_true rfl) ?_
  refine q_aload_n rfl rfl ?_
  refine q_iload_n rfl rfl ?_
  refine q_iconst rfl ?_
  refine v_sip rfl (by decide) ?_
  refine q_call rfl rfl rfl rfl ?_
  refine q_iload_n rfl rfl ?_
  refine q_iload_n rfl rfl ?_
  by_cases h_1 : x1 < 0
  · refine v_ic_lt_t (t := 14) rfl (by decide) ⟨by omega, h_1, by decide⟩ ?_
    refine q_iconst rfl ?_
    refine v_zret rfl rfl (by decide) ?_
    refine bk_inl ?_
    refine v_if_eq_t (t := 84) rfl (by decide) (by decide) ?_
    refine q_iconst rfl ?_
    refine v_cv rfl rfl rfl rfl (by decide) ⟨⟨rfl, rfl⟩, by decide, rfl⟩ (Nat.le_of_ble_eq_true rfl) (Nat.le_of_ble_eq_true rfl) ?_
    refine q_iload_n rfl rfl ?_
    refine v_if_ne_f (t := 25) rfl (by decide) (by decide) ?_
    refine q_aload_n rfl rfl ?_
    refine q_dup rfl rfl ?_
    have h_2 := ir_0_13 hI
    refine v_gi (z := 13) (v := c 0 13) rfl rfl rfl (by decide) rfl rfl rfl ?_
    refine q_iconst rfl ?_
    refine v_iadd (v := c 0 13 + 1) rfl rfl ?_
    refine v_nrm (fun y_3 hy_3 => ?_)
    refine v_pi (z := 13) rfl rfl rfl (by decide) rfl rfl rfl (by decide) ?_
    refine v_new rfl rfl (by decide) (by omega) (Nat.le_of_ble_eq_true rfl) (by decide) rfl ?_
    refine bk_out rfl rfl ?_
    refine bk_thr (z := Int32.ofInt 1) rfl ⟨_, _, rfl⟩ rfl ?_
    refine bk_inl ?_
    refine q_istore rfl (by decide) ?_
    refine q_aload_n rfl rfl ?_
    refine q_aload_n rfl rfl ?_
    refine q_iload rfl rfl ?_
    refine q_iconst rfl ?_
    refine v_iadd (v := (i0 : Int) + 1) rfl rfl ?_
    refine v_scr (j := i0 + 1) rfl (by omega) (by omega) hL hx1 ?_
    refine q_aload_n rfl rfl ?_
    refine q_iload rfl rfl ?_
    refine q_iconst rfl ?_
    refine v_iadd (v := (i0 : Int) + 2) rfl rfl ?_
    refine v_scr (j := i0 + 2) rfl (by omega) (by omega) hL hx2 ?_
    refine q_aload_n rfl rfl ?_
    refine q_iload rfl rfl ?_
    refine q_iconst rfl ?_
    refine v_iadd (v := (i0 : Int) + 3) rfl rfl ?_
    refine v_scr (j := i0 + 3) rfl (by omega) (by omega) hL hx3 ?_
    refine q_aload_n rfl rfl ?_
    refine q_iload rfl rfl ?_
    refine q_iconst rfl ?_
    refine v_iadd (v := (i0 : Int) + 4) rfl rfl ?_
    refine v_scr (j := i0 + 4) rfl (by omega) (by omega) hL hx4 ?_
    refine q_aload_n rfl rfl ?_
    refine q_iload rfl rfl ?_
    refine q_iconst rfl ?_
    refine v_iadd (v := (i0 : Int) + 5) rfl rfl ?_
    refine v_scr (j := i0 + 5) rfl (by omega) (by omega) hL hx5 ?_
    refine q_aload_n rfl rfl ?_
    refine q_iload rfl rfl ?_
    refine v_bip rfl (by decide) ?_
    refine v_iadd (v := (i0 : Int) + 6) rfl rfl ?_
    refine v_scr (j := i0 + 6) rfl (by omega) (by omega) hL hx6 ?_
    refine q_aload_n rfl rfl ?_
    refine q_iload rfl rfl ?_
    refine v_bip rfl (by decide) ?_
    refine v_iadd (v := (i0 : Int) + 7) rfl rfl ?_
    refine v_scr (j := i0 + 7) rfl (by omega) (by omega) hL hx7 ?_
    refine v_cv rfl rfl rfl rfl (by decide) ⟨⟨rfl, rfl⟩, by decide, rfl⟩ (Nat.le_of_ble_eq_true rfl) (Nat.le_of_ble_eq_true rfl) ?_
    refine q_aload_n rfl rfl ?_
    refine q_iconst rfl ?_
    refine v_pi (z := 0) rfl rfl rfl (by decide) rfl rfl rfl (by decide) ?_
    refine q_aload_n rfl rfl ?_
    refine q_iload_n rfl rfl ?_
    refine q_iconst rfl ?_
    refine v_sip rfl (by decide) ?_
    refine q_call rfl rfl rfl rfl ?_
    refine q_iload_n rfl rfl ?_
    refine q_iload_n rfl rfl ?_
    refine v_ic_lt_t (t := 14) rfl (by decide) (by omega) ?_
    refine q_iconst rfl ?_
    refine v_zret rfl rfl (by decide) ?_
    refine bk_inl ?_
    refine v_if_eq_t (t := 89) rfl (by decide) (by decide) ?_
    refine q_iconst rfl ?_
    refine q_iconst rfl ?_
    refine q_iconst rfl ?_
    refine v_cv rfl rfl rfl rfl (by decide) ⟨⟨rfl, rfl⟩, by decide, rfl⟩ (Nat.le_of_ble_eq_true rfl) (Nat.le_of_ble_eq_true rfl) ?_
    refine q_iload_n rfl rfl ?_
    refine v_if_ne_f (t := 26) rfl (by decide) (by decide) ?_
    refine q_aload_n rfl rfl ?_
    refine v_gi (z := 0) (v := 0) rfl rfl rfl (by decide) rfl rfl (up_e rfl) ?_
    refine v_if_ne_f (t := 26) rfl (by decide) (by decide) ?_
    refine q_aload_n rfl rfl ?_
    refine q_iload_n rfl rfl ?_
    refine v_pi (z := 0) rfl rfl rfl (by decide) rfl rfl rfl (by decide) ?_
    refine q_aload_n rfl rfl ?_
    refine v_gr (t := 42) rfl rfl rfl (by decide) rfl ?_
    refine q_iload_n rfl rfl ?_
    refine q_dup2 rfl ⟨rfl, rfl⟩ ?_
    have h_4 := ir_42 hI 1
    refine v_ia (v := c 42 1) rfl rfl (by decide) (by decide) (by decide) ((up_c (nn rfl)).trans ((up_c (nn rfl)).trans (up_c (nn rfl)))) ?_
    refine q_iconst rfl ?_
    refine v_iadd (v := c 42 1 + 1) rfl rfl ?_
    refine v_nrm (fun y_5 hy_5 => ?_)
    refine v_is rfl rfl (by decide) (by decide) (by decide) ?_
    refine q_aload_n rfl rfl ?_
    refine v_gi (z := 0) (v := 1) rfl rfl rfl (by decide) rfl rfl ((up_c (nn rfl)).trans (up_e rfl)) ?_
    refine v_if_ne_t (t := 37) rfl (by decide) (by decide) ?_
    refine q_iconst rfl ?_
    refine v_zret rfl rfl (by decide) ?_
    refine bk_inl ?_
    refine v_if_ne_f (t := 100) rfl (by decide) (by decide) ?_
    refine q_iconst rfl ?_
    refine q_iret rfl rfl ?_
    refine bk_inl ?_
    refine q_istore rfl (by decide) ?_
    refine q_aload_n rfl rfl ?_
    refine v_cv rfl rfl rfl rfl (by decide) ⟨⟨rfl, rfl⟩, by decide, rfl⟩ (Nat.le_of_ble_eq_true rfl) (Nat.le_of_ble_eq_true rfl) ?_
    refine q_aload_n rfl rfl ?_
    refine v_gi (z := 0) (v := 1) rfl rfl rfl (by decide) rfl rfl ((up_c (nn rfl)).trans (up_e rfl)) ?_
    refine q_iret rfl rfl ?_
    refine bk_inl ?_
    refine q_iload rfl rfl ?_
    refine v_ic_eq_t (t := 755) rfl (by decide) (by decide) ?_
    refine q_iload rfl rfl ?_
    refine v_if_ne_t (t := 772) rfl (by decide) (by decide) ?_
    refine q_goto (t := 1844) rfl (by decide) ?_
    have hI_6 := iw_0_13 (v := y_3) hI ⟨hy_3.1, hy_3.2⟩
    have hI_7 := iw_41_0 (v := 0) hI_6 ⟨by decide, by decide⟩
    have hI_8 := iw_41_0 (v := 1) hI_7 ⟨by decide, by decide⟩
    have hI_9 := iw_42 (j := 1) (v := y_5) hI_8 ⟨hy_5.1, hy_5.2⟩
    refine Wp_ls [(4, vi (i0 : Int)), (3, .ref 67), (2, .ref 41), (1, .ref 0), (0, .ref a_SC)] (lsub_cons rfl (lsub_cons rfl (lsub_cons rfl (lsub_cons rfl (lsub_cons rfl lsub_nil))))) ?_
    have h_10 := ir_1_3 hI
    have h_11 : (up (up (up (up c 0 13 y_3) 41 0 0) 41 0 1) 42 1 y_5) 1 3 = c 1 3 := ((up_c (nn rfl)).trans ((up_c (nn rfl)).trans ((up_c (nn rfl)).trans (up_c (nn rfl)))))
    have h_12 := ir_41_2 hI
    have h_13 : (up (up (up (up c 0 13 y_3) 41 0 0) 41 0 1) 42 1 y_5) 41 2 = c 41 2 := ((up_c (nn rfl)).trans ((up_n (by decide)).trans ((up_n (by decide)).trans (up_c (nn rfl)))))
    have h_14 : (up (up (up (up c 0 13 y_3) 41 0 0) 41 0 1) 42 1 y_5) (P + 7) 4 = nl := ((up_c (np hP rfl rfl)).trans ((up_c (np hP rfl rfl)).trans ((up_c (np hP rfl rfl)).trans ((up_c (np hP rfl rfl)).trans (hnl)))))
    have h_15 : (up (up (up (up c 0 13 y_3) 41 0 0) 41 0 1) 42 1 y_5) 41 30 = nl := ((up_c (nn rfl)).trans ((up_n (by decide)).trans ((up_n (by decide)).trans ((up_c (nn rfl)).trans (hml)))))
    have hA_16 : Ce nl ((up (up (up (up c 0 13 y_3) 41 0 0) 41 0 1) 42 1 y_5) (P + 8)) ((up (up (up (up c 0 13 y_3) 41 0 0) 41 0 1) 42 1 y_5) 52) ((up (up (up (up c 0 13 y_3) 41 0 0) 41 0 1) 42 1 y_5) 53) := ce_fr hCe (fun j => (up_c (np hP rfl rfl)).trans ((up_c (np hP rfl rfl)).trans ((up_c (np hP rfl rfl)).trans (up_c (np hP rfl rfl))))) (fun j => (up_c (nn rfl)).trans ((up_c (nn rfl)).trans ((up_c (nn rfl)).trans (up_c (nn rfl))))) (fun j => (up_c (nn rfl)).trans ((up_c (nn rfl)).trans ((up_c (nn rfl)).trans (up_c (nn rfl)))))
    exact K P Q (up (up (up (up c 0 13 y_3) 41 0 0) 41 0 1) 42 1 y_5) 1 (by decide) hI_9 ⟨by omega, ub_fr hU (fun j => (up_c (nn rfl)).trans ((up_c (nn rfl)).trans ((up_c (nn rfl)).trans (up_c (nn rfl))))) (fun j => (up_c (nn rfl)).trans ((up_c (nn rfl)).trans ((up_c (nn rfl)).trans (up_c (nn rfl))))), ⟨by omega, ce_le hA_16 (by omega)⟩⟩
  · refine v_ic_lt_f (t := 14) rfl (by decide) ⟨by decide, (Int.not_lt.mp h_1), by omega⟩ ?_
    refine q_iload_n rfl rfl ?_
    refine q_iload_n rfl rfl ?_
    by_cases h_17 : x1 > 9999
    · refine v_ic_gt_t (t := 14) rfl (by decide) ⟨by decide, h_17, by omega⟩ ?_
      refine q_iconst rfl ?_
      refine v_zret rfl rfl (by decide) ?_
      refine bk_inl ?_
      refine v_if_eq_t (t := 84) rfl (by decide) (by decide) ?_
      refine q_iconst rfl ?_
      refine v_cv rfl rfl rfl rfl (by decide) ⟨⟨rfl, rfl⟩, by decide, rfl⟩ (Nat.le_of_ble_eq_true rfl) (Nat.le_of_ble_eq_true rfl) ?_
      refine q_iload_n rfl rfl ?_
      refine v_if_ne_f (t := 25) rfl (by decide) (by decide) ?_
      refine q_aload_n rfl rfl ?_
      refine q_dup rfl rfl ?_
      have h_18 := ir_0_13 hI
      refine v_gi (z := 13) (v := c 0 13) rfl rfl rfl (by decide) rfl rfl rfl ?_
      refine q_iconst rfl ?_
      refine v_iadd (v := c 0 13 + 1) rfl rfl ?_
      refine v_nrm (fun y_19 hy_19 => ?_)
      refine v_pi (z := 13) rfl rfl rfl (by decide) rfl rfl rfl (by decide) ?_
      refine v_new rfl rfl (by decide) (by omega) (Nat.le_of_ble_eq_true rfl) (by decide) rfl ?_
      refine bk_out rfl rfl ?_
      refine bk_thr (z := Int32.ofInt 1) rfl ⟨_, _, rfl⟩ rfl ?_
      refine bk_inl ?_
      refine q_istore rfl (by decide) ?_
      refine q_aload_n rfl rfl ?_
      refine q_aload_n rfl rfl ?_
      refine q_iload rfl rfl ?_
      refine q_iconst rfl ?_
      refine v_iadd (v := (i0 : Int) + 1) rfl rfl ?_
      refine v_scr (j := i0 + 1) rfl (by omega) (by omega) hL hx1 ?_
      refine q_aload_n rfl rfl ?_
      refine q_iload rfl rfl ?_
      refine q_iconst rfl ?_
      refine v_iadd (v := (i0 : Int) + 2) rfl rfl ?_
      refine v_scr (j := i0 + 2) rfl (by omega) (by omega) hL hx2 ?_
      refine q_aload_n rfl rfl ?_
      refine q_iload rfl rfl ?_
      refine q_iconst rfl ?_
      refine v_iadd (v := (i0 : Int) + 3) rfl rfl ?_
      refine v_scr (j := i0 + 3) rfl (by omega) (by omega) hL hx3 ?_
      refine q_aload_n rfl rfl ?_
      refine q_iload rfl rfl ?_
      refine q_iconst rfl ?_
      refine v_iadd (v := (i0 : Int) + 4) rfl rfl ?_
      refine v_scr (j := i0 + 4) rfl (by omega) (by omega) hL hx4 ?_
      refine q_aload_n rfl rfl ?_
      refine q_iload rfl rfl ?_
      refine q_iconst rfl ?_
      refine v_iadd (v := (i0 : Int) + 5) rfl rfl ?_
      refine v_scr (j := i0 + 5) rfl (by omega) (by omega) hL hx5 ?_
      refine q_aload_n rfl rfl ?_
      refine q_iload rfl rfl ?_
      refine v_bip rfl (by decide) ?_
      refine v_iadd (v := (i0 : Int) + 6) rfl rfl ?_
      refine v_scr (j := i0 + 6) rfl (by omega) (by omega) hL hx6 ?_
      refine q_aload_n rfl rfl ?_
      refine q_iload rfl rfl ?_
      refine v_bip rfl (by decide) ?_
      refine v_iadd (v := (i0 : Int) + 7) rfl rfl ?_
      refine v_scr (j := i0 + 7) rfl (by omega) (by omega) hL hx7 ?_
      refine v_cv rfl rfl rfl rfl (by decide) ⟨⟨rfl, rfl⟩, by decide, rfl⟩ (Nat.le_of_ble_eq_true rfl) (Nat.le_of_ble_eq_true rfl) ?_
      refine q_aload_n rfl rfl ?_
      refine q_iconst rfl ?_
      refine v_pi (z := 0) rfl rfl rfl (by decide) rfl rfl rfl (by decide) ?_
      refine q_aload_n rfl rfl ?_
      refine q_iload_n rfl rfl ?_
      refine q_iconst rfl ?_
      refine v_sip rfl (by decide) ?_
      refine q_call rfl rfl rfl rfl ?_
      refine q_iload_n rfl rfl ?_
      refine q_iload_n rfl rfl ?_
      refine v_ic_lt_f (t := 14) rfl (by decide) (by omega) ?_
      refine q_iload_n rfl rfl ?_
      refine q_iload_n rfl rfl ?_
      refine v_ic_gt_t (t := 14) rfl (by decide) (by omega) ?_
      refine q_iconst rfl ?_
      refine v_zret rfl rfl (by decide) ?_
      refine bk_inl ?_
      refine v_if_eq_t (t := 89) rfl (by decide) (by decide) ?_
      refine q_iconst rfl ?_
      refine q_iconst rfl ?_
      refine q_iconst rfl ?_
      refine v_cv rfl rfl rfl rfl (by decide) ⟨⟨rfl, rfl⟩, by decide, rfl⟩ (Nat.le_of_ble_eq_true rfl) (Nat.le_of_ble_eq_true rfl) ?_
      refine q_iload_n rfl rfl ?_
      refine v_if_ne_f (t := 26) rfl (by decide) (by decide) ?_
      refine q_aload_n rfl rfl ?_
      refine v_gi (z := 0) (v := 0) rfl rfl rfl (by decide) rfl rfl (up_e rfl) ?_
      refine v_if_ne_f (t := 26) rfl (by decide) (by decide) ?_
      refine q_aload_n rfl rfl ?_
      refine q_iload_n rfl rfl ?_
      refine v_pi (z := 0) rfl rfl rfl (by decide) rfl rfl rfl (by decide) ?_
      refine q_aload_n rfl rfl ?_
      refine v_gr (t := 42) rfl rfl rfl (by decide) rfl ?_
      refine q_iload_n rfl rfl ?_
      refine q_dup2 rfl ⟨rfl, rfl⟩ ?_
      have h_20 := ir_42 hI 1
      refine v_ia (v := c 42 1) rfl rfl (by decide) (by decide) (by decide) ((up_c (nn rfl)).trans ((up_c (nn rfl)).trans (up_c (nn rfl)))) ?_
      refine q_iconst rfl ?_
      refine v_iadd (v := c 42 1 + 1) rfl rfl ?_
      refine v_nrm (fun y_21 hy_21 => ?_)
      refine v_is rfl rfl (by decide) (by decide) (by decide) ?_
      refine q_aload_n rfl rfl ?_
      refine v_gi (z := 0) (v := 1) rfl rfl rfl (by decide) rfl rfl ((up_c (nn rfl)).trans (up_e rfl)) ?_
      refine v_if_ne_t (t := 37) rfl (by decide) (by decide) ?_
      refine q_iconst rfl ?_
      refine v_zret rfl rfl (by decide) ?_
      refine bk_inl ?_
      refine v_if_ne_f (t := 100) rfl (by decide) (by decide) ?_
      refine q_iconst rfl ?_
      refine q_iret rfl rfl ?_
      refine bk_inl ?_
      refine q_istore rfl (by decide) ?_
      refine q_aload_n rfl rfl ?_
      refine v_cv rfl rfl rfl rfl (by decide) ⟨⟨rfl, rfl⟩, by decide, rfl⟩ (Nat.le_of_ble_eq_true rfl) (Nat.le_of_ble_eq_true rfl) ?_
      refine q_aload_n rfl rfl ?_
      refine v_gi (z := 0) (v := 1) rfl rfl rfl (by decide) rfl rfl ((up_c (nn rfl)).trans (up_e rfl)) ?_
      refine q_iret rfl rfl ?_
      refine bk_inl ?_
      refine q_iload rfl rfl ?_
      refine v_ic_eq_t (t := 755) rfl (by decide) (by decide) ?_
      refine q_iload rfl rfl ?_
      refine v_if_ne_t (t := 772) rfl (by decide) (by decide) ?_
      refine q_goto (t := 1844) rfl (by decide) ?_
      have hI_22 := iw_0_13 (v := y_19) hI ⟨hy_19.1, hy_19.2⟩
      have hI_23 := iw_41_0 (v := 0) hI_22 ⟨by decide, by decide⟩
      have hI_24 := iw_41_0 (v := 1) hI_23 ⟨by decide, by decide⟩
      have hI_25 := iw_42 (j := 1) (v := y_21) hI_24 ⟨hy_21.1, hy_21.2⟩
      refine Wp_ls [(4, vi (i0 : Int)), (3, .ref 67), (2, .ref 41), (1, .ref 0), (0, .ref a_SC)] (lsub_cons rfl (lsub_cons rfl (lsub_cons rfl (lsub_cons rfl (lsub_cons rfl lsub_nil))))) ?_
      have h_26 := ir_1_3 hI
      have h_27 : (up (up (up (up c 0 13 y_19) 41 0 0) 41 0 1) 42 1 y_21) 1 3 = c 1 3 := ((up_c (nn rfl)).trans ((up_c (nn rfl)).trans ((up_c (nn rfl)).trans (up_c (nn rfl)))))
      have h_28 := ir_41_2 hI
      have h_29 : (up (up (up (up c 0 13 y_19) 41 0 0) 41 0 1) 42 1 y_21) 41 2 = c 41 2 := ((up_c (nn rfl)).trans ((up_n (by decide)).trans ((up_n (by decide)).trans (up_c (nn rfl)))))
      have h_30 : (up (up (up (up c 0 13 y_19) 41 0 0) 41 0 1) 42 1 y_21) (P + 7) 4 = nl := ((up_c (np hP rfl rfl)).trans ((up_c (np hP rfl rfl)).trans ((up_c (np hP rfl rfl)).trans ((up_c (np hP rfl rfl)).trans (hnl)))))
      have h_31 : (up (up (up (up c 0 13 y_19) 41 0 0) 41 0 1) 42 1 y_21) 41 30 = nl := ((up_c (nn rfl)).trans ((up_n (by decide)).trans ((up_n (by decide)).trans ((up_c (nn rfl)).trans (hml)))))
      have hA_32 : Ce nl ((up (up (up (up c 0 13 y_19) 41 0 0) 41 0 1) 42 1 y_21) (P + 8)) ((up (up (up (up c 0 13 y_19) 41 0 0) 41 0 1) 42 1 y_21) 52) ((up (up (up (up c 0 13 y_19) 41 0 0) 41 0 1) 42 1 y_21) 53) := ce_fr hCe (fun j => (up_c (np hP rfl rfl)).trans ((up_c (np hP rfl rfl)).trans ((up_c (np hP rfl rfl)).trans (up_c (np hP rfl rfl))))) (fun j => (up_c (nn rfl)).trans ((up_c (nn rfl)).trans ((up_c (nn rfl)).trans (up_c (nn rfl))))) (fun j => (up_c (nn rfl)).trans ((up_c (nn rfl)).trans ((up_c (nn rfl)).trans (up_c (nn rfl)))))
      exact K P Q (up (up (up (up c 0 13 y_19) 41 0 0) 41 0 1) 42 1 y_21) 1 (by decide) hI_25 ⟨by omega, ub_fr hU (fun j => (up_c (nn rfl)).trans ((up_c (nn rfl)).trans ((up_c (nn rfl)).trans (up_c (nn rfl))))) (fun j => (up_c (nn rfl)).trans ((up_c (nn rfl)).trans ((up_c (nn rfl)).trans (up_c (nn rfl))))), ⟨by omega, ce_le hA_32 (by omega)⟩⟩
    · refine v_ic_gt_f (t := 14) rfl (by decide) ⟨by omega, (Int.not_lt.mp h_17), by decide⟩ ?_
      refine q_iconst rfl ?_
      refine q_goto (t := 15) rfl (by decide) ?_
      refine v_zret rfl rfl (by decide) ?_
      refine bk_inl ?_
      refine v_if_eq_f (t := 84) rfl (by decide) (by decide) ?_
      refine q_iload_n rfl rfl ?_
      refine q_iconst rfl ?_
      refine v_sip rfl (by decide) ?_
      refine q_call rfl rfl rfl rfl ?_
      refine q_iload_n rfl rfl ?_
      refine q_iload_n rfl rfl ?_
      by_cases h_33 : x2 < 0
      · refine v_ic_lt_t (t := 14) rfl (by decide) ⟨by omega, h_33, by decide⟩ ?_
        refine q_iconst rfl ?_
        refine v_zret rfl rfl (by decide) ?_
        refine bk_inl ?_
        refine v_if_eq_t (t := 84) rfl (by decide) (by decide) ?_
        refine q_iconst rfl ?_
        refine v_cv rfl rfl rfl rfl (by decide) ⟨⟨rfl, rfl⟩, by decide, rfl⟩ (Nat.le_of_ble_eq_true rfl) (Nat.le_of_ble_eq_true rfl) ?_
        refine q_iload_n rfl rfl ?_
        refine v_if_ne_f (t := 25) rfl (by decide) (by decide) ?_
        refine q_aload_n rfl rfl ?_
        refine q_dup rfl rfl ?_
        have h_34 := ir_0_13 hI
        refine v_gi (z := 13) (v := c 0 13) rfl rfl rfl (by decide) rfl rfl rfl ?_
        refine q_iconst rfl ?_
        refine v_iadd (v := c 0 13 + 1) rfl rfl ?_
        refine v_nrm (fun y_35 hy_35 => ?_)
        refine v_pi (z := 13) rfl rfl rfl (by decide) rfl rfl rfl (by decide) ?_
        refine v_new rfl rfl (by decide) (by omega) (Nat.le_of_ble_eq_true rfl) (by decide) rfl ?_
        refine bk_out rfl rfl ?_
        refine bk_thr (z := Int32.ofInt 1) rfl ⟨_, _, rfl⟩ rfl ?_
        refine bk_inl ?_
        refine q_istore rfl (by decide) ?_
        refine q_aload_n rfl rfl ?_
        refine q_aload_n rfl rfl ?_
        refine q_iload rfl rfl ?_
        refine q_iconst rfl ?_
        refine v_iadd (v := (i0 : Int) + 1) rfl rfl ?_
        refine v_scr (j := i0 + 1) rfl (by omega) (by omega) hL hx1 ?_
        refine q_aload_n rfl rfl ?_
        refine q_iload rfl rfl ?_
        refine q_iconst rfl ?_
        refine v_iadd (v := (i0 : Int) + 2) rfl rfl ?_
        refine v_scr (j := i0 + 2) rfl (by omega) (by omega) hL hx2 ?_
        refine q_aload_n rfl rfl ?_
        refine q_iload rfl rfl ?_
        refine q_iconst rfl ?_
        refine v_iadd (v := (i0 : Int) + 3) rfl rfl ?_
        refine v_scr (j := i0 + 3) rfl (by omega) (by omega) hL hx3 ?_
        refine q_aload_n rfl rfl ?_
        refine q_iload rfl rfl ?_
        refine q_iconst rfl ?_
        refine v_iadd (v := (i0 : Int) + 4) rfl rfl ?_
        refine v_scr (j := i0 + 4) rfl (by omega) (by omega) hL hx4 ?_
        refine q_aload_n rfl rfl ?_
        refine q_iload rfl rfl ?_
        refine q_iconst rfl ?_
        refine v_iadd (v := (i0 : Int) + 5) rfl rfl ?_
        refine v_scr (j := i0 + 5) rfl (by omega) (by omega) hL hx5 ?_
        refine q_aload_n rfl rfl ?_
        refine q_iload rfl rfl ?_
        refine v_bip rfl (by decide) ?_
        refine v_iadd (v := (i0 : Int) + 6) rfl rfl ?_
        refine v_scr (j := i0 + 6) rfl (by omega) (by omega) hL hx6 ?_
        refine q_aload_n rfl rfl ?_
        refine q_iload rfl rfl ?_
        refine v_bip rfl (by decide) ?_
        refine v_iadd (v := (i0 : Int) + 7) rfl rfl ?_
        refine v_scr (j := i0 + 7) rfl (by omega) (by omega) hL hx7 ?_
        refine v_cv rfl rfl rfl rfl (by decide) ⟨⟨rfl, rfl⟩, by decide, rfl⟩ (Nat.le_of_ble_eq_true rfl) (Nat.le_of_ble_eq_true rfl) ?_
        refine q_aload_n rfl rfl ?_
        refine q_iconst rfl ?_
        refine v_pi (z := 0) rfl rfl rfl (by decide) rfl rfl rfl (by decide) ?_
        refine q_aload_n rfl rfl ?_
        refine q_iload_n rfl rfl ?_
        refine q_iconst rfl ?_
        refine v_sip rfl (by decide) ?_
        refine q_call rfl rfl rfl rfl ?_
        refine q_iload_n rfl rfl ?_
        refine q_iload_n rfl rfl ?_
        refine v_ic_lt_f (t := 14) rfl (by decide) (by omega) ?_
        refine q_iload_n rfl rfl ?_
        refine q_iload_n rfl rfl ?_
        refine v_ic_gt_f (t := 14) rfl (by decide) (by omega) ?_
        refine q_iconst rfl ?_
        refine q_goto (t := 15) rfl (by decide) ?_
        refine v_zret rfl rfl (by decide) ?_
        refine bk_inl ?_
        refine v_if_eq_f (t := 89) rfl (by decide) (by decide) ?_
        refine q_iload_n rfl rfl ?_
        refine q_iconst rfl ?_
        refine v_sip rfl (by decide) ?_
        refine q_call rfl rfl rfl rfl ?_
        refine q_iload_n rfl rfl ?_
        refine q_iload_n rfl rfl ?_
        refine v_ic_lt_t (t := 14) rfl (by decide) (by omega) ?_
        refine q_iconst rfl ?_
        refine v_zret rfl rfl (by decide) ?_
        refine bk_inl ?_
        refine v_if_eq_t (t := 89) rfl (by decide) (by decide) ?_
        refine q_iconst rfl ?_
        refine q_iconst rfl ?_
        refine q_iconst rfl ?_
        refine v_cv rfl rfl rfl rfl (by decide) ⟨⟨rfl, rfl⟩, by decide, rfl⟩ (Nat.le_of_ble_eq_true rfl) (Nat.le_of_ble_eq_true rfl) ?_
        refine q_iload_n rfl rfl ?_
        refine v_if_ne_f (t := 26) rfl (by decide) (by decide) ?_
        refine q_aload_n rfl rfl ?_
        refine v_gi (z := 0) (v := 0) rfl rfl rfl (by decide) rfl rfl (up_e rfl) ?_
        refine v_if_ne_f (t := 26) rfl (by decide) (by decide) ?_
        refine q_aload_n rfl rfl ?_
        refine q_iload_n rfl rfl ?_
        refine v_pi (z := 0) rfl rfl rfl (by decide) rfl rfl rfl (by decide) ?_
        refine q_aload_n rfl rfl ?_
        refine v_gr (t := 42) rfl rfl rfl (by decide) rfl ?_
        refine q_iload_n rfl rfl ?_
        refine q_dup2 rfl ⟨rfl, rfl⟩ ?_
        have h_36 := ir_42 hI 1
        refine v_ia (v := c 42 1) rfl rfl (by decide) (by decide) (by decide) ((up_c (nn rfl)).trans ((up_c (nn rfl)).trans (up_c (nn rfl)))) ?_
        refine q_iconst rfl ?_
        refine v_iadd (v := c 42 1 + 1) rfl rfl ?_
        refine v_nrm (fun y_37 hy_37 => ?_)
        refine v_is rfl rfl (by decide) (by decide) (by decide) ?_
        refine q_aload_n rfl rfl ?_
        refine v_gi (z := 0) (v := 1) rfl rfl rfl (by decide) rfl rfl ((up_c (nn rfl)).trans (up_e rfl)) ?_
        refine v_if_ne_t (t := 37) rfl (by decide) (by decide) ?_
        refine q_iconst rfl ?_
        refine v_zret rfl rfl (by decide) ?_
        refine bk_inl ?_
        refine v_if_ne_f (t := 100) rfl (by decide) (by decide) ?_
        refine q_iconst rfl ?_
        refine q_iret rfl rfl ?_
        refine bk_inl ?_
        refine q_istore rfl (by decide) ?_
        refine q_aload_n rfl rfl ?_
        refine v_cv rfl rfl rfl rfl (by decide) ⟨⟨rfl, rfl⟩, by decide, rfl⟩ (Nat.le_of_ble_eq_true rfl) (Nat.le_of_ble_eq_true rfl) ?_
        refine q_aload_n rfl rfl ?_
        refine v_gi (z := 0) (v := 1) rfl rfl rfl (by decide) rfl rfl ((up_c (nn rfl)).trans (up_e rfl)) ?_
        refine q_iret rfl rfl ?_
        refine bk_inl ?_
        refine q_iload rfl rfl ?_
        refine v_ic_eq_t (t := 755) rfl (by decide) (by decide) ?_
        refine q_iload rfl rfl ?_
        refine v_if_ne_t (t := 772) rfl (by decide) (by decide) ?_
        refine q_goto (t := 1844) rfl (by decide) ?_
        have hI_38 := iw_0_13 (v := y_35) hI ⟨hy_35.1, hy_35.2⟩
        have hI_39 := iw_41_0 (v := 0) hI_38 ⟨by decide, by decide⟩
        have hI_40 := iw_41_0 (v := 1) hI_39 ⟨by decide, by decide⟩
        have hI_41 := iw_42 (j := 1) (v := y_37) hI_40 ⟨hy_37.1, hy_37.2⟩
        refine Wp_ls [(4, vi (i0 : Int)), (3, .ref 67), (2, .ref 41), (1, .ref 0), (0, .ref a_SC)] (lsub_cons rfl (lsub_cons rfl (lsub_cons rfl (lsub_cons rfl (lsub_cons rfl lsub_nil))))) ?_
        have h_42 := ir_1_3 hI
        have h_43 : (up (up (up (up c 0 13 y_35) 41 0 0) 41 0 1) 42 1 y_37) 1 3 = c 1 3 := ((up_c (nn rfl)).trans ((up_c (nn rfl)).trans ((up_c (nn rfl)).trans (up_c (nn rfl)))))
        have h_44 := ir_41_2 hI
        have h_45 : (up (up (up (up c 0 13 y_35) 41 0 0) 41 0 1) 42 1 y_37) 41 2 = c 41 2 := ((up_c (nn rfl)).trans ((up_n (by decide)).trans ((up_n (by decide)).trans (up_c (nn rfl)))))
        have h_46 : (up (up (up (up c 0 13 y_35) 41 0 0) 41 0 1) 42 1 y_37) (P + 7) 4 = nl := ((up_c (np hP rfl rfl)).trans ((up_c (np hP rfl rfl)).trans ((up_c (np hP rfl rfl)).trans ((up_c (np hP rfl rfl)).trans (hnl)))))
        have h_47 : (up (up (up (up c 0 13 y_35) 41 0 0) 41 0 1) 42 1 y_37) 41 30 = nl := ((up_c (nn rfl)).trans ((up_n (by decide)).trans ((up_n (by decide)).trans ((up_c (nn rfl)).trans (hml)))))
        have hA_48 : Ce nl ((up (up (up (up c 0 13 y_35) 41 0 0) 41 0 1) 42 1 y_37) (P + 8)) ((up (up (up (up c 0 13 y_35) 41 0 0) 41 0 1) 42 1 y_37) 52) ((up (up (up (up c 0 13 y_35) 41 0 0) 41 0 1) 42 1 y_37) 53) := ce_fr hCe (fun j => (up_c (np hP rfl rfl)).trans ((up_c (np hP rfl rfl)).trans ((up_c (np hP rfl rfl)).trans (up_c (np hP rfl rfl))))) (fun j => (up_c (nn rfl)).trans ((up_c (nn rfl)).trans ((up_c (nn rfl)).trans (up_c (nn rfl))))) (fun j => (up_c (nn rfl)).trans ((up_c (nn rfl)).trans ((up_c (nn rfl)).trans (up_c (nn rfl)))))
        exact K P Q (up (up (up (up c 0 13 y_35) 41 0 0) 41 0 1) 42 1 y_37) 1 (by decide) hI_41 ⟨by omega, ub_fr hU (fun j => (up_c (nn rfl)).trans ((up_c (nn rfl)).trans ((up_c (nn rfl)).trans (up_c (nn rfl))))) (fun j => (up_c (nn rfl)).trans ((up_c (nn rfl)).trans ((up_c (nn rfl)).trans (up_c (nn rfl))))), ⟨by omega, ce_le hA_48 (by omega)⟩⟩
      · refine v_ic_lt_f (t := 14) rfl (by decide) ⟨by decide, (Int.not_lt.mp h_33), by omega⟩ ?_
        refine q_iload_n rfl rfl ?_
        refine q_iload_n rfl rfl ?_
        by_cases h_49 : x2 > 9999
        · refine v_ic_gt_t (t := 14) rfl (by decide) ⟨by decide, h_49, by omega⟩ ?_
          refine q_iconst rfl ?_
          refine v_zret rfl rfl (by decide) ?_
          refine bk_inl ?_
          refine v_if_eq_t (t := 84) rfl (by decide) (by decide) ?_
          refine q_iconst rfl ?_
          refine v_cv rfl rfl rfl rfl (by decide) ⟨⟨rfl, rfl⟩, by decide, rfl⟩ (Nat.le_of_ble_eq_true rfl) (Nat.le_of_ble_eq_true rfl) ?_
          refine q_iload_n rfl rfl ?_
          refine v_if_ne_f (t := 25) rfl (by decide) (by decide) ?_
          refine q_aload_n rfl rfl ?_
          refine q_dup rfl rfl ?_
          have h_50 := ir_0_13 hI
          refine v_gi (z := 13) (v := c 0 13) rfl rfl rfl (by decide) rfl rfl rfl ?_
          refine q_iconst rfl ?_
          refine v_iadd (v := c 0 13 + 1) rfl rfl ?_
          refine v_nrm (fun y_51 hy_51 => ?_)
          refine v_pi (z := 13) rfl rfl rfl (by decide) rfl rfl rfl (by decide) ?_
          refine v_new rfl rfl (by decide) (by omega) (Nat.le_of_ble_eq_true rfl) (by decide) rfl ?_
          refine bk_out rfl rfl ?_
          refine bk_thr (z := Int32.ofInt 1) rfl ⟨_, _, rfl⟩ rfl ?_
          refine bk_inl ?_
          refine q_istore rfl (by decide) ?_
          refine q_aload_n rfl rfl ?_
          refine q_aload_n rfl rfl ?_
          refine q_iload rfl rfl ?_
          refine q_iconst rfl ?_
          refine v_iadd (v := (i0 : Int) + 1) rfl rfl ?_
          refine v_scr (j := i0 + 1) rfl (by omega) (by omega) hL hx1 ?_
          refine q_aload_n rfl rfl ?_
          refine q_iload rfl rfl ?_
          refine q_iconst rfl ?_
          refine v_iadd (v := (i0 : Int) + 2) rfl rfl ?_
          refine v_scr (j := i0 + 2) rfl (by omega) (by omega) hL hx2 ?_
          refine q_aload_n rfl rfl ?_
          refine q_iload rfl rfl ?_
          refine q_iconst rfl ?_
          refine v_iadd (v := (i0 : Int) + 3) rfl rfl ?_
          refine v_scr (j := i0 + 3) rfl (by omega) (by omega) hL hx3 ?_
          refine q_aload_n rfl rfl ?_
          refine q_iload rfl rfl ?_
          refine q_iconst rfl ?_
          refine v_iadd (v := (i0 : Int) + 4) rfl rfl ?_
          refine v_scr (j := i0 + 4) rfl (by omega) (by omega) hL hx4 ?_
          refine q_aload_n rfl rfl ?_
          refine q_iload rfl rfl ?_
          refine q_iconst rfl ?_
          refine v_iadd (v := (i0 : Int) + 5) rfl rfl ?_
          refine v_scr (j := i0 + 5) rfl (by omega) (by omega) hL hx5 ?_
          refine q_aload_n rfl rfl ?_
          refine q_iload rfl rfl ?_
          refine v_bip rfl (by decide) ?_
          refine v_iadd (v := (i0 : Int) + 6) rfl rfl ?_
          refine v_scr (j := i0 + 6) rfl (by omega) (by omega) hL hx6 ?_
          refine q_aload_n rfl rfl ?_
          refine q_iload rfl rfl ?_
          refine v_bip rfl (by decide) ?_
          refine v_iadd (v := (i0 : Int) + 7) rfl rfl ?_
          refine v_scr (j := i0 + 7) rfl (by omega) (by omega) hL hx7 ?_
          refine v_cv rfl rfl rfl rfl (by decide) ⟨⟨rfl, rfl⟩, by decide, rfl⟩ (Nat.le_of_ble_eq_true rfl) (Nat.le_of_ble_eq_true rfl) ?_
          refine q_aload_n rfl rfl ?_
          refine q_iconst rfl ?_
          refine v_pi (z := 0) rfl rfl rfl (by decide) rfl rfl rfl (by decide) ?_
          refine q_aload_n rfl rfl ?_
          refine q_iload_n rfl rfl ?_
          refine q_iconst rfl ?_
          refine v_sip rfl (by decide) ?_
          refine q_call rfl rfl rfl rfl ?_
          refine q_iload_n rfl rfl ?_
          refine q_iload_n rfl rfl ?_
          refine v_ic_lt_f (t := 14) rfl (by decide) (by omega) ?_
          refine q_iload_n rfl rfl ?_
          refine q_iload_n rfl rfl ?_
          refine v_ic_gt_f (t := 14) rfl (by decide) (by omega) ?_
          refine q_iconst rfl ?_
          refine q_goto (t := 15) rfl (by decide) ?_
          refine v_zret rfl rfl (by decide) ?_
          refine bk_inl ?_
          refine v_if_eq_f (t := 89) rfl (by decide) (by decide) ?_
          refine q_iload_n rfl rfl ?_
          refine q_iconst rfl ?_
          refine v_sip rfl (by decide) ?_
          refine q_call rfl rfl rfl rfl ?_
          refine q_iload_n rfl rfl ?_
          refine q_iload_n rfl rfl ?_
          refine v_ic_lt_f (t := 14) rfl (by decide) (by omega) ?_
          refine q_iload_n rfl rfl ?_
          refine q_iload_n rfl rfl ?_
          refine v_ic_gt_t (t := 14) rfl (by decide) (by omega) ?_
          refine q_iconst rfl ?_
          refine v_zret rfl rfl (by decide) ?_
          refine bk_inl ?_
          refine v_if_eq_t (t := 89) rfl (by decide) (by decide) ?_
          refine q_iconst rfl ?_
          refine q_iconst rfl ?_
          refine q_iconst rfl ?_
          refine v_cv rfl rfl rfl rfl (by decide) ⟨⟨rfl, rfl⟩, by decide, rfl⟩ (Nat.le_of_ble_eq_true rfl) (Nat.le_of_ble_eq_true rfl) ?_
          refine q_iload_n rfl rfl ?_
          refine v_if_ne_f (t := 26) rfl (by decide) (by decide) ?_
          refine q_aload_n rfl rfl ?_
          refine v_gi (z := 0) (v := 0) rfl rfl rfl (by decide) rfl rfl (up_e rfl) ?_
          refine v_if_ne_f (t := 26) rfl (by decide) (by decide) ?_
          refine q_aload_n rfl rfl ?_
          refine q_iload_n rfl rfl ?_
          refine v_pi (z := 0) rfl rfl rfl (by decide) rfl rfl rfl (by decide) ?_
          refine q_aload_n rfl rfl ?_
          refine v_gr (t := 42) rfl rfl rfl (by decide) rfl ?_
          refine q_iload_n rfl rfl ?_
          refine q_dup2 rfl ⟨rfl, rfl⟩ ?_
          have h_52 := ir_42 hI 1
          refine v_ia (v := c 42 1) rfl rfl (by decide) (by decide) (by decide) ((up_c (nn rfl)).trans ((up_c (nn rfl)).trans (up_c (nn rfl)))) ?_
          refine q_iconst rfl ?_
          refine v_iadd (v := c 42 1 + 1) rfl rfl ?_
          refine v_nrm (fun y_53 hy_53 => ?_)
          refine v_is rfl rfl (by decide) (by decide) (by decide) ?_
          refine q_aload_n rfl rfl ?_
          refine v_gi (z := 0) (v := 1) rfl rfl rfl (by decide) rfl rfl ((up_c (nn rfl)).trans (up_e rfl)) ?_
          refine v_if_ne_t (t := 37) rfl (by decide) (by decide) ?_
          refine q_iconst rfl ?_
          refine v_zret rfl rfl (by decide) ?_
          refine bk_inl ?_
          refine v_if_ne_f (t := 100) rfl (by decide) (by decide) ?_
          refine q_iconst rfl ?_
          refine q_iret rfl rfl ?_
          refine bk_inl ?_
          refine q_istore rfl (by decide) ?_
          refine q_aload_n rfl rfl ?_
          refine v_cv rfl rfl rfl rfl (by decide) ⟨⟨rfl, rfl⟩, by decide, rfl⟩ (Nat.le_of_ble_eq_true rfl) (Nat.le_of_ble_eq_true rfl) ?_
          refine q_aload_n rfl rfl ?_
          refine v_gi (z := 0) (v := 1) rfl rfl rfl (by decide) rfl rfl ((up_c (nn rfl)).trans (up_e rfl)) ?_
          refine q_iret rfl rfl ?_
          refine bk_inl ?_
          refine q_iload rfl rfl ?_
          refine v_ic_eq_t (t := 755) rfl (by decide) (by decide) ?_
          refine q_iload rfl rfl ?_
          refine v_if_ne_t (t := 772) rfl (by decide) (by decide) ?_
          refine q_goto (t := 1844) rfl (by decide) ?_
          have hI_54 := iw_0_13 (v := y_51) hI ⟨hy_51.1, hy_51.2⟩
          have hI_55 := iw_41_0 (v := 0) hI_54 ⟨by decide, by decide⟩
          have hI_56 := iw_41_0 (v := 1) hI_55 ⟨by decide, by decide⟩
          have hI_57 := iw_42 (j := 1) (v := y_53) hI_56 ⟨hy_53.1, hy_53.2⟩
          refine Wp_ls [(4, vi (i0 : Int)), (3, .ref 67), (2, .ref 41), (1, .ref 0), (0, .ref a_SC)] (lsub_cons rfl (lsub_cons rfl (lsub_cons rfl (lsub_cons rfl (lsub_cons rfl lsub_nil))))) ?_
          have h_58 := ir_1_3 hI
          have h_59 : (up (up (up (up c 0 13 y_51) 41 0 0) 41 0 1) 42 1 y_53) 1 3 = c 1 3 := ((up_c (nn rfl)).trans ((up_c (nn rfl)).trans ((up_c (nn rfl)).trans (up_c (nn rfl)))))
          have h_60 := ir_41_2 hI
          have h_61 : (up (up (up (up c 0 13 y_51) 41 0 0) 41 0 1) 42 1 y_53) 41 2 = c 41 2 := ((up_c (nn rfl)).trans ((up_n (by decide)).trans ((up_n (by decide)).trans (up_c (nn rfl)))))
          have h_62 : (up (up (up (up c 0 13 y_51) 41 0 0) 41 0 1) 42 1 y_53) (P + 7) 4 = nl := ((up_c (np hP rfl rfl)).trans ((up_c (np hP rfl rfl)).trans ((up_c (np hP rfl rfl)).trans ((up_c (np hP rfl rfl)).trans (hnl)))))
          have h_63 : (up (up (up (up c 0 13 y_51) 41 0 0) 41 0 1) 42 1 y_53) 41 30 = nl := ((up_c (nn rfl)).trans ((up_n (by decide)).trans ((up_n (by decide)).trans ((up_c (nn rfl)).trans (hml)))))
          have hA_64 : Ce nl ((up (up (up (up c 0 13 y_51) 41 0 0) 41 0 1) 42 1 y_53) (P + 8)) ((up (up (up (up c 0 13 y_51) 41 0 0) 41 0 1) 42 1 y_53) 52) ((up (up (up (up c 0 13 y_51) 41 0 0) 41 0 1) 42 1 y_53) 53) := ce_fr hCe (fun j => (up_c (np hP rfl rfl)).trans ((up_c (np hP rfl rfl)).trans ((up_c (np hP rfl rfl)).trans (up_c (np hP rfl rfl))))) (fun j => (up_c (nn rfl)).trans ((up_c (nn rfl)).trans ((up_c (nn rfl)).trans (up_c (nn rfl))))) (fun j => (up_c (nn rfl)).trans ((up_c (nn rfl)).trans ((up_c (nn rfl)).trans (up_c (nn rfl)))))
          exact K P Q (up (up (up (up c 0 13 y_51) 41 0 0) 41 0 1) 42 1 y_53) 1 (by decide) hI_57 ⟨by omega, ub_fr hU (fun j => (up_c (nn rfl)).trans ((up_c (nn rfl)).trans ((up_c (nn rfl)).trans (up_c (nn rfl))))) (fun j => (up_c (nn rfl)).trans ((up_c (nn rfl)).trans ((up_c (nn rfl)).trans (up_c (nn rfl))))), ⟨by omega, ce_le hA_64 (by omega)⟩⟩
        · refine v_ic_gt_f (t := 14) rfl (by decide) ⟨by omega, (Int.not_lt.mp h_49), by decide⟩ ?_
          refine q_iconst rfl ?_
          refine q_goto (t := 15) rfl (by decide) ?_
          refine v_zret rfl rfl (by decide) ?_
          refine bk_inl ?_
          refine v_if_eq_f (t := 84) rfl (by decide) (by decide) ?_
          refine q_iload_n rfl rfl ?_
          refine q_iconst rfl ?_
          refine v_sip rfl (by decide) ?_
          refine q_call rfl rfl rfl rfl ?_
          refine q_iload_n rfl rfl ?_
          refine q_iload_n rfl rfl ?_
          by_cases h_65 : x3 < 0
          · refine v_ic_lt_t (t := 14) rfl (by decide) ⟨by omega, h_65, by decide⟩ ?_
            refine q_iconst rfl ?_
            refine v_zret rfl rfl (by decide) ?_
            refine bk_inl ?_
            refine v_if_eq_t (t := 84) rfl (by decide) (by decide) ?_
            refine q_iconst rfl ?_
            refine v_cv rfl rfl rfl rfl (by decide) ⟨⟨rfl, rfl⟩, by decide, rfl⟩ (Nat.le_of_ble_eq_true rfl) (Nat.le_of_ble_eq_true rfl) ?_
            refine q_iload_n rfl rfl ?_
            refine v_if_ne_f (t := 25) rfl (by decide) (by decide) ?_
            refine q_aload_n rfl rfl ?_
            refine q_dup rfl rfl ?_
            have h_66 := ir_0_13 hI
            refine v_gi (z := 13) (v := c 0 13) rfl rfl rfl (by decide) rfl rfl rfl ?_
            refine q_iconst rfl ?_
            refine v_iadd (v := c 0 13 + 1) rfl rfl ?_
            refine v_nrm (fun y_67 hy_67 => ?_)
            refine v_pi (z := 13) rfl rfl rfl (by decide) rfl rfl rfl (by decide) ?_
            refine v_new rfl rfl (by decide) (by omega) (Nat.le_of_ble_eq_true rfl) (by decide) rfl ?_
            refine bk_out rfl rfl ?_
            refine bk_thr (z := Int32.ofInt 1) rfl ⟨_, _, rfl⟩ rfl ?_
            refine bk_inl ?_
            refine q_istore rfl (by decide) ?_
            refine q_aload_n rfl rfl ?_
            refine q_aload_n rfl rfl ?_
            refine q_iload rfl rfl ?_
            refine q_iconst rfl ?_
            refine v_iadd (v := (i0 : Int) + 1) rfl rfl ?_
            refine v_scr (j := i0 + 1) rfl (by omega) (by omega) hL hx1 ?_
            refine q_aload_n rfl rfl ?_
            refine q_iload rfl rfl ?_
            refine q_iconst rfl ?_
            refine v_iadd (v := (i0 : Int) + 2) rfl rfl ?_
            refine v_scr (j := i0 + 2) rfl (by omega) (by omega) hL hx2 ?_
            refine q_aload_n rfl rfl ?_
            refine q_iload rfl rfl ?_
            refine q_iconst rfl ?_
            refine v_iadd (v := (i0 : Int) + 3) rfl rfl ?_
            refine v_scr (j := i0 + 3) rfl (by omega) (by omega) hL hx3 ?_
            refine q_aload_n rfl rfl ?_
            refine q_iload rfl rfl ?_
            refine q_iconst rfl ?_
            refine v_iadd (v := (i0 : Int) + 4) rfl rfl ?_
            refine v_scr (j := i0 + 4) rfl (by omega) (by omega) hL hx4 ?_
            refine q_aload_n rfl rfl ?_
            refine q_iload rfl rfl ?_
            refine q_iconst rfl ?_
            refine v_iadd (v := (i0 : Int) + 5) rfl rfl ?_
            refine v_scr (j := i0 + 5) rfl (by omega) (by omega) hL hx5 ?_
            refine q_aload_n rfl rfl ?_
            refine q_iload rfl rfl ?_
            refine v_bip rfl (by decide) ?_
            refine v_iadd (v := (i0 : Int) + 6) rfl rfl ?_
            refine v_scr (j := i0 + 6) rfl (by omega) (by omega) hL hx6 ?_
            refine q_aload_n rfl rfl ?_
            refine q_iload rfl rfl ?_
            refine v_bip rfl (by decide) ?_
            refine v_iadd (v := (i0 : Int) + 7) rfl rfl ?_
            refine v_scr (j := i0 + 7) rfl (by omega) (by omega) hL hx7 ?_
            refine v_cv rfl rfl rfl rfl (by decide) ⟨⟨rfl, rfl⟩, by decide, rfl⟩ (Nat.le_of_ble_eq_true rfl) (Nat.le_of_ble_eq_true rfl) ?_
            refine q_aload_n rfl rfl ?_
            refine q_iconst rfl ?_
            refine v_pi (z := 0) rfl rfl rfl (by decide) rfl rfl rfl (by decide) ?_
            refine q_aload_n rfl rfl ?_
            refine q_iload_n rfl rfl ?_
            refine q_iconst rfl ?_
            refine v_sip rfl (by decide) ?_
            refine q_call rfl rfl rfl rfl ?_
            refine q_iload_n rfl rfl ?_
            refine q_iload_n rfl rfl ?_
            refine v_ic_lt_f (t := 14) rfl (by decide) (by omega) ?_
            refine q_iload_n rfl rfl ?_
            refine q_iload_n rfl rfl ?_
            refine v_ic_gt_f (t := 14) rfl (by decide) (by omega) ?_
            refine q_iconst rfl ?_
            refine q_goto (t := 15) rfl (by decide) ?_
            refine v_zret rfl rfl (by decide) ?_
            refine bk_inl ?_
            refine v_if_eq_f (t := 89) rfl (by decide) (by decide) ?_
            refine q_iload_n rfl rfl ?_
            refine q_iconst rfl ?_
            refine v_sip rfl (by decide) ?_
            refine q_call rfl rfl rfl rfl ?_
            refine q_iload_n rfl rfl ?_
            refine q_iload_n rfl rfl ?_
            refine v_ic_lt_f (t := 14) rfl (by decide) (by omega) ?_
            refine q_iload_n rfl rfl ?_
            refine q_iload_n rfl rfl ?_
            refine v_ic_gt_f (t := 14) rfl (by decide) (by omega) ?_
            refine q_iconst rfl ?_
            refine q_goto (t := 15) rfl (by decide) ?_
            refine v_zret rfl rfl (by decide) ?_
            refine bk_inl ?_
            refine v_if_eq_f (t := 89) rfl (by decide) (by decide) ?_
            refine q_iload_n rfl rfl ?_
            refine q_iconst rfl ?_
            refine v_sip rfl (by decide) ?_
            refine q_call rfl rfl rfl rfl ?_
            refine q_iload_n rfl rfl ?_
            refine q_iload_n rfl rfl ?_
            refine v_ic_lt_t (t := 14) rfl (by decide) (by omega) ?_
            refine q_iconst rfl ?_
            refine v_zret rfl rfl (by decide) ?_
            refine bk_inl ?_
            refine v_if_eq_t (t := 89) rfl (by decide) (by decide) ?_
            refine q_iconst rfl ?_
            refine q_iconst rfl ?_
            refine q_iconst rfl ?_
            refine v_cv rfl rfl rfl rfl (by decide) ⟨⟨rfl, rfl⟩, by decide, rfl⟩ (Nat.le_of_ble_eq_true rfl) (Nat.le_of_ble_eq_true rfl) ?_
            refine q_iload_n rfl rfl ?_
            refine v_if_ne_f (t := 26) rfl (by decide) (by decide) ?_
            refine q_aload_n rfl rfl ?_
            refine v_gi (z := 0) (v := 0) rfl rfl rfl (by decide) rfl rfl (up_e rfl) ?_
            refine v_if_ne_f (t := 26) rfl (by decide) (by decide) ?_
            refine q_aload_n rfl rfl ?_
            refine q_iload_n rfl rfl ?_
            refine v_pi (z := 0) rfl rfl rfl (by decide) rfl rfl rfl (by decide) ?_
            refine q_aload_n rfl rfl ?_
            refine v_gr (t := 42) rfl rfl rfl (by decide) rfl ?_
            refine q_iload_n rfl rfl ?_
            refine q_dup2 rfl ⟨rfl, rfl⟩ ?_
            have h_68 := ir_42 hI 1
            refine v_ia (v := c 42 1) rfl rfl (by decide) (by decide) (by decide) ((up_c (nn rfl)).trans ((up_c (nn rfl)).trans (up_c (nn rfl)))) ?_
            refine q_iconst rfl ?_
            refine v_iadd (v := c 42 1 + 1) rfl rfl ?_
            refine v_nrm (fun y_69 hy_69 => ?_)
            refine v_is rfl rfl (by decide) (by decide) (by decide) ?_
            refine q_aload_n rfl rfl ?_
            refine v_gi (z := 0) (v := 1) rfl rfl rfl (by decide) rfl rfl ((up_c (nn rfl)).trans (up_e rfl)) ?_
            refine v_if_ne_t (t := 37) rfl (by decide) (by decide) ?_
            refine q_iconst rfl ?_
            refine v_zret rfl rfl (by decide) ?_
            refine bk_inl ?_
            refine v_if_ne_f (t := 100) rfl (by decide) (by decide) ?_
            refine q_iconst rfl ?_
            refine q_iret rfl rfl ?_
            refine bk_inl ?_
            refine q_istore rfl (by decide) ?_
            refine q_aload_n rfl rfl ?_
            refine v_cv rfl rfl rfl rfl (by decide) ⟨⟨rfl, rfl⟩, by decide, rfl⟩ (Nat.le_of_ble_eq_true rfl) (Nat.le_of_ble_eq_true rfl) ?_
            refine q_aload_n rfl rfl ?_
            refine v_gi (z := 0) (v := 1) rfl rfl rfl (by decide) rfl rfl ((up_c (nn rfl)).trans (up_e rfl)) ?_
            refine q_iret rfl rfl ?_
            refine bk_inl ?_
            refine q_iload rfl rfl ?_
            refine v_ic_eq_t (t := 755) rfl (by decide) (by decide) ?_
            refine q_iload rfl rfl ?_
            refine v_if_ne_t (t := 772) rfl (by decide) (by decide) ?_
            refine q_goto (t := 1844) rfl (by decide) ?_
            have hI_70 := iw_0_13 (v := y_67) hI ⟨hy_67.1, hy_67.2⟩
            have hI_71 := iw_41_0 (v := 0) hI_70 ⟨by decide, by decide⟩
            have hI_72 := iw_41_0 (v := 1) hI_71 ⟨by decide, by decide⟩
            have hI_73 := iw_42 (j := 1) (v := y_69) hI_72 ⟨hy_69.1, hy_69.2⟩
            refine Wp_ls [(4, vi (i0 : Int)), (3, .ref 67), (2, .ref 41), (1, .ref 0), (0, .ref a_SC)] (lsub_cons rfl (lsub_cons rfl (lsub_cons rfl (lsub_cons rfl (lsub_cons rfl lsub_nil))))) ?_
            have h_74 := ir_1_3 hI
            have h_75 : (up (up (up (up c 0 13 y_67) 41 0 0) 41 0 1) 42 1 y_69) 1 3 = c 1 3 := ((up_c (nn rfl)).trans ((up_c (nn rfl)).trans ((up_c (nn rfl)).trans (up_c (nn rfl)))))
            have h_76 := ir_41_2 hI
            have h_77 : (up (up (up (up c 0 13 y_67) 41 0 0) 41 0 1) 42 1 y_69) 41 2 = c 41 2 := ((up_c (nn rfl)).trans ((up_n (by decide)).trans ((up_n (by decide)).trans (up_c (nn rfl)))))
            have h_78 : (up (up (up (up c 0 13 y_67) 41 0 0) 41 0 1) 42 1 y_69) (P + 7) 4 = nl := ((up_c (np hP rfl rfl)).trans ((up_c (np hP rfl rfl)).trans ((up_c (np hP rfl rfl)).trans ((up_c (np hP rfl rfl)).trans (hnl)))))
            have h_79 : (up (up (up (up c 0 13 y_67) 41 0 0) 41 0 1) 42 1 y_69) 41 30 = nl := ((up_c (nn rfl)).trans ((up_n (by decide)).trans ((up_n (by decide)).trans ((up_c (nn rfl)).trans (hml)))))
            have hA_80 : Ce nl ((up (up (up (up c 0 13 y_67) 41 0 0) 41 0 1) 42 1 y_69) (P + 8)) ((up (up (up (up c 0 13 y_67) 41 0 0) 41 0 1) 42 1 y_69) 52) ((up (up (up (up c 0 13 y_67) 41 0 0) 41 0 1) 42 1 y_69) 53) := ce_fr hCe (fun j => (up_c (np hP rfl rfl)).trans ((up_c (np hP rfl rfl)).trans ((up_c (np hP rfl rfl)).trans (up_c (np hP rfl rfl))))) (fun j => (up_c (nn rfl)).trans ((up_c (nn rfl)).trans ((up_c (nn rfl)).trans (up_c (nn rfl))))) (fun j => (up_c (nn rfl)).trans ((up_c (nn rfl)).trans ((up_c (nn rfl)).trans (up_c (nn rfl)))))
            exact K P Q (up (up (up (up c 0 13 y_67) 41 0 0) 41 0 1) 42 1 y_69) 1 (by decide) hI_73 ⟨by omega, ub_fr hU (fun j => (up_c (nn rfl)).trans ((up_c (nn rfl)).trans ((up_c (nn rfl)).trans (up_c (nn rfl))))) (fun j => (up_c (nn rfl)).trans ((up_c (nn rfl)).trans ((up_c (nn rfl)).trans (up_c (nn rfl))))), ⟨by omega, ce_le hA_80 (by omega)⟩⟩
          · refine v_ic_lt_f (t := 14) rfl (by decide) ⟨by decide, (Int.not_lt.mp h_65), by omega⟩ ?_
            refine q_iload_n rfl rfl ?_
            refine q_iload_n rfl rfl ?_
            by_cases h_81 : x3 > 9999
            · refine v_ic_gt_t (t := 14) rfl (by decide) ⟨by decide, h_81, by omega⟩ ?_
              refine q_iconst rfl ?_
              refine v_zret rfl rfl (by decide) ?_
              refine bk_inl ?_
              refine v_if_eq_t (t := 84) rfl (by decide) (by decide) ?_
              refine q_iconst rfl ?_
              refine v_cv rfl rfl rfl rfl (by decide) ⟨⟨rfl, rfl⟩, by decide, rfl⟩ (Nat.le_of_ble_eq_true rfl) (Nat.le_of_ble_eq_true rfl) ?_
              refine q_iload_n rfl rfl ?_
              refine v_if_ne_f (t := 25) rfl (by decide) (by decide) ?_
              refine q_aload_n rfl rfl ?_
              refine q_dup rfl rfl ?_
              have h_82 := ir_0_13 hI
              refine v_gi (z := 13) (v := c 0 13) rfl rfl rfl (by decide) rfl rfl rfl ?_
              refine q_iconst rfl ?_
              refine v_iadd (v := c 0 13 + 1) rfl rfl ?_
              refine v_nrm (fun y_83 hy_83 => ?_)
              refine v_pi (z := 13) rfl rfl rfl (by decide) rfl rfl rfl (by decide) ?_
              refine v_new rfl rfl (by decide) (by omega) (Nat.le_of_ble_eq_true rfl) (by decide) rfl ?_
              refine bk_out rfl rfl ?_
              refine bk_thr (z := Int32.ofInt 1) rfl ⟨_, _, rfl⟩ rfl ?_
              refine bk_inl ?_
              refine q_istore rfl (by decide) ?_
              refine q_aload_n rfl rfl ?_
              refine q_aload_n rfl rfl ?_
              refine q_iload rfl rfl ?_
              refine q_iconst rfl ?_
              refine v_iadd (v := (i0 : Int) + 1) rfl rfl ?_
              refine v_scr (j := i0 + 1) rfl (by omega) (by omega) hL hx1 ?_
              refine q_aload_n rfl rfl ?_
              refine q_iload rfl rfl ?_
              refine q_iconst rfl ?_
              refine v_iadd (v := (i0 : Int) + 2) rfl rfl ?_
              refine v_scr (j := i0 + 2) rfl (by omega) (by omega) hL hx2 ?_
              refine q_aload_n rfl rfl ?_
              refine q_iload rfl rfl ?_
              refine q_iconst rfl ?_
              refine v_iadd (v := (i0 : Int) + 3) rfl rfl ?_
              refine v_scr (j := i0 + 3) rfl (by omega) (by omega) hL hx3 ?_
              refine q_aload_n rfl rfl ?_
              refine q_iload rfl rfl ?_
              refine q_iconst rfl ?_
              refine v_iadd (v := (i0 : Int) + 4) rfl rfl ?_
              refine v_scr (j := i0 + 4) rfl (by omega) (by omega) hL hx4 ?_
              refine q_aload_n rfl rfl ?_
              refine q_iload rfl rfl ?_
              refine q_iconst rfl ?_
              refine v_iadd (v := (i0 : Int) + 5) rfl rfl ?_
              refine v_scr (j := i0 + 5) rfl (by omega) (by omega) hL hx5 ?_
              refine q_aload_n rfl rfl ?_
              refine q_iload rfl rfl ?_
              refine v_bip rfl (by decide) ?_
              refine v_iadd (v := (i0 : Int) + 6) rfl rfl ?_
              refine v_scr (j := i0 + 6) rfl (by omega) (by omega) hL hx6 ?_
              refine q_aload_n rfl rfl ?_
              refine q_iload rfl rfl ?_
              refine v_bip rfl (by decide) ?_
              refine v_iadd (v := (i0 : Int) + 7) rfl rfl ?_
              refine v_scr (j := i0 + 7) rfl (by omega) (by omega) hL hx7 ?_
              refine v_cv rfl rfl rfl rfl (by decide) ⟨⟨rfl, rfl⟩, by decide, rfl⟩ (Nat.le_of_ble_eq_true rfl) (Nat.le_of_ble_eq_true rfl) ?_
              refine q_aload_n rfl rfl ?_
              refine q_iconst rfl ?_
              refine v_pi (z := 0) rfl rfl rfl (by decide) rfl rfl rfl (by decide) ?_
              refine q_aload_n rfl rfl ?_
              refine q_iload_n rfl rfl ?_
              refine q_iconst rfl ?_
              refine v_sip rfl (by decide) ?_
              refine q_call rfl rfl rfl rfl ?_
              refine q_iload_n rfl rfl ?_
              refine q_iload_n rfl rfl ?_
              refine v_ic_lt_f (t := 14) rfl (by decide) (by omega) ?_
              refine q_iload_n rfl rfl ?_
              refine q_iload_n rfl rfl ?_
              refine v_ic_gt_f (t := 14) rfl (by decide) (by omega) ?_
              refine q_iconst rfl ?_
              refine q_goto (t := 15) rfl (by decide) ?_
              refine v_zret rfl rfl (by decide) ?_
              refine bk_inl ?_
              refine v_if_eq_f (t := 89) rfl (by decide) (by decide) ?_
              refine q_iload_n rfl rfl ?_
              refine q_iconst rfl ?_
              refine v_sip rfl (by decide) ?_
              refine q_call rfl rfl rfl rfl ?_
              refine q_iload_n rfl rfl ?_
              refine q_iload_n rfl rfl ?_
              refine v_ic_lt_f (t := 14) rfl (by decide) (by omega) ?_
              refine q_iload_n rfl rfl ?_
              refine q_iload_n rfl rfl ?_
              refine v_ic_gt_f (t := 14) rfl (by decide) (by omega) ?_
              refine q_iconst rfl ?_
              refine q_goto (t := 15) rfl (by decide) ?_
              refine v_zret rfl rfl (by decide) ?_
              refine bk_inl ?_
              refine v_if_eq_f (t := 89) rfl (by decide) (by decide) ?_
              refine q_iload_n rfl rfl ?_
              refine q_iconst rfl ?_
              refine v_sip rfl (by decide) ?_
              refine q_call rfl rfl rfl rfl ?_
              refine q_iload_n rfl rfl ?_
              refine q_iload_n rfl rfl ?_
              refine v_ic_lt_f (t := 14) rfl (by decide) (by omega) ?_
              refine q_iload_n rfl rfl ?_
              refine q_iload_n rfl rfl ?_
              refine v_ic_gt_t (t := 14) rfl (by decide) (by omega) ?_
              refine q_iconst rfl ?_
              refine v_zret rfl rfl (by decide) ?_
              refine bk_inl ?_
              refine v_if_eq_t (t := 89) rfl (by decide) (by decide) ?_
              refine q_iconst rfl ?_
              refine q_iconst rfl ?_
              refine q_iconst rfl ?_
              refine v_cv rfl rfl rfl rfl (by decide) ⟨⟨rfl, rfl⟩, by decide, rfl⟩ (Nat.le_of_ble_eq_true rfl) (Nat.le_of_ble_eq_true rfl) ?_
              refine q_iload_n rfl rfl ?_
              refine v_if_ne_f (t := 26) rfl (by decide) (by decide) ?_
              refine q_aload_n rfl rfl ?_
              refine v_gi (z := 0) (v := 0) rfl rfl rfl (by decide) rfl rfl (up_e rfl) ?_
              refine v_if_ne_f (t := 26) rfl (by decide) (by decide) ?_
              refine q_aload_n rfl rfl ?_
              refine q_iload_n rfl rfl ?_
              refine v_pi (z := 0) rfl rfl rfl (by decide) rfl rfl rfl (by decide) ?_
              refine q_aload_n rfl rfl ?_
              refine v_gr (t := 42) rfl rfl rfl (by decide) rfl ?_
              refine q_iload_n rfl rfl ?_
              refine q_dup2 rfl ⟨rfl, rfl⟩ ?_
              have h_84 := ir_42 hI 1
              refine v_ia (v := c 42 1) rfl rfl (by decide) (by decide) (by decide) ((up_c (nn rfl)).trans ((up_c (nn rfl)).trans (up_c (nn rfl)))) ?_
              refine q_iconst rfl ?_
              refine v_iadd (v := c 42 1 + 1) rfl rfl ?_
              refine v_nrm (fun y_85 hy_85 => ?_)
              refine v_is rfl rfl (by decide) (by decide) (by decide) ?_
              refine q_aload_n rfl rfl ?_
              refine v_gi (z := 0) (v := 1) rfl rfl rfl (by decide) rfl rfl ((up_c (nn rfl)).trans (up_e rfl)) ?_
              refine v_if_ne_t (t := 37) rfl (by decide) (by decide) ?_
              refine q_iconst rfl ?_
              refine v_zret rfl rfl (by decide) ?_
              refine bk_inl ?_
              refine v_if_ne_f (t := 100) rfl (by decide) (by decide) ?_
              refine q_iconst rfl ?_
              refine q_iret rfl rfl ?_
              refine bk_inl ?_
              refine q_istore rfl (by decide) ?_
              refine q_aload_n rfl rfl ?_
              refine v_cv rfl rfl rfl rfl (by decide) ⟨⟨rfl, rfl⟩, by decide, rfl⟩ (Nat.le_of_ble_eq_true rfl) (Nat.le_of_ble_eq_true rfl) ?_
              refine q_aload_n rfl rfl ?_
              refine v_gi (z := 0) (v := 1) rfl rfl rfl (by decide) rfl rfl ((up_c (nn rfl)).trans (up_e rfl)) ?_
              refine q_iret rfl rfl ?_
              refine bk_inl ?_
              refine q_iload rfl rfl ?_
              refine v_ic_eq_t (t := 755) rfl (by decide) (by decide) ?_
              refine q_iload rfl rfl ?_
              refine v_if_ne_t (t := 772) rfl (by decide) (by decide) ?_
              refine q_goto (t := 1844) rfl (by decide) ?_
              have hI_86 := iw_0_13 (v := y_83) hI ⟨hy_83.1, hy_83.2⟩
              have hI_87 := iw_41_0 (v := 0) hI_86 ⟨by decide, by decide⟩
              have hI_88 := iw_41_0 (v := 1) hI_87 ⟨by decide, by decide⟩
              have hI_89 := iw_42 (j := 1) (v := y_85) hI_88 ⟨hy_85.1, hy_85.2⟩
              refine Wp_ls [(4, vi (i0 : Int)), (3, .ref 67), (2, .ref 41), (1, .ref 0), (0, .ref a_SC)] (lsub_cons rfl (lsub_cons rfl (lsub_cons rfl (lsub_cons rfl (lsub_cons rfl lsub_nil))))) ?_
              have h_90 := ir_1_3 hI
              have h_91 : (up (up (up (up c 0 13 y_83) 41 0 0) 41 0 1) 42 1 y_85) 1 3 = c 1 3 := ((up_c (nn rfl)).trans ((up_c (nn rfl)).trans ((up_c (nn rfl)).trans (up_c (nn rfl)))))
              have h_92 := ir_41_2 hI
              have h_93 : (up (up (up (up c 0 13 y_83) 41 0 0) 41 0 1) 42 1 y_85) 41 2 = c 41 2 := ((up_c (nn rfl)).trans ((up_n (by decide)).trans ((up_n (by decide)).trans (up_c (nn rfl)))))
              have h_94 : (up (up (up (up c 0 13 y_83) 41 0 0) 41 0 1) 42 1 y_85) (P + 7) 4 = nl := ((up_c (np hP rfl rfl)).trans ((up_c (np hP rfl rfl)).trans ((up_c (np hP rfl rfl)).trans ((up_c (np hP rfl rfl)).trans (hnl)))))
              have h_95 : (up (up (up (up c 0 13 y_83) 41 0 0) 41 0 1) 42 1 y_85) 41 30 = nl := ((up_c (nn rfl)).trans ((up_n (by decide)).trans ((up_n (by decide)).trans ((up_c (nn rfl)).trans (hml)))))
              have hA_96 : Ce nl ((up (up (up (up c 0 13 y_83) 41 0 0) 41 0 1) 42 1 y_85) (P + 8)) ((up (up (up (up c 0 13 y_83) 41 0 0) 41 0 1) 42 1 y_85) 52) ((up (up (up (up c 0 13 y_83) 41 0 0) 41 0 1) 42 1 y_85) 53) := ce_fr hCe (fun j => (up_c (np hP rfl rfl)).trans ((up_c (np hP rfl rfl)).trans ((up_c (np hP rfl rfl)).trans (up_c (np hP rfl rfl))))) (fun j => (up_c (nn rfl)).trans ((up_c (nn rfl)).trans ((up_c (nn rfl)).trans (up_c (nn rfl))))) (fun j => (up_c (nn rfl)).trans ((up_c (nn rfl)).trans ((up_c (nn rfl)).trans (up_c (nn rfl)))))
              exact K P Q (up (up (up (up c 0 13 y_83) 41 0 0) 41 0 1) 42 1 y_85) 1 (by decide) hI_89 ⟨by omega, ub_fr hU (fun j => (up_c (nn rfl)).trans ((up_c (nn rfl)).trans ((up_c (nn rfl)).trans (up_c (nn rfl))))) (fun j => (up_c (nn rfl)).trans ((up_c (nn rfl)).trans ((up_c (nn rfl)).trans (up_c (nn rfl))))), ⟨by omega, ce_le hA_96 (by omega)⟩⟩
            · refine v_ic_gt_f (t := 14) rfl (by decide) ⟨by omega, (Int.not_lt.mp h_81), by decide⟩ ?_
              refine q_iconst rfl ?_
              refine q_goto (t := 15) rfl (by decide) ?_
              refine v_zret rfl rfl (by decide) ?_
              refine bk_inl ?_
              refine v_if_eq_f (t := 84) rfl (by decide) (by decide) ?_
              refine q_iload rfl rfl ?_
              refine q_iconst rfl ?_
              refine v_sip rfl (by decide) ?_
              refine q_call rfl rfl rfl rfl ?_
              refine q_iload_n rfl rfl ?_
              refine q_iload_n rfl rfl ?_
              by_cases h_97 : x4 < 0
              · refine v_ic_lt_t (t := 14) rfl (by decide) ⟨by omega, h_97, by decide⟩ ?_
                refine q_iconst rfl ?_
                refine v_zret rfl rfl (by decide) ?_
                refine bk_inl ?_
                refine v_if_eq_t (t := 84) rfl (by decide) (by decide) ?_
                refine q_iconst rfl ?_
                refine v_cv rfl rfl rfl rfl (by decide) ⟨⟨rfl, rfl⟩, by decide, rfl⟩ (Nat.le_of_ble_eq_true rfl) (Nat.le_of_ble_eq_true rfl) ?_
                refine q_iload_n rfl rfl ?_
                refine v_if_ne_f (t := 25) rfl (by decide) (by decide) ?_
                refine q_aload_n rfl rfl ?_
                refine q_dup rfl rfl ?_
                have h_98 := ir_0_13 hI
                refine v_gi (z := 13) (v := c 0 13) rfl rfl rfl (by decide) rfl rfl rfl ?_
                refine q_iconst rfl ?_
                refine v_iadd (v := c 0 13 + 1) rfl rfl ?_
                refine v_nrm (fun y_99 hy_99 => ?_)
                refine v_pi (z := 13) rfl rfl rfl (by decide) rfl rfl rfl (by decide) ?_
                refine v_new rfl rfl (by decide) (by omega) (Nat.le_of_ble_eq_true rfl) (by decide) rfl ?_
                refine bk_out rfl rfl ?_
                refine bk_thr (z := Int32.ofInt 1) rfl ⟨_, _, rfl⟩ rfl ?_
                refine bk_inl ?_
                refine q_istore rfl (by decide) ?_
                refine q_aload_n rfl rfl ?_
                refine q_aload_n rfl rfl ?_
                refine q_iload rfl rfl ?_
                refine q_iconst rfl ?_
                refine v_iadd (v := (i0 : Int) + 1) rfl rfl ?_
                refine v_scr (j := i0 + 1) rfl (by omega) (by omega) hL hx1 ?_
                refine q_aload_n rfl rfl ?_
                refine q_iload rfl rfl ?_
                refine q_iconst rfl ?_
                refine v_iadd (v := (i0 : Int) + 2) rfl rfl ?_
                refine v_scr (j := i0 + 2) rfl (by omega) (by omega) hL hx2 ?_
                refine q_aload_n rfl rfl ?_
                refine q_iload rfl rfl ?_
                refine q_iconst rfl ?_
                refine v_iadd (v := (i0 : Int) + 3) rfl rfl ?_
                refine v_scr (j := i0 + 3) rfl (by omega) (by omega) hL hx3 ?_
                refine q_aload_n rfl rfl ?_
                refine q_iload rfl rfl ?_
                refine q_iconst rfl ?_
                refine v_iadd (v := (i0 : Int) + 4) rfl rfl ?_
                refine v_scr (j := i0 + 4) rfl (by omega) (by omega) hL hx4 ?_
                refine q_aload_n rfl rfl ?_
                refine q_iload rfl rfl ?_
                refine q_iconst rfl ?_
                refine v_iadd (v := (i0 : Int) + 5) rfl rfl ?_
                refine v_scr (j := i0 + 5) rfl (by omega) (by omega) hL hx5 ?_
                refine q_aload_n rfl rfl ?_
                refine q_iload rfl rfl ?_
                refine v_bip rfl (by decide) ?_
                refine v_iadd (v := (i0 : Int) + 6) rfl rfl ?_
                refine v_scr (j := i0 + 6) rfl (by omega) (by omega) hL hx6 ?_
                refine q_aload_n rfl rfl ?_
                refine q_iload rfl rfl ?_
                refine v_bip rfl (by decide) ?_
                refine v_iadd (v := (i0 : Int) + 7) rfl rfl ?_
                refine v_scr (j := i0 + 7) rfl (by omega) (by omega) hL hx7 ?_
                refine v_cv rfl rfl rfl rfl (by decide) ⟨⟨rfl, rfl⟩, by decide, rfl⟩ (Nat.le_of_ble_eq_true rfl) (Nat.le_of_ble_eq_true rfl) ?_
                refine q_aload_n rfl rfl ?_
                refine q_iconst rfl ?_
                refine v_pi (z := 0) rfl rfl rfl (by decide) rfl rfl rfl (by decide) ?_
                refine q_aload_n rfl rfl ?_
                refine q_iload_n rfl rfl ?_
                refine q_iconst rfl ?_
                refine v_sip rfl (by decide) ?_
                refine q_call rfl rfl rfl rfl ?_
                refine q_iload_n rfl rfl ?_
                refine q_iload_n rfl rfl ?_
                refine v_ic_lt_f (t := 14) rfl (by decide) (by omega) ?_
                refine q_iload_n rfl rfl ?_
                refine q_iload_n rfl rfl ?_
                refine v_ic_gt_f (t := 14) rfl (by decide) (by omega) ?_
                refine q_iconst rfl ?_
                refine q_goto (t := 15) rfl (by decide) ?_
                refine v_zret rfl rfl (by decide) ?_
                refine bk_inl ?_
                refine v_if_eq_f (t := 89) rfl (by decide) (by decide) ?_
                refine q_iload_n rfl rfl ?_
                refine q_iconst rfl ?_
                refine v_sip rfl (by decide) ?_
                refine q_call rfl rfl rfl rfl ?_
                refine q_iload_n rfl rfl ?_
                refine q_iload_n rfl rfl ?_
                refine v_ic_lt_f (t := 14) rfl (by decide) (by omega) ?_
                refine q_iload_n rfl rfl ?_
                refine q_iload_n rfl rfl ?_
                refine v_ic_gt_f (t := 14) rfl (by decide) (by omega) ?_
                refine q_iconst rfl ?_
                refine q_goto (t := 15) rfl (by decide) ?_
                refine v_zret rfl rfl (by decide) ?_
                refine bk_inl ?_
                refine v_if_eq_f (t := 89) rfl (by decide) (by decide) ?_
                refine q_iload_n rfl rfl ?_
                refine q_iconst rfl ?_
                refine v_sip rfl (by decide) ?_
                refine q_call rfl rfl rfl rfl ?_
                refine q_iload_n rfl rfl ?_
                refine q_iload_n rfl rfl ?_
                refine v_ic_lt_f (t := 14) rfl (by decide) (by omega) ?_
                refine q_iload_n rfl rfl ?_
                refine q_iload_n rfl rfl ?_
                refine v_ic_gt_f (t := 14) rfl (by decide) (by omega) ?_
                refine q_iconst rfl ?_
                refine q_goto (t := 15) rfl (by decide) ?_
                refine v_zret rfl rfl (by decide) ?_
                refine bk_inl ?_
                refine v_if_eq_f (t := 89) rfl (by decide) (by decide) ?_
                refine q_iload rfl rfl ?_
                refine q_iconst rfl ?_
                refine v_sip rfl (by decide) ?_
                refine q_call rfl rfl rfl rfl ?_
                refine q_iload_n rfl rfl ?_
                refine q_iload_n rfl rfl ?_
                refine v_ic_lt_t (t := 14) rfl (by decide) (by omega) ?_
                refine q_iconst rfl ?_
                refine v_zret rfl rfl (by decide) ?_
                refine bk_inl ?_
                refine v_if_eq_t (t := 89) rfl (by decide) (by decide) ?_
                refine q_iconst rfl ?_
                refine q_iconst rfl ?_
                refine q_iconst rfl ?_
                refine v_cv rfl rfl rfl rfl (by decide) ⟨⟨rfl, rfl⟩, by decide, rfl⟩ (Nat.le_of_ble_eq_true rfl) (Nat.le_of_ble_eq_true rfl) ?_
                refine q_iload_n rfl rfl ?_
                refine v_if_ne_f (t := 26) rfl (by decide) (by decide) ?_
                refine q_aload_n rfl rfl ?_
                refine v_gi (z := 0) (v := 0) rfl rfl rfl (by decide) rfl rfl (up_e rfl) ?_
                refine v_if_ne_f (t := 26) rfl (by decide) (by decide) ?_
                refine q_aload_n rfl rfl ?_
                refine q_iload_n rfl rfl ?_
                refine v_pi (z := 0) rfl rfl rfl (by decide) rfl rfl rfl (by decide) ?_
                refine q_aload_n rfl rfl ?_
                refine v_gr (t := 42) rfl rfl rfl (by decide) rfl ?_
                refine q_iload_n rfl rfl ?_
                refine q_dup2 rfl ⟨rfl, rfl⟩ ?_
                have h_100 := ir_42 hI 1
                refine v_ia (v := c 42 1) rfl rfl (by decide) (by decide) (by decide) ((up_c (nn rfl)).trans ((up_c (nn rfl)).trans (up_c (nn rfl)))) ?_
                refine q_iconst rfl ?_
                refine v_iadd (v := c 42 1 + 1) rfl rfl ?_
                refine v_nrm (fun y_101 hy_101 => ?_)
                refine v_is rfl rfl (by decide) (by decide) (by decide) ?_
                refine q_aload_n rfl rfl ?_
                refine v_gi (z := 0) (v := 1) rfl rfl rfl (by decide) rfl rfl ((up_c (nn rfl)).trans (up_e rfl)) ?_
                refine v_if_ne_t (t := 37) rfl (by decide) (by decide) ?_
                refine q_iconst rfl ?_
                refine v_zret rfl rfl (by decide) ?_
                refine bk_inl ?_
                refine v_if_ne_f (t := 100) rfl (by decide) (by decide) ?_
                refine q_iconst rfl ?_
                refine q_iret rfl rfl ?_
                refine bk_inl ?_
                refine q_istore rfl (by decide) ?_
                refine q_aload_n rfl rfl ?_
                refine v_cv rfl rfl rfl rfl (by decide) ⟨⟨rfl, rfl⟩, by decide, rfl⟩ (Nat.le_of_ble_eq_true rfl) (Nat.le_of_ble_eq_true rfl) ?_
                refine q_aload_n rfl rfl ?_
                refine v_gi (z := 0) (v := 1) rfl rfl rfl (by decide) rfl rfl ((up_c (nn rfl)).trans (up_e rfl)) ?_
                refine q_iret rfl rfl ?_
                refine bk_inl ?_
                refine q_iload rfl rfl ?_
                refine v_ic_eq_t (t := 755) rfl (by decide) (by decide) ?_
                refine q_iload rfl rfl ?_
                refine v_if_ne_t (t := 772) rfl (by decide) (by decide) ?_
                refine q_goto (t := 1844) rfl (by decide) ?_
                have hI_102 := iw_0_13 (v := y_99) hI ⟨hy_99.1, hy_99.2⟩
                have hI_103 := iw_41_0 (v := 0) hI_102 ⟨by decide, by decide⟩
                have hI_104 := iw_41_0 (v := 1) hI_103 ⟨by decide, by decide⟩
                have hI_105 := iw_42 (j := 1) (v := y_101) hI_104 ⟨hy_101.1, hy_101.2⟩
                refine Wp_ls [(4, vi (i0 : Int)), (3, .ref 67), (2, .ref 41), (1, .ref 0), (0, .ref a_SC)] (lsub_cons rfl (lsub_cons rfl (lsub_cons rfl (lsub_cons rfl (lsub_cons rfl lsub_nil))))) ?_
                have h_106 := ir_1_3 hI
                have h_107 : (up (up (up (up c 0 13 y_99) 41 0 0) 41 0 1) 42 1 y_101) 1 3 = c 1 3 := ((up_c (nn rfl)).trans ((up_c (nn rfl)).trans ((up_c (nn rfl)).trans (up_c (nn rfl)))))
                have h_108 := ir_41_2 hI
                have h_109 : (up (up (up (up c 0 13 y_99) 41 0 0) 41 0 1) 42 1 y_101) 41 2 = c 41 2 := ((up_c (nn rfl)).trans ((up_n (by decide)).trans ((up_n (by decide)).trans (up_c (nn rfl)))))
                have h_110 : (up (up (up (up c 0 13 y_99) 41 0 0) 41 0 1) 42 1 y_101) (P + 7) 4 = nl := ((up_c (np hP rfl rfl)).trans ((up_c (np hP rfl rfl)).trans ((up_c (np hP rfl rfl)).trans ((up_c (np hP rfl rfl)).trans (hnl)))))
                have h_111 : (up (up (up (up c 0 13 y_99) 41 0 0) 41 0 1) 42 1 y_101) 41 30 = nl := ((up_c (nn rfl)).trans ((up_n (by decide)).trans ((up_n (by decide)).trans ((up_c (nn rfl)).trans (hml)))))
                have hA_112 : Ce nl ((up (up (up (up c 0 13 y_99) 41 0 0) 41 0 1) 42 1 y_101) (P + 8)) ((up (up (up (up c 0 13 y_99) 41 0 0) 41 0 1) 42 1 y_101) 52) ((up (up (up (up c 0 13 y_99) 41 0 0) 41 0 1) 42 1 y_101) 53) := ce_fr hCe (fun j => (up_c (np hP rfl rfl)).trans ((up_c (np hP rfl rfl)).trans ((up_c (np hP rfl rfl)).trans (up_c (np hP rfl rfl))))) (fun j => (up_c (nn rfl)).trans ((up_c (nn rfl)).trans ((up_c (nn rfl)).trans (up_c (nn rfl))))) (fun j => (up_c (nn rfl)).trans ((up_c (nn rfl)).trans ((up_c (nn rfl)).trans (up_c (nn rfl)))))
                exact K P Q (up (up (up (up c 0 13 y_99) 41 0 0) 41 0 1) 42 1 y_101) 1 (by decide) hI_105 ⟨by omega, ub_fr hU (fun j => (up_c (nn rfl)).trans ((up_c (nn rfl)).trans ((up_c (nn rfl)).trans (up_c (nn rfl))))) (fun j => (up_c (nn rfl)).trans ((up_c (nn rfl)).trans ((up_c (nn rfl)).trans (up_c (nn rfl))))), ⟨by omega, ce_le hA_112 (by omega)⟩⟩
              · refine v_ic_lt_f (t := 14) rfl (by decide) ⟨by decide, (Int.not_lt.mp h_97), by omega⟩ ?_
                refine q_iload_n rfl rfl ?_
                refine q_iload_n rfl rfl ?_
                by_cases h_113 : x4 > 9999
                · refine v_ic_gt_t (t := 14) rfl (by decide) ⟨by decide, h_113, by omega⟩ ?_
                  refine q_iconst rfl ?_
                  refine v_zret rfl rfl (by decide) ?_
                  refine bk_inl ?_
                  refine v_if_eq_t (t := 84) rfl (by decide) (by decide) ?_
                  refine q_iconst rfl ?_
                  refine v_cv rfl rfl rfl rfl (by decide) ⟨⟨rfl, rfl⟩, by decide, rfl⟩ (Nat.le_of_ble_eq_true rfl) (Nat.le_of_ble_eq_true rfl) ?_
                  refine q_iload_n rfl rfl ?_
                  refine v_if_ne_f (t := 25) rfl (by decide) (by decide) ?_
                  refine q_aload_n rfl rfl ?_
                  refine q_dup rfl rfl ?_
                  have h_114 := ir_0_13 hI
                  refine v_gi (z := 13) (v := c 0 13) rfl rfl rfl (by decide) rfl rfl rfl ?_
                  refine q_iconst rfl ?_
                  refine v_iadd (v := c 0 13 + 1) rfl rfl ?_
                  refine v_nrm (fun y_115 hy_115 => ?_)
                  refine v_pi (z := 13) rfl rfl rfl (by decide) rfl rfl rfl (by decide) ?_
                  refine v_new rfl rfl (by decide) (by omega) (Nat.le_of_ble_eq_true rfl) (by decide) rfl ?_
                  refine bk_out rfl rfl ?_
                  refine bk_thr (z := Int32.ofInt 1) rfl ⟨_, _, rfl⟩ rfl ?_
                  refine bk_inl ?_
                  refine q_istore rfl (by decide) ?_
                  refine q_aload_n rfl rfl ?_
                  refine q_aload_n rfl rfl ?_
                  refine q_iload rfl rfl ?_
                  refine q_iconst rfl ?_
                  refine v_iadd (v := (i0 : Int) + 1) rfl rfl ?_
                  refine v_scr (j := i0 + 1) rfl (by omega) (by omega) hL hx1 ?_
                  refine q_aload_n rfl rfl ?_
                  refine q_iload rfl rfl ?_
                  refine q_iconst rfl ?_
                  refine v_iadd (v := (i0 : Int) + 2) rfl rfl ?_
                  refine v_scr (j := i0 + 2) rfl (by omega) (by omega) hL hx2 ?_
                  refine q_aload_n rfl rfl ?_
                  refine q_iload rfl rfl ?_
                  refine q_iconst rfl ?_
                  refine v_iadd (v := (i0 : Int) + 3) rfl rfl ?_
                  refine v_scr (j := i0 + 3) rfl (by omega) (by omega) hL hx3 ?_
                  refine q_aload_n rfl rfl ?_
                  refine q_iload rfl rfl ?_
                  refine q_iconst rfl ?_
                  refine v_iadd (v := (i0 : Int) + 4) rfl rfl ?_
                  refine v_scr (j := i0 + 4) rfl (by omega) (by omega) hL hx4 ?_
                  refine q_aload_n rfl rfl ?_
                  refine q_iload rfl rfl ?_
                  refine q_iconst rfl ?_
                  refine v_iadd (v := (i0 : Int) + 5) rfl rfl ?_
                  refine v_scr (j := i0 + 5) rfl (by omega) (by omega) hL hx5 ?_
                  refine q_aload_n rfl rfl ?_
                  refine q_iload rfl rfl ?_
                  refine v_bip rfl (by decide) ?_
                  refine v_iadd (v := (i0 : Int) + 6) rfl rfl ?_
                  refine v_scr (j := i0 + 6) rfl (by omega) (by omega) hL hx6 ?_
                  refine q_aload_n rfl rfl ?_
                  refine q_iload rfl rfl ?_
                  refine v_bip rfl (by decide) ?_
                  refine v_iadd (v := (i0 : Int) + 7) rfl rfl ?_
                  refine v_scr (j := i0 + 7) rfl (by omega) (by omega) hL hx7 ?_
                  refine v_cv rfl rfl rfl rfl (by decide) ⟨⟨rfl, rfl⟩, by decide, rfl⟩ (Nat.le_of_ble_eq_true rfl) (Nat.le_of_ble_eq_true rfl) ?_
                  refine q_aload_n rfl rfl ?_
                  refine q_iconst rfl ?_
                  refine v_pi (z := 0) rfl rfl rfl (by decide) rfl rfl rfl (by decide) ?_
                  refine q_aload_n rfl rfl ?_
                  refine q_iload_n rfl rfl ?_
                  refine q_iconst rfl ?_
                  refine v_sip rfl (by decide) ?_
                  refine q_call rfl rfl rfl rfl ?_
                  refine q_iload_n rfl rfl ?_
                  refine q_iload_n rfl rfl ?_
                  refine v_ic_lt_f (t := 14) rfl (by decide) (by omega) ?_
                  refine q_iload_n rfl rfl ?_
                  refine q_iload_n rfl rfl ?_
                  refine v_ic_gt_f (t := 14) rfl (by decide) (by omega) ?_
                  refine q_iconst rfl ?_
                  refine q_goto (t := 15) rfl (by decide) ?_
                  refine v_zret rfl rfl (by decide) ?_
                  refine bk_inl ?_
                  refine v_if_eq_f (t := 89) rfl (by decide) (by decide) ?_
                  refine q_iload_n rfl rfl ?_
                  refine q_iconst rfl ?_
                  refine v_sip rfl (by decide) ?_
                  refine q_call rfl rfl rfl rfl ?_
                  refine q_iload_n rfl rfl ?_
                  refine q_iload_n rfl rfl ?_
                  refine v_ic_lt_f (t := 14) rfl (by decide) (by omega) ?_
                  refine q_iload_n rfl rfl ?_
                  refine q_iload_n rfl rfl ?_
                  refine v_ic_gt_f (t := 14) rfl (by decide) (by omega) ?_
                  refine q_iconst rfl ?_
                  refine q_goto (t := 15) rfl (by decide) ?_
                  refine v_zret rfl rfl (by decide) ?_
                  refine bk_inl ?_
                  refine v_if_eq_f (t := 89) rfl (by decide) (by decide) ?_
                  refine q_iload_n rfl rfl ?_
                  refine q_iconst rfl ?_
                  refine v_sip rfl (by decide) ?_
                  refine q_call rfl rfl rfl rfl ?_
                  refine q_iload_n rfl rfl ?_
                  refine q_iload_n rfl rfl ?_
                  refine v_ic_lt_f (t := 14) rfl (by decide) (by omega) ?_
                  refine q_iload_n rfl rfl ?_
                  refine q_iload_n rfl rfl ?_
                  refine v_ic_gt_f (t := 14) rfl (by decide) (by omega) ?_
                  refine q_iconst rfl ?_
                  refine q_goto (t := 15) rfl (by decide) ?_
                  refine v_zret rfl rfl (by decide) ?_
                  refine bk_inl ?_
                  refine v_if_eq_f (t := 89) rfl (by decide) (by decide) ?_
                  refine q_iload rfl rfl ?_
                  refine q_iconst rfl ?_
                  refine v_sip rfl (by decide) ?_
                  refine q_call rfl rfl rfl rfl ?_
                  refine q_iload_n rfl rfl ?_
                  refine q_iload_n rfl rfl ?_
                  refine v_ic_lt_f (t := 14) rfl (by decide) (by omega) ?_
                  refine q_iload_n rfl rfl ?_
                  refine q_iload_n rfl rfl ?_
                  refine v_ic_gt_t (t := 14) rfl (by decide) (by omega) ?_
                  refine q_iconst rfl ?_
                  refine v_zret rfl rfl (by decide) ?_
                  refine bk_inl ?_
                  refine v_if_eq_t (t := 89) rfl (by decide) (by decide) ?_
                  refine q_iconst rfl ?_
                  refine q_iconst rfl ?_
                  refine q_iconst rfl ?_
                  refine v_cv rfl rfl rfl rfl (by decide) ⟨⟨rfl, rfl⟩, by decide, rfl⟩ (Nat.le_of_ble_eq_true rfl) (Nat.le_of_ble_eq_true rfl) ?_
                  refine q_iload_n rfl rfl ?_
                  refine v_if_ne_f (t := 26) rfl (by decide) (by decide) ?_
                  refine q_aload_n rfl rfl ?_
                  refine v_gi (z := 0) (v := 0) rfl rfl rfl (by decide) rfl rfl (up_e rfl) ?_
                  refine v_if_ne_f (t := 26) rfl (by decide) (by decide) ?_
                  refine q_aload_n rfl rfl ?_
                  refine q_iload_n rfl rfl ?_
                  refine v_pi (z := 0) rfl rfl rfl (by decide) rfl rfl rfl (by decide) ?_
                  refine q_aload_n rfl rfl ?_
                  refine v_gr (t := 42) rfl rfl rfl (by decide) rfl ?_
                  refine q_iload_n rfl rfl ?_
                  refine q_dup2 rfl ⟨rfl, rfl⟩ ?_
                  have h_116 := ir_42 hI 1
                  refine v_ia (v := c 42 1) rfl rfl (by decide) (by decide) (by decide) ((up_c (nn rfl)).trans ((up_c (nn rfl)).trans (up_c (nn rfl)))) ?_
                  refine q_iconst rfl ?_
                  refine v_iadd (v := c 42 1 + 1) rfl rfl ?_
                  refine v_nrm (fun y_117 hy_117 => ?_)
                  refine v_is rfl rfl (by decide) (by decide) (by decide) ?_
                  refine q_aload_n rfl rfl ?_
                  refine v_gi (z := 0) (v := 1) rfl rfl rfl (by decide) rfl rfl ((up_c (nn rfl)).trans (up_e rfl)) ?_
                  refine v_if_ne_t (t := 37) rfl (by decide) (by decide) ?_
                  refine q_iconst rfl ?_
                  refine v_zret rfl rfl (by decide) ?_
                  refine bk_inl ?_
                  refine v_if_ne_f (t := 100) rfl (by decide) (by decide) ?_
                  refine q_iconst rfl ?_
                  refine q_iret rfl rfl ?_
                  refine bk_inl ?_
                  refine q_istore rfl (by decide) ?_
                  refine q_aload_n rfl rfl ?_
                  refine v_cv rfl rfl rfl rfl (by decide) ⟨⟨rfl, rfl⟩, by decide, rfl⟩ (Nat.le_of_ble_eq_true rfl) (Nat.le_of_ble_eq_true rfl) ?_
                  refine q_aload_n rfl rfl ?_
                  refine v_gi (z := 0) (v := 1) rfl rfl rfl (by decide) rfl rfl ((up_c (nn rfl)).trans (up_e rfl)) ?_
                  refine q_iret rfl rfl ?_
                  refine bk_inl ?_
                  refine q_iload rfl rfl ?_
                  refine v_ic_eq_t (t := 755) rfl (by decide) (by decide) ?_
                  refine q_iload rfl rfl ?_
                  refine v_if_ne_t (t := 772) rfl (by decide) (by decide) ?_
                  refine q_goto (t := 1844) rfl (by decide) ?_
                  have hI_118 := iw_0_13 (v := y_115) hI ⟨hy_115.1, hy_115.2⟩
                  have hI_119 := iw_41_0 (v := 0) hI_118 ⟨by decide, by decide⟩
                  have hI_120 := iw_41_0 (v := 1) hI_119 ⟨by decide, by decide⟩
                  have hI_121 := iw_42 (j := 1) (v := y_117) hI_120 ⟨hy_117.1, hy_117.2⟩
                  refine Wp_ls [(4, vi (i0 : Int)), (3, .ref 67), (2, .ref 41), (1, .ref 0), (0, .ref a_SC)] (lsub_cons rfl (lsub_cons rfl (lsub_cons rfl (lsub_cons rfl (lsub_cons rfl lsub_nil))))) ?_
                  have h_122 := ir_1_3 hI
                  have h_123 : (up (up (up (up c 0 13 y_115) 41 0 0) 41 0 1) 42 1 y_117) 1 3 = c 1 3 := ((up_c (nn rfl)).trans ((up_c (nn rfl)).trans ((up_c (nn rfl)).trans (up_c (nn rfl)))))
                  have h_124 := ir_41_2 hI
                  have h_125 : (up (up (up (up c 0 13 y_115) 41 0 0) 41 0 1) 42 1 y_117) 41 2 = c 41 2 := ((up_c (nn rfl)).trans ((up_n (by decide)).trans ((up_n (by decide)).trans (up_c (nn rfl)))))
                  have h_126 : (up (up (up (up c 0 13 y_115) 41 0 0) 41 0 1) 42 1 y_117) (P + 7) 4 = nl := ((up_c (np hP rfl rfl)).trans ((up_c (np hP rfl rfl)).trans ((up_c (np hP rfl rfl)).trans ((up_c (np hP rfl rfl)).trans (hnl)))))
                  have h_127 : (up (up (up (up c 0 13 y_115) 41 0 0) 41 0 1) 42 1 y_117) 41 30 = nl := ((up_c (nn rfl)).trans ((up_n (by decide)).trans ((up_n (by decide)).trans ((up_c (nn rfl)).trans (hml)))))
                  have hA_128 : Ce nl ((up (up (up (up c 0 13 y_115) 41 0 0) 41 0 1) 42 1 y_117) (P + 8)) ((up (up (up (up c 0 13 y_115) 41 0 0) 41 0 1) 42 1 y_117) 52) ((up (up (up (up c 0 13 y_115) 41 0 0) 41 0 1) 42 1 y_117) 53) := ce_fr hCe (fun j => (up_c (np hP rfl rfl)).trans ((up_c (np hP rfl rfl)).trans ((up_c (np hP rfl rfl)).trans (up_c (np hP rfl rfl))))) (fun j => (up_c (nn rfl)).trans ((up_c (nn rfl)).trans ((up_c (nn rfl)).trans (up_c (nn rfl))))) (fun j => (up_c (nn rfl)).trans ((up_c (nn rfl)).trans ((up_c (nn rfl)).trans (up_c (nn rfl)))))
                  exact K P Q (up (up (up (up c 0 13 y_115) 41 0 0) 41 0 1) 42 1 y_117) 1 (by decide) hI_121 ⟨by omega, ub_fr hU (fun j => (up_c (nn rfl)).trans ((up_c (nn rfl)).trans ((up_c (nn rfl)).trans (up_c (nn rfl))))) (fun j => (up_c (nn rfl)).trans ((up_c (nn rfl)).trans ((up_c (nn rfl)).trans (up_c (nn rfl))))), ⟨by omega, ce_le hA_128 (by omega)⟩⟩
                · refine v_ic_gt_f (t := 14) rfl (by decide) ⟨by omega, (Int.not_lt.mp h_113), by decide⟩ ?_
                  refine q_iconst rfl ?_
                  refine q_goto (t := 15) rfl (by decide) ?_
                  refine v_zret rfl rfl (by decide) ?_
                  refine bk_inl ?_
                  refine v_if_eq_f (t := 84) rfl (by decide) (by decide) ?_
                  refine q_iload rfl rfl ?_
                  refine q_iconst rfl ?_
                  refine v_sip rfl (by decide) ?_
                  refine q_call rfl rfl rfl rfl ?_
                  refine q_iload_n rfl rfl ?_
                  refine q_iload_n rfl rfl ?_
                  by_cases h_129 : x5 < 0
                  · refine v_ic_lt_t (t := 14) rfl (by decide) ⟨by omega, h_129, by decide⟩ ?_
                    refine q_iconst rfl ?_
                    refine v_zret rfl rfl (by decide) ?_
                    refine bk_inl ?_
                    refine v_if_eq_t (t := 84) rfl (by decide) (by decide) ?_
                    refine q_iconst rfl ?_
                    refine v_cv rfl rfl rfl rfl (by decide) ⟨⟨rfl, rfl⟩, by decide, rfl⟩ (Nat.le_of_ble_eq_true rfl) (Nat.le_of_ble_eq_true rfl) ?_
                    refine q_iload_n rfl rfl ?_
                    refine v_if_ne_f (t := 25) rfl (by decide) (by decide) ?_
                    refine q_aload_n rfl rfl ?_
                    refine q_dup rfl rfl ?_
                    have h_130 := ir_0_13 hI
                    refine v_gi (z := 13) (v := c 0 13) rfl rfl rfl (by decide) rfl rfl rfl ?_
                    refine q_iconst rfl ?_
                    refine v_iadd (v := c 0 13 + 1) rfl rfl ?_
                    refine v_nrm (fun y_131 hy_131 => ?_)
                    refine v_pi (z := 13) rfl rfl rfl (by decide) rfl rfl rfl (by decide) ?_
                    refine v_new rfl rfl (by decide) (by omega) (Nat.le_of_ble_eq_true rfl) (by decide) rfl ?_
                    refine bk_out rfl rfl ?_
                    refine bk_thr (z := Int32.ofInt 1) rfl ⟨_, _, rfl⟩ rfl ?_
                    refine bk_inl ?_
                    refine q_istore rfl (by decide) ?_
                    refine q_aload_n rfl rfl ?_
                    refine q_aload_n rfl rfl ?_
                    refine q_iload rfl rfl ?_
                    refine q_iconst rfl ?_
                    refine v_iadd (v := (i0 : Int) + 1) rfl rfl ?_
                    refine v_scr (j := i0 + 1) rfl (by omega) (by omega) hL hx1 ?_
                    refine q_aload_n rfl rfl ?_
                    refine q_iload rfl rfl ?_
                    refine q_iconst rfl ?_
                    refine v_iadd (v := (i0 : Int) + 2) rfl rfl ?_
                    refine v_scr (j := i0 + 2) rfl (by omega) (by omega) hL hx2 ?_
                    refine q_aload_n rfl rfl ?_
                    refine q_iload rfl rfl ?_
                    refine q_iconst rfl ?_
                    refine v_iadd (v := (i0 : Int) + 3) rfl rfl ?_
                    refine v_scr (j := i0 + 3) rfl (by omega) (by omega) hL hx3 ?_
                    refine q_aload_n rfl rfl ?_
                    refine q_iload rfl rfl ?_
                    refine q_iconst rfl ?_
                    refine v_iadd (v := (i0 : Int) + 4) rfl rfl ?_
                    refine v_scr (j := i0 + 4) rfl (by omega) (by omega) hL hx4 ?_
                    refine q_aload_n rfl rfl ?_
                    refine q_iload rfl rfl ?_
                    refine q_iconst rfl ?_
                    refine v_iadd (v := (i0 : Int) + 5) rfl rfl ?_
                    refine v_scr (j := i0 + 5) rfl (by omega) (by omega) hL hx5 ?_
                    refine q_aload_n rfl rfl ?_
                    refine q_iload rfl rfl ?_
                    refine v_bip rfl (by decide) ?_
                    refine v_iadd (v := (i0 : Int) + 6) rfl rfl ?_
                    refine v_scr (j := i0 + 6) rfl (by omega) (by omega) hL hx6 ?_
                    refine q_aload_n rfl rfl ?_
                    refine q_iload rfl rfl ?_
                    refine v_bip rfl (by decide) ?_
                    refine v_iadd (v := (i0 : Int) + 7) rfl rfl ?_
                    refine v_scr (j := i0 + 7) rfl (by omega) (by omega) hL hx7 ?_
                    refine v_cv rfl rfl rfl rfl (by decide) ⟨⟨rfl, rfl⟩, by decide, rfl⟩ (Nat.le_of_ble_eq_true rfl) (Nat.le_of_ble_eq_true rfl) ?_
                    refine q_aload_n rfl rfl ?_
                    refine q_iconst rfl ?_
                    refine v_pi (z := 0) rfl rfl rfl (by decide) rfl rfl rfl (by decide) ?_
                    refine q_aload_n rfl rfl ?_
                    refine q_iload_n rfl rfl ?_
                    refine q_iconst rfl ?_
                    refine v_sip rfl (by decide) ?_
                    refine q_call rfl rfl rfl rfl ?_
                    refine q_iload_n rfl rfl ?_
                    refine q_iload_n rfl rfl ?_
                    refine v_ic_lt_f (t := 14) rfl (by decide) (by omega) ?_
                    refine q_iload_n rfl rfl ?_
                    refine q_iload_n rfl rfl ?_
                    refine v_ic_gt_f (t := 14) rfl (by decide) (by omega) ?_
                    refine q_iconst rfl ?_
                    refine q_goto (t := 15) rfl (by decide) ?_
                    refine v_zret rfl rfl (by decide) ?_
                    refine bk_inl ?_
                    refine v_if_eq_f (t := 89) rfl (by decide) (by decide) ?_
                    refine q_iload_n rfl rfl ?_
                    refine q_iconst rfl ?_
                    refine v_sip rfl (by decide) ?_
                    refine q_call rfl rfl rfl rfl ?_
                    refine q_iload_n rfl rfl ?_
                    refine q_iload_n rfl rfl ?_
                    refine v_ic_lt_f (t := 14) rfl (by decide) (by omega) ?_
                    refine q_iload_n rfl rfl ?_
                    refine q_iload_n rfl rfl ?_
                    refine v_ic_gt_f (t := 14) rfl (by decide) (by omega) ?_
                    refine q_iconst rfl ?_
                    refine q_goto (t := 15) rfl (by decide) ?_
                    refine v_zret rfl rfl (by decide) ?_
                    refine bk_inl ?_
                    refine v_if_eq_f (t := 89) rfl (by decide) (by decide) ?_
                    refine q_iload_n rfl rfl ?_
                    refine q_iconst rfl ?_
                    refine v_sip rfl (by decide) ?_
                    refine q_call rfl rfl rfl rfl ?_
                    refine q_iload_n rfl rfl ?_
                    refine q_iload_n rfl rfl ?_
                    refine v_ic_lt_f (t := 14) rfl (by decide) (by omega) ?_
                    refine q_iload_n rfl rfl ?_
                    refine q_iload_n rfl rfl ?_
                    refine v_ic_gt_f (t := 14) rfl (by decide) (by omega) ?_
                    refine q_iconst rfl ?_
                    refine q_goto (t := 15) rfl (by decide) ?_
                    refine v_zret rfl rfl (by decide) ?_
                    refine bk_inl ?_
                    refine v_if_eq_f (t := 89) rfl (by decide) (by decide) ?_
                    refine q_iload rfl rfl ?_
                    refine q_iconst rfl ?_
                    refine v_sip rfl (by decide) ?_
                    refine q_call rfl rfl rfl rfl ?_
                    refine q_iload_n rfl rfl ?_
                    refine q_iload_n rfl rfl ?_
                    refine v_ic_lt_f (t := 14) rfl (by decide) (by omega) ?_
                    refine q_iload_n rfl rfl ?_
                    refine q_iload_n rfl rfl ?_
                    refine v_ic_gt_f (t := 14) rfl (by decide) (by omega) ?_
                    refine q_iconst rfl ?_
                    refine q_goto (t := 15) rfl (by decide) ?_
                    refine v_zret rfl rfl (by decide) ?_
                    refine bk_inl ?_
                    refine v_if_eq_f (t := 89) rfl (by decide) (by decide) ?_
                    refine q_iload rfl rfl ?_
                    refine q_iconst rfl ?_
                    refine v_sip rfl (by decide) ?_
                    refine q_call rfl rfl rfl rfl ?_
                    refine q_iload_n rfl rfl ?_
                    refine q_iload_n rfl rfl ?_
                    refine v_ic_lt_t (t := 14) rfl (by decide) (by omega) ?_
                    refine q_iconst rfl ?_
                    refine v_zret rfl rfl (by decide) ?_
                    refine bk_inl ?_
                    refine v_if_eq_t (t := 89) rfl (by decide) (by decide) ?_
                    refine q_iconst rfl ?_
                    refine q_iconst rfl ?_
                    refine q_iconst rfl ?_
                    refine v_cv rfl rfl rfl rfl (by decide) ⟨⟨rfl, rfl⟩, by decide, rfl⟩ (Nat.le_of_ble_eq_true rfl) (Nat.le_of_ble_eq_true rfl) ?_
                    refine q_iload_n rfl rfl ?_
                    refine v_if_ne_f (t := 26) rfl (by decide) (by decide) ?_
                    refine q_aload_n rfl rfl ?_
                    refine v_gi (z := 0) (v := 0) rfl rfl rfl (by decide) rfl rfl (up_e rfl) ?_
                    refine v_if_ne_f (t := 26) rfl (by decide) (by decide) ?_
                    refine q_aload_n rfl rfl ?_
                    refine q_iload_n rfl rfl ?_
                    refine v_pi (z := 0) rfl rfl rfl (by decide) rfl rfl rfl (by decide) ?_
                    refine q_aload_n rfl rfl ?_
                    refine v_gr (t := 42) rfl rfl rfl (by decide) rfl ?_
                    refine q_iload_n rfl rfl ?_
                    refine q_dup2 rfl ⟨rfl, rfl⟩ ?_
                    have h_132 := ir_42 hI 1
                    refine v_ia (v := c 42 1) rfl rfl (by decide) (by decide) (by decide) ((up_c (nn rfl)).trans ((up_c (nn rfl)).trans (up_c (nn rfl)))) ?_
                    refine q_iconst rfl ?_
                    refine v_iadd (v := c 42 1 + 1) rfl rfl ?_
                    refine v_nrm (fun y_133 hy_133 => ?_)
                    refine v_is rfl rfl (by decide) (by decide) (by decide) ?_
                    refine q_aload_n rfl rfl ?_
                    refine v_gi (z := 0) (v := 1) rfl rfl rfl (by decide) rfl rfl ((up_c (nn rfl)).trans (up_e rfl)) ?_
                    refine v_if_ne_t (t := 37) rfl (by decide) (by decide) ?_
                    refine q_iconst rfl ?_
                    refine v_zret rfl rfl (by decide) ?_
                    refine bk_inl ?_
                    refine v_if_ne_f (t := 100) rfl (by decide) (by decide) ?_
                    refine q_iconst rfl ?_
                    refine q_iret rfl rfl ?_
                    refine bk_inl ?_
                    refine q_istore rfl (by decide) ?_
                    refine q_aload_n rfl rfl ?_
                    refine v_cv rfl rfl rfl rfl (by decide) ⟨⟨rfl, rfl⟩, by decide, rfl⟩ (Nat.le_of_ble_eq_true rfl) (Nat.le_of_ble_eq_true rfl) ?_
                    refine q_aload_n rfl rfl ?_
                    refine v_gi (z := 0) (v := 1) rfl rfl rfl (by decide) rfl rfl ((up_c (nn rfl)).trans (up_e rfl)) ?_
                    refine q_iret rfl rfl ?_
                    refine bk_inl ?_
                    refine q_iload rfl rfl ?_
                    refine v_ic_eq_t (t := 755) rfl (by decide) (by decide) ?_
                    refine q_iload rfl rfl ?_
                    refine v_if_ne_t (t := 772) rfl (by decide) (by decide) ?_
                    refine q_goto (t := 1844) rfl (by decide) ?_
                    have hI_134 := iw_0_13 (v := y_131) hI ⟨hy_131.1, hy_131.2⟩
                    have hI_135 := iw_41_0 (v := 0) hI_134 ⟨by decide, by decide⟩
                    have hI_136 := iw_41_0 (v := 1) hI_135 ⟨by decide, by decide⟩
                    have hI_137 := iw_42 (j := 1) (v := y_133) hI_136 ⟨hy_133.1, hy_133.2⟩
                    refine Wp_ls [(4, vi (i0 : Int)), (3, .ref 67), (2, .ref 41), (1, .ref 0), (0, .ref a_SC)] (lsub_cons rfl (lsub_cons rfl (lsub_cons rfl (lsub_cons rfl (lsub_cons rfl lsub_nil))))) ?_
                    have h_138 := ir_1_3 hI
                    have h_139 : (up (up (up (up c 0 13 y_131) 41 0 0) 41 0 1) 42 1 y_133) 1 3 = c 1 3 := ((up_c (nn rfl)).trans ((up_c (nn rfl)).trans ((up_c (nn rfl)).trans (up_c (nn rfl)))))
                    have h_140 := ir_41_2 hI
                    have h_141 : (up (up (up (up c 0 13 y_131) 41 0 0) 41 0 1) 42 1 y_133) 41 2 = c 41 2 := ((up_c (nn rfl)).trans ((up_n (by decide)).trans ((up_n (by decide)).trans (up_c (nn rfl)))))
                    have h_142 : (up (up (up (up c 0 13 y_131) 41 0 0) 41 0 1) 42 1 y_133) (P + 7) 4 = nl := ((up_c (np hP rfl rfl)).trans ((up_c (np hP rfl rfl)).trans ((up_c (np hP rfl rfl)).trans ((up_c (np hP rfl rfl)).trans (hnl)))))
                    have h_143 : (up (up (up (up c 0 13 y_131) 41 0 0) 41 0 1) 42 1 y_133) 41 30 = nl := ((up_c (nn rfl)).trans ((up_n (by decide)).trans ((up_n (by decide)).trans ((up_c (nn rfl)).trans (hml)))))
                    have hA_144 : Ce nl ((up (up (up (up c 0 13 y_131) 41 0 0) 41 0 1) 42 1 y_133) (P + 8)) ((up (up (up (up c 0 13 y_131) 41 0 0) 41 0 1) 42 1 y_133) 52) ((up (up (up (up c 0 13 y_131) 41 0 0) 41 0 1) 42 1 y_133) 53) := ce_fr hCe (fun j => (up_c (np hP rfl rfl)).trans ((up_c (np hP rfl rfl)).trans ((up_c (np hP rfl rfl)).trans (up_c (np hP rfl rfl))))) (fun j => (up_c (nn rfl)).trans ((up_c (nn rfl)).trans ((up_c (nn rfl)).trans (up_c (nn rfl))))) (fun j => (up_c (nn rfl)).trans ((up_c (nn rfl)).trans ((up_c (nn rfl)).trans (up_c (nn rfl)))))
                    exact K P Q (up (up (up (up c 0 13 y_131) 41 0 0) 41 0 1) 42 1 y_133) 1 (by decide) hI_137 ⟨by omega, ub_fr hU (fun j => (up_c (nn rfl)).trans ((up_c (nn rfl)).trans ((up_c (nn rfl)).trans (up_c (nn rfl))))) (fun j => (up_c (nn rfl)).trans ((up_c (nn rfl)).trans ((up_c (nn rfl)).trans (up_c (nn rfl))))), ⟨by omega, ce_le hA_144 (by omega)⟩⟩
                  · refine v_ic_lt_f (t := 14) rfl (by decide) ⟨by decide, (Int.not_lt.mp h_129), by omega⟩ ?_
                    refine q_iload_n rfl rfl ?_
                    refine q_iload_n rfl rfl ?_
                    by_cases h_145 : x5 > 400
                    · refine v_ic_gt_t (t := 14) rfl (by decide) ⟨by decide, h_145, by omega⟩ ?_
                      refine q_iconst rfl ?_
                      refine v_zret rfl rfl (by decide) ?_
                      refine bk_inl ?_
                      refine v_if_eq_t (t := 84) rfl (by decide) (by decide) ?_
                      refine q_iconst rfl ?_
                      refine v_cv rfl rfl rfl rfl (by decide) ⟨⟨rfl, rfl⟩, by decide, rfl⟩ (Nat.le_of_ble_eq_true rfl) (Nat.le_of_ble_eq_true rfl) ?_
                      refine q_iload_n rfl rfl ?_
                      refine v_if_ne_f (t := 25) rfl (by decide) (by decide) ?_
                      refine q_aload_n rfl rfl ?_
                      refine q_dup rfl rfl ?_
                      have h_146 := ir_0_13 hI
                      refine v_gi (z := 13) (v := c 0 13) rfl rfl rfl (by decide) rfl rfl rfl ?_
                      refine q_iconst rfl ?_
                      refine v_iadd (v := c 0 13 + 1) rfl rfl ?_
                      refine v_nrm (fun y_147 hy_147 => ?_)
                      refine v_pi (z := 13) rfl rfl rfl (by decide) rfl rfl rfl (by decide) ?_
                      refine v_new rfl rfl (by decide) (by omega) (Nat.le_of_ble_eq_true rfl) (by decide) rfl ?_
                      refine bk_out rfl rfl ?_
                      refine bk_thr (z := Int32.ofInt 1) rfl ⟨_, _, rfl⟩ rfl ?_
                      refine bk_inl ?_
                      refine q_istore rfl (by decide) ?_
                      refine q_aload_n rfl rfl ?_
                      refine q_aload_n rfl rfl ?_
                      refine q_iload rfl rfl ?_
                      refine q_iconst rfl ?_
                      refine v_iadd (v := (i0 : Int) + 1) rfl rfl ?_
                      refine v_scr (j := i0 + 1) rfl (by omega) (by omega) hL hx1 ?_
                      refine q_aload_n rfl rfl ?_
                      refine q_iload rfl rfl ?_
                      refine q_iconst rfl ?_
                      refine v_iadd (v := (i0 : Int) + 2) rfl rfl ?_
                      refine v_scr (j := i0 + 2) rfl (by omega) (by omega) hL hx2 ?_
                      refine q_aload_n rfl rfl ?_
                      refine q_iload rfl rfl ?_
                      refine q_iconst rfl ?_
                      refine v_iadd (v := (i0 : Int) + 3) rfl rfl ?_
                      refine v_scr (j := i0 + 3) rfl (by omega) (by omega) hL hx3 ?_
                      refine q_aload_n rfl rfl ?_
                      refine q_iload rfl rfl ?_
                      refine q_iconst rfl ?_
                      refine v_iadd (v := (i0 : Int) + 4) rfl rfl ?_
                      refine v_scr (j := i0 + 4) rfl (by omega) (by omega) hL hx4 ?_
                      refine q_aload_n rfl rfl ?_
                      refine q_iload rfl rfl ?_
                      refine q_iconst rfl ?_
                      refine v_iadd (v := (i0 : Int) + 5) rfl rfl ?_
                      refine v_scr (j := i0 + 5) rfl (by omega) (by omega) hL hx5 ?_
                      refine q_aload_n rfl rfl ?_
                      refine q_iload rfl rfl ?_
                      refine v_bip rfl (by decide) ?_
                      refine v_iadd (v := (i0 : Int) + 6) rfl rfl ?_
                      refine v_scr (j := i0 + 6) rfl (by omega) (by omega) hL hx6 ?_
                      refine q_aload_n rfl rfl ?_
                      refine q_iload rfl rfl ?_
                      refine v_bip rfl (by decide) ?_
                      refine v_iadd (v := (i0 : Int) + 7) rfl rfl ?_
                      refine v_scr (j := i0 + 7) rfl (by omega) (by omega) hL hx7 ?_
                      refine v_cv rfl rfl rfl rfl (by decide) ⟨⟨rfl, rfl⟩, by decide, rfl⟩ (Nat.le_of_ble_eq_true rfl) (Nat.le_of_ble_eq_true rfl) ?_
                      refine q_aload_n rfl rfl ?_
                      refine q_iconst rfl ?_
                      refine v_pi (z := 0) rfl rfl rfl (by decide) rfl rfl rfl (by decide) ?_
                      refine q_aload_n rfl rfl ?_
                      refine q_iload_n rfl rfl ?_
                      refine q_iconst rfl ?_
                      refine v_sip rfl (by decide) ?_
                      refine q_call rfl rfl rfl rfl ?_
                      refine q_iload_n rfl rfl ?_
                      refine q_iload_n rfl rfl ?_
                      refine v_ic_lt_f (t := 14) rfl (by decide) (by omega) ?_
                      refine q_iload_n rfl rfl ?_
                      refine q_iload_n rfl rfl ?_
                      refine v_ic_gt_f (t := 14) rfl (by decide) (by omega) ?_
                      refine q_iconst rfl ?_
                      refine q_goto (t := 15) rfl (by decide) ?_
                      refine v_zret rfl rfl (by decide) ?_
                      refine bk_inl ?_
                      refine v_if_eq_f (t := 89) rfl (by decide) (by decide) ?_
                      refine q_iload_n rfl rfl ?_
                      refine q_iconst rfl ?_
                      refine v_sip rfl (by decide) ?_
                      refine q_call rfl rfl rfl rfl ?_
                      refine q_iload_n rfl rfl ?_
                      refine q_iload_n rfl rfl ?_
                      refine v_ic_lt_f (t := 14) rfl (by decide) (by omega) ?_
                      refine q_iload_n rfl rfl ?_
                      refine q_iload_n rfl rfl ?_
                      refine v_ic_gt_f (t := 14) rfl (by decide) (by omega) ?_
                      refine q_iconst rfl ?_
                      refine q_goto (t := 15) rfl (by decide) ?_
                      refine v_zret rfl rfl (by decide) ?_
                      refine bk_inl ?_
                      refine v_if_eq_f (t := 89) rfl (by decide) (by decide) ?_
                      refine q_iload_n rfl rfl ?_
                      refine q_iconst rfl ?_
                      refine v_sip rfl (by decide) ?_
                      refine q_call rfl rfl rfl rfl ?_
                      refine q_iload_n rfl rfl ?_
                      refine q_iload_n rfl rfl ?_
                      refine v_ic_lt_f (t := 14) rfl (by decide) (by omega) ?_
                      refine q_iload_n rfl rfl ?_
                      refine q_iload_n rfl rfl ?_
                      refine v_ic_gt_f (t := 14) rfl (by decide) (by omega) ?_
                      refine q_iconst rfl ?_
                      refine q_goto (t := 15) rfl (by decide) ?_
                      refine v_zret rfl rfl (by decide) ?_
                      refine bk_inl ?_
                      refine v_if_eq_f (t := 89) rfl (by decide) (by decide) ?_
                      refine q_iload rfl rfl ?_
                      refine q_iconst rfl ?_
                      refine v_sip rfl (by decide) ?_
                      refine q_call rfl rfl rfl rfl ?_
                      refine q_iload_n rfl rfl ?_
                      refine q_iload_n rfl rfl ?_
                      refine v_ic_lt_f (t := 14) rfl (by decide) (by omega) ?_
                      refine q_iload_n rfl rfl ?_
                      refine q_iload_n rfl rfl ?_
                      refine v_ic_gt_f (t := 14) rfl (by decide) (by omega) ?_
                      refine q_iconst rfl ?_
                      refine q_goto (t := 15) rfl (by decide) ?_
                      refine v_zret rfl rfl (by decide) ?_
                      refine bk_inl ?_
                      refine v_if_eq_f (t := 89) rfl (by decide) (by decide) ?_
                      refine q_iload rfl rfl ?_
                      refine q_iconst rfl ?_
                      refine v_sip rfl (by decide) ?_
                      refine q_call rfl rfl rfl rfl ?_
                      refine q_iload_n rfl rfl ?_
                      refine q_iload_n rfl rfl ?_
                      refine v_ic_lt_f (t := 14) rfl (by decide) (by omega) ?_
                      refine q_iload_n rfl rfl ?_
                      refine q_iload_n rfl rfl ?_
                      refine v_ic_gt_t (t := 14) rfl (by decide) (by omega) ?_
                      refine q_iconst rfl ?_
                      refine v_zret rfl rfl (by decide) ?_
                      refine bk_inl ?_
                      refine v_if_eq_t (t := 89) rfl (by decide) (by decide) ?_
                      refine q_iconst rfl ?_
                      refine q_iconst rfl ?_
                      refine q_iconst rfl ?_
                      refine v_cv rfl rfl rfl rfl (by decide) ⟨⟨rfl, rfl⟩, by decide, rfl⟩ (Nat.le_of_ble_eq_true rfl) (Nat.le_of_ble_eq_true rfl) ?_
                      refine q_iload_n rfl rfl ?_
                      refine v_if_ne_f (t := 26) rfl (by decide) (by decide) ?_
                      refine q_aload_n rfl rfl ?_
                      refine v_gi (z := 0) (v := 0) rfl rfl rfl (by decide) rfl rfl (up_e rfl) ?_
                      refine v_if_ne_f (t := 26) rfl (by decide) (by decide) ?_
                      refine q_aload_n rfl rfl ?_
                      refine q_iload_n rfl rfl ?_
                      refine v_pi (z := 0) rfl rfl rfl (by decide) rfl rfl rfl (by decide) ?_
                      refine q_aload_n rfl rfl ?_
                      refine v_gr (t := 42) rfl rfl rfl (by decide) rfl ?_
                      refine q_iload_n rfl rfl ?_
                      refine q_dup2 rfl ⟨rfl, rfl⟩ ?_
                      have h_148 := ir_42 hI 1
                      refine v_ia (v := c 42 1) rfl rfl (by decide) (by decide) (by decide) ((up_c (nn rfl)).trans ((up_c (nn rfl)).trans (up_c (nn rfl)))) ?_
                      refine q_iconst rfl ?_
                      refine v_iadd (v := c 42 1 + 1) rfl rfl ?_
                      refine v_nrm (fun y_149 hy_149 => ?_)
                      refine v_is rfl rfl (by decide) (by decide) (by decide) ?_
                      refine q_aload_n rfl rfl ?_
                      refine v_gi (z := 0) (v := 1) rfl rfl rfl (by decide) rfl rfl ((up_c (nn rfl)).trans (up_e rfl)) ?_
                      refine v_if_ne_t (t := 37) rfl (by decide) (by decide) ?_
                      refine q_iconst rfl ?_
                      refine v_zret rfl rfl (by decide) ?_
                      refine bk_inl ?_
                      refine v_if_ne_f (t := 100) rfl (by decide) (by decide) ?_
                      refine q_iconst rfl ?_
                      refine q_iret rfl rfl ?_
                      refine bk_inl ?_
                      refine q_istore rfl (by decide) ?_
                      refine q_aload_n rfl rfl ?_
                      refine v_cv rfl rfl rfl rfl (by decide) ⟨⟨rfl, rfl⟩, by decide, rfl⟩ (Nat.le_of_ble_eq_true rfl) (Nat.le_of_ble_eq_true rfl) ?_
                      refine q_aload_n rfl rfl ?_
                      refine v_gi (z := 0) (v := 1) rfl rfl rfl (by decide) rfl rfl ((up_c (nn rfl)).trans (up_e rfl)) ?_
                      refine q_iret rfl rfl ?_
                      refine bk_inl ?_
                      refine q_iload rfl rfl ?_
                      refine v_ic_eq_t (t := 755) rfl (by decide) (by decide) ?_
                      refine q_iload rfl rfl ?_
                      refine v_if_ne_t (t := 772) rfl (by decide) (by decide) ?_
                      refine q_goto (t := 1844) rfl (by decide) ?_
                      have hI_150 := iw_0_13 (v := y_147) hI ⟨hy_147.1, hy_147.2⟩
                      have hI_151 := iw_41_0 (v := 0) hI_150 ⟨by decide, by decide⟩
                      have hI_152 := iw_41_0 (v := 1) hI_151 ⟨by decide, by decide⟩
                      have hI_153 := iw_42 (j := 1) (v := y_149) hI_152 ⟨hy_149.1, hy_149.2⟩
                      refine Wp_ls [(4, vi (i0 : Int)), (3, .ref 67), (2, .ref 41), (1, .ref 0), (0, .ref a_SC)] (lsub_cons rfl (lsub_cons rfl (lsub_cons rfl (lsub_cons rfl (lsub_cons rfl lsub_nil))))) ?_
                      have h_154 := ir_1_3 hI
                      have h_155 : (up (up (up (up c 0 13 y_147) 41 0 0) 41 0 1) 42 1 y_149) 1 3 = c 1 3 := ((up_c (nn rfl)).trans ((up_c (nn rfl)).trans ((up_c (nn rfl)).trans (up_c (nn rfl)))))
                      have h_156 := ir_41_2 hI
                      have h_157 : (up (up (up (up c 0 13 y_147) 41 0 0) 41 0 1) 42 1 y_149) 41 2 = c 41 2 := ((up_c (nn rfl)).trans ((up_n (by decide)).trans ((up_n (by decide)).trans (up_c (nn rfl)))))
                      have h_158 : (up (up (up (up c 0 13 y_147) 41 0 0) 41 0 1) 42 1 y_149) (P + 7) 4 = nl := ((up_c (np hP rfl rfl)).trans ((up_c (np hP rfl rfl)).trans ((up_c (np hP rfl rfl)).trans ((up_c (np hP rfl rfl)).trans (hnl)))))
                      have h_159 : (up (up (up (up c 0 13 y_147) 41 0 0) 41 0 1) 42 1 y_149) 41 30 = nl := ((up_c (nn rfl)).trans ((up_n (by decide)).trans ((up_n (by decide)).trans ((up_c (nn rfl)).trans (hml)))))
                      have hA_160 : Ce nl ((up (up (up (up c 0 13 y_147) 41 0 0) 41 0 1) 42 1 y_149) (P + 8)) ((up (up (up (up c 0 13 y_147) 41 0 0) 41 0 1) 42 1 y_149) 52) ((up (up (up (up c 0 13 y_147) 41 0 0) 41 0 1) 42 1 y_149) 53) := ce_fr hCe (fun j => (up_c (np hP rfl rfl)).trans ((up_c (np hP rfl rfl)).trans ((up_c (np hP rfl rfl)).trans (up_c (np hP rfl rfl))))) (fun j => (up_c (nn rfl)).trans ((up_c (nn rfl)).trans ((up_c (nn rfl)).trans (up_c (nn rfl))))) (fun j => (up_c (nn rfl)).trans ((up_c (nn rfl)).trans ((up_c (nn rfl)).trans (up_c (nn rfl)))))
                      exact K P Q (up (up (up (up c 0 13 y_147) 41 0 0) 41 0 1) 42 1 y_149) 1 (by decide) hI_153 ⟨by omega, ub_fr hU (fun j => (up_c (nn rfl)).trans ((up_c (nn rfl)).trans ((up_c (nn rfl)).trans (up_c (nn rfl))))) (fun j => (up_c (nn rfl)).trans ((up_c (nn rfl)).trans ((up_c (nn rfl)).trans (up_c (nn rfl))))), ⟨by omega, ce_le hA_160 (by omega)⟩⟩
                    · refine v_ic_gt_f (t := 14) rfl (by decide) ⟨by omega, (Int.not_lt.mp h_145), by decide⟩ ?_
                      refine q_iconst rfl ?_
                      refine q_goto (t := 15) rfl (by decide) ?_
                      refine v_zret rfl rfl (by decide) ?_
                      refine bk_inl ?_
                      refine v_if_eq_f (t := 84) rfl (by decide) (by decide) ?_
                      refine q_iload rfl rfl ?_
                      refine q_iconst rfl ?_
                      refine v_sip rfl (by decide) ?_
                      refine q_call rfl rfl rfl rfl ?_
                      refine q_iload_n rfl rfl ?_
                      refine q_iload_n rfl rfl ?_
                      by_cases h_161 : x6 < 0
                      · refine v_ic_lt_t (t := 14) rfl (by decide) ⟨by omega, h_161, by decide⟩ ?_
                        refine q_iconst rfl ?_
                        refine v_zret rfl rfl (by decide) ?_
                        refine bk_inl ?_
                        refine v_if_eq_t (t := 84) rfl (by decide) (by decide) ?_
                        refine q_iconst rfl ?_
                        refine v_cv rfl rfl rfl rfl (by decide) ⟨⟨rfl, rfl⟩, by decide, rfl⟩ (Nat.le_of_ble_eq_true rfl) (Nat.le_of_ble_eq_true rfl) ?_
                        refine q_iload_n rfl rfl ?_
                        refine v_if_ne_f (t := 25) rfl (by decide) (by decide) ?_
                        refine q_aload_n rfl rfl ?_
                        refine q_dup rfl rfl ?_
                        have h_162 := ir_0_13 hI
                        refine v_gi (z := 13) (v := c 0 13) rfl rfl rfl (by decide) rfl rfl rfl ?_
                        refine q_iconst rfl ?_
                        refine v_iadd (v := c 0 13 + 1) rfl rfl ?_
                        refine v_nrm (fun y_163 hy_163 => ?_)
                        refine v_pi (z := 13) rfl rfl rfl (by decide) rfl rfl rfl (by decide) ?_
                        refine v_new rfl rfl (by decide) (by omega) (Nat.le_of_ble_eq_true rfl) (by decide) rfl ?_
                        refine bk_out rfl rfl ?_
                        refine bk_thr (z := Int32.ofInt 1) rfl ⟨_, _, rfl⟩ rfl ?_
                        refine bk_inl ?_
                        refine q_istore rfl (by decide) ?_
                        refine q_aload_n rfl rfl ?_
                        refine q_aload_n rfl rfl ?_
                        refine q_iload rfl rfl ?_
                        refine q_iconst rfl ?_
                        refine v_iadd (v := (i0 : Int) + 1) rfl rfl ?_
                        refine v_scr (j := i0 + 1) rfl (by omega) (by omega) hL hx1 ?_
                        refine q_aload_n rfl rfl ?_
                        refine q_iload rfl rfl ?_
                        refine q_iconst rfl ?_
                        refine v_iadd (v := (i0 : Int) + 2) rfl rfl ?_
                        refine v_scr (j := i0 + 2) rfl (by omega) (by omega) hL hx2 ?_
                        refine q_aload_n rfl rfl ?_
                        refine q_iload rfl rfl ?_
                        refine q_iconst rfl ?_
                        refine v_iadd (v := (i0 : Int) + 3) rfl rfl ?_
                        refine v_scr (j := i0 + 3) rfl (by omega) (by omega) hL hx3 ?_
                        refine q_aload_n rfl rfl ?_
                        refine q_iload rfl rfl ?_
                        refine q_iconst rfl ?_
                        refine v_iadd (v := (i0 : Int) + 4) rfl rfl ?_
                        refine v_scr (j := i0 + 4) rfl (by omega) (by omega) hL hx4 ?_
                        refine q_aload_n rfl rfl ?_
                        refine q_iload rfl rfl ?_
                        refine q_iconst rfl ?_
                        refine v_iadd (v := (i0 : Int) + 5) rfl rfl ?_
                        refine v_scr (j := i0 + 5) rfl (by omega) (by omega) hL hx5 ?_
                        refine q_aload_n rfl rfl ?_
                        refine q_iload rfl rfl ?_
                        refine v_bip rfl (by decide) ?_
                        refine v_iadd (v := (i0 : Int) + 6) rfl rfl ?_
                        refine v_scr (j := i0 + 6) rfl (by omega) (by omega) hL hx6 ?_
                        refine q_aload_n rfl rfl ?_
                        refine q_iload rfl rfl ?_
                        refine v_bip rfl (by decide) ?_
                        refine v_iadd (v := (i0 : Int) + 7) rfl rfl ?_
                        refine v_scr (j := i0 + 7) rfl (by omega) (by omega) hL hx7 ?_
                        refine v_cv rfl rfl rfl rfl (by decide) ⟨⟨rfl, rfl⟩, by decide, rfl⟩ (Nat.le_of_ble_eq_true rfl) (Nat.le_of_ble_eq_true rfl) ?_
                        refine q_aload_n rfl rfl ?_
                        refine q_iconst rfl ?_
                        refine v_pi (z := 0) rfl rfl rfl (by decide) rfl rfl rfl (by decide) ?_
                        refine q_aload_n rfl rfl ?_
                        refine q_iload_n rfl rfl ?_
                        refine q_iconst rfl ?_
                        refine v_sip rfl (by decide) ?_
                        refine q_call rfl rfl rfl rfl ?_
                        refine q_iload_n rfl rfl ?_
                        refine q_iload_n rfl rfl ?_
                        refine v_ic_lt_f (t := 14) rfl (by decide) (by omega) ?_
                        refine q_iload_n rfl rfl ?_
                        refine q_iload_n rfl rfl ?_
                        refine v_ic_gt_f (t := 14) rfl (by decide) (by omega) ?_
                        refine q_iconst rfl ?_
                        refine q_goto (t := 15) rfl (by decide) ?_
                        refine v_zret rfl rfl (by decide) ?_
                        refine bk_inl ?_
                        refine v_if_eq_f (t := 89) rfl (by decide) (by decide) ?_
                        refine q_iload_n rfl rfl ?_
                        refine q_iconst rfl ?_
                        refine v_sip rfl (by decide) ?_
                        refine q_call rfl rfl rfl rfl ?_
                        refine q_iload_n rfl rfl ?_
                        refine q_iload_n rfl rfl ?_
                        refine v_ic_lt_f (t := 14) rfl (by decide) (by omega) ?_
                        refine q_iload_n rfl rfl ?_
                        refine q_iload_n rfl rfl ?_
                        refine v_ic_gt_f (t := 14) rfl (by decide) (by omega) ?_
                        refine q_iconst rfl ?_
                        refine q_goto (t := 15) rfl (by decide) ?_
                        refine v_zret rfl rfl (by decide) ?_
                        refine bk_inl ?_
                        refine v_if_eq_f (t := 89) rfl (by decide) (by decide) ?_
                        refine q_iload_n rfl rfl ?_
                        refine q_iconst rfl ?_
                        refine v_sip rfl (by decide) ?_
                        refine q_call rfl rfl rfl rfl ?_
                        refine q_iload_n rfl rfl ?_
                        refine q_iload_n rfl rfl ?_
                        refine v_ic_lt_f (t := 14) rfl (by decide) (by omega) ?_
                        refine q_iload_n rfl rfl ?_
                        refine q_iload_n rfl rfl ?_
                        refine v_ic_gt_f (t := 14) rfl (by decide) (by omega) ?_
                        refine q_iconst rfl ?_
                        refine q_goto (t := 15) rfl (by decide) ?_
                        refine v_zret rfl rfl (by decide) ?_
                        refine bk_inl ?_
                        refine v_if_eq_f (t := 89) rfl (by decide) (by decide) ?_
                        refine q_iload rfl rfl ?_
                        refine q_iconst rfl ?_
                        refine v_sip rfl (by decide) ?_
                        refine q_call rfl rfl rfl rfl ?_
                        refine q_iload_n rfl rfl ?_
                        refine q_iload_n rfl rfl ?_
                        refine v_ic_lt_f (t := 14) rfl (by decide) (by omega) ?_
                        refine q_iload_n rfl rfl ?_
                        refine q_iload_n rfl rfl ?_
                        refine v_ic_gt_f (t := 14) rfl (by decide) (by omega) ?_
                        refine q_iconst rfl ?_
                        refine q_goto (t := 15) rfl (by decide) ?_
                        refine v_zret rfl rfl (by decide) ?_
                        refine bk_inl ?_
                        refine v_if_eq_f (t := 89) rfl (by decide) (by decide) ?_
                        refine q_iload rfl rfl ?_
                        refine q_iconst rfl ?_
                        refine v_sip rfl (by decide) ?_
                        refine q_call rfl rfl rfl rfl ?_
                        refine q_iload_n rfl rfl ?_
                        refine q_iload_n rfl rfl ?_
                        refine v_ic_lt_f (t := 14) rfl (by decide) (by omega) ?_
                        refine q_iload_n rfl rfl ?_
                        refine q_iload_n rfl rfl ?_
                        refine v_ic_gt_f (t := 14) rfl (by decide) (by omega) ?_
                        refine q_iconst rfl ?_
                        refine q_goto (t := 15) rfl (by decide) ?_
                        refine v_zret rfl rfl (by decide) ?_
                        refine bk_inl ?_
                        refine v_if_eq_f (t := 89) rfl (by decide) (by decide) ?_
                        refine q_iload rfl rfl ?_
                        refine q_iconst rfl ?_
                        refine v_sip rfl (by decide) ?_
                        refine q_call rfl rfl rfl rfl ?_
                        refine q_iload_n rfl rfl ?_
                        refine q_iload_n rfl rfl ?_
                        refine v_ic_lt_t (t := 14) rfl (by decide) (by omega) ?_
                        refine q_iconst rfl ?_
                        refine v_zret rfl rfl (by decide) ?_
                        refine bk_inl ?_
                        refine v_if_eq_t (t := 89) rfl (by decide) (by decide) ?_
                        refine q_iconst rfl ?_
                        refine q_iconst rfl ?_
                        refine q_iconst rfl ?_
                        refine v_cv rfl rfl rfl rfl (by decide) ⟨⟨rfl, rfl⟩, by decide, rfl⟩ (Nat.le_of_ble_eq_true rfl) (Nat.le_of_ble_eq_true rfl) ?_
                        refine q_iload_n rfl rfl ?_
                        refine v_if_ne_f (t := 26) rfl (by decide) (by decide) ?_
                        refine q_aload_n rfl rfl ?_
                        refine v_gi (z := 0) (v := 0) rfl rfl rfl (by decide) rfl rfl (up_e rfl) ?_
                        refine v_if_ne_f (t := 26) rfl (by decide) (by decide) ?_
                        refine q_aload_n rfl rfl ?_
                        refine q_iload_n rfl rfl ?_
                        refine v_pi (z := 0) rfl rfl rfl (by decide) rfl rfl rfl (by decide) ?_
                        refine q_aload_n rfl rfl ?_
                        refine v_gr (t := 42) rfl rfl rfl (by decide) rfl ?_
                        refine q_iload_n rfl rfl ?_
                        refine q_dup2 rfl ⟨rfl, rfl⟩ ?_
                        have h_164 := ir_42 hI 1
                        refine v_ia (v := c 42 1) rfl rfl (by decide) (by decide) (by decide) ((up_c (nn rfl)).trans ((up_c (nn rfl)).trans (up_c (nn rfl)))) ?_
                        refine q_iconst rfl ?_
                        refine v_iadd (v := c 42 1 + 1) rfl rfl ?_
                        refine v_nrm (fun y_165 hy_165 => ?_)
                        refine v_is rfl rfl (by decide) (by decide) (by decide) ?_
                        refine q_aload_n rfl rfl ?_
                        refine v_gi (z := 0) (v := 1) rfl rfl rfl (by decide) rfl rfl ((up_c (nn rfl)).trans (up_e rfl)) ?_
                        refine v_if_ne_t (t := 37) rfl (by decide) (by decide) ?_
                        refine q_iconst rfl ?_
                        refine v_zret rfl rfl (by decide) ?_
                        refine bk_inl ?_
                        refine v_if_ne_f (t := 100) rfl (by decide) (by decide) ?_
                        refine q_iconst rfl ?_
                        refine q_iret rfl rfl ?_
                        refine bk_inl ?_
                        refine q_istore rfl (by decide) ?_
                        refine q_aload_n rfl rfl ?_
                        refine v_cv rfl rfl rfl rfl (by decide) ⟨⟨rfl, rfl⟩, by decide, rfl⟩ (Nat.le_of_ble_eq_true rfl) (Nat.le_of_ble_eq_true rfl) ?_
                        refine q_aload_n rfl rfl ?_
                        refine v_gi (z := 0) (v := 1) rfl rfl rfl (by decide) rfl rfl ((up_c (nn rfl)).trans (up_e rfl)) ?_
                        refine q_iret rfl rfl ?_
                        refine bk_inl ?_
                        refine q_iload rfl rfl ?_
                        refine v_ic_eq_t (t := 755) rfl (by decide) (by decide) ?_
                        refine q_iload rfl rfl ?_
                        refine v_if_ne_t (t := 772) rfl (by decide) (by decide) ?_
                        refine q_goto (t := 1844) rfl (by decide) ?_
                        have hI_166 := iw_0_13 (v := y_163) hI ⟨hy_163.1, hy_163.2⟩
                        have hI_167 := iw_41_0 (v := 0) hI_166 ⟨by decide, by decide⟩
                        have hI_168 := iw_41_0 (v := 1) hI_167 ⟨by decide, by decide⟩
                        have hI_169 := iw_42 (j := 1) (v := y_165) hI_168 ⟨hy_165.1, hy_165.2⟩
                        refine Wp_ls [(4, vi (i0 : Int)), (3, .ref 67), (2, .ref 41), (1, .ref 0), (0, .ref a_SC)] (lsub_cons rfl (lsub_cons rfl (lsub_cons rfl (lsub_cons rfl (lsub_cons rfl lsub_nil))))) ?_
                        have h_170 := ir_1_3 hI
                        have h_171 : (up (up (up (up c 0 13 y_163) 41 0 0) 41 0 1) 42 1 y_165) 1 3 = c 1 3 := ((up_c (nn rfl)).trans ((up_c (nn rfl)).trans ((up_c (nn rfl)).trans (up_c (nn rfl)))))
                        have h_172 := ir_41_2 hI
                        have h_173 : (up (up (up (up c 0 13 y_163) 41 0 0) 41 0 1) 42 1 y_165) 41 2 = c 41 2 := ((up_c (nn rfl)).trans ((up_n (by decide)).trans ((up_n (by decide)).trans (up_c (nn rfl)))))
                        have h_174 : (up (up (up (up c 0 13 y_163) 41 0 0) 41 0 1) 42 1 y_165) (P + 7) 4 = nl := ((up_c (np hP rfl rfl)).trans ((up_c (np hP rfl rfl)).trans ((up_c (np hP rfl rfl)).trans ((up_c (np hP rfl rfl)).trans (hnl)))))
                        have h_175 : (up (up (up (up c 0 13 y_163) 41 0 0) 41 0 1) 42 1 y_165) 41 30 = nl := ((up_c (nn rfl)).trans ((up_n (by decide)).trans ((up_n (by decide)).trans ((up_c (nn rfl)).trans (hml)))))
                        have hA_176 : Ce nl ((up (up (up (up c 0 13 y_163) 41 0 0) 41 0 1) 42 1 y_165) (P + 8)) ((up (up (up (up c 0 13 y_163) 41 0 0) 41 0 1) 42 1 y_165) 52) ((up (up (up (up c 0 13 y_163) 41 0 0) 41 0 1) 42 1 y_165) 53) := ce_fr hCe (fun j => (up_c (np hP rfl rfl)).trans ((up_c (np hP rfl rfl)).trans ((up_c (np hP rfl rfl)).trans (up_c (np hP rfl rfl))))) (fun j => (up_c (nn rfl)).trans ((up_c (nn rfl)).trans ((up_c (nn rfl)).trans (up_c (nn rfl))))) (fun j => (up_c (nn rfl)).trans ((up_c (nn rfl)).trans ((up_c (nn rfl)).trans (up_c (nn rfl)))))
                        exact K P Q (up (up (up (up c 0 13 y_163) 41 0 0) 41 0 1) 42 1 y_165) 1 (by decide) hI_169 ⟨by omega, ub_fr hU (fun j => (up_c (nn rfl)).trans ((up_c (nn rfl)).trans ((up_c (nn rfl)).trans (up_c (nn rfl))))) (fun j => (up_c (nn rfl)).trans ((up_c (nn rfl)).trans ((up_c (nn rfl)).trans (up_c (nn rfl))))), ⟨by omega, ce_le hA_176 (by omega)⟩⟩
                      · refine v_ic_lt_f (t := 14) rfl (by decide) ⟨by decide, (Int.not_lt.mp h_161), by omega⟩ ?_
                        refine q_iload_n rfl rfl ?_
                        refine q_iload_n rfl rfl ?_
                        by_cases h_177 : x6 > 400
                        · refine v_ic_gt_t (t := 14) rfl (by decide) ⟨by decide, h_177, by omega⟩ ?_
                          refine q_iconst rfl ?_
                          refine v_zret rfl rfl (by decide) ?_
                          refine bk_inl ?_
                          refine v_if_eq_t (t := 84) rfl (by decide) (by decide) ?_
                          refine q_iconst rfl ?_
                          refine v_cv rfl rfl rfl rfl (by decide) ⟨⟨rfl, rfl⟩, by decide, rfl⟩ (Nat.le_of_ble_eq_true rfl) (Nat.le_of_ble_eq_true rfl) ?_
                          refine q_iload_n rfl rfl ?_
                          refine v_if_ne_f (t := 25) rfl (by decide) (by decide) ?_
                          refine q_aload_n rfl rfl ?_
                          refine q_dup rfl rfl ?_
                          have h_178 := ir_0_13 hI
                          refine v_gi (z := 13) (v := c 0 13) rfl rfl rfl (by decide) rfl rfl rfl ?_
                          refine q_iconst rfl ?_
                          refine v_iadd (v := c 0 13 + 1) rfl rfl ?_
                          refine v_nrm (fun y_179 hy_179 => ?_)
                          refine v_pi (z := 13) rfl rfl rfl (by decide) rfl rfl rfl (by decide) ?_
                          refine v_new rfl rfl (by decide) (by omega) (Nat.le_of_ble_eq_true rfl) (by decide) rfl ?_
                          refine bk_out rfl rfl ?_
                          refine bk_thr (z := Int32.ofInt 1) rfl ⟨_, _, rfl⟩ rfl ?_
                          refine bk_inl ?_
                          refine q_istore rfl (by decide) ?_
                          refine q_aload_n rfl rfl ?_
                          refine q_aload_n rfl rfl ?_
                          refine q_iload rfl rfl ?_
                          refine q_iconst rfl ?_
                          refine v_iadd (v := (i0 : Int) + 1) rfl rfl ?_
                          refine v_scr (j := i0 + 1) rfl (by omega) (by omega) hL hx1 ?_
                          refine q_aload_n rfl rfl ?_
                          refine q_iload rfl rfl ?_
                          refine q_iconst rfl ?_
                          refine v_iadd (v := (i0 : Int) + 2) rfl rfl ?_
                          refine v_scr (j := i0 + 2) rfl (by omega) (by omega) hL hx2 ?_
                          refine q_aload_n rfl rfl ?_
                          refine q_iload rfl rfl ?_
                          refine q_iconst rfl ?_
                          refine v_iadd (v := (i0 : Int) + 3) rfl rfl ?_
                          refine v_scr (j := i0 + 3) rfl (by omega) (by omega) hL hx3 ?_
                          refine q_aload_n rfl rfl ?_
                          refine q_iload rfl rfl ?_
                          refine q_iconst rfl ?_
                          refine v_iadd (v := (i0 : Int) + 4) rfl rfl ?_
                          refine v_scr (j := i0 + 4) rfl (by omega) (by omega) hL hx4 ?_
                          refine q_aload_n rfl rfl ?_
                          refine q_iload rfl rfl ?_
                          refine q_iconst rfl ?_
                          refine v_iadd (v := (i0 : Int) + 5) rfl rfl ?_
                          refine v_scr (j := i0 + 5) rfl (by omega) (by omega) hL hx5 ?_
                          refine q_aload_n rfl rfl ?_
                          refine q_iload rfl rfl ?_
                          refine v_bip rfl (by decide) ?_
                          refine v_iadd (v := (i0 : Int) + 6) rfl rfl ?_
                          refine v_scr (j := i0 + 6) rfl (by omega) (by omega) hL hx6 ?_
                          refine q_aload_n rfl rfl ?_
                          refine q_iload rfl rfl ?_
                          refine v_bip rfl (by decide) ?_
                          refine v_iadd (v := (i0 : Int) + 7) rfl rfl ?_
                          refine v_scr (j := i0 + 7) rfl (by omega) (by omega) hL hx7 ?_
                          refine v_cv rfl rfl rfl rfl (by decide) ⟨⟨rfl, rfl⟩, by decide, rfl⟩ (Nat.le_of_ble_eq_true rfl) (Nat.le_of_ble_eq_true rfl) ?_
                          refine q_aload_n rfl rfl ?_
                          refine q_iconst rfl ?_
                          refine v_pi (z := 0) rfl rfl rfl (by decide) rfl rfl rfl (by decide) ?_
                          refine q_aload_n rfl rfl ?_
                          refine q_iload_n rfl rfl ?_
                          refine q_iconst rfl ?_
                          refine v_sip rfl (by decide) ?_
                          refine q_call rfl rfl rfl rfl ?_
                          refine q_iload_n rfl rfl ?_
                          refine q_iload_n rfl rfl ?_
                          refine v_ic_lt_f (t := 14) rfl (by decide) (by omega) ?_
                          refine q_iload_n rfl rfl ?_
                          refine q_iload_n rfl rfl ?_
                          refine v_ic_gt_f (t := 14) rfl (by decide) (by omega) ?_
                          refine q_iconst rfl ?_
                          refine q_goto (t := 15) rfl (by decide) ?_
                          refine v_zret rfl rfl (by decide) ?_
                          refine bk_inl ?_
                          refine v_if_eq_f (t := 89) rfl (by decide) (by decide) ?_
                          refine q_iload_n rfl rfl ?_
                          refine q_iconst rfl ?_
                          refine v_sip rfl (by decide) ?_
                          refine q_call rfl rfl rfl rfl ?_
                          refine q_iload_n rfl rfl ?_
                          refine q_iload_n rfl rfl ?_
                          refine v_ic_lt_f (t := 14) rfl (by decide) (by omega) ?_
                          refine q_iload_n rfl rfl ?_
                          refine q_iload_n rfl rfl ?_
                          refine v_ic_gt_f (t := 14) rfl (by decide) (by omega) ?_
                          refine q_iconst rfl ?_
                          refine q_goto (t := 15) rfl (by decide) ?_
                          refine v_zret rfl rfl (by decide) ?_
                          refine bk_inl ?_
                          refine v_if_eq_f (t := 89) rfl (by decide) (by decide) ?_
                          refine q_iload_n rfl rfl ?_
                          refine q_iconst rfl ?_
                          refine v_sip rfl (by decide) ?_
                          refine q_call rfl rfl rfl rfl ?_
                          refine q_iload_n rfl rfl ?_
                          refine q_iload_n rfl rfl ?_
                          refine v_ic_lt_f (t := 14) rfl (by decide) (by omega) ?_
                          refine q_iload_n rfl rfl ?_
                          refine q_iload_n rfl rfl ?_
                          refine v_ic_gt_f (t := 14) rfl (by decide) (by omega) ?_
                          refine q_iconst rfl ?_
                          refine q_goto (t := 15) rfl (by decide) ?_
                          refine v_zret rfl rfl (by decide) ?_
                          refine bk_inl ?_
                          refine v_if_eq_f (t := 89) rfl (by decide) (by decide) ?_
                          refine q_iload rfl rfl ?_
                          refine q_iconst rfl ?_
                          refine v_sip rfl (by decide) ?_
                          refine q_call rfl rfl rfl rfl ?_
                          refine q_iload_n rfl rfl ?_
                          refine q_iload_n rfl rfl ?_
                          refine v_ic_lt_f (t := 14) rfl (by decide) (by omega) ?_
                          refine q_iload_n rfl rfl ?_
                          refine q_iload_n rfl rfl ?_
                          refine v_ic_gt_f (t := 14) rfl (by decide) (by omega) ?_
                          refine q_iconst rfl ?_
                          refine q_goto (t := 15) rfl (by decide) ?_
                          refine v_zret rfl rfl (by decide) ?_
                          refine bk_inl ?_
                          refine v_if_eq_f (t := 89) rfl (by decide) (by decide) ?_
                          refine q_iload rfl rfl ?_
                          refine q_iconst rfl ?_
                          refine v_sip rfl (by decide) ?_
                          refine q_call rfl rfl rfl rfl ?_
                          refine q_iload_n rfl rfl ?_
                          refine q_iload_n rfl rfl ?_
                          refine v_ic_lt_f (t := 14) rfl (by decide) (by omega) ?_
                          refine q_iload_n rfl rfl ?_
                          refine q_iload_n rfl rfl ?_
                          refine v_ic_gt_f (t := 14) rfl (by decide) (by omega) ?_
                          refine q_iconst rfl ?_
                          refine q_goto (t := 15) rfl (by decide) ?_
                          refine v_zret rfl rfl (by decide) ?_
                          refine bk_inl ?_
                          refine v_if_eq_f (t := 89) rfl (by decide) (by decide) ?_
                          refine q_iload rfl rfl ?_
                          refine q_iconst rfl ?_
                          refine v_sip rfl (by decide) ?_
                          refine q_call rfl rfl rfl rfl ?_
                          refine q_iload_n rfl rfl ?_
                          refine q_iload_n rfl rfl ?_
                          refine v_ic_lt_f (t := 14) rfl (by decide) (by omega) ?_
                          refine q_iload_n rfl rfl ?_
                          refine q_iload_n rfl rfl ?_
                          refine v_ic_gt_t (t := 14) rfl (by decide) (by omega) ?_
                          refine q_iconst rfl ?_
                          refine v_zret rfl rfl (by decide) ?_
                          refine bk_inl ?_
                          refine v_if_eq_t (t := 89) rfl (by decide) (by decide) ?_
                          refine q_iconst rfl ?_
                          refine q_iconst rfl ?_
                          refine q_iconst rfl ?_
                          refine v_cv rfl rfl rfl rfl (by decide) ⟨⟨rfl, rfl⟩, by decide, rfl⟩ (Nat.le_of_ble_eq_true rfl) (Nat.le_of_ble_eq_true rfl) ?_
                          refine q_iload_n rfl rfl ?_
                          refine v_if_ne_f (t := 26) rfl (by decide) (by decide) ?_
                          refine q_aload_n rfl rfl ?_
                          refine v_gi (z := 0) (v := 0) rfl rfl rfl (by decide) rfl rfl (up_e rfl) ?_
                          refine v_if_ne_f (t := 26) rfl (by decide) (by decide) ?_
                          refine q_aload_n rfl rfl ?_
                          refine q_iload_n rfl rfl ?_
                          refine v_pi (z := 0) rfl rfl rfl (by decide) rfl rfl rfl (by decide) ?_
                          refine q_aload_n rfl rfl ?_
                          refine v_gr (t := 42) rfl rfl rfl (by decide) rfl ?_
                          refine q_iload_n rfl rfl ?_
                          refine q_dup2 rfl ⟨rfl, rfl⟩ ?_
                          have h_180 := ir_42 hI 1
                          refine v_ia (v := c 42 1) rfl rfl (by decide) (by decide) (by decide) ((up_c (nn rfl)).trans ((up_c (nn rfl)).trans (up_c (nn rfl)))) ?_
                          refine q_iconst rfl ?_
                          refine v_iadd (v := c 42 1 + 1) rfl rfl ?_
                          refine v_nrm (fun y_181 hy_181 => ?_)
                          refine v_is rfl rfl (by decide) (by decide) (by decide) ?_
                          refine q_aload_n rfl rfl ?_
                          refine v_gi (z := 0) (v := 1) rfl rfl rfl (by decide) rfl rfl ((up_c (nn rfl)).trans (up_e rfl)) ?_
                          refine v_if_ne_t (t := 37) rfl (by decide) (by decide) ?_
                          refine q_iconst rfl ?_
                          refine v_zret rfl rfl (by decide) ?_
                          refine bk_inl ?_
                          refine v_if_ne_f (t := 100) rfl (by decide) (by decide) ?_
                          refine q_iconst rfl ?_
                          refine q_iret rfl rfl ?_
                          refine bk_inl ?_
                          refine q_istore rfl (by decide) ?_
                          refine q_aload_n rfl rfl ?_
                          refine v_cv rfl rfl rfl rfl (by decide) ⟨⟨rfl, rfl⟩, by decide, rfl⟩ (Nat.le_of_ble_eq_true rfl) (Nat.le_of_ble_eq_true rfl) ?_
                          refine q_aload_n rfl rfl ?_
                          refine v_gi (z := 0) (v := 1) rfl rfl rfl (by decide) rfl rfl ((up_c (nn rfl)).trans (up_e rfl)) ?_
                          refine q_iret rfl rfl ?_
                          refine bk_inl ?_
                          refine q_iload rfl rfl ?_
                          refine v_ic_eq_t (t := 755) rfl (by decide) (by decide) ?_
                          refine q_iload rfl rfl ?_
                          refine v_if_ne_t (t := 772) rfl (by decide) (by decide) ?_
                          refine q_goto (t := 1844) rfl (by decide) ?_
                          have hI_182 := iw_0_13 (v := y_179) hI ⟨hy_179.1, hy_179.2⟩
                          have hI_183 := iw_41_0 (v := 0) hI_182 ⟨by decide, by decide⟩
                          have hI_184 := iw_41_0 (v := 1) hI_183 ⟨by decide, by decide⟩
                          have hI_185 := iw_42 (j := 1) (v := y_181) hI_184 ⟨hy_181.1, hy_181.2⟩
                          refine Wp_ls [(4, vi (i0 : Int)), (3, .ref 67), (2, .ref 41), (1, .ref 0), (0, .ref a_SC)] (lsub_cons rfl (lsub_cons rfl (lsub_cons rfl (lsub_cons rfl (lsub_cons rfl lsub_nil))))) ?_
                          have h_186 := ir_1_3 hI
                          have h_187 : (up (up (up (up c 0 13 y_179) 41 0 0) 41 0 1) 42 1 y_181) 1 3 = c 1 3 := ((up_c (nn rfl)).trans ((up_c (nn rfl)).trans ((up_c (nn rfl)).trans (up_c (nn rfl)))))
                          have h_188 := ir_41_2 hI
                          have h_189 : (up (up (up (up c 0 13 y_179) 41 0 0) 41 0 1) 42 1 y_181) 41 2 = c 41 2 := ((up_c (nn rfl)).trans ((up_n (by decide)).trans ((up_n (by decide)).trans (up_c (nn rfl)))))
                          have h_190 : (up (up (up (up c 0 13 y_179) 41 0 0) 41 0 1) 42 1 y_181) (P + 7) 4 = nl := ((up_c (np hP rfl rfl)).trans ((up_c (np hP rfl rfl)).trans ((up_c (np hP rfl rfl)).trans ((up_c (np hP rfl rfl)).trans (hnl)))))
                          have h_191 : (up (up (up (up c 0 13 y_179) 41 0 0) 41 0 1) 42 1 y_181) 41 30 = nl := ((up_c (nn rfl)).trans ((up_n (by decide)).trans ((up_n (by decide)).trans ((up_c (nn rfl)).trans (hml)))))
                          have hA_192 : Ce nl ((up (up (up (up c 0 13 y_179) 41 0 0) 41 0 1) 42 1 y_181) (P + 8)) ((up (up (up (up c 0 13 y_179) 41 0 0) 41 0 1) 42 1 y_181) 52) ((up (up (up (up c 0 13 y_179) 41 0 0) 41 0 1) 42 1 y_181) 53) := ce_fr hCe (fun j => (up_c (np hP rfl rfl)).trans ((up_c (np hP rfl rfl)).trans ((up_c (np hP rfl rfl)).trans (up_c (np hP rfl rfl))))) (fun j => (up_c (nn rfl)).trans ((up_c (nn rfl)).trans ((up_c (nn rfl)).trans (up_c (nn rfl))))) (fun j => (up_c (nn rfl)).trans ((up_c (nn rfl)).trans ((up_c (nn rfl)).trans (up_c (nn rfl)))))
                          exact K P Q (up (up (up (up c 0 13 y_179) 41 0 0) 41 0 1) 42 1 y_181) 1 (by decide) hI_185 ⟨by omega, ub_fr hU (fun j => (up_c (nn rfl)).trans ((up_c (nn rfl)).trans ((up_c (nn rfl)).trans (up_c (nn rfl))))) (fun j => (up_c (nn rfl)).trans ((up_c (nn rfl)).trans ((up_c (nn rfl)).trans (up_c (nn rfl))))), ⟨by omega, ce_le hA_192 (by omega)⟩⟩
                        · refine v_ic_gt_f (t := 14) rfl (by decide) ⟨by omega, (Int.not_lt.mp h_177), by decide⟩ ?_
                          refine q_iconst rfl ?_
                          refine q_goto (t := 15) rfl (by decide) ?_
                          refine v_zret rfl rfl (by decide) ?_
                          refine bk_inl ?_
                          refine v_if_eq_f (t := 84) rfl (by decide) (by decide) ?_
                          refine q_iload rfl rfl ?_
                          refine q_iconst rfl ?_
                          refine q_iconst rfl ?_
                          refine q_call rfl rfl rfl rfl ?_
                          refine q_iload_n rfl rfl ?_
                          refine q_iload_n rfl rfl ?_
                          by_cases h_193 : x7 < 0
                          · refine v_ic_lt_t (t := 14) rfl (by decide) ⟨by omega, h_193, by decide⟩ ?_
                            refine q_iconst rfl ?_
                            refine v_zret rfl rfl (by decide) ?_
                            refine bk_inl ?_
                            refine v_if_eq_t (t := 84) rfl (by decide) (by decide) ?_
                            refine q_iconst rfl ?_
                            refine v_cv rfl rfl rfl rfl (by decide) ⟨⟨rfl, rfl⟩, by decide, rfl⟩ (Nat.le_of_ble_eq_true rfl) (Nat.le_of_ble_eq_true rfl) ?_
                            refine q_iload_n rfl rfl ?_
                            refine v_if_ne_f (t := 25) rfl (by decide) (by decide) ?_
                            refine q_aload_n rfl rfl ?_
                            refine q_dup rfl rfl ?_
                            have h_194 := ir_0_13 hI
                            refine v_gi (z := 13) (v := c 0 13) rfl rfl rfl (by decide) rfl rfl rfl ?_
                            refine q_iconst rfl ?_
                            refine v_iadd (v := c 0 13 + 1) rfl rfl ?_
                            refine v_nrm (fun y_195 hy_195 => ?_)
                            refine v_pi (z := 13) rfl rfl rfl (by decide) rfl rfl rfl (by decide) ?_
                            refine v_new rfl rfl (by decide) (by omega) (Nat.le_of_ble_eq_true rfl) (by decide) rfl ?_
                            refine bk_out rfl rfl ?_
                            refine bk_thr (z := Int32.ofInt 1) rfl ⟨_, _, rfl⟩ rfl ?_
                            refine bk_inl ?_
                            refine q_istore rfl (by decide) ?_
                            refine q_aload_n rfl rfl ?_
                            refine q_aload_n rfl rfl ?_
                            refine q_iload rfl rfl ?_
                            refine q_iconst rfl ?_
                            refine v_iadd (v := (i0 : Int) + 1) rfl rfl ?_
                            refine v_scr (j := i0 + 1) rfl (by omega) (by omega) hL hx1 ?_
                            refine q_aload_n rfl rfl ?_
                            refine q_iload rfl rfl ?_
                            refine q_iconst rfl ?_
                            refine v_iadd (v := (i0 : Int) + 2) rfl rfl ?_
                            refine v_scr (j := i0 + 2) rfl (by omega) (by omega) hL hx2 ?_
                            refine q_aload_n rfl rfl ?_
                            refine q_iload rfl rfl ?_
                            refine q_iconst rfl ?_
                            refine v_iadd (v := (i0 : Int) + 3) rfl rfl ?_
                            refine v_scr (j := i0 + 3) rfl (by omega) (by omega) hL hx3 ?_
                            refine q_aload_n rfl rfl ?_
                            refine q_iload rfl rfl ?_
                            refine q_iconst rfl ?_
                            refine v_iadd (v := (i0 : Int) + 4) rfl rfl ?_
                            refine v_scr (j := i0 + 4) rfl (by omega) (by omega) hL hx4 ?_
                            refine q_aload_n rfl rfl ?_
                            refine q_iload rfl rfl ?_
                            refine q_iconst rfl ?_
                            refine v_iadd (v := (i0 : Int) + 5) rfl rfl ?_
                            refine v_scr (j := i0 + 5) rfl (by omega) (by omega) hL hx5 ?_
                            refine q_aload_n rfl rfl ?_
                            refine q_iload rfl rfl ?_
                            refine v_bip rfl (by decide) ?_
                            refine v_iadd (v := (i0 : Int) + 6) rfl rfl ?_
                            refine v_scr (j := i0 + 6) rfl (by omega) (by omega) hL hx6 ?_
                            refine q_aload_n rfl rfl ?_
                            refine q_iload rfl rfl ?_
                            refine v_bip rfl (by decide) ?_
                            refine v_iadd (v := (i0 : Int) + 7) rfl rfl ?_
                            refine v_scr (j := i0 + 7) rfl (by omega) (by omega) hL hx7 ?_
                            refine v_cv rfl rfl rfl rfl (by decide) ⟨⟨rfl, rfl⟩, by decide, rfl⟩ (Nat.le_of_ble_eq_true rfl) (Nat.le_of_ble_eq_true rfl) ?_
                            refine q_aload_n rfl rfl ?_
                            refine q_iconst rfl ?_
                            refine v_pi (z := 0) rfl rfl rfl (by decide) rfl rfl rfl (by decide) ?_
                            refine q_aload_n rfl rfl ?_
                            refine q_iload_n rfl rfl ?_
                            refine q_iconst rfl ?_
                            refine v_sip rfl (by decide) ?_
                            refine q_call rfl rfl rfl rfl ?_
                            refine q_iload_n rfl rfl ?_
                            refine q_iload_n rfl rfl ?_
                            refine v_ic_lt_f (t := 14) rfl (by decide) (by omega) ?_
                            refine q_iload_n rfl rfl ?_
                            refine q_iload_n rfl rfl ?_
                            refine v_ic_gt_f (t := 14) rfl (by decide) (by omega) ?_
                            refine q_iconst rfl ?_
                            refine q_goto (t := 15) rfl (by decide) ?_
                            refine v_zret rfl rfl (by decide) ?_
                            refine bk_inl ?_
                            refine v_if_eq_f (t := 89) rfl (by decide) (by decide) ?_
                            refine q_iload_n rfl rfl ?_
                            refine q_iconst rfl ?_
                            refine v_sip rfl (by decide) ?_
                            refine q_call rfl rfl rfl rfl ?_
                            refine q_iload_n rfl rfl ?_
                            refine q_iload_n rfl rfl ?_
                            refine v_ic_lt_f (t := 14) rfl (by decide) (by omega) ?_
                            refine q_iload_n rfl rfl ?_
                            refine q_iload_n rfl rfl ?_
                            refine v_ic_gt_f (t := 14) rfl (by decide) (by omega) ?_
                            refine q_iconst rfl ?_
                            refine q_goto (t := 15) rfl (by decide) ?_
                            refine v_zret rfl rfl (by decide) ?_
                            refine bk_inl ?_
                            refine v_if_eq_f (t := 89) rfl (by decide) (by decide) ?_
                            refine q_iload_n rfl rfl ?_
                            refine q_iconst rfl ?_
                            refine v_sip rfl (by decide) ?_
                            refine q_call rfl rfl rfl rfl ?_
                            refine q_iload_n rfl rfl ?_
                            refine q_iload_n rfl rfl ?_
                            refine v_ic_lt_f (t := 14) rfl (by decide) (by omega) ?_
                            refine q_iload_n rfl rfl ?_
                            refine q_iload_n rfl rfl ?_
                            refine v_ic_gt_f (t := 14) rfl (by decide) (by omega) ?_
                            refine q_iconst rfl ?_
                            refine q_goto (t := 15) rfl (by decide) ?_
                            refine v_zret rfl rfl (by decide) ?_
                            refine bk_inl ?_
                            refine v_if_eq_f (t := 89) rfl (by decide) (by decide) ?_
                            refine q_iload rfl rfl ?_
                            refine q_iconst rfl ?_
                            refine v_sip rfl (by decide) ?_
                            refine q_call rfl rfl rfl rfl ?_
                            refine q_iload_n rfl rfl ?_
                            refine q_iload_n rfl rfl ?_
                            refine v_ic_lt_f (t := 14) rfl (by decide) (by omega) ?_
                            refine q_iload_n rfl rfl ?_
                            refine q_iload_n rfl rfl ?_
                            refine v_ic_gt_f (t := 14) rfl (by decide) (by omega) ?_
                            refine q_iconst rfl ?_
                            refine q_goto (t := 15) rfl (by decide) ?_
                            refine v_zret rfl rfl (by decide) ?_
                            refine bk_inl ?_
                            refine v_if_eq_f (t := 89) rfl (by decide) (by decide) ?_
                            refine q_iload rfl rfl ?_
                            refine q_iconst rfl ?_
                            refine v_sip rfl (by decide) ?_
                            refine q_call rfl rfl rfl rfl ?_
                            refine q_iload_n rfl rfl ?_
                            refine q_iload_n rfl rfl ?_
                            refine v_ic_lt_f (t := 14) rfl (by decide) (by omega) ?_
                            refine q_iload_n rfl rfl ?_
                            refine q_iload_n rfl rfl ?_
                            refine v_ic_gt_f (t := 14) rfl (by decide) (by omega) ?_
                            refine q_iconst rfl ?_
                            refine q_goto (t := 15) rfl (by decide) ?_
                            refine v_zret rfl rfl (by decide) ?_
                            refine bk_inl ?_
                            refine v_if_eq_f (t := 89) rfl (by decide) (by decide) ?_
                            refine q_iload rfl rfl ?_
                            refine q_iconst rfl ?_
                            refine v_sip rfl (by decide) ?_
                            refine q_call rfl rfl rfl rfl ?_
                            refine q_iload_n rfl rfl ?_
                            refine q_iload_n rfl rfl ?_
                            refine v_ic_lt_f (t := 14) rfl (by decide) (by omega) ?_
                            refine q_iload_n rfl rfl ?_
                            refine q_iload_n rfl rfl ?_
                            refine v_ic_gt_f (t := 14) rfl (by decide) (by omega) ?_
                            refine q_iconst rfl ?_
                            refine q_goto (t := 15) rfl (by decide) ?_
                            refine v_zret rfl rfl (by decide) ?_
                            refine bk_inl ?_
                            refine v_if_eq_f (t := 89) rfl (by decide) (by decide) ?_
                            refine q_iload rfl rfl ?_
                            refine q_iconst rfl ?_
                            refine q_iconst rfl ?_
                            refine q_call rfl rfl rfl rfl ?_
                            refine q_iload_n rfl rfl ?_
                            refine q_iload_n rfl rfl ?_
                            refine v_ic_lt_t (t := 14) rfl (by decide) (by omega) ?_
                            refine q_iconst rfl ?_
                            refine v_zret rfl rfl (by decide) ?_
                            refine bk_inl ?_
                            refine v_if_eq_t (t := 89) rfl (by decide) (by decide) ?_
                            refine q_iconst rfl ?_
                            refine q_iconst rfl ?_
                            refine q_iconst rfl ?_
                            refine v_cv rfl rfl rfl rfl (by decide) ⟨⟨rfl, rfl⟩, by decide, rfl⟩ (Nat.le_of_ble_eq_true rfl) (Nat.le_of_ble_eq_true rfl) ?_
                            refine q_iload_n rfl rfl ?_
                            refine v_if_ne_f (t := 26) rfl (by decide) (by decide) ?_
                            refine q_aload_n rfl rfl ?_
                            refine v_gi (z := 0) (v := 0) rfl rfl rfl (by decide) rfl rfl (up_e rfl) ?_
                            refine v_if_ne_f (t := 26) rfl (by decide) (by decide) ?_
                            refine q_aload_n rfl rfl ?_
                            refine q_iload_n rfl rfl ?_
                            refine v_pi (z := 0) rfl rfl rfl (by decide) rfl rfl rfl (by decide) ?_
                            refine q_aload_n rfl rfl ?_
                            refine v_gr (t := 42) rfl rfl rfl (by decide) rfl ?_
                            refine q_iload_n rfl rfl ?_
                            refine q_dup2 rfl ⟨rfl, rfl⟩ ?_
                            have h_196 := ir_42 hI 1
                            refine v_ia (v := c 42 1) rfl rfl (by decide) (by decide) (by decide) ((up_c (nn rfl)).trans ((up_c (nn rfl)).trans (up_c (nn rfl)))) ?_
                            refine q_iconst rfl ?_
                            refine v_iadd (v := c 42 1 + 1) rfl rfl ?_
                            refine v_nrm (fun y_197 hy_197 => ?_)
                            refine v_is rfl rfl (by decide) (by decide) (by decide) ?_
                            refine q_aload_n rfl rfl ?_
                            refine v_gi (z := 0) (v := 1) rfl rfl rfl (by decide) rfl rfl ((up_c (nn rfl)).trans (up_e rfl)) ?_
                            refine v_if_ne_t (t := 37) rfl (by decide) (by decide) ?_
                            refine q_iconst rfl ?_
                            refine v_zret rfl rfl (by decide) ?_
                            refine bk_inl ?_
                            refine v_if_ne_f (t := 100) rfl (by decide) (by decide) ?_
                            refine q_iconst rfl ?_
                            refine q_iret rfl rfl ?_
                            refine bk_inl ?_
                            refine q_istore rfl (by decide) ?_
                            refine q_aload_n rfl rfl ?_
                            refine v_cv rfl rfl rfl rfl (by decide) ⟨⟨rfl, rfl⟩, by decide, rfl⟩ (Nat.le_of_ble_eq_true rfl) (Nat.le_of_ble_eq_true rfl) ?_
                            refine q_aload_n rfl rfl ?_
                            refine v_gi (z := 0) (v := 1) rfl rfl rfl (by decide) rfl rfl ((up_c (nn rfl)).trans (up_e rfl)) ?_
                            refine q_iret rfl rfl ?_
                            refine bk_inl ?_
                            refine q_iload rfl rfl ?_
                            refine v_ic_eq_t (t := 755) rfl (by decide) (by decide) ?_
                            refine q_iload rfl rfl ?_
                            refine v_if_ne_t (t := 772) rfl (by decide) (by decide) ?_
                            refine q_goto (t := 1844) rfl (by decide) ?_
                            have hI_198 := iw_0_13 (v := y_195) hI ⟨hy_195.1, hy_195.2⟩
                            have hI_199 := iw_41_0 (v := 0) hI_198 ⟨by decide, by decide⟩
                            have hI_200 := iw_41_0 (v := 1) hI_199 ⟨by decide, by decide⟩
                            have hI_201 := iw_42 (j := 1) (v := y_197) hI_200 ⟨hy_197.1, hy_197.2⟩
                            refine Wp_ls [(4, vi (i0 : Int)), (3, .ref 67), (2, .ref 41), (1, .ref 0), (0, .ref a_SC)] (lsub_cons rfl (lsub_cons rfl (lsub_cons rfl (lsub_cons rfl (lsub_cons rfl lsub_nil))))) ?_
                            have h_202 := ir_1_3 hI
                            have h_203 : (up (up (up (up c 0 13 y_195) 41 0 0) 41 0 1) 42 1 y_197) 1 3 = c 1 3 := ((up_c (nn rfl)).trans ((up_c (nn rfl)).trans ((up_c (nn rfl)).trans (up_c (nn rfl)))))
                            have h_204 := ir_41_2 hI
                            have h_205 : (up (up (up (up c 0 13 y_195) 41 0 0) 41 0 1) 42 1 y_197) 41 2 = c 41 2 := ((up_c (nn rfl)).trans ((up_n (by decide)).trans ((up_n (by decide)).trans (up_c (nn rfl)))))
                            have h_206 : (up (up (up (up c 0 13 y_195) 41 0 0) 41 0 1) 42 1 y_197) (P + 7) 4 = nl := ((up_c (np hP rfl rfl)).trans ((up_c (np hP rfl rfl)).trans ((up_c (np hP rfl rfl)).trans ((up_c (np hP rfl rfl)).trans (hnl)))))
                            have h_207 : (up (up (up (up c 0 13 y_195) 41 0 0) 41 0 1) 42 1 y_197) 41 30 = nl := ((up_c (nn rfl)).trans ((up_n (by decide)).trans ((up_n (by decide)).trans ((up_c (nn rfl)).trans (hml)))))
                            have hA_208 : Ce nl ((up (up (up (up c 0 13 y_195) 41 0 0) 41 0 1) 42 1 y_197) (P + 8)) ((up (up (up (up c 0 13 y_195) 41 0 0) 41 0 1) 42 1 y_197) 52) ((up (up (up (up c 0 13 y_195) 41 0 0) 41 0 1) 42 1 y_197) 53) := ce_fr hCe (fun j => (up_c (np hP rfl rfl)).trans ((up_c (np hP rfl rfl)).trans ((up_c (np hP rfl rfl)).trans (up_c (np hP rfl rfl))))) (fun j => (up_c (nn rfl)).trans ((up_c (nn rfl)).trans ((up_c (nn rfl)).trans (up_c (nn rfl))))) (fun j => (up_c (nn rfl)).trans ((up_c (nn rfl)).trans ((up_c (nn rfl)).trans (up_c (nn rfl)))))
                            exact K P Q (up (up (up (up c 0 13 y_195) 41 0 0) 41 0 1) 42 1 y_197) 1 (by decide) hI_201 ⟨by omega, ub_fr hU (fun j => (up_c (nn rfl)).trans ((up_c (nn rfl)).trans ((up_c (nn rfl)).trans (up_c (nn rfl))))) (fun j => (up_c (nn rfl)).trans ((up_c (nn rfl)).trans ((up_c (nn rfl)).trans (up_c (nn rfl))))), ⟨by omega, ce_le hA_208 (by omega)⟩⟩
                          · refine v_ic_lt_f (t := 14) rfl (by decide) ⟨by decide, (Int.not_lt.mp h_193), by omega⟩ ?_
                            refine q_iload_n rfl rfl ?_
                            refine q_iload_n rfl rfl ?_
                            by_cases h_209 : x7 > 5
                            · refine v_ic_gt_t (t := 14) rfl (by decide) ⟨by decide, h_209, by omega⟩ ?_
                              refine q_iconst rfl ?_
                              refine v_zret rfl rfl (by decide) ?_
                              refine bk_inl ?_
                              refine v_if_eq_t (t := 84) rfl (by decide) (by decide) ?_
                              refine q_iconst rfl ?_
                              refine v_cv rfl rfl rfl rfl (by decide) ⟨⟨rfl, rfl⟩, by decide, rfl⟩ (Nat.le_of_ble_eq_true rfl) (Nat.le_of_ble_eq_true rfl) ?_
                              refine q_iload_n rfl rfl ?_
                              refine v_if_ne_f (t := 25) rfl (by decide) (by decide) ?_
                              refine q_aload_n rfl rfl ?_
                              refine q_dup rfl rfl ?_
                              have h_210 := ir_0_13 hI
                              refine v_gi (z := 13) (v := c 0 13) rfl rfl rfl (by decide) rfl rfl rfl ?_
                              refine q_iconst rfl ?_
                              refine v_iadd (v := c 0 13 + 1) rfl rfl ?_
                              refine v_nrm (fun y_211 hy_211 => ?_)
                              refine v_pi (z := 13) rfl rfl rfl (by decide) rfl rfl rfl (by decide) ?_
                              refine v_new rfl rfl (by decide) (by omega) (Nat.le_of_ble_eq_true rfl) (by decide) rfl ?_
                              refine bk_out rfl rfl ?_
                              refine bk_thr (z := Int32.ofInt 1) rfl ⟨_, _, rfl⟩ rfl ?_
                              refine bk_inl ?_
                              refine q_istore rfl (by decide) ?_
                              refine q_aload_n rfl rfl ?_
                              refine q_aload_n rfl rfl ?_
                              refine q_iload rfl rfl ?_
                              refine q_iconst rfl ?_
                              refine v_iadd (v := (i0 : Int) + 1) rfl rfl ?_
                              refine v_scr (j := i0 + 1) rfl (by omega) (by omega) hL hx1 ?_
                              refine q_aload_n rfl rfl ?_
                              refine q_iload rfl rfl ?_
                              refine q_iconst rfl ?_
                              refine v_iadd (v := (i0 : Int) + 2) rfl rfl ?_
                              refine v_scr (j := i0 + 2) rfl (by omega) (by omega) hL hx2 ?_
                              refine q_aload_n rfl rfl ?_
                              refine q_iload rfl rfl ?_
                              refine q_iconst rfl ?_
                              refine v_iadd (v := (i0 : Int) + 3) rfl rfl ?_
                              refine v_scr (j := i0 + 3) rfl (by omega) (by omega) hL hx3 ?_
                              refine q_aload_n rfl rfl ?_
                              refine q_iload rfl rfl ?_
                              refine q_iconst rfl ?_
                              refine v_iadd (v := (i0 : Int) + 4) rfl rfl ?_
                              refine v_scr (j := i0 + 4) rfl (by omega) (by omega) hL hx4 ?_
                              refine q_aload_n rfl rfl ?_
                              refine q_iload rfl rfl ?_
                              refine q_iconst rfl ?_
                              refine v_iadd (v := (i0 : Int) + 5) rfl rfl ?_
                              refine v_scr (j := i0 + 5) rfl (by omega) (by omega) hL hx5 ?_
                              refine q_aload_n rfl rfl ?_
                              refine q_iload rfl rfl ?_
                              refine v_bip rfl (by decide) ?_
                              refine v_iadd (v := (i0 : Int) + 6) rfl rfl ?_
                              refine v_scr (j := i0 + 6) rfl (by omega) (by omega) hL hx6 ?_
                              refine q_aload_n rfl rfl ?_
                              refine q_iload rfl rfl ?_
                              refine v_bip rfl (by decide) ?_
                              refine v_iadd (v := (i0 : Int) + 7) rfl rfl ?_
                              refine v_scr (j := i0 + 7) rfl (by omega) (by omega) hL hx7 ?_
                              refine v_cv rfl rfl rfl rfl (by decide) ⟨⟨rfl, rfl⟩, by decide, rfl⟩ (Nat.le_of_ble_eq_true rfl) (Nat.le_of_ble_eq_true rfl) ?_
                              refine q_aload_n rfl rfl ?_
                              refine q_iconst rfl ?_
                              refine v_pi (z := 0) rfl rfl rfl (by decide) rfl rfl rfl (by decide) ?_
                              refine q_aload_n rfl rfl ?_
                              refine q_iload_n rfl rfl ?_
                              refine q_iconst rfl ?_
                              refine v_sip rfl (by decide) ?_
                              refine q_call rfl rfl rfl rfl ?_
                              refine q_iload_n rfl rfl ?_
                              refine q_iload_n rfl rfl ?_
                              refine v_ic_lt_f (t := 14) rfl (by decide) (by omega) ?_
                              refine q_iload_n rfl rfl ?_
                              refine q_iload_n rfl rfl ?_
                              refine v_ic_gt_f (t := 14) rfl (by decide) (by omega) ?_
                              refine q_iconst rfl ?_
                              refine q_goto (t := 15) rfl (by decide) ?_
                              refine v_zret rfl rfl (by decide) ?_
                              refine bk_inl ?_
                              refine v_if_eq_f (t := 89) rfl (by decide) (by decide) ?_
                              refine q_iload_n rfl rfl ?_
                              refine q_iconst rfl ?_
                              refine v_sip rfl (by decide) ?_
                              refine q_call rfl rfl rfl rfl ?_
                              refine q_iload_n rfl rfl ?_
                              refine q_iload_n rfl rfl ?_
                              refine v_ic_lt_f (t := 14) rfl (by decide) (by omega) ?_
                              refine q_iload_n rfl rfl ?_
                              refine q_iload_n rfl rfl ?_
                              refine v_ic_gt_f (t := 14) rfl (by decide) (by omega) ?_
                              refine q_iconst rfl ?_
                              refine q_goto (t := 15) rfl (by decide) ?_
                              refine v_zret rfl rfl (by decide) ?_
                              refine bk_inl ?_
                              refine v_if_eq_f (t := 89) rfl (by decide) (by decide) ?_
                              refine q_iload_n rfl rfl ?_
                              refine q_iconst rfl ?_
                              refine v_sip rfl (by decide) ?_
                              refine q_call rfl rfl rfl rfl ?_
                              refine q_iload_n rfl rfl ?_
                              refine q_iload_n rfl rfl ?_
                              refine v_ic_lt_f (t := 14) rfl (by decide) (by omega) ?_
                              refine q_iload_n rfl rfl ?_
                              refine q_iload_n rfl rfl ?_
                              refine v_ic_gt_f (t := 14) rfl (by decide) (by omega) ?_
                              refine q_iconst rfl ?_
                              refine q_goto (t := 15) rfl (by decide) ?_
                              refine v_zret rfl rfl (by decide) ?_
                              refine bk_inl ?_
                              refine v_if_eq_f (t := 89) rfl (by decide) (by decide) ?_
                              refine q_iload rfl rfl ?_
                              refine q_iconst rfl ?_
                              refine v_sip rfl (by decide) ?_
                              refine q_call rfl rfl rfl rfl ?_
                              refine q_iload_n rfl rfl ?_
                              refine q_iload_n rfl rfl ?_
                              refine v_ic_lt_f (t := 14) rfl (by decide) (by omega) ?_
                              refine q_iload_n rfl rfl ?_
                              refine q_iload_n rfl rfl ?_
                              refine v_ic_gt_f (t := 14) rfl (by decide) (by omega) ?_
                              refine q_iconst rfl ?_
                              refine q_goto (t := 15) rfl (by decide) ?_
                              refine v_zret rfl rfl (by decide) ?_
                              refine bk_inl ?_
                              refine v_if_eq_f (t := 89) rfl (by decide) (by decide) ?_
                              refine q_iload rfl rfl ?_
                              refine q_iconst rfl ?_
                              refine v_sip rfl (by decide) ?_
                              refine q_call rfl rfl rfl rfl ?_
                              refine q_iload_n rfl rfl ?_
                              refine q_iload_n rfl rfl ?_
                              refine v_ic_lt_f (t := 14) rfl (by decide) (by omega) ?_
                              refine q_iload_n rfl rfl ?_
                              refine q_iload_n rfl rfl ?_
                              refine v_ic_gt_f (t := 14) rfl (by decide) (by omega) ?_
                              refine q_iconst rfl ?_
                              refine q_goto (t := 15) rfl (by decide) ?_
                              refine v_zret rfl rfl (by decide) ?_
                              refine bk_inl ?_
                              refine v_if_eq_f (t := 89) rfl (by decide) (by decide) ?_
                              refine q_iload rfl rfl ?_
                              refine q_iconst rfl ?_
                              refine v_sip rfl (by decide) ?_
                              refine q_call rfl rfl rfl rfl ?_
                              refine q_iload_n rfl rfl ?_
                              refine q_iload_n rfl rfl ?_
                              refine v_ic_lt_f (t := 14) rfl (by decide) (by omega) ?_
                              refine q_iload_n rfl rfl ?_
                              refine q_iload_n rfl rfl ?_
                              refine v_ic_gt_f (t := 14) rfl (by decide) (by omega) ?_
                              refine q_iconst rfl ?_
                              refine q_goto (t := 15) rfl (by decide) ?_
                              refine v_zret rfl rfl (by decide) ?_
                              refine bk_inl ?_
                              refine v_if_eq_f (t := 89) rfl (by decide) (by decide) ?_
                              refine q_iload rfl rfl ?_
                              refine q_iconst rfl ?_
                              refine q_iconst rfl ?_
                              refine q_call rfl rfl rfl rfl ?_
                              refine q_iload_n rfl rfl ?_
                              refine q_iload_n rfl rfl ?_
                              refine v_ic_lt_f (t := 14) rfl (by decide) (by omega) ?_
                              refine q_iload_n rfl rfl ?_
                              refine q_iload_n rfl rfl ?_
                              refine v_ic_gt_t (t := 14) rfl (by decide) (by omega) ?_
                              refine q_iconst rfl ?_
                              refine v_zret rfl rfl (by decide) ?_
                              refine bk_inl ?_
                              refine v_if_eq_t (t := 89) rfl (by decide) (by decide) ?_
                              refine q_iconst rfl ?_
                              refine q_iconst rfl ?_
                              refine q_iconst rfl ?_
                              refine v_cv rfl rfl rfl rfl (by decide) ⟨⟨rfl, rfl⟩, by decide, rfl⟩ (Nat.le_of_ble_eq_true rfl) (Nat.le_of_ble_eq_true rfl) ?_
                              refine q_iload_n rfl rfl ?_
                              refine v_if_ne_f (t := 26) rfl (by decide) (by decide) ?_
                              refine q_aload_n rfl rfl ?_
                              refine v_gi (z := 0) (v := 0) rfl rfl rfl (by decide) rfl rfl (up_e rfl) ?_
                              refine v_if_ne_f (t := 26) rfl (by decide) (by decide) ?_
                              refine q_aload_n rfl rfl ?_
                              refine q_iload_n rfl rfl ?_
                              refine v_pi (z := 0) rfl rfl rfl (by decide) rfl rfl rfl (by decide) ?_
                              refine q_aload_n rfl rfl ?_
                              refine v_gr (t := 42) rfl rfl rfl (by decide) rfl ?_
                              refine q_iload_n rfl rfl ?_
                              refine q_dup2 rfl ⟨rfl, rfl⟩ ?_
                              have h_212 := ir_42 hI 1
                              refine v_ia (v := c 42 1) rfl rfl (by decide) (by decide) (by decide) ((up_c (nn rfl)).trans ((up_c (nn rfl)).trans (up_c (nn rfl)))) ?_
                              refine q_iconst rfl ?_
                              refine v_iadd (v := c 42 1 + 1) rfl rfl ?_
                              refine v_nrm (fun y_213 hy_213 => ?_)
                              refine v_is rfl rfl (by decide) (by decide) (by decide) ?_
                              refine q_aload_n rfl rfl ?_
                              refine v_gi (z := 0) (v := 1) rfl rfl rfl (by decide) rfl rfl ((up_c (nn rfl)).trans (up_e rfl)) ?_
                              refine v_if_ne_t (t := 37) rfl (by decide) (by decide) ?_
                              refine q_iconst rfl ?_
                              refine v_zret rfl rfl (by decide) ?_
                              refine bk_inl ?_
                              refine v_if_ne_f (t := 100) rfl (by decide) (by decide) ?_
                              refine q_iconst rfl ?_
                              refine q_iret rfl rfl ?_
                              refine bk_inl ?_
                              refine q_istore rfl (by decide) ?_
                              refine q_aload_n rfl rfl ?_
                              refine v_cv rfl rfl rfl rfl (by decide) ⟨⟨rfl, rfl⟩, by decide, rfl⟩ (Nat.le_of_ble_eq_true rfl) (Nat.le_of_ble_eq_true rfl) ?_
                              refine q_aload_n rfl rfl ?_
                              refine v_gi (z := 0) (v := 1) rfl rfl rfl (by decide) rfl rfl ((up_c (nn rfl)).trans (up_e rfl)) ?_
                              refine q_iret rfl rfl ?_
                              refine bk_inl ?_
                              refine q_iload rfl rfl ?_
                              refine v_ic_eq_t (t := 755) rfl (by decide) (by decide) ?_
                              refine q_iload rfl rfl ?_
                              refine v_if_ne_t (t := 772) rfl (by decide) (by decide) ?_
                              refine q_goto (t := 1844) rfl (by decide) ?_
                              have hI_214 := iw_0_13 (v := y_211) hI ⟨hy_211.1, hy_211.2⟩
                              have hI_215 := iw_41_0 (v := 0) hI_214 ⟨by decide, by decide⟩
                              have hI_216 := iw_41_0 (v := 1) hI_215 ⟨by decide, by decide⟩
                              have hI_217 := iw_42 (j := 1) (v := y_213) hI_216 ⟨hy_213.1, hy_213.2⟩
                              refine Wp_ls [(4, vi (i0 : Int)), (3, .ref 67), (2, .ref 41), (1, .ref 0), (0, .ref a_SC)] (lsub_cons rfl (lsub_cons rfl (lsub_cons rfl (lsub_cons rfl (lsub_cons rfl lsub_nil))))) ?_
                              have h_218 := ir_1_3 hI
                              have h_219 : (up (up (up (up c 0 13 y_211) 41 0 0) 41 0 1) 42 1 y_213) 1 3 = c 1 3 := ((up_c (nn rfl)).trans ((up_c (nn rfl)).trans ((up_c (nn rfl)).trans (up_c (nn rfl)))))
                              have h_220 := ir_41_2 hI
                              have h_221 : (up (up (up (up c 0 13 y_211) 41 0 0) 41 0 1) 42 1 y_213) 41 2 = c 41 2 := ((up_c (nn rfl)).trans ((up_n (by decide)).trans ((up_n (by decide)).trans (up_c (nn rfl)))))
                              have h_222 : (up (up (up (up c 0 13 y_211) 41 0 0) 41 0 1) 42 1 y_213) (P + 7) 4 = nl := ((up_c (np hP rfl rfl)).trans ((up_c (np hP rfl rfl)).trans ((up_c (np hP rfl rfl)).trans ((up_c (np hP rfl rfl)).trans (hnl)))))
                              have h_223 : (up (up (up (up c 0 13 y_211) 41 0 0) 41 0 1) 42 1 y_213) 41 30 = nl := ((up_c (nn rfl)).trans ((up_n (by decide)).trans ((up_n (by decide)).trans ((up_c (nn rfl)).trans (hml)))))
                              have hA_224 : Ce nl ((up (up (up (up c 0 13 y_211) 41 0 0) 41 0 1) 42 1 y_213) (P + 8)) ((up (up (up (up c 0 13 y_211) 41 0 0) 41 0 1) 42 1 y_213) 52) ((up (up (up (up c 0 13 y_211) 41 0 0) 41 0 1) 42 1 y_213) 53) := ce_fr hCe (fun j => (up_c (np hP rfl rfl)).trans ((up_c (np hP rfl rfl)).trans ((up_c (np hP rfl rfl)).trans (up_c (np hP rfl rfl))))) (fun j => (up_c (nn rfl)).trans ((up_c (nn rfl)).trans ((up_c (nn rfl)).trans (up_c (nn rfl))))) (fun j => (up_c (nn rfl)).trans ((up_c (nn rfl)).trans ((up_c (nn rfl)).trans (up_c (nn rfl)))))
                              exact K P Q (up (up (up (up c 0 13 y_211) 41 0 0) 41 0 1) 42 1 y_213) 1 (by decide) hI_217 ⟨by omega, ub_fr hU (fun j => (up_c (nn rfl)).trans ((up_c (nn rfl)).trans ((up_c (nn rfl)).trans (up_c (nn rfl))))) (fun j => (up_c (nn rfl)).trans ((up_c (nn rfl)).trans ((up_c (nn rfl)).trans (up_c (nn rfl))))), ⟨by omega, ce_le hA_224 (by omega)⟩⟩
                            · refine v_ic_gt_f (t := 14) rfl (by decide) ⟨by omega, (Int.not_lt.mp h_209), by decide⟩ ?_
                              refine q_iconst rfl ?_
                              refine q_goto (t := 15) rfl (by decide) ?_
                              refine v_zret rfl rfl (by decide) ?_
                              refine bk_inl ?_
                              refine v_if_eq_f (t := 84) rfl (by decide) (by decide) ?_
                              refine q_iconst rfl ?_
                              refine q_goto (t := 85) rfl (by decide) ?_
                              refine v_cv rfl rfl rfl rfl (by decide) ⟨⟨rfl, rfl⟩, by decide, rfl⟩ (Nat.le_of_ble_eq_true rfl) (Nat.le_of_ble_eq_true rfl) ?_
                              refine q_iload_n rfl rfl ?_
                              refine v_if_ne_t (t := 25) rfl (by decide) (by decide) ?_
                              refine q_vret rfl rfl ?_
                              refine bk_inl ?_
                              refine q_aload_n rfl rfl ?_
                              refine v_gr (t := P) rfl rfl rfl (by decide) rfl ?_
                              refine v_gr (t := (P + 7)) rfl rfl (ck_p0 hP) (a68z hP) rfl ?_
                              refine q_iload_n rfl rfl ?_
                              refine q_iload_n rfl rfl ?_
                              refine q_iload_n rfl rfl ?_
                              refine q_iload rfl rfl ?_
                              refine q_iload rfl rfl ?_
                              refine q_iload rfl rfl ?_
                              refine q_iload rfl rfl ?_
                              refine v_cv rfl rfl rfl (ck_p7 hP) (a68 hP rfl) ⟨⟨rfl, rfl⟩, by decide, rfl⟩ (Nat.le_of_ble_eq_true rfl) (Nat.le_of_ble_eq_true rfl) (f_20 (a1 := x1) (a2 := x2) (a3 := x3) (a4 := x4) (a5 := x5) (a6 := x6) (a7 := x7) (n9 := nl) (Kc := c (P + 8)) hI hP (show 0 ≤ x1 ∧ x1 ≤ 9999 from ⟨by omega, by omega⟩) (show 0 ≤ x2 ∧ x2 ≤ 9999 from ⟨by omega, by omega⟩) (show 0 ≤ x3 ∧ x3 ≤ 9999 from ⟨by omega, by omega⟩) (show 0 ≤ x4 ∧ x4 ≤ 9999 from ⟨by omega, by omega⟩) (show (-2147483648) ≤ x5 ∧ x5 ≤ 2147483647 from ⟨by omega, by omega⟩) (show (-2147483648) ≤ x6 ∧ x6 ≤ 2147483647 from ⟨by omega, by omega⟩) (show (-2147483648) ≤ x7 ∧ x7 ≤ 2147483647 from ⟨by omega, by omega⟩) hCe hHw ((hnl)) (fun j => rfl) (fun c_225 hI_226 hF_227 h_228 => ?_))
                              refine bk_inl ?_
                              refine q_iret rfl rfl ?_
                              refine bk_inl ?_
                              refine v_i2l rfl (by omega) ?_
                              refine v_ls rfl rfl (by decide) (by decide) (by decide) ?_
                              refine q_goto (t := 27) rfl (by decide) ?_
                              refine q_iconst rfl ?_
                              refine q_iret rfl rfl ?_
                              refine bk_inl ?_
                              refine q_istore rfl (by decide) ?_
                              refine q_aload_n rfl rfl ?_
                              refine q_aload_n rfl rfl ?_
                              refine q_iload rfl rfl ?_
                              refine q_iconst rfl ?_
                              refine v_iadd (v := (i0 : Int) + 1) rfl rfl ?_
                              refine v_scr (j := i0 + 1) rfl (by omega) (by omega) hL hx1 ?_
                              refine q_aload_n rfl rfl ?_
                              refine q_iload rfl rfl ?_
                              refine q_iconst rfl ?_
                              refine v_iadd (v := (i0 : Int) + 2) rfl rfl ?_
                              refine v_scr (j := i0 + 2) rfl (by omega) (by omega) hL hx2 ?_
                              refine q_aload_n rfl rfl ?_
                              refine q_iload rfl rfl ?_
                              refine q_iconst rfl ?_
                              refine v_iadd (v := (i0 : Int) + 3) rfl rfl ?_
                              refine v_scr (j := i0 + 3) rfl (by omega) (by omega) hL hx3 ?_
                              refine q_aload_n rfl rfl ?_
                              refine q_iload rfl rfl ?_
                              refine q_iconst rfl ?_
                              refine v_iadd (v := (i0 : Int) + 4) rfl rfl ?_
                              refine v_scr (j := i0 + 4) rfl (by omega) (by omega) hL hx4 ?_
                              refine q_aload_n rfl rfl ?_
                              refine q_iload rfl rfl ?_
                              refine q_iconst rfl ?_
                              refine v_iadd (v := (i0 : Int) + 5) rfl rfl ?_
                              refine v_scr (j := i0 + 5) rfl (by omega) (by omega) hL hx5 ?_
                              refine q_aload_n rfl rfl ?_
                              refine q_iload rfl rfl ?_
                              refine v_bip rfl (by decide) ?_
                              refine v_iadd (v := (i0 : Int) + 6) rfl rfl ?_
                              refine v_scr (j := i0 + 6) rfl (by omega) (by omega) hL hx6 ?_
                              refine q_aload_n rfl rfl ?_
                              refine q_iload rfl rfl ?_
                              refine v_bip rfl (by decide) ?_
                              refine v_iadd (v := (i0 : Int) + 7) rfl rfl ?_
                              refine v_scr (j := i0 + 7) rfl (by omega) (by omega) hL hx7 ?_
                              refine v_cv rfl rfl rfl rfl (by decide) ⟨⟨rfl, rfl⟩, by decide, rfl⟩ (Nat.le_of_ble_eq_true rfl) (Nat.le_of_ble_eq_true rfl) ?_
                              refine q_aload_n rfl rfl ?_
                              refine q_iconst rfl ?_
                              refine v_pi (z := 0) rfl rfl rfl (by decide) rfl rfl rfl (by decide) ?_
                              refine q_aload_n rfl rfl ?_
                              refine q_iload_n rfl rfl ?_
                              refine q_iconst rfl ?_
                              refine v_sip rfl (by decide) ?_
                              refine q_call rfl rfl rfl rfl ?_
                              refine q_iload_n rfl rfl ?_
                              refine q_iload_n rfl rfl ?_
                              refine v_ic_lt_f (t := 14) rfl (by decide) (by omega) ?_
                              refine q_iload_n rfl rfl ?_
                              refine q_iload_n rfl rfl ?_
                              refine v_ic_gt_f (t := 14) rfl (by decide) (by omega) ?_
                              refine q_iconst rfl ?_
                              refine q_goto (t := 15) rfl (by decide) ?_
                              refine v_zret rfl rfl (by decide) ?_
                              refine bk_inl ?_
                              refine v_if_eq_f (t := 89) rfl (by decide) (by decide) ?_
                              refine q_iload_n rfl rfl ?_
                              refine q_iconst rfl ?_
                              refine v_sip rfl (by decide) ?_
                              refine q_call rfl rfl rfl rfl ?_
                              refine q_iload_n rfl rfl ?_
                              refine q_iload_n rfl rfl ?_
                              refine v_ic_lt_f (t := 14) rfl (by decide) (by omega) ?_
                              refine q_iload_n rfl rfl ?_
                              refine q_iload_n rfl rfl ?_
                              refine v_ic_gt_f (t := 14) rfl (by decide) (by omega) ?_
                              refine q_iconst rfl ?_
                              refine q_goto (t := 15) rfl (by decide) ?_
                              refine v_zret rfl rfl (by decide) ?_
                              refine bk_inl ?_
                              refine v_if_eq_f (t := 89) rfl (by decide) (by decide) ?_
                              refine q_iload_n rfl rfl ?_
                              refine q_iconst rfl ?_
                              refine v_sip rfl (by decide) ?_
                              refine q_call rfl rfl rfl rfl ?_
                              refine q_iload_n rfl rfl ?_
                              refine q_iload_n rfl rfl ?_
                              refine v_ic_lt_f (t := 14) rfl (by decide) (by omega) ?_
                              refine q_iload_n rfl rfl ?_
                              refine q_iload_n rfl rfl ?_
                              refine v_ic_gt_f (t := 14) rfl (by decide) (by omega) ?_
                              refine q_iconst rfl ?_
                              refine q_goto (t := 15) rfl (by decide) ?_
                              refine v_zret rfl rfl (by decide) ?_
                              refine bk_inl ?_
                              refine v_if_eq_f (t := 89) rfl (by decide) (by decide) ?_
                              refine q_iload rfl rfl ?_
                              refine q_iconst rfl ?_
                              refine v_sip rfl (by decide) ?_
                              refine q_call rfl rfl rfl rfl ?_
                              refine q_iload_n rfl rfl ?_
                              refine q_iload_n rfl rfl ?_
                              refine v_ic_lt_f (t := 14) rfl (by decide) (by omega) ?_
                              refine q_iload_n rfl rfl ?_
                              refine q_iload_n rfl rfl ?_
                              refine v_ic_gt_f (t := 14) rfl (by decide) (by omega) ?_
                              refine q_iconst rfl ?_
                              refine q_goto (t := 15) rfl (by decide) ?_
                              refine v_zret rfl rfl (by decide) ?_
                              refine bk_inl ?_
                              refine v_if_eq_f (t := 89) rfl (by decide) (by decide) ?_
                              refine q_iload rfl rfl ?_
                              refine q_iconst rfl ?_
                              refine v_sip rfl (by decide) ?_
                              refine q_call rfl rfl rfl rfl ?_
                              refine q_iload_n rfl rfl ?_
                              refine q_iload_n rfl rfl ?_
                              refine v_ic_lt_f (t := 14) rfl (by decide) (by omega) ?_
                              refine q_iload_n rfl rfl ?_
                              refine q_iload_n rfl rfl ?_
                              refine v_ic_gt_f (t := 14) rfl (by decide) (by omega) ?_
                              refine q_iconst rfl ?_
                              refine q_goto (t := 15) rfl (by decide) ?_
                              refine v_zret rfl rfl (by decide) ?_
                              refine bk_inl ?_
                              refine v_if_eq_f (t := 89) rfl (by decide) (by decide) ?_
                              refine q_iload rfl rfl ?_
                              refine q_iconst rfl ?_
                              refine v_sip rfl (by decide) ?_
                              refine q_call rfl rfl rfl rfl ?_
                              refine q_iload_n rfl rfl ?_
                              refine q_iload_n rfl rfl ?_
                              refine v_ic_lt_f (t := 14) rfl (by decide) (by omega) ?_
                              refine q_iload_n rfl rfl ?_
                              refine q_iload_n rfl rfl ?_
                              refine v_ic_gt_f (t := 14) rfl (by decide) (by omega) ?_
                              refine q_iconst rfl ?_
                              refine q_goto (t := 15) rfl (by decide) ?_
                              refine v_zret rfl rfl (by decide) ?_
                              refine bk_inl ?_
                              refine v_if_eq_f (t := 89) rfl (by decide) (by decide) ?_
                              refine q_iload rfl rfl ?_
                              refine q_iconst rfl ?_
                              refine q_iconst rfl ?_
                              refine q_call rfl rfl rfl rfl ?_
                              refine q_iload_n rfl rfl ?_
                              refine q_iload_n rfl rfl ?_
                              refine v_ic_lt_f (t := 14) rfl (by decide) (by omega) ?_
                              refine q_iload_n rfl rfl ?_
                              refine q_iload_n rfl rfl ?_
                              refine v_ic_gt_f (t := 14) rfl (by decide) (by omega) ?_
                              refine q_iconst rfl ?_
                              refine q_goto (t := 15) rfl (by decide) ?_
                              refine v_zret rfl rfl (by decide) ?_
                              refine bk_inl ?_
                              refine v_if_eq_f (t := 89) rfl (by decide) (by decide) ?_
                              refine q_iconst rfl ?_
                              refine q_goto (t := 90) rfl (by decide) ?_
                              refine q_iconst rfl ?_
                              refine q_iconst rfl ?_
                              refine v_cv rfl rfl rfl rfl (by decide) ⟨⟨rfl, rfl⟩, by decide, rfl⟩ (Nat.le_of_ble_eq_true rfl) (Nat.le_of_ble_eq_true rfl) ?_
                              refine q_iload_n rfl rfl ?_
                              refine v_if_ne_t (t := 26) rfl (by decide) (by decide) ?_
                              refine q_aload_n rfl rfl ?_
                              refine v_gi (z := 0) (v := 0) rfl rfl rfl (by decide) rfl rfl (up_e rfl) ?_
                              refine v_if_ne_f (t := 37) rfl (by decide) (by decide) ?_
                              refine q_iconst rfl ?_
                              refine q_goto (t := 38) rfl (by decide) ?_
                              refine v_zret rfl rfl (by decide) ?_
                              refine bk_inl ?_
                              refine v_if_ne_t (t := 100) rfl (by decide) (by decide) ?_
                              refine q_aload_n rfl rfl ?_
                              refine q_iload_n rfl rfl ?_
                              refine q_iload_n rfl rfl ?_
                              refine q_iload_n rfl rfl ?_
                              refine q_iload rfl rfl ?_
                              refine q_iload rfl rfl ?_
                              refine q_iload rfl rfl ?_
                              refine q_iload rfl rfl ?_
                              have hI_229 := iw_lx (a := 67) (j := 0) (v := (pw (c 52) (c 53) nl x1 x2 x3 x4 x5 x6 x7)) hI_226 (by omega)
                              have hI_230 := iw_41_0 (v := 0) hI_229 ⟨by decide, by decide⟩
                              have kn_231 : Hid (c_225 41 30 = nl) := (hF_227 41 30 (fun q => q.elim (fun h => absurd h (pn hP rfl rfl)) (fun h => absurd h (pn hP rfl rfl)))).trans (hml)
                              refine v_cv rfl rfl rfl rfl (by decide) ⟨⟨rfl, rfl⟩, by decide, rfl⟩ (Nat.le_of_ble_eq_true rfl) (Nat.le_of_ble_eq_true rfl) (f_195 (a1 := x1) (a2 := x2) (a3 := x3) (a4 := x4) (a5 := x5) (a6 := x6) (a7 := x7) (n9 := nl) (Gw := c 52) (Go := c 53) hI_230 (show 0 ≤ x1 ∧ x1 ≤ 9999 from ⟨by omega, by omega⟩) (show 0 ≤ x2 ∧ x2 ≤ 9999 from ⟨by omega, by omega⟩) (show 0 ≤ x3 ∧ x3 ≤ 9999 from ⟨by omega, by omega⟩) (show 0 ≤ x4 ∧ x4 ≤ 9999 from ⟨by omega, by omega⟩) (show (-2147483648) ≤ x5 ∧ x5 ≤ 2147483647 from ⟨by omega, by omega⟩) (show (-2147483648) ≤ x6 ∧ x6 ≤ 2147483647 from ⟨by omega, by omega⟩) (show (-2147483648) ≤ x7 ∧ x7 ≤ 2147483647 from ⟨by omega, by omega⟩) hHw (((up_n (by decide)).trans ((up_c (nn rfl)).trans (hid kn_231)))) (fun j => (up_c (nn rfl)).trans ((up_c (nn rfl)).trans (hF_227 52 j (fun q => q.elim (fun h => absurd h (pn hP rfl rfl)) (fun h => absurd h (pn hP rfl rfl)))))) (fun j => (up_c (nn rfl)).trans ((up_c (nn rfl)).trans (hF_227 53 j (fun q => q.elim (fun h => absurd h (pn hP rfl rfl)) (fun h => absurd h (pn hP rfl rfl)))))) (fun c_232 hI_233 hF_234 h_235 => ?_))
                              refine bk_inl ?_
                              refine q_iret rfl rfl ?_
                              refine bk_inl ?_
                              refine q_istore rfl (by decide) ?_
                              refine q_aload_n rfl rfl ?_
                              refine v_cv rfl rfl rfl rfl (by decide) ⟨⟨rfl, rfl⟩, by decide, rfl⟩ (Nat.le_of_ble_eq_true rfl) (Nat.le_of_ble_eq_true rfl) ?_
                              refine q_aload_n rfl rfl ?_
                              have kn_236 : Hid (c_232 41 0 = 0) := (hF_234 41 0 (fun q => q.elim (fun h => absurd h (nn rfl)) (fun h => absurd h (nn rfl)))).trans (up_e rfl)
                              refine v_gi (z := 0) (v := 0) rfl rfl rfl (by decide) rfl rfl (hid kn_236) ?_
                              refine q_iret rfl rfl ?_
                              refine bk_inl ?_
                              refine q_iload rfl rfl ?_
                              refine v_ic_eq_t (t := 755) rfl (by decide) (by decide) ?_
                              refine q_iload rfl rfl ?_
                              refine v_if_ne_f (t := 772) rfl (by decide) (by decide) ?_
                              refine q_aload_n rfl rfl ?_
                              refine q_iconst rfl ?_
                              have kn_237 : Hid (c_232 67 0 = (pw (c 52) (c 53) nl x1 x2 x3 x4 x5 x6 x7)) := (hF_234 67 0 (fun q => q.elim (fun h => absurd h (nn rfl)) (fun h => absurd h (nn rfl)))).trans ((up_c (nn rfl)).trans (up_e rfl))
                              refine v_la (v := (pw (c 52) (c 53) nl x1 x2 x3 x4 x5 x6 x7)) rfl rfl (by decide) (by decide) (by decide) (hid kn_237) ?_
                              refine q_iload rfl rfl ?_
                              refine v_i2l rfl (by omega) ?_
                              refine v_lcmp0 rfl (by omega) ?_
                              refine v_if_eq_t (t := 772) rfl (by decide) (by decide) ?_
                              refine q_goto (t := 1844) rfl (by decide) ?_
                              refine Wp_ls [(4, vi (i0 : Int)), (3, .ref 67), (2, .ref 41), (1, .ref 0), (0, .ref a_SC)] (lsub_cons rfl (lsub_cons rfl (lsub_cons rfl (lsub_cons rfl (lsub_cons rfl lsub_nil))))) ?_
                              have h_238 := ir_1_3 hI
                              have kn_239 : Hid (c_225 1 3 = c 1 3) := hF_227 1 3 (fun q => q.elim (fun h => absurd h (pn hP rfl rfl)) (fun h => absurd h (pn hP rfl rfl)))
                              have kn_240 : Hid (c_232 1 3 = c 1 3) := (hF_234 1 3 (fun q => q.elim (fun h => absurd h (nn rfl)) (fun h => absurd h (nn rfl)))).trans ((up_c (nn rfl)).trans ((up_c (nn rfl)).trans (hid kn_239)))
                              have h_241 : c_232 1 3 = c 1 3 := (hid kn_240)
                              have h_242 := ir_41_2 hI
                              have kn_243 : Hid (c_225 41 2 = c 41 2) := hF_227 41 2 (fun q => q.elim (fun h => absurd h (pn hP rfl rfl)) (fun h => absurd h (pn hP rfl rfl)))
                              have kn_244 : Hid (c_232 41 2 = c 41 2) := (hF_234 41 2 (fun q => q.elim (fun h => absurd h (nn rfl)) (fun h => absurd h (nn rfl)))).trans ((up_n (by decide)).trans ((up_c (nn rfl)).trans (hid kn_243)))
                              have h_245 : c_232 41 2 = c 41 2 := (hid kn_244)
                              have kn_246 : Hid (c_225 (P + 7) 4 = nl) := (hF_227 (P + 7) 4 (fun q => q.elim (fun h => absurd h (pp rfl)) (fun h => absurd h (pp rfl)))).trans (hnl)
                              have kn_247 : Hid (c_232 (P + 7) 4 = nl) := (hF_234 (P + 7) 4 (fun q => q.elim (fun h => absurd h (np hP rfl rfl)) (fun h => absurd h (np hP rfl rfl)))).trans ((up_c (np hP rfl rfl)).trans ((up_c (np hP rfl rfl)).trans (hid kn_246)))
                              have kn_248 : Hid (c_232 41 30 = nl) := (hF_234 41 30 (fun q => q.elim (fun h => absurd h (nn rfl)) (fun h => absurd h (nn rfl)))).trans ((up_n (by decide)).trans ((up_c (nn rfl)).trans (hid kn_231)))
                              have h_249 : c_232 (P + 7) 4 = nl := (hid kn_247)
                              have h_250 : c_232 41 30 = nl := (hid kn_248)
                              have hA_251 : Ce nl (c_232 (P + 8)) (c_232 52) (c_232 53) := ce_fr hCe (fun j => (hF_234 (P + 8) j (fun q => q.elim (fun h => absurd h (np hP rfl rfl)) (fun h => absurd h (np hP rfl rfl)))).trans ((up_c (np hP rfl rfl)).trans ((up_c (np hP rfl rfl)).trans (hF_227 (P + 8) j (fun q => q.elim (fun h => absurd h (pp rfl)) (fun h => absurd h (pp rfl))))))) (fun j => (hF_234 52 j (fun q => q.elim (fun h => absurd h (nn rfl)) (fun h => absurd h (nn rfl)))).trans ((up_c (nn rfl)).trans ((up_c (nn rfl)).trans (hF_227 52 j (fun q => q.elim (fun h => absurd h (pn hP rfl rfl)) (fun h => absurd h (pn hP rfl rfl))))))) (fun j => (hF_234 53 j (fun q => q.elim (fun h => absurd h (nn rfl)) (fun h => absurd h (nn rfl)))).trans ((up_c (nn rfl)).trans ((up_c (nn rfl)).trans (hF_227 53 j (fun q => q.elim (fun h => absurd h (pn hP rfl rfl)) (fun h => absurd h (pn hP rfl rfl)))))))
                              exact K P Q c_232 0 (by decide) hI_233 ⟨by omega, ub_fr hU (fun j => (hF_234 2 j (fun q => q.elim (fun h => absurd h (nn rfl)) (fun h => absurd h (nn rfl)))).trans ((up_c (nn rfl)).trans ((up_c (nn rfl)).trans (hF_227 2 j (fun q => q.elim (fun h => absurd h (pn hP rfl rfl)) (fun h => absurd h (pn hP rfl rfl))))))) (fun j => (hF_234 43 j (fun q => q.elim (fun h => absurd h (nn rfl)) (fun h => absurd h (nn rfl)))).trans ((up_c (nn rfl)).trans ((up_c (nn rfl)).trans (hF_227 43 j (fun q => q.elim (fun h => absurd h (pn hP rfl rfl)) (fun h => absurd h (pn hP rfl rfl))))))), ⟨by omega, ce_le hA_251 (by omega)⟩⟩

