/-! ===== the calls of the law 1 ===== -/
set_option maxRecDepth 100000 in
set_option maxHeartbeats 4000000 in
theorem o_1 {xs : Nat → Int32} {L i0 d nc ns P Q : Nat} {c : ME} {Z : AR → Prop} (hi : i0 + 8 ≤ L) (hL : L ≤ 100000) (hI : Iv 0 (-1) P Q c) (hR : Rq P c) (K : ∀ (P2 Q2 : Nat) (c2 : ME) (e : Nat), e ≤ 1 → Iv 0 (-1) P2 Q2 c2 → (Rq P2 c2) → Wp (a_scr L xs) (d + 90) 296 1844 [(4, vi (i0 : Int)), (3, .ref 67), (2, .ref 41), (1, .ref 0), (0, .ref a_SC)] [] (Wd P2 Q2 P2 P2 c2) (nc + e) (ns + 6 * e) Z) : Wp (a_scr L xs) (d + 90) 296 301 [(4, vi (i0 : Int)), (3, .ref 67), (2, .ref 41), (1, .ref 0), (0, .ref a_SC)] [] (Wd P Q P P c) nc ns Z := by
  obtain ⟨x1, hx1⟩ : ∃ z, (xs (i0 + 1)).toInt = z := ⟨_, rfl⟩
  have x1r := c_rng (xs (i0 + 1))
  rw [hx1] at x1r
  obtain ⟨x2, hx2⟩ : ∃ z, (xs (i0 + 2)).toInt = z := ⟨_, rfl⟩
  have x2r := c_rng (xs (i0 + 2))
  rw [hx2] at x2r
  obtain ⟨x3, hx3⟩ : ∃ z, (xs (i0 + 3)).toInt = z := ⟨_, rfl⟩
  have x3r := c_rng (xs (i0 + 3))
  rw [hx3] at x3r
  obtain ⟨x4, hx4⟩ : ∃ z, (xs (i0 + 4)).toInt = z := ⟨_, rfl⟩
  have x4r := c_rng (xs (i0 + 4))
  rw [hx4] at x4r
  obtain ⟨x5, hx5⟩ : ∃ z, (xs (i0 + 5)).toInt = z := ⟨_, rfl⟩
  have x5r := c_rng (xs (i0 + 5))
  rw [hx5] at x5r
  obtain ⟨x6, hx6⟩ : ∃ z, (xs (i0 + 6)).toInt = z := ⟨_, rfl⟩
  have x6r := c_rng (xs (i0 + 6))
  rw [hx6] at x6r
  obtain ⟨x7, hx7⟩ : ∃ z, (xs (i0 + 7)).toInt = z := ⟨_, rfl⟩
  have x7r := c_rng (xs (i0 + 7))
  rw [hx7] at x7r
  have hT := rl_t hR
  have hU := rl_u hR
  have hP := iv_P hI
  obtain ⟨n0, hn0⟩ : ∃ z, c P 0 = z := ⟨_, rfl⟩
  have hm0 : c 41 20 = n0 := (rl_nums hR).1.symm.trans hn0
  have hr0 := ir_p0_0 hI hP
  rw [hn0] at hr0
  obtain ⟨n1, hn1⟩ : ∃ z, c P 1 = z := ⟨_, rfl⟩
  have hm1 : c 41 21 = n1 := (rl_nums hR).2.1.symm.trans hn1
  have hr1 := ir_p0_1 hI hP
  rw [hn1] at hr1
  obtain ⟨n2, hn2⟩ : ∃ z, c P 2 = z := ⟨_, rfl⟩
  have hm2 : c 41 22 = n2 := (rl_nums hR).2.2.1.symm.trans hn2
  have hr2 := ir_p0_2 hI hP
  rw [hn2] at hr2
  obtain ⟨n3, hn3⟩ : ∃ z, c P 3 = z := ⟨_, rfl⟩
  have hm3 : c 41 23 = n3 := (rl_nums hR).2.2.2.symm.trans hn3
  have hr3 := ir_p0_3 hI hP
  rw [hn3] at hr3
  have hP := iv_P hI
  have hQ := iv_Q hI
  refine q_aload_n rfl rfl ?_
  refine q_aload_n rfl rfl ?_
  refine q_iload rfl rfl ?_
  refine q_iconst rfl ?_
  refine v_iadd (v := (i0 : Int) + 1) rfl (by omega) ?_
  refine v_scr (j := i0 + 1) rfl (by omega) (by omega) hL hx1 ?_
  refine q_aload_n rfl rfl ?_
  refine q_call rfl rfl rfl rfl ?_
  refine q_aload_n rfl rfl ?_
  refine q_iconst rfl ?_
  refine q_aload_n rfl rfl ?_
  refine q_iload_n rfl rfl ?_
  have h_1 := ir_1_3 hI
  refine v_cv rfl rfl rfl rfl (by decide) ⟨⟨rfl, rfl⟩, by decide, rfl⟩ (Nat.le_of_ble_eq_true rfl) (Nat.le_of_ble_eq_true rfl) (fn_of (s_84 (a1 := x1) hI (show (-2147483648) ≤ x1 ∧ x1 ≤ 2147483647 from by omega) (fun c_2 hI_3 hF_4 h_5 h_6 => ?_) (fun P Q c_7 y_10 hI_8 hF_9 hy_10 h_11 => ?_)))
  · skip
    intro hG_69
    have h_12 := ir_1_3 hI_3
    refine bk_thr (z := Int32.ofInt 1) rfl ⟨_, _, rfl⟩ rfl ?_
    refine bk_inl ?_
    refine q_istore rfl (by decide) ?_
    refine q_aload_n rfl rfl ?_
    refine q_aload_n rfl rfl ?_
    refine q_iload rfl rfl ?_
    refine q_iconst rfl ?_
    refine v_iadd (v := (i0 : Int) + 1) rfl (by omega) ?_
    refine v_scr (j := i0 + 1) rfl (by omega) (by omega) hL hx1 ?_
    refine v_cv rfl rfl rfl rfl (by decide) ⟨⟨rfl, rfl⟩, by decide, rfl⟩ (Nat.le_of_ble_eq_true rfl) (Nat.le_of_ble_eq_true rfl) ?_
    refine q_aload_n rfl rfl ?_
    refine q_iconst rfl ?_
    refine v_pi (z := 0) rfl rfl rfl (by decide) rfl rfl rfl (by decide) ?_
    refine q_aload_n rfl rfl ?_
    refine q_iload_n rfl rfl ?_
    by_cases h_13 : x1 < 0
    · refine v_if_lt_t (t := 22) rfl (by decide) (by omega) ?_
      refine q_iconst rfl ?_
      refine q_iconst rfl ?_
      refine q_iconst rfl ?_
      refine v_cv rfl rfl rfl rfl (by decide) ⟨⟨rfl, rfl⟩, by decide, rfl⟩ (Nat.le_of_ble_eq_true rfl) (Nat.le_of_ble_eq_true rfl) ?_
      refine q_iload_n rfl rfl ?_
      refine v_if_ne_f (t := 26) rfl (by decide) (by decide) ?_
      refine q_aload_n rfl rfl ?_
      refine v_gi (z := 0) (v := 0) rfl rfl rfl (by decide) rfl rfl (up_e rfl) ?_
      refine v_if_ne_f (t := 26) rfl (by decide) (by decide) ?_
      refine q_aload_n rfl rfl ?_
      refine q_iload_n rfl rfl ?_
      refine v_pi (z := 0) rfl rfl rfl (by decide) rfl rfl rfl (by decide) ?_
      refine q_aload_n rfl rfl ?_
      refine v_gr (t := 42) rfl rfl rfl (by decide) rfl ?_
      refine q_iload_n rfl rfl ?_
      refine q_dup2 rfl ⟨rfl, rfl⟩ ?_
      have h_14 := ir_42 hI 1
      have kn_15 : Hid (c_2 42 1 = c 42 1) := hF_4 42 1 (fun h => absurd h.1 (nn rfl))
      refine v_ia (v := c 42 1) rfl rfl (by decide) (by decide) (by decide) ((up_c (nn rfl)).trans ((up_c (nn rfl)).trans (hid kn_15))) ?_
      refine q_iconst rfl ?_
      refine v_iadd (v := c 42 1 + 1) rfl (by omega) ?_
      refine v_nrm (fun y_16 hy_16 => ?_)
      refine v_is rfl rfl (by decide) (by decide) (by decide) ?_
      refine q_aload_n rfl rfl ?_
      refine v_gi (z := 0) (v := 1) rfl rfl rfl (by decide) rfl rfl ((up_c (nn rfl)).trans (up_e rfl)) ?_
      refine v_if_ne_t (t := 37) rfl (by decide) (by decide) ?_
      refine q_iconst rfl ?_
      refine v_zret rfl rfl (by decide) ?_
      refine bk_inl ?_
      refine v_if_ne_f (t := 33) rfl (by decide) (by decide) ?_
      refine q_iconst rfl ?_
      refine q_iret rfl rfl ?_
      refine bk_inl ?_
      refine q_istore rfl (by decide) ?_
      refine q_goto (t := 1844) rfl (by decide) ?_
      have hI_17 := iw_41_0 (v := 0) hI_3 ⟨by decide, by decide⟩
      have hI_18 := iw_41_0 (v := 1) hI_17 ⟨by decide, by decide⟩
      have hI_19 := iw_42 (j := 1) (v := y_16) hI_18 ⟨by omega, by omega⟩
      refine Wp_ls [(4, vi (i0 : Int)), (3, .ref 67), (2, .ref 41), (1, .ref 0), (0, .ref a_SC)] (lsub_cons rfl (lsub_cons rfl (lsub_cons rfl (lsub_cons rfl (lsub_cons rfl lsub_nil))))) ?_
      have kn_20 : Hid (c_2 1 3 = c 1 3) := hF_4 1 3 (fun h => absurd h.1 (nn rfl))
      have h_21 : (up (up (up c_2 41 0 0) 41 0 1) 42 1 y_16) 1 3 = c 1 3 := ((up_c (nn rfl)).trans ((up_c (nn rfl)).trans ((up_c (nn rfl)).trans (hid kn_20))))
      have h_22 := ir_41_2 hI
      have kn_23 : Hid (c_2 41 2 = c 41 2) := hF_4 41 2 (fun h => absurd h.1 (nn rfl))
      have h_24 : (up (up (up c_2 41 0 0) 41 0 1) 42 1 y_16) 41 2 = c 41 2 := ((up_c (nn rfl)).trans ((up_n (by decide)).trans ((up_n (by decide)).trans (hid kn_23))))
      have kn_25 : Hid (c_2 P 0 = n0) := (hF_4 P 0 (fun h => absurd h.1 (np0 hP rfl))).trans (hn0)
      have h_26 : (up (up (up c_2 41 0 0) 41 0 1) 42 1 y_16) P 0 = n0 := ((up_c (np0 hP rfl)).trans ((up_c (np0 hP rfl)).trans ((up_c (np0 hP rfl)).trans (hid kn_25))))
      have kn_27 : Hid (c_2 41 20 = n0) := (hF_4 41 20 (fun h => absurd h.1 (nn rfl))).trans (hm0)
      have h_28 : (up (up (up c_2 41 0 0) 41 0 1) 42 1 y_16) 41 20 = n0 := ((up_c (nn rfl)).trans ((up_n (by decide)).trans ((up_n (by decide)).trans (hid kn_27))))
      have kn_29 : Hid (c_2 P 1 = n1) := (hF_4 P 1 (fun h => absurd h.1 (np0 hP rfl))).trans (hn1)
      have h_30 : (up (up (up c_2 41 0 0) 41 0 1) 42 1 y_16) P 1 = n1 := ((up_c (np0 hP rfl)).trans ((up_c (np0 hP rfl)).trans ((up_c (np0 hP rfl)).trans (hid kn_29))))
      have kn_31 : Hid (c_2 41 21 = n1) := (hF_4 41 21 (fun h => absurd h.1 (nn rfl))).trans (hm1)
      have h_32 : (up (up (up c_2 41 0 0) 41 0 1) 42 1 y_16) 41 21 = n1 := ((up_c (nn rfl)).trans ((up_n (by decide)).trans ((up_n (by decide)).trans (hid kn_31))))
      have kn_33 : Hid (c_2 P 2 = n2) := (hF_4 P 2 (fun h => absurd h.1 (np0 hP rfl))).trans (hn2)
      have h_34 : (up (up (up c_2 41 0 0) 41 0 1) 42 1 y_16) P 2 = n2 := ((up_c (np0 hP rfl)).trans ((up_c (np0 hP rfl)).trans ((up_c (np0 hP rfl)).trans (hid kn_33))))
      have kn_35 : Hid (c_2 41 22 = n2) := (hF_4 41 22 (fun h => absurd h.1 (nn rfl))).trans (hm2)
      have h_36 : (up (up (up c_2 41 0 0) 41 0 1) 42 1 y_16) 41 22 = n2 := ((up_c (nn rfl)).trans ((up_n (by decide)).trans ((up_n (by decide)).trans (hid kn_35))))
      have kn_37 : Hid (c_2 P 3 = n3) := (hF_4 P 3 (fun h => absurd h.1 (np0 hP rfl))).trans (hn3)
      have h_38 : (up (up (up c_2 41 0 0) 41 0 1) 42 1 y_16) P 3 = n3 := ((up_c (np0 hP rfl)).trans ((up_c (np0 hP rfl)).trans ((up_c (np0 hP rfl)).trans (hid kn_37))))
      have kn_39 : Hid (c_2 41 23 = n3) := (hF_4 41 23 (fun h => absurd h.1 (nn rfl))).trans (hm3)
      have h_40 : (up (up (up c_2 41 0 0) 41 0 1) 42 1 y_16) 41 23 = n3 := ((up_c (nn rfl)).trans ((up_n (by decide)).trans ((up_n (by decide)).trans (hid kn_39))))
      exact K P Q (up (up (up c_2 41 0 0) 41 0 1) 42 1 y_16) 1 (by decide) hI_19 ⟨by omega, ub_fr hU (fun j => (up_c (nn rfl)).trans ((up_c (nn rfl)).trans ((up_c (nn rfl)).trans (hF_4 2 j (fun h => absurd h.1 (nn rfl)))))) (fun j => (up_c (nn rfl)).trans ((up_c (nn rfl)).trans ((up_c (nn rfl)).trans (hF_4 43 j (fun h => absurd h.1 (nn rfl)))))), ⟨by omega, by omega, by omega, by omega⟩⟩
    · refine v_if_lt_f (t := 22) rfl (by decide) (by omega) ?_
      refine q_iload_n rfl rfl ?_
      refine q_aload_n rfl rfl ?_
      have h_41 := ir_41_2 hI
      have kn_42 : Hid (c_2 41 2 = c 41 2) := hF_4 41 2 (fun h => absurd h.1 (nn rfl))
      refine v_gi (z := 2) (v := c 41 2) rfl rfl rfl (by decide) rfl rfl ((up_n (by decide)).trans (hid kn_42)) ?_
      refine v_ic_gt_t (t := 22) rfl (by decide) (by omega) ?_
      refine q_iconst rfl ?_
      refine q_iconst rfl ?_
      refine q_iconst rfl ?_
      refine v_cv rfl rfl rfl rfl (by decide) ⟨⟨rfl, rfl⟩, by decide, rfl⟩ (Nat.le_of_ble_eq_true rfl) (Nat.le_of_ble_eq_true rfl) ?_
      refine q_iload_n rfl rfl ?_
      refine v_if_ne_f (t := 26) rfl (by decide) (by decide) ?_
      refine q_aload_n rfl rfl ?_
      refine v_gi (z := 0) (v := 0) rfl rfl rfl (by decide) rfl rfl (up_e rfl) ?_
      refine v_if_ne_f (t := 26) rfl (by decide) (by decide) ?_
      refine q_aload_n rfl rfl ?_
      refine q_iload_n rfl rfl ?_
      refine v_pi (z := 0) rfl rfl rfl (by decide) rfl rfl rfl (by decide) ?_
      refine q_aload_n rfl rfl ?_
      refine v_gr (t := 42) rfl rfl rfl (by decide) rfl ?_
      refine q_iload_n rfl rfl ?_
      refine q_dup2 rfl ⟨rfl, rfl⟩ ?_
      have h_43 := ir_42 hI 1
      have kn_44 : Hid (c_2 42 1 = c 42 1) := hF_4 42 1 (fun h => absurd h.1 (nn rfl))
      refine v_ia (v := c 42 1) rfl rfl (by decide) (by decide) (by decide) ((up_c (nn rfl)).trans ((up_c (nn rfl)).trans (hid kn_44))) ?_
      refine q_iconst rfl ?_
      refine v_iadd (v := c 42 1 + 1) rfl (by omega) ?_
      refine v_nrm (fun y_45 hy_45 => ?_)
      refine v_is rfl rfl (by decide) (by decide) (by decide) ?_
      refine q_aload_n rfl rfl ?_
      refine v_gi (z := 0) (v := 1) rfl rfl rfl (by decide) rfl rfl ((up_c (nn rfl)).trans (up_e rfl)) ?_
      refine v_if_ne_t (t := 37) rfl (by decide) (by decide) ?_
      refine q_iconst rfl ?_
      refine v_zret rfl rfl (by decide) ?_
      refine bk_inl ?_
      refine v_if_ne_f (t := 33) rfl (by decide) (by decide) ?_
      refine q_iconst rfl ?_
      refine q_iret rfl rfl ?_
      refine bk_inl ?_
      refine q_istore rfl (by decide) ?_
      refine q_goto (t := 1844) rfl (by decide) ?_
      have hI_46 := iw_41_0 (v := 0) hI_3 ⟨by decide, by decide⟩
      have hI_47 := iw_41_0 (v := 1) hI_46 ⟨by decide, by decide⟩
      have hI_48 := iw_42 (j := 1) (v := y_45) hI_47 ⟨by omega, by omega⟩
      refine Wp_ls [(4, vi (i0 : Int)), (3, .ref 67), (2, .ref 41), (1, .ref 0), (0, .ref a_SC)] (lsub_cons rfl (lsub_cons rfl (lsub_cons rfl (lsub_cons rfl (lsub_cons rfl lsub_nil))))) ?_
      have kn_49 : Hid (c_2 1 3 = c 1 3) := hF_4 1 3 (fun h => absurd h.1 (nn rfl))
      have h_50 : (up (up (up c_2 41 0 0) 41 0 1) 42 1 y_45) 1 3 = c 1 3 := ((up_c (nn rfl)).trans ((up_c (nn rfl)).trans ((up_c (nn rfl)).trans (hid kn_49))))
      have h_51 : (up (up (up c_2 41 0 0) 41 0 1) 42 1 y_45) 41 2 = c 41 2 := ((up_c (nn rfl)).trans ((up_n (by decide)).trans ((up_n (by decide)).trans (hid kn_42))))
      have kn_52 : Hid (c_2 P 0 = n0) := (hF_4 P 0 (fun h => absurd h.1 (np0 hP rfl))).trans (hn0)
      have h_53 : (up (up (up c_2 41 0 0) 41 0 1) 42 1 y_45) P 0 = n0 := ((up_c (np0 hP rfl)).trans ((up_c (np0 hP rfl)).trans ((up_c (np0 hP rfl)).trans (hid kn_52))))
      have kn_54 : Hid (c_2 41 20 = n0) := (hF_4 41 20 (fun h => absurd h.1 (nn rfl))).trans (hm0)
      have h_55 : (up (up (up c_2 41 0 0) 41 0 1) 42 1 y_45) 41 20 = n0 := ((up_c (nn rfl)).trans ((up_n (by decide)).trans ((up_n (by decide)).trans (hid kn_54))))
      have kn_56 : Hid (c_2 P 1 = n1) := (hF_4 P 1 (fun h => absurd h.1 (np0 hP rfl))).trans (hn1)
      have h_57 : (up (up (up c_2 41 0 0) 41 0 1) 42 1 y_45) P 1 = n1 := ((up_c (np0 hP rfl)).trans ((up_c (np0 hP rfl)).trans ((up_c (np0 hP rfl)).trans (hid kn_56))))
      have kn_58 : Hid (c_2 41 21 = n1) := (hF_4 41 21 (fun h => absurd h.1 (nn rfl))).trans (hm1)
      have h_59 : (up (up (up c_2 41 0 0) 41 0 1) 42 1 y_45) 41 21 = n1 := ((up_c (nn rfl)).trans ((up_n (by decide)).trans ((up_n (by decide)).trans (hid kn_58))))
      have kn_60 : Hid (c_2 P 2 = n2) := (hF_4 P 2 (fun h => absurd h.1 (np0 hP rfl))).trans (hn2)
      have h_61 : (up (up (up c_2 41 0 0) 41 0 1) 42 1 y_45) P 2 = n2 := ((up_c (np0 hP rfl)).trans ((up_c (np0 hP rfl)).trans ((up_c (np0 hP rfl)).trans (hid kn_60))))
      have kn_62 : Hid (c_2 41 22 = n2) := (hF_4 41 22 (fun h => absurd h.1 (nn rfl))).trans (hm2)
      have h_63 : (up (up (up c_2 41 0 0) 41 0 1) 42 1 y_45) 41 22 = n2 := ((up_c (nn rfl)).trans ((up_n (by decide)).trans ((up_n (by decide)).trans (hid kn_62))))
      have kn_64 : Hid (c_2 P 3 = n3) := (hF_4 P 3 (fun h => absurd h.1 (np0 hP rfl))).trans (hn3)
      have h_65 : (up (up (up c_2 41 0 0) 41 0 1) 42 1 y_45) P 3 = n3 := ((up_c (np0 hP rfl)).trans ((up_c (np0 hP rfl)).trans ((up_c (np0 hP rfl)).trans (hid kn_64))))
      have kn_66 : Hid (c_2 41 23 = n3) := (hF_4 41 23 (fun h => absurd h.1 (nn rfl))).trans (hm3)
      have h_67 : (up (up (up c_2 41 0 0) 41 0 1) 42 1 y_45) 41 23 = n3 := ((up_c (nn rfl)).trans ((up_n (by decide)).trans ((up_n (by decide)).trans (hid kn_66))))
      exact K P Q (up (up (up c_2 41 0 0) 41 0 1) 42 1 y_45) 1 (by decide) hI_48 ⟨by omega, ub_fr hU (fun j => (up_c (nn rfl)).trans ((up_c (nn rfl)).trans ((up_c (nn rfl)).trans (hF_4 2 j (fun h => absurd h.1 (nn rfl)))))) (fun j => (up_c (nn rfl)).trans ((up_c (nn rfl)).trans ((up_c (nn rfl)).trans (hF_4 43 j (fun h => absurd h.1 (nn rfl)))))), ⟨by omega, by omega, by omega, by omega⟩⟩
  intro hG_69
  refine bk_inl ?_
  have hP := iv_P hI_8
  have hQ := iv_Q hI_8
  have h_68 := ir_1_3 hI_8
  refine v_i2l rfl (by omega) ?_
  refine v_ls rfl rfl (by decide) (by decide) (by decide) ?_
  refine q_goto (t := 15) rfl (by decide) ?_
  refine q_iconst rfl ?_
  refine q_iret rfl rfl ?_
  refine bk_inl ?_
  refine q_istore rfl (by decide) ?_
  refine q_aload_n rfl rfl ?_
  refine q_aload_n rfl rfl ?_
  refine q_iload rfl rfl ?_
  refine q_iconst rfl ?_
  refine v_iadd (v := (i0 : Int) + 1) rfl (by omega) ?_
  refine v_scr (j := i0 + 1) rfl (by omega) (by omega) hL hx1 ?_
  have hI_70 := iw_lx (a := 67) (j := 0) (v := y_10) hI_8 (by omega)
  have h_71 := ir_41_2 hI
  have kn_72 : Hid (c_7 41 2 = c 41 2) := hF_9 41 2 (fun q => q.elim (fun h => absurd h.1 (nn rfl)) (fun q => q.elim (fun h => absurd h.1 (nn rfl)) (fun q => q.elim (fun h => absurd h.1 (nn rfl)) (fun q => q.elim (fun h => absurd h.1 (nn rfl)) (fun q => q.elim (fun h => absurd h.1 (nn rfl)) (fun q => q.elim (fun h => absurd h.1 (nn rfl)) (fun q => q.elim (fun h => absurd h (nn rfl)) (fun q => q.elim (fun h => absurd h (nn rfl)) (fun q => q.elim (fun h => absurd h.1 (nn rfl)) (fun q => q.elim (fun h => absurd h.1 (nn rfl)) (fun q => q.elim (fun h => absurd h.1 (nn rfl)) (fun h => absurd h.2 (by decide)))))))))))))
  have kn_73 : Hid (c_7 41 20 = n0) := (hF_9 41 20 (fun q => q.elim (fun h => absurd h.1 (nn rfl)) (fun q => q.elim (fun h => absurd h.1 (nn rfl)) (fun q => q.elim (fun h => absurd h.1 (nn rfl)) (fun q => q.elim (fun h => absurd h.1 (nn rfl)) (fun q => q.elim (fun h => absurd h.1 (nn rfl)) (fun q => q.elim (fun h => absurd h.1 (nn rfl)) (fun q => q.elim (fun h => absurd h (nn rfl)) (fun q => q.elim (fun h => absurd h (nn rfl)) (fun q => q.elim (fun h => absurd h.1 (nn rfl)) (fun q => q.elim (fun h => absurd h.1 (nn rfl)) (fun q => q.elim (fun h => absurd h.1 (nn rfl)) (fun h => absurd h.2 (by decide)))))))))))))).trans (hm0)
  have kn_74 : Hid (c_7 41 21 = n1) := (hF_9 41 21 (fun q => q.elim (fun h => absurd h.1 (nn rfl)) (fun q => q.elim (fun h => absurd h.1 (nn rfl)) (fun q => q.elim (fun h => absurd h.1 (nn rfl)) (fun q => q.elim (fun h => absurd h.1 (nn rfl)) (fun q => q.elim (fun h => absurd h.1 (nn rfl)) (fun q => q.elim (fun h => absurd h.1 (nn rfl)) (fun q => q.elim (fun h => absurd h (nn rfl)) (fun q => q.elim (fun h => absurd h (nn rfl)) (fun q => q.elim (fun h => absurd h.1 (nn rfl)) (fun q => q.elim (fun h => absurd h.1 (nn rfl)) (fun q => q.elim (fun h => absurd h.1 (nn rfl)) (fun h => absurd h.2 (by decide)))))))))))))).trans (hm1)
  have kn_75 : Hid (c_7 41 22 = n2) := (hF_9 41 22 (fun q => q.elim (fun h => absurd h.1 (nn rfl)) (fun q => q.elim (fun h => absurd h.1 (nn rfl)) (fun q => q.elim (fun h => absurd h.1 (nn rfl)) (fun q => q.elim (fun h => absurd h.1 (nn rfl)) (fun q => q.elim (fun h => absurd h.1 (nn rfl)) (fun q => q.elim (fun h => absurd h.1 (nn rfl)) (fun q => q.elim (fun h => absurd h (nn rfl)) (fun q => q.elim (fun h => absurd h (nn rfl)) (fun q => q.elim (fun h => absurd h.1 (nn rfl)) (fun q => q.elim (fun h => absurd h.1 (nn rfl)) (fun q => q.elim (fun h => absurd h.1 (nn rfl)) (fun h => absurd h.2 (by decide)))))))))))))).trans (hm2)
  have kn_76 : Hid (c_7 41 23 = n3) := (hF_9 41 23 (fun q => q.elim (fun h => absurd h.1 (nn rfl)) (fun q => q.elim (fun h => absurd h.1 (nn rfl)) (fun q => q.elim (fun h => absurd h.1 (nn rfl)) (fun q => q.elim (fun h => absurd h.1 (nn rfl)) (fun q => q.elim (fun h => absurd h.1 (nn rfl)) (fun q => q.elim (fun h => absurd h.1 (nn rfl)) (fun q => q.elim (fun h => absurd h (nn rfl)) (fun q => q.elim (fun h => absurd h (nn rfl)) (fun q => q.elim (fun h => absurd h.1 (nn rfl)) (fun q => q.elim (fun h => absurd h.1 (nn rfl)) (fun q => q.elim (fun h => absurd h.1 (nn rfl)) (fun h => absurd h.2 (by decide)))))))))))))).trans (hm3)
  refine v_cv rfl rfl rfl rfl (by decide) ⟨⟨rfl, rfl⟩, by decide, rfl⟩ (Nat.le_of_ble_eq_true rfl) (Nat.le_of_ble_eq_true rfl) (L_84n (m := c) (a1 := x1) (yg := y_10) (t9 := c 1 3) (n0 := n0) (n1 := n1) (n2 := n2) (n3 := n3) (F := c 2) (H := c 43) hI_70 hI hI_8 (show (-2147483648) ≤ x1 ∧ x1 ≤ 2147483647 from by omega) ⟨by omega, by omega⟩ (by omega) (rfl) (((show _ = c 41 2 from ((up_c (nn rfl)).trans (hid kn_72))).trans (by omega))) ((hn0)) (((up_c (nn rfl)).trans (hid kn_73))) ((hn1)) (((up_c (nn rfl)).trans (hid kn_74))) ((hn2)) (((up_c (nn rfl)).trans (hid kn_75))) ((hn3)) (((up_c (nn rfl)).trans (hid kn_76))) (fun j => rfl) (fun j => (up_c (nn rfl)).trans (hF_9 43 j (fun q => q.elim (fun h => absurd h.1 (nn rfl)) (fun q => q.elim (fun h => absurd h.1 (nn rfl)) (fun q => q.elim (fun h => absurd h.1 (nn rfl)) (fun q => q.elim (fun h => absurd h.1 (nn rfl)) (fun q => q.elim (fun h => absurd h.1 (nn rfl)) (fun q => q.elim (fun h => absurd h.1 (nn rfl)) (fun q => q.elim (fun h => absurd h (nn rfl)) (fun q => q.elim (fun h => absurd h (nn rfl)) (fun q => q.elim (fun h => absurd h.1 (nn rfl)) (fun q => q.elim (fun h => absurd h.1 (nn rfl)) (fun q => q.elim (fun h => absurd h.1 (nn rfl)) (fun h => absurd h.2 (by decide))))))))))))))) hU hG_69 (fun c_77 y_80 hI_78 hF_79 hy_80 h_81 h_82 h_83 h_84 h_85 h_86 h_87 h_88 => ?_))
  refine bk_inl ?_
  have hs_89 := h_81.symm
  subst hs_89
  have h_90 := ir_41_2 hI_78
  have h_91 := ir_41_8 hI_78
  have h_92 := ir_1_5 hI_8
  have h_93 := ir_41_0 hI_78
  have h_94 := ir_41_20 hI_78
  have h_95 := ir_p0_0 hI_8 hP
  have h_96 := ir_41_21 hI_78
  have h_97 := ir_p0_1 hI_8 hP
  have h_98 := ir_41_22 hI_78
  have h_99 := ir_p0_2 hI_8 hP
  have h_100 := ir_41_23 hI_78
  have h_101 := ir_p0_3 hI_8 hP
  refine q_istore rfl (by decide) ?_
  refine q_goto (t := 1844) rfl (by decide) ?_
  refine Wp_ls [(4, vi (i0 : Int)), (3, .ref 67), (2, .ref 41), (1, .ref 0), (0, .ref a_SC)] (lsub_cons rfl (lsub_cons rfl (lsub_cons rfl (lsub_cons rfl (lsub_cons rfl lsub_nil))))) ?_
  have kn_102 : Hid (c_77 1 3 = c_7 1 3) := (hF_79 1 3 (fun q => q.elim (fun h => absurd h.1 (nn rfl)) (fun q => q.elim (fun h => absurd h (nn rfl)) (fun q => q.elim (fun h => absurd h.1 (nn rfl)) (fun q => q.elim (fun h => absurd h.1 (nn rfl)) (fun q => q.elim (fun h => absurd h.1 (nn rfl)) (fun q => q.elim (fun h => absurd h.1 (nn rfl)) (fun q => q.elim (fun h => absurd h.1 (nn rfl)) (fun q => q.elim (fun h => absurd h.1 (nn rfl)) (fun q => q.elim (fun h => absurd h.1 (nn rfl)) (fun q => q.elim (fun h => absurd h.1 (nn rfl)) (fun q => q.elim (fun h => absurd h.1 (nn rfl)) (fun q => q.elim (fun h => absurd h.1 (nn rfl)) (fun q => q.elim (fun h => absurd h.1 (nn rfl)) (fun q => q.elim (fun h => absurd h (nn rfl)) (fun q => q.elim (fun h => absurd h (nn rfl)) (fun q => q.elim (fun h => absurd h (nn rfl)) (fun q => q.elim (fun h => absurd h.1 (nn rfl)) (fun q => q.elim (fun h => absurd h.1 (nn rfl)) (fun q => q.elim (fun h => absurd h.1 (nn rfl)) (fun q => q.elim (fun h => absurd h.1 (nn rfl)) (fun q => q.elim (fun h => absurd h.1 (nn rfl)) (fun q => q.elim (fun h => absurd h.1 (nn rfl)) (fun q => q.elim (fun h => absurd h.1 (nn rfl)) (fun q => q.elim (fun h => absurd h.1 (nn rfl)) (fun q => q.elim (fun h => absurd h.1 (nn rfl)) (fun q => q.elim (fun h => absurd h.1 (nn rfl)) (fun q => q.elim (fun h => absurd h (nn rfl)) (fun q => q.elim (fun h => absurd h (nn rfl)) (fun q => q.elim (fun h => absurd h (nn rfl)) (fun q => q.elim (fun h => absurd h (nn rfl)) (fun h => absurd h (nn rfl))))))))))))))))))))))))))))))))).trans (up_c (nn rfl))
  have h_103 : c_77 1 3 = c_7 1 3 := (hid kn_102)
  have h_104 : c_77 41 2 = c_77 41 2 := rfl
  have kn_105 : Hid (c_77 P 0 = c_7 P 0) := (hF_79 P 0 (fun q => q.elim (fun h => absurd h.1 (np0 hP rfl)) (fun q => q.elim (fun h => absurd h (np0 hP rfl)) (fun q => q.elim (fun h => absurd h.1 (np0 hP rfl)) (fun q => q.elim (fun h => absurd h.1 (np0 hP rfl)) (fun q => q.elim (fun h => absurd h.1 (np0 hP rfl)) (fun q => q.elim (fun h => absurd h.1 (np0 hP rfl)) (fun q => q.elim (fun h => absurd h.1 (np0 hP rfl)) (fun q => q.elim (fun h => absurd h.1 (np0 hP rfl)) (fun q => q.elim (fun h => absurd h.1 (np0 hP rfl)) (fun q => q.elim (fun h => absurd h.1 (np0 hP rfl)) (fun q => q.elim (fun h => absurd h.1 (np0 hP rfl)) (fun q => q.elim (fun h => absurd h.1 (np0 hP rfl)) (fun q => q.elim (fun h => absurd h.1 (np0 hP rfl)) (fun q => q.elim (fun h => absurd h (np0 hP rfl)) (fun q => q.elim (fun h => absurd h (np0 hP rfl)) (fun q => q.elim (fun h => absurd h (np0 hP rfl)) (fun q => q.elim (fun h => absurd h.1 (np0 hP rfl)) (fun q => q.elim (fun h => absurd h.1 (np0 hP rfl)) (fun q => q.elim (fun h => absurd h.1 (np0 hP rfl)) (fun q => q.elim (fun h => absurd h.1 (np0 hP rfl)) (fun q => q.elim (fun h => absurd h.1 (np0 hP rfl)) (fun q => q.elim (fun h => absurd h.1 (np0 hP rfl)) (fun q => q.elim (fun h => absurd h.1 (np0 hP rfl)) (fun q => q.elim (fun h => absurd h.1 (np0 hP rfl)) (fun q => q.elim (fun h => absurd h.1 (np0 hP rfl)) (fun q => q.elim (fun h => absurd h.1 (np0 hP rfl)) (fun q => q.elim (fun h => absurd h (np0 hP rfl)) (fun q => q.elim (fun h => absurd h (np0 hP rfl)) (fun q => q.elim (fun h => absurd h (np0 hP rfl)) (fun q => q.elim (fun h => absurd h (np0 hP rfl)) (fun h => absurd h (np0 hP rfl))))))))))))))))))))))))))))))))).trans (up_c (np0 hP rfl))
  have h_106 : c_77 P 0 = c_7 P 0 := (hid kn_105)
  have h_107 : c_77 41 20 = c_77 41 20 := rfl
  have kn_108 : Hid (c_77 P 1 = c_7 P 1) := (hF_79 P 1 (fun q => q.elim (fun h => absurd h.1 (np0 hP rfl)) (fun q => q.elim (fun h => absurd h (np0 hP rfl)) (fun q => q.elim (fun h => absurd h.1 (np0 hP rfl)) (fun q => q.elim (fun h => absurd h.1 (np0 hP rfl)) (fun q => q.elim (fun h => absurd h.1 (np0 hP rfl)) (fun q => q.elim (fun h => absurd h.1 (np0 hP rfl)) (fun q => q.elim (fun h => absurd h.1 (np0 hP rfl)) (fun q => q.elim (fun h => absurd h.1 (np0 hP rfl)) (fun q => q.elim (fun h => absurd h.1 (np0 hP rfl)) (fun q => q.elim (fun h => absurd h.1 (np0 hP rfl)) (fun q => q.elim (fun h => absurd h.1 (np0 hP rfl)) (fun q => q.elim (fun h => absurd h.1 (np0 hP rfl)) (fun q => q.elim (fun h => absurd h.1 (np0 hP rfl)) (fun q => q.elim (fun h => absurd h (np0 hP rfl)) (fun q => q.elim (fun h => absurd h (np0 hP rfl)) (fun q => q.elim (fun h => absurd h (np0 hP rfl)) (fun q => q.elim (fun h => absurd h.1 (np0 hP rfl)) (fun q => q.elim (fun h => absurd h.1 (np0 hP rfl)) (fun q => q.elim (fun h => absurd h.1 (np0 hP rfl)) (fun q => q.elim (fun h => absurd h.1 (np0 hP rfl)) (fun q => q.elim (fun h => absurd h.1 (np0 hP rfl)) (fun q => q.elim (fun h => absurd h.1 (np0 hP rfl)) (fun q => q.elim (fun h => absurd h.1 (np0 hP rfl)) (fun q => q.elim (fun h => absurd h.1 (np0 hP rfl)) (fun q => q.elim (fun h => absurd h.1 (np0 hP rfl)) (fun q => q.elim (fun h => absurd h.1 (np0 hP rfl)) (fun q => q.elim (fun h => absurd h (np0 hP rfl)) (fun q => q.elim (fun h => absurd h (np0 hP rfl)) (fun q => q.elim (fun h => absurd h (np0 hP rfl)) (fun q => q.elim (fun h => absurd h (np0 hP rfl)) (fun h => absurd h (np0 hP rfl))))))))))))))))))))))))))))))))).trans (up_c (np0 hP rfl))
  have h_109 : c_77 P 1 = c_7 P 1 := (hid kn_108)
  have h_110 : c_77 41 21 = c_77 41 21 := rfl
  have kn_111 : Hid (c_77 P 2 = c_7 P 2) := (hF_79 P 2 (fun q => q.elim (fun h => absurd h.1 (np0 hP rfl)) (fun q => q.elim (fun h => absurd h (np0 hP rfl)) (fun q => q.elim (fun h => absurd h.1 (np0 hP rfl)) (fun q => q.elim (fun h => absurd h.1 (np0 hP rfl)) (fun q => q.elim (fun h => absurd h.1 (np0 hP rfl)) (fun q => q.elim (fun h => absurd h.1 (np0 hP rfl)) (fun q => q.elim (fun h => absurd h.1 (np0 hP rfl)) (fun q => q.elim (fun h => absurd h.1 (np0 hP rfl)) (fun q => q.elim (fun h => absurd h.1 (np0 hP rfl)) (fun q => q.elim (fun h => absurd h.1 (np0 hP rfl)) (fun q => q.elim (fun h => absurd h.1 (np0 hP rfl)) (fun q => q.elim (fun h => absurd h.1 (np0 hP rfl)) (fun q => q.elim (fun h => absurd h.1 (np0 hP rfl)) (fun q => q.elim (fun h => absurd h (np0 hP rfl)) (fun q => q.elim (fun h => absurd h (np0 hP rfl)) (fun q => q.elim (fun h => absurd h (np0 hP rfl)) (fun q => q.elim (fun h => absurd h.1 (np0 hP rfl)) (fun q => q.elim (fun h => absurd h.1 (np0 hP rfl)) (fun q => q.elim (fun h => absurd h.1 (np0 hP rfl)) (fun q => q.elim (fun h => absurd h.1 (np0 hP rfl)) (fun q => q.elim (fun h => absurd h.1 (np0 hP rfl)) (fun q => q.elim (fun h => absurd h.1 (np0 hP rfl)) (fun q => q.elim (fun h => absurd h.1 (np0 hP rfl)) (fun q => q.elim (fun h => absurd h.1 (np0 hP rfl)) (fun q => q.elim (fun h => absurd h.1 (np0 hP rfl)) (fun q => q.elim (fun h => absurd h.1 (np0 hP rfl)) (fun q => q.elim (fun h => absurd h (np0 hP rfl)) (fun q => q.elim (fun h => absurd h (np0 hP rfl)) (fun q => q.elim (fun h => absurd h (np0 hP rfl)) (fun q => q.elim (fun h => absurd h (np0 hP rfl)) (fun h => absurd h (np0 hP rfl))))))))))))))))))))))))))))))))).trans (up_c (np0 hP rfl))
  have h_112 : c_77 P 2 = c_7 P 2 := (hid kn_111)
  have h_113 : c_77 41 22 = c_77 41 22 := rfl
  have kn_114 : Hid (c_77 P 3 = c_7 P 3) := (hF_79 P 3 (fun q => q.elim (fun h => absurd h.1 (np0 hP rfl)) (fun q => q.elim (fun h => absurd h (np0 hP rfl)) (fun q => q.elim (fun h => absurd h.1 (np0 hP rfl)) (fun q => q.elim (fun h => absurd h.1 (np0 hP rfl)) (fun q => q.elim (fun h => absurd h.1 (np0 hP rfl)) (fun q => q.elim (fun h => absurd h.1 (np0 hP rfl)) (fun q => q.elim (fun h => absurd h.1 (np0 hP rfl)) (fun q => q.elim (fun h => absurd h.1 (np0 hP rfl)) (fun q => q.elim (fun h => absurd h.1 (np0 hP rfl)) (fun q => q.elim (fun h => absurd h.1 (np0 hP rfl)) (fun q => q.elim (fun h => absurd h.1 (np0 hP rfl)) (fun q => q.elim (fun h => absurd h.1 (np0 hP rfl)) (fun q => q.elim (fun h => absurd h.1 (np0 hP rfl)) (fun q => q.elim (fun h => absurd h (np0 hP rfl)) (fun q => q.elim (fun h => absurd h (np0 hP rfl)) (fun q => q.elim (fun h => absurd h (np0 hP rfl)) (fun q => q.elim (fun h => absurd h.1 (np0 hP rfl)) (fun q => q.elim (fun h => absurd h.1 (np0 hP rfl)) (fun q => q.elim (fun h => absurd h.1 (np0 hP rfl)) (fun q => q.elim (fun h => absurd h.1 (np0 hP rfl)) (fun q => q.elim (fun h => absurd h.1 (np0 hP rfl)) (fun q => q.elim (fun h => absurd h.1 (np0 hP rfl)) (fun q => q.elim (fun h => absurd h.1 (np0 hP rfl)) (fun q => q.elim (fun h => absurd h.1 (np0 hP rfl)) (fun q => q.elim (fun h => absurd h.1 (np0 hP rfl)) (fun q => q.elim (fun h => absurd h.1 (np0 hP rfl)) (fun q => q.elim (fun h => absurd h (np0 hP rfl)) (fun q => q.elim (fun h => absurd h (np0 hP rfl)) (fun q => q.elim (fun h => absurd h (np0 hP rfl)) (fun q => q.elim (fun h => absurd h (np0 hP rfl)) (fun h => absurd h (np0 hP rfl))))))))))))))))))))))))))))))))).trans (up_c (np0 hP rfl))
  have h_115 : c_77 P 3 = c_7 P 3 := (hid kn_114)
  have h_116 : c_77 41 23 = c_77 41 23 := rfl
  exact K P Q c_77 0 (by decide) hI_78 ⟨by omega, ub_fr hU (fun j => (hF_79 2 j (fun q => q.elim (fun h => absurd h.1 (nn rfl)) (fun q => q.elim (fun h => absurd h (nn rfl)) (fun q => q.elim (fun h => absurd h.1 (nn rfl)) (fun q => q.elim (fun h => absurd h.1 (nn rfl)) (fun q => q.elim (fun h => absurd h.1 (nn rfl)) (fun q => q.elim (fun h => absurd h.1 (nn rfl)) (fun q => q.elim (fun h => absurd h.1 (nn rfl)) (fun q => q.elim (fun h => absurd h.1 (nn rfl)) (fun q => q.elim (fun h => absurd h.1 (nn rfl)) (fun q => q.elim (fun h => absurd h.1 (nn rfl)) (fun q => q.elim (fun h => absurd h.1 (nn rfl)) (fun q => q.elim (fun h => absurd h.1 (nn rfl)) (fun q => q.elim (fun h => absurd h.1 (nn rfl)) (fun q => q.elim (fun h => absurd h (nn rfl)) (fun q => q.elim (fun h => absurd h (nn rfl)) (fun q => q.elim (fun h => absurd h (nn rfl)) (fun q => q.elim (fun h => absurd h.1 (nn rfl)) (fun q => q.elim (fun h => absurd h.1 (nn rfl)) (fun q => q.elim (fun h => absurd h.1 (nn rfl)) (fun q => q.elim (fun h => absurd h.1 (nn rfl)) (fun q => q.elim (fun h => absurd h.1 (nn rfl)) (fun q => q.elim (fun h => absurd h.1 (nn rfl)) (fun q => q.elim (fun h => absurd h.1 (nn rfl)) (fun q => q.elim (fun h => absurd h.1 (nn rfl)) (fun q => q.elim (fun h => absurd h.1 (nn rfl)) (fun q => q.elim (fun h => absurd h.1 (nn rfl)) (fun q => q.elim (fun h => absurd h (nn rfl)) (fun q => q.elim (fun h => absurd h (nn rfl)) (fun q => q.elim (fun h => absurd h (nn rfl)) (fun q => q.elim (fun h => absurd h (nn rfl)) (fun h => absurd h (nn rfl))))))))))))))))))))))))))))))))).trans ((up_c (nn rfl)).trans (hF_9 2 j (fun q => q.elim (fun h => absurd h.1 (nn rfl)) (fun q => q.elim (fun h => absurd h.1 (nn rfl)) (fun q => q.elim (fun h => absurd h.1 (nn rfl)) (fun q => q.elim (fun h => absurd h.1 (nn rfl)) (fun q => q.elim (fun h => absurd h.1 (nn rfl)) (fun q => q.elim (fun h => absurd h.1 (nn rfl)) (fun q => q.elim (fun h => absurd h (nn rfl)) (fun q => q.elim (fun h => absurd h (nn rfl)) (fun q => q.elim (fun h => absurd h.1 (nn rfl)) (fun q => q.elim (fun h => absurd h.1 (nn rfl)) (fun q => q.elim (fun h => absurd h.1 (nn rfl)) (fun h => absurd h.1 (by decide)))))))))))))))) (fun j => (hF_79 43 j (fun q => q.elim (fun h => absurd h.1 (nn rfl)) (fun q => q.elim (fun h => absurd h (nn rfl)) (fun q => q.elim (fun h => absurd h.1 (nn rfl)) (fun q => q.elim (fun h => absurd h.1 (nn rfl)) (fun q => q.elim (fun h => absurd h.1 (nn rfl)) (fun q => q.elim (fun h => absurd h.1 (nn rfl)) (fun q => q.elim (fun h => absurd h.1 (nn rfl)) (fun q => q.elim (fun h => absurd h.1 (nn rfl)) (fun q => q.elim (fun h => absurd h.1 (nn rfl)) (fun q => q.elim (fun h => absurd h.1 (nn rfl)) (fun q => q.elim (fun h => absurd h.1 (nn rfl)) (fun q => q.elim (fun h => absurd h.1 (nn rfl)) (fun q => q.elim (fun h => absurd h.1 (nn rfl)) (fun q => q.elim (fun h => absurd h (nn rfl)) (fun q => q.elim (fun h => absurd h (nn rfl)) (fun q => q.elim (fun h => absurd h (nn rfl)) (fun q => q.elim (fun h => absurd h.1 (nn rfl)) (fun q => q.elim (fun h => absurd h.1 (nn rfl)) (fun q => q.elim (fun h => absurd h.1 (nn rfl)) (fun q => q.elim (fun h => absurd h.1 (nn rfl)) (fun q => q.elim (fun h => absurd h.1 (nn rfl)) (fun q => q.elim (fun h => absurd h.1 (nn rfl)) (fun q => q.elim (fun h => absurd h.1 (nn rfl)) (fun q => q.elim (fun h => absurd h.1 (nn rfl)) (fun q => q.elim (fun h => absurd h.1 (nn rfl)) (fun q => q.elim (fun h => absurd h.1 (nn rfl)) (fun q => q.elim (fun h => absurd h (nn rfl)) (fun q => q.elim (fun h => absurd h (nn rfl)) (fun q => q.elim (fun h => absurd h (nn rfl)) (fun q => q.elim (fun h => absurd h (nn rfl)) (fun h => absurd h (nn rfl))))))))))))))))))))))))))))))))).trans ((up_c (nn rfl)).trans (hF_9 43 j (fun q => q.elim (fun h => absurd h.1 (nn rfl)) (fun q => q.elim (fun h => absurd h.1 (nn rfl)) (fun q => q.elim (fun h => absurd h.1 (nn rfl)) (fun q => q.elim (fun h => absurd h.1 (nn rfl)) (fun q => q.elim (fun h => absurd h.1 (nn rfl)) (fun q => q.elim (fun h => absurd h.1 (nn rfl)) (fun q => q.elim (fun h => absurd h (nn rfl)) (fun q => q.elim (fun h => absurd h (nn rfl)) (fun q => q.elim (fun h => absurd h.1 (nn rfl)) (fun q => q.elim (fun h => absurd h.1 (nn rfl)) (fun q => q.elim (fun h => absurd h.1 (nn rfl)) (fun h => absurd h.2 (by decide)))))))))))))))), ⟨by omega, by omega, by omega, by omega⟩⟩

set_option maxRecDepth 100000 in
set_option maxHeartbeats 4000000 in
theorem o_2 {xs : Nat → Int32} {L i0 d nc ns P Q : Nat} {c : ME} {Z : AR → Prop} (hi : i0 + 8 ≤ L) (hL : L ≤ 100000) (hI : Iv 0 (-1) P Q c) (hR : Rq P c) (K : ∀ (P2 Q2 : Nat) (c2 : ME) (e : Nat), e ≤ 1 → Iv 0 (-1) P2 Q2 c2 → (Rq P2 c2) → Wp (a_scr L xs) (d + 90) 296 1844 [(4, vi (i0 : Int)), (3, .ref 67), (2, .ref 41), (1, .ref 0), (0, .ref a_SC)] [] (Wd P2 Q2 P2 P2 c2) (nc + e) (ns + 6 * e) Z) : Wp (a_scr L xs) (d + 90) 296 329 [(4, vi (i0 : Int)), (3, .ref 67), (2, .ref 41), (1, .ref 0), (0, .ref a_SC)] [] (Wd P Q P P c) nc ns Z := by
  obtain ⟨x1, hx1⟩ : ∃ z, (xs (i0 + 1)).toInt = z := ⟨_, rfl⟩
  have x1r := c_rng (xs (i0 + 1))
  rw [hx1] at x1r
  obtain ⟨x2, hx2⟩ : ∃ z, (xs (i0 + 2)).toInt = z := ⟨_, rfl⟩
  have x2r := c_rng (xs (i0 + 2))
  rw [hx2] at x2r
  obtain ⟨x3, hx3⟩ : ∃ z, (xs (i0 + 3)).toInt = z := ⟨_, rfl⟩
  have x3r := c_rng (xs (i0 + 3))
  rw [hx3] at x3r
  obtain ⟨x4, hx4⟩ : ∃ z, (xs (i0 + 4)).toInt = z := ⟨_, rfl⟩
  have x4r := c_rng (xs (i0 + 4))
  rw [hx4] at x4r
  obtain ⟨x5, hx5⟩ : ∃ z, (xs (i0 + 5)).toInt = z := ⟨_, rfl⟩
  have x5r := c_rng (xs (i0 + 5))
  rw [hx5] at x5r
  obtain ⟨x6, hx6⟩ : ∃ z, (xs (i0 + 6)).toInt = z := ⟨_, rfl⟩
  have x6r := c_rng (xs (i0 + 6))
  rw [hx6] at x6r
  obtain ⟨x7, hx7⟩ : ∃ z, (xs (i0 + 7)).toInt = z := ⟨_, rfl⟩
  have x7r := c_rng (xs (i0 + 7))
  rw [hx7] at x7r
  have hT := rl_t hR
  have hU := rl_u hR
  have hP := iv_P hI
  obtain ⟨n0, hn0⟩ : ∃ z, c P 0 = z := ⟨_, rfl⟩
  have hm0 : c 41 20 = n0 := (rl_nums hR).1.symm.trans hn0
  have hr0 := ir_p0_0 hI hP
  rw [hn0] at hr0
  obtain ⟨n1, hn1⟩ : ∃ z, c P 1 = z := ⟨_, rfl⟩
  have hm1 : c 41 21 = n1 := (rl_nums hR).2.1.symm.trans hn1
  have hr1 := ir_p0_1 hI hP
  rw [hn1] at hr1
  obtain ⟨n2, hn2⟩ : ∃ z, c P 2 = z := ⟨_, rfl⟩
  have hm2 : c 41 22 = n2 := (rl_nums hR).2.2.1.symm.trans hn2
  have hr2 := ir_p0_2 hI hP
  rw [hn2] at hr2
  obtain ⟨n3, hn3⟩ : ∃ z, c P 3 = z := ⟨_, rfl⟩
  have hm3 : c 41 23 = n3 := (rl_nums hR).2.2.2.symm.trans hn3
  have hr3 := ir_p0_3 hI hP
  rw [hn3] at hr3
  have hP := iv_P hI
  have hQ := iv_Q hI
  refine q_aload_n rfl rfl ?_
  refine q_aload_n rfl rfl ?_
  refine q_iload rfl rfl ?_
  refine q_iconst rfl ?_
  refine v_iadd (v := (i0 : Int) + 1) rfl (by omega) ?_
  refine v_scr (j := i0 + 1) rfl (by omega) (by omega) hL hx1 ?_
  refine q_aload_n rfl rfl ?_
  refine q_call rfl rfl rfl rfl ?_
  refine q_aload_n rfl rfl ?_
  refine q_iconst rfl ?_
  refine q_aload_n rfl rfl ?_
  refine q_iload_n rfl rfl ?_
  have h_1 := ir_1_3 hI
  refine v_cv rfl rfl rfl rfl (by decide) ⟨⟨rfl, rfl⟩, by decide, rfl⟩ (Nat.le_of_ble_eq_true rfl) (Nat.le_of_ble_eq_true rfl) (s_85 (a1 := x1) hI (show (-2147483648) ≤ x1 ∧ x1 ≤ 2147483647 from by omega) (fun c_2 hI_3 hF_4 h_5 h_6 => ?_) (fun c_7 y_10 hI_8 hF_9 hy_10 h_11 => ?_))
  · skip
    have h_12 := ir_1_3 hI_3
    refine bk_thr (z := Int32.ofInt 1) rfl ⟨_, _, rfl⟩ rfl ?_
    refine bk_inl ?_
    refine q_istore rfl (by decide) ?_
    refine q_aload_n rfl rfl ?_
    refine q_aload_n rfl rfl ?_
    refine q_iload rfl rfl ?_
    refine q_iconst rfl ?_
    refine v_iadd (v := (i0 : Int) + 1) rfl (by omega) ?_
    refine v_scr (j := i0 + 1) rfl (by omega) (by omega) hL hx1 ?_
    have h_13 := ir_41_2 hI
    have kn_14 : Hid (c_2 41 2 = c 41 2) := hF_4 41 2 (fun h => absurd h.1 (nn rfl))
    have h_15 : c_2 41 2 = c 41 2 := (hid kn_14)
    refine v_cv rfl rfl rfl rfl (by decide) ⟨⟨rfl, rfl⟩, by decide, rfl⟩ (Nat.le_of_ble_eq_true rfl) (Nat.le_of_ble_eq_true rfl) (s_177 (a1 := x1) hI_3 (show (-2147483648) ≤ x1 ∧ x1 ≤ 2147483647 from by omega) (fun c_16 y_19 hI_17 hF_18 hy_19 h_20 => ?_))
    refine bk_inl ?_
    have h_21 := ir_41_2 hI_17
    refine q_istore rfl (by decide) ?_
    refine q_goto (t := 1844) rfl (by decide) ?_
    refine Wp_ls [(4, vi (i0 : Int)), (3, .ref 67), (2, .ref 41), (1, .ref 0), (0, .ref a_SC)] (lsub_cons rfl (lsub_cons rfl (lsub_cons rfl (lsub_cons rfl (lsub_cons rfl lsub_nil))))) ?_
    have kn_22 : Hid (c_2 1 3 = c 1 3) := hF_4 1 3 (fun h => absurd h.1 (nn rfl))
    have kn_23 : Hid (c_16 1 3 = c 1 3) := (hF_18 1 3 (fun q => q.elim (fun h => absurd h.1 (nn rfl)) (fun q => q.elim (fun h => absurd h (nn rfl)) (fun q => q.elim (fun h => absurd h.1 (nn rfl)) (fun q => q.elim (fun h => absurd h.1 (nn rfl)) (fun q => q.elim (fun h => absurd h.1 (nn rfl)) (fun q => q.elim (fun h => absurd h.1 (nn rfl)) (fun q => q.elim (fun h => absurd h.1 (nn rfl)) (fun q => q.elim (fun h => absurd h.1 (nn rfl)) (fun q => q.elim (fun h => absurd h.1 (nn rfl)) (fun q => q.elim (fun h => absurd h.1 (nn rfl)) (fun q => q.elim (fun h => absurd h.1 (nn rfl)) (fun q => q.elim (fun h => absurd h (nn rfl)) (fun q => q.elim (fun h => absurd h (nn rfl)) (fun q => q.elim (fun h => absurd h (nn rfl)) (fun h => absurd h (nn rfl))))))))))))))))).trans (hid kn_22)
    have h_24 : c_16 1 3 = c 1 3 := (hid kn_23)
    have h_25 : c_16 41 2 = c_16 41 2 := rfl
    have kn_26 : Hid (c_2 P 0 = n0) := (hF_4 P 0 (fun h => absurd h.1 (np0 hP rfl))).trans (hn0)
    have kn_27 : Hid (c_16 P 0 = n0) := (hF_18 P 0 (fun q => q.elim (fun h => absurd h.1 (np0 hP rfl)) (fun q => q.elim (fun h => absurd h (np0 hP rfl)) (fun q => q.elim (fun h => absurd h.1 (np0 hP rfl)) (fun q => q.elim (fun h => absurd h.1 (np0 hP rfl)) (fun q => q.elim (fun h => absurd h.1 (np0 hP rfl)) (fun q => q.elim (fun h => absurd h.1 (np0 hP rfl)) (fun q => q.elim (fun h => absurd h.1 (np0 hP rfl)) (fun q => q.elim (fun h => absurd h.1 (np0 hP rfl)) (fun q => q.elim (fun h => absurd h.1 (np0 hP rfl)) (fun q => q.elim (fun h => absurd h.1 (np0 hP rfl)) (fun q => q.elim (fun h => absurd h.1 (np0 hP rfl)) (fun q => q.elim (fun h => absurd h (np0 hP rfl)) (fun q => q.elim (fun h => absurd h (np0 hP rfl)) (fun q => q.elim (fun h => absurd h (np0 hP rfl)) (fun h => absurd h (np0 hP rfl))))))))))))))))).trans (hid kn_26)
    have h_28 : c_16 P 0 = n0 := (hid kn_27)
    have kn_29 : Hid (c_2 41 20 = n0) := (hF_4 41 20 (fun h => absurd h.1 (nn rfl))).trans (hm0)
    have kn_30 : Hid (c_16 41 20 = n0) := (hF_18 41 20 (fun q => q.elim (fun h => absurd h.2 (ni rfl)) (fun q => q.elim (fun h => absurd h (nn rfl)) (fun q => q.elim (fun h => absurd h.2 (ni rfl)) (fun q => q.elim (fun h => absurd h.2 (ni rfl)) (fun q => q.elim (fun h => absurd h.2 (ni rfl)) (fun q => q.elim (fun h => absurd h.2 (ni rfl)) (fun q => q.elim (fun h => absurd h.2 (ni rfl)) (fun q => q.elim (fun h => absurd h.2 (ni rfl)) (fun q => q.elim (fun h => absurd h.2 (ni rfl)) (fun q => q.elim (fun h => absurd h.2 (ni rfl)) (fun q => q.elim (fun h => absurd h.2 (ni rfl)) (fun q => q.elim (fun h => absurd h (nn rfl)) (fun q => q.elim (fun h => absurd h (nn rfl)) (fun q => q.elim (fun h => absurd h (nn rfl)) (fun h => absurd h (nn rfl))))))))))))))))).trans (hid kn_29)
    have h_31 : c_16 41 20 = n0 := (hid kn_30)
    have kn_32 : Hid (c_2 P 1 = n1) := (hF_4 P 1 (fun h => absurd h.1 (np0 hP rfl))).trans (hn1)
    have kn_33 : Hid (c_16 P 1 = n1) := (hF_18 P 1 (fun q => q.elim (fun h => absurd h.1 (np0 hP rfl)) (fun q => q.elim (fun h => absurd h (np0 hP rfl)) (fun q => q.elim (fun h => absurd h.1 (np0 hP rfl)) (fun q => q.elim (fun h => absurd h.1 (np0 hP rfl)) (fun q => q.elim (fun h => absurd h.1 (np0 hP rfl)) (fun q => q.elim (fun h => absurd h.1 (np0 hP rfl)) (fun q => q.elim (fun h => absurd h.1 (np0 hP rfl)) (fun q => q.elim (fun h => absurd h.1 (np0 hP rfl)) (fun q => q.elim (fun h => absurd h.1 (np0 hP rfl)) (fun q => q.elim (fun h => absurd h.1 (np0 hP rfl)) (fun q => q.elim (fun h => absurd h.1 (np0 hP rfl)) (fun q => q.elim (fun h => absurd h (np0 hP rfl)) (fun q => q.elim (fun h => absurd h (np0 hP rfl)) (fun q => q.elim (fun h => absurd h (np0 hP rfl)) (fun h => absurd h (np0 hP rfl))))))))))))))))).trans (hid kn_32)
    have h_34 : c_16 P 1 = n1 := (hid kn_33)
    have kn_35 : Hid (c_2 41 21 = n1) := (hF_4 41 21 (fun h => absurd h.1 (nn rfl))).trans (hm1)
    have kn_36 : Hid (c_16 41 21 = n1) := (hF_18 41 21 (fun q => q.elim (fun h => absurd h.2 (ni rfl)) (fun q => q.elim (fun h => absurd h (nn rfl)) (fun q => q.elim (fun h => absurd h.2 (ni rfl)) (fun q => q.elim (fun h => absurd h.2 (ni rfl)) (fun q => q.elim (fun h => absurd h.2 (ni rfl)) (fun q => q.elim (fun h => absurd h.2 (ni rfl)) (fun q => q.elim (fun h => absurd h.2 (ni rfl)) (fun q => q.elim (fun h => absurd h.2 (ni rfl)) (fun q => q.elim (fun h => absurd h.2 (ni rfl)) (fun q => q.elim (fun h => absurd h.2 (ni rfl)) (fun q => q.elim (fun h => absurd h.2 (ni rfl)) (fun q => q.elim (fun h => absurd h (nn rfl)) (fun q => q.elim (fun h => absurd h (nn rfl)) (fun q => q.elim (fun h => absurd h (nn rfl)) (fun h => absurd h (nn rfl))))))))))))))))).trans (hid kn_35)
    have h_37 : c_16 41 21 = n1 := (hid kn_36)
    have kn_38 : Hid (c_2 P 2 = n2) := (hF_4 P 2 (fun h => absurd h.1 (np0 hP rfl))).trans (hn2)
    have kn_39 : Hid (c_16 P 2 = n2) := (hF_18 P 2 (fun q => q.elim (fun h => absurd h.1 (np0 hP rfl)) (fun q => q.elim (fun h => absurd h (np0 hP rfl)) (fun q => q.elim (fun h => absurd h.1 (np0 hP rfl)) (fun q => q.elim (fun h => absurd h.1 (np0 hP rfl)) (fun q => q.elim (fun h => absurd h.1 (np0 hP rfl)) (fun q => q.elim (fun h => absurd h.1 (np0 hP rfl)) (fun q => q.elim (fun h => absurd h.1 (np0 hP rfl)) (fun q => q.elim (fun h => absurd h.1 (np0 hP rfl)) (fun q => q.elim (fun h => absurd h.1 (np0 hP rfl)) (fun q => q.elim (fun h => absurd h.1 (np0 hP rfl)) (fun q => q.elim (fun h => absurd h.1 (np0 hP rfl)) (fun q => q.elim (fun h => absurd h (np0 hP rfl)) (fun q => q.elim (fun h => absurd h (np0 hP rfl)) (fun q => q.elim (fun h => absurd h (np0 hP rfl)) (fun h => absurd h (np0 hP rfl))))))))))))))))).trans (hid kn_38)
    have h_40 : c_16 P 2 = n2 := (hid kn_39)
    have kn_41 : Hid (c_2 41 22 = n2) := (hF_4 41 22 (fun h => absurd h.1 (nn rfl))).trans (hm2)
    have kn_42 : Hid (c_16 41 22 = n2) := (hF_18 41 22 (fun q => q.elim (fun h => absurd h.2 (ni rfl)) (fun q => q.elim (fun h => absurd h (nn rfl)) (fun q => q.elim (fun h => absurd h.2 (ni rfl)) (fun q => q.elim (fun h => absurd h.2 (ni rfl)) (fun q => q.elim (fun h => absurd h.2 (ni rfl)) (fun q => q.elim (fun h => absurd h.2 (ni rfl)) (fun q => q.elim (fun h => absurd h.2 (ni rfl)) (fun q => q.elim (fun h => absurd h.2 (ni rfl)) (fun q => q.elim (fun h => absurd h.2 (ni rfl)) (fun q => q.elim (fun h => absurd h.2 (ni rfl)) (fun q => q.elim (fun h => absurd h.2 (ni rfl)) (fun q => q.elim (fun h => absurd h (nn rfl)) (fun q => q.elim (fun h => absurd h (nn rfl)) (fun q => q.elim (fun h => absurd h (nn rfl)) (fun h => absurd h (nn rfl))))))))))))))))).trans (hid kn_41)
    have h_43 : c_16 41 22 = n2 := (hid kn_42)
    have kn_44 : Hid (c_2 P 3 = n3) := (hF_4 P 3 (fun h => absurd h.1 (np0 hP rfl))).trans (hn3)
    have kn_45 : Hid (c_16 P 3 = n3) := (hF_18 P 3 (fun q => q.elim (fun h => absurd h.1 (np0 hP rfl)) (fun q => q.elim (fun h => absurd h (np0 hP rfl)) (fun q => q.elim (fun h => absurd h.1 (np0 hP rfl)) (fun q => q.elim (fun h => absurd h.1 (np0 hP rfl)) (fun q => q.elim (fun h => absurd h.1 (np0 hP rfl)) (fun q => q.elim (fun h => absurd h.1 (np0 hP rfl)) (fun q => q.elim (fun h => absurd h.1 (np0 hP rfl)) (fun q => q.elim (fun h => absurd h.1 (np0 hP rfl)) (fun q => q.elim (fun h => absurd h.1 (np0 hP rfl)) (fun q => q.elim (fun h => absurd h.1 (np0 hP rfl)) (fun q => q.elim (fun h => absurd h.1 (np0 hP rfl)) (fun q => q.elim (fun h => absurd h (np0 hP rfl)) (fun q => q.elim (fun h => absurd h (np0 hP rfl)) (fun q => q.elim (fun h => absurd h (np0 hP rfl)) (fun h => absurd h (np0 hP rfl))))))))))))))))).trans (hid kn_44)
    have h_46 : c_16 P 3 = n3 := (hid kn_45)
    have kn_47 : Hid (c_2 41 23 = n3) := (hF_4 41 23 (fun h => absurd h.1 (nn rfl))).trans (hm3)
    have kn_48 : Hid (c_16 41 23 = n3) := (hF_18 41 23 (fun q => q.elim (fun h => absurd h.2 (ni rfl)) (fun q => q.elim (fun h => absurd h (nn rfl)) (fun q => q.elim (fun h => absurd h.2 (ni rfl)) (fun q => q.elim (fun h => absurd h.2 (ni rfl)) (fun q => q.elim (fun h => absurd h.2 (ni rfl)) (fun q => q.elim (fun h => absurd h.2 (ni rfl)) (fun q => q.elim (fun h => absurd h.2 (ni rfl)) (fun q => q.elim (fun h => absurd h.2 (ni rfl)) (fun q => q.elim (fun h => absurd h.2 (ni rfl)) (fun q => q.elim (fun h => absurd h.2 (ni rfl)) (fun q => q.elim (fun h => absurd h.2 (ni rfl)) (fun q => q.elim (fun h => absurd h (nn rfl)) (fun q => q.elim (fun h => absurd h (nn rfl)) (fun q => q.elim (fun h => absurd h (nn rfl)) (fun h => absurd h (nn rfl))))))))))))))))).trans (hid kn_47)
    have h_49 : c_16 41 23 = n3 := (hid kn_48)
    exact K P Q c_16 1 (by decide) hI_17 ⟨by omega, ub_fr hU (fun j => (hF_18 2 j (fun q => q.elim (fun h => absurd h.1 (nn rfl)) (fun q => q.elim (fun h => absurd h (nn rfl)) (fun q => q.elim (fun h => absurd h.1 (nn rfl)) (fun q => q.elim (fun h => absurd h.1 (nn rfl)) (fun q => q.elim (fun h => absurd h.1 (nn rfl)) (fun q => q.elim (fun h => absurd h.1 (nn rfl)) (fun q => q.elim (fun h => absurd h.1 (nn rfl)) (fun q => q.elim (fun h => absurd h.1 (nn rfl)) (fun q => q.elim (fun h => absurd h.1 (nn rfl)) (fun q => q.elim (fun h => absurd h.1 (nn rfl)) (fun q => q.elim (fun h => absurd h.1 (nn rfl)) (fun q => q.elim (fun h => absurd h (nn rfl)) (fun q => q.elim (fun h => absurd h (nn rfl)) (fun q => q.elim (fun h => absurd h (nn rfl)) (fun h => absurd h (nn rfl))))))))))))))))).trans (hF_4 2 j (fun h => absurd h.1 (nn rfl)))) (fun j => (hF_18 43 j (fun q => q.elim (fun h => absurd h.1 (nn rfl)) (fun q => q.elim (fun h => absurd h (nn rfl)) (fun q => q.elim (fun h => absurd h.1 (nn rfl)) (fun q => q.elim (fun h => absurd h.1 (nn rfl)) (fun q => q.elim (fun h => absurd h.1 (nn rfl)) (fun q => q.elim (fun h => absurd h.1 (nn rfl)) (fun q => q.elim (fun h => absurd h.1 (nn rfl)) (fun q => q.elim (fun h => absurd h.1 (nn rfl)) (fun q => q.elim (fun h => absurd h.1 (nn rfl)) (fun q => q.elim (fun h => absurd h.1 (nn rfl)) (fun q => q.elim (fun h => absurd h.1 (nn rfl)) (fun q => q.elim (fun h => absurd h (nn rfl)) (fun q => q.elim (fun h => absurd h (nn rfl)) (fun q => q.elim (fun h => absurd h (nn rfl)) (fun h => absurd h (nn rfl))))))))))))))))).trans (hF_4 43 j (fun h => absurd h.1 (nn rfl)))), ⟨by omega, by omega, by omega, by omega⟩⟩
  refine bk_inl ?_
  have h_50 := ir_1_3 hI_8
  refine v_i2l rfl (by omega) ?_
  refine v_ls rfl rfl (by decide) (by decide) (by decide) ?_
  refine q_goto (t := 15) rfl (by decide) ?_
  refine q_iconst rfl ?_
  refine q_iret rfl rfl ?_
  refine bk_inl ?_
  refine q_istore rfl (by decide) ?_
  refine q_aload_n rfl rfl ?_
  refine q_aload_n rfl rfl ?_
  refine q_iload rfl rfl ?_
  refine q_iconst rfl ?_
  refine v_iadd (v := (i0 : Int) + 1) rfl (by omega) ?_
  refine v_scr (j := i0 + 1) rfl (by omega) (by omega) hL hx1 ?_
  have hI_51 := iw_lx (a := 67) (j := 0) (v := y_10) hI_8 (by omega)
  have h_52 := ir_41_2 hI
  have kn_53 : Hid (c_7 41 2 = c 41 2) := hF_9 41 2 (fun q => q.elim (fun h => absurd h.1 (nn rfl)) (fun q => q.elim (fun h => absurd h.1 (nn rfl)) (fun q => q.elim (fun h => absurd h.1 (nn rfl)) (fun q => q.elim (fun h => absurd h.1 (nn rfl)) (fun q => q.elim (fun h => absurd h.1 (nn rfl)) (fun q => q.elim (fun h => absurd h.1 (nn rfl)) (fun q => q.elim (fun h => absurd h.1 (pn hP rfl rfl)) (fun q => q.elim (fun h => absurd h (pn hP rfl rfl)) (fun q => q.elim (fun h => absurd h.1 (pn hP rfl rfl)) (fun h => absurd h (pn hP rfl rfl)))))))))))
  have h_54 : (up c_7 67 0 y_10) 41 2 = c 41 2 := ((up_c (nn rfl)).trans (hid kn_53))
  refine v_cv rfl rfl rfl rfl (by decide) ⟨⟨rfl, rfl⟩, by decide, rfl⟩ (Nat.le_of_ble_eq_true rfl) (Nat.le_of_ble_eq_true rfl) (s_177 (a1 := x1) hI_51 (show (-2147483648) ≤ x1 ∧ x1 ≤ 2147483647 from by omega) (fun c_55 y_58 hI_56 hF_57 hy_58 h_59 => ?_))
  refine bk_inl ?_
  have h_60 := ir_41_2 hI_56
  refine q_istore rfl (by decide) ?_
  refine q_goto (t := 1844) rfl (by decide) ?_
  refine Wp_ls [(4, vi (i0 : Int)), (3, .ref 67), (2, .ref 41), (1, .ref 0), (0, .ref a_SC)] (lsub_cons rfl (lsub_cons rfl (lsub_cons rfl (lsub_cons rfl (lsub_cons rfl lsub_nil))))) ?_
  have kn_61 : Hid (c_55 1 3 = c_7 1 3) := (hF_57 1 3 (fun q => q.elim (fun h => absurd h.1 (nn rfl)) (fun q => q.elim (fun h => absurd h (nn rfl)) (fun q => q.elim (fun h => absurd h.1 (nn rfl)) (fun q => q.elim (fun h => absurd h.1 (nn rfl)) (fun q => q.elim (fun h => absurd h.1 (nn rfl)) (fun q => q.elim (fun h => absurd h.1 (nn rfl)) (fun q => q.elim (fun h => absurd h.1 (nn rfl)) (fun q => q.elim (fun h => absurd h.1 (nn rfl)) (fun q => q.elim (fun h => absurd h.1 (nn rfl)) (fun q => q.elim (fun h => absurd h.1 (nn rfl)) (fun q => q.elim (fun h => absurd h.1 (nn rfl)) (fun q => q.elim (fun h => absurd h (nn rfl)) (fun q => q.elim (fun h => absurd h (nn rfl)) (fun q => q.elim (fun h => absurd h (nn rfl)) (fun h => absurd h (nn rfl))))))))))))))))).trans (up_c (nn rfl))
  have h_62 : c_55 1 3 = c_7 1 3 := (hid kn_61)
  have h_63 : c_55 41 2 = c_55 41 2 := rfl
  have kn_64 : Hid (c_7 P 0 = n0) := (hF_9 P 0 (fun q => q.elim (fun h => absurd h.1 (np0 hP rfl)) (fun q => q.elim (fun h => absurd h.1 (np0 hP rfl)) (fun q => q.elim (fun h => absurd h.1 (np0 hP rfl)) (fun q => q.elim (fun h => absurd h.1 (np0 hP rfl)) (fun q => q.elim (fun h => absurd h.1 (np0 hP rfl)) (fun q => q.elim (fun h => absurd h.1 (np0 hP rfl)) (fun q => q.elim (fun h => absurd h.1 (p0p rfl)) (fun q => q.elim (fun h => absurd h (p0p rfl)) (fun q => q.elim (fun h => absurd h.1 (p0p rfl)) (fun h => absurd h (p0p rfl)))))))))))).trans (hn0)
  have kn_65 : Hid (c_55 P 0 = n0) := (hF_57 P 0 (fun q => q.elim (fun h => absurd h.1 (np0 hP rfl)) (fun q => q.elim (fun h => absurd h (np0 hP rfl)) (fun q => q.elim (fun h => absurd h.1 (np0 hP rfl)) (fun q => q.elim (fun h => absurd h.1 (np0 hP rfl)) (fun q => q.elim (fun h => absurd h.1 (np0 hP rfl)) (fun q => q.elim (fun h => absurd h.1 (np0 hP rfl)) (fun q => q.elim (fun h => absurd h.1 (np0 hP rfl)) (fun q => q.elim (fun h => absurd h.1 (np0 hP rfl)) (fun q => q.elim (fun h => absurd h.1 (np0 hP rfl)) (fun q => q.elim (fun h => absurd h.1 (np0 hP rfl)) (fun q => q.elim (fun h => absurd h.1 (np0 hP rfl)) (fun q => q.elim (fun h => absurd h (np0 hP rfl)) (fun q => q.elim (fun h => absurd h (np0 hP rfl)) (fun q => q.elim (fun h => absurd h (np0 hP rfl)) (fun h => absurd h (np0 hP rfl))))))))))))))))).trans ((up_c (np0 hP rfl)).trans (hid kn_64))
  have h_66 : c_55 P 0 = n0 := (hid kn_65)
  have kn_67 : Hid (c_7 41 20 = n0) := (hF_9 41 20 (fun q => q.elim (fun h => absurd h.1 (nn rfl)) (fun q => q.elim (fun h => absurd h.1 (nn rfl)) (fun q => q.elim (fun h => absurd h.1 (nn rfl)) (fun q => q.elim (fun h => absurd h.1 (nn rfl)) (fun q => q.elim (fun h => absurd h.1 (nn rfl)) (fun q => q.elim (fun h => absurd h.1 (nn rfl)) (fun q => q.elim (fun h => absurd h.1 (pn hP rfl rfl)) (fun q => q.elim (fun h => absurd h (pn hP rfl rfl)) (fun q => q.elim (fun h => absurd h.1 (pn hP rfl rfl)) (fun h => absurd h (pn hP rfl rfl)))))))))))).trans (hm0)
  have kn_68 : Hid (c_55 41 20 = n0) := (hF_57 41 20 (fun q => q.elim (fun h => absurd h.2 (ni rfl)) (fun q => q.elim (fun h => absurd h (nn rfl)) (fun q => q.elim (fun h => absurd h.2 (ni rfl)) (fun q => q.elim (fun h => absurd h.2 (ni rfl)) (fun q => q.elim (fun h => absurd h.2 (ni rfl)) (fun q => q.elim (fun h => absurd h.2 (ni rfl)) (fun q => q.elim (fun h => absurd h.2 (ni rfl)) (fun q => q.elim (fun h => absurd h.2 (ni rfl)) (fun q => q.elim (fun h => absurd h.2 (ni rfl)) (fun q => q.elim (fun h => absurd h.2 (ni rfl)) (fun q => q.elim (fun h => absurd h.2 (ni rfl)) (fun q => q.elim (fun h => absurd h (nn rfl)) (fun q => q.elim (fun h => absurd h (nn rfl)) (fun q => q.elim (fun h => absurd h (nn rfl)) (fun h => absurd h (nn rfl))))))))))))))))).trans ((up_c (nn rfl)).trans (hid kn_67))
  have h_69 : c_55 41 20 = n0 := (hid kn_68)
  have kn_70 : Hid (c_7 P 1 = n1) := (hF_9 P 1 (fun q => q.elim (fun h => absurd h.1 (np0 hP rfl)) (fun q => q.elim (fun h => absurd h.1 (np0 hP rfl)) (fun q => q.elim (fun h => absurd h.1 (np0 hP rfl)) (fun q => q.elim (fun h => absurd h.1 (np0 hP rfl)) (fun q => q.elim (fun h => absurd h.1 (np0 hP rfl)) (fun q => q.elim (fun h => absurd h.1 (np0 hP rfl)) (fun q => q.elim (fun h => absurd h.1 (p0p rfl)) (fun q => q.elim (fun h => absurd h (p0p rfl)) (fun q => q.elim (fun h => absurd h.1 (p0p rfl)) (fun h => absurd h (p0p rfl)))))))))))).trans (hn1)
  have kn_71 : Hid (c_55 P 1 = n1) := (hF_57 P 1 (fun q => q.elim (fun h => absurd h.1 (np0 hP rfl)) (fun q => q.elim (fun h => absurd h (np0 hP rfl)) (fun q => q.elim (fun h => absurd h.1 (np0 hP rfl)) (fun q => q.elim (fun h => absurd h.1 (np0 hP rfl)) (fun q => q.elim (fun h => absurd h.1 (np0 hP rfl)) (fun q => q.elim (fun h => absurd h.1 (np0 hP rfl)) (fun q => q.elim (fun h => absurd h.1 (np0 hP rfl)) (fun q => q.elim (fun h => absurd h.1 (np0 hP rfl)) (fun q => q.elim (fun h => absurd h.1 (np0 hP rfl)) (fun q => q.elim (fun h => absurd h.1 (np0 hP rfl)) (fun q => q.elim (fun h => absurd h.1 (np0 hP rfl)) (fun q => q.elim (fun h => absurd h (np0 hP rfl)) (fun q => q.elim (fun h => absurd h (np0 hP rfl)) (fun q => q.elim (fun h => absurd h (np0 hP rfl)) (fun h => absurd h (np0 hP rfl))))))))))))))))).trans ((up_c (np0 hP rfl)).trans (hid kn_70))
  have h_72 : c_55 P 1 = n1 := (hid kn_71)
  have kn_73 : Hid (c_7 41 21 = n1) := (hF_9 41 21 (fun q => q.elim (fun h => absurd h.1 (nn rfl)) (fun q => q.elim (fun h => absurd h.1 (nn rfl)) (fun q => q.elim (fun h => absurd h.1 (nn rfl)) (fun q => q.elim (fun h => absurd h.1 (nn rfl)) (fun q => q.elim (fun h => absurd h.1 (nn rfl)) (fun q => q.elim (fun h => absurd h.1 (nn rfl)) (fun q => q.elim (fun h => absurd h.1 (pn hP rfl rfl)) (fun q => q.elim (fun h => absurd h (pn hP rfl rfl)) (fun q => q.elim (fun h => absurd h.1 (pn hP rfl rfl)) (fun h => absurd h (pn hP rfl rfl)))))))))))).trans (hm1)
  have kn_74 : Hid (c_55 41 21 = n1) := (hF_57 41 21 (fun q => q.elim (fun h => absurd h.2 (ni rfl)) (fun q => q.elim (fun h => absurd h (nn rfl)) (fun q => q.elim (fun h => absurd h.2 (ni rfl)) (fun q => q.elim (fun h => absurd h.2 (ni rfl)) (fun q => q.elim (fun h => absurd h.2 (ni rfl)) (fun q => q.elim (fun h => absurd h.2 (ni rfl)) (fun q => q.elim (fun h => absurd h.2 (ni rfl)) (fun q => q.elim (fun h => absurd h.2 (ni rfl)) (fun q => q.elim (fun h => absurd h.2 (ni rfl)) (fun q => q.elim (fun h => absurd h.2 (ni rfl)) (fun q => q.elim (fun h => absurd h.2 (ni rfl)) (fun q => q.elim (fun h => absurd h (nn rfl)) (fun q => q.elim (fun h => absurd h (nn rfl)) (fun q => q.elim (fun h => absurd h (nn rfl)) (fun h => absurd h (nn rfl))))))))))))))))).trans ((up_c (nn rfl)).trans (hid kn_73))
  have h_75 : c_55 41 21 = n1 := (hid kn_74)
  have kn_76 : Hid (c_7 P 2 = n2) := (hF_9 P 2 (fun q => q.elim (fun h => absurd h.1 (np0 hP rfl)) (fun q => q.elim (fun h => absurd h.1 (np0 hP rfl)) (fun q => q.elim (fun h => absurd h.1 (np0 hP rfl)) (fun q => q.elim (fun h => absurd h.1 (np0 hP rfl)) (fun q => q.elim (fun h => absurd h.1 (np0 hP rfl)) (fun q => q.elim (fun h => absurd h.1 (np0 hP rfl)) (fun q => q.elim (fun h => absurd h.1 (p0p rfl)) (fun q => q.elim (fun h => absurd h (p0p rfl)) (fun q => q.elim (fun h => absurd h.1 (p0p rfl)) (fun h => absurd h (p0p rfl)))))))))))).trans (hn2)
  have kn_77 : Hid (c_55 P 2 = n2) := (hF_57 P 2 (fun q => q.elim (fun h => absurd h.1 (np0 hP rfl)) (fun q => q.elim (fun h => absurd h (np0 hP rfl)) (fun q => q.elim (fun h => absurd h.1 (np0 hP rfl)) (fun q => q.elim (fun h => absurd h.1 (np0 hP rfl)) (fun q => q.elim (fun h => absurd h.1 (np0 hP rfl)) (fun q => q.elim (fun h => absurd h.1 (np0 hP rfl)) (fun q => q.elim (fun h => absurd h.1 (np0 hP rfl)) (fun q => q.elim (fun h => absurd h.1 (np0 hP rfl)) (fun q => q.elim (fun h => absurd h.1 (np0 hP rfl)) (fun q => q.elim (fun h => absurd h.1 (np0 hP rfl)) (fun q => q.elim (fun h => absurd h.1 (np0 hP rfl)) (fun q => q.elim (fun h => absurd h (np0 hP rfl)) (fun q => q.elim (fun h => absurd h (np0 hP rfl)) (fun q => q.elim (fun h => absurd h (np0 hP rfl)) (fun h => absurd h (np0 hP rfl))))))))))))))))).trans ((up_c (np0 hP rfl)).trans (hid kn_76))
  have h_78 : c_55 P 2 = n2 := (hid kn_77)
  have kn_79 : Hid (c_7 41 22 = n2) := (hF_9 41 22 (fun q => q.elim (fun h => absurd h.1 (nn rfl)) (fun q => q.elim (fun h => absurd h.1 (nn rfl)) (fun q => q.elim (fun h => absurd h.1 (nn rfl)) (fun q => q.elim (fun h => absurd h.1 (nn rfl)) (fun q => q.elim (fun h => absurd h.1 (nn rfl)) (fun q => q.elim (fun h => absurd h.1 (nn rfl)) (fun q => q.elim (fun h => absurd h.1 (pn hP rfl rfl)) (fun q => q.elim (fun h => absurd h (pn hP rfl rfl)) (fun q => q.elim (fun h => absurd h.1 (pn hP rfl rfl)) (fun h => absurd h (pn hP rfl rfl)))))))))))).trans (hm2)
  have kn_80 : Hid (c_55 41 22 = n2) := (hF_57 41 22 (fun q => q.elim (fun h => absurd h.2 (ni rfl)) (fun q => q.elim (fun h => absurd h (nn rfl)) (fun q => q.elim (fun h => absurd h.2 (ni rfl)) (fun q => q.elim (fun h => absurd h.2 (ni rfl)) (fun q => q.elim (fun h => absurd h.2 (ni rfl)) (fun q => q.elim (fun h => absurd h.2 (ni rfl)) (fun q => q.elim (fun h => absurd h.2 (ni rfl)) (fun q => q.elim (fun h => absurd h.2 (ni rfl)) (fun q => q.elim (fun h => absurd h.2 (ni rfl)) (fun q => q.elim (fun h => absurd h.2 (ni rfl)) (fun q => q.elim (fun h => absurd h.2 (ni rfl)) (fun q => q.elim (fun h => absurd h (nn rfl)) (fun q => q.elim (fun h => absurd h (nn rfl)) (fun q => q.elim (fun h => absurd h (nn rfl)) (fun h => absurd h (nn rfl))))))))))))))))).trans ((up_c (nn rfl)).trans (hid kn_79))
  have h_81 : c_55 41 22 = n2 := (hid kn_80)
  have kn_82 : Hid (c_7 P 3 = n3) := (hF_9 P 3 (fun q => q.elim (fun h => absurd h.1 (np0 hP rfl)) (fun q => q.elim (fun h => absurd h.1 (np0 hP rfl)) (fun q => q.elim (fun h => absurd h.1 (np0 hP rfl)) (fun q => q.elim (fun h => absurd h.1 (np0 hP rfl)) (fun q => q.elim (fun h => absurd h.1 (np0 hP rfl)) (fun q => q.elim (fun h => absurd h.1 (np0 hP rfl)) (fun q => q.elim (fun h => absurd h.1 (p0p rfl)) (fun q => q.elim (fun h => absurd h (p0p rfl)) (fun q => q.elim (fun h => absurd h.1 (p0p rfl)) (fun h => absurd h (p0p rfl)))))))))))).trans (hn3)
  have kn_83 : Hid (c_55 P 3 = n3) := (hF_57 P 3 (fun q => q.elim (fun h => absurd h.1 (np0 hP rfl)) (fun q => q.elim (fun h => absurd h (np0 hP rfl)) (fun q => q.elim (fun h => absurd h.1 (np0 hP rfl)) (fun q => q.elim (fun h => absurd h.1 (np0 hP rfl)) (fun q => q.elim (fun h => absurd h.1 (np0 hP rfl)) (fun q => q.elim (fun h => absurd h.1 (np0 hP rfl)) (fun q => q.elim (fun h => absurd h.1 (np0 hP rfl)) (fun q => q.elim (fun h => absurd h.1 (np0 hP rfl)) (fun q => q.elim (fun h => absurd h.1 (np0 hP rfl)) (fun q => q.elim (fun h => absurd h.1 (np0 hP rfl)) (fun q => q.elim (fun h => absurd h.1 (np0 hP rfl)) (fun q => q.elim (fun h => absurd h (np0 hP rfl)) (fun q => q.elim (fun h => absurd h (np0 hP rfl)) (fun q => q.elim (fun h => absurd h (np0 hP rfl)) (fun h => absurd h (np0 hP rfl))))))))))))))))).trans ((up_c (np0 hP rfl)).trans (hid kn_82))
  have h_84 : c_55 P 3 = n3 := (hid kn_83)
  have kn_85 : Hid (c_7 41 23 = n3) := (hF_9 41 23 (fun q => q.elim (fun h => absurd h.1 (nn rfl)) (fun q => q.elim (fun h => absurd h.1 (nn rfl)) (fun q => q.elim (fun h => absurd h.1 (nn rfl)) (fun q => q.elim (fun h => absurd h.1 (nn rfl)) (fun q => q.elim (fun h => absurd h.1 (nn rfl)) (fun q => q.elim (fun h => absurd h.1 (nn rfl)) (fun q => q.elim (fun h => absurd h.1 (pn hP rfl rfl)) (fun q => q.elim (fun h => absurd h (pn hP rfl rfl)) (fun q => q.elim (fun h => absurd h.1 (pn hP rfl rfl)) (fun h => absurd h (pn hP rfl rfl)))))))))))).trans (hm3)
  have kn_86 : Hid (c_55 41 23 = n3) := (hF_57 41 23 (fun q => q.elim (fun h => absurd h.2 (ni rfl)) (fun q => q.elim (fun h => absurd h (nn rfl)) (fun q => q.elim (fun h => absurd h.2 (ni rfl)) (fun q => q.elim (fun h => absurd h.2 (ni rfl)) (fun q => q.elim (fun h => absurd h.2 (ni rfl)) (fun q => q.elim (fun h => absurd h.2 (ni rfl)) (fun q => q.elim (fun h => absurd h.2 (ni rfl)) (fun q => q.elim (fun h => absurd h.2 (ni rfl)) (fun q => q.elim (fun h => absurd h.2 (ni rfl)) (fun q => q.elim (fun h => absurd h.2 (ni rfl)) (fun q => q.elim (fun h => absurd h.2 (ni rfl)) (fun q => q.elim (fun h => absurd h (nn rfl)) (fun q => q.elim (fun h => absurd h (nn rfl)) (fun q => q.elim (fun h => absurd h (nn rfl)) (fun h => absurd h (nn rfl))))))))))))))))).trans ((up_c (nn rfl)).trans (hid kn_85))
  have h_87 : c_55 41 23 = n3 := (hid kn_86)
  exact K P Q c_55 0 (by decide) hI_56 ⟨by omega, ub_fr hU (fun j => (hF_57 2 j (fun q => q.elim (fun h => absurd h.1 (nn rfl)) (fun q => q.elim (fun h => absurd h (nn rfl)) (fun q => q.elim (fun h => absurd h.1 (nn rfl)) (fun q => q.elim (fun h => absurd h.1 (nn rfl)) (fun q => q.elim (fun h => absurd h.1 (nn rfl)) (fun q => q.elim (fun h => absurd h.1 (nn rfl)) (fun q => q.elim (fun h => absurd h.1 (nn rfl)) (fun q => q.elim (fun h => absurd h.1 (nn rfl)) (fun q => q.elim (fun h => absurd h.1 (nn rfl)) (fun q => q.elim (fun h => absurd h.1 (nn rfl)) (fun q => q.elim (fun h => absurd h.1 (nn rfl)) (fun q => q.elim (fun h => absurd h (nn rfl)) (fun q => q.elim (fun h => absurd h (nn rfl)) (fun q => q.elim (fun h => absurd h (nn rfl)) (fun h => absurd h (nn rfl))))))))))))))))).trans ((up_c (nn rfl)).trans (hF_9 2 j (fun q => q.elim (fun h => absurd h.1 (nn rfl)) (fun q => q.elim (fun h => absurd h.1 (nn rfl)) (fun q => q.elim (fun h => absurd h.1 (nn rfl)) (fun q => q.elim (fun h => absurd h.1 (nn rfl)) (fun q => q.elim (fun h => absurd h.1 (nn rfl)) (fun q => q.elim (fun h => absurd h.1 (nn rfl)) (fun q => q.elim (fun h => absurd h.1 (pn hP rfl rfl)) (fun q => q.elim (fun h => absurd h (pn hP rfl rfl)) (fun q => q.elim (fun h => absurd h.1 (pn hP rfl rfl)) (fun h => absurd h (pn hP rfl rfl)))))))))))))) (fun j => (hF_57 43 j (fun q => q.elim (fun h => absurd h.1 (nn rfl)) (fun q => q.elim (fun h => absurd h (nn rfl)) (fun q => q.elim (fun h => absurd h.1 (nn rfl)) (fun q => q.elim (fun h => absurd h.1 (nn rfl)) (fun q => q.elim (fun h => absurd h.1 (nn rfl)) (fun q => q.elim (fun h => absurd h.1 (nn rfl)) (fun q => q.elim (fun h => absurd h.1 (nn rfl)) (fun q => q.elim (fun h => absurd h.1 (nn rfl)) (fun q => q.elim (fun h => absurd h.1 (nn rfl)) (fun q => q.elim (fun h => absurd h.1 (nn rfl)) (fun q => q.elim (fun h => absurd h.1 (nn rfl)) (fun q => q.elim (fun h => absurd h (nn rfl)) (fun q => q.elim (fun h => absurd h (nn rfl)) (fun q => q.elim (fun h => absurd h (nn rfl)) (fun h => absurd h (nn rfl))))))))))))))))).trans ((up_c (nn rfl)).trans (hF_9 43 j (fun q => q.elim (fun h => absurd h.1 (nn rfl)) (fun q => q.elim (fun h => absurd h.1 (nn rfl)) (fun q => q.elim (fun h => absurd h.1 (nn rfl)) (fun q => q.elim (fun h => absurd h.1 (nn rfl)) (fun q => q.elim (fun h => absurd h.1 (nn rfl)) (fun q => q.elim (fun h => absurd h.1 (nn rfl)) (fun q => q.elim (fun h => absurd h.1 (pn hP rfl rfl)) (fun q => q.elim (fun h => absurd h (pn hP rfl rfl)) (fun q => q.elim (fun h => absurd h.1 (pn hP rfl rfl)) (fun h => absurd h (pn hP rfl rfl)))))))))))))), ⟨by omega, by omega, by omega, by omega⟩⟩

set_option maxRecDepth 100000 in
set_option maxHeartbeats 4000000 in
theorem o_3 {xs : Nat → Int32} {L i0 d nc ns P Q : Nat} {c : ME} {Z : AR → Prop} (hi : i0 + 8 ≤ L) (hL : L ≤ 100000) (hI : Iv 0 (-1) P Q c) (hR : Rq P c) (K : ∀ (P2 Q2 : Nat) (c2 : ME) (e : Nat), e ≤ 1 → Iv 0 (-1) P2 Q2 c2 → (Rq P2 c2) → Wp (a_scr L xs) (d + 90) 296 1844 [(4, vi (i0 : Int)), (3, .ref 67), (2, .ref 41), (1, .ref 0), (0, .ref a_SC)] [] (Wd P2 Q2 P2 P2 c2) (nc + e) (ns + 6 * e) Z) : Wp (a_scr L xs) (d + 90) 296 357 [(4, vi (i0 : Int)), (3, .ref 67), (2, .ref 41), (1, .ref 0), (0, .ref a_SC)] [] (Wd P Q P P c) nc ns Z := by
  obtain ⟨x1, hx1⟩ : ∃ z, (xs (i0 + 1)).toInt = z := ⟨_, rfl⟩
  have x1r := c_rng (xs (i0 + 1))
  rw [hx1] at x1r
  obtain ⟨x2, hx2⟩ : ∃ z, (xs (i0 + 2)).toInt = z := ⟨_, rfl⟩
  have x2r := c_rng (xs (i0 + 2))
  rw [hx2] at x2r
  obtain ⟨x3, hx3⟩ : ∃ z, (xs (i0 + 3)).toInt = z := ⟨_, rfl⟩
  have x3r := c_rng (xs (i0 + 3))
  rw [hx3] at x3r
  obtain ⟨x4, hx4⟩ : ∃ z, (xs (i0 + 4)).toInt = z := ⟨_, rfl⟩
  have x4r := c_rng (xs (i0 + 4))
  rw [hx4] at x4r
  obtain ⟨x5, hx5⟩ : ∃ z, (xs (i0 + 5)).toInt = z := ⟨_, rfl⟩
  have x5r := c_rng (xs (i0 + 5))
  rw [hx5] at x5r
  obtain ⟨x6, hx6⟩ : ∃ z, (xs (i0 + 6)).toInt = z := ⟨_, rfl⟩
  have x6r := c_rng (xs (i0 + 6))
  rw [hx6] at x6r
  obtain ⟨x7, hx7⟩ : ∃ z, (xs (i0 + 7)).toInt = z := ⟨_, rfl⟩
  have x7r := c_rng (xs (i0 + 7))
  rw [hx7] at x7r
  have hT := rl_t hR
  have hU := rl_u hR
  have hP := iv_P hI
  obtain ⟨n0, hn0⟩ : ∃ z, c P 0 = z := ⟨_, rfl⟩
  have hm0 : c 41 20 = n0 := (rl_nums hR).1.symm.trans hn0
  have hr0 := ir_p0_0 hI hP
  rw [hn0] at hr0
  obtain ⟨n1, hn1⟩ : ∃ z, c P 1 = z := ⟨_, rfl⟩
  have hm1 : c 41 21 = n1 := (rl_nums hR).2.1.symm.trans hn1
  have hr1 := ir_p0_1 hI hP
  rw [hn1] at hr1
  obtain ⟨n2, hn2⟩ : ∃ z, c P 2 = z := ⟨_, rfl⟩
  have hm2 : c 41 22 = n2 := (rl_nums hR).2.2.1.symm.trans hn2
  have hr2 := ir_p0_2 hI hP
  rw [hn2] at hr2
  obtain ⟨n3, hn3⟩ : ∃ z, c P 3 = z := ⟨_, rfl⟩
  have hm3 : c 41 23 = n3 := (rl_nums hR).2.2.2.symm.trans hn3
  have hr3 := ir_p0_3 hI hP
  rw [hn3] at hr3
  have hP := iv_P hI
  have hQ := iv_Q hI
  refine q_aload_n rfl rfl ?_
  refine q_aload_n rfl rfl ?_
  refine q_iload rfl rfl ?_
  refine q_iconst rfl ?_
  refine v_iadd (v := (i0 : Int) + 1) rfl (by omega) ?_
  refine v_scr (j := i0 + 1) rfl (by omega) (by omega) hL hx1 ?_
  refine q_aload_n rfl rfl ?_
  refine q_call rfl rfl rfl rfl ?_
  refine q_aload_n rfl rfl ?_
  refine q_iconst rfl ?_
  refine q_aload_n rfl rfl ?_
  refine q_iload_n rfl rfl ?_
  have h_1 := ir_1_3 hI
  refine v_cv rfl rfl rfl rfl (by decide) ⟨⟨rfl, rfl⟩, by decide, rfl⟩ (Nat.le_of_ble_eq_true rfl) (Nat.le_of_ble_eq_true rfl) (s_86 (a1 := x1) hI (show (-2147483648) ≤ x1 ∧ x1 ≤ 2147483647 from by omega) (fun c_2 hI_3 hF_4 h_5 h_6 => ?_) (fun c_7 y_10 hI_8 hF_9 hy_10 h_11 => ?_))
  · skip
    have h_12 := ir_1_3 hI_3
    refine bk_thr (z := Int32.ofInt 1) rfl ⟨_, _, rfl⟩ rfl ?_
    refine bk_inl ?_
    refine q_istore rfl (by decide) ?_
    refine q_aload_n rfl rfl ?_
    refine q_aload_n rfl rfl ?_
    refine q_iload rfl rfl ?_
    refine q_iconst rfl ?_
    refine v_iadd (v := (i0 : Int) + 1) rfl (by omega) ?_
    refine v_scr (j := i0 + 1) rfl (by omega) (by omega) hL hx1 ?_
    have h_13 := ir_41_2 hI
    have kn_14 : Hid (c_2 41 2 = c 41 2) := hF_4 41 2 (fun h => absurd h.1 (nn rfl))
    have h_15 : c_2 41 2 = c 41 2 := (hid kn_14)
    refine v_cv rfl rfl rfl rfl (by decide) ⟨⟨rfl, rfl⟩, by decide, rfl⟩ (Nat.le_of_ble_eq_true rfl) (Nat.le_of_ble_eq_true rfl) (s_202 (a1 := x1) hI_3 (show (-2147483648) ≤ x1 ∧ x1 ≤ 2147483647 from by omega) (fun c_16 y_19 hI_17 hF_18 hy_19 h_20 => ?_))
    refine bk_inl ?_
    have h_21 := ir_41_2 hI_17
    refine q_istore rfl (by decide) ?_
    refine q_goto (t := 1844) rfl (by decide) ?_
    refine Wp_ls [(4, vi (i0 : Int)), (3, .ref 67), (2, .ref 41), (1, .ref 0), (0, .ref a_SC)] (lsub_cons rfl (lsub_cons rfl (lsub_cons rfl (lsub_cons rfl (lsub_cons rfl lsub_nil))))) ?_
    have kn_22 : Hid (c_2 1 3 = c 1 3) := hF_4 1 3 (fun h => absurd h.1 (nn rfl))
    have kn_23 : Hid (c_16 1 3 = c 1 3) := (hF_18 1 3 (fun q => q.elim (fun h => absurd h.1 (nn rfl)) (fun q => q.elim (fun h => absurd h (nn rfl)) (fun q => q.elim (fun h => absurd h.1 (nn rfl)) (fun q => q.elim (fun h => absurd h.1 (nn rfl)) (fun q => q.elim (fun h => absurd h.1 (nn rfl)) (fun q => q.elim (fun h => absurd h.1 (nn rfl)) (fun q => q.elim (fun h => absurd h.1 (nn rfl)) (fun q => q.elim (fun h => absurd h.1 (nn rfl)) (fun q => q.elim (fun h => absurd h.1 (nn rfl)) (fun q => q.elim (fun h => absurd h.1 (nn rfl)) (fun q => q.elim (fun h => absurd h (nn rfl)) (fun q => q.elim (fun h => absurd h (nn rfl)) (fun q => q.elim (fun h => absurd h (nn rfl)) (fun q => q.elim (fun h => absurd h.1 (nn rfl)) (fun q => q.elim (fun h => absurd h.1 (nn rfl)) (fun q => q.elim (fun h => absurd h.1 (nn rfl)) (fun q => q.elim (fun h => absurd h.1 (nn rfl)) (fun q => q.elim (fun h => absurd h.1 (nn rfl)) (fun q => q.elim (fun h => absurd h (nn rfl)) (fun q => q.elim (fun h => absurd h (nn rfl)) (fun q => q.elim (fun h => absurd h (nn rfl)) (fun h => absurd h (nn rfl)))))))))))))))))))))))).trans (hid kn_22)
    have h_24 : c_16 1 3 = c 1 3 := (hid kn_23)
    have h_25 : c_16 41 2 = c_16 41 2 := rfl
    have kn_26 : Hid (c_2 P 0 = n0) := (hF_4 P 0 (fun h => absurd h.1 (np0 hP rfl))).trans (hn0)
    have kn_27 : Hid (c_16 P 0 = n0) := (hF_18 P 0 (fun q => q.elim (fun h => absurd h.1 (np0 hP rfl)) (fun q => q.elim (fun h => absurd h (np0 hP rfl)) (fun q => q.elim (fun h => absurd h.1 (np0 hP rfl)) (fun q => q.elim (fun h => absurd h.1 (np0 hP rfl)) (fun q => q.elim (fun h => absurd h.1 (np0 hP rfl)) (fun q => q.elim (fun h => absurd h.1 (np0 hP rfl)) (fun q => q.elim (fun h => absurd h.1 (np0 hP rfl)) (fun q => q.elim (fun h => absurd h.1 (np0 hP rfl)) (fun q => q.elim (fun h => absurd h.1 (np0 hP rfl)) (fun q => q.elim (fun h => absurd h.1 (np0 hP rfl)) (fun q => q.elim (fun h => absurd h (np0 hP rfl)) (fun q => q.elim (fun h => absurd h (np0 hP rfl)) (fun q => q.elim (fun h => absurd h (np0 hP rfl)) (fun q => q.elim (fun h => absurd h.1 (np0 hP rfl)) (fun q => q.elim (fun h => absurd h.1 (np0 hP rfl)) (fun q => q.elim (fun h => absurd h.1 (np0 hP rfl)) (fun q => q.elim (fun h => absurd h.1 (np0 hP rfl)) (fun q => q.elim (fun h => absurd h.1 (np0 hP rfl)) (fun q => q.elim (fun h => absurd h (np0 hP rfl)) (fun q => q.elim (fun h => absurd h (np0 hP rfl)) (fun q => q.elim (fun h => absurd h (np0 hP rfl)) (fun h => absurd h (np0 hP rfl)))))))))))))))))))))))).trans (hid kn_26)
    have h_28 : c_16 P 0 = n0 := (hid kn_27)
    have kn_29 : Hid (c_2 41 20 = n0) := (hF_4 41 20 (fun h => absurd h.1 (nn rfl))).trans (hm0)
    have kn_30 : Hid (c_16 41 20 = n0) := (hF_18 41 20 (fun q => q.elim (fun h => absurd h.2 (ni rfl)) (fun q => q.elim (fun h => absurd h (nn rfl)) (fun q => q.elim (fun h => absurd h.2 (ni rfl)) (fun q => q.elim (fun h => absurd h.2 (ni rfl)) (fun q => q.elim (fun h => absurd h.2 (ni rfl)) (fun q => q.elim (fun h => absurd h.2 (ni rfl)) (fun q => q.elim (fun h => absurd h.2 (ni rfl)) (fun q => q.elim (fun h => absurd h.2 (ni rfl)) (fun q => q.elim (fun h => absurd h.2 (ni rfl)) (fun q => q.elim (fun h => absurd h.2 (ni rfl)) (fun q => q.elim (fun h => absurd h (nn rfl)) (fun q => q.elim (fun h => absurd h (nn rfl)) (fun q => q.elim (fun h => absurd h (nn rfl)) (fun q => q.elim (fun h => absurd h.2 (ni rfl)) (fun q => q.elim (fun h => absurd h.2 (ni rfl)) (fun q => q.elim (fun h => absurd h.2 (ni rfl)) (fun q => q.elim (fun h => absurd h.2 (ni rfl)) (fun q => q.elim (fun h => absurd h.2 (ni rfl)) (fun q => q.elim (fun h => absurd h (nn rfl)) (fun q => q.elim (fun h => absurd h (nn rfl)) (fun q => q.elim (fun h => absurd h (nn rfl)) (fun h => absurd h (nn rfl)))))))))))))))))))))))).trans (hid kn_29)
    have h_31 : c_16 41 20 = n0 := (hid kn_30)
    have kn_32 : Hid (c_2 P 1 = n1) := (hF_4 P 1 (fun h => absurd h.1 (np0 hP rfl))).trans (hn1)
    have kn_33 : Hid (c_16 P 1 = n1) := (hF_18 P 1 (fun q => q.elim (fun h => absurd h.1 (np0 hP rfl)) (fun q => q.elim (fun h => absurd h (np0 hP rfl)) (fun q => q.elim (fun h => absurd h.1 (np0 hP rfl)) (fun q => q.elim (fun h => absurd h.1 (np0 hP rfl)) (fun q => q.elim (fun h => absurd h.1 (np0 hP rfl)) (fun q => q.elim (fun h => absurd h.1 (np0 hP rfl)) (fun q => q.elim (fun h => absurd h.1 (np0 hP rfl)) (fun q => q.elim (fun h => absurd h.1 (np0 hP rfl)) (fun q => q.elim (fun h => absurd h.1 (np0 hP rfl)) (fun q => q.elim (fun h => absurd h.1 (np0 hP rfl)) (fun q => q.elim (fun h => absurd h (np0 hP rfl)) (fun q => q.elim (fun h => absurd h (np0 hP rfl)) (fun q => q.elim (fun h => absurd h (np0 hP rfl)) (fun q => q.elim (fun h => absurd h.1 (np0 hP rfl)) (fun q => q.elim (fun h => absurd h.1 (np0 hP rfl)) (fun q => q.elim (fun h => absurd h.1 (np0 hP rfl)) (fun q => q.elim (fun h => absurd h.1 (np0 hP rfl)) (fun q => q.elim (fun h => absurd h.1 (np0 hP rfl)) (fun q => q.elim (fun h => absurd h (np0 hP rfl)) (fun q => q.elim (fun h => absurd h (np0 hP rfl)) (fun q => q.elim (fun h => absurd h (np0 hP rfl)) (fun h => absurd h (np0 hP rfl)))))))))))))))))))))))).trans (hid kn_32)
    have h_34 : c_16 P 1 = n1 := (hid kn_33)
    have kn_35 : Hid (c_2 41 21 = n1) := (hF_4 41 21 (fun h => absurd h.1 (nn rfl))).trans (hm1)
    have kn_36 : Hid (c_16 41 21 = n1) := (hF_18 41 21 (fun q => q.elim (fun h => absurd h.2 (ni rfl)) (fun q => q.elim (fun h => absurd h (nn rfl)) (fun q => q.elim (fun h => absurd h.2 (ni rfl)) (fun q => q.elim (fun h => absurd h.2 (ni rfl)) (fun q => q.elim (fun h => absurd h.2 (ni rfl)) (fun q => q.elim (fun h => absurd h.2 (ni rfl)) (fun q => q.elim (fun h => absurd h.2 (ni rfl)) (fun q => q.elim (fun h => absurd h.2 (ni rfl)) (fun q => q.elim (fun h => absurd h.2 (ni rfl)) (fun q => q.elim (fun h => absurd h.2 (ni rfl)) (fun q => q.elim (fun h => absurd h (nn rfl)) (fun q => q.elim (fun h => absurd h (nn rfl)) (fun q => q.elim (fun h => absurd h (nn rfl)) (fun q => q.elim (fun h => absurd h.2 (ni rfl)) (fun q => q.elim (fun h => absurd h.2 (ni rfl)) (fun q => q.elim (fun h => absurd h.2 (ni rfl)) (fun q => q.elim (fun h => absurd h.2 (ni rfl)) (fun q => q.elim (fun h => absurd h.2 (ni rfl)) (fun q => q.elim (fun h => absurd h (nn rfl)) (fun q => q.elim (fun h => absurd h (nn rfl)) (fun q => q.elim (fun h => absurd h (nn rfl)) (fun h => absurd h (nn rfl)))))))))))))))))))))))).trans (hid kn_35)
    have h_37 : c_16 41 21 = n1 := (hid kn_36)
    have kn_38 : Hid (c_2 P 2 = n2) := (hF_4 P 2 (fun h => absurd h.1 (np0 hP rfl))).trans (hn2)
    have kn_39 : Hid (c_16 P 2 = n2) := (hF_18 P 2 (fun q => q.elim (fun h => absurd h.1 (np0 hP rfl)) (fun q => q.elim (fun h => absurd h (np0 hP rfl)) (fun q => q.elim (fun h => absurd h.1 (np0 hP rfl)) (fun q => q.elim (fun h => absurd h.1 (np0 hP rfl)) (fun q => q.elim (fun h => absurd h.1 (np0 hP rfl)) (fun q => q.elim (fun h => absurd h.1 (np0 hP rfl)) (fun q => q.elim (fun h => absurd h.1 (np0 hP rfl)) (fun q => q.elim (fun h => absurd h.1 (np0 hP rfl)) (fun q => q.elim (fun h => absurd h.1 (np0 hP rfl)) (fun q => q.elim (fun h => absurd h.1 (np0 hP rfl)) (fun q => q.elim (fun h => absurd h (np0 hP rfl)) (fun q => q.elim (fun h => absurd h (np0 hP rfl)) (fun q => q.elim (fun h => absurd h (np0 hP rfl)) (fun q => q.elim (fun h => absurd h.1 (np0 hP rfl)) (fun q => q.elim (fun h => absurd h.1 (np0 hP rfl)) (fun q => q.elim (fun h => absurd h.1 (np0 hP rfl)) (fun q => q.elim (fun h => absurd h.1 (np0 hP rfl)) (fun q => q.elim (fun h => absurd h.1 (np0 hP rfl)) (fun q => q.elim (fun h => absurd h (np0 hP rfl)) (fun q => q.elim (fun h => absurd h (np0 hP rfl)) (fun q => q.elim (fun h => absurd h (np0 hP rfl)) (fun h => absurd h (np0 hP rfl)))))))))))))))))))))))).trans (hid kn_38)
    have h_40 : c_16 P 2 = n2 := (hid kn_39)
    have kn_41 : Hid (c_2 41 22 = n2) := (hF_4 41 22 (fun h => absurd h.1 (nn rfl))).trans (hm2)
    have kn_42 : Hid (c_16 41 22 = n2) := (hF_18 41 22 (fun q => q.elim (fun h => absurd h.2 (ni rfl)) (fun q => q.elim (fun h => absurd h (nn rfl)) (fun q => q.elim (fun h => absurd h.2 (ni rfl)) (fun q => q.elim (fun h => absurd h.2 (ni rfl)) (fun q => q.elim (fun h => absurd h.2 (ni rfl)) (fun q => q.elim (fun h => absurd h.2 (ni rfl)) (fun q => q.elim (fun h => absurd h.2 (ni rfl)) (fun q => q.elim (fun h => absurd h.2 (ni rfl)) (fun q => q.elim (fun h => absurd h.2 (ni rfl)) (fun q => q.elim (fun h => absurd h.2 (ni rfl)) (fun q => q.elim (fun h => absurd h (nn rfl)) (fun q => q.elim (fun h => absurd h (nn rfl)) (fun q => q.elim (fun h => absurd h (nn rfl)) (fun q => q.elim (fun h => absurd h.2 (ni rfl)) (fun q => q.elim (fun h => absurd h.2 (ni rfl)) (fun q => q.elim (fun h => absurd h.2 (ni rfl)) (fun q => q.elim (fun h => absurd h.2 (ni rfl)) (fun q => q.elim (fun h => absurd h.2 (ni rfl)) (fun q => q.elim (fun h => absurd h (nn rfl)) (fun q => q.elim (fun h => absurd h (nn rfl)) (fun q => q.elim (fun h => absurd h (nn rfl)) (fun h => absurd h (nn rfl)))))))))))))))))))))))).trans (hid kn_41)
    have h_43 : c_16 41 22 = n2 := (hid kn_42)
    have kn_44 : Hid (c_2 P 3 = n3) := (hF_4 P 3 (fun h => absurd h.1 (np0 hP rfl))).trans (hn3)
    have kn_45 : Hid (c_16 P 3 = n3) := (hF_18 P 3 (fun q => q.elim (fun h => absurd h.1 (np0 hP rfl)) (fun q => q.elim (fun h => absurd h (np0 hP rfl)) (fun q => q.elim (fun h => absurd h.1 (np0 hP rfl)) (fun q => q.elim (fun h => absurd h.1 (np0 hP rfl)) (fun q => q.elim (fun h => absurd h.1 (np0 hP rfl)) (fun q => q.elim (fun h => absurd h.1 (np0 hP rfl)) (fun q => q.elim (fun h => absurd h.1 (np0 hP rfl)) (fun q => q.elim (fun h => absurd h.1 (np0 hP rfl)) (fun q => q.elim (fun h => absurd h.1 (np0 hP rfl)) (fun q => q.elim (fun h => absurd h.1 (np0 hP rfl)) (fun q => q.elim (fun h => absurd h (np0 hP rfl)) (fun q => q.elim (fun h => absurd h (np0 hP rfl)) (fun q => q.elim (fun h => absurd h (np0 hP rfl)) (fun q => q.elim (fun h => absurd h.1 (np0 hP rfl)) (fun q => q.elim (fun h => absurd h.1 (np0 hP rfl)) (fun q => q.elim (fun h => absurd h.1 (np0 hP rfl)) (fun q => q.elim (fun h => absurd h.1 (np0 hP rfl)) (fun q => q.elim (fun h => absurd h.1 (np0 hP rfl)) (fun q => q.elim (fun h => absurd h (np0 hP rfl)) (fun q => q.elim (fun h => absurd h (np0 hP rfl)) (fun q => q.elim (fun h => absurd h (np0 hP rfl)) (fun h => absurd h (np0 hP rfl)))))))))))))))))))))))).trans (hid kn_44)
    have h_46 : c_16 P 3 = n3 := (hid kn_45)
    have kn_47 : Hid (c_2 41 23 = n3) := (hF_4 41 23 (fun h => absurd h.1 (nn rfl))).trans (hm3)
    have kn_48 : Hid (c_16 41 23 = n3) := (hF_18 41 23 (fun q => q.elim (fun h => absurd h.2 (ni rfl)) (fun q => q.elim (fun h => absurd h (nn rfl)) (fun q => q.elim (fun h => absurd h.2 (ni rfl)) (fun q => q.elim (fun h => absurd h.2 (ni rfl)) (fun q => q.elim (fun h => absurd h.2 (ni rfl)) (fun q => q.elim (fun h => absurd h.2 (ni rfl)) (fun q => q.elim (fun h => absurd h.2 (ni rfl)) (fun q => q.elim (fun h => absurd h.2 (ni rfl)) (fun q => q.elim (fun h => absurd h.2 (ni rfl)) (fun q => q.elim (fun h => absurd h.2 (ni rfl)) (fun q => q.elim (fun h => absurd h (nn rfl)) (fun q => q.elim (fun h => absurd h (nn rfl)) (fun q => q.elim (fun h => absurd h (nn rfl)) (fun q => q.elim (fun h => absurd h.2 (ni rfl)) (fun q => q.elim (fun h => absurd h.2 (ni rfl)) (fun q => q.elim (fun h => absurd h.2 (ni rfl)) (fun q => q.elim (fun h => absurd h.2 (ni rfl)) (fun q => q.elim (fun h => absurd h.2 (ni rfl)) (fun q => q.elim (fun h => absurd h (nn rfl)) (fun q => q.elim (fun h => absurd h (nn rfl)) (fun q => q.elim (fun h => absurd h (nn rfl)) (fun h => absurd h (nn rfl)))))))))))))))))))))))).trans (hid kn_47)
    have h_49 : c_16 41 23 = n3 := (hid kn_48)
    exact K P Q c_16 1 (by decide) hI_17 ⟨by omega, ub_fr hU (fun j => (hF_18 2 j (fun q => q.elim (fun h => absurd h.1 (nn rfl)) (fun q => q.elim (fun h => absurd h (nn rfl)) (fun q => q.elim (fun h => absurd h.1 (nn rfl)) (fun q => q.elim (fun h => absurd h.1 (nn rfl)) (fun q => q.elim (fun h => absurd h.1 (nn rfl)) (fun q => q.elim (fun h => absurd h.1 (nn rfl)) (fun q => q.elim (fun h => absurd h.1 (nn rfl)) (fun q => q.elim (fun h => absurd h.1 (nn rfl)) (fun q => q.elim (fun h => absurd h.1 (nn rfl)) (fun q => q.elim (fun h => absurd h.1 (nn rfl)) (fun q => q.elim (fun h => absurd h (nn rfl)) (fun q => q.elim (fun h => absurd h (nn rfl)) (fun q => q.elim (fun h => absurd h (nn rfl)) (fun q => q.elim (fun h => absurd h.1 (nn rfl)) (fun q => q.elim (fun h => absurd h.1 (nn rfl)) (fun q => q.elim (fun h => absurd h.1 (nn rfl)) (fun q => q.elim (fun h => absurd h.1 (nn rfl)) (fun q => q.elim (fun h => absurd h.1 (nn rfl)) (fun q => q.elim (fun h => absurd h (nn rfl)) (fun q => q.elim (fun h => absurd h (nn rfl)) (fun q => q.elim (fun h => absurd h (nn rfl)) (fun h => absurd h (nn rfl)))))))))))))))))))))))).trans (hF_4 2 j (fun h => absurd h.1 (nn rfl)))) (fun j => (hF_18 43 j (fun q => q.elim (fun h => absurd h.1 (nn rfl)) (fun q => q.elim (fun h => absurd h (nn rfl)) (fun q => q.elim (fun h => absurd h.1 (nn rfl)) (fun q => q.elim (fun h => absurd h.1 (nn rfl)) (fun q => q.elim (fun h => absurd h.1 (nn rfl)) (fun q => q.elim (fun h => absurd h.1 (nn rfl)) (fun q => q.elim (fun h => absurd h.1 (nn rfl)) (fun q => q.elim (fun h => absurd h.1 (nn rfl)) (fun q => q.elim (fun h => absurd h.1 (nn rfl)) (fun q => q.elim (fun h => absurd h.1 (nn rfl)) (fun q => q.elim (fun h => absurd h (nn rfl)) (fun q => q.elim (fun h => absurd h (nn rfl)) (fun q => q.elim (fun h => absurd h (nn rfl)) (fun q => q.elim (fun h => absurd h.1 (nn rfl)) (fun q => q.elim (fun h => absurd h.1 (nn rfl)) (fun q => q.elim (fun h => absurd h.1 (nn rfl)) (fun q => q.elim (fun h => absurd h.1 (nn rfl)) (fun q => q.elim (fun h => absurd h.1 (nn rfl)) (fun q => q.elim (fun h => absurd h (nn rfl)) (fun q => q.elim (fun h => absurd h (nn rfl)) (fun q => q.elim (fun h => absurd h (nn rfl)) (fun h => absurd h (nn rfl)))))))))))))))))))))))).trans (hF_4 43 j (fun h => absurd h.1 (nn rfl)))), ⟨by omega, by omega, by omega, by omega⟩⟩
  refine bk_inl ?_
  have h_50 := ir_1_3 hI_8
  refine v_i2l rfl (by omega) ?_
  refine v_ls rfl rfl (by decide) (by decide) (by decide) ?_
  refine q_goto (t := 15) rfl (by decide) ?_
  refine q_iconst rfl ?_
  refine q_iret rfl rfl ?_
  refine bk_inl ?_
  refine q_istore rfl (by decide) ?_
  refine q_aload_n rfl rfl ?_
  refine q_aload_n rfl rfl ?_
  refine q_iload rfl rfl ?_
  refine q_iconst rfl ?_
  refine v_iadd (v := (i0 : Int) + 1) rfl (by omega) ?_
  refine v_scr (j := i0 + 1) rfl (by omega) (by omega) hL hx1 ?_
  have hI_51 := iw_lx (a := 67) (j := 0) (v := y_10) hI_8 (by omega)
  have h_52 := ir_41_2 hI
  have kn_53 : Hid (c_7 41 2 = c 41 2) := hF_9 41 2 (fun q => q.elim (fun h => absurd h.1 (nn rfl)) (fun q => q.elim (fun h => absurd h.1 (nn rfl)) (fun q => q.elim (fun h => absurd h.1 (nn rfl)) (fun q => q.elim (fun h => absurd h.1 (nn rfl)) (fun q => q.elim (fun h => absurd h.1 (nn rfl)) (fun q => q.elim (fun h => absurd h.1 (nn rfl)) (fun q => q.elim (fun h => absurd h.1 (nn rfl)) (fun q => q.elim (fun h => absurd h.1 (nn rfl)) (fun q => q.elim (fun h => absurd h.1 (nn rfl)) (fun q => q.elim (fun h => absurd h.1 (nn rfl)) (fun q => q.elim (fun h => absurd h (nn rfl)) (fun q => q.elim (fun h => absurd h.1 (nn rfl)) (fun q => q.elim (fun h => absurd h (nn rfl)) (fun q => q.elim (fun h => absurd h (nn rfl)) (fun q => q.elim (fun h => absurd h.1 (nn rfl)) (fun q => q.elim (fun h => absurd h (pn hP rfl rfl)) (fun h => absurd h (pn hP rfl rfl))))))))))))))))))
  have h_54 : (up c_7 67 0 y_10) 41 2 = c 41 2 := ((up_c (nn rfl)).trans (hid kn_53))
  refine v_cv rfl rfl rfl rfl (by decide) ⟨⟨rfl, rfl⟩, by decide, rfl⟩ (Nat.le_of_ble_eq_true rfl) (Nat.le_of_ble_eq_true rfl) (s_202 (a1 := x1) hI_51 (show (-2147483648) ≤ x1 ∧ x1 ≤ 2147483647 from by omega) (fun c_55 y_58 hI_56 hF_57 hy_58 h_59 => ?_))
  refine bk_inl ?_
  have h_60 := ir_41_2 hI_56
  refine q_istore rfl (by decide) ?_
  refine q_goto (t := 1844) rfl (by decide) ?_
  refine Wp_ls [(4, vi (i0 : Int)), (3, .ref 67), (2, .ref 41), (1, .ref 0), (0, .ref a_SC)] (lsub_cons rfl (lsub_cons rfl (lsub_cons rfl (lsub_cons rfl (lsub_cons rfl lsub_nil))))) ?_
  have kn_61 : Hid (c_55 1 3 = c_7 1 3) := (hF_57 1 3 (fun q => q.elim (fun h => absurd h.1 (nn rfl)) (fun q => q.elim (fun h => absurd h (nn rfl)) (fun q => q.elim (fun h => absurd h.1 (nn rfl)) (fun q => q.elim (fun h => absurd h.1 (nn rfl)) (fun q => q.elim (fun h => absurd h.1 (nn rfl)) (fun q => q.elim (fun h => absurd h.1 (nn rfl)) (fun q => q.elim (fun h => absurd h.1 (nn rfl)) (fun q => q.elim (fun h => absurd h.1 (nn rfl)) (fun q => q.elim (fun h => absurd h.1 (nn rfl)) (fun q => q.elim (fun h => absurd h.1 (nn rfl)) (fun q => q.elim (fun h => absurd h (nn rfl)) (fun q => q.elim (fun h => absurd h (nn rfl)) (fun q => q.elim (fun h => absurd h (nn rfl)) (fun q => q.elim (fun h => absurd h.1 (nn rfl)) (fun q => q.elim (fun h => absurd h.1 (nn rfl)) (fun q => q.elim (fun h => absurd h.1 (nn rfl)) (fun q => q.elim (fun h => absurd h.1 (nn rfl)) (fun q => q.elim (fun h => absurd h.1 (nn rfl)) (fun q => q.elim (fun h => absurd h (nn rfl)) (fun q => q.elim (fun h => absurd h (nn rfl)) (fun q => q.elim (fun h => absurd h (nn rfl)) (fun h => absurd h (nn rfl)))))))))))))))))))))))).trans (up_c (nn rfl))
  have h_62 : c_55 1 3 = c_7 1 3 := (hid kn_61)
  have h_63 : c_55 41 2 = c_55 41 2 := rfl
  have kn_64 : Hid (c_7 P 0 = n0) := (hF_9 P 0 (fun q => q.elim (fun h => absurd h.1 (np0 hP rfl)) (fun q => q.elim (fun h => absurd h.1 (np0 hP rfl)) (fun q => q.elim (fun h => absurd h.1 (np0 hP rfl)) (fun q => q.elim (fun h => absurd h.1 (np0 hP rfl)) (fun q => q.elim (fun h => absurd h.1 (np0 hP rfl)) (fun q => q.elim (fun h => absurd h.1 (np0 hP rfl)) (fun q => q.elim (fun h => absurd h.1 (np0 hP rfl)) (fun q => q.elim (fun h => absurd h.1 (np0 hP rfl)) (fun q => q.elim (fun h => absurd h.1 (np0 hP rfl)) (fun q => q.elim (fun h => absurd h.1 (np0 hP rfl)) (fun q => q.elim (fun h => absurd h (np0 hP rfl)) (fun q => q.elim (fun h => absurd h.1 (np0 hP rfl)) (fun q => q.elim (fun h => absurd h (np0 hP rfl)) (fun q => q.elim (fun h => absurd h (np0 hP rfl)) (fun q => q.elim (fun h => absurd h.1 (np0 hP rfl)) (fun q => q.elim (fun h => absurd h (p0p rfl)) (fun h => absurd h (p0p rfl))))))))))))))))))).trans (hn0)
  have kn_65 : Hid (c_55 P 0 = n0) := (hF_57 P 0 (fun q => q.elim (fun h => absurd h.1 (np0 hP rfl)) (fun q => q.elim (fun h => absurd h (np0 hP rfl)) (fun q => q.elim (fun h => absurd h.1 (np0 hP rfl)) (fun q => q.elim (fun h => absurd h.1 (np0 hP rfl)) (fun q => q.elim (fun h => absurd h.1 (np0 hP rfl)) (fun q => q.elim (fun h => absurd h.1 (np0 hP rfl)) (fun q => q.elim (fun h => absurd h.1 (np0 hP rfl)) (fun q => q.elim (fun h => absurd h.1 (np0 hP rfl)) (fun q => q.elim (fun h => absurd h.1 (np0 hP rfl)) (fun q => q.elim (fun h => absurd h.1 (np0 hP rfl)) (fun q => q.elim (fun h => absurd h (np0 hP rfl)) (fun q => q.elim (fun h => absurd h (np0 hP rfl)) (fun q => q.elim (fun h => absurd h (np0 hP rfl)) (fun q => q.elim (fun h => absurd h.1 (np0 hP rfl)) (fun q => q.elim (fun h => absurd h.1 (np0 hP rfl)) (fun q => q.elim (fun h => absurd h.1 (np0 hP rfl)) (fun q => q.elim (fun h => absurd h.1 (np0 hP rfl)) (fun q => q.elim (fun h => absurd h.1 (np0 hP rfl)) (fun q => q.elim (fun h => absurd h (np0 hP rfl)) (fun q => q.elim (fun h => absurd h (np0 hP rfl)) (fun q => q.elim (fun h => absurd h (np0 hP rfl)) (fun h => absurd h (np0 hP rfl)))))))))))))))))))))))).trans ((up_c (np0 hP rfl)).trans (hid kn_64))
  have h_66 : c_55 P 0 = n0 := (hid kn_65)
  have kn_67 : Hid (c_7 41 20 = n0) := (hF_9 41 20 (fun q => q.elim (fun h => absurd h.1 (nn rfl)) (fun q => q.elim (fun h => absurd h.1 (nn rfl)) (fun q => q.elim (fun h => absurd h.1 (nn rfl)) (fun q => q.elim (fun h => absurd h.1 (nn rfl)) (fun q => q.elim (fun h => absurd h.1 (nn rfl)) (fun q => q.elim (fun h => absurd h.1 (nn rfl)) (fun q => q.elim (fun h => absurd h.1 (nn rfl)) (fun q => q.elim (fun h => absurd h.1 (nn rfl)) (fun q => q.elim (fun h => absurd h.1 (nn rfl)) (fun q => q.elim (fun h => absurd h.1 (nn rfl)) (fun q => q.elim (fun h => absurd h (nn rfl)) (fun q => q.elim (fun h => absurd h.1 (nn rfl)) (fun q => q.elim (fun h => absurd h (nn rfl)) (fun q => q.elim (fun h => absurd h (nn rfl)) (fun q => q.elim (fun h => absurd h.1 (nn rfl)) (fun q => q.elim (fun h => absurd h (pn hP rfl rfl)) (fun h => absurd h (pn hP rfl rfl))))))))))))))))))).trans (hm0)
  have kn_68 : Hid (c_55 41 20 = n0) := (hF_57 41 20 (fun q => q.elim (fun h => absurd h.2 (ni rfl)) (fun q => q.elim (fun h => absurd h (nn rfl)) (fun q => q.elim (fun h => absurd h.2 (ni rfl)) (fun q => q.elim (fun h => absurd h.2 (ni rfl)) (fun q => q.elim (fun h => absurd h.2 (ni rfl)) (fun q => q.elim (fun h => absurd h.2 (ni rfl)) (fun q => q.elim (fun h => absurd h.2 (ni rfl)) (fun q => q.elim (fun h => absurd h.2 (ni rfl)) (fun q => q.elim (fun h => absurd h.2 (ni rfl)) (fun q => q.elim (fun h => absurd h.2 (ni rfl)) (fun q => q.elim (fun h => absurd h (nn rfl)) (fun q => q.elim (fun h => absurd h (nn rfl)) (fun q => q.elim (fun h => absurd h (nn rfl)) (fun q => q.elim (fun h => absurd h.2 (ni rfl)) (fun q => q.elim (fun h => absurd h.2 (ni rfl)) (fun q => q.elim (fun h => absurd h.2 (ni rfl)) (fun q => q.elim (fun h => absurd h.2 (ni rfl)) (fun q => q.elim (fun h => absurd h.2 (ni rfl)) (fun q => q.elim (fun h => absurd h (nn rfl)) (fun q => q.elim (fun h => absurd h (nn rfl)) (fun q => q.elim (fun h => absurd h (nn rfl)) (fun h => absurd h (nn rfl)))))))))))))))))))))))).trans ((up_c (nn rfl)).trans (hid kn_67))
  have h_69 : c_55 41 20 = n0 := (hid kn_68)
  have kn_70 : Hid (c_7 P 1 = n1) := (hF_9 P 1 (fun q => q.elim (fun h => absurd h.1 (np0 hP rfl)) (fun q => q.elim (fun h => absurd h.1 (np0 hP rfl)) (fun q => q.elim (fun h => absurd h.1 (np0 hP rfl)) (fun q => q.elim (fun h => absurd h.1 (np0 hP rfl)) (fun q => q.elim (fun h => absurd h.1 (np0 hP rfl)) (fun q => q.elim (fun h => absurd h.1 (np0 hP rfl)) (fun q => q.elim (fun h => absurd h.1 (np0 hP rfl)) (fun q => q.elim (fun h => absurd h.1 (np0 hP rfl)) (fun q => q.elim (fun h => absurd h.1 (np0 hP rfl)) (fun q => q.elim (fun h => absurd h.1 (np0 hP rfl)) (fun q => q.elim (fun h => absurd h (np0 hP rfl)) (fun q => q.elim (fun h => absurd h.1 (np0 hP rfl)) (fun q => q.elim (fun h => absurd h (np0 hP rfl)) (fun q => q.elim (fun h => absurd h (np0 hP rfl)) (fun q => q.elim (fun h => absurd h.1 (np0 hP rfl)) (fun q => q.elim (fun h => absurd h (p0p rfl)) (fun h => absurd h (p0p rfl))))))))))))))))))).trans (hn1)
  have kn_71 : Hid (c_55 P 1 = n1) := (hF_57 P 1 (fun q => q.elim (fun h => absurd h.1 (np0 hP rfl)) (fun q => q.elim (fun h => absurd h (np0 hP rfl)) (fun q => q.elim (fun h => absurd h.1 (np0 hP rfl)) (fun q => q.elim (fun h => absurd h.1 (np0 hP rfl)) (fun q => q.elim (fun h => absurd h.1 (np0 hP rfl)) (fun q => q.elim (fun h => absurd h.1 (np0 hP rfl)) (fun q => q.elim (fun h => absurd h.1 (np0 hP rfl)) (fun q => q.elim (fun h => absurd h.1 (np0 hP rfl)) (fun q => q.elim (fun h => absurd h.1 (np0 hP rfl)) (fun q => q.elim (fun h => absurd h.1 (np0 hP rfl)) (fun q => q.elim (fun h => absurd h (np0 hP rfl)) (fun q => q.elim (fun h => absurd h (np0 hP rfl)) (fun q => q.elim (fun h => absurd h (np0 hP rfl)) (fun q => q.elim (fun h => absurd h.1 (np0 hP rfl)) (fun q => q.elim (fun h => absurd h.1 (np0 hP rfl)) (fun q => q.elim (fun h => absurd h.1 (np0 hP rfl)) (fun q => q.elim (fun h => absurd h.1 (np0 hP rfl)) (fun q => q.elim (fun h => absurd h.1 (np0 hP rfl)) (fun q => q.elim (fun h => absurd h (np0 hP rfl)) (fun q => q.elim (fun h => absurd h (np0 hP rfl)) (fun q => q.elim (fun h => absurd h (np0 hP rfl)) (fun h => absurd h (np0 hP rfl)))))))))))))))))))))))).trans ((up_c (np0 hP rfl)).trans (hid kn_70))
  have h_72 : c_55 P 1 = n1 := (hid kn_71)
  have kn_73 : Hid (c_7 41 21 = n1) := (hF_9 41 21 (fun q => q.elim (fun h => absurd h.1 (nn rfl)) (fun q => q.elim (fun h => absurd h.1 (nn rfl)) (fun q => q.elim (fun h => absurd h.1 (nn rfl)) (fun q => q.elim (fun h => absurd h.1 (nn rfl)) (fun q => q.elim (fun h => absurd h.1 (nn rfl)) (fun q => q.elim (fun h => absurd h.1 (nn rfl)) (fun q => q.elim (fun h => absurd h.1 (nn rfl)) (fun q => q.elim (fun h => absurd h.1 (nn rfl)) (fun q => q.elim (fun h => absurd h.1 (nn rfl)) (fun q => q.elim (fun h => absurd h.1 (nn rfl)) (fun q => q.elim (fun h => absurd h (nn rfl)) (fun q => q.elim (fun h => absurd h.1 (nn rfl)) (fun q => q.elim (fun h => absurd h (nn rfl)) (fun q => q.elim (fun h => absurd h (nn rfl)) (fun q => q.elim (fun h => absurd h.1 (nn rfl)) (fun q => q.elim (fun h => absurd h (pn hP rfl rfl)) (fun h => absurd h (pn hP rfl rfl))))))))))))))))))).trans (hm1)
  have kn_74 : Hid (c_55 41 21 = n1) := (hF_57 41 21 (fun q => q.elim (fun h => absurd h.2 (ni rfl)) (fun q => q.elim (fun h => absurd h (nn rfl)) (fun q => q.elim (fun h => absurd h.2 (ni rfl)) (fun q => q.elim (fun h => absurd h.2 (ni rfl)) (fun q => q.elim (fun h => absurd h.2 (ni rfl)) (fun q => q.elim (fun h => absurd h.2 (ni rfl)) (fun q => q.elim (fun h => absurd h.2 (ni rfl)) (fun q => q.elim (fun h => absurd h.2 (ni rfl)) (fun q => q.elim (fun h => absurd h.2 (ni rfl)) (fun q => q.elim (fun h => absurd h.2 (ni rfl)) (fun q => q.elim (fun h => absurd h (nn rfl)) (fun q => q.elim (fun h => absurd h (nn rfl)) (fun q => q.elim (fun h => absurd h (nn rfl)) (fun q => q.elim (fun h => absurd h.2 (ni rfl)) (fun q => q.elim (fun h => absurd h.2 (ni rfl)) (fun q => q.elim (fun h => absurd h.2 (ni rfl)) (fun q => q.elim (fun h => absurd h.2 (ni rfl)) (fun q => q.elim (fun h => absurd h.2 (ni rfl)) (fun q => q.elim (fun h => absurd h (nn rfl)) (fun q => q.elim (fun h => absurd h (nn rfl)) (fun q => q.elim (fun h => absurd h (nn rfl)) (fun h => absurd h (nn rfl)))))))))))))))))))))))).trans ((up_c (nn rfl)).trans (hid kn_73))
  have h_75 : c_55 41 21 = n1 := (hid kn_74)
  have kn_76 : Hid (c_7 P 2 = n2) := (hF_9 P 2 (fun q => q.elim (fun h => absurd h.1 (np0 hP rfl)) (fun q => q.elim (fun h => absurd h.1 (np0 hP rfl)) (fun q => q.elim (fun h => absurd h.1 (np0 hP rfl)) (fun q => q.elim (fun h => absurd h.1 (np0 hP rfl)) (fun q => q.elim (fun h => absurd h.1 (np0 hP rfl)) (fun q => q.elim (fun h => absurd h.1 (np0 hP rfl)) (fun q => q.elim (fun h => absurd h.1 (np0 hP rfl)) (fun q => q.elim (fun h => absurd h.1 (np0 hP rfl)) (fun q => q.elim (fun h => absurd h.1 (np0 hP rfl)) (fun q => q.elim (fun h => absurd h.1 (np0 hP rfl)) (fun q => q.elim (fun h => absurd h (np0 hP rfl)) (fun q => q.elim (fun h => absurd h.1 (np0 hP rfl)) (fun q => q.elim (fun h => absurd h (np0 hP rfl)) (fun q => q.elim (fun h => absurd h (np0 hP rfl)) (fun q => q.elim (fun h => absurd h.1 (np0 hP rfl)) (fun q => q.elim (fun h => absurd h (p0p rfl)) (fun h => absurd h (p0p rfl))))))))))))))))))).trans (hn2)
  have kn_77 : Hid (c_55 P 2 = n2) := (hF_57 P 2 (fun q => q.elim (fun h => absurd h.1 (np0 hP rfl)) (fun q => q.elim (fun h => absurd h (np0 hP rfl)) (fun q => q.elim (fun h => absurd h.1 (np0 hP rfl)) (fun q => q.elim (fun h => absurd h.1 (np0 hP rfl)) (fun q => q.elim (fun h => absurd h.1 (np0 hP rfl)) (fun q => q.elim (fun h => absurd h.1 (np0 hP rfl)) (fun q => q.elim (fun h => absurd h.1 (np0 hP rfl)) (fun q => q.elim (fun h => absurd h.1 (np0 hP rfl)) (fun q => q.elim (fun h => absurd h.1 (np0 hP rfl)) (fun q => q.elim (fun h => absurd h.1 (np0 hP rfl)) (fun q => q.elim (fun h => absurd h (np0 hP rfl)) (fun q => q.elim (fun h => absurd h (np0 hP rfl)) (fun q => q.elim (fun h => absurd h (np0 hP rfl)) (fun q => q.elim (fun h => absurd h.1 (np0 hP rfl)) (fun q => q.elim (fun h => absurd h.1 (np0 hP rfl)) (fun q => q.elim (fun h => absurd h.1 (np0 hP rfl)) (fun q => q.elim (fun h => absurd h.1 (np0 hP rfl)) (fun q => q.elim (fun h => absurd h.1 (np0 hP rfl)) (fun q => q.elim (fun h => absurd h (np0 hP rfl)) (fun q => q.elim (fun h => absurd h (np0 hP rfl)) (fun q => q.elim (fun h => absurd h (np0 hP rfl)) (fun h => absurd h (np0 hP rfl)))))))))))))))))))))))).trans ((up_c (np0 hP rfl)).trans (hid kn_76))
  have h_78 : c_55 P 2 = n2 := (hid kn_77)
  have kn_79 : Hid (c_7 41 22 = n2) := (hF_9 41 22 (fun q => q.elim (fun h => absurd h.1 (nn rfl)) (fun q => q.elim (fun h => absurd h.1 (nn rfl)) (fun q => q.elim (fun h => absurd h.1 (nn rfl)) (fun q => q.elim (fun h => absurd h.1 (nn rfl)) (fun q => q.elim (fun h => absurd h.1 (nn rfl)) (fun q => q.elim (fun h => absurd h.1 (nn rfl)) (fun q => q.elim (fun h => absurd h.1 (nn rfl)) (fun q => q.elim (fun h => absurd h.1 (nn rfl)) (fun q => q.elim (fun h => absurd h.1 (nn rfl)) (fun q => q.elim (fun h => absurd h.1 (nn rfl)) (fun q => q.elim (fun h => absurd h (nn rfl)) (fun q => q.elim (fun h => absurd h.1 (nn rfl)) (fun q => q.elim (fun h => absurd h (nn rfl)) (fun q => q.elim (fun h => absurd h (nn rfl)) (fun q => q.elim (fun h => absurd h.1 (nn rfl)) (fun q => q.elim (fun h => absurd h (pn hP rfl rfl)) (fun h => absurd h (pn hP rfl rfl))))))))))))))))))).trans (hm2)
  have kn_80 : Hid (c_55 41 22 = n2) := (hF_57 41 22 (fun q => q.elim (fun h => absurd h.2 (ni rfl)) (fun q => q.elim (fun h => absurd h (nn rfl)) (fun q => q.elim (fun h => absurd h.2 (ni rfl)) (fun q => q.elim (fun h => absurd h.2 (ni rfl)) (fun q => q.elim (fun h => absurd h.2 (ni rfl)) (fun q => q.elim (fun h => absurd h.2 (ni rfl)) (fun q => q.elim (fun h => absurd h.2 (ni rfl)) (fun q => q.elim (fun h => absurd h.2 (ni rfl)) (fun q => q.elim (fun h => absurd h.2 (ni rfl)) (fun q => q.elim (fun h => absurd h.2 (ni rfl)) (fun q => q.elim (fun h => absurd h (nn rfl)) (fun q => q.elim (fun h => absurd h (nn rfl)) (fun q => q.elim (fun h => absurd h (nn rfl)) (fun q => q.elim (fun h => absurd h.2 (ni rfl)) (fun q => q.elim (fun h => absurd h.2 (ni rfl)) (fun q => q.elim (fun h => absurd h.2 (ni rfl)) (fun q => q.elim (fun h => absurd h.2 (ni rfl)) (fun q => q.elim (fun h => absurd h.2 (ni rfl)) (fun q => q.elim (fun h => absurd h (nn rfl)) (fun q => q.elim (fun h => absurd h (nn rfl)) (fun q => q.elim (fun h => absurd h (nn rfl)) (fun h => absurd h (nn rfl)))))))))))))))))))))))).trans ((up_c (nn rfl)).trans (hid kn_79))
  have h_81 : c_55 41 22 = n2 := (hid kn_80)
  have kn_82 : Hid (c_7 P 3 = n3) := (hF_9 P 3 (fun q => q.elim (fun h => absurd h.1 (np0 hP rfl)) (fun q => q.elim (fun h => absurd h.1 (np0 hP rfl)) (fun q => q.elim (fun h => absurd h.1 (np0 hP rfl)) (fun q => q.elim (fun h => absurd h.1 (np0 hP rfl)) (fun q => q.elim (fun h => absurd h.1 (np0 hP rfl)) (fun q => q.elim (fun h => absurd h.1 (np0 hP rfl)) (fun q => q.elim (fun h => absurd h.1 (np0 hP rfl)) (fun q => q.elim (fun h => absurd h.1 (np0 hP rfl)) (fun q => q.elim (fun h => absurd h.1 (np0 hP rfl)) (fun q => q.elim (fun h => absurd h.1 (np0 hP rfl)) (fun q => q.elim (fun h => absurd h (np0 hP rfl)) (fun q => q.elim (fun h => absurd h.1 (np0 hP rfl)) (fun q => q.elim (fun h => absurd h (np0 hP rfl)) (fun q => q.elim (fun h => absurd h (np0 hP rfl)) (fun q => q.elim (fun h => absurd h.1 (np0 hP rfl)) (fun q => q.elim (fun h => absurd h (p0p rfl)) (fun h => absurd h (p0p rfl))))))))))))))))))).trans (hn3)
  have kn_83 : Hid (c_55 P 3 = n3) := (hF_57 P 3 (fun q => q.elim (fun h => absurd h.1 (np0 hP rfl)) (fun q => q.elim (fun h => absurd h (np0 hP rfl)) (fun q => q.elim (fun h => absurd h.1 (np0 hP rfl)) (fun q => q.elim (fun h => absurd h.1 (np0 hP rfl)) (fun q => q.elim (fun h => absurd h.1 (np0 hP rfl)) (fun q => q.elim (fun h => absurd h.1 (np0 hP rfl)) (fun q => q.elim (fun h => absurd h.1 (np0 hP rfl)) (fun q => q.elim (fun h => absurd h.1 (np0 hP rfl)) (fun q => q.elim (fun h => absurd h.1 (np0 hP rfl)) (fun q => q.elim (fun h => absurd h.1 (np0 hP rfl)) (fun q => q.elim (fun h => absurd h (np0 hP rfl)) (fun q => q.elim (fun h => absurd h (np0 hP rfl)) (fun q => q.elim (fun h => absurd h (np0 hP rfl)) (fun q => q.elim (fun h => absurd h.1 (np0 hP rfl)) (fun q => q.elim (fun h => absurd h.1 (np0 hP rfl)) (fun q => q.elim (fun h => absurd h.1 (np0 hP rfl)) (fun q => q.elim (fun h => absurd h.1 (np0 hP rfl)) (fun q => q.elim (fun h => absurd h.1 (np0 hP rfl)) (fun q => q.elim (fun h => absurd h (np0 hP rfl)) (fun q => q.elim (fun h => absurd h (np0 hP rfl)) (fun q => q.elim (fun h => absurd h (np0 hP rfl)) (fun h => absurd h (np0 hP rfl)))))))))))))))))))))))).trans ((up_c (np0 hP rfl)).trans (hid kn_82))
  have h_84 : c_55 P 3 = n3 := (hid kn_83)
  have kn_85 : Hid (c_7 41 23 = n3) := (hF_9 41 23 (fun q => q.elim (fun h => absurd h.1 (nn rfl)) (fun q => q.elim (fun h => absurd h.1 (nn rfl)) (fun q => q.elim (fun h => absurd h.1 (nn rfl)) (fun q => q.elim (fun h => absurd h.1 (nn rfl)) (fun q => q.elim (fun h => absurd h.1 (nn rfl)) (fun q => q.elim (fun h => absurd h.1 (nn rfl)) (fun q => q.elim (fun h => absurd h.1 (nn rfl)) (fun q => q.elim (fun h => absurd h.1 (nn rfl)) (fun q => q.elim (fun h => absurd h.1 (nn rfl)) (fun q => q.elim (fun h => absurd h.1 (nn rfl)) (fun q => q.elim (fun h => absurd h (nn rfl)) (fun q => q.elim (fun h => absurd h.1 (nn rfl)) (fun q => q.elim (fun h => absurd h (nn rfl)) (fun q => q.elim (fun h => absurd h (nn rfl)) (fun q => q.elim (fun h => absurd h.1 (nn rfl)) (fun q => q.elim (fun h => absurd h (pn hP rfl rfl)) (fun h => absurd h (pn hP rfl rfl))))))))))))))))))).trans (hm3)
  have kn_86 : Hid (c_55 41 23 = n3) := (hF_57 41 23 (fun q => q.elim (fun h => absurd h.2 (ni rfl)) (fun q => q.elim (fun h => absurd h (nn rfl)) (fun q => q.elim (fun h => absurd h.2 (ni rfl)) (fun q => q.elim (fun h => absurd h.2 (ni rfl)) (fun q => q.elim (fun h => absurd h.2 (ni rfl)) (fun q => q.elim (fun h => absurd h.2 (ni rfl)) (fun q => q.elim (fun h => absurd h.2 (ni rfl)) (fun q => q.elim (fun h => absurd h.2 (ni rfl)) (fun q => q.elim (fun h => absurd h.2 (ni rfl)) (fun q => q.elim (fun h => absurd h.2 (ni rfl)) (fun q => q.elim (fun h => absurd h (nn rfl)) (fun q => q.elim (fun h => absurd h (nn rfl)) (fun q => q.elim (fun h => absurd h (nn rfl)) (fun q => q.elim (fun h => absurd h.2 (ni rfl)) (fun q => q.elim (fun h => absurd h.2 (ni rfl)) (fun q => q.elim (fun h => absurd h.2 (ni rfl)) (fun q => q.elim (fun h => absurd h.2 (ni rfl)) (fun q => q.elim (fun h => absurd h.2 (ni rfl)) (fun q => q.elim (fun h => absurd h (nn rfl)) (fun q => q.elim (fun h => absurd h (nn rfl)) (fun q => q.elim (fun h => absurd h (nn rfl)) (fun h => absurd h (nn rfl)))))))))))))))))))))))).trans ((up_c (nn rfl)).trans (hid kn_85))
  have h_87 : c_55 41 23 = n3 := (hid kn_86)
  exact K P Q c_55 0 (by decide) hI_56 ⟨by omega, ub_fr hU (fun j => (hF_57 2 j (fun q => q.elim (fun h => absurd h.1 (nn rfl)) (fun q => q.elim (fun h => absurd h (nn rfl)) (fun q => q.elim (fun h => absurd h.1 (nn rfl)) (fun q => q.elim (fun h => absurd h.1 (nn rfl)) (fun q => q.elim (fun h => absurd h.1 (nn rfl)) (fun q => q.elim (fun h => absurd h.1 (nn rfl)) (fun q => q.elim (fun h => absurd h.1 (nn rfl)) (fun q => q.elim (fun h => absurd h.1 (nn rfl)) (fun q => q.elim (fun h => absurd h.1 (nn rfl)) (fun q => q.elim (fun h => absurd h.1 (nn rfl)) (fun q => q.elim (fun h => absurd h (nn rfl)) (fun q => q.elim (fun h => absurd h (nn rfl)) (fun q => q.elim (fun h => absurd h (nn rfl)) (fun q => q.elim (fun h => absurd h.1 (nn rfl)) (fun q => q.elim (fun h => absurd h.1 (nn rfl)) (fun q => q.elim (fun h => absurd h.1 (nn rfl)) (fun q => q.elim (fun h => absurd h.1 (nn rfl)) (fun q => q.elim (fun h => absurd h.1 (nn rfl)) (fun q => q.elim (fun h => absurd h (nn rfl)) (fun q => q.elim (fun h => absurd h (nn rfl)) (fun q => q.elim (fun h => absurd h (nn rfl)) (fun h => absurd h (nn rfl)))))))))))))))))))))))).trans ((up_c (nn rfl)).trans (hF_9 2 j (fun q => q.elim (fun h => absurd h.1 (nn rfl)) (fun q => q.elim (fun h => absurd h.1 (nn rfl)) (fun q => q.elim (fun h => absurd h.1 (nn rfl)) (fun q => q.elim (fun h => absurd h.1 (nn rfl)) (fun q => q.elim (fun h => absurd h.1 (nn rfl)) (fun q => q.elim (fun h => absurd h.1 (nn rfl)) (fun q => q.elim (fun h => absurd h.1 (nn rfl)) (fun q => q.elim (fun h => absurd h.1 (nn rfl)) (fun q => q.elim (fun h => absurd h.1 (nn rfl)) (fun q => q.elim (fun h => absurd h.1 (nn rfl)) (fun q => q.elim (fun h => absurd h (nn rfl)) (fun q => q.elim (fun h => absurd h.1 (nn rfl)) (fun q => q.elim (fun h => absurd h (nn rfl)) (fun q => q.elim (fun h => absurd h (nn rfl)) (fun q => q.elim (fun h => absurd h.1 (nn rfl)) (fun q => q.elim (fun h => absurd h (pn hP rfl rfl)) (fun h => absurd h (pn hP rfl rfl))))))))))))))))))))) (fun j => (hF_57 43 j (fun q => q.elim (fun h => absurd h.1 (nn rfl)) (fun q => q.elim (fun h => absurd h (nn rfl)) (fun q => q.elim (fun h => absurd h.1 (nn rfl)) (fun q => q.elim (fun h => absurd h.1 (nn rfl)) (fun q => q.elim (fun h => absurd h.1 (nn rfl)) (fun q => q.elim (fun h => absurd h.1 (nn rfl)) (fun q => q.elim (fun h => absurd h.1 (nn rfl)) (fun q => q.elim (fun h => absurd h.1 (nn rfl)) (fun q => q.elim (fun h => absurd h.1 (nn rfl)) (fun q => q.elim (fun h => absurd h.1 (nn rfl)) (fun q => q.elim (fun h => absurd h (nn rfl)) (fun q => q.elim (fun h => absurd h (nn rfl)) (fun q => q.elim (fun h => absurd h (nn rfl)) (fun q => q.elim (fun h => absurd h.1 (nn rfl)) (fun q => q.elim (fun h => absurd h.1 (nn rfl)) (fun q => q.elim (fun h => absurd h.1 (nn rfl)) (fun q => q.elim (fun h => absurd h.1 (nn rfl)) (fun q => q.elim (fun h => absurd h.1 (nn rfl)) (fun q => q.elim (fun h => absurd h (nn rfl)) (fun q => q.elim (fun h => absurd h (nn rfl)) (fun q => q.elim (fun h => absurd h (nn rfl)) (fun h => absurd h (nn rfl)))))))))))))))))))))))).trans ((up_c (nn rfl)).trans (hF_9 43 j (fun q => q.elim (fun h => absurd h.1 (nn rfl)) (fun q => q.elim (fun h => absurd h.1 (nn rfl)) (fun q => q.elim (fun h => absurd h.1 (nn rfl)) (fun q => q.elim (fun h => absurd h.1 (nn rfl)) (fun q => q.elim (fun h => absurd h.1 (nn rfl)) (fun q => q.elim (fun h => absurd h.1 (nn rfl)) (fun q => q.elim (fun h => absurd h.1 (nn rfl)) (fun q => q.elim (fun h => absurd h.1 (nn rfl)) (fun q => q.elim (fun h => absurd h.1 (nn rfl)) (fun q => q.elim (fun h => absurd h.1 (nn rfl)) (fun q => q.elim (fun h => absurd h (nn rfl)) (fun q => q.elim (fun h => absurd h.1 (nn rfl)) (fun q => q.elim (fun h => absurd h (nn rfl)) (fun q => q.elim (fun h => absurd h (nn rfl)) (fun q => q.elim (fun h => absurd h.1 (nn rfl)) (fun q => q.elim (fun h => absurd h (pn hP rfl rfl)) (fun h => absurd h (pn hP rfl rfl))))))))))))))))))))), ⟨by omega, by omega, by omega, by omega⟩⟩

set_option maxRecDepth 100000 in
set_option maxHeartbeats 4000000 in
theorem o_4 {xs : Nat → Int32} {L i0 d nc ns P Q : Nat} {c : ME} {Z : AR → Prop} (hi : i0 + 8 ≤ L) (hL : L ≤ 100000) (hI : Iv 0 (-1) P Q c) (hR : Rq P c) (K : ∀ (P2 Q2 : Nat) (c2 : ME) (e : Nat), e ≤ 1 → Iv 0 (-1) P2 Q2 c2 → (Rq P2 c2) → Wp (a_scr L xs) (d + 90) 296 1844 [(4, vi (i0 : Int)), (3, .ref 67), (2, .ref 41), (1, .ref 0), (0, .ref a_SC)] [] (Wd P2 Q2 P2 P2 c2) (nc + e) (ns + 6 * e) Z) : Wp (a_scr L xs) (d + 90) 296 385 [(4, vi (i0 : Int)), (3, .ref 67), (2, .ref 41), (1, .ref 0), (0, .ref a_SC)] [] (Wd P Q P P c) nc ns Z := by
  obtain ⟨x1, hx1⟩ : ∃ z, (xs (i0 + 1)).toInt = z := ⟨_, rfl⟩
  have x1r := c_rng (xs (i0 + 1))
  rw [hx1] at x1r
  obtain ⟨x2, hx2⟩ : ∃ z, (xs (i0 + 2)).toInt = z := ⟨_, rfl⟩
  have x2r := c_rng (xs (i0 + 2))
  rw [hx2] at x2r
  obtain ⟨x3, hx3⟩ : ∃ z, (xs (i0 + 3)).toInt = z := ⟨_, rfl⟩
  have x3r := c_rng (xs (i0 + 3))
  rw [hx3] at x3r
  obtain ⟨x4, hx4⟩ : ∃ z, (xs (i0 + 4)).toInt = z := ⟨_, rfl⟩
  have x4r := c_rng (xs (i0 + 4))
  rw [hx4] at x4r
  obtain ⟨x5, hx5⟩ : ∃ z, (xs (i0 + 5)).toInt = z := ⟨_, rfl⟩
  have x5r := c_rng (xs (i0 + 5))
  rw [hx5] at x5r
  obtain ⟨x6, hx6⟩ : ∃ z, (xs (i0 + 6)).toInt = z := ⟨_, rfl⟩
  have x6r := c_rng (xs (i0 + 6))
  rw [hx6] at x6r
  obtain ⟨x7, hx7⟩ : ∃ z, (xs (i0 + 7)).toInt = z := ⟨_, rfl⟩
  have x7r := c_rng (xs (i0 + 7))
  rw [hx7] at x7r
  have hT := rl_t hR
  have hU := rl_u hR
  have hP := iv_P hI
  obtain ⟨n0, hn0⟩ : ∃ z, c P 0 = z := ⟨_, rfl⟩
  have hm0 : c 41 20 = n0 := (rl_nums hR).1.symm.trans hn0
  have hr0 := ir_p0_0 hI hP
  rw [hn0] at hr0
  obtain ⟨n1, hn1⟩ : ∃ z, c P 1 = z := ⟨_, rfl⟩
  have hm1 : c 41 21 = n1 := (rl_nums hR).2.1.symm.trans hn1
  have hr1 := ir_p0_1 hI hP
  rw [hn1] at hr1
  obtain ⟨n2, hn2⟩ : ∃ z, c P 2 = z := ⟨_, rfl⟩
  have hm2 : c 41 22 = n2 := (rl_nums hR).2.2.1.symm.trans hn2
  have hr2 := ir_p0_2 hI hP
  rw [hn2] at hr2
  obtain ⟨n3, hn3⟩ : ∃ z, c P 3 = z := ⟨_, rfl⟩
  have hm3 : c 41 23 = n3 := (rl_nums hR).2.2.2.symm.trans hn3
  have hr3 := ir_p0_3 hI hP
  rw [hn3] at hr3
  have hP := iv_P hI
  have hQ := iv_Q hI
  refine q_aload_n rfl rfl ?_
  refine q_aload_n rfl rfl ?_
  refine q_iload rfl rfl ?_
  refine q_iconst rfl ?_
  refine v_iadd (v := (i0 : Int) + 1) rfl (by omega) ?_
  refine v_scr (j := i0 + 1) rfl (by omega) (by omega) hL hx1 ?_
  refine q_aload_n rfl rfl ?_
  refine q_call rfl rfl rfl rfl ?_
  refine q_aload_n rfl rfl ?_
  refine q_iconst rfl ?_
  refine q_aload_n rfl rfl ?_
  refine q_iload_n rfl rfl ?_
  have h_1 := ir_1_3 hI
  refine v_cv rfl rfl rfl rfl (by decide) ⟨⟨rfl, rfl⟩, by decide, rfl⟩ (Nat.le_of_ble_eq_true rfl) (Nat.le_of_ble_eq_true rfl) (fn_of (s_87 (a1 := x1) hI (show (-2147483648) ≤ x1 ∧ x1 ≤ 2147483647 from by omega) (fun c_2 hI_3 hF_4 h_5 h_6 => ?_) (fun c_7 y_10 hI_8 hF_9 hy_10 h_11 => ?_)))
  · skip
    intro hG_95
    have h_12 := ir_1_3 hI_3
    refine bk_thr (z := Int32.ofInt 1) rfl ⟨_, _, rfl⟩ rfl ?_
    refine bk_inl ?_
    refine q_istore rfl (by decide) ?_
    refine q_aload_n rfl rfl ?_
    refine q_aload_n rfl rfl ?_
    refine q_iload rfl rfl ?_
    refine q_iconst rfl ?_
    refine v_iadd (v := (i0 : Int) + 1) rfl (by omega) ?_
    refine v_scr (j := i0 + 1) rfl (by omega) (by omega) hL hx1 ?_
    refine v_cv rfl rfl rfl rfl (by decide) ⟨⟨rfl, rfl⟩, by decide, rfl⟩ (Nat.le_of_ble_eq_true rfl) (Nat.le_of_ble_eq_true rfl) ?_
    refine q_aload_n rfl rfl ?_
    refine q_iconst rfl ?_
    refine v_pi (z := 0) rfl rfl rfl (by decide) rfl rfl rfl (by decide) ?_
    refine q_aload_n rfl rfl ?_
    refine q_iload_n rfl rfl ?_
    refine v_cv rfl rfl rfl rfl (by decide) ⟨⟨rfl, rfl⟩, by decide, rfl⟩ (Nat.le_of_ble_eq_true rfl) (Nat.le_of_ble_eq_true rfl) ?_
    refine q_aload_n rfl rfl ?_
    refine q_iload_n rfl rfl ?_
    by_cases h_13 : x1 < 0
    · refine v_if_lt_t (t := 23) rfl (by decide) (by omega) ?_
      refine q_iconst rfl ?_
      refine q_iconst rfl ?_
      refine q_iconst rfl ?_
      refine v_cv rfl rfl rfl rfl (by decide) ⟨⟨rfl, rfl⟩, by decide, rfl⟩ (Nat.le_of_ble_eq_true rfl) (Nat.le_of_ble_eq_true rfl) ?_
      refine q_iload_n rfl rfl ?_
      refine v_if_ne_f (t := 26) rfl (by decide) (by decide) ?_
      refine q_aload_n rfl rfl ?_
      refine v_gi (z := 0) (v := 0) rfl rfl rfl (by decide) rfl rfl (up_e rfl) ?_
      refine v_if_ne_f (t := 26) rfl (by decide) (by decide) ?_
      refine q_aload_n rfl rfl ?_
      refine q_iload_n rfl rfl ?_
      refine v_pi (z := 0) rfl rfl rfl (by decide) rfl rfl rfl (by decide) ?_
      refine q_aload_n rfl rfl ?_
      refine v_gr (t := 42) rfl rfl rfl (by decide) rfl ?_
      refine q_iload_n rfl rfl ?_
      refine q_dup2 rfl ⟨rfl, rfl⟩ ?_
      have h_14 := ir_42 hI 1
      have kn_15 : Hid (c_2 42 1 = c 42 1) := hF_4 42 1 (fun h => absurd h.1 (nn rfl))
      refine v_ia (v := c 42 1) rfl rfl (by decide) (by decide) (by decide) ((up_c (nn rfl)).trans ((up_c (nn rfl)).trans (hid kn_15))) ?_
      refine q_iconst rfl ?_
      refine v_iadd (v := c 42 1 + 1) rfl (by omega) ?_
      refine v_nrm (fun y_16 hy_16 => ?_)
      refine v_is rfl rfl (by decide) (by decide) (by decide) ?_
      refine q_aload_n rfl rfl ?_
      refine v_gi (z := 0) (v := 1) rfl rfl rfl (by decide) rfl rfl ((up_c (nn rfl)).trans (up_e rfl)) ?_
      refine v_if_ne_t (t := 37) rfl (by decide) (by decide) ?_
      refine q_iconst rfl ?_
      refine v_zret rfl rfl (by decide) ?_
      refine bk_inl ?_
      refine v_zret rfl rfl (by decide) ?_
      refine bk_inl ?_
      refine v_if_ne_f (t := 15) rfl (by decide) (by decide) ?_
      refine q_iconst rfl ?_
      refine q_iret rfl rfl ?_
      refine bk_inl ?_
      refine q_istore rfl (by decide) ?_
      refine q_aload_n rfl rfl ?_
      refine v_cv rfl rfl rfl rfl (by decide) ⟨⟨rfl, rfl⟩, by decide, rfl⟩ (Nat.le_of_ble_eq_true rfl) (Nat.le_of_ble_eq_true rfl) ?_
      refine q_aload_n rfl rfl ?_
      refine v_gi (z := 0) (v := 1) rfl rfl rfl (by decide) rfl rfl ((up_c (nn rfl)).trans (up_e rfl)) ?_
      refine q_iret rfl rfl ?_
      refine bk_inl ?_
      refine q_iload rfl rfl ?_
      refine v_ic_eq_t (t := 421) rfl (by decide) (by decide) ?_
      refine q_iload rfl rfl ?_
      refine v_if_ne_t (t := 438) rfl (by decide) (by decide) ?_
      refine q_goto (t := 1844) rfl (by decide) ?_
      have hI_17 := iw_41_0 (v := 0) hI_3 ⟨by decide, by decide⟩
      have hI_18 := iw_41_0 (v := 1) hI_17 ⟨by decide, by decide⟩
      have hI_19 := iw_42 (j := 1) (v := y_16) hI_18 ⟨by omega, by omega⟩
      refine Wp_ls [(4, vi (i0 : Int)), (3, .ref 67), (2, .ref 41), (1, .ref 0), (0, .ref a_SC)] (lsub_cons rfl (lsub_cons rfl (lsub_cons rfl (lsub_cons rfl (lsub_cons rfl lsub_nil))))) ?_
      have kn_20 : Hid (c_2 1 3 = c 1 3) := hF_4 1 3 (fun h => absurd h.1 (nn rfl))
      have h_21 : (up (up (up c_2 41 0 0) 41 0 1) 42 1 y_16) 1 3 = c 1 3 := ((up_c (nn rfl)).trans ((up_c (nn rfl)).trans ((up_c (nn rfl)).trans (hid kn_20))))
      have h_22 := ir_41_2 hI
      have kn_23 : Hid (c_2 41 2 = c 41 2) := hF_4 41 2 (fun h => absurd h.1 (nn rfl))
      have h_24 : (up (up (up c_2 41 0 0) 41 0 1) 42 1 y_16) 41 2 = c 41 2 := ((up_c (nn rfl)).trans ((up_n (by decide)).trans ((up_n (by decide)).trans (hid kn_23))))
      have kn_25 : Hid (c_2 P 0 = n0) := (hF_4 P 0 (fun h => absurd h.1 (np0 hP rfl))).trans (hn0)
      have h_26 : (up (up (up c_2 41 0 0) 41 0 1) 42 1 y_16) P 0 = n0 := ((up_c (np0 hP rfl)).trans ((up_c (np0 hP rfl)).trans ((up_c (np0 hP rfl)).trans (hid kn_25))))
      have kn_27 : Hid (c_2 41 20 = n0) := (hF_4 41 20 (fun h => absurd h.1 (nn rfl))).trans (hm0)
      have h_28 : (up (up (up c_2 41 0 0) 41 0 1) 42 1 y_16) 41 20 = n0 := ((up_c (nn rfl)).trans ((up_n (by decide)).trans ((up_n (by decide)).trans (hid kn_27))))
      have kn_29 : Hid (c_2 P 1 = n1) := (hF_4 P 1 (fun h => absurd h.1 (np0 hP rfl))).trans (hn1)
      have h_30 : (up (up (up c_2 41 0 0) 41 0 1) 42 1 y_16) P 1 = n1 := ((up_c (np0 hP rfl)).trans ((up_c (np0 hP rfl)).trans ((up_c (np0 hP rfl)).trans (hid kn_29))))
      have kn_31 : Hid (c_2 41 21 = n1) := (hF_4 41 21 (fun h => absurd h.1 (nn rfl))).trans (hm1)
      have h_32 : (up (up (up c_2 41 0 0) 41 0 1) 42 1 y_16) 41 21 = n1 := ((up_c (nn rfl)).trans ((up_n (by decide)).trans ((up_n (by decide)).trans (hid kn_31))))
      have kn_33 : Hid (c_2 P 2 = n2) := (hF_4 P 2 (fun h => absurd h.1 (np0 hP rfl))).trans (hn2)
      have h_34 : (up (up (up c_2 41 0 0) 41 0 1) 42 1 y_16) P 2 = n2 := ((up_c (np0 hP rfl)).trans ((up_c (np0 hP rfl)).trans ((up_c (np0 hP rfl)).trans (hid kn_33))))
      have kn_35 : Hid (c_2 41 22 = n2) := (hF_4 41 22 (fun h => absurd h.1 (nn rfl))).trans (hm2)
      have h_36 : (up (up (up c_2 41 0 0) 41 0 1) 42 1 y_16) 41 22 = n2 := ((up_c (nn rfl)).trans ((up_n (by decide)).trans ((up_n (by decide)).trans (hid kn_35))))
      have kn_37 : Hid (c_2 P 3 = n3) := (hF_4 P 3 (fun h => absurd h.1 (np0 hP rfl))).trans (hn3)
      have h_38 : (up (up (up c_2 41 0 0) 41 0 1) 42 1 y_16) P 3 = n3 := ((up_c (np0 hP rfl)).trans ((up_c (np0 hP rfl)).trans ((up_c (np0 hP rfl)).trans (hid kn_37))))
      have kn_39 : Hid (c_2 41 23 = n3) := (hF_4 41 23 (fun h => absurd h.1 (nn rfl))).trans (hm3)
      have h_40 : (up (up (up c_2 41 0 0) 41 0 1) 42 1 y_16) 41 23 = n3 := ((up_c (nn rfl)).trans ((up_n (by decide)).trans ((up_n (by decide)).trans (hid kn_39))))
      exact K P Q (up (up (up c_2 41 0 0) 41 0 1) 42 1 y_16) 1 (by decide) hI_19 ⟨by omega, ub_fr hU (fun j => (up_c (nn rfl)).trans ((up_c (nn rfl)).trans ((up_c (nn rfl)).trans (hF_4 2 j (fun h => absurd h.1 (nn rfl)))))) (fun j => (up_c (nn rfl)).trans ((up_c (nn rfl)).trans ((up_c (nn rfl)).trans (hF_4 43 j (fun h => absurd h.1 (nn rfl)))))), ⟨by omega, by omega, by omega, by omega⟩⟩
    · refine v_if_lt_f (t := 23) rfl (by decide) (by omega) ?_
      refine q_iload_n rfl rfl ?_
      refine q_aload_n rfl rfl ?_
      have h_41 := ir_41_2 hI
      have kn_42 : Hid (c_2 41 2 = c 41 2) := hF_4 41 2 (fun h => absurd h.1 (nn rfl))
      refine v_gi (z := 2) (v := c 41 2) rfl rfl rfl (by decide) rfl rfl ((up_n (by decide)).trans (hid kn_42)) ?_
      by_cases h_43 : x1 > c 41 2
      · refine v_ic_gt_t (t := 23) rfl (by decide) (by omega) ?_
        refine q_iconst rfl ?_
        refine q_iconst rfl ?_
        refine q_iconst rfl ?_
        refine v_cv rfl rfl rfl rfl (by decide) ⟨⟨rfl, rfl⟩, by decide, rfl⟩ (Nat.le_of_ble_eq_true rfl) (Nat.le_of_ble_eq_true rfl) ?_
        refine q_iload_n rfl rfl ?_
        refine v_if_ne_f (t := 26) rfl (by decide) (by decide) ?_
        refine q_aload_n rfl rfl ?_
        refine v_gi (z := 0) (v := 0) rfl rfl rfl (by decide) rfl rfl (up_e rfl) ?_
        refine v_if_ne_f (t := 26) rfl (by decide) (by decide) ?_
        refine q_aload_n rfl rfl ?_
        refine q_iload_n rfl rfl ?_
        refine v_pi (z := 0) rfl rfl rfl (by decide) rfl rfl rfl (by decide) ?_
        refine q_aload_n rfl rfl ?_
        refine v_gr (t := 42) rfl rfl rfl (by decide) rfl ?_
        refine q_iload_n rfl rfl ?_
        refine q_dup2 rfl ⟨rfl, rfl⟩ ?_
        have h_44 := ir_42 hI 1
        have kn_45 : Hid (c_2 42 1 = c 42 1) := hF_4 42 1 (fun h => absurd h.1 (nn rfl))
        refine v_ia (v := c 42 1) rfl rfl (by decide) (by decide) (by decide) ((up_c (nn rfl)).trans ((up_c (nn rfl)).trans (hid kn_45))) ?_
        refine q_iconst rfl ?_
        refine v_iadd (v := c 42 1 + 1) rfl (by omega) ?_
        refine v_nrm (fun y_46 hy_46 => ?_)
        refine v_is rfl rfl (by decide) (by decide) (by decide) ?_
        refine q_aload_n rfl rfl ?_
        refine v_gi (z := 0) (v := 1) rfl rfl rfl (by decide) rfl rfl ((up_c (nn rfl)).trans (up_e rfl)) ?_
        refine v_if_ne_t (t := 37) rfl (by decide) (by decide) ?_
        refine q_iconst rfl ?_
        refine v_zret rfl rfl (by decide) ?_
        refine bk_inl ?_
        refine v_zret rfl rfl (by decide) ?_
        refine bk_inl ?_
        refine v_if_ne_f (t := 15) rfl (by decide) (by decide) ?_
        refine q_iconst rfl ?_
        refine q_iret rfl rfl ?_
        refine bk_inl ?_
        refine q_istore rfl (by decide) ?_
        refine q_aload_n rfl rfl ?_
        refine v_cv rfl rfl rfl rfl (by decide) ⟨⟨rfl, rfl⟩, by decide, rfl⟩ (Nat.le_of_ble_eq_true rfl) (Nat.le_of_ble_eq_true rfl) ?_
        refine q_aload_n rfl rfl ?_
        refine v_gi (z := 0) (v := 1) rfl rfl rfl (by decide) rfl rfl ((up_c (nn rfl)).trans (up_e rfl)) ?_
        refine q_iret rfl rfl ?_
        refine bk_inl ?_
        refine q_iload rfl rfl ?_
        refine v_ic_eq_t (t := 421) rfl (by decide) (by decide) ?_
        refine q_iload rfl rfl ?_
        refine v_if_ne_t (t := 438) rfl (by decide) (by decide) ?_
        refine q_goto (t := 1844) rfl (by decide) ?_
        have hI_47 := iw_41_0 (v := 0) hI_3 ⟨by decide, by decide⟩
        have hI_48 := iw_41_0 (v := 1) hI_47 ⟨by decide, by decide⟩
        have hI_49 := iw_42 (j := 1) (v := y_46) hI_48 ⟨by omega, by omega⟩
        refine Wp_ls [(4, vi (i0 : Int)), (3, .ref 67), (2, .ref 41), (1, .ref 0), (0, .ref a_SC)] (lsub_cons rfl (lsub_cons rfl (lsub_cons rfl (lsub_cons rfl (lsub_cons rfl lsub_nil))))) ?_
        have kn_50 : Hid (c_2 1 3 = c 1 3) := hF_4 1 3 (fun h => absurd h.1 (nn rfl))
        have h_51 : (up (up (up c_2 41 0 0) 41 0 1) 42 1 y_46) 1 3 = c 1 3 := ((up_c (nn rfl)).trans ((up_c (nn rfl)).trans ((up_c (nn rfl)).trans (hid kn_50))))
        have h_52 : (up (up (up c_2 41 0 0) 41 0 1) 42 1 y_46) 41 2 = c 41 2 := ((up_c (nn rfl)).trans ((up_n (by decide)).trans ((up_n (by decide)).trans (hid kn_42))))
        have kn_53 : Hid (c_2 P 0 = n0) := (hF_4 P 0 (fun h => absurd h.1 (np0 hP rfl))).trans (hn0)
        have h_54 : (up (up (up c_2 41 0 0) 41 0 1) 42 1 y_46) P 0 = n0 := ((up_c (np0 hP rfl)).trans ((up_c (np0 hP rfl)).trans ((up_c (np0 hP rfl)).trans (hid kn_53))))
        have kn_55 : Hid (c_2 41 20 = n0) := (hF_4 41 20 (fun h => absurd h.1 (nn rfl))).trans (hm0)
        have h_56 : (up (up (up c_2 41 0 0) 41 0 1) 42 1 y_46) 41 20 = n0 := ((up_c (nn rfl)).trans ((up_n (by decide)).trans ((up_n (by decide)).trans (hid kn_55))))
        have kn_57 : Hid (c_2 P 1 = n1) := (hF_4 P 1 (fun h => absurd h.1 (np0 hP rfl))).trans (hn1)
        have h_58 : (up (up (up c_2 41 0 0) 41 0 1) 42 1 y_46) P 1 = n1 := ((up_c (np0 hP rfl)).trans ((up_c (np0 hP rfl)).trans ((up_c (np0 hP rfl)).trans (hid kn_57))))
        have kn_59 : Hid (c_2 41 21 = n1) := (hF_4 41 21 (fun h => absurd h.1 (nn rfl))).trans (hm1)
        have h_60 : (up (up (up c_2 41 0 0) 41 0 1) 42 1 y_46) 41 21 = n1 := ((up_c (nn rfl)).trans ((up_n (by decide)).trans ((up_n (by decide)).trans (hid kn_59))))
        have kn_61 : Hid (c_2 P 2 = n2) := (hF_4 P 2 (fun h => absurd h.1 (np0 hP rfl))).trans (hn2)
        have h_62 : (up (up (up c_2 41 0 0) 41 0 1) 42 1 y_46) P 2 = n2 := ((up_c (np0 hP rfl)).trans ((up_c (np0 hP rfl)).trans ((up_c (np0 hP rfl)).trans (hid kn_61))))
        have kn_63 : Hid (c_2 41 22 = n2) := (hF_4 41 22 (fun h => absurd h.1 (nn rfl))).trans (hm2)
        have h_64 : (up (up (up c_2 41 0 0) 41 0 1) 42 1 y_46) 41 22 = n2 := ((up_c (nn rfl)).trans ((up_n (by decide)).trans ((up_n (by decide)).trans (hid kn_63))))
        have kn_65 : Hid (c_2 P 3 = n3) := (hF_4 P 3 (fun h => absurd h.1 (np0 hP rfl))).trans (hn3)
        have h_66 : (up (up (up c_2 41 0 0) 41 0 1) 42 1 y_46) P 3 = n3 := ((up_c (np0 hP rfl)).trans ((up_c (np0 hP rfl)).trans ((up_c (np0 hP rfl)).trans (hid kn_65))))
        have kn_67 : Hid (c_2 41 23 = n3) := (hF_4 41 23 (fun h => absurd h.1 (nn rfl))).trans (hm3)
        have h_68 : (up (up (up c_2 41 0 0) 41 0 1) 42 1 y_46) 41 23 = n3 := ((up_c (nn rfl)).trans ((up_n (by decide)).trans ((up_n (by decide)).trans (hid kn_67))))
        exact K P Q (up (up (up c_2 41 0 0) 41 0 1) 42 1 y_46) 1 (by decide) hI_49 ⟨by omega, ub_fr hU (fun j => (up_c (nn rfl)).trans ((up_c (nn rfl)).trans ((up_c (nn rfl)).trans (hF_4 2 j (fun h => absurd h.1 (nn rfl)))))) (fun j => (up_c (nn rfl)).trans ((up_c (nn rfl)).trans ((up_c (nn rfl)).trans (hF_4 43 j (fun h => absurd h.1 (nn rfl)))))), ⟨by omega, by omega, by omega, by omega⟩⟩
      · refine v_ic_gt_f (t := 23) rfl (by decide) (by omega) ?_
        refine q_iload_n rfl rfl ?_
        refine v_bip rfl (by decide) ?_
        refine v_ic_gt_t (t := 23) rfl (by decide) (by omega) ?_
        refine q_iconst rfl ?_
        refine q_iconst rfl ?_
        refine q_iconst rfl ?_
        refine v_cv rfl rfl rfl rfl (by decide) ⟨⟨rfl, rfl⟩, by decide, rfl⟩ (Nat.le_of_ble_eq_true rfl) (Nat.le_of_ble_eq_true rfl) ?_
        refine q_iload_n rfl rfl ?_
        refine v_if_ne_f (t := 26) rfl (by decide) (by decide) ?_
        refine q_aload_n rfl rfl ?_
        refine v_gi (z := 0) (v := 0) rfl rfl rfl (by decide) rfl rfl (up_e rfl) ?_
        refine v_if_ne_f (t := 26) rfl (by decide) (by decide) ?_
        refine q_aload_n rfl rfl ?_
        refine q_iload_n rfl rfl ?_
        refine v_pi (z := 0) rfl rfl rfl (by decide) rfl rfl rfl (by decide) ?_
        refine q_aload_n rfl rfl ?_
        refine v_gr (t := 42) rfl rfl rfl (by decide) rfl ?_
        refine q_iload_n rfl rfl ?_
        refine q_dup2 rfl ⟨rfl, rfl⟩ ?_
        have h_69 := ir_42 hI 1
        have kn_70 : Hid (c_2 42 1 = c 42 1) := hF_4 42 1 (fun h => absurd h.1 (nn rfl))
        refine v_ia (v := c 42 1) rfl rfl (by decide) (by decide) (by decide) ((up_c (nn rfl)).trans ((up_c (nn rfl)).trans (hid kn_70))) ?_
        refine q_iconst rfl ?_
        refine v_iadd (v := c 42 1 + 1) rfl (by omega) ?_
        refine v_nrm (fun y_71 hy_71 => ?_)
        refine v_is rfl rfl (by decide) (by decide) (by decide) ?_
        refine q_aload_n rfl rfl ?_
        refine v_gi (z := 0) (v := 1) rfl rfl rfl (by decide) rfl rfl ((up_c (nn rfl)).trans (up_e rfl)) ?_
        refine v_if_ne_t (t := 37) rfl (by decide) (by decide) ?_
        refine q_iconst rfl ?_
        refine v_zret rfl rfl (by decide) ?_
        refine bk_inl ?_
        refine v_zret rfl rfl (by decide) ?_
        refine bk_inl ?_
        refine v_if_ne_f (t := 15) rfl (by decide) (by decide) ?_
        refine q_iconst rfl ?_
        refine q_iret rfl rfl ?_
        refine bk_inl ?_
        refine q_istore rfl (by decide) ?_
        refine q_aload_n rfl rfl ?_
        refine v_cv rfl rfl rfl rfl (by decide) ⟨⟨rfl, rfl⟩, by decide, rfl⟩ (Nat.le_of_ble_eq_true rfl) (Nat.le_of_ble_eq_true rfl) ?_
        refine q_aload_n rfl rfl ?_
        refine v_gi (z := 0) (v := 1) rfl rfl rfl (by decide) rfl rfl ((up_c (nn rfl)).trans (up_e rfl)) ?_
        refine q_iret rfl rfl ?_
        refine bk_inl ?_
        refine q_iload rfl rfl ?_
        refine v_ic_eq_t (t := 421) rfl (by decide) (by decide) ?_
        refine q_iload rfl rfl ?_
        refine v_if_ne_t (t := 438) rfl (by decide) (by decide) ?_
        refine q_goto (t := 1844) rfl (by decide) ?_
        have hI_72 := iw_41_0 (v := 0) hI_3 ⟨by decide, by decide⟩
        have hI_73 := iw_41_0 (v := 1) hI_72 ⟨by decide, by decide⟩
        have hI_74 := iw_42 (j := 1) (v := y_71) hI_73 ⟨by omega, by omega⟩
        refine Wp_ls [(4, vi (i0 : Int)), (3, .ref 67), (2, .ref 41), (1, .ref 0), (0, .ref a_SC)] (lsub_cons rfl (lsub_cons rfl (lsub_cons rfl (lsub_cons rfl (lsub_cons rfl lsub_nil))))) ?_
        have kn_75 : Hid (c_2 1 3 = c 1 3) := hF_4 1 3 (fun h => absurd h.1 (nn rfl))
        have h_76 : (up (up (up c_2 41 0 0) 41 0 1) 42 1 y_71) 1 3 = c 1 3 := ((up_c (nn rfl)).trans ((up_c (nn rfl)).trans ((up_c (nn rfl)).trans (hid kn_75))))
        have h_77 : (up (up (up c_2 41 0 0) 41 0 1) 42 1 y_71) 41 2 = c 41 2 := ((up_c (nn rfl)).trans ((up_n (by decide)).trans ((up_n (by decide)).trans (hid kn_42))))
        have kn_78 : Hid (c_2 P 0 = n0) := (hF_4 P 0 (fun h => absurd h.1 (np0 hP rfl))).trans (hn0)
        have h_79 : (up (up (up c_2 41 0 0) 41 0 1) 42 1 y_71) P 0 = n0 := ((up_c (np0 hP rfl)).trans ((up_c (np0 hP rfl)).trans ((up_c (np0 hP rfl)).trans (hid kn_78))))
        have kn_80 : Hid (c_2 41 20 = n0) := (hF_4 41 20 (fun h => absurd h.1 (nn rfl))).trans (hm0)
        have h_81 : (up (up (up c_2 41 0 0) 41 0 1) 42 1 y_71) 41 20 = n0 := ((up_c (nn rfl)).trans ((up_n (by decide)).trans ((up_n (by decide)).trans (hid kn_80))))
        have kn_82 : Hid (c_2 P 1 = n1) := (hF_4 P 1 (fun h => absurd h.1 (np0 hP rfl))).trans (hn1)
        have h_83 : (up (up (up c_2 41 0 0) 41 0 1) 42 1 y_71) P 1 = n1 := ((up_c (np0 hP rfl)).trans ((up_c (np0 hP rfl)).trans ((up_c (np0 hP rfl)).trans (hid kn_82))))
        have kn_84 : Hid (c_2 41 21 = n1) := (hF_4 41 21 (fun h => absurd h.1 (nn rfl))).trans (hm1)
        have h_85 : (up (up (up c_2 41 0 0) 41 0 1) 42 1 y_71) 41 21 = n1 := ((up_c (nn rfl)).trans ((up_n (by decide)).trans ((up_n (by decide)).trans (hid kn_84))))
        have kn_86 : Hid (c_2 P 2 = n2) := (hF_4 P 2 (fun h => absurd h.1 (np0 hP rfl))).trans (hn2)
        have h_87 : (up (up (up c_2 41 0 0) 41 0 1) 42 1 y_71) P 2 = n2 := ((up_c (np0 hP rfl)).trans ((up_c (np0 hP rfl)).trans ((up_c (np0 hP rfl)).trans (hid kn_86))))
        have kn_88 : Hid (c_2 41 22 = n2) := (hF_4 41 22 (fun h => absurd h.1 (nn rfl))).trans (hm2)
        have h_89 : (up (up (up c_2 41 0 0) 41 0 1) 42 1 y_71) 41 22 = n2 := ((up_c (nn rfl)).trans ((up_n (by decide)).trans ((up_n (by decide)).trans (hid kn_88))))
        have kn_90 : Hid (c_2 P 3 = n3) := (hF_4 P 3 (fun h => absurd h.1 (np0 hP rfl))).trans (hn3)
        have h_91 : (up (up (up c_2 41 0 0) 41 0 1) 42 1 y_71) P 3 = n3 := ((up_c (np0 hP rfl)).trans ((up_c (np0 hP rfl)).trans ((up_c (np0 hP rfl)).trans (hid kn_90))))
        have kn_92 : Hid (c_2 41 23 = n3) := (hF_4 41 23 (fun h => absurd h.1 (nn rfl))).trans (hm3)
        have h_93 : (up (up (up c_2 41 0 0) 41 0 1) 42 1 y_71) 41 23 = n3 := ((up_c (nn rfl)).trans ((up_n (by decide)).trans ((up_n (by decide)).trans (hid kn_92))))
        exact K P Q (up (up (up c_2 41 0 0) 41 0 1) 42 1 y_71) 1 (by decide) hI_74 ⟨by omega, ub_fr hU (fun j => (up_c (nn rfl)).trans ((up_c (nn rfl)).trans ((up_c (nn rfl)).trans (hF_4 2 j (fun h => absurd h.1 (nn rfl)))))) (fun j => (up_c (nn rfl)).trans ((up_c (nn rfl)).trans ((up_c (nn rfl)).trans (hF_4 43 j (fun h => absurd h.1 (nn rfl)))))), ⟨by omega, by omega, by omega, by omega⟩⟩
  intro hG_95
  refine bk_inl ?_
  have h_94 := ir_1_3 hI_8
  refine v_i2l rfl (by omega) ?_
  refine v_ls rfl rfl (by decide) (by decide) (by decide) ?_
  refine q_goto (t := 15) rfl (by decide) ?_
  refine q_iconst rfl ?_
  refine q_iret rfl rfl ?_
  refine bk_inl ?_
  refine q_istore rfl (by decide) ?_
  refine q_aload_n rfl rfl ?_
  refine q_aload_n rfl rfl ?_
  refine q_iload rfl rfl ?_
  refine q_iconst rfl ?_
  refine v_iadd (v := (i0 : Int) + 1) rfl (by omega) ?_
  refine v_scr (j := i0 + 1) rfl (by omega) (by omega) hL hx1 ?_
  have hI_96 := iw_lx (a := 67) (j := 0) (v := y_10) hI_8 (by omega)
  have h_97 := ir_41_2 hI
  have kn_98 : Hid (c_7 41 2 = c 41 2) := hF_9 41 2 (fun q => q.elim (fun h => absurd h.1 (nn rfl)) (fun q => q.elim (fun h => absurd h.1 (nn rfl)) (fun q => q.elim (fun h => absurd h.1 (nn rfl)) (fun q => q.elim (fun h => absurd h.1 (nn rfl)) (fun q => q.elim (fun h => absurd h.1 (nn rfl)) (fun q => q.elim (fun h => absurd h.1 (nn rfl)) (fun q => q.elim (fun h => absurd h.1 (pn0 hP rfl)) (fun q => q.elim (fun h => absurd h (pn hP rfl rfl)) (fun h => absurd h (pn hP rfl rfl))))))))))
  have kn_99 : Hid (c_7 41 22 = n2) := (hF_9 41 22 (fun q => q.elim (fun h => absurd h.1 (nn rfl)) (fun q => q.elim (fun h => absurd h.1 (nn rfl)) (fun q => q.elim (fun h => absurd h.1 (nn rfl)) (fun q => q.elim (fun h => absurd h.1 (nn rfl)) (fun q => q.elim (fun h => absurd h.1 (nn rfl)) (fun q => q.elim (fun h => absurd h.1 (nn rfl)) (fun q => q.elim (fun h => absurd h.1 (pn0 hP rfl)) (fun q => q.elim (fun h => absurd h (pn hP rfl rfl)) (fun h => absurd h (pn hP rfl rfl))))))))))).trans (hm2)
  refine v_cv rfl rfl rfl rfl (by decide) ⟨⟨rfl, rfl⟩, by decide, rfl⟩ (Nat.le_of_ble_eq_true rfl) (Nat.le_of_ble_eq_true rfl) (L_87 (m := c) (a1 := x1) (yg := y_10) (t9 := c 1 3) (si := n2) (F := c 2) (H := c 43) hI_96 hI hI_8 (show (-2147483648) ≤ x1 ∧ x1 ≤ 2147483647 from by omega) ⟨by omega, by omega⟩ (by omega) (rfl) (((show _ = c 41 2 from ((up_c (nn rfl)).trans (hid kn_98))).trans (by omega))) ((hn2)) (((up_c (nn rfl)).trans (hid kn_99))) (fun j => rfl) (fun j => (up_c (nn rfl)).trans (hF_9 43 j (fun q => q.elim (fun h => absurd h.1 (nn rfl)) (fun q => q.elim (fun h => absurd h.1 (nn rfl)) (fun q => q.elim (fun h => absurd h.1 (nn rfl)) (fun q => q.elim (fun h => absurd h.1 (nn rfl)) (fun q => q.elim (fun h => absurd h.1 (nn rfl)) (fun q => q.elim (fun h => absurd h.1 (nn rfl)) (fun q => q.elim (fun h => absurd h.1 (pn0 hP rfl)) (fun q => q.elim (fun h => absurd h (pn hP rfl rfl)) (fun h => absurd h (pn hP rfl rfl)))))))))))) hU hG_95 (fun c_100 y_103 hI_101 hF_102 hy_103 h_104 h_105 h_106 h_107 => ?_))
  refine bk_inl ?_
  have hs_108 := h_104.symm
  subst hs_108
  have h_109 := ir_41_2 hI_101
  have h_110 := ir_41_8 hI_101
  have h_111 := ir_1_5 hI_8
  have h_112 := ir_41_0 hI_101
  refine q_istore rfl (by decide) ?_
  refine q_aload_n rfl rfl ?_
  refine v_cv rfl rfl rfl rfl (by decide) ⟨⟨rfl, rfl⟩, by decide, rfl⟩ (Nat.le_of_ble_eq_true rfl) (Nat.le_of_ble_eq_true rfl) ?_
  refine q_aload_n rfl rfl ?_
  refine v_gi (z := 0) (v := c_100 41 0) rfl rfl rfl (by decide) rfl rfl rfl ?_
  refine q_iret rfl rfl ?_
  refine bk_inl ?_
  refine q_iload rfl rfl ?_
  refine v_ic_eq_t (t := 421) rfl (by decide) (by omega) ?_
  refine q_iload rfl rfl ?_
  refine v_if_ne_f (t := 438) rfl (by decide) (by decide) ?_
  refine q_aload_n rfl rfl ?_
  refine q_iconst rfl ?_
  have kn_113 : Hid (c_100 67 0 = y_10) := (hF_102 67 0 (fun q => q.elim (fun h => absurd h.1 (nn rfl)) (fun q => q.elim (fun h => absurd h (nn rfl)) (fun q => q.elim (fun h => absurd h.1 (nn rfl)) (fun q => q.elim (fun h => absurd h.1 (nn rfl)) (fun q => q.elim (fun h => absurd h.1 (nn rfl)) (fun q => q.elim (fun h => absurd h.1 (nn rfl)) (fun q => q.elim (fun h => absurd h.1 (nn rfl)) (fun q => q.elim (fun h => absurd h.1 (nn rfl)) (fun q => q.elim (fun h => absurd h.1 (nn rfl)) (fun q => q.elim (fun h => absurd h.1 (nn rfl)) (fun q => q.elim (fun h => absurd h (nn rfl)) (fun h => absurd h (nn rfl)))))))))))))).trans (up_e rfl)
  refine v_la (v := y_10) rfl rfl (by decide) (by decide) (by decide) (hid kn_113) ?_
  refine q_iload rfl rfl ?_
  refine v_i2l rfl (by omega) ?_
  refine v_lcmp0 rfl (by omega) ?_
  refine v_if_eq_t (t := 438) rfl (by decide) (by decide) ?_
  refine q_goto (t := 1844) rfl (by decide) ?_
  refine Wp_ls [(4, vi (i0 : Int)), (3, .ref 67), (2, .ref 41), (1, .ref 0), (0, .ref a_SC)] (lsub_cons rfl (lsub_cons rfl (lsub_cons rfl (lsub_cons rfl (lsub_cons rfl lsub_nil))))) ?_
  have kn_114 : Hid (c_100 1 3 = c_7 1 3) := (hF_102 1 3 (fun q => q.elim (fun h => absurd h.1 (nn rfl)) (fun q => q.elim (fun h => absurd h (nn rfl)) (fun q => q.elim (fun h => absurd h.1 (nn rfl)) (fun q => q.elim (fun h => absurd h.1 (nn rfl)) (fun q => q.elim (fun h => absurd h.1 (nn rfl)) (fun q => q.elim (fun h => absurd h.1 (nn rfl)) (fun q => q.elim (fun h => absurd h.1 (nn rfl)) (fun q => q.elim (fun h => absurd h.1 (nn rfl)) (fun q => q.elim (fun h => absurd h.1 (nn rfl)) (fun q => q.elim (fun h => absurd h.1 (nn rfl)) (fun q => q.elim (fun h => absurd h (nn rfl)) (fun h => absurd h (nn rfl)))))))))))))).trans (up_c (nn rfl))
  have h_115 : c_100 1 3 = c_7 1 3 := (hid kn_114)
  have h_116 : c_100 41 2 = c_100 41 2 := rfl
  have kn_117 : Hid (c_7 P 0 = n0) := (hF_9 P 0 (fun q => q.elim (fun h => absurd h.1 (np0 hP rfl)) (fun q => q.elim (fun h => absurd h.1 (np0 hP rfl)) (fun q => q.elim (fun h => absurd h.1 (np0 hP rfl)) (fun q => q.elim (fun h => absurd h.1 (np0 hP rfl)) (fun q => q.elim (fun h => absurd h.1 (np0 hP rfl)) (fun q => q.elim (fun h => absurd h.1 (np0 hP rfl)) (fun q => q.elim (fun h => absurd h.2 (ni rfl)) (fun q => q.elim (fun h => absurd h (p0p rfl)) (fun h => absurd h (p0p rfl))))))))))).trans (hn0)
  have kn_118 : Hid (c_100 P 0 = n0) := (hF_102 P 0 (fun q => q.elim (fun h => absurd h.1 (np0 hP rfl)) (fun q => q.elim (fun h => absurd h (np0 hP rfl)) (fun q => q.elim (fun h => absurd h.1 (np0 hP rfl)) (fun q => q.elim (fun h => absurd h.1 (np0 hP rfl)) (fun q => q.elim (fun h => absurd h.1 (np0 hP rfl)) (fun q => q.elim (fun h => absurd h.1 (np0 hP rfl)) (fun q => q.elim (fun h => absurd h.1 (np0 hP rfl)) (fun q => q.elim (fun h => absurd h.1 (np0 hP rfl)) (fun q => q.elim (fun h => absurd h.1 (np0 hP rfl)) (fun q => q.elim (fun h => absurd h.1 (np0 hP rfl)) (fun q => q.elim (fun h => absurd h (np0 hP rfl)) (fun h => absurd h (np0 hP rfl)))))))))))))).trans ((up_c (np0 hP rfl)).trans (hid kn_117))
  have h_119 : c_100 P 0 = n0 := (hid kn_118)
  have kn_120 : Hid (c_7 41 20 = n0) := (hF_9 41 20 (fun q => q.elim (fun h => absurd h.1 (nn rfl)) (fun q => q.elim (fun h => absurd h.1 (nn rfl)) (fun q => q.elim (fun h => absurd h.1 (nn rfl)) (fun q => q.elim (fun h => absurd h.1 (nn rfl)) (fun q => q.elim (fun h => absurd h.1 (nn rfl)) (fun q => q.elim (fun h => absurd h.1 (nn rfl)) (fun q => q.elim (fun h => absurd h.1 (pn0 hP rfl)) (fun q => q.elim (fun h => absurd h (pn hP rfl rfl)) (fun h => absurd h (pn hP rfl rfl))))))))))).trans (hm0)
  have kn_121 : Hid (c_100 41 20 = n0) := (hF_102 41 20 (fun q => q.elim (fun h => absurd h.2 (ni rfl)) (fun q => q.elim (fun h => absurd h (nn rfl)) (fun q => q.elim (fun h => absurd h.2 (ni rfl)) (fun q => q.elim (fun h => absurd h.2 (ni rfl)) (fun q => q.elim (fun h => absurd h.2 (ni rfl)) (fun q => q.elim (fun h => absurd h.2 (ni rfl)) (fun q => q.elim (fun h => absurd h.2 (ni rfl)) (fun q => q.elim (fun h => absurd h.2 (ni rfl)) (fun q => q.elim (fun h => absurd h.2 (ni rfl)) (fun q => q.elim (fun h => absurd h.2 (ni rfl)) (fun q => q.elim (fun h => absurd h (nn rfl)) (fun h => absurd h (nn rfl)))))))))))))).trans ((up_c (nn rfl)).trans (hid kn_120))
  have h_122 : c_100 41 20 = n0 := (hid kn_121)
  have kn_123 : Hid (c_7 P 1 = n1) := (hF_9 P 1 (fun q => q.elim (fun h => absurd h.1 (np0 hP rfl)) (fun q => q.elim (fun h => absurd h.1 (np0 hP rfl)) (fun q => q.elim (fun h => absurd h.1 (np0 hP rfl)) (fun q => q.elim (fun h => absurd h.1 (np0 hP rfl)) (fun q => q.elim (fun h => absurd h.1 (np0 hP rfl)) (fun q => q.elim (fun h => absurd h.1 (np0 hP rfl)) (fun q => q.elim (fun h => absurd h.2 (ni rfl)) (fun q => q.elim (fun h => absurd h (p0p rfl)) (fun h => absurd h (p0p rfl))))))))))).trans (hn1)
  have kn_124 : Hid (c_100 P 1 = n1) := (hF_102 P 1 (fun q => q.elim (fun h => absurd h.1 (np0 hP rfl)) (fun q => q.elim (fun h => absurd h (np0 hP rfl)) (fun q => q.elim (fun h => absurd h.1 (np0 hP rfl)) (fun q => q.elim (fun h => absurd h.1 (np0 hP rfl)) (fun q => q.elim (fun h => absurd h.1 (np0 hP rfl)) (fun q => q.elim (fun h => absurd h.1 (np0 hP rfl)) (fun q => q.elim (fun h => absurd h.1 (np0 hP rfl)) (fun q => q.elim (fun h => absurd h.1 (np0 hP rfl)) (fun q => q.elim (fun h => absurd h.1 (np0 hP rfl)) (fun q => q.elim (fun h => absurd h.1 (np0 hP rfl)) (fun q => q.elim (fun h => absurd h (np0 hP rfl)) (fun h => absurd h (np0 hP rfl)))))))))))))).trans ((up_c (np0 hP rfl)).trans (hid kn_123))
  have h_125 : c_100 P 1 = n1 := (hid kn_124)
  have kn_126 : Hid (c_7 41 21 = n1) := (hF_9 41 21 (fun q => q.elim (fun h => absurd h.1 (nn rfl)) (fun q => q.elim (fun h => absurd h.1 (nn rfl)) (fun q => q.elim (fun h => absurd h.1 (nn rfl)) (fun q => q.elim (fun h => absurd h.1 (nn rfl)) (fun q => q.elim (fun h => absurd h.1 (nn rfl)) (fun q => q.elim (fun h => absurd h.1 (nn rfl)) (fun q => q.elim (fun h => absurd h.1 (pn0 hP rfl)) (fun q => q.elim (fun h => absurd h (pn hP rfl rfl)) (fun h => absurd h (pn hP rfl rfl))))))))))).trans (hm1)
  have kn_127 : Hid (c_100 41 21 = n1) := (hF_102 41 21 (fun q => q.elim (fun h => absurd h.2 (ni rfl)) (fun q => q.elim (fun h => absurd h (nn rfl)) (fun q => q.elim (fun h => absurd h.2 (ni rfl)) (fun q => q.elim (fun h => absurd h.2 (ni rfl)) (fun q => q.elim (fun h => absurd h.2 (ni rfl)) (fun q => q.elim (fun h => absurd h.2 (ni rfl)) (fun q => q.elim (fun h => absurd h.2 (ni rfl)) (fun q => q.elim (fun h => absurd h.2 (ni rfl)) (fun q => q.elim (fun h => absurd h.2 (ni rfl)) (fun q => q.elim (fun h => absurd h.2 (ni rfl)) (fun q => q.elim (fun h => absurd h (nn rfl)) (fun h => absurd h (nn rfl)))))))))))))).trans ((up_c (nn rfl)).trans (hid kn_126))
  have h_128 : c_100 41 21 = n1 := (hid kn_127)
  have kn_129 : Hid (c_7 P 2 = n2) := (hF_9 P 2 (fun q => q.elim (fun h => absurd h.1 (np0 hP rfl)) (fun q => q.elim (fun h => absurd h.1 (np0 hP rfl)) (fun q => q.elim (fun h => absurd h.1 (np0 hP rfl)) (fun q => q.elim (fun h => absurd h.1 (np0 hP rfl)) (fun q => q.elim (fun h => absurd h.1 (np0 hP rfl)) (fun q => q.elim (fun h => absurd h.1 (np0 hP rfl)) (fun q => q.elim (fun h => absurd h.2 (ni rfl)) (fun q => q.elim (fun h => absurd h (p0p rfl)) (fun h => absurd h (p0p rfl))))))))))).trans (hn2)
  have kn_130 : Hid (c_100 P 2 = n2) := (hF_102 P 2 (fun q => q.elim (fun h => absurd h.1 (np0 hP rfl)) (fun q => q.elim (fun h => absurd h (np0 hP rfl)) (fun q => q.elim (fun h => absurd h.1 (np0 hP rfl)) (fun q => q.elim (fun h => absurd h.1 (np0 hP rfl)) (fun q => q.elim (fun h => absurd h.1 (np0 hP rfl)) (fun q => q.elim (fun h => absurd h.1 (np0 hP rfl)) (fun q => q.elim (fun h => absurd h.1 (np0 hP rfl)) (fun q => q.elim (fun h => absurd h.1 (np0 hP rfl)) (fun q => q.elim (fun h => absurd h.1 (np0 hP rfl)) (fun q => q.elim (fun h => absurd h.1 (np0 hP rfl)) (fun q => q.elim (fun h => absurd h (np0 hP rfl)) (fun h => absurd h (np0 hP rfl)))))))))))))).trans ((up_c (np0 hP rfl)).trans (hid kn_129))
  have h_131 : c_100 P 2 = n2 := (hid kn_130)
  have kn_132 : Hid (c_100 41 22 = n2) := (hF_102 41 22 (fun q => q.elim (fun h => absurd h.2 (ni rfl)) (fun q => q.elim (fun h => absurd h (nn rfl)) (fun q => q.elim (fun h => absurd h.2 (ni rfl)) (fun q => q.elim (fun h => absurd h.2 (ni rfl)) (fun q => q.elim (fun h => absurd h.2 (ni rfl)) (fun q => q.elim (fun h => absurd h.2 (ni rfl)) (fun q => q.elim (fun h => absurd h.2 (ni rfl)) (fun q => q.elim (fun h => absurd h.2 (ni rfl)) (fun q => q.elim (fun h => absurd h.2 (ni rfl)) (fun q => q.elim (fun h => absurd h.2 (ni rfl)) (fun q => q.elim (fun h => absurd h (nn rfl)) (fun h => absurd h (nn rfl)))))))))))))).trans ((up_c (nn rfl)).trans (hid kn_99))
  have h_133 : c_100 41 22 = n2 := (hid kn_132)
  have kn_134 : Hid (c_7 P 3 = n3) := (hF_9 P 3 (fun q => q.elim (fun h => absurd h.1 (np0 hP rfl)) (fun q => q.elim (fun h => absurd h.1 (np0 hP rfl)) (fun q => q.elim (fun h => absurd h.1 (np0 hP rfl)) (fun q => q.elim (fun h => absurd h.1 (np0 hP rfl)) (fun q => q.elim (fun h => absurd h.1 (np0 hP rfl)) (fun q => q.elim (fun h => absurd h.1 (np0 hP rfl)) (fun q => q.elim (fun h => absurd h.2 (ni rfl)) (fun q => q.elim (fun h => absurd h (p0p rfl)) (fun h => absurd h (p0p rfl))))))))))).trans (hn3)
  have kn_135 : Hid (c_100 P 3 = n3) := (hF_102 P 3 (fun q => q.elim (fun h => absurd h.1 (np0 hP rfl)) (fun q => q.elim (fun h => absurd h (np0 hP rfl)) (fun q => q.elim (fun h => absurd h.1 (np0 hP rfl)) (fun q => q.elim (fun h => absurd h.1 (np0 hP rfl)) (fun q => q.elim (fun h => absurd h.1 (np0 hP rfl)) (fun q => q.elim (fun h => absurd h.1 (np0 hP rfl)) (fun q => q.elim (fun h => absurd h.1 (np0 hP rfl)) (fun q => q.elim (fun h => absurd h.1 (np0 hP rfl)) (fun q => q.elim (fun h => absurd h.1 (np0 hP rfl)) (fun q => q.elim (fun h => absurd h.1 (np0 hP rfl)) (fun q => q.elim (fun h => absurd h (np0 hP rfl)) (fun h => absurd h (np0 hP rfl)))))))))))))).trans ((up_c (np0 hP rfl)).trans (hid kn_134))
  have h_136 : c_100 P 3 = n3 := (hid kn_135)
  have kn_137 : Hid (c_7 41 23 = n3) := (hF_9 41 23 (fun q => q.elim (fun h => absurd h.1 (nn rfl)) (fun q => q.elim (fun h => absurd h.1 (nn rfl)) (fun q => q.elim (fun h => absurd h.1 (nn rfl)) (fun q => q.elim (fun h => absurd h.1 (nn rfl)) (fun q => q.elim (fun h => absurd h.1 (nn rfl)) (fun q => q.elim (fun h => absurd h.1 (nn rfl)) (fun q => q.elim (fun h => absurd h.1 (pn0 hP rfl)) (fun q => q.elim (fun h => absurd h (pn hP rfl rfl)) (fun h => absurd h (pn hP rfl rfl))))))))))).trans (hm3)
  have kn_138 : Hid (c_100 41 23 = n3) := (hF_102 41 23 (fun q => q.elim (fun h => absurd h.2 (ni rfl)) (fun q => q.elim (fun h => absurd h (nn rfl)) (fun q => q.elim (fun h => absurd h.2 (ni rfl)) (fun q => q.elim (fun h => absurd h.2 (ni rfl)) (fun q => q.elim (fun h => absurd h.2 (ni rfl)) (fun q => q.elim (fun h => absurd h.2 (ni rfl)) (fun q => q.elim (fun h => absurd h.2 (ni rfl)) (fun q => q.elim (fun h => absurd h.2 (ni rfl)) (fun q => q.elim (fun h => absurd h.2 (ni rfl)) (fun q => q.elim (fun h => absurd h.2 (ni rfl)) (fun q => q.elim (fun h => absurd h (nn rfl)) (fun h => absurd h (nn rfl)))))))))))))).trans ((up_c (nn rfl)).trans (hid kn_137))
  have h_139 : c_100 41 23 = n3 := (hid kn_138)
  exact K P Q c_100 0 (by decide) hI_101 ⟨by omega, ub_fr hU (fun j => (hF_102 2 j (fun q => q.elim (fun h => absurd h.1 (nn rfl)) (fun q => q.elim (fun h => absurd h (nn rfl)) (fun q => q.elim (fun h => absurd h.1 (nn rfl)) (fun q => q.elim (fun h => absurd h.1 (nn rfl)) (fun q => q.elim (fun h => absurd h.1 (nn rfl)) (fun q => q.elim (fun h => absurd h.1 (nn rfl)) (fun q => q.elim (fun h => absurd h.1 (nn rfl)) (fun q => q.elim (fun h => absurd h.1 (nn rfl)) (fun q => q.elim (fun h => absurd h.1 (nn rfl)) (fun q => q.elim (fun h => absurd h.1 (nn rfl)) (fun q => q.elim (fun h => absurd h (nn rfl)) (fun h => absurd h (nn rfl)))))))))))))).trans ((up_c (nn rfl)).trans (hF_9 2 j (fun q => q.elim (fun h => absurd h.1 (nn rfl)) (fun q => q.elim (fun h => absurd h.1 (nn rfl)) (fun q => q.elim (fun h => absurd h.1 (nn rfl)) (fun q => q.elim (fun h => absurd h.1 (nn rfl)) (fun q => q.elim (fun h => absurd h.1 (nn rfl)) (fun q => q.elim (fun h => absurd h.1 (nn rfl)) (fun q => q.elim (fun h => absurd h.1 (pn0 hP rfl)) (fun q => q.elim (fun h => absurd h (pn hP rfl rfl)) (fun h => absurd h (pn hP rfl rfl))))))))))))) (fun j => (hF_102 43 j (fun q => q.elim (fun h => absurd h.1 (nn rfl)) (fun q => q.elim (fun h => absurd h (nn rfl)) (fun q => q.elim (fun h => absurd h.1 (nn rfl)) (fun q => q.elim (fun h => absurd h.1 (nn rfl)) (fun q => q.elim (fun h => absurd h.1 (nn rfl)) (fun q => q.elim (fun h => absurd h.1 (nn rfl)) (fun q => q.elim (fun h => absurd h.1 (nn rfl)) (fun q => q.elim (fun h => absurd h.1 (nn rfl)) (fun q => q.elim (fun h => absurd h.1 (nn rfl)) (fun q => q.elim (fun h => absurd h.1 (nn rfl)) (fun q => q.elim (fun h => absurd h (nn rfl)) (fun h => absurd h (nn rfl)))))))))))))).trans ((up_c (nn rfl)).trans (hF_9 43 j (fun q => q.elim (fun h => absurd h.1 (nn rfl)) (fun q => q.elim (fun h => absurd h.1 (nn rfl)) (fun q => q.elim (fun h => absurd h.1 (nn rfl)) (fun q => q.elim (fun h => absurd h.1 (nn rfl)) (fun q => q.elim (fun h => absurd h.1 (nn rfl)) (fun q => q.elim (fun h => absurd h.1 (nn rfl)) (fun q => q.elim (fun h => absurd h.1 (pn0 hP rfl)) (fun q => q.elim (fun h => absurd h (pn hP rfl rfl)) (fun h => absurd h (pn hP rfl rfl))))))))))))), ⟨by omega, by omega, by omega, by omega⟩⟩

set_option maxRecDepth 100000 in
set_option maxHeartbeats 4000000 in
theorem o_5 {xs : Nat → Int32} {L i0 d nc ns P Q : Nat} {c : ME} {Z : AR → Prop} (hi : i0 + 8 ≤ L) (hL : L ≤ 100000) (hI : Iv 0 (-1) P Q c) (hR : Rq P c) (K : ∀ (P2 Q2 : Nat) (c2 : ME) (e : Nat), e ≤ 1 → Iv 0 (-1) P2 Q2 c2 → (Rq P2 c2) → Wp (a_scr L xs) (d + 90) 296 1844 [(4, vi (i0 : Int)), (3, .ref 67), (2, .ref 41), (1, .ref 0), (0, .ref a_SC)] [] (Wd P2 Q2 P2 P2 c2) (nc + e) (ns + 6 * e) Z) : Wp (a_scr L xs) (d + 90) 296 441 [(4, vi (i0 : Int)), (3, .ref 67), (2, .ref 41), (1, .ref 0), (0, .ref a_SC)] [] (Wd P Q P P c) nc ns Z := by
  obtain ⟨x1, hx1⟩ : ∃ z, (xs (i0 + 1)).toInt = z := ⟨_, rfl⟩
  have x1r := c_rng (xs (i0 + 1))
  rw [hx1] at x1r
  obtain ⟨x2, hx2⟩ : ∃ z, (xs (i0 + 2)).toInt = z := ⟨_, rfl⟩
  have x2r := c_rng (xs (i0 + 2))
  rw [hx2] at x2r
  obtain ⟨x3, hx3⟩ : ∃ z, (xs (i0 + 3)).toInt = z := ⟨_, rfl⟩
  have x3r := c_rng (xs (i0 + 3))
  rw [hx3] at x3r
  obtain ⟨x4, hx4⟩ : ∃ z, (xs (i0 + 4)).toInt = z := ⟨_, rfl⟩
  have x4r := c_rng (xs (i0 + 4))
  rw [hx4] at x4r
  obtain ⟨x5, hx5⟩ : ∃ z, (xs (i0 + 5)).toInt = z := ⟨_, rfl⟩
  have x5r := c_rng (xs (i0 + 5))
  rw [hx5] at x5r
  obtain ⟨x6, hx6⟩ : ∃ z, (xs (i0 + 6)).toInt = z := ⟨_, rfl⟩
  have x6r := c_rng (xs (i0 + 6))
  rw [hx6] at x6r
  obtain ⟨x7, hx7⟩ : ∃ z, (xs (i0 + 7)).toInt = z := ⟨_, rfl⟩
  have x7r := c_rng (xs (i0 + 7))
  rw [hx7] at x7r
  have hT := rl_t hR
  have hU := rl_u hR
  have hP := iv_P hI
  obtain ⟨n0, hn0⟩ : ∃ z, c P 0 = z := ⟨_, rfl⟩
  have hm0 : c 41 20 = n0 := (rl_nums hR).1.symm.trans hn0
  have hr0 := ir_p0_0 hI hP
  rw [hn0] at hr0
  obtain ⟨n1, hn1⟩ : ∃ z, c P 1 = z := ⟨_, rfl⟩
  have hm1 : c 41 21 = n1 := (rl_nums hR).2.1.symm.trans hn1
  have hr1 := ir_p0_1 hI hP
  rw [hn1] at hr1
  obtain ⟨n2, hn2⟩ : ∃ z, c P 2 = z := ⟨_, rfl⟩
  have hm2 : c 41 22 = n2 := (rl_nums hR).2.2.1.symm.trans hn2
  have hr2 := ir_p0_2 hI hP
  rw [hn2] at hr2
  obtain ⟨n3, hn3⟩ : ∃ z, c P 3 = z := ⟨_, rfl⟩
  have hm3 : c 41 23 = n3 := (rl_nums hR).2.2.2.symm.trans hn3
  have hr3 := ir_p0_3 hI hP
  rw [hn3] at hr3
  have hP := iv_P hI
  have hQ := iv_Q hI
  refine q_aload_n rfl rfl ?_
  refine q_aload_n rfl rfl ?_
  refine q_iload rfl rfl ?_
  refine q_iconst rfl ?_
  refine v_iadd (v := (i0 : Int) + 1) rfl (by omega) ?_
  refine v_scr (j := i0 + 1) rfl (by omega) (by omega) hL hx1 ?_
  refine q_aload_n rfl rfl ?_
  refine q_call rfl rfl rfl rfl ?_
  refine q_aload_n rfl rfl ?_
  refine q_iconst rfl ?_
  refine q_aload_n rfl rfl ?_
  refine q_iload_n rfl rfl ?_
  have h_1 := ir_1_3 hI
  refine v_cv rfl rfl rfl rfl (by decide) ⟨⟨rfl, rfl⟩, by decide, rfl⟩ (Nat.le_of_ble_eq_true rfl) (Nat.le_of_ble_eq_true rfl) (s_88 (a1 := x1) hI (show (-2147483648) ≤ x1 ∧ x1 ≤ 2147483647 from by omega) (fun c_2 hI_3 hF_4 h_5 h_6 => ?_) (fun c_7 y_10 hI_8 hF_9 hy_10 h_11 => ?_))
  · skip
    have h_12 := ir_1_3 hI_3
    refine bk_thr (z := Int32.ofInt 1) rfl ⟨_, _, rfl⟩ rfl ?_
    refine bk_inl ?_
    refine q_istore rfl (by decide) ?_
    refine q_aload_n rfl rfl ?_
    refine q_aload_n rfl rfl ?_
    refine q_iload rfl rfl ?_
    refine q_iconst rfl ?_
    refine v_iadd (v := (i0 : Int) + 1) rfl (by omega) ?_
    refine v_scr (j := i0 + 1) rfl (by omega) (by omega) hL hx1 ?_
    have h_13 := ir_41_2 hI
    have kn_14 : Hid (c_2 41 2 = c 41 2) := hF_4 41 2 (fun h => absurd h.1 (nn rfl))
    have h_15 : c_2 41 2 = c 41 2 := (hid kn_14)
    refine v_cv rfl rfl rfl rfl (by decide) ⟨⟨rfl, rfl⟩, by decide, rfl⟩ (Nat.le_of_ble_eq_true rfl) (Nat.le_of_ble_eq_true rfl) (s_207 (a1 := x1) hI_3 (show (-2147483648) ≤ x1 ∧ x1 ≤ 2147483647 from by omega) (fun c_16 y_19 hI_17 hF_18 hy_19 h_20 => ?_))
    refine bk_inl ?_
    have h_21 := ir_41_2 hI_17
    refine q_istore rfl (by decide) ?_
    refine q_goto (t := 1844) rfl (by decide) ?_
    refine Wp_ls [(4, vi (i0 : Int)), (3, .ref 67), (2, .ref 41), (1, .ref 0), (0, .ref a_SC)] (lsub_cons rfl (lsub_cons rfl (lsub_cons rfl (lsub_cons rfl (lsub_cons rfl lsub_nil))))) ?_
    have kn_22 : Hid (c_2 1 3 = c 1 3) := hF_4 1 3 (fun h => absurd h.1 (nn rfl))
    have kn_23 : Hid (c_16 1 3 = c 1 3) := (hF_18 1 3 (fun q => q.elim (fun h => absurd h.1 (nn rfl)) (fun q => q.elim (fun h => absurd h (nn rfl)) (fun q => q.elim (fun h => absurd h.1 (nn rfl)) (fun q => q.elim (fun h => absurd h.1 (nn rfl)) (fun q => q.elim (fun h => absurd h.1 (nn rfl)) (fun q => q.elim (fun h => absurd h.1 (nn rfl)) (fun q => q.elim (fun h => absurd h.1 (nn rfl)) (fun q => q.elim (fun h => absurd h.1 (nn rfl)) (fun q => q.elim (fun h => absurd h.1 (nn rfl)) (fun q => q.elim (fun h => absurd h.1 (nn rfl)) (fun q => q.elim (fun h => absurd h (nn rfl)) (fun h => absurd h (nn rfl)))))))))))))).trans (hid kn_22)
    have h_24 : c_16 1 3 = c 1 3 := (hid kn_23)
    have h_25 : c_16 41 2 = c_16 41 2 := rfl
    have kn_26 : Hid (c_2 P 0 = n0) := (hF_4 P 0 (fun h => absurd h.1 (np0 hP rfl))).trans (hn0)
    have kn_27 : Hid (c_16 P 0 = n0) := (hF_18 P 0 (fun q => q.elim (fun h => absurd h.1 (np0 hP rfl)) (fun q => q.elim (fun h => absurd h (np0 hP rfl)) (fun q => q.elim (fun h => absurd h.1 (np0 hP rfl)) (fun q => q.elim (fun h => absurd h.1 (np0 hP rfl)) (fun q => q.elim (fun h => absurd h.1 (np0 hP rfl)) (fun q => q.elim (fun h => absurd h.1 (np0 hP rfl)) (fun q => q.elim (fun h => absurd h.1 (np0 hP rfl)) (fun q => q.elim (fun h => absurd h.1 (np0 hP rfl)) (fun q => q.elim (fun h => absurd h.1 (np0 hP rfl)) (fun q => q.elim (fun h => absurd h.1 (np0 hP rfl)) (fun q => q.elim (fun h => absurd h (np0 hP rfl)) (fun h => absurd h (np0 hP rfl)))))))))))))).trans (hid kn_26)
    have h_28 : c_16 P 0 = n0 := (hid kn_27)
    have kn_29 : Hid (c_2 41 20 = n0) := (hF_4 41 20 (fun h => absurd h.1 (nn rfl))).trans (hm0)
    have kn_30 : Hid (c_16 41 20 = n0) := (hF_18 41 20 (fun q => q.elim (fun h => absurd h.2 (ni rfl)) (fun q => q.elim (fun h => absurd h (nn rfl)) (fun q => q.elim (fun h => absurd h.2 (ni rfl)) (fun q => q.elim (fun h => absurd h.2 (ni rfl)) (fun q => q.elim (fun h => absurd h.2 (ni rfl)) (fun q => q.elim (fun h => absurd h.2 (ni rfl)) (fun q => q.elim (fun h => absurd h.2 (ni rfl)) (fun q => q.elim (fun h => absurd h.2 (ni rfl)) (fun q => q.elim (fun h => absurd h.2 (ni rfl)) (fun q => q.elim (fun h => absurd h.2 (ni rfl)) (fun q => q.elim (fun h => absurd h (nn rfl)) (fun h => absurd h (nn rfl)))))))))))))).trans (hid kn_29)
    have h_31 : c_16 41 20 = n0 := (hid kn_30)
    have kn_32 : Hid (c_2 P 1 = n1) := (hF_4 P 1 (fun h => absurd h.1 (np0 hP rfl))).trans (hn1)
    have kn_33 : Hid (c_16 P 1 = n1) := (hF_18 P 1 (fun q => q.elim (fun h => absurd h.1 (np0 hP rfl)) (fun q => q.elim (fun h => absurd h (np0 hP rfl)) (fun q => q.elim (fun h => absurd h.1 (np0 hP rfl)) (fun q => q.elim (fun h => absurd h.1 (np0 hP rfl)) (fun q => q.elim (fun h => absurd h.1 (np0 hP rfl)) (fun q => q.elim (fun h => absurd h.1 (np0 hP rfl)) (fun q => q.elim (fun h => absurd h.1 (np0 hP rfl)) (fun q => q.elim (fun h => absurd h.1 (np0 hP rfl)) (fun q => q.elim (fun h => absurd h.1 (np0 hP rfl)) (fun q => q.elim (fun h => absurd h.1 (np0 hP rfl)) (fun q => q.elim (fun h => absurd h (np0 hP rfl)) (fun h => absurd h (np0 hP rfl)))))))))))))).trans (hid kn_32)
    have h_34 : c_16 P 1 = n1 := (hid kn_33)
    have kn_35 : Hid (c_2 41 21 = n1) := (hF_4 41 21 (fun h => absurd h.1 (nn rfl))).trans (hm1)
    have kn_36 : Hid (c_16 41 21 = n1) := (hF_18 41 21 (fun q => q.elim (fun h => absurd h.2 (ni rfl)) (fun q => q.elim (fun h => absurd h (nn rfl)) (fun q => q.elim (fun h => absurd h.2 (ni rfl)) (fun q => q.elim (fun h => absurd h.2 (ni rfl)) (fun q => q.elim (fun h => absurd h.2 (ni rfl)) (fun q => q.elim (fun h => absurd h.2 (ni rfl)) (fun q => q.elim (fun h => absurd h.2 (ni rfl)) (fun q => q.elim (fun h => absurd h.2 (ni rfl)) (fun q => q.elim (fun h => absurd h.2 (ni rfl)) (fun q => q.elim (fun h => absurd h.2 (ni rfl)) (fun q => q.elim (fun h => absurd h (nn rfl)) (fun h => absurd h (nn rfl)))))))))))))).trans (hid kn_35)
    have h_37 : c_16 41 21 = n1 := (hid kn_36)
    have kn_38 : Hid (c_2 P 2 = n2) := (hF_4 P 2 (fun h => absurd h.1 (np0 hP rfl))).trans (hn2)
    have kn_39 : Hid (c_16 P 2 = n2) := (hF_18 P 2 (fun q => q.elim (fun h => absurd h.1 (np0 hP rfl)) (fun q => q.elim (fun h => absurd h (np0 hP rfl)) (fun q => q.elim (fun h => absurd h.1 (np0 hP rfl)) (fun q => q.elim (fun h => absurd h.1 (np0 hP rfl)) (fun q => q.elim (fun h => absurd h.1 (np0 hP rfl)) (fun q => q.elim (fun h => absurd h.1 (np0 hP rfl)) (fun q => q.elim (fun h => absurd h.1 (np0 hP rfl)) (fun q => q.elim (fun h => absurd h.1 (np0 hP rfl)) (fun q => q.elim (fun h => absurd h.1 (np0 hP rfl)) (fun q => q.elim (fun h => absurd h.1 (np0 hP rfl)) (fun q => q.elim (fun h => absurd h (np0 hP rfl)) (fun h => absurd h (np0 hP rfl)))))))))))))).trans (hid kn_38)
    have h_40 : c_16 P 2 = n2 := (hid kn_39)
    have kn_41 : Hid (c_2 41 22 = n2) := (hF_4 41 22 (fun h => absurd h.1 (nn rfl))).trans (hm2)
    have kn_42 : Hid (c_16 41 22 = n2) := (hF_18 41 22 (fun q => q.elim (fun h => absurd h.2 (ni rfl)) (fun q => q.elim (fun h => absurd h (nn rfl)) (fun q => q.elim (fun h => absurd h.2 (ni rfl)) (fun q => q.elim (fun h => absurd h.2 (ni rfl)) (fun q => q.elim (fun h => absurd h.2 (ni rfl)) (fun q => q.elim (fun h => absurd h.2 (ni rfl)) (fun q => q.elim (fun h => absurd h.2 (ni rfl)) (fun q => q.elim (fun h => absurd h.2 (ni rfl)) (fun q => q.elim (fun h => absurd h.2 (ni rfl)) (fun q => q.elim (fun h => absurd h.2 (ni rfl)) (fun q => q.elim (fun h => absurd h (nn rfl)) (fun h => absurd h (nn rfl)))))))))))))).trans (hid kn_41)
    have h_43 : c_16 41 22 = n2 := (hid kn_42)
    have kn_44 : Hid (c_2 P 3 = n3) := (hF_4 P 3 (fun h => absurd h.1 (np0 hP rfl))).trans (hn3)
    have kn_45 : Hid (c_16 P 3 = n3) := (hF_18 P 3 (fun q => q.elim (fun h => absurd h.1 (np0 hP rfl)) (fun q => q.elim (fun h => absurd h (np0 hP rfl)) (fun q => q.elim (fun h => absurd h.1 (np0 hP rfl)) (fun q => q.elim (fun h => absurd h.1 (np0 hP rfl)) (fun q => q.elim (fun h => absurd h.1 (np0 hP rfl)) (fun q => q.elim (fun h => absurd h.1 (np0 hP rfl)) (fun q => q.elim (fun h => absurd h.1 (np0 hP rfl)) (fun q => q.elim (fun h => absurd h.1 (np0 hP rfl)) (fun q => q.elim (fun h => absurd h.1 (np0 hP rfl)) (fun q => q.elim (fun h => absurd h.1 (np0 hP rfl)) (fun q => q.elim (fun h => absurd h (np0 hP rfl)) (fun h => absurd h (np0 hP rfl)))))))))))))).trans (hid kn_44)
    have h_46 : c_16 P 3 = n3 := (hid kn_45)
    have kn_47 : Hid (c_2 41 23 = n3) := (hF_4 41 23 (fun h => absurd h.1 (nn rfl))).trans (hm3)
    have kn_48 : Hid (c_16 41 23 = n3) := (hF_18 41 23 (fun q => q.elim (fun h => absurd h.2 (ni rfl)) (fun q => q.elim (fun h => absurd h (nn rfl)) (fun q => q.elim (fun h => absurd h.2 (ni rfl)) (fun q => q.elim (fun h => absurd h.2 (ni rfl)) (fun q => q.elim (fun h => absurd h.2 (ni rfl)) (fun q => q.elim (fun h => absurd h.2 (ni rfl)) (fun q => q.elim (fun h => absurd h.2 (ni rfl)) (fun q => q.elim (fun h => absurd h.2 (ni rfl)) (fun q => q.elim (fun h => absurd h.2 (ni rfl)) (fun q => q.elim (fun h => absurd h.2 (ni rfl)) (fun q => q.elim (fun h => absurd h (nn rfl)) (fun h => absurd h (nn rfl)))))))))))))).trans (hid kn_47)
    have h_49 : c_16 41 23 = n3 := (hid kn_48)
    exact K P Q c_16 1 (by decide) hI_17 ⟨by omega, ub_fr hU (fun j => (hF_18 2 j (fun q => q.elim (fun h => absurd h.1 (nn rfl)) (fun q => q.elim (fun h => absurd h (nn rfl)) (fun q => q.elim (fun h => absurd h.1 (nn rfl)) (fun q => q.elim (fun h => absurd h.1 (nn rfl)) (fun q => q.elim (fun h => absurd h.1 (nn rfl)) (fun q => q.elim (fun h => absurd h.1 (nn rfl)) (fun q => q.elim (fun h => absurd h.1 (nn rfl)) (fun q => q.elim (fun h => absurd h.1 (nn rfl)) (fun q => q.elim (fun h => absurd h.1 (nn rfl)) (fun q => q.elim (fun h => absurd h.1 (nn rfl)) (fun q => q.elim (fun h => absurd h (nn rfl)) (fun h => absurd h (nn rfl)))))))))))))).trans (hF_4 2 j (fun h => absurd h.1 (nn rfl)))) (fun j => (hF_18 43 j (fun q => q.elim (fun h => absurd h.1 (nn rfl)) (fun q => q.elim (fun h => absurd h (nn rfl)) (fun q => q.elim (fun h => absurd h.1 (nn rfl)) (fun q => q.elim (fun h => absurd h.1 (nn rfl)) (fun q => q.elim (fun h => absurd h.1 (nn rfl)) (fun q => q.elim (fun h => absurd h.1 (nn rfl)) (fun q => q.elim (fun h => absurd h.1 (nn rfl)) (fun q => q.elim (fun h => absurd h.1 (nn rfl)) (fun q => q.elim (fun h => absurd h.1 (nn rfl)) (fun q => q.elim (fun h => absurd h.1 (nn rfl)) (fun q => q.elim (fun h => absurd h (nn rfl)) (fun h => absurd h (nn rfl)))))))))))))).trans (hF_4 43 j (fun h => absurd h.1 (nn rfl)))), ⟨by omega, by omega, by omega, by omega⟩⟩
  refine bk_inl ?_
  have h_50 := ir_1_3 hI_8
  refine v_i2l rfl (by omega) ?_
  refine v_ls rfl rfl (by decide) (by decide) (by decide) ?_
  refine q_goto (t := 15) rfl (by decide) ?_
  refine q_iconst rfl ?_
  refine q_iret rfl rfl ?_
  refine bk_inl ?_
  refine q_istore rfl (by decide) ?_
  refine q_aload_n rfl rfl ?_
  refine q_aload_n rfl rfl ?_
  refine q_iload rfl rfl ?_
  refine q_iconst rfl ?_
  refine v_iadd (v := (i0 : Int) + 1) rfl (by omega) ?_
  refine v_scr (j := i0 + 1) rfl (by omega) (by omega) hL hx1 ?_
  have hI_51 := iw_lx (a := 67) (j := 0) (v := y_10) hI_8 (by omega)
  have h_52 := ir_41_2 hI
  have kn_53 : Hid (c_7 41 2 = c 41 2) := hF_9 41 2 (fun q => q.elim (fun h => absurd h.1 (nn rfl)) (fun q => q.elim (fun h => absurd h.1 (nn rfl)) (fun q => q.elim (fun h => absurd h.1 (nn rfl)) (fun q => q.elim (fun h => absurd h.1 (nn rfl)) (fun q => q.elim (fun h => absurd h.1 (nn rfl)) (fun q => q.elim (fun h => absurd h.1 (nn rfl)) (fun q => q.elim (fun h => absurd h.1 (pn0 hP rfl)) (fun q => q.elim (fun h => absurd h (pn hP rfl rfl)) (fun h => absurd h (pn hP rfl rfl))))))))))
  have h_54 : (up c_7 67 0 y_10) 41 2 = c 41 2 := ((up_c (nn rfl)).trans (hid kn_53))
  refine v_cv rfl rfl rfl rfl (by decide) ⟨⟨rfl, rfl⟩, by decide, rfl⟩ (Nat.le_of_ble_eq_true rfl) (Nat.le_of_ble_eq_true rfl) (s_207 (a1 := x1) hI_51 (show (-2147483648) ≤ x1 ∧ x1 ≤ 2147483647 from by omega) (fun c_55 y_58 hI_56 hF_57 hy_58 h_59 => ?_))
  refine bk_inl ?_
  have h_60 := ir_41_2 hI_56
  refine q_istore rfl (by decide) ?_
  refine q_goto (t := 1844) rfl (by decide) ?_
  refine Wp_ls [(4, vi (i0 : Int)), (3, .ref 67), (2, .ref 41), (1, .ref 0), (0, .ref a_SC)] (lsub_cons rfl (lsub_cons rfl (lsub_cons rfl (lsub_cons rfl (lsub_cons rfl lsub_nil))))) ?_
  have kn_61 : Hid (c_55 1 3 = c_7 1 3) := (hF_57 1 3 (fun q => q.elim (fun h => absurd h.1 (nn rfl)) (fun q => q.elim (fun h => absurd h (nn rfl)) (fun q => q.elim (fun h => absurd h.1 (nn rfl)) (fun q => q.elim (fun h => absurd h.1 (nn rfl)) (fun q => q.elim (fun h => absurd h.1 (nn rfl)) (fun q => q.elim (fun h => absurd h.1 (nn rfl)) (fun q => q.elim (fun h => absurd h.1 (nn rfl)) (fun q => q.elim (fun h => absurd h.1 (nn rfl)) (fun q => q.elim (fun h => absurd h.1 (nn rfl)) (fun q => q.elim (fun h => absurd h.1 (nn rfl)) (fun q => q.elim (fun h => absurd h (nn rfl)) (fun h => absurd h (nn rfl)))))))))))))).trans (up_c (nn rfl))
  have h_62 : c_55 1 3 = c_7 1 3 := (hid kn_61)
  have h_63 : c_55 41 2 = c_55 41 2 := rfl
  have kn_64 : Hid (c_7 P 0 = n0) := (hF_9 P 0 (fun q => q.elim (fun h => absurd h.1 (np0 hP rfl)) (fun q => q.elim (fun h => absurd h.1 (np0 hP rfl)) (fun q => q.elim (fun h => absurd h.1 (np0 hP rfl)) (fun q => q.elim (fun h => absurd h.1 (np0 hP rfl)) (fun q => q.elim (fun h => absurd h.1 (np0 hP rfl)) (fun q => q.elim (fun h => absurd h.1 (np0 hP rfl)) (fun q => q.elim (fun h => absurd h.2 (ni rfl)) (fun q => q.elim (fun h => absurd h (p0p rfl)) (fun h => absurd h (p0p rfl))))))))))).trans (hn0)
  have kn_65 : Hid (c_55 P 0 = n0) := (hF_57 P 0 (fun q => q.elim (fun h => absurd h.1 (np0 hP rfl)) (fun q => q.elim (fun h => absurd h (np0 hP rfl)) (fun q => q.elim (fun h => absurd h.1 (np0 hP rfl)) (fun q => q.elim (fun h => absurd h.1 (np0 hP rfl)) (fun q => q.elim (fun h => absurd h.1 (np0 hP rfl)) (fun q => q.elim (fun h => absurd h.1 (np0 hP rfl)) (fun q => q.elim (fun h => absurd h.1 (np0 hP rfl)) (fun q => q.elim (fun h => absurd h.1 (np0 hP rfl)) (fun q => q.elim (fun h => absurd h.1 (np0 hP rfl)) (fun q => q.elim (fun h => absurd h.1 (np0 hP rfl)) (fun q => q.elim (fun h => absurd h (np0 hP rfl)) (fun h => absurd h (np0 hP rfl)))))))))))))).trans ((up_c (np0 hP rfl)).trans (hid kn_64))
  have h_66 : c_55 P 0 = n0 := (hid kn_65)
  have kn_67 : Hid (c_7 41 20 = n0) := (hF_9 41 20 (fun q => q.elim (fun h => absurd h.1 (nn rfl)) (fun q => q.elim (fun h => absurd h.1 (nn rfl)) (fun q => q.elim (fun h => absurd h.1 (nn rfl)) (fun q => q.elim (fun h => absurd h.1 (nn rfl)) (fun q => q.elim (fun h => absurd h.1 (nn rfl)) (fun q => q.elim (fun h => absurd h.1 (nn rfl)) (fun q => q.elim (fun h => absurd h.1 (pn0 hP rfl)) (fun q => q.elim (fun h => absurd h (pn hP rfl rfl)) (fun h => absurd h (pn hP rfl rfl))))))))))).trans (hm0)
  have kn_68 : Hid (c_55 41 20 = n0) := (hF_57 41 20 (fun q => q.elim (fun h => absurd h.2 (ni rfl)) (fun q => q.elim (fun h => absurd h (nn rfl)) (fun q => q.elim (fun h => absurd h.2 (ni rfl)) (fun q => q.elim (fun h => absurd h.2 (ni rfl)) (fun q => q.elim (fun h => absurd h.2 (ni rfl)) (fun q => q.elim (fun h => absurd h.2 (ni rfl)) (fun q => q.elim (fun h => absurd h.2 (ni rfl)) (fun q => q.elim (fun h => absurd h.2 (ni rfl)) (fun q => q.elim (fun h => absurd h.2 (ni rfl)) (fun q => q.elim (fun h => absurd h.2 (ni rfl)) (fun q => q.elim (fun h => absurd h (nn rfl)) (fun h => absurd h (nn rfl)))))))))))))).trans ((up_c (nn rfl)).trans (hid kn_67))
  have h_69 : c_55 41 20 = n0 := (hid kn_68)
  have kn_70 : Hid (c_7 P 1 = n1) := (hF_9 P 1 (fun q => q.elim (fun h => absurd h.1 (np0 hP rfl)) (fun q => q.elim (fun h => absurd h.1 (np0 hP rfl)) (fun q => q.elim (fun h => absurd h.1 (np0 hP rfl)) (fun q => q.elim (fun h => absurd h.1 (np0 hP rfl)) (fun q => q.elim (fun h => absurd h.1 (np0 hP rfl)) (fun q => q.elim (fun h => absurd h.1 (np0 hP rfl)) (fun q => q.elim (fun h => absurd h.2 (ni rfl)) (fun q => q.elim (fun h => absurd h (p0p rfl)) (fun h => absurd h (p0p rfl))))))))))).trans (hn1)
  have kn_71 : Hid (c_55 P 1 = n1) := (hF_57 P 1 (fun q => q.elim (fun h => absurd h.1 (np0 hP rfl)) (fun q => q.elim (fun h => absurd h (np0 hP rfl)) (fun q => q.elim (fun h => absurd h.1 (np0 hP rfl)) (fun q => q.elim (fun h => absurd h.1 (np0 hP rfl)) (fun q => q.elim (fun h => absurd h.1 (np0 hP rfl)) (fun q => q.elim (fun h => absurd h.1 (np0 hP rfl)) (fun q => q.elim (fun h => absurd h.1 (np0 hP rfl)) (fun q => q.elim (fun h => absurd h.1 (np0 hP rfl)) (fun q => q.elim (fun h => absurd h.1 (np0 hP rfl)) (fun q => q.elim (fun h => absurd h.1 (np0 hP rfl)) (fun q => q.elim (fun h => absurd h (np0 hP rfl)) (fun h => absurd h (np0 hP rfl)))))))))))))).trans ((up_c (np0 hP rfl)).trans (hid kn_70))
  have h_72 : c_55 P 1 = n1 := (hid kn_71)
  have kn_73 : Hid (c_7 41 21 = n1) := (hF_9 41 21 (fun q => q.elim (fun h => absurd h.1 (nn rfl)) (fun q => q.elim (fun h => absurd h.1 (nn rfl)) (fun q => q.elim (fun h => absurd h.1 (nn rfl)) (fun q => q.elim (fun h => absurd h.1 (nn rfl)) (fun q => q.elim (fun h => absurd h.1 (nn rfl)) (fun q => q.elim (fun h => absurd h.1 (nn rfl)) (fun q => q.elim (fun h => absurd h.1 (pn0 hP rfl)) (fun q => q.elim (fun h => absurd h (pn hP rfl rfl)) (fun h => absurd h (pn hP rfl rfl))))))))))).trans (hm1)
  have kn_74 : Hid (c_55 41 21 = n1) := (hF_57 41 21 (fun q => q.elim (fun h => absurd h.2 (ni rfl)) (fun q => q.elim (fun h => absurd h (nn rfl)) (fun q => q.elim (fun h => absurd h.2 (ni rfl)) (fun q => q.elim (fun h => absurd h.2 (ni rfl)) (fun q => q.elim (fun h => absurd h.2 (ni rfl)) (fun q => q.elim (fun h => absurd h.2 (ni rfl)) (fun q => q.elim (fun h => absurd h.2 (ni rfl)) (fun q => q.elim (fun h => absurd h.2 (ni rfl)) (fun q => q.elim (fun h => absurd h.2 (ni rfl)) (fun q => q.elim (fun h => absurd h.2 (ni rfl)) (fun q => q.elim (fun h => absurd h (nn rfl)) (fun h => absurd h (nn rfl)))))))))))))).trans ((up_c (nn rfl)).trans (hid kn_73))
  have h_75 : c_55 41 21 = n1 := (hid kn_74)
  have kn_76 : Hid (c_7 P 2 = n2) := (hF_9 P 2 (fun q => q.elim (fun h => absurd h.1 (np0 hP rfl)) (fun q => q.elim (fun h => absurd h.1 (np0 hP rfl)) (fun q => q.elim (fun h => absurd h.1 (np0 hP rfl)) (fun q => q.elim (fun h => absurd h.1 (np0 hP rfl)) (fun q => q.elim (fun h => absurd h.1 (np0 hP rfl)) (fun q => q.elim (fun h => absurd h.1 (np0 hP rfl)) (fun q => q.elim (fun h => absurd h.2 (ni rfl)) (fun q => q.elim (fun h => absurd h (p0p rfl)) (fun h => absurd h (p0p rfl))))))))))).trans (hn2)
  have kn_77 : Hid (c_55 P 2 = n2) := (hF_57 P 2 (fun q => q.elim (fun h => absurd h.1 (np0 hP rfl)) (fun q => q.elim (fun h => absurd h (np0 hP rfl)) (fun q => q.elim (fun h => absurd h.1 (np0 hP rfl)) (fun q => q.elim (fun h => absurd h.1 (np0 hP rfl)) (fun q => q.elim (fun h => absurd h.1 (np0 hP rfl)) (fun q => q.elim (fun h => absurd h.1 (np0 hP rfl)) (fun q => q.elim (fun h => absurd h.1 (np0 hP rfl)) (fun q => q.elim (fun h => absurd h.1 (np0 hP rfl)) (fun q => q.elim (fun h => absurd h.1 (np0 hP rfl)) (fun q => q.elim (fun h => absurd h.1 (np0 hP rfl)) (fun q => q.elim (fun h => absurd h (np0 hP rfl)) (fun h => absurd h (np0 hP rfl)))))))))))))).trans ((up_c (np0 hP rfl)).trans (hid kn_76))
  have h_78 : c_55 P 2 = n2 := (hid kn_77)
  have kn_79 : Hid (c_7 41 22 = n2) := (hF_9 41 22 (fun q => q.elim (fun h => absurd h.1 (nn rfl)) (fun q => q.elim (fun h => absurd h.1 (nn rfl)) (fun q => q.elim (fun h => absurd h.1 (nn rfl)) (fun q => q.elim (fun h => absurd h.1 (nn rfl)) (fun q => q.elim (fun h => absurd h.1 (nn rfl)) (fun q => q.elim (fun h => absurd h.1 (nn rfl)) (fun q => q.elim (fun h => absurd h.1 (pn0 hP rfl)) (fun q => q.elim (fun h => absurd h (pn hP rfl rfl)) (fun h => absurd h (pn hP rfl rfl))))))))))).trans (hm2)
  have kn_80 : Hid (c_55 41 22 = n2) := (hF_57 41 22 (fun q => q.elim (fun h => absurd h.2 (ni rfl)) (fun q => q.elim (fun h => absurd h (nn rfl)) (fun q => q.elim (fun h => absurd h.2 (ni rfl)) (fun q => q.elim (fun h => absurd h.2 (ni rfl)) (fun q => q.elim (fun h => absurd h.2 (ni rfl)) (fun q => q.elim (fun h => absurd h.2 (ni rfl)) (fun q => q.elim (fun h => absurd h.2 (ni rfl)) (fun q => q.elim (fun h => absurd h.2 (ni rfl)) (fun q => q.elim (fun h => absurd h.2 (ni rfl)) (fun q => q.elim (fun h => absurd h.2 (ni rfl)) (fun q => q.elim (fun h => absurd h (nn rfl)) (fun h => absurd h (nn rfl)))))))))))))).trans ((up_c (nn rfl)).trans (hid kn_79))
  have h_81 : c_55 41 22 = n2 := (hid kn_80)
  have kn_82 : Hid (c_7 P 3 = n3) := (hF_9 P 3 (fun q => q.elim (fun h => absurd h.1 (np0 hP rfl)) (fun q => q.elim (fun h => absurd h.1 (np0 hP rfl)) (fun q => q.elim (fun h => absurd h.1 (np0 hP rfl)) (fun q => q.elim (fun h => absurd h.1 (np0 hP rfl)) (fun q => q.elim (fun h => absurd h.1 (np0 hP rfl)) (fun q => q.elim (fun h => absurd h.1 (np0 hP rfl)) (fun q => q.elim (fun h => absurd h.2 (ni rfl)) (fun q => q.elim (fun h => absurd h (p0p rfl)) (fun h => absurd h (p0p rfl))))))))))).trans (hn3)
  have kn_83 : Hid (c_55 P 3 = n3) := (hF_57 P 3 (fun q => q.elim (fun h => absurd h.1 (np0 hP rfl)) (fun q => q.elim (fun h => absurd h (np0 hP rfl)) (fun q => q.elim (fun h => absurd h.1 (np0 hP rfl)) (fun q => q.elim (fun h => absurd h.1 (np0 hP rfl)) (fun q => q.elim (fun h => absurd h.1 (np0 hP rfl)) (fun q => q.elim (fun h => absurd h.1 (np0 hP rfl)) (fun q => q.elim (fun h => absurd h.1 (np0 hP rfl)) (fun q => q.elim (fun h => absurd h.1 (np0 hP rfl)) (fun q => q.elim (fun h => absurd h.1 (np0 hP rfl)) (fun q => q.elim (fun h => absurd h.1 (np0 hP rfl)) (fun q => q.elim (fun h => absurd h (np0 hP rfl)) (fun h => absurd h (np0 hP rfl)))))))))))))).trans ((up_c (np0 hP rfl)).trans (hid kn_82))
  have h_84 : c_55 P 3 = n3 := (hid kn_83)
  have kn_85 : Hid (c_7 41 23 = n3) := (hF_9 41 23 (fun q => q.elim (fun h => absurd h.1 (nn rfl)) (fun q => q.elim (fun h => absurd h.1 (nn rfl)) (fun q => q.elim (fun h => absurd h.1 (nn rfl)) (fun q => q.elim (fun h => absurd h.1 (nn rfl)) (fun q => q.elim (fun h => absurd h.1 (nn rfl)) (fun q => q.elim (fun h => absurd h.1 (nn rfl)) (fun q => q.elim (fun h => absurd h.1 (pn0 hP rfl)) (fun q => q.elim (fun h => absurd h (pn hP rfl rfl)) (fun h => absurd h (pn hP rfl rfl))))))))))).trans (hm3)
  have kn_86 : Hid (c_55 41 23 = n3) := (hF_57 41 23 (fun q => q.elim (fun h => absurd h.2 (ni rfl)) (fun q => q.elim (fun h => absurd h (nn rfl)) (fun q => q.elim (fun h => absurd h.2 (ni rfl)) (fun q => q.elim (fun h => absurd h.2 (ni rfl)) (fun q => q.elim (fun h => absurd h.2 (ni rfl)) (fun q => q.elim (fun h => absurd h.2 (ni rfl)) (fun q => q.elim (fun h => absurd h.2 (ni rfl)) (fun q => q.elim (fun h => absurd h.2 (ni rfl)) (fun q => q.elim (fun h => absurd h.2 (ni rfl)) (fun q => q.elim (fun h => absurd h.2 (ni rfl)) (fun q => q.elim (fun h => absurd h (nn rfl)) (fun h => absurd h (nn rfl)))))))))))))).trans ((up_c (nn rfl)).trans (hid kn_85))
  have h_87 : c_55 41 23 = n3 := (hid kn_86)
  exact K P Q c_55 0 (by decide) hI_56 ⟨by omega, ub_fr hU (fun j => (hF_57 2 j (fun q => q.elim (fun h => absurd h.1 (nn rfl)) (fun q => q.elim (fun h => absurd h (nn rfl)) (fun q => q.elim (fun h => absurd h.1 (nn rfl)) (fun q => q.elim (fun h => absurd h.1 (nn rfl)) (fun q => q.elim (fun h => absurd h.1 (nn rfl)) (fun q => q.elim (fun h => absurd h.1 (nn rfl)) (fun q => q.elim (fun h => absurd h.1 (nn rfl)) (fun q => q.elim (fun h => absurd h.1 (nn rfl)) (fun q => q.elim (fun h => absurd h.1 (nn rfl)) (fun q => q.elim (fun h => absurd h.1 (nn rfl)) (fun q => q.elim (fun h => absurd h (nn rfl)) (fun h => absurd h (nn rfl)))))))))))))).trans ((up_c (nn rfl)).trans (hF_9 2 j (fun q => q.elim (fun h => absurd h.1 (nn rfl)) (fun q => q.elim (fun h => absurd h.1 (nn rfl)) (fun q => q.elim (fun h => absurd h.1 (nn rfl)) (fun q => q.elim (fun h => absurd h.1 (nn rfl)) (fun q => q.elim (fun h => absurd h.1 (nn rfl)) (fun q => q.elim (fun h => absurd h.1 (nn rfl)) (fun q => q.elim (fun h => absurd h.1 (pn0 hP rfl)) (fun q => q.elim (fun h => absurd h (pn hP rfl rfl)) (fun h => absurd h (pn hP rfl rfl))))))))))))) (fun j => (hF_57 43 j (fun q => q.elim (fun h => absurd h.1 (nn rfl)) (fun q => q.elim (fun h => absurd h (nn rfl)) (fun q => q.elim (fun h => absurd h.1 (nn rfl)) (fun q => q.elim (fun h => absurd h.1 (nn rfl)) (fun q => q.elim (fun h => absurd h.1 (nn rfl)) (fun q => q.elim (fun h => absurd h.1 (nn rfl)) (fun q => q.elim (fun h => absurd h.1 (nn rfl)) (fun q => q.elim (fun h => absurd h.1 (nn rfl)) (fun q => q.elim (fun h => absurd h.1 (nn rfl)) (fun q => q.elim (fun h => absurd h.1 (nn rfl)) (fun q => q.elim (fun h => absurd h (nn rfl)) (fun h => absurd h (nn rfl)))))))))))))).trans ((up_c (nn rfl)).trans (hF_9 43 j (fun q => q.elim (fun h => absurd h.1 (nn rfl)) (fun q => q.elim (fun h => absurd h.1 (nn rfl)) (fun q => q.elim (fun h => absurd h.1 (nn rfl)) (fun q => q.elim (fun h => absurd h.1 (nn rfl)) (fun q => q.elim (fun h => absurd h.1 (nn rfl)) (fun q => q.elim (fun h => absurd h.1 (nn rfl)) (fun q => q.elim (fun h => absurd h.1 (pn0 hP rfl)) (fun q => q.elim (fun h => absurd h (pn hP rfl rfl)) (fun h => absurd h (pn hP rfl rfl))))))))))))), ⟨by omega, by omega, by omega, by omega⟩⟩

set_option maxRecDepth 100000 in
set_option maxHeartbeats 4000000 in
theorem o_6 {xs : Nat → Int32} {L i0 d nc ns P Q : Nat} {c : ME} {Z : AR → Prop} (hi : i0 + 8 ≤ L) (hL : L ≤ 100000) (hI : Iv 0 (-1) P Q c) (hR : Rq P c) (K : ∀ (P2 Q2 : Nat) (c2 : ME) (e : Nat), e ≤ 1 → Iv 0 (-1) P2 Q2 c2 → (Rq P2 c2) → Wp (a_scr L xs) (d + 90) 296 1844 [(4, vi (i0 : Int)), (3, .ref 67), (2, .ref 41), (1, .ref 0), (0, .ref a_SC)] [] (Wd P2 Q2 P2 P2 c2) (nc + e) (ns + 6 * e) Z) : Wp (a_scr L xs) (d + 90) 296 469 [(4, vi (i0 : Int)), (3, .ref 67), (2, .ref 41), (1, .ref 0), (0, .ref a_SC)] [] (Wd P Q P P c) nc ns Z := by
  obtain ⟨x1, hx1⟩ : ∃ z, (xs (i0 + 1)).toInt = z := ⟨_, rfl⟩
  have x1r := c_rng (xs (i0 + 1))
  rw [hx1] at x1r
  obtain ⟨x2, hx2⟩ : ∃ z, (xs (i0 + 2)).toInt = z := ⟨_, rfl⟩
  have x2r := c_rng (xs (i0 + 2))
  rw [hx2] at x2r
  obtain ⟨x3, hx3⟩ : ∃ z, (xs (i0 + 3)).toInt = z := ⟨_, rfl⟩
  have x3r := c_rng (xs (i0 + 3))
  rw [hx3] at x3r
  obtain ⟨x4, hx4⟩ : ∃ z, (xs (i0 + 4)).toInt = z := ⟨_, rfl⟩
  have x4r := c_rng (xs (i0 + 4))
  rw [hx4] at x4r
  obtain ⟨x5, hx5⟩ : ∃ z, (xs (i0 + 5)).toInt = z := ⟨_, rfl⟩
  have x5r := c_rng (xs (i0 + 5))
  rw [hx5] at x5r
  obtain ⟨x6, hx6⟩ : ∃ z, (xs (i0 + 6)).toInt = z := ⟨_, rfl⟩
  have x6r := c_rng (xs (i0 + 6))
  rw [hx6] at x6r
  obtain ⟨x7, hx7⟩ : ∃ z, (xs (i0 + 7)).toInt = z := ⟨_, rfl⟩
  have x7r := c_rng (xs (i0 + 7))
  rw [hx7] at x7r
  have hT := rl_t hR
  have hU := rl_u hR
  have hP := iv_P hI
  obtain ⟨n0, hn0⟩ : ∃ z, c P 0 = z := ⟨_, rfl⟩
  have hm0 : c 41 20 = n0 := (rl_nums hR).1.symm.trans hn0
  have hr0 := ir_p0_0 hI hP
  rw [hn0] at hr0
  obtain ⟨n1, hn1⟩ : ∃ z, c P 1 = z := ⟨_, rfl⟩
  have hm1 : c 41 21 = n1 := (rl_nums hR).2.1.symm.trans hn1
  have hr1 := ir_p0_1 hI hP
  rw [hn1] at hr1
  obtain ⟨n2, hn2⟩ : ∃ z, c P 2 = z := ⟨_, rfl⟩
  have hm2 : c 41 22 = n2 := (rl_nums hR).2.2.1.symm.trans hn2
  have hr2 := ir_p0_2 hI hP
  rw [hn2] at hr2
  obtain ⟨n3, hn3⟩ : ∃ z, c P 3 = z := ⟨_, rfl⟩
  have hm3 : c 41 23 = n3 := (rl_nums hR).2.2.2.symm.trans hn3
  have hr3 := ir_p0_3 hI hP
  rw [hn3] at hr3
  have hP := iv_P hI
  have hQ := iv_Q hI
  refine q_aload_n rfl rfl ?_
  refine v_cv rfl rfl rfl rfl (by decide) ⟨⟨rfl, rfl⟩, by decide, rfl⟩ (Nat.le_of_ble_eq_true rfl) (Nat.le_of_ble_eq_true rfl) (s_89 hI (fun y_1 hy_1 => ?_))
  refine bk_inl ?_
  refine q_pop rfl rfl ?_
  refine q_aload_n rfl rfl ?_
  refine v_cv rfl rfl rfl rfl (by decide) ⟨⟨rfl, rfl⟩, by decide, rfl⟩ (Nat.le_of_ble_eq_true rfl) (Nat.le_of_ble_eq_true rfl) (s_165 hI (fun c_2 y_5 hI_3 hF_4 hy_5 => ?_))
  refine bk_inl ?_
  refine q_pop rfl rfl ?_
  refine q_goto (t := 1844) rfl (by decide) ?_
  refine Wp_ls [(4, vi (i0 : Int)), (3, .ref 67), (2, .ref 41), (1, .ref 0), (0, .ref a_SC)] (lsub_cons rfl (lsub_cons rfl (lsub_cons rfl (lsub_cons rfl (lsub_cons rfl lsub_nil))))) ?_
  have h_6 := ir_1_3 hI
  have kn_7 : Hid (c_2 1 3 = c 1 3) := hF_4 1 3 (fun h => absurd h.1 (nn rfl))
  have h_8 : c_2 1 3 = c 1 3 := (hid kn_7)
  have h_9 := ir_41_2 hI
  have kn_10 : Hid (c_2 41 2 = c 41 2) := hF_4 41 2 (fun h => absurd h.2 (ni rfl))
  have h_11 : c_2 41 2 = c 41 2 := (hid kn_10)
  have kn_12 : Hid (c_2 P 0 = n0) := (hF_4 P 0 (fun h => absurd h.1 (np0 hP rfl))).trans (hn0)
  have h_13 : c_2 P 0 = n0 := (hid kn_12)
  have kn_14 : Hid (c_2 41 20 = n0) := (hF_4 41 20 (fun h => absurd h.2 (ni rfl))).trans (hm0)
  have h_15 : c_2 41 20 = n0 := (hid kn_14)
  have kn_16 : Hid (c_2 P 1 = n1) := (hF_4 P 1 (fun h => absurd h.1 (np0 hP rfl))).trans (hn1)
  have h_17 : c_2 P 1 = n1 := (hid kn_16)
  have kn_18 : Hid (c_2 41 21 = n1) := (hF_4 41 21 (fun h => absurd h.2 (ni rfl))).trans (hm1)
  have h_19 : c_2 41 21 = n1 := (hid kn_18)
  have kn_20 : Hid (c_2 P 2 = n2) := (hF_4 P 2 (fun h => absurd h.1 (np0 hP rfl))).trans (hn2)
  have h_21 : c_2 P 2 = n2 := (hid kn_20)
  have kn_22 : Hid (c_2 41 22 = n2) := (hF_4 41 22 (fun h => absurd h.2 (ni rfl))).trans (hm2)
  have h_23 : c_2 41 22 = n2 := (hid kn_22)
  have kn_24 : Hid (c_2 P 3 = n3) := (hF_4 P 3 (fun h => absurd h.1 (np0 hP rfl))).trans (hn3)
  have h_25 : c_2 P 3 = n3 := (hid kn_24)
  have kn_26 : Hid (c_2 41 23 = n3) := (hF_4 41 23 (fun h => absurd h.2 (ni rfl))).trans (hm3)
  have h_27 : c_2 41 23 = n3 := (hid kn_26)
  exact K P Q c_2 0 (by decide) hI_3 ⟨by omega, ub_fr hU (fun j => hF_4 2 j (fun h => absurd h.1 (nn rfl))) (fun j => hF_4 43 j (fun h => absurd h.1 (nn rfl))), ⟨by omega, by omega, by omega, by omega⟩⟩

set_option maxRecDepth 100000 in
set_option maxHeartbeats 4000000 in
theorem o_7 {xs : Nat → Int32} {L i0 d nc ns P Q : Nat} {c : ME} {Z : AR → Prop} (hi : i0 + 8 ≤ L) (hL : L ≤ 100000) (hI : Iv 0 (-1) P Q c) (hR : Rq P c) (K : ∀ (P2 Q2 : Nat) (c2 : ME) (e : Nat), e ≤ 1 → Iv 0 (-1) P2 Q2 c2 → (Rq P2 c2) → Wp (a_scr L xs) (d + 90) 296 1844 [(4, vi (i0 : Int)), (3, .ref 67), (2, .ref 41), (1, .ref 0), (0, .ref a_SC)] [] (Wd P2 Q2 P2 P2 c2) (nc + e) (ns + 6 * e) Z) : Wp (a_scr L xs) (d + 90) 296 482 [(4, vi (i0 : Int)), (3, .ref 67), (2, .ref 41), (1, .ref 0), (0, .ref a_SC)] [] (Wd P Q P P c) nc ns Z := by
  obtain ⟨x1, hx1⟩ : ∃ z, (xs (i0 + 1)).toInt = z := ⟨_, rfl⟩
  have x1r := c_rng (xs (i0 + 1))
  rw [hx1] at x1r
  obtain ⟨x2, hx2⟩ : ∃ z, (xs (i0 + 2)).toInt = z := ⟨_, rfl⟩
  have x2r := c_rng (xs (i0 + 2))
  rw [hx2] at x2r
  obtain ⟨x3, hx3⟩ : ∃ z, (xs (i0 + 3)).toInt = z := ⟨_, rfl⟩
  have x3r := c_rng (xs (i0 + 3))
  rw [hx3] at x3r
  obtain ⟨x4, hx4⟩ : ∃ z, (xs (i0 + 4)).toInt = z := ⟨_, rfl⟩
  have x4r := c_rng (xs (i0 + 4))
  rw [hx4] at x4r
  obtain ⟨x5, hx5⟩ : ∃ z, (xs (i0 + 5)).toInt = z := ⟨_, rfl⟩
  have x5r := c_rng (xs (i0 + 5))
  rw [hx5] at x5r
  obtain ⟨x6, hx6⟩ : ∃ z, (xs (i0 + 6)).toInt = z := ⟨_, rfl⟩
  have x6r := c_rng (xs (i0 + 6))
  rw [hx6] at x6r
  obtain ⟨x7, hx7⟩ : ∃ z, (xs (i0 + 7)).toInt = z := ⟨_, rfl⟩
  have x7r := c_rng (xs (i0 + 7))
  rw [hx7] at x7r
  have hT := rl_t hR
  have hU := rl_u hR
  have hP := iv_P hI
  obtain ⟨n0, hn0⟩ : ∃ z, c P 0 = z := ⟨_, rfl⟩
  have hm0 : c 41 20 = n0 := (rl_nums hR).1.symm.trans hn0
  have hr0 := ir_p0_0 hI hP
  rw [hn0] at hr0
  obtain ⟨n1, hn1⟩ : ∃ z, c P 1 = z := ⟨_, rfl⟩
  have hm1 : c 41 21 = n1 := (rl_nums hR).2.1.symm.trans hn1
  have hr1 := ir_p0_1 hI hP
  rw [hn1] at hr1
  obtain ⟨n2, hn2⟩ : ∃ z, c P 2 = z := ⟨_, rfl⟩
  have hm2 : c 41 22 = n2 := (rl_nums hR).2.2.1.symm.trans hn2
  have hr2 := ir_p0_2 hI hP
  rw [hn2] at hr2
  obtain ⟨n3, hn3⟩ : ∃ z, c P 3 = z := ⟨_, rfl⟩
  have hm3 : c 41 23 = n3 := (rl_nums hR).2.2.2.symm.trans hn3
  have hr3 := ir_p0_3 hI hP
  rw [hn3] at hr3
  have hP := iv_P hI
  have hQ := iv_Q hI
  refine q_aload_n rfl rfl ?_
  have h_1 := ir_3_3 hI
  refine v_cv rfl rfl rfl rfl (by decide) ⟨⟨rfl, rfl⟩, by decide, rfl⟩ (Nat.le_of_ble_eq_true rfl) (Nat.le_of_ble_eq_true rfl) (s_139 hI (fun c_2 y_5 hI_3 hF_4 hy_5 h_6 => ?_))
  refine bk_inl ?_
  have h_7 := ir_3_3 hI_3
  refine q_pop rfl rfl ?_
  refine q_aload_n rfl rfl ?_
  have h_8 := ir_41_35 hI
  have kn_9 : Hid (c_2 41 35 = c 41 35) := hF_4 41 35 (fun q => q.elim (fun h => absurd h.1 (nn rfl)) (fun q => q.elim (fun h => absurd h.1 (nn rfl)) (fun h => absurd h (nn rfl))))
  have h_10 : c_2 41 35 = c 41 35 := (hid kn_9)
  refine v_cv rfl rfl rfl rfl (by decide) ⟨⟨rfl, rfl⟩, by decide, rfl⟩ (Nat.le_of_ble_eq_true rfl) (Nat.le_of_ble_eq_true rfl) (s_208 hI_3 (fun c_11 y_14 hI_12 hF_13 hy_14 h_15 => ?_))
  refine bk_inl ?_
  have h_16 := ir_41_35 hI_12
  refine q_pop rfl rfl ?_
  refine q_goto (t := 1844) rfl (by decide) ?_
  refine Wp_ls [(4, vi (i0 : Int)), (3, .ref 67), (2, .ref 41), (1, .ref 0), (0, .ref a_SC)] (lsub_cons rfl (lsub_cons rfl (lsub_cons rfl (lsub_cons rfl (lsub_cons rfl lsub_nil))))) ?_
  have h_17 := ir_1_3 hI
  have kn_18 : Hid (c_2 1 3 = c 1 3) := hF_4 1 3 (fun q => q.elim (fun h => absurd h.1 (nn rfl)) (fun q => q.elim (fun h => absurd h.1 (nn rfl)) (fun h => absurd h (nn rfl))))
  have kn_19 : Hid (c_11 1 3 = c 1 3) := (hF_13 1 3 (fun q => q.elim (fun h => absurd h.1 (nn rfl)) (fun q => q.elim (fun h => absurd h.1 (nn rfl)) (fun q => q.elim (fun h => absurd h.1 (nn rfl)) (fun h => absurd h (nn rfl)))))).trans (hid kn_18)
  have h_20 : c_11 1 3 = c 1 3 := (hid kn_19)
  have h_21 := ir_41_2 hI
  have kn_22 : Hid (c_2 41 2 = c 41 2) := hF_4 41 2 (fun q => q.elim (fun h => absurd h.1 (nn rfl)) (fun q => q.elim (fun h => absurd h.1 (nn rfl)) (fun h => absurd h (nn rfl))))
  have kn_23 : Hid (c_11 41 2 = c 41 2) := (hF_13 41 2 (fun q => q.elim (fun h => absurd h.2 (ni rfl)) (fun q => q.elim (fun h => absurd h.2 (ni rfl)) (fun q => q.elim (fun h => absurd h.2 (ni rfl)) (fun h => absurd h (nn rfl)))))).trans (hid kn_22)
  have h_24 : c_11 41 2 = c 41 2 := (hid kn_23)
  have kn_25 : Hid (c_2 P 0 = n0) := (hF_4 P 0 (fun q => q.elim (fun h => absurd h.1 (np0 hP rfl)) (fun q => q.elim (fun h => absurd h.1 (np0 hP rfl)) (fun h => absurd h (np0 hP rfl))))).trans (hn0)
  have kn_26 : Hid (c_11 P 0 = n0) := (hF_13 P 0 (fun q => q.elim (fun h => absurd h.1 (np0 hP rfl)) (fun q => q.elim (fun h => absurd h.1 (np0 hP rfl)) (fun q => q.elim (fun h => absurd h.1 (np0 hP rfl)) (fun h => absurd h (np0 hP rfl)))))).trans (hid kn_25)
  have h_27 : c_11 P 0 = n0 := (hid kn_26)
  have kn_28 : Hid (c_2 41 20 = n0) := (hF_4 41 20 (fun q => q.elim (fun h => absurd h.1 (nn rfl)) (fun q => q.elim (fun h => absurd h.1 (nn rfl)) (fun h => absurd h (nn rfl))))).trans (hm0)
  have kn_29 : Hid (c_11 41 20 = n0) := (hF_13 41 20 (fun q => q.elim (fun h => absurd h.2 (ni rfl)) (fun q => q.elim (fun h => absurd h.2 (ni rfl)) (fun q => q.elim (fun h => absurd h.2 (ni rfl)) (fun h => absurd h (nn rfl)))))).trans (hid kn_28)
  have h_30 : c_11 41 20 = n0 := (hid kn_29)
  have kn_31 : Hid (c_2 P 1 = n1) := (hF_4 P 1 (fun q => q.elim (fun h => absurd h.1 (np0 hP rfl)) (fun q => q.elim (fun h => absurd h.1 (np0 hP rfl)) (fun h => absurd h (np0 hP rfl))))).trans (hn1)
  have kn_32 : Hid (c_11 P 1 = n1) := (hF_13 P 1 (fun q => q.elim (fun h => absurd h.1 (np0 hP rfl)) (fun q => q.elim (fun h => absurd h.1 (np0 hP rfl)) (fun q => q.elim (fun h => absurd h.1 (np0 hP rfl)) (fun h => absurd h (np0 hP rfl)))))).trans (hid kn_31)
  have h_33 : c_11 P 1 = n1 := (hid kn_32)
  have kn_34 : Hid (c_2 41 21 = n1) := (hF_4 41 21 (fun q => q.elim (fun h => absurd h.1 (nn rfl)) (fun q => q.elim (fun h => absurd h.1 (nn rfl)) (fun h => absurd h (nn rfl))))).trans (hm1)
  have kn_35 : Hid (c_11 41 21 = n1) := (hF_13 41 21 (fun q => q.elim (fun h => absurd h.2 (ni rfl)) (fun q => q.elim (fun h => absurd h.2 (ni rfl)) (fun q => q.elim (fun h => absurd h.2 (ni rfl)) (fun h => absurd h (nn rfl)))))).trans (hid kn_34)
  have h_36 : c_11 41 21 = n1 := (hid kn_35)
  have kn_37 : Hid (c_2 P 2 = n2) := (hF_4 P 2 (fun q => q.elim (fun h => absurd h.1 (np0 hP rfl)) (fun q => q.elim (fun h => absurd h.1 (np0 hP rfl)) (fun h => absurd h (np0 hP rfl))))).trans (hn2)
  have kn_38 : Hid (c_11 P 2 = n2) := (hF_13 P 2 (fun q => q.elim (fun h => absurd h.1 (np0 hP rfl)) (fun q => q.elim (fun h => absurd h.1 (np0 hP rfl)) (fun q => q.elim (fun h => absurd h.1 (np0 hP rfl)) (fun h => absurd h (np0 hP rfl)))))).trans (hid kn_37)
  have h_39 : c_11 P 2 = n2 := (hid kn_38)
  have kn_40 : Hid (c_2 41 22 = n2) := (hF_4 41 22 (fun q => q.elim (fun h => absurd h.1 (nn rfl)) (fun q => q.elim (fun h => absurd h.1 (nn rfl)) (fun h => absurd h (nn rfl))))).trans (hm2)
  have kn_41 : Hid (c_11 41 22 = n2) := (hF_13 41 22 (fun q => q.elim (fun h => absurd h.2 (ni rfl)) (fun q => q.elim (fun h => absurd h.2 (ni rfl)) (fun q => q.elim (fun h => absurd h.2 (ni rfl)) (fun h => absurd h (nn rfl)))))).trans (hid kn_40)
  have h_42 : c_11 41 22 = n2 := (hid kn_41)
  have kn_43 : Hid (c_2 P 3 = n3) := (hF_4 P 3 (fun q => q.elim (fun h => absurd h.1 (np0 hP rfl)) (fun q => q.elim (fun h => absurd h.1 (np0 hP rfl)) (fun h => absurd h (np0 hP rfl))))).trans (hn3)
  have kn_44 : Hid (c_11 P 3 = n3) := (hF_13 P 3 (fun q => q.elim (fun h => absurd h.1 (np0 hP rfl)) (fun q => q.elim (fun h => absurd h.1 (np0 hP rfl)) (fun q => q.elim (fun h => absurd h.1 (np0 hP rfl)) (fun h => absurd h (np0 hP rfl)))))).trans (hid kn_43)
  have h_45 : c_11 P 3 = n3 := (hid kn_44)
  have kn_46 : Hid (c_2 41 23 = n3) := (hF_4 41 23 (fun q => q.elim (fun h => absurd h.1 (nn rfl)) (fun q => q.elim (fun h => absurd h.1 (nn rfl)) (fun h => absurd h (nn rfl))))).trans (hm3)
  have kn_47 : Hid (c_11 41 23 = n3) := (hF_13 41 23 (fun q => q.elim (fun h => absurd h.2 (ni rfl)) (fun q => q.elim (fun h => absurd h.2 (ni rfl)) (fun q => q.elim (fun h => absurd h.2 (ni rfl)) (fun h => absurd h (nn rfl)))))).trans (hid kn_46)
  have h_48 : c_11 41 23 = n3 := (hid kn_47)
  exact K P Q c_11 0 (by decide) hI_12 ⟨by omega, ub_fr hU (fun j => (hF_13 2 j (fun q => q.elim (fun h => absurd h.1 (nn rfl)) (fun q => q.elim (fun h => absurd h.1 (nn rfl)) (fun q => q.elim (fun h => absurd h.1 (nn rfl)) (fun h => absurd h (nn rfl)))))).trans (hF_4 2 j (fun q => q.elim (fun h => absurd h.1 (nn rfl)) (fun q => q.elim (fun h => absurd h.1 (nn rfl)) (fun h => absurd h (nn rfl)))))) (fun j => (hF_13 43 j (fun q => q.elim (fun h => absurd h.1 (nn rfl)) (fun q => q.elim (fun h => absurd h.1 (nn rfl)) (fun q => q.elim (fun h => absurd h.1 (nn rfl)) (fun h => absurd h (nn rfl)))))).trans (hF_4 43 j (fun q => q.elim (fun h => absurd h.1 (nn rfl)) (fun q => q.elim (fun h => absurd h.1 (nn rfl)) (fun h => absurd h (nn rfl)))))), ⟨by omega, by omega, by omega, by omega⟩⟩

set_option maxRecDepth 100000 in
set_option maxHeartbeats 4000000 in
theorem o_8 {xs : Nat → Int32} {L i0 d nc ns P Q : Nat} {c : ME} {Z : AR → Prop} (hi : i0 + 8 ≤ L) (hL : L ≤ 100000) (hI : Iv 0 (-1) P Q c) (hR : Rq P c) (K : ∀ (P2 Q2 : Nat) (c2 : ME) (e : Nat), e ≤ 1 → Iv 0 (-1) P2 Q2 c2 → (Rq P2 c2) → Wp (a_scr L xs) (d + 90) 296 1844 [(4, vi (i0 : Int)), (3, .ref 67), (2, .ref 41), (1, .ref 0), (0, .ref a_SC)] [] (Wd P2 Q2 P2 P2 c2) (nc + e) (ns + 6 * e) Z) : Wp (a_scr L xs) (d + 90) 296 495 [(4, vi (i0 : Int)), (3, .ref 67), (2, .ref 41), (1, .ref 0), (0, .ref a_SC)] [] (Wd P Q P P c) nc ns Z := by
  obtain ⟨x1, hx1⟩ : ∃ z, (xs (i0 + 1)).toInt = z := ⟨_, rfl⟩
  have x1r := c_rng (xs (i0 + 1))
  rw [hx1] at x1r
  obtain ⟨x2, hx2⟩ : ∃ z, (xs (i0 + 2)).toInt = z := ⟨_, rfl⟩
  have x2r := c_rng (xs (i0 + 2))
  rw [hx2] at x2r
  obtain ⟨x3, hx3⟩ : ∃ z, (xs (i0 + 3)).toInt = z := ⟨_, rfl⟩
  have x3r := c_rng (xs (i0 + 3))
  rw [hx3] at x3r
  obtain ⟨x4, hx4⟩ : ∃ z, (xs (i0 + 4)).toInt = z := ⟨_, rfl⟩
  have x4r := c_rng (xs (i0 + 4))
  rw [hx4] at x4r
  obtain ⟨x5, hx5⟩ : ∃ z, (xs (i0 + 5)).toInt = z := ⟨_, rfl⟩
  have x5r := c_rng (xs (i0 + 5))
  rw [hx5] at x5r
  obtain ⟨x6, hx6⟩ : ∃ z, (xs (i0 + 6)).toInt = z := ⟨_, rfl⟩
  have x6r := c_rng (xs (i0 + 6))
  rw [hx6] at x6r
  obtain ⟨x7, hx7⟩ : ∃ z, (xs (i0 + 7)).toInt = z := ⟨_, rfl⟩
  have x7r := c_rng (xs (i0 + 7))
  rw [hx7] at x7r
  have hT := rl_t hR
  have hU := rl_u hR
  have hP := iv_P hI
  obtain ⟨n0, hn0⟩ : ∃ z, c P 0 = z := ⟨_, rfl⟩
  have hm0 : c 41 20 = n0 := (rl_nums hR).1.symm.trans hn0
  have hr0 := ir_p0_0 hI hP
  rw [hn0] at hr0
  obtain ⟨n1, hn1⟩ : ∃ z, c P 1 = z := ⟨_, rfl⟩
  have hm1 : c 41 21 = n1 := (rl_nums hR).2.1.symm.trans hn1
  have hr1 := ir_p0_1 hI hP
  rw [hn1] at hr1
  obtain ⟨n2, hn2⟩ : ∃ z, c P 2 = z := ⟨_, rfl⟩
  have hm2 : c 41 22 = n2 := (rl_nums hR).2.2.1.symm.trans hn2
  have hr2 := ir_p0_2 hI hP
  rw [hn2] at hr2
  obtain ⟨n3, hn3⟩ : ∃ z, c P 3 = z := ⟨_, rfl⟩
  have hm3 : c 41 23 = n3 := (rl_nums hR).2.2.2.symm.trans hn3
  have hr3 := ir_p0_3 hI hP
  rw [hn3] at hr3
  have hP := iv_P hI
  have hQ := iv_Q hI
  refine q_aload_n rfl rfl ?_
  refine q_aload_n rfl rfl ?_
  refine q_iload rfl rfl ?_
  refine q_iconst rfl ?_
  refine v_iadd (v := (i0 : Int) + 1) rfl (by omega) ?_
  refine v_scr (j := i0 + 1) rfl (by omega) (by omega) hL hx1 ?_
  refine q_aload_n rfl rfl ?_
  refine q_call rfl rfl rfl rfl ?_
  refine q_aload_n rfl rfl ?_
  refine q_iconst rfl ?_
  refine q_aload_n rfl rfl ?_
  refine q_iload_n rfl rfl ?_
  refine v_cv rfl rfl rfl rfl (by decide) ⟨⟨rfl, rfl⟩, by decide, rfl⟩ (Nat.le_of_ble_eq_true rfl) (Nat.le_of_ble_eq_true rfl) (s_90 (a1 := x1) hI (show (-2147483648) ≤ x1 ∧ x1 ≤ 2147483647 from by omega) (fun c_1 hI_2 hF_3 => ?_) (fun c_4 y_7 hI_5 hF_6 hy_7 => ?_))
  · skip
    refine bk_thr (z := Int32.ofInt 1) rfl ⟨_, _, rfl⟩ rfl ?_
    refine bk_inl ?_
    refine q_istore rfl (by decide) ?_
    refine q_aload_n rfl rfl ?_
    refine q_aload_n rfl rfl ?_
    refine q_iload rfl rfl ?_
    refine q_iconst rfl ?_
    refine v_iadd (v := (i0 : Int) + 1) rfl (by omega) ?_
    refine v_scr (j := i0 + 1) rfl (by omega) (by omega) hL hx1 ?_
    refine v_cv rfl rfl rfl rfl (by decide) ⟨⟨rfl, rfl⟩, by decide, rfl⟩ (Nat.le_of_ble_eq_true rfl) (Nat.le_of_ble_eq_true rfl) (s_211 (a1 := x1) hI_2 (show (-2147483648) ≤ x1 ∧ x1 ≤ 2147483647 from by omega) (fun c_8 y_11 hI_9 hF_10 hy_11 => ?_))
    refine bk_inl ?_
    refine q_istore rfl (by decide) ?_
    refine q_goto (t := 1844) rfl (by decide) ?_
    refine Wp_ls [(4, vi (i0 : Int)), (3, .ref 67), (2, .ref 41), (1, .ref 0), (0, .ref a_SC)] (lsub_cons rfl (lsub_cons rfl (lsub_cons rfl (lsub_cons rfl (lsub_cons rfl lsub_nil))))) ?_
    have h_12 := ir_1_3 hI
    have kn_13 : Hid (c_1 1 3 = c 1 3) := hF_3 1 3 (fun h => absurd h.1 (nn rfl))
    have kn_14 : Hid (c_8 1 3 = c 1 3) := (hF_10 1 3 (fun q => q.elim (fun h => absurd h.1 (nn rfl)) (fun q => q.elim (fun h => absurd h (nn rfl)) (fun h => absurd h (nn rfl))))).trans (hid kn_13)
    have h_15 : c_8 1 3 = c 1 3 := (hid kn_14)
    have h_16 := ir_41_2 hI
    have kn_17 : Hid (c_1 41 2 = c 41 2) := hF_3 41 2 (fun h => absurd h.1 (nn rfl))
    have kn_18 : Hid (c_8 41 2 = c 41 2) := (hF_10 41 2 (fun q => q.elim (fun h => absurd h.2 (ni rfl)) (fun q => q.elim (fun h => absurd h (nn rfl)) (fun h => absurd h (nn rfl))))).trans (hid kn_17)
    have h_19 : c_8 41 2 = c 41 2 := (hid kn_18)
    have kn_20 : Hid (c_1 P 0 = n0) := (hF_3 P 0 (fun h => absurd h.1 (np0 hP rfl))).trans (hn0)
    have kn_21 : Hid (c_8 P 0 = n0) := (hF_10 P 0 (fun q => q.elim (fun h => absurd h.1 (np0 hP rfl)) (fun q => q.elim (fun h => absurd h (np0 hP rfl)) (fun h => absurd h (np0 hP rfl))))).trans (hid kn_20)
    have h_22 : c_8 P 0 = n0 := (hid kn_21)
    have kn_23 : Hid (c_1 41 20 = n0) := (hF_3 41 20 (fun h => absurd h.1 (nn rfl))).trans (hm0)
    have kn_24 : Hid (c_8 41 20 = n0) := (hF_10 41 20 (fun q => q.elim (fun h => absurd h.2 (ni rfl)) (fun q => q.elim (fun h => absurd h (nn rfl)) (fun h => absurd h (nn rfl))))).trans (hid kn_23)
    have h_25 : c_8 41 20 = n0 := (hid kn_24)
    have kn_26 : Hid (c_1 P 1 = n1) := (hF_3 P 1 (fun h => absurd h.1 (np0 hP rfl))).trans (hn1)
    have kn_27 : Hid (c_8 P 1 = n1) := (hF_10 P 1 (fun q => q.elim (fun h => absurd h.1 (np0 hP rfl)) (fun q => q.elim (fun h => absurd h (np0 hP rfl)) (fun h => absurd h (np0 hP rfl))))).trans (hid kn_26)
    have h_28 : c_8 P 1 = n1 := (hid kn_27)
    have kn_29 : Hid (c_1 41 21 = n1) := (hF_3 41 21 (fun h => absurd h.1 (nn rfl))).trans (hm1)
    have kn_30 : Hid (c_8 41 21 = n1) := (hF_10 41 21 (fun q => q.elim (fun h => absurd h.2 (ni rfl)) (fun q => q.elim (fun h => absurd h (nn rfl)) (fun h => absurd h (nn rfl))))).trans (hid kn_29)
    have h_31 : c_8 41 21 = n1 := (hid kn_30)
    have kn_32 : Hid (c_1 P 2 = n2) := (hF_3 P 2 (fun h => absurd h.1 (np0 hP rfl))).trans (hn2)
    have kn_33 : Hid (c_8 P 2 = n2) := (hF_10 P 2 (fun q => q.elim (fun h => absurd h.1 (np0 hP rfl)) (fun q => q.elim (fun h => absurd h (np0 hP rfl)) (fun h => absurd h (np0 hP rfl))))).trans (hid kn_32)
    have h_34 : c_8 P 2 = n2 := (hid kn_33)
    have kn_35 : Hid (c_1 41 22 = n2) := (hF_3 41 22 (fun h => absurd h.1 (nn rfl))).trans (hm2)
    have kn_36 : Hid (c_8 41 22 = n2) := (hF_10 41 22 (fun q => q.elim (fun h => absurd h.2 (ni rfl)) (fun q => q.elim (fun h => absurd h (nn rfl)) (fun h => absurd h (nn rfl))))).trans (hid kn_35)
    have h_37 : c_8 41 22 = n2 := (hid kn_36)
    have kn_38 : Hid (c_1 P 3 = n3) := (hF_3 P 3 (fun h => absurd h.1 (np0 hP rfl))).trans (hn3)
    have kn_39 : Hid (c_8 P 3 = n3) := (hF_10 P 3 (fun q => q.elim (fun h => absurd h.1 (np0 hP rfl)) (fun q => q.elim (fun h => absurd h (np0 hP rfl)) (fun h => absurd h (np0 hP rfl))))).trans (hid kn_38)
    have h_40 : c_8 P 3 = n3 := (hid kn_39)
    have kn_41 : Hid (c_1 41 23 = n3) := (hF_3 41 23 (fun h => absurd h.1 (nn rfl))).trans (hm3)
    have kn_42 : Hid (c_8 41 23 = n3) := (hF_10 41 23 (fun q => q.elim (fun h => absurd h.2 (ni rfl)) (fun q => q.elim (fun h => absurd h (nn rfl)) (fun h => absurd h (nn rfl))))).trans (hid kn_41)
    have h_43 : c_8 41 23 = n3 := (hid kn_42)
    exact K P Q c_8 1 (by decide) hI_9 ⟨by omega, ub_fr hU (fun j => (hF_10 2 j (fun q => q.elim (fun h => absurd h.1 (nn rfl)) (fun q => q.elim (fun h => absurd h (nn rfl)) (fun h => absurd h (nn rfl))))).trans (hF_3 2 j (fun h => absurd h.1 (nn rfl)))) (fun j => (hF_10 43 j (fun q => q.elim (fun h => absurd h.1 (nn rfl)) (fun q => q.elim (fun h => absurd h (nn rfl)) (fun h => absurd h (nn rfl))))).trans (hF_3 43 j (fun h => absurd h.1 (nn rfl)))), ⟨by omega, by omega, by omega, by omega⟩⟩
  refine bk_inl ?_
  refine v_i2l rfl (by omega) ?_
  refine v_ls rfl rfl (by decide) (by decide) (by decide) ?_
  refine q_goto (t := 15) rfl (by decide) ?_
  refine q_iconst rfl ?_
  refine q_iret rfl rfl ?_
  refine bk_inl ?_
  refine q_istore rfl (by decide) ?_
  refine q_aload_n rfl rfl ?_
  refine q_aload_n rfl rfl ?_
  refine q_iload rfl rfl ?_
  refine q_iconst rfl ?_
  refine v_iadd (v := (i0 : Int) + 1) rfl (by omega) ?_
  refine v_scr (j := i0 + 1) rfl (by omega) (by omega) hL hx1 ?_
  have hI_44 := iw_lx (a := 67) (j := 0) (v := y_7) hI_5 (by omega)
  refine v_cv rfl rfl rfl rfl (by decide) ⟨⟨rfl, rfl⟩, by decide, rfl⟩ (Nat.le_of_ble_eq_true rfl) (Nat.le_of_ble_eq_true rfl) (s_211 (a1 := x1) hI_44 (show (-2147483648) ≤ x1 ∧ x1 ≤ 2147483647 from by omega) (fun c_45 y_48 hI_46 hF_47 hy_48 => ?_))
  refine bk_inl ?_
  refine q_istore rfl (by decide) ?_
  refine q_goto (t := 1844) rfl (by decide) ?_
  refine Wp_ls [(4, vi (i0 : Int)), (3, .ref 67), (2, .ref 41), (1, .ref 0), (0, .ref a_SC)] (lsub_cons rfl (lsub_cons rfl (lsub_cons rfl (lsub_cons rfl (lsub_cons rfl lsub_nil))))) ?_
  have h_49 := ir_1_3 hI
  have kn_50 : Hid (c_4 1 3 = c 1 3) := hF_6 1 3 (fun h => absurd h.1 (nn rfl))
  have kn_51 : Hid (c_45 1 3 = c 1 3) := (hF_47 1 3 (fun q => q.elim (fun h => absurd h.1 (nn rfl)) (fun q => q.elim (fun h => absurd h (nn rfl)) (fun h => absurd h (nn rfl))))).trans ((up_c (nn rfl)).trans (hid kn_50))
  have h_52 : c_45 1 3 = c 1 3 := (hid kn_51)
  have h_53 := ir_41_2 hI
  have kn_54 : Hid (c_4 41 2 = c 41 2) := hF_6 41 2 (fun h => absurd h.1 (nn rfl))
  have kn_55 : Hid (c_45 41 2 = c 41 2) := (hF_47 41 2 (fun q => q.elim (fun h => absurd h.2 (ni rfl)) (fun q => q.elim (fun h => absurd h (nn rfl)) (fun h => absurd h (nn rfl))))).trans ((up_c (nn rfl)).trans (hid kn_54))
  have h_56 : c_45 41 2 = c 41 2 := (hid kn_55)
  have kn_57 : Hid (c_4 P 0 = n0) := (hF_6 P 0 (fun h => absurd h.1 (np0 hP rfl))).trans (hn0)
  have kn_58 : Hid (c_45 P 0 = n0) := (hF_47 P 0 (fun q => q.elim (fun h => absurd h.1 (np0 hP rfl)) (fun q => q.elim (fun h => absurd h (np0 hP rfl)) (fun h => absurd h (np0 hP rfl))))).trans ((up_c (np0 hP rfl)).trans (hid kn_57))
  have h_59 : c_45 P 0 = n0 := (hid kn_58)
  have kn_60 : Hid (c_4 41 20 = n0) := (hF_6 41 20 (fun h => absurd h.1 (nn rfl))).trans (hm0)
  have kn_61 : Hid (c_45 41 20 = n0) := (hF_47 41 20 (fun q => q.elim (fun h => absurd h.2 (ni rfl)) (fun q => q.elim (fun h => absurd h (nn rfl)) (fun h => absurd h (nn rfl))))).trans ((up_c (nn rfl)).trans (hid kn_60))
  have h_62 : c_45 41 20 = n0 := (hid kn_61)
  have kn_63 : Hid (c_4 P 1 = n1) := (hF_6 P 1 (fun h => absurd h.1 (np0 hP rfl))).trans (hn1)
  have kn_64 : Hid (c_45 P 1 = n1) := (hF_47 P 1 (fun q => q.elim (fun h => absurd h.1 (np0 hP rfl)) (fun q => q.elim (fun h => absurd h (np0 hP rfl)) (fun h => absurd h (np0 hP rfl))))).trans ((up_c (np0 hP rfl)).trans (hid kn_63))
  have h_65 : c_45 P 1 = n1 := (hid kn_64)
  have kn_66 : Hid (c_4 41 21 = n1) := (hF_6 41 21 (fun h => absurd h.1 (nn rfl))).trans (hm1)
  have kn_67 : Hid (c_45 41 21 = n1) := (hF_47 41 21 (fun q => q.elim (fun h => absurd h.2 (ni rfl)) (fun q => q.elim (fun h => absurd h (nn rfl)) (fun h => absurd h (nn rfl))))).trans ((up_c (nn rfl)).trans (hid kn_66))
  have h_68 : c_45 41 21 = n1 := (hid kn_67)
  have kn_69 : Hid (c_4 P 2 = n2) := (hF_6 P 2 (fun h => absurd h.1 (np0 hP rfl))).trans (hn2)
  have kn_70 : Hid (c_45 P 2 = n2) := (hF_47 P 2 (fun q => q.elim (fun h => absurd h.1 (np0 hP rfl)) (fun q => q.elim (fun h => absurd h (np0 hP rfl)) (fun h => absurd h (np0 hP rfl))))).trans ((up_c (np0 hP rfl)).trans (hid kn_69))
  have h_71 : c_45 P 2 = n2 := (hid kn_70)
  have kn_72 : Hid (c_4 41 22 = n2) := (hF_6 41 22 (fun h => absurd h.1 (nn rfl))).trans (hm2)
  have kn_73 : Hid (c_45 41 22 = n2) := (hF_47 41 22 (fun q => q.elim (fun h => absurd h.2 (ni rfl)) (fun q => q.elim (fun h => absurd h (nn rfl)) (fun h => absurd h (nn rfl))))).trans ((up_c (nn rfl)).trans (hid kn_72))
  have h_74 : c_45 41 22 = n2 := (hid kn_73)
  have kn_75 : Hid (c_4 P 3 = n3) := (hF_6 P 3 (fun h => absurd h.1 (np0 hP rfl))).trans (hn3)
  have kn_76 : Hid (c_45 P 3 = n3) := (hF_47 P 3 (fun q => q.elim (fun h => absurd h.1 (np0 hP rfl)) (fun q => q.elim (fun h => absurd h (np0 hP rfl)) (fun h => absurd h (np0 hP rfl))))).trans ((up_c (np0 hP rfl)).trans (hid kn_75))
  have h_77 : c_45 P 3 = n3 := (hid kn_76)
  have kn_78 : Hid (c_4 41 23 = n3) := (hF_6 41 23 (fun h => absurd h.1 (nn rfl))).trans (hm3)
  have kn_79 : Hid (c_45 41 23 = n3) := (hF_47 41 23 (fun q => q.elim (fun h => absurd h.2 (ni rfl)) (fun q => q.elim (fun h => absurd h (nn rfl)) (fun h => absurd h (nn rfl))))).trans ((up_c (nn rfl)).trans (hid kn_78))
  have h_80 : c_45 41 23 = n3 := (hid kn_79)
  exact K P Q c_45 0 (by decide) hI_46 ⟨by omega, ub_fr hU (fun j => (hF_47 2 j (fun q => q.elim (fun h => absurd h.1 (nn rfl)) (fun q => q.elim (fun h => absurd h (nn rfl)) (fun h => absurd h (nn rfl))))).trans ((up_c (nn rfl)).trans (hF_6 2 j (fun h => absurd h.1 (nn rfl))))) (fun j => (hF_47 43 j (fun q => q.elim (fun h => absurd h.1 (nn rfl)) (fun q => q.elim (fun h => absurd h (nn rfl)) (fun h => absurd h (nn rfl))))).trans ((up_c (nn rfl)).trans (hF_6 43 j (fun h => absurd h.1 (nn rfl))))), ⟨by omega, by omega, by omega, by omega⟩⟩

set_option maxRecDepth 100000 in
set_option maxHeartbeats 4000000 in
theorem o_9 {xs : Nat → Int32} {L i0 d nc ns P Q : Nat} {c : ME} {Z : AR → Prop} (hi : i0 + 8 ≤ L) (hL : L ≤ 100000) (hI : Iv 0 (-1) P Q c) (hR : Rq P c) (K : ∀ (P2 Q2 : Nat) (c2 : ME) (e : Nat), e ≤ 1 → Iv 0 (-1) P2 Q2 c2 → (Rq P2 c2) → Wp (a_scr L xs) (d + 90) 296 1844 [(4, vi (i0 : Int)), (3, .ref 67), (2, .ref 41), (1, .ref 0), (0, .ref a_SC)] [] (Wd P2 Q2 P2 P2 c2) (nc + e) (ns + 6 * e) Z) : Wp (a_scr L xs) (d + 90) 296 523 [(4, vi (i0 : Int)), (3, .ref 67), (2, .ref 41), (1, .ref 0), (0, .ref a_SC)] [] (Wd P Q P P c) nc ns Z := by
  obtain ⟨x1, hx1⟩ : ∃ z, (xs (i0 + 1)).toInt = z := ⟨_, rfl⟩
  have x1r := c_rng (xs (i0 + 1))
  rw [hx1] at x1r
  obtain ⟨x2, hx2⟩ : ∃ z, (xs (i0 + 2)).toInt = z := ⟨_, rfl⟩
  have x2r := c_rng (xs (i0 + 2))
  rw [hx2] at x2r
  obtain ⟨x3, hx3⟩ : ∃ z, (xs (i0 + 3)).toInt = z := ⟨_, rfl⟩
  have x3r := c_rng (xs (i0 + 3))
  rw [hx3] at x3r
  obtain ⟨x4, hx4⟩ : ∃ z, (xs (i0 + 4)).toInt = z := ⟨_, rfl⟩
  have x4r := c_rng (xs (i0 + 4))
  rw [hx4] at x4r
  obtain ⟨x5, hx5⟩ : ∃ z, (xs (i0 + 5)).toInt = z := ⟨_, rfl⟩
  have x5r := c_rng (xs (i0 + 5))
  rw [hx5] at x5r
  obtain ⟨x6, hx6⟩ : ∃ z, (xs (i0 + 6)).toInt = z := ⟨_, rfl⟩
  have x6r := c_rng (xs (i0 + 6))
  rw [hx6] at x6r
  obtain ⟨x7, hx7⟩ : ∃ z, (xs (i0 + 7)).toInt = z := ⟨_, rfl⟩
  have x7r := c_rng (xs (i0 + 7))
  rw [hx7] at x7r
  have hT := rl_t hR
  have hU := rl_u hR
  have hP := iv_P hI
  obtain ⟨n0, hn0⟩ : ∃ z, c P 0 = z := ⟨_, rfl⟩
  have hm0 : c 41 20 = n0 := (rl_nums hR).1.symm.trans hn0
  have hr0 := ir_p0_0 hI hP
  rw [hn0] at hr0
  obtain ⟨n1, hn1⟩ : ∃ z, c P 1 = z := ⟨_, rfl⟩
  have hm1 : c 41 21 = n1 := (rl_nums hR).2.1.symm.trans hn1
  have hr1 := ir_p0_1 hI hP
  rw [hn1] at hr1
  obtain ⟨n2, hn2⟩ : ∃ z, c P 2 = z := ⟨_, rfl⟩
  have hm2 : c 41 22 = n2 := (rl_nums hR).2.2.1.symm.trans hn2
  have hr2 := ir_p0_2 hI hP
  rw [hn2] at hr2
  obtain ⟨n3, hn3⟩ : ∃ z, c P 3 = z := ⟨_, rfl⟩
  have hm3 : c 41 23 = n3 := (rl_nums hR).2.2.2.symm.trans hn3
  have hr3 := ir_p0_3 hI hP
  rw [hn3] at hr3
  have hP := iv_P hI
  have hQ := iv_Q hI
  refine q_aload_n rfl rfl ?_
  refine q_aload_n rfl rfl ?_
  refine q_iload rfl rfl ?_
  refine q_iconst rfl ?_
  refine v_iadd (v := (i0 : Int) + 1) rfl (by omega) ?_
  refine v_scr (j := i0 + 1) rfl (by omega) (by omega) hL hx1 ?_
  refine q_aload_n rfl rfl ?_
  refine q_iload rfl rfl ?_
  refine q_iconst rfl ?_
  refine v_iadd (v := (i0 : Int) + 2) rfl (by omega) ?_
  refine v_scr (j := i0 + 2) rfl (by omega) (by omega) hL hx2 ?_
  refine q_aload_n rfl rfl ?_
  refine q_call rfl rfl rfl rfl ?_
  refine q_aload_n rfl rfl ?_
  refine q_iconst rfl ?_
  refine q_aload_n rfl rfl ?_
  refine q_iload_n rfl rfl ?_
  refine q_iload_n rfl rfl ?_
  refine v_cv rfl rfl rfl rfl (by decide) ⟨⟨rfl, rfl⟩, by decide, rfl⟩ (Nat.le_of_ble_eq_true rfl) (Nat.le_of_ble_eq_true rfl) (s_93 (a1 := x1) (a2 := x2) hI (show (-2147483648) ≤ x1 ∧ x1 ≤ 2147483647 from by omega) (show (-2147483648) ≤ x2 ∧ x2 ≤ 2147483647 from by omega) (fun c_1 hI_2 hF_3 => ?_) (fun c_4 hI_5 hF_6 => ?_) (fun c_7 y_10 hI_8 hF_9 hy_10 => ?_))
  · skip
    refine bk_thr (z := Int32.ofInt 1) rfl ⟨_, _, rfl⟩ rfl ?_
    refine bk_inl ?_
    refine q_istore rfl (by decide) ?_
    refine q_aload_n rfl rfl ?_
    refine q_aload_n rfl rfl ?_
    refine q_iload rfl rfl ?_
    refine q_iconst rfl ?_
    refine v_iadd (v := (i0 : Int) + 1) rfl (by omega) ?_
    refine v_scr (j := i0 + 1) rfl (by omega) (by omega) hL hx1 ?_
    refine q_aload_n rfl rfl ?_
    refine q_iload rfl rfl ?_
    refine q_iconst rfl ?_
    refine v_iadd (v := (i0 : Int) + 2) rfl (by omega) ?_
    refine v_scr (j := i0 + 2) rfl (by omega) (by omega) hL hx2 ?_
    refine v_cv rfl rfl rfl rfl (by decide) ⟨⟨rfl, rfl⟩, by decide, rfl⟩ (Nat.le_of_ble_eq_true rfl) (Nat.le_of_ble_eq_true rfl) (s_213 (a1 := x1) (a2 := x2) hI_2 (show (-2147483648) ≤ x1 ∧ x1 ≤ 2147483647 from by omega) (show (-2147483648) ≤ x2 ∧ x2 ≤ 2147483647 from by omega) (fun c_11 y_14 hI_12 hF_13 hy_14 => ?_))
    refine bk_inl ?_
    refine q_istore rfl (by decide) ?_
    refine q_goto (t := 1844) rfl (by decide) ?_
    refine Wp_ls [(4, vi (i0 : Int)), (3, .ref 67), (2, .ref 41), (1, .ref 0), (0, .ref a_SC)] (lsub_cons rfl (lsub_cons rfl (lsub_cons rfl (lsub_cons rfl (lsub_cons rfl lsub_nil))))) ?_
    have h_15 := ir_1_3 hI
    have kn_16 : Hid (c_1 1 3 = c 1 3) := hF_3 1 3 (fun q => q.elim (fun h => absurd h.1 (nn rfl)) (fun h => absurd h.1 (nn rfl)))
    have kn_17 : Hid (c_11 1 3 = c 1 3) := (hF_13 1 3 (fun q => q.elim (fun h => absurd h.1 (nn rfl)) (fun q => q.elim (fun h => absurd h (nn rfl)) (fun h => absurd h (nn rfl))))).trans (hid kn_16)
    have h_18 : c_11 1 3 = c 1 3 := (hid kn_17)
    have h_19 := ir_41_2 hI
    have kn_20 : Hid (c_1 41 2 = c 41 2) := hF_3 41 2 (fun q => q.elim (fun h => absurd h.1 (nn rfl)) (fun h => absurd h.1 (nn rfl)))
    have kn_21 : Hid (c_11 41 2 = c 41 2) := (hF_13 41 2 (fun q => q.elim (fun h => absurd h.2 (ni rfl)) (fun q => q.elim (fun h => absurd h (nn rfl)) (fun h => absurd h (nn rfl))))).trans (hid kn_20)
    have h_22 : c_11 41 2 = c 41 2 := (hid kn_21)
    have kn_23 : Hid (c_1 P 0 = n0) := (hF_3 P 0 (fun q => q.elim (fun h => absurd h.1 (np0 hP rfl)) (fun h => absurd h.1 (np0 hP rfl)))).trans (hn0)
    have kn_24 : Hid (c_11 P 0 = n0) := (hF_13 P 0 (fun q => q.elim (fun h => absurd h.1 (np0 hP rfl)) (fun q => q.elim (fun h => absurd h (np0 hP rfl)) (fun h => absurd h (np0 hP rfl))))).trans (hid kn_23)
    have h_25 : c_11 P 0 = n0 := (hid kn_24)
    have kn_26 : Hid (c_1 41 20 = n0) := (hF_3 41 20 (fun q => q.elim (fun h => absurd h.1 (nn rfl)) (fun h => absurd h.1 (nn rfl)))).trans (hm0)
    have kn_27 : Hid (c_11 41 20 = n0) := (hF_13 41 20 (fun q => q.elim (fun h => absurd h.2 (ni rfl)) (fun q => q.elim (fun h => absurd h (nn rfl)) (fun h => absurd h (nn rfl))))).trans (hid kn_26)
    have h_28 : c_11 41 20 = n0 := (hid kn_27)
    have kn_29 : Hid (c_1 P 1 = n1) := (hF_3 P 1 (fun q => q.elim (fun h => absurd h.1 (np0 hP rfl)) (fun h => absurd h.1 (np0 hP rfl)))).trans (hn1)
    have kn_30 : Hid (c_11 P 1 = n1) := (hF_13 P 1 (fun q => q.elim (fun h => absurd h.1 (np0 hP rfl)) (fun q => q.elim (fun h => absurd h (np0 hP rfl)) (fun h => absurd h (np0 hP rfl))))).trans (hid kn_29)
    have h_31 : c_11 P 1 = n1 := (hid kn_30)
    have kn_32 : Hid (c_1 41 21 = n1) := (hF_3 41 21 (fun q => q.elim (fun h => absurd h.1 (nn rfl)) (fun h => absurd h.1 (nn rfl)))).trans (hm1)
    have kn_33 : Hid (c_11 41 21 = n1) := (hF_13 41 21 (fun q => q.elim (fun h => absurd h.2 (ni rfl)) (fun q => q.elim (fun h => absurd h (nn rfl)) (fun h => absurd h (nn rfl))))).trans (hid kn_32)
    have h_34 : c_11 41 21 = n1 := (hid kn_33)
    have kn_35 : Hid (c_1 P 2 = n2) := (hF_3 P 2 (fun q => q.elim (fun h => absurd h.1 (np0 hP rfl)) (fun h => absurd h.1 (np0 hP rfl)))).trans (hn2)
    have kn_36 : Hid (c_11 P 2 = n2) := (hF_13 P 2 (fun q => q.elim (fun h => absurd h.1 (np0 hP rfl)) (fun q => q.elim (fun h => absurd h (np0 hP rfl)) (fun h => absurd h (np0 hP rfl))))).trans (hid kn_35)
    have h_37 : c_11 P 2 = n2 := (hid kn_36)
    have kn_38 : Hid (c_1 41 22 = n2) := (hF_3 41 22 (fun q => q.elim (fun h => absurd h.1 (nn rfl)) (fun h => absurd h.1 (nn rfl)))).trans (hm2)
    have kn_39 : Hid (c_11 41 22 = n2) := (hF_13 41 22 (fun q => q.elim (fun h => absurd h.2 (ni rfl)) (fun q => q.elim (fun h => absurd h (nn rfl)) (fun h => absurd h (nn rfl))))).trans (hid kn_38)
    have h_40 : c_11 41 22 = n2 := (hid kn_39)
    have kn_41 : Hid (c_1 P 3 = n3) := (hF_3 P 3 (fun q => q.elim (fun h => absurd h.1 (np0 hP rfl)) (fun h => absurd h.1 (np0 hP rfl)))).trans (hn3)
    have kn_42 : Hid (c_11 P 3 = n3) := (hF_13 P 3 (fun q => q.elim (fun h => absurd h.1 (np0 hP rfl)) (fun q => q.elim (fun h => absurd h (np0 hP rfl)) (fun h => absurd h (np0 hP rfl))))).trans (hid kn_41)
    have h_43 : c_11 P 3 = n3 := (hid kn_42)
    have kn_44 : Hid (c_1 41 23 = n3) := (hF_3 41 23 (fun q => q.elim (fun h => absurd h.1 (nn rfl)) (fun h => absurd h.1 (nn rfl)))).trans (hm3)
    have kn_45 : Hid (c_11 41 23 = n3) := (hF_13 41 23 (fun q => q.elim (fun h => absurd h.2 (ni rfl)) (fun q => q.elim (fun h => absurd h (nn rfl)) (fun h => absurd h (nn rfl))))).trans (hid kn_44)
    have h_46 : c_11 41 23 = n3 := (hid kn_45)
    exact K P Q c_11 1 (by decide) hI_12 ⟨by omega, ub_fr hU (fun j => (hF_13 2 j (fun q => q.elim (fun h => absurd h.1 (nn rfl)) (fun q => q.elim (fun h => absurd h (nn rfl)) (fun h => absurd h (nn rfl))))).trans (hF_3 2 j (fun q => q.elim (fun h => absurd h.1 (nn rfl)) (fun h => absurd h.1 (nn rfl))))) (fun j => (hF_13 43 j (fun q => q.elim (fun h => absurd h.1 (nn rfl)) (fun q => q.elim (fun h => absurd h (nn rfl)) (fun h => absurd h (nn rfl))))).trans (hF_3 43 j (fun q => q.elim (fun h => absurd h.1 (nn rfl)) (fun h => absurd h.1 (nn rfl))))), ⟨by omega, by omega, by omega, by omega⟩⟩
  · skip
    refine bk_thr (z := Int32.ofInt 2) rfl ⟨_, _, rfl⟩ rfl ?_
    refine bk_inl ?_
    refine q_istore rfl (by decide) ?_
    refine q_aload_n rfl rfl ?_
    refine q_aload_n rfl rfl ?_
    refine q_iload rfl rfl ?_
    refine q_iconst rfl ?_
    refine v_iadd (v := (i0 : Int) + 1) rfl (by omega) ?_
    refine v_scr (j := i0 + 1) rfl (by omega) (by omega) hL hx1 ?_
    refine q_aload_n rfl rfl ?_
    refine q_iload rfl rfl ?_
    refine q_iconst rfl ?_
    refine v_iadd (v := (i0 : Int) + 2) rfl (by omega) ?_
    refine v_scr (j := i0 + 2) rfl (by omega) (by omega) hL hx2 ?_
    refine v_cv rfl rfl rfl rfl (by decide) ⟨⟨rfl, rfl⟩, by decide, rfl⟩ (Nat.le_of_ble_eq_true rfl) (Nat.le_of_ble_eq_true rfl) (s_213 (a1 := x1) (a2 := x2) hI_5 (show (-2147483648) ≤ x1 ∧ x1 ≤ 2147483647 from by omega) (show (-2147483648) ≤ x2 ∧ x2 ≤ 2147483647 from by omega) (fun c_47 y_50 hI_48 hF_49 hy_50 => ?_))
    refine bk_inl ?_
    refine q_istore rfl (by decide) ?_
    refine q_goto (t := 1844) rfl (by decide) ?_
    refine Wp_ls [(4, vi (i0 : Int)), (3, .ref 67), (2, .ref 41), (1, .ref 0), (0, .ref a_SC)] (lsub_cons rfl (lsub_cons rfl (lsub_cons rfl (lsub_cons rfl (lsub_cons rfl lsub_nil))))) ?_
    have h_51 := ir_1_3 hI
    have kn_52 : Hid (c_4 1 3 = c 1 3) := hF_6 1 3 (fun q => q.elim (fun h => absurd h.1 (nn rfl)) (fun h => absurd h.1 (nn rfl)))
    have kn_53 : Hid (c_47 1 3 = c 1 3) := (hF_49 1 3 (fun q => q.elim (fun h => absurd h.1 (nn rfl)) (fun q => q.elim (fun h => absurd h (nn rfl)) (fun h => absurd h (nn rfl))))).trans (hid kn_52)
    have h_54 : c_47 1 3 = c 1 3 := (hid kn_53)
    have h_55 := ir_41_2 hI
    have kn_56 : Hid (c_4 41 2 = c 41 2) := hF_6 41 2 (fun q => q.elim (fun h => absurd h.1 (nn rfl)) (fun h => absurd h.1 (nn rfl)))
    have kn_57 : Hid (c_47 41 2 = c 41 2) := (hF_49 41 2 (fun q => q.elim (fun h => absurd h.2 (ni rfl)) (fun q => q.elim (fun h => absurd h (nn rfl)) (fun h => absurd h (nn rfl))))).trans (hid kn_56)
    have h_58 : c_47 41 2 = c 41 2 := (hid kn_57)
    have kn_59 : Hid (c_4 P 0 = n0) := (hF_6 P 0 (fun q => q.elim (fun h => absurd h.1 (np0 hP rfl)) (fun h => absurd h.1 (np0 hP rfl)))).trans (hn0)
    have kn_60 : Hid (c_47 P 0 = n0) := (hF_49 P 0 (fun q => q.elim (fun h => absurd h.1 (np0 hP rfl)) (fun q => q.elim (fun h => absurd h (np0 hP rfl)) (fun h => absurd h (np0 hP rfl))))).trans (hid kn_59)
    have h_61 : c_47 P 0 = n0 := (hid kn_60)
    have kn_62 : Hid (c_4 41 20 = n0) := (hF_6 41 20 (fun q => q.elim (fun h => absurd h.1 (nn rfl)) (fun h => absurd h.1 (nn rfl)))).trans (hm0)
    have kn_63 : Hid (c_47 41 20 = n0) := (hF_49 41 20 (fun q => q.elim (fun h => absurd h.2 (ni rfl)) (fun q => q.elim (fun h => absurd h (nn rfl)) (fun h => absurd h (nn rfl))))).trans (hid kn_62)
    have h_64 : c_47 41 20 = n0 := (hid kn_63)
    have kn_65 : Hid (c_4 P 1 = n1) := (hF_6 P 1 (fun q => q.elim (fun h => absurd h.1 (np0 hP rfl)) (fun h => absurd h.1 (np0 hP rfl)))).trans (hn1)
    have kn_66 : Hid (c_47 P 1 = n1) := (hF_49 P 1 (fun q => q.elim (fun h => absurd h.1 (np0 hP rfl)) (fun q => q.elim (fun h => absurd h (np0 hP rfl)) (fun h => absurd h (np0 hP rfl))))).trans (hid kn_65)
    have h_67 : c_47 P 1 = n1 := (hid kn_66)
    have kn_68 : Hid (c_4 41 21 = n1) := (hF_6 41 21 (fun q => q.elim (fun h => absurd h.1 (nn rfl)) (fun h => absurd h.1 (nn rfl)))).trans (hm1)
    have kn_69 : Hid (c_47 41 21 = n1) := (hF_49 41 21 (fun q => q.elim (fun h => absurd h.2 (ni rfl)) (fun q => q.elim (fun h => absurd h (nn rfl)) (fun h => absurd h (nn rfl))))).trans (hid kn_68)
    have h_70 : c_47 41 21 = n1 := (hid kn_69)
    have kn_71 : Hid (c_4 P 2 = n2) := (hF_6 P 2 (fun q => q.elim (fun h => absurd h.1 (np0 hP rfl)) (fun h => absurd h.1 (np0 hP rfl)))).trans (hn2)
    have kn_72 : Hid (c_47 P 2 = n2) := (hF_49 P 2 (fun q => q.elim (fun h => absurd h.1 (np0 hP rfl)) (fun q => q.elim (fun h => absurd h (np0 hP rfl)) (fun h => absurd h (np0 hP rfl))))).trans (hid kn_71)
    have h_73 : c_47 P 2 = n2 := (hid kn_72)
    have kn_74 : Hid (c_4 41 22 = n2) := (hF_6 41 22 (fun q => q.elim (fun h => absurd h.1 (nn rfl)) (fun h => absurd h.1 (nn rfl)))).trans (hm2)
    have kn_75 : Hid (c_47 41 22 = n2) := (hF_49 41 22 (fun q => q.elim (fun h => absurd h.2 (ni rfl)) (fun q => q.elim (fun h => absurd h (nn rfl)) (fun h => absurd h (nn rfl))))).trans (hid kn_74)
    have h_76 : c_47 41 22 = n2 := (hid kn_75)
    have kn_77 : Hid (c_4 P 3 = n3) := (hF_6 P 3 (fun q => q.elim (fun h => absurd h.1 (np0 hP rfl)) (fun h => absurd h.1 (np0 hP rfl)))).trans (hn3)
    have kn_78 : Hid (c_47 P 3 = n3) := (hF_49 P 3 (fun q => q.elim (fun h => absurd h.1 (np0 hP rfl)) (fun q => q.elim (fun h => absurd h (np0 hP rfl)) (fun h => absurd h (np0 hP rfl))))).trans (hid kn_77)
    have h_79 : c_47 P 3 = n3 := (hid kn_78)
    have kn_80 : Hid (c_4 41 23 = n3) := (hF_6 41 23 (fun q => q.elim (fun h => absurd h.1 (nn rfl)) (fun h => absurd h.1 (nn rfl)))).trans (hm3)
    have kn_81 : Hid (c_47 41 23 = n3) := (hF_49 41 23 (fun q => q.elim (fun h => absurd h.2 (ni rfl)) (fun q => q.elim (fun h => absurd h (nn rfl)) (fun h => absurd h (nn rfl))))).trans (hid kn_80)
    have h_82 : c_47 41 23 = n3 := (hid kn_81)
    exact K P Q c_47 1 (by decide) hI_48 ⟨by omega, ub_fr hU (fun j => (hF_49 2 j (fun q => q.elim (fun h => absurd h.1 (nn rfl)) (fun q => q.elim (fun h => absurd h (nn rfl)) (fun h => absurd h (nn rfl))))).trans (hF_6 2 j (fun q => q.elim (fun h => absurd h.1 (nn rfl)) (fun h => absurd h.1 (nn rfl))))) (fun j => (hF_49 43 j (fun q => q.elim (fun h => absurd h.1 (nn rfl)) (fun q => q.elim (fun h => absurd h (nn rfl)) (fun h => absurd h (nn rfl))))).trans (hF_6 43 j (fun q => q.elim (fun h => absurd h.1 (nn rfl)) (fun h => absurd h.1 (nn rfl))))), ⟨by omega, by omega, by omega, by omega⟩⟩
  refine bk_inl ?_
  refine v_i2l rfl (by omega) ?_
  refine v_ls rfl rfl (by decide) (by decide) (by decide) ?_
  refine q_goto (t := 21) rfl (by decide) ?_
  refine q_iconst rfl ?_
  refine q_iret rfl rfl ?_
  refine bk_inl ?_
  refine q_istore rfl (by decide) ?_
  refine q_aload_n rfl rfl ?_
  refine q_aload_n rfl rfl ?_
  refine q_iload rfl rfl ?_
  refine q_iconst rfl ?_
  refine v_iadd (v := (i0 : Int) + 1) rfl (by omega) ?_
  refine v_scr (j := i0 + 1) rfl (by omega) (by omega) hL hx1 ?_
  refine q_aload_n rfl rfl ?_
  refine q_iload rfl rfl ?_
  refine q_iconst rfl ?_
  refine v_iadd (v := (i0 : Int) + 2) rfl (by omega) ?_
  refine v_scr (j := i0 + 2) rfl (by omega) (by omega) hL hx2 ?_
  have hI_83 := iw_lx (a := 67) (j := 0) (v := y_10) hI_8 (by omega)
  refine v_cv rfl rfl rfl rfl (by decide) ⟨⟨rfl, rfl⟩, by decide, rfl⟩ (Nat.le_of_ble_eq_true rfl) (Nat.le_of_ble_eq_true rfl) (s_213 (a1 := x1) (a2 := x2) hI_83 (show (-2147483648) ≤ x1 ∧ x1 ≤ 2147483647 from by omega) (show (-2147483648) ≤ x2 ∧ x2 ≤ 2147483647 from by omega) (fun c_84 y_87 hI_85 hF_86 hy_87 => ?_))
  refine bk_inl ?_
  refine q_istore rfl (by decide) ?_
  refine q_goto (t := 1844) rfl (by decide) ?_
  refine Wp_ls [(4, vi (i0 : Int)), (3, .ref 67), (2, .ref 41), (1, .ref 0), (0, .ref a_SC)] (lsub_cons rfl (lsub_cons rfl (lsub_cons rfl (lsub_cons rfl (lsub_cons rfl lsub_nil))))) ?_
  have h_88 := ir_1_3 hI
  have kn_89 : Hid (c_7 1 3 = c 1 3) := hF_9 1 3 (fun q => q.elim (fun h => absurd h.1 (nn rfl)) (fun h => absurd h.1 (nn rfl)))
  have kn_90 : Hid (c_84 1 3 = c 1 3) := (hF_86 1 3 (fun q => q.elim (fun h => absurd h.1 (nn rfl)) (fun q => q.elim (fun h => absurd h (nn rfl)) (fun h => absurd h (nn rfl))))).trans ((up_c (nn rfl)).trans (hid kn_89))
  have h_91 : c_84 1 3 = c 1 3 := (hid kn_90)
  have h_92 := ir_41_2 hI
  have kn_93 : Hid (c_7 41 2 = c 41 2) := hF_9 41 2 (fun q => q.elim (fun h => absurd h.1 (nn rfl)) (fun h => absurd h.1 (nn rfl)))
  have kn_94 : Hid (c_84 41 2 = c 41 2) := (hF_86 41 2 (fun q => q.elim (fun h => absurd h.2 (ni rfl)) (fun q => q.elim (fun h => absurd h (nn rfl)) (fun h => absurd h (nn rfl))))).trans ((up_c (nn rfl)).trans (hid kn_93))
  have h_95 : c_84 41 2 = c 41 2 := (hid kn_94)
  have kn_96 : Hid (c_7 P 0 = n0) := (hF_9 P 0 (fun q => q.elim (fun h => absurd h.1 (np0 hP rfl)) (fun h => absurd h.1 (np0 hP rfl)))).trans (hn0)
  have kn_97 : Hid (c_84 P 0 = n0) := (hF_86 P 0 (fun q => q.elim (fun h => absurd h.1 (np0 hP rfl)) (fun q => q.elim (fun h => absurd h (np0 hP rfl)) (fun h => absurd h (np0 hP rfl))))).trans ((up_c (np0 hP rfl)).trans (hid kn_96))
  have h_98 : c_84 P 0 = n0 := (hid kn_97)
  have kn_99 : Hid (c_7 41 20 = n0) := (hF_9 41 20 (fun q => q.elim (fun h => absurd h.1 (nn rfl)) (fun h => absurd h.1 (nn rfl)))).trans (hm0)
  have kn_100 : Hid (c_84 41 20 = n0) := (hF_86 41 20 (fun q => q.elim (fun h => absurd h.2 (ni rfl)) (fun q => q.elim (fun h => absurd h (nn rfl)) (fun h => absurd h (nn rfl))))).trans ((up_c (nn rfl)).trans (hid kn_99))
  have h_101 : c_84 41 20 = n0 := (hid kn_100)
  have kn_102 : Hid (c_7 P 1 = n1) := (hF_9 P 1 (fun q => q.elim (fun h => absurd h.1 (np0 hP rfl)) (fun h => absurd h.1 (np0 hP rfl)))).trans (hn1)
  have kn_103 : Hid (c_84 P 1 = n1) := (hF_86 P 1 (fun q => q.elim (fun h => absurd h.1 (np0 hP rfl)) (fun q => q.elim (fun h => absurd h (np0 hP rfl)) (fun h => absurd h (np0 hP rfl))))).trans ((up_c (np0 hP rfl)).trans (hid kn_102))
  have h_104 : c_84 P 1 = n1 := (hid kn_103)
  have kn_105 : Hid (c_7 41 21 = n1) := (hF_9 41 21 (fun q => q.elim (fun h => absurd h.1 (nn rfl)) (fun h => absurd h.1 (nn rfl)))).trans (hm1)
  have kn_106 : Hid (c_84 41 21 = n1) := (hF_86 41 21 (fun q => q.elim (fun h => absurd h.2 (ni rfl)) (fun q => q.elim (fun h => absurd h (nn rfl)) (fun h => absurd h (nn rfl))))).trans ((up_c (nn rfl)).trans (hid kn_105))
  have h_107 : c_84 41 21 = n1 := (hid kn_106)
  have kn_108 : Hid (c_7 P 2 = n2) := (hF_9 P 2 (fun q => q.elim (fun h => absurd h.1 (np0 hP rfl)) (fun h => absurd h.1 (np0 hP rfl)))).trans (hn2)
  have kn_109 : Hid (c_84 P 2 = n2) := (hF_86 P 2 (fun q => q.elim (fun h => absurd h.1 (np0 hP rfl)) (fun q => q.elim (fun h => absurd h (np0 hP rfl)) (fun h => absurd h (np0 hP rfl))))).trans ((up_c (np0 hP rfl)).trans (hid kn_108))
  have h_110 : c_84 P 2 = n2 := (hid kn_109)
  have kn_111 : Hid (c_7 41 22 = n2) := (hF_9 41 22 (fun q => q.elim (fun h => absurd h.1 (nn rfl)) (fun h => absurd h.1 (nn rfl)))).trans (hm2)
  have kn_112 : Hid (c_84 41 22 = n2) := (hF_86 41 22 (fun q => q.elim (fun h => absurd h.2 (ni rfl)) (fun q => q.elim (fun h => absurd h (nn rfl)) (fun h => absurd h (nn rfl))))).trans ((up_c (nn rfl)).trans (hid kn_111))
  have h_113 : c_84 41 22 = n2 := (hid kn_112)
  have kn_114 : Hid (c_7 P 3 = n3) := (hF_9 P 3 (fun q => q.elim (fun h => absurd h.1 (np0 hP rfl)) (fun h => absurd h.1 (np0 hP rfl)))).trans (hn3)
  have kn_115 : Hid (c_84 P 3 = n3) := (hF_86 P 3 (fun q => q.elim (fun h => absurd h.1 (np0 hP rfl)) (fun q => q.elim (fun h => absurd h (np0 hP rfl)) (fun h => absurd h (np0 hP rfl))))).trans ((up_c (np0 hP rfl)).trans (hid kn_114))
  have h_116 : c_84 P 3 = n3 := (hid kn_115)
  have kn_117 : Hid (c_7 41 23 = n3) := (hF_9 41 23 (fun q => q.elim (fun h => absurd h.1 (nn rfl)) (fun h => absurd h.1 (nn rfl)))).trans (hm3)
  have kn_118 : Hid (c_84 41 23 = n3) := (hF_86 41 23 (fun q => q.elim (fun h => absurd h.2 (ni rfl)) (fun q => q.elim (fun h => absurd h (nn rfl)) (fun h => absurd h (nn rfl))))).trans ((up_c (nn rfl)).trans (hid kn_117))
  have h_119 : c_84 41 23 = n3 := (hid kn_118)
  exact K P Q c_84 0 (by decide) hI_85 ⟨by omega, ub_fr hU (fun j => (hF_86 2 j (fun q => q.elim (fun h => absurd h.1 (nn rfl)) (fun q => q.elim (fun h => absurd h (nn rfl)) (fun h => absurd h (nn rfl))))).trans ((up_c (nn rfl)).trans (hF_9 2 j (fun q => q.elim (fun h => absurd h.1 (nn rfl)) (fun h => absurd h.1 (nn rfl)))))) (fun j => (hF_86 43 j (fun q => q.elim (fun h => absurd h.1 (nn rfl)) (fun q => q.elim (fun h => absurd h (nn rfl)) (fun h => absurd h (nn rfl))))).trans ((up_c (nn rfl)).trans (hF_9 43 j (fun q => q.elim (fun h => absurd h.1 (nn rfl)) (fun h => absurd h.1 (nn rfl)))))), ⟨by omega, by omega, by omega, by omega⟩⟩

set_option maxRecDepth 100000 in
set_option maxHeartbeats 4000000 in
theorem o_10 {xs : Nat → Int32} {L i0 d nc ns P Q : Nat} {c : ME} {Z : AR → Prop} (hi : i0 + 8 ≤ L) (hL : L ≤ 100000) (hI : Iv 0 (-1) P Q c) (hR : Rq P c) (K : ∀ (P2 Q2 : Nat) (c2 : ME) (e : Nat), e ≤ 1 → Iv 0 (-1) P2 Q2 c2 → (Rq P2 c2) → Wp (a_scr L xs) (d + 90) 296 1844 [(4, vi (i0 : Int)), (3, .ref 67), (2, .ref 41), (1, .ref 0), (0, .ref a_SC)] [] (Wd P2 Q2 P2 P2 c2) (nc + e) (ns + 6 * e) Z) : Wp (a_scr L xs) (d + 90) 296 563 [(4, vi (i0 : Int)), (3, .ref 67), (2, .ref 41), (1, .ref 0), (0, .ref a_SC)] [] (Wd P Q P P c) nc ns Z := by
  obtain ⟨x1, hx1⟩ : ∃ z, (xs (i0 + 1)).toInt = z := ⟨_, rfl⟩
  have x1r := c_rng (xs (i0 + 1))
  rw [hx1] at x1r
  obtain ⟨x2, hx2⟩ : ∃ z, (xs (i0 + 2)).toInt = z := ⟨_, rfl⟩
  have x2r := c_rng (xs (i0 + 2))
  rw [hx2] at x2r
  obtain ⟨x3, hx3⟩ : ∃ z, (xs (i0 + 3)).toInt = z := ⟨_, rfl⟩
  have x3r := c_rng (xs (i0 + 3))
  rw [hx3] at x3r
  obtain ⟨x4, hx4⟩ : ∃ z, (xs (i0 + 4)).toInt = z := ⟨_, rfl⟩
  have x4r := c_rng (xs (i0 + 4))
  rw [hx4] at x4r
  obtain ⟨x5, hx5⟩ : ∃ z, (xs (i0 + 5)).toInt = z := ⟨_, rfl⟩
  have x5r := c_rng (xs (i0 + 5))
  rw [hx5] at x5r
  obtain ⟨x6, hx6⟩ : ∃ z, (xs (i0 + 6)).toInt = z := ⟨_, rfl⟩
  have x6r := c_rng (xs (i0 + 6))
  rw [hx6] at x6r
  obtain ⟨x7, hx7⟩ : ∃ z, (xs (i0 + 7)).toInt = z := ⟨_, rfl⟩
  have x7r := c_rng (xs (i0 + 7))
  rw [hx7] at x7r
  have hT := rl_t hR
  have hU := rl_u hR
  have hP := iv_P hI
  obtain ⟨n0, hn0⟩ : ∃ z, c P 0 = z := ⟨_, rfl⟩
  have hm0 : c 41 20 = n0 := (rl_nums hR).1.symm.trans hn0
  have hr0 := ir_p0_0 hI hP
  rw [hn0] at hr0
  obtain ⟨n1, hn1⟩ : ∃ z, c P 1 = z := ⟨_, rfl⟩
  have hm1 : c 41 21 = n1 := (rl_nums hR).2.1.symm.trans hn1
  have hr1 := ir_p0_1 hI hP
  rw [hn1] at hr1
  obtain ⟨n2, hn2⟩ : ∃ z, c P 2 = z := ⟨_, rfl⟩
  have hm2 : c 41 22 = n2 := (rl_nums hR).2.2.1.symm.trans hn2
  have hr2 := ir_p0_2 hI hP
  rw [hn2] at hr2
  obtain ⟨n3, hn3⟩ : ∃ z, c P 3 = z := ⟨_, rfl⟩
  have hm3 : c 41 23 = n3 := (rl_nums hR).2.2.2.symm.trans hn3
  have hr3 := ir_p0_3 hI hP
  rw [hn3] at hr3
  have hP := iv_P hI
  have hQ := iv_Q hI
  refine q_aload_n rfl rfl ?_
  refine q_aload_n rfl rfl ?_
  refine q_iload rfl rfl ?_
  refine q_iconst rfl ?_
  refine v_iadd (v := (i0 : Int) + 1) rfl (by omega) ?_
  refine v_scr (j := i0 + 1) rfl (by omega) (by omega) hL hx1 ?_
  refine q_aload_n rfl rfl ?_
  refine q_iload rfl rfl ?_
  refine q_iconst rfl ?_
  refine v_iadd (v := (i0 : Int) + 2) rfl (by omega) ?_
  refine v_scr (j := i0 + 2) rfl (by omega) (by omega) hL hx2 ?_
  refine q_aload_n rfl rfl ?_
  refine q_call rfl rfl rfl rfl ?_
  refine q_aload_n rfl rfl ?_
  refine q_iconst rfl ?_
  refine q_aload_n rfl rfl ?_
  refine q_iload_n rfl rfl ?_
  refine q_iload_n rfl rfl ?_
  refine v_cv rfl rfl rfl rfl (by decide) ⟨⟨rfl, rfl⟩, by decide, rfl⟩ (Nat.le_of_ble_eq_true rfl) (Nat.le_of_ble_eq_true rfl) (s_95 (a1 := x1) (a2 := x2) hI (show (-2147483648) ≤ x1 ∧ x1 ≤ 2147483647 from by omega) (show (-2147483648) ≤ x2 ∧ x2 ≤ 2147483647 from by omega) (fun c_1 hI_2 hF_3 => ?_) (fun c_4 hI_5 hF_6 => ?_) (fun c_7 y_10 hI_8 hF_9 hy_10 => ?_))
  · skip
    refine bk_thr (z := Int32.ofInt 1) rfl ⟨_, _, rfl⟩ rfl ?_
    refine bk_inl ?_
    refine q_istore rfl (by decide) ?_
    refine q_aload_n rfl rfl ?_
    refine q_aload_n rfl rfl ?_
    refine q_iload rfl rfl ?_
    refine q_iconst rfl ?_
    refine v_iadd (v := (i0 : Int) + 1) rfl (by omega) ?_
    refine v_scr (j := i0 + 1) rfl (by omega) (by omega) hL hx1 ?_
    refine q_aload_n rfl rfl ?_
    refine q_iload rfl rfl ?_
    refine q_iconst rfl ?_
    refine v_iadd (v := (i0 : Int) + 2) rfl (by omega) ?_
    refine v_scr (j := i0 + 2) rfl (by omega) (by omega) hL hx2 ?_
    refine v_cv rfl rfl rfl rfl (by decide) ⟨⟨rfl, rfl⟩, by decide, rfl⟩ (Nat.le_of_ble_eq_true rfl) (Nat.le_of_ble_eq_true rfl) (s_214 (a1 := x1) (a2 := x2) hI_2 (show (-2147483648) ≤ x1 ∧ x1 ≤ 2147483647 from by omega) (show (-2147483648) ≤ x2 ∧ x2 ≤ 2147483647 from by omega) (fun c_11 y_14 hI_12 hF_13 hy_14 => ?_))
    refine bk_inl ?_
    refine q_istore rfl (by decide) ?_
    refine q_goto (t := 1844) rfl (by decide) ?_
    refine Wp_ls [(4, vi (i0 : Int)), (3, .ref 67), (2, .ref 41), (1, .ref 0), (0, .ref a_SC)] (lsub_cons rfl (lsub_cons rfl (lsub_cons rfl (lsub_cons rfl (lsub_cons rfl lsub_nil))))) ?_
    have h_15 := ir_1_3 hI
    have kn_16 : Hid (c_1 1 3 = c 1 3) := hF_3 1 3 (fun q => q.elim (fun h => absurd h.1 (nn rfl)) (fun h => absurd h.1 (nn rfl)))
    have kn_17 : Hid (c_11 1 3 = c 1 3) := (hF_13 1 3 (fun q => q.elim (fun h => absurd h.1 (nn rfl)) (fun h => absurd h (nn rfl)))).trans (hid kn_16)
    have h_18 : c_11 1 3 = c 1 3 := (hid kn_17)
    have h_19 := ir_41_2 hI
    have kn_20 : Hid (c_1 41 2 = c 41 2) := hF_3 41 2 (fun q => q.elim (fun h => absurd h.1 (nn rfl)) (fun h => absurd h.1 (nn rfl)))
    have kn_21 : Hid (c_11 41 2 = c 41 2) := (hF_13 41 2 (fun q => q.elim (fun h => absurd h.2 (ni rfl)) (fun h => absurd h (nn rfl)))).trans (hid kn_20)
    have h_22 : c_11 41 2 = c 41 2 := (hid kn_21)
    have kn_23 : Hid (c_1 P 0 = n0) := (hF_3 P 0 (fun q => q.elim (fun h => absurd h.1 (np0 hP rfl)) (fun h => absurd h.1 (np0 hP rfl)))).trans (hn0)
    have kn_24 : Hid (c_11 P 0 = n0) := (hF_13 P 0 (fun q => q.elim (fun h => absurd h.1 (np0 hP rfl)) (fun h => absurd h (np0 hP rfl)))).trans (hid kn_23)
    have h_25 : c_11 P 0 = n0 := (hid kn_24)
    have kn_26 : Hid (c_1 41 20 = n0) := (hF_3 41 20 (fun q => q.elim (fun h => absurd h.1 (nn rfl)) (fun h => absurd h.1 (nn rfl)))).trans (hm0)
    have kn_27 : Hid (c_11 41 20 = n0) := (hF_13 41 20 (fun q => q.elim (fun h => absurd h.2 (ni rfl)) (fun h => absurd h (nn rfl)))).trans (hid kn_26)
    have h_28 : c_11 41 20 = n0 := (hid kn_27)
    have kn_29 : Hid (c_1 P 1 = n1) := (hF_3 P 1 (fun q => q.elim (fun h => absurd h.1 (np0 hP rfl)) (fun h => absurd h.1 (np0 hP rfl)))).trans (hn1)
    have kn_30 : Hid (c_11 P 1 = n1) := (hF_13 P 1 (fun q => q.elim (fun h => absurd h.1 (np0 hP rfl)) (fun h => absurd h (np0 hP rfl)))).trans (hid kn_29)
    have h_31 : c_11 P 1 = n1 := (hid kn_30)
    have kn_32 : Hid (c_1 41 21 = n1) := (hF_3 41 21 (fun q => q.elim (fun h => absurd h.1 (nn rfl)) (fun h => absurd h.1 (nn rfl)))).trans (hm1)
    have kn_33 : Hid (c_11 41 21 = n1) := (hF_13 41 21 (fun q => q.elim (fun h => absurd h.2 (ni rfl)) (fun h => absurd h (nn rfl)))).trans (hid kn_32)
    have h_34 : c_11 41 21 = n1 := (hid kn_33)
    have kn_35 : Hid (c_1 P 2 = n2) := (hF_3 P 2 (fun q => q.elim (fun h => absurd h.1 (np0 hP rfl)) (fun h => absurd h.1 (np0 hP rfl)))).trans (hn2)
    have kn_36 : Hid (c_11 P 2 = n2) := (hF_13 P 2 (fun q => q.elim (fun h => absurd h.1 (np0 hP rfl)) (fun h => absurd h (np0 hP rfl)))).trans (hid kn_35)
    have h_37 : c_11 P 2 = n2 := (hid kn_36)
    have kn_38 : Hid (c_1 41 22 = n2) := (hF_3 41 22 (fun q => q.elim (fun h => absurd h.1 (nn rfl)) (fun h => absurd h.1 (nn rfl)))).trans (hm2)
    have kn_39 : Hid (c_11 41 22 = n2) := (hF_13 41 22 (fun q => q.elim (fun h => absurd h.2 (ni rfl)) (fun h => absurd h (nn rfl)))).trans (hid kn_38)
    have h_40 : c_11 41 22 = n2 := (hid kn_39)
    have kn_41 : Hid (c_1 P 3 = n3) := (hF_3 P 3 (fun q => q.elim (fun h => absurd h.1 (np0 hP rfl)) (fun h => absurd h.1 (np0 hP rfl)))).trans (hn3)
    have kn_42 : Hid (c_11 P 3 = n3) := (hF_13 P 3 (fun q => q.elim (fun h => absurd h.1 (np0 hP rfl)) (fun h => absurd h (np0 hP rfl)))).trans (hid kn_41)
    have h_43 : c_11 P 3 = n3 := (hid kn_42)
    have kn_44 : Hid (c_1 41 23 = n3) := (hF_3 41 23 (fun q => q.elim (fun h => absurd h.1 (nn rfl)) (fun h => absurd h.1 (nn rfl)))).trans (hm3)
    have kn_45 : Hid (c_11 41 23 = n3) := (hF_13 41 23 (fun q => q.elim (fun h => absurd h.2 (ni rfl)) (fun h => absurd h (nn rfl)))).trans (hid kn_44)
    have h_46 : c_11 41 23 = n3 := (hid kn_45)
    exact K P Q c_11 1 (by decide) hI_12 ⟨by omega, ub_fr hU (fun j => (hF_13 2 j (fun q => q.elim (fun h => absurd h.1 (nn rfl)) (fun h => absurd h (nn rfl)))).trans (hF_3 2 j (fun q => q.elim (fun h => absurd h.1 (nn rfl)) (fun h => absurd h.1 (nn rfl))))) (fun j => (hF_13 43 j (fun q => q.elim (fun h => absurd h.1 (nn rfl)) (fun h => absurd h (nn rfl)))).trans (hF_3 43 j (fun q => q.elim (fun h => absurd h.1 (nn rfl)) (fun h => absurd h.1 (nn rfl))))), ⟨by omega, by omega, by omega, by omega⟩⟩
  · skip
    refine bk_thr (z := Int32.ofInt 2) rfl ⟨_, _, rfl⟩ rfl ?_
    refine bk_inl ?_
    refine q_istore rfl (by decide) ?_
    refine q_aload_n rfl rfl ?_
    refine q_aload_n rfl rfl ?_
    refine q_iload rfl rfl ?_
    refine q_iconst rfl ?_
    refine v_iadd (v := (i0 : Int) + 1) rfl (by omega) ?_
    refine v_scr (j := i0 + 1) rfl (by omega) (by omega) hL hx1 ?_
    refine q_aload_n rfl rfl ?_
    refine q_iload rfl rfl ?_
    refine q_iconst rfl ?_
    refine v_iadd (v := (i0 : Int) + 2) rfl (by omega) ?_
    refine v_scr (j := i0 + 2) rfl (by omega) (by omega) hL hx2 ?_
    refine v_cv rfl rfl rfl rfl (by decide) ⟨⟨rfl, rfl⟩, by decide, rfl⟩ (Nat.le_of_ble_eq_true rfl) (Nat.le_of_ble_eq_true rfl) (s_214 (a1 := x1) (a2 := x2) hI_5 (show (-2147483648) ≤ x1 ∧ x1 ≤ 2147483647 from by omega) (show (-2147483648) ≤ x2 ∧ x2 ≤ 2147483647 from by omega) (fun c_47 y_50 hI_48 hF_49 hy_50 => ?_))
    refine bk_inl ?_
    refine q_istore rfl (by decide) ?_
    refine q_goto (t := 1844) rfl (by decide) ?_
    refine Wp_ls [(4, vi (i0 : Int)), (3, .ref 67), (2, .ref 41), (1, .ref 0), (0, .ref a_SC)] (lsub_cons rfl (lsub_cons rfl (lsub_cons rfl (lsub_cons rfl (lsub_cons rfl lsub_nil))))) ?_
    have h_51 := ir_1_3 hI
    have kn_52 : Hid (c_4 1 3 = c 1 3) := hF_6 1 3 (fun q => q.elim (fun h => absurd h.1 (nn rfl)) (fun h => absurd h.1 (nn rfl)))
    have kn_53 : Hid (c_47 1 3 = c 1 3) := (hF_49 1 3 (fun q => q.elim (fun h => absurd h.1 (nn rfl)) (fun h => absurd h (nn rfl)))).trans (hid kn_52)
    have h_54 : c_47 1 3 = c 1 3 := (hid kn_53)
    have h_55 := ir_41_2 hI
    have kn_56 : Hid (c_4 41 2 = c 41 2) := hF_6 41 2 (fun q => q.elim (fun h => absurd h.1 (nn rfl)) (fun h => absurd h.1 (nn rfl)))
    have kn_57 : Hid (c_47 41 2 = c 41 2) := (hF_49 41 2 (fun q => q.elim (fun h => absurd h.2 (ni rfl)) (fun h => absurd h (nn rfl)))).trans (hid kn_56)
    have h_58 : c_47 41 2 = c 41 2 := (hid kn_57)
    have kn_59 : Hid (c_4 P 0 = n0) := (hF_6 P 0 (fun q => q.elim (fun h => absurd h.1 (np0 hP rfl)) (fun h => absurd h.1 (np0 hP rfl)))).trans (hn0)
    have kn_60 : Hid (c_47 P 0 = n0) := (hF_49 P 0 (fun q => q.elim (fun h => absurd h.1 (np0 hP rfl)) (fun h => absurd h (np0 hP rfl)))).trans (hid kn_59)
    have h_61 : c_47 P 0 = n0 := (hid kn_60)
    have kn_62 : Hid (c_4 41 20 = n0) := (hF_6 41 20 (fun q => q.elim (fun h => absurd h.1 (nn rfl)) (fun h => absurd h.1 (nn rfl)))).trans (hm0)
    have kn_63 : Hid (c_47 41 20 = n0) := (hF_49 41 20 (fun q => q.elim (fun h => absurd h.2 (ni rfl)) (fun h => absurd h (nn rfl)))).trans (hid kn_62)
    have h_64 : c_47 41 20 = n0 := (hid kn_63)
    have kn_65 : Hid (c_4 P 1 = n1) := (hF_6 P 1 (fun q => q.elim (fun h => absurd h.1 (np0 hP rfl)) (fun h => absurd h.1 (np0 hP rfl)))).trans (hn1)
    have kn_66 : Hid (c_47 P 1 = n1) := (hF_49 P 1 (fun q => q.elim (fun h => absurd h.1 (np0 hP rfl)) (fun h => absurd h (np0 hP rfl)))).trans (hid kn_65)
    have h_67 : c_47 P 1 = n1 := (hid kn_66)
    have kn_68 : Hid (c_4 41 21 = n1) := (hF_6 41 21 (fun q => q.elim (fun h => absurd h.1 (nn rfl)) (fun h => absurd h.1 (nn rfl)))).trans (hm1)
    have kn_69 : Hid (c_47 41 21 = n1) := (hF_49 41 21 (fun q => q.elim (fun h => absurd h.2 (ni rfl)) (fun h => absurd h (nn rfl)))).trans (hid kn_68)
    have h_70 : c_47 41 21 = n1 := (hid kn_69)
    have kn_71 : Hid (c_4 P 2 = n2) := (hF_6 P 2 (fun q => q.elim (fun h => absurd h.1 (np0 hP rfl)) (fun h => absurd h.1 (np0 hP rfl)))).trans (hn2)
    have kn_72 : Hid (c_47 P 2 = n2) := (hF_49 P 2 (fun q => q.elim (fun h => absurd h.1 (np0 hP rfl)) (fun h => absurd h (np0 hP rfl)))).trans (hid kn_71)
    have h_73 : c_47 P 2 = n2 := (hid kn_72)
    have kn_74 : Hid (c_4 41 22 = n2) := (hF_6 41 22 (fun q => q.elim (fun h => absurd h.1 (nn rfl)) (fun h => absurd h.1 (nn rfl)))).trans (hm2)
    have kn_75 : Hid (c_47 41 22 = n2) := (hF_49 41 22 (fun q => q.elim (fun h => absurd h.2 (ni rfl)) (fun h => absurd h (nn rfl)))).trans (hid kn_74)
    have h_76 : c_47 41 22 = n2 := (hid kn_75)
    have kn_77 : Hid (c_4 P 3 = n3) := (hF_6 P 3 (fun q => q.elim (fun h => absurd h.1 (np0 hP rfl)) (fun h => absurd h.1 (np0 hP rfl)))).trans (hn3)
    have kn_78 : Hid (c_47 P 3 = n3) := (hF_49 P 3 (fun q => q.elim (fun h => absurd h.1 (np0 hP rfl)) (fun h => absurd h (np0 hP rfl)))).trans (hid kn_77)
    have h_79 : c_47 P 3 = n3 := (hid kn_78)
    have kn_80 : Hid (c_4 41 23 = n3) := (hF_6 41 23 (fun q => q.elim (fun h => absurd h.1 (nn rfl)) (fun h => absurd h.1 (nn rfl)))).trans (hm3)
    have kn_81 : Hid (c_47 41 23 = n3) := (hF_49 41 23 (fun q => q.elim (fun h => absurd h.2 (ni rfl)) (fun h => absurd h (nn rfl)))).trans (hid kn_80)
    have h_82 : c_47 41 23 = n3 := (hid kn_81)
    exact K P Q c_47 1 (by decide) hI_48 ⟨by omega, ub_fr hU (fun j => (hF_49 2 j (fun q => q.elim (fun h => absurd h.1 (nn rfl)) (fun h => absurd h (nn rfl)))).trans (hF_6 2 j (fun q => q.elim (fun h => absurd h.1 (nn rfl)) (fun h => absurd h.1 (nn rfl))))) (fun j => (hF_49 43 j (fun q => q.elim (fun h => absurd h.1 (nn rfl)) (fun h => absurd h (nn rfl)))).trans (hF_6 43 j (fun q => q.elim (fun h => absurd h.1 (nn rfl)) (fun h => absurd h.1 (nn rfl))))), ⟨by omega, by omega, by omega, by omega⟩⟩
  refine bk_inl ?_
  refine v_i2l rfl (by omega) ?_
  refine v_ls rfl rfl (by decide) (by decide) (by decide) ?_
  refine q_goto (t := 21) rfl (by decide) ?_
  refine q_iconst rfl ?_
  refine q_iret rfl rfl ?_
  refine bk_inl ?_
  refine q_istore rfl (by decide) ?_
  refine q_aload_n rfl rfl ?_
  refine q_aload_n rfl rfl ?_
  refine q_iload rfl rfl ?_
  refine q_iconst rfl ?_
  refine v_iadd (v := (i0 : Int) + 1) rfl (by omega) ?_
  refine v_scr (j := i0 + 1) rfl (by omega) (by omega) hL hx1 ?_
  refine q_aload_n rfl rfl ?_
  refine q_iload rfl rfl ?_
  refine q_iconst rfl ?_
  refine v_iadd (v := (i0 : Int) + 2) rfl (by omega) ?_
  refine v_scr (j := i0 + 2) rfl (by omega) (by omega) hL hx2 ?_
  have hI_83 := iw_lx (a := 67) (j := 0) (v := y_10) hI_8 (by omega)
  refine v_cv rfl rfl rfl rfl (by decide) ⟨⟨rfl, rfl⟩, by decide, rfl⟩ (Nat.le_of_ble_eq_true rfl) (Nat.le_of_ble_eq_true rfl) (s_214 (a1 := x1) (a2 := x2) hI_83 (show (-2147483648) ≤ x1 ∧ x1 ≤ 2147483647 from by omega) (show (-2147483648) ≤ x2 ∧ x2 ≤ 2147483647 from by omega) (fun c_84 y_87 hI_85 hF_86 hy_87 => ?_))
  refine bk_inl ?_
  refine q_istore rfl (by decide) ?_
  refine q_goto (t := 1844) rfl (by decide) ?_
  refine Wp_ls [(4, vi (i0 : Int)), (3, .ref 67), (2, .ref 41), (1, .ref 0), (0, .ref a_SC)] (lsub_cons rfl (lsub_cons rfl (lsub_cons rfl (lsub_cons rfl (lsub_cons rfl lsub_nil))))) ?_
  have h_88 := ir_1_3 hI
  have kn_89 : Hid (c_7 1 3 = c 1 3) := hF_9 1 3 (fun q => q.elim (fun h => absurd h.1 (nn rfl)) (fun h => absurd h.1 (nn rfl)))
  have kn_90 : Hid (c_84 1 3 = c 1 3) := (hF_86 1 3 (fun q => q.elim (fun h => absurd h.1 (nn rfl)) (fun h => absurd h (nn rfl)))).trans ((up_c (nn rfl)).trans (hid kn_89))
  have h_91 : c_84 1 3 = c 1 3 := (hid kn_90)
  have h_92 := ir_41_2 hI
  have kn_93 : Hid (c_7 41 2 = c 41 2) := hF_9 41 2 (fun q => q.elim (fun h => absurd h.1 (nn rfl)) (fun h => absurd h.1 (nn rfl)))
  have kn_94 : Hid (c_84 41 2 = c 41 2) := (hF_86 41 2 (fun q => q.elim (fun h => absurd h.2 (ni rfl)) (fun h => absurd h (nn rfl)))).trans ((up_c (nn rfl)).trans (hid kn_93))
  have h_95 : c_84 41 2 = c 41 2 := (hid kn_94)
  have kn_96 : Hid (c_7 P 0 = n0) := (hF_9 P 0 (fun q => q.elim (fun h => absurd h.1 (np0 hP rfl)) (fun h => absurd h.1 (np0 hP rfl)))).trans (hn0)
  have kn_97 : Hid (c_84 P 0 = n0) := (hF_86 P 0 (fun q => q.elim (fun h => absurd h.1 (np0 hP rfl)) (fun h => absurd h (np0 hP rfl)))).trans ((up_c (np0 hP rfl)).trans (hid kn_96))
  have h_98 : c_84 P 0 = n0 := (hid kn_97)
  have kn_99 : Hid (c_7 41 20 = n0) := (hF_9 41 20 (fun q => q.elim (fun h => absurd h.1 (nn rfl)) (fun h => absurd h.1 (nn rfl)))).trans (hm0)
  have kn_100 : Hid (c_84 41 20 = n0) := (hF_86 41 20 (fun q => q.elim (fun h => absurd h.2 (ni rfl)) (fun h => absurd h (nn rfl)))).trans ((up_c (nn rfl)).trans (hid kn_99))
  have h_101 : c_84 41 20 = n0 := (hid kn_100)
  have kn_102 : Hid (c_7 P 1 = n1) := (hF_9 P 1 (fun q => q.elim (fun h => absurd h.1 (np0 hP rfl)) (fun h => absurd h.1 (np0 hP rfl)))).trans (hn1)
  have kn_103 : Hid (c_84 P 1 = n1) := (hF_86 P 1 (fun q => q.elim (fun h => absurd h.1 (np0 hP rfl)) (fun h => absurd h (np0 hP rfl)))).trans ((up_c (np0 hP rfl)).trans (hid kn_102))
  have h_104 : c_84 P 1 = n1 := (hid kn_103)
  have kn_105 : Hid (c_7 41 21 = n1) := (hF_9 41 21 (fun q => q.elim (fun h => absurd h.1 (nn rfl)) (fun h => absurd h.1 (nn rfl)))).trans (hm1)
  have kn_106 : Hid (c_84 41 21 = n1) := (hF_86 41 21 (fun q => q.elim (fun h => absurd h.2 (ni rfl)) (fun h => absurd h (nn rfl)))).trans ((up_c (nn rfl)).trans (hid kn_105))
  have h_107 : c_84 41 21 = n1 := (hid kn_106)
  have kn_108 : Hid (c_7 P 2 = n2) := (hF_9 P 2 (fun q => q.elim (fun h => absurd h.1 (np0 hP rfl)) (fun h => absurd h.1 (np0 hP rfl)))).trans (hn2)
  have kn_109 : Hid (c_84 P 2 = n2) := (hF_86 P 2 (fun q => q.elim (fun h => absurd h.1 (np0 hP rfl)) (fun h => absurd h (np0 hP rfl)))).trans ((up_c (np0 hP rfl)).trans (hid kn_108))
  have h_110 : c_84 P 2 = n2 := (hid kn_109)
  have kn_111 : Hid (c_7 41 22 = n2) := (hF_9 41 22 (fun q => q.elim (fun h => absurd h.1 (nn rfl)) (fun h => absurd h.1 (nn rfl)))).trans (hm2)
  have kn_112 : Hid (c_84 41 22 = n2) := (hF_86 41 22 (fun q => q.elim (fun h => absurd h.2 (ni rfl)) (fun h => absurd h (nn rfl)))).trans ((up_c (nn rfl)).trans (hid kn_111))
  have h_113 : c_84 41 22 = n2 := (hid kn_112)
  have kn_114 : Hid (c_7 P 3 = n3) := (hF_9 P 3 (fun q => q.elim (fun h => absurd h.1 (np0 hP rfl)) (fun h => absurd h.1 (np0 hP rfl)))).trans (hn3)
  have kn_115 : Hid (c_84 P 3 = n3) := (hF_86 P 3 (fun q => q.elim (fun h => absurd h.1 (np0 hP rfl)) (fun h => absurd h (np0 hP rfl)))).trans ((up_c (np0 hP rfl)).trans (hid kn_114))
  have h_116 : c_84 P 3 = n3 := (hid kn_115)
  have kn_117 : Hid (c_7 41 23 = n3) := (hF_9 41 23 (fun q => q.elim (fun h => absurd h.1 (nn rfl)) (fun h => absurd h.1 (nn rfl)))).trans (hm3)
  have kn_118 : Hid (c_84 41 23 = n3) := (hF_86 41 23 (fun q => q.elim (fun h => absurd h.2 (ni rfl)) (fun h => absurd h (nn rfl)))).trans ((up_c (nn rfl)).trans (hid kn_117))
  have h_119 : c_84 41 23 = n3 := (hid kn_118)
  exact K P Q c_84 0 (by decide) hI_85 ⟨by omega, ub_fr hU (fun j => (hF_86 2 j (fun q => q.elim (fun h => absurd h.1 (nn rfl)) (fun h => absurd h (nn rfl)))).trans ((up_c (nn rfl)).trans (hF_9 2 j (fun q => q.elim (fun h => absurd h.1 (nn rfl)) (fun h => absurd h.1 (nn rfl)))))) (fun j => (hF_86 43 j (fun q => q.elim (fun h => absurd h.1 (nn rfl)) (fun h => absurd h (nn rfl)))).trans ((up_c (nn rfl)).trans (hF_9 43 j (fun q => q.elim (fun h => absurd h.1 (nn rfl)) (fun h => absurd h.1 (nn rfl)))))), ⟨by omega, by omega, by omega, by omega⟩⟩

set_option maxRecDepth 100000 in
set_option maxHeartbeats 4000000 in
theorem o_11 {xs : Nat → Int32} {L i0 d nc ns P Q : Nat} {c : ME} {Z : AR → Prop} (hi : i0 + 8 ≤ L) (hL : L ≤ 100000) (hI : Iv 0 (-1) P Q c) (hR : Rq P c) (K : ∀ (P2 Q2 : Nat) (c2 : ME) (e : Nat), e ≤ 1 → Iv 0 (-1) P2 Q2 c2 → (Rq P2 c2) → Wp (a_scr L xs) (d + 90) 296 1844 [(4, vi (i0 : Int)), (3, .ref 67), (2, .ref 41), (1, .ref 0), (0, .ref a_SC)] [] (Wd P2 Q2 P2 P2 c2) (nc + e) (ns + 6 * e) Z) : Wp (a_scr L xs) (d + 90) 296 603 [(4, vi (i0 : Int)), (3, .ref 67), (2, .ref 41), (1, .ref 0), (0, .ref a_SC)] [] (Wd P Q P P c) nc ns Z := by
  obtain ⟨x1, hx1⟩ : ∃ z, (xs (i0 + 1)).toInt = z := ⟨_, rfl⟩
  have x1r := c_rng (xs (i0 + 1))
  rw [hx1] at x1r
  obtain ⟨x2, hx2⟩ : ∃ z, (xs (i0 + 2)).toInt = z := ⟨_, rfl⟩
  have x2r := c_rng (xs (i0 + 2))
  rw [hx2] at x2r
  obtain ⟨x3, hx3⟩ : ∃ z, (xs (i0 + 3)).toInt = z := ⟨_, rfl⟩
  have x3r := c_rng (xs (i0 + 3))
  rw [hx3] at x3r
  obtain ⟨x4, hx4⟩ : ∃ z, (xs (i0 + 4)).toInt = z := ⟨_, rfl⟩
  have x4r := c_rng (xs (i0 + 4))
  rw [hx4] at x4r
  obtain ⟨x5, hx5⟩ : ∃ z, (xs (i0 + 5)).toInt = z := ⟨_, rfl⟩
  have x5r := c_rng (xs (i0 + 5))
  rw [hx5] at x5r
  obtain ⟨x6, hx6⟩ : ∃ z, (xs (i0 + 6)).toInt = z := ⟨_, rfl⟩
  have x6r := c_rng (xs (i0 + 6))
  rw [hx6] at x6r
  obtain ⟨x7, hx7⟩ : ∃ z, (xs (i0 + 7)).toInt = z := ⟨_, rfl⟩
  have x7r := c_rng (xs (i0 + 7))
  rw [hx7] at x7r
  have hT := rl_t hR
  have hU := rl_u hR
  have hP := iv_P hI
  obtain ⟨n0, hn0⟩ : ∃ z, c P 0 = z := ⟨_, rfl⟩
  have hm0 : c 41 20 = n0 := (rl_nums hR).1.symm.trans hn0
  have hr0 := ir_p0_0 hI hP
  rw [hn0] at hr0
  obtain ⟨n1, hn1⟩ : ∃ z, c P 1 = z := ⟨_, rfl⟩
  have hm1 : c 41 21 = n1 := (rl_nums hR).2.1.symm.trans hn1
  have hr1 := ir_p0_1 hI hP
  rw [hn1] at hr1
  obtain ⟨n2, hn2⟩ : ∃ z, c P 2 = z := ⟨_, rfl⟩
  have hm2 : c 41 22 = n2 := (rl_nums hR).2.2.1.symm.trans hn2
  have hr2 := ir_p0_2 hI hP
  rw [hn2] at hr2
  obtain ⟨n3, hn3⟩ : ∃ z, c P 3 = z := ⟨_, rfl⟩
  have hm3 : c 41 23 = n3 := (rl_nums hR).2.2.2.symm.trans hn3
  have hr3 := ir_p0_3 hI hP
  rw [hn3] at hr3
  have hP := iv_P hI
  have hQ := iv_Q hI
  refine q_aload_n rfl rfl ?_
  refine q_aload_n rfl rfl ?_
  refine q_iload rfl rfl ?_
  refine q_iconst rfl ?_
  refine v_iadd (v := (i0 : Int) + 1) rfl (by omega) ?_
  refine v_scr (j := i0 + 1) rfl (by omega) (by omega) hL hx1 ?_
  refine q_aload_n rfl rfl ?_
  refine q_iload rfl rfl ?_
  refine q_iconst rfl ?_
  refine v_iadd (v := (i0 : Int) + 2) rfl (by omega) ?_
  refine v_scr (j := i0 + 2) rfl (by omega) (by omega) hL hx2 ?_
  refine q_aload_n rfl rfl ?_
  refine q_call rfl rfl rfl rfl ?_
  refine q_aload_n rfl rfl ?_
  refine q_iconst rfl ?_
  refine q_aload_n rfl rfl ?_
  refine q_iload_n rfl rfl ?_
  refine q_iload_n rfl rfl ?_
  refine v_cv rfl rfl rfl rfl (by decide) ⟨⟨rfl, rfl⟩, by decide, rfl⟩ (Nat.le_of_ble_eq_true rfl) (Nat.le_of_ble_eq_true rfl) (s_97 (a1 := x1) (a2 := x2) hI (show (-2147483648) ≤ x1 ∧ x1 ≤ 2147483647 from by omega) (show (-2147483648) ≤ x2 ∧ x2 ≤ 2147483647 from by omega) (fun c_1 hI_2 hF_3 => ?_) (fun c_4 hI_5 hF_6 => ?_) (fun c_7 y_10 hI_8 hF_9 hy_10 => ?_))
  · skip
    refine bk_thr (z := Int32.ofInt 1) rfl ⟨_, _, rfl⟩ rfl ?_
    refine bk_inl ?_
    refine q_istore rfl (by decide) ?_
    refine q_aload_n rfl rfl ?_
    refine q_aload_n rfl rfl ?_
    refine q_iload rfl rfl ?_
    refine q_iconst rfl ?_
    refine v_iadd (v := (i0 : Int) + 1) rfl (by omega) ?_
    refine v_scr (j := i0 + 1) rfl (by omega) (by omega) hL hx1 ?_
    refine q_aload_n rfl rfl ?_
    refine q_iload rfl rfl ?_
    refine q_iconst rfl ?_
    refine v_iadd (v := (i0 : Int) + 2) rfl (by omega) ?_
    refine v_scr (j := i0 + 2) rfl (by omega) (by omega) hL hx2 ?_
    refine v_cv rfl rfl rfl rfl (by decide) ⟨⟨rfl, rfl⟩, by decide, rfl⟩ (Nat.le_of_ble_eq_true rfl) (Nat.le_of_ble_eq_true rfl) (s_215 (a1 := x1) (a2 := x2) hI_2 (show (-2147483648) ≤ x1 ∧ x1 ≤ 2147483647 from by omega) (show (-2147483648) ≤ x2 ∧ x2 ≤ 2147483647 from by omega) (fun c_11 y_14 hI_12 hF_13 hy_14 => ?_))
    refine bk_inl ?_
    refine q_istore rfl (by decide) ?_
    refine q_goto (t := 1844) rfl (by decide) ?_
    refine Wp_ls [(4, vi (i0 : Int)), (3, .ref 67), (2, .ref 41), (1, .ref 0), (0, .ref a_SC)] (lsub_cons rfl (lsub_cons rfl (lsub_cons rfl (lsub_cons rfl (lsub_cons rfl lsub_nil))))) ?_
    have h_15 := ir_1_3 hI
    have kn_16 : Hid (c_1 1 3 = c 1 3) := hF_3 1 3 (fun q => q.elim (fun h => absurd h.1 (nn rfl)) (fun h => absurd h.1 (nn rfl)))
    have kn_17 : Hid (c_11 1 3 = c 1 3) := (hF_13 1 3 (fun q => q.elim (fun h => absurd h.1 (nn rfl)) (fun h => absurd h (nn rfl)))).trans (hid kn_16)
    have h_18 : c_11 1 3 = c 1 3 := (hid kn_17)
    have h_19 := ir_41_2 hI
    have kn_20 : Hid (c_1 41 2 = c 41 2) := hF_3 41 2 (fun q => q.elim (fun h => absurd h.1 (nn rfl)) (fun h => absurd h.1 (nn rfl)))
    have kn_21 : Hid (c_11 41 2 = c 41 2) := (hF_13 41 2 (fun q => q.elim (fun h => absurd h.2 (ni rfl)) (fun h => absurd h (nn rfl)))).trans (hid kn_20)
    have h_22 : c_11 41 2 = c 41 2 := (hid kn_21)
    have kn_23 : Hid (c_1 P 0 = n0) := (hF_3 P 0 (fun q => q.elim (fun h => absurd h.1 (np0 hP rfl)) (fun h => absurd h.1 (np0 hP rfl)))).trans (hn0)
    have kn_24 : Hid (c_11 P 0 = n0) := (hF_13 P 0 (fun q => q.elim (fun h => absurd h.1 (np0 hP rfl)) (fun h => absurd h (np0 hP rfl)))).trans (hid kn_23)
    have h_25 : c_11 P 0 = n0 := (hid kn_24)
    have kn_26 : Hid (c_1 41 20 = n0) := (hF_3 41 20 (fun q => q.elim (fun h => absurd h.1 (nn rfl)) (fun h => absurd h.1 (nn rfl)))).trans (hm0)
    have kn_27 : Hid (c_11 41 20 = n0) := (hF_13 41 20 (fun q => q.elim (fun h => absurd h.2 (ni rfl)) (fun h => absurd h (nn rfl)))).trans (hid kn_26)
    have h_28 : c_11 41 20 = n0 := (hid kn_27)
    have kn_29 : Hid (c_1 P 1 = n1) := (hF_3 P 1 (fun q => q.elim (fun h => absurd h.1 (np0 hP rfl)) (fun h => absurd h.1 (np0 hP rfl)))).trans (hn1)
    have kn_30 : Hid (c_11 P 1 = n1) := (hF_13 P 1 (fun q => q.elim (fun h => absurd h.1 (np0 hP rfl)) (fun h => absurd h (np0 hP rfl)))).trans (hid kn_29)
    have h_31 : c_11 P 1 = n1 := (hid kn_30)
    have kn_32 : Hid (c_1 41 21 = n1) := (hF_3 41 21 (fun q => q.elim (fun h => absurd h.1 (nn rfl)) (fun h => absurd h.1 (nn rfl)))).trans (hm1)
    have kn_33 : Hid (c_11 41 21 = n1) := (hF_13 41 21 (fun q => q.elim (fun h => absurd h.2 (ni rfl)) (fun h => absurd h (nn rfl)))).trans (hid kn_32)
    have h_34 : c_11 41 21 = n1 := (hid kn_33)
    have kn_35 : Hid (c_1 P 2 = n2) := (hF_3 P 2 (fun q => q.elim (fun h => absurd h.1 (np0 hP rfl)) (fun h => absurd h.1 (np0 hP rfl)))).trans (hn2)
    have kn_36 : Hid (c_11 P 2 = n2) := (hF_13 P 2 (fun q => q.elim (fun h => absurd h.1 (np0 hP rfl)) (fun h => absurd h (np0 hP rfl)))).trans (hid kn_35)
    have h_37 : c_11 P 2 = n2 := (hid kn_36)
    have kn_38 : Hid (c_1 41 22 = n2) := (hF_3 41 22 (fun q => q.elim (fun h => absurd h.1 (nn rfl)) (fun h => absurd h.1 (nn rfl)))).trans (hm2)
    have kn_39 : Hid (c_11 41 22 = n2) := (hF_13 41 22 (fun q => q.elim (fun h => absurd h.2 (ni rfl)) (fun h => absurd h (nn rfl)))).trans (hid kn_38)
    have h_40 : c_11 41 22 = n2 := (hid kn_39)
    have kn_41 : Hid (c_1 P 3 = n3) := (hF_3 P 3 (fun q => q.elim (fun h => absurd h.1 (np0 hP rfl)) (fun h => absurd h.1 (np0 hP rfl)))).trans (hn3)
    have kn_42 : Hid (c_11 P 3 = n3) := (hF_13 P 3 (fun q => q.elim (fun h => absurd h.1 (np0 hP rfl)) (fun h => absurd h (np0 hP rfl)))).trans (hid kn_41)
    have h_43 : c_11 P 3 = n3 := (hid kn_42)
    have kn_44 : Hid (c_1 41 23 = n3) := (hF_3 41 23 (fun q => q.elim (fun h => absurd h.1 (nn rfl)) (fun h => absurd h.1 (nn rfl)))).trans (hm3)
    have kn_45 : Hid (c_11 41 23 = n3) := (hF_13 41 23 (fun q => q.elim (fun h => absurd h.2 (ni rfl)) (fun h => absurd h (nn rfl)))).trans (hid kn_44)
    have h_46 : c_11 41 23 = n3 := (hid kn_45)
    exact K P Q c_11 1 (by decide) hI_12 ⟨by omega, ub_fr hU (fun j => (hF_13 2 j (fun q => q.elim (fun h => absurd h.1 (nn rfl)) (fun h => absurd h (nn rfl)))).trans (hF_3 2 j (fun q => q.elim (fun h => absurd h.1 (nn rfl)) (fun h => absurd h.1 (nn rfl))))) (fun j => (hF_13 43 j (fun q => q.elim (fun h => absurd h.1 (nn rfl)) (fun h => absurd h (nn rfl)))).trans (hF_3 43 j (fun q => q.elim (fun h => absurd h.1 (nn rfl)) (fun h => absurd h.1 (nn rfl))))), ⟨by omega, by omega, by omega, by omega⟩⟩
  · skip
    refine bk_thr (z := Int32.ofInt 2) rfl ⟨_, _, rfl⟩ rfl ?_
    refine bk_inl ?_
    refine q_istore rfl (by decide) ?_
    refine q_aload_n rfl rfl ?_
    refine q_aload_n rfl rfl ?_
    refine q_iload rfl rfl ?_
    refine q_iconst rfl ?_
    refine v_iadd (v := (i0 : Int) + 1) rfl (by omega) ?_
    refine v_scr (j := i0 + 1) rfl (by omega) (by omega) hL hx1 ?_
    refine q_aload_n rfl rfl ?_
    refine q_iload rfl rfl ?_
    refine q_iconst rfl ?_
    refine v_iadd (v := (i0 : Int) + 2) rfl (by omega) ?_
    refine v_scr (j := i0 + 2) rfl (by omega) (by omega) hL hx2 ?_
    refine v_cv rfl rfl rfl rfl (by decide) ⟨⟨rfl, rfl⟩, by decide, rfl⟩ (Nat.le_of_ble_eq_true rfl) (Nat.le_of_ble_eq_true rfl) (s_215 (a1 := x1) (a2 := x2) hI_5 (show (-2147483648) ≤ x1 ∧ x1 ≤ 2147483647 from by omega) (show (-2147483648) ≤ x2 ∧ x2 ≤ 2147483647 from by omega) (fun c_47 y_50 hI_48 hF_49 hy_50 => ?_))
    refine bk_inl ?_
    refine q_istore rfl (by decide) ?_
    refine q_goto (t := 1844) rfl (by decide) ?_
    refine Wp_ls [(4, vi (i0 : Int)), (3, .ref 67), (2, .ref 41), (1, .ref 0), (0, .ref a_SC)] (lsub_cons rfl (lsub_cons rfl (lsub_cons rfl (lsub_cons rfl (lsub_cons rfl lsub_nil))))) ?_
    have h_51 := ir_1_3 hI
    have kn_52 : Hid (c_4 1 3 = c 1 3) := hF_6 1 3 (fun q => q.elim (fun h => absurd h.1 (nn rfl)) (fun h => absurd h.1 (nn rfl)))
    have kn_53 : Hid (c_47 1 3 = c 1 3) := (hF_49 1 3 (fun q => q.elim (fun h => absurd h.1 (nn rfl)) (fun h => absurd h (nn rfl)))).trans (hid kn_52)
    have h_54 : c_47 1 3 = c 1 3 := (hid kn_53)
    have h_55 := ir_41_2 hI
    have kn_56 : Hid (c_4 41 2 = c 41 2) := hF_6 41 2 (fun q => q.elim (fun h => absurd h.1 (nn rfl)) (fun h => absurd h.1 (nn rfl)))
    have kn_57 : Hid (c_47 41 2 = c 41 2) := (hF_49 41 2 (fun q => q.elim (fun h => absurd h.2 (ni rfl)) (fun h => absurd h (nn rfl)))).trans (hid kn_56)
    have h_58 : c_47 41 2 = c 41 2 := (hid kn_57)
    have kn_59 : Hid (c_4 P 0 = n0) := (hF_6 P 0 (fun q => q.elim (fun h => absurd h.1 (np0 hP rfl)) (fun h => absurd h.1 (np0 hP rfl)))).trans (hn0)
    have kn_60 : Hid (c_47 P 0 = n0) := (hF_49 P 0 (fun q => q.elim (fun h => absurd h.1 (np0 hP rfl)) (fun h => absurd h (np0 hP rfl)))).trans (hid kn_59)
    have h_61 : c_47 P 0 = n0 := (hid kn_60)
    have kn_62 : Hid (c_4 41 20 = n0) := (hF_6 41 20 (fun q => q.elim (fun h => absurd h.1 (nn rfl)) (fun h => absurd h.1 (nn rfl)))).trans (hm0)
    have kn_63 : Hid (c_47 41 20 = n0) := (hF_49 41 20 (fun q => q.elim (fun h => absurd h.2 (ni rfl)) (fun h => absurd h (nn rfl)))).trans (hid kn_62)
    have h_64 : c_47 41 20 = n0 := (hid kn_63)
    have kn_65 : Hid (c_4 P 1 = n1) := (hF_6 P 1 (fun q => q.elim (fun h => absurd h.1 (np0 hP rfl)) (fun h => absurd h.1 (np0 hP rfl)))).trans (hn1)
    have kn_66 : Hid (c_47 P 1 = n1) := (hF_49 P 1 (fun q => q.elim (fun h => absurd h.1 (np0 hP rfl)) (fun h => absurd h (np0 hP rfl)))).trans (hid kn_65)
    have h_67 : c_47 P 1 = n1 := (hid kn_66)
    have kn_68 : Hid (c_4 41 21 = n1) := (hF_6 41 21 (fun q => q.elim (fun h => absurd h.1 (nn rfl)) (fun h => absurd h.1 (nn rfl)))).trans (hm1)
    have kn_69 : Hid (c_47 41 21 = n1) := (hF_49 41 21 (fun q => q.elim (fun h => absurd h.2 (ni rfl)) (fun h => absurd h (nn rfl)))).trans (hid kn_68)
    have h_70 : c_47 41 21 = n1 := (hid kn_69)
    have kn_71 : Hid (c_4 P 2 = n2) := (hF_6 P 2 (fun q => q.elim (fun h => absurd h.1 (np0 hP rfl)) (fun h => absurd h.1 (np0 hP rfl)))).trans (hn2)
    have kn_72 : Hid (c_47 P 2 = n2) := (hF_49 P 2 (fun q => q.elim (fun h => absurd h.1 (np0 hP rfl)) (fun h => absurd h (np0 hP rfl)))).trans (hid kn_71)
    have h_73 : c_47 P 2 = n2 := (hid kn_72)
    have kn_74 : Hid (c_4 41 22 = n2) := (hF_6 41 22 (fun q => q.elim (fun h => absurd h.1 (nn rfl)) (fun h => absurd h.1 (nn rfl)))).trans (hm2)
    have kn_75 : Hid (c_47 41 22 = n2) := (hF_49 41 22 (fun q => q.elim (fun h => absurd h.2 (ni rfl)) (fun h => absurd h (nn rfl)))).trans (hid kn_74)
    have h_76 : c_47 41 22 = n2 := (hid kn_75)
    have kn_77 : Hid (c_4 P 3 = n3) := (hF_6 P 3 (fun q => q.elim (fun h => absurd h.1 (np0 hP rfl)) (fun h => absurd h.1 (np0 hP rfl)))).trans (hn3)
    have kn_78 : Hid (c_47 P 3 = n3) := (hF_49 P 3 (fun q => q.elim (fun h => absurd h.1 (np0 hP rfl)) (fun h => absurd h (np0 hP rfl)))).trans (hid kn_77)
    have h_79 : c_47 P 3 = n3 := (hid kn_78)
    have kn_80 : Hid (c_4 41 23 = n3) := (hF_6 41 23 (fun q => q.elim (fun h => absurd h.1 (nn rfl)) (fun h => absurd h.1 (nn rfl)))).trans (hm3)
    have kn_81 : Hid (c_47 41 23 = n3) := (hF_49 41 23 (fun q => q.elim (fun h => absurd h.2 (ni rfl)) (fun h => absurd h (nn rfl)))).trans (hid kn_80)
    have h_82 : c_47 41 23 = n3 := (hid kn_81)
    exact K P Q c_47 1 (by decide) hI_48 ⟨by omega, ub_fr hU (fun j => (hF_49 2 j (fun q => q.elim (fun h => absurd h.1 (nn rfl)) (fun h => absurd h (nn rfl)))).trans (hF_6 2 j (fun q => q.elim (fun h => absurd h.1 (nn rfl)) (fun h => absurd h.1 (nn rfl))))) (fun j => (hF_49 43 j (fun q => q.elim (fun h => absurd h.1 (nn rfl)) (fun h => absurd h (nn rfl)))).trans (hF_6 43 j (fun q => q.elim (fun h => absurd h.1 (nn rfl)) (fun h => absurd h.1 (nn rfl))))), ⟨by omega, by omega, by omega, by omega⟩⟩
  refine bk_inl ?_
  refine v_i2l rfl (by omega) ?_
  refine v_ls rfl rfl (by decide) (by decide) (by decide) ?_
  refine q_goto (t := 21) rfl (by decide) ?_
  refine q_iconst rfl ?_
  refine q_iret rfl rfl ?_
  refine bk_inl ?_
  refine q_istore rfl (by decide) ?_
  refine q_aload_n rfl rfl ?_
  refine q_aload_n rfl rfl ?_
  refine q_iload rfl rfl ?_
  refine q_iconst rfl ?_
  refine v_iadd (v := (i0 : Int) + 1) rfl (by omega) ?_
  refine v_scr (j := i0 + 1) rfl (by omega) (by omega) hL hx1 ?_
  refine q_aload_n rfl rfl ?_
  refine q_iload rfl rfl ?_
  refine q_iconst rfl ?_
  refine v_iadd (v := (i0 : Int) + 2) rfl (by omega) ?_
  refine v_scr (j := i0 + 2) rfl (by omega) (by omega) hL hx2 ?_
  have hI_83 := iw_lx (a := 67) (j := 0) (v := y_10) hI_8 (by omega)
  refine v_cv rfl rfl rfl rfl (by decide) ⟨⟨rfl, rfl⟩, by decide, rfl⟩ (Nat.le_of_ble_eq_true rfl) (Nat.le_of_ble_eq_true rfl) (s_215 (a1 := x1) (a2 := x2) hI_83 (show (-2147483648) ≤ x1 ∧ x1 ≤ 2147483647 from by omega) (show (-2147483648) ≤ x2 ∧ x2 ≤ 2147483647 from by omega) (fun c_84 y_87 hI_85 hF_86 hy_87 => ?_))
  refine bk_inl ?_
  refine q_istore rfl (by decide) ?_
  refine q_goto (t := 1844) rfl (by decide) ?_
  refine Wp_ls [(4, vi (i0 : Int)), (3, .ref 67), (2, .ref 41), (1, .ref 0), (0, .ref a_SC)] (lsub_cons rfl (lsub_cons rfl (lsub_cons rfl (lsub_cons rfl (lsub_cons rfl lsub_nil))))) ?_
  have h_88 := ir_1_3 hI
  have kn_89 : Hid (c_7 1 3 = c 1 3) := hF_9 1 3 (fun q => q.elim (fun h => absurd h.1 (nn rfl)) (fun h => absurd h.1 (nn rfl)))
  have kn_90 : Hid (c_84 1 3 = c 1 3) := (hF_86 1 3 (fun q => q.elim (fun h => absurd h.1 (nn rfl)) (fun h => absurd h (nn rfl)))).trans ((up_c (nn rfl)).trans (hid kn_89))
  have h_91 : c_84 1 3 = c 1 3 := (hid kn_90)
  have h_92 := ir_41_2 hI
  have kn_93 : Hid (c_7 41 2 = c 41 2) := hF_9 41 2 (fun q => q.elim (fun h => absurd h.1 (nn rfl)) (fun h => absurd h.1 (nn rfl)))
  have kn_94 : Hid (c_84 41 2 = c 41 2) := (hF_86 41 2 (fun q => q.elim (fun h => absurd h.2 (ni rfl)) (fun h => absurd h (nn rfl)))).trans ((up_c (nn rfl)).trans (hid kn_93))
  have h_95 : c_84 41 2 = c 41 2 := (hid kn_94)
  have kn_96 : Hid (c_7 P 0 = n0) := (hF_9 P 0 (fun q => q.elim (fun h => absurd h.1 (np0 hP rfl)) (fun h => absurd h.1 (np0 hP rfl)))).trans (hn0)
  have kn_97 : Hid (c_84 P 0 = n0) := (hF_86 P 0 (fun q => q.elim (fun h => absurd h.1 (np0 hP rfl)) (fun h => absurd h (np0 hP rfl)))).trans ((up_c (np0 hP rfl)).trans (hid kn_96))
  have h_98 : c_84 P 0 = n0 := (hid kn_97)
  have kn_99 : Hid (c_7 41 20 = n0) := (hF_9 41 20 (fun q => q.elim (fun h => absurd h.1 (nn rfl)) (fun h => absurd h.1 (nn rfl)))).trans (hm0)
  have kn_100 : Hid (c_84 41 20 = n0) := (hF_86 41 20 (fun q => q.elim (fun h => absurd h.2 (ni rfl)) (fun h => absurd h (nn rfl)))).trans ((up_c (nn rfl)).trans (hid kn_99))
  have h_101 : c_84 41 20 = n0 := (hid kn_100)
  have kn_102 : Hid (c_7 P 1 = n1) := (hF_9 P 1 (fun q => q.elim (fun h => absurd h.1 (np0 hP rfl)) (fun h => absurd h.1 (np0 hP rfl)))).trans (hn1)
  have kn_103 : Hid (c_84 P 1 = n1) := (hF_86 P 1 (fun q => q.elim (fun h => absurd h.1 (np0 hP rfl)) (fun h => absurd h (np0 hP rfl)))).trans ((up_c (np0 hP rfl)).trans (hid kn_102))
  have h_104 : c_84 P 1 = n1 := (hid kn_103)
  have kn_105 : Hid (c_7 41 21 = n1) := (hF_9 41 21 (fun q => q.elim (fun h => absurd h.1 (nn rfl)) (fun h => absurd h.1 (nn rfl)))).trans (hm1)
  have kn_106 : Hid (c_84 41 21 = n1) := (hF_86 41 21 (fun q => q.elim (fun h => absurd h.2 (ni rfl)) (fun h => absurd h (nn rfl)))).trans ((up_c (nn rfl)).trans (hid kn_105))
  have h_107 : c_84 41 21 = n1 := (hid kn_106)
  have kn_108 : Hid (c_7 P 2 = n2) := (hF_9 P 2 (fun q => q.elim (fun h => absurd h.1 (np0 hP rfl)) (fun h => absurd h.1 (np0 hP rfl)))).trans (hn2)
  have kn_109 : Hid (c_84 P 2 = n2) := (hF_86 P 2 (fun q => q.elim (fun h => absurd h.1 (np0 hP rfl)) (fun h => absurd h (np0 hP rfl)))).trans ((up_c (np0 hP rfl)).trans (hid kn_108))
  have h_110 : c_84 P 2 = n2 := (hid kn_109)
  have kn_111 : Hid (c_7 41 22 = n2) := (hF_9 41 22 (fun q => q.elim (fun h => absurd h.1 (nn rfl)) (fun h => absurd h.1 (nn rfl)))).trans (hm2)
  have kn_112 : Hid (c_84 41 22 = n2) := (hF_86 41 22 (fun q => q.elim (fun h => absurd h.2 (ni rfl)) (fun h => absurd h (nn rfl)))).trans ((up_c (nn rfl)).trans (hid kn_111))
  have h_113 : c_84 41 22 = n2 := (hid kn_112)
  have kn_114 : Hid (c_7 P 3 = n3) := (hF_9 P 3 (fun q => q.elim (fun h => absurd h.1 (np0 hP rfl)) (fun h => absurd h.1 (np0 hP rfl)))).trans (hn3)
  have kn_115 : Hid (c_84 P 3 = n3) := (hF_86 P 3 (fun q => q.elim (fun h => absurd h.1 (np0 hP rfl)) (fun h => absurd h (np0 hP rfl)))).trans ((up_c (np0 hP rfl)).trans (hid kn_114))
  have h_116 : c_84 P 3 = n3 := (hid kn_115)
  have kn_117 : Hid (c_7 41 23 = n3) := (hF_9 41 23 (fun q => q.elim (fun h => absurd h.1 (nn rfl)) (fun h => absurd h.1 (nn rfl)))).trans (hm3)
  have kn_118 : Hid (c_84 41 23 = n3) := (hF_86 41 23 (fun q => q.elim (fun h => absurd h.2 (ni rfl)) (fun h => absurd h (nn rfl)))).trans ((up_c (nn rfl)).trans (hid kn_117))
  have h_119 : c_84 41 23 = n3 := (hid kn_118)
  exact K P Q c_84 0 (by decide) hI_85 ⟨by omega, ub_fr hU (fun j => (hF_86 2 j (fun q => q.elim (fun h => absurd h.1 (nn rfl)) (fun h => absurd h (nn rfl)))).trans ((up_c (nn rfl)).trans (hF_9 2 j (fun q => q.elim (fun h => absurd h.1 (nn rfl)) (fun h => absurd h.1 (nn rfl)))))) (fun j => (hF_86 43 j (fun q => q.elim (fun h => absurd h.1 (nn rfl)) (fun h => absurd h (nn rfl)))).trans ((up_c (nn rfl)).trans (hF_9 43 j (fun q => q.elim (fun h => absurd h.1 (nn rfl)) (fun h => absurd h.1 (nn rfl)))))), ⟨by omega, by omega, by omega, by omega⟩⟩

set_option maxRecDepth 100000 in
set_option maxHeartbeats 4000000 in
theorem o_12 {xs : Nat → Int32} {L i0 d nc ns P Q : Nat} {c : ME} {Z : AR → Prop} (hi : i0 + 8 ≤ L) (hL : L ≤ 100000) (hI : Iv 0 (-1) P Q c) (hR : Rq P c) (K : ∀ (P2 Q2 : Nat) (c2 : ME) (e : Nat), e ≤ 1 → Iv 0 (-1) P2 Q2 c2 → (Rq P2 c2) → Wp (a_scr L xs) (d + 90) 296 1844 [(4, vi (i0 : Int)), (3, .ref 67), (2, .ref 41), (1, .ref 0), (0, .ref a_SC)] [] (Wd P2 Q2 P2 P2 c2) (nc + e) (ns + 6 * e) Z) : Wp (a_scr L xs) (d + 90) 296 643 [(4, vi (i0 : Int)), (3, .ref 67), (2, .ref 41), (1, .ref 0), (0, .ref a_SC)] [] (Wd P Q P P c) nc ns Z := by
  obtain ⟨x1, hx1⟩ : ∃ z, (xs (i0 + 1)).toInt = z := ⟨_, rfl⟩
  have x1r := c_rng (xs (i0 + 1))
  rw [hx1] at x1r
  obtain ⟨x2, hx2⟩ : ∃ z, (xs (i0 + 2)).toInt = z := ⟨_, rfl⟩
  have x2r := c_rng (xs (i0 + 2))
  rw [hx2] at x2r
  obtain ⟨x3, hx3⟩ : ∃ z, (xs (i0 + 3)).toInt = z := ⟨_, rfl⟩
  have x3r := c_rng (xs (i0 + 3))
  rw [hx3] at x3r
  obtain ⟨x4, hx4⟩ : ∃ z, (xs (i0 + 4)).toInt = z := ⟨_, rfl⟩
  have x4r := c_rng (xs (i0 + 4))
  rw [hx4] at x4r
  obtain ⟨x5, hx5⟩ : ∃ z, (xs (i0 + 5)).toInt = z := ⟨_, rfl⟩
  have x5r := c_rng (xs (i0 + 5))
  rw [hx5] at x5r
  obtain ⟨x6, hx6⟩ : ∃ z, (xs (i0 + 6)).toInt = z := ⟨_, rfl⟩
  have x6r := c_rng (xs (i0 + 6))
  rw [hx6] at x6r
  obtain ⟨x7, hx7⟩ : ∃ z, (xs (i0 + 7)).toInt = z := ⟨_, rfl⟩
  have x7r := c_rng (xs (i0 + 7))
  rw [hx7] at x7r
  have hT := rl_t hR
  have hU := rl_u hR
  have hP := iv_P hI
  obtain ⟨n0, hn0⟩ : ∃ z, c P 0 = z := ⟨_, rfl⟩
  have hm0 : c 41 20 = n0 := (rl_nums hR).1.symm.trans hn0
  have hr0 := ir_p0_0 hI hP
  rw [hn0] at hr0
  obtain ⟨n1, hn1⟩ : ∃ z, c P 1 = z := ⟨_, rfl⟩
  have hm1 : c 41 21 = n1 := (rl_nums hR).2.1.symm.trans hn1
  have hr1 := ir_p0_1 hI hP
  rw [hn1] at hr1
  obtain ⟨n2, hn2⟩ : ∃ z, c P 2 = z := ⟨_, rfl⟩
  have hm2 : c 41 22 = n2 := (rl_nums hR).2.2.1.symm.trans hn2
  have hr2 := ir_p0_2 hI hP
  rw [hn2] at hr2
  obtain ⟨n3, hn3⟩ : ∃ z, c P 3 = z := ⟨_, rfl⟩
  have hm3 : c 41 23 = n3 := (rl_nums hR).2.2.2.symm.trans hn3
  have hr3 := ir_p0_3 hI hP
  rw [hn3] at hr3
  have hP := iv_P hI
  have hQ := iv_Q hI
  refine q_aload_n rfl rfl ?_
  refine q_aload_n rfl rfl ?_
  refine q_iload rfl rfl ?_
  refine q_iconst rfl ?_
  refine v_iadd (v := (i0 : Int) + 1) rfl (by omega) ?_
  refine v_scr (j := i0 + 1) rfl (by omega) (by omega) hL hx1 ?_
  refine q_aload_n rfl rfl ?_
  refine q_call rfl rfl rfl rfl ?_
  refine q_aload_n rfl rfl ?_
  refine q_iconst rfl ?_
  refine q_aload_n rfl rfl ?_
  refine q_iload_n rfl rfl ?_
  refine v_cv rfl rfl rfl rfl (by decide) ⟨⟨rfl, rfl⟩, by decide, rfl⟩ (Nat.le_of_ble_eq_true rfl) (Nat.le_of_ble_eq_true rfl) (s_103 (a1 := x1) hI (show (-2147483648) ≤ x1 ∧ x1 ≤ 2147483647 from by omega) (fun c_1 hI_2 hF_3 => ?_) (fun c_4 y_7 hI_5 hF_6 hy_7 => ?_))
  · skip
    refine bk_thr (z := Int32.ofInt 1) rfl ⟨_, _, rfl⟩ rfl ?_
    refine bk_inl ?_
    refine q_istore rfl (by decide) ?_
    refine q_aload_n rfl rfl ?_
    refine q_aload_n rfl rfl ?_
    refine q_iload rfl rfl ?_
    refine q_iconst rfl ?_
    refine v_iadd (v := (i0 : Int) + 1) rfl (by omega) ?_
    refine v_scr (j := i0 + 1) rfl (by omega) (by omega) hL hx1 ?_
    refine v_cv rfl rfl rfl rfl (by decide) ⟨⟨rfl, rfl⟩, by decide, rfl⟩ (Nat.le_of_ble_eq_true rfl) (Nat.le_of_ble_eq_true rfl) (s_216 (a1 := x1) hI_2 (show (-2147483648) ≤ x1 ∧ x1 ≤ 2147483647 from by omega) (fun c_8 y_11 hI_9 hF_10 hy_11 => ?_))
    refine bk_inl ?_
    refine q_istore rfl (by decide) ?_
    refine q_goto (t := 1844) rfl (by decide) ?_
    refine Wp_ls [(4, vi (i0 : Int)), (3, .ref 67), (2, .ref 41), (1, .ref 0), (0, .ref a_SC)] (lsub_cons rfl (lsub_cons rfl (lsub_cons rfl (lsub_cons rfl (lsub_cons rfl lsub_nil))))) ?_
    have h_12 := ir_1_3 hI
    have kn_13 : Hid (c_1 1 3 = c 1 3) := hF_3 1 3 (fun q => q.elim (fun h => absurd h.1 (nn rfl)) (fun q => q.elim (fun h => absurd h (pn hP rfl rfl)) (fun h => absurd h (pn hP rfl rfl))))
    have kn_14 : Hid (c_8 1 3 = c 1 3) := (hF_10 1 3 (fun q => q.elim (fun h => absurd h.1 (nn rfl)) (fun q => q.elim (fun h => absurd h (nn rfl)) (fun q => q.elim (fun h => absurd h (nn rfl)) (fun q => q.elim (fun h => absurd h (nn rfl)) (fun h => absurd h (nn rfl))))))).trans (hid kn_13)
    have h_15 : c_8 1 3 = c 1 3 := (hid kn_14)
    have h_16 := ir_41_2 hI
    have kn_17 : Hid (c_1 41 2 = c 41 2) := hF_3 41 2 (fun q => q.elim (fun h => absurd h.1 (nn rfl)) (fun q => q.elim (fun h => absurd h (pn hP rfl rfl)) (fun h => absurd h (pn hP rfl rfl))))
    have kn_18 : Hid (c_8 41 2 = c 41 2) := (hF_10 41 2 (fun q => q.elim (fun h => absurd h.2 (ni rfl)) (fun q => q.elim (fun h => absurd h (nn rfl)) (fun q => q.elim (fun h => absurd h (nn rfl)) (fun q => q.elim (fun h => absurd h (nn rfl)) (fun h => absurd h (nn rfl))))))).trans (hid kn_17)
    have h_19 : c_8 41 2 = c 41 2 := (hid kn_18)
    have kn_20 : Hid (c_1 P 0 = n0) := (hF_3 P 0 (fun q => q.elim (fun h => absurd h.1 (np0 hP rfl)) (fun q => q.elim (fun h => absurd h (p0p rfl)) (fun h => absurd h (p0p rfl))))).trans (hn0)
    have kn_21 : Hid (c_8 P 0 = n0) := (hF_10 P 0 (fun q => q.elim (fun h => absurd h.1 (np0 hP rfl)) (fun q => q.elim (fun h => absurd h (np0 hP rfl)) (fun q => q.elim (fun h => absurd h (np0 hP rfl)) (fun q => q.elim (fun h => absurd h (np0 hP rfl)) (fun h => absurd h (np0 hP rfl))))))).trans (hid kn_20)
    have h_22 : c_8 P 0 = n0 := (hid kn_21)
    have kn_23 : Hid (c_1 41 20 = n0) := (hF_3 41 20 (fun q => q.elim (fun h => absurd h.1 (nn rfl)) (fun q => q.elim (fun h => absurd h (pn hP rfl rfl)) (fun h => absurd h (pn hP rfl rfl))))).trans (hm0)
    have kn_24 : Hid (c_8 41 20 = n0) := (hF_10 41 20 (fun q => q.elim (fun h => absurd h.2 (ni rfl)) (fun q => q.elim (fun h => absurd h (nn rfl)) (fun q => q.elim (fun h => absurd h (nn rfl)) (fun q => q.elim (fun h => absurd h (nn rfl)) (fun h => absurd h (nn rfl))))))).trans (hid kn_23)
    have h_25 : c_8 41 20 = n0 := (hid kn_24)
    have kn_26 : Hid (c_1 P 1 = n1) := (hF_3 P 1 (fun q => q.elim (fun h => absurd h.1 (np0 hP rfl)) (fun q => q.elim (fun h => absurd h (p0p rfl)) (fun h => absurd h (p0p rfl))))).trans (hn1)
    have kn_27 : Hid (c_8 P 1 = n1) := (hF_10 P 1 (fun q => q.elim (fun h => absurd h.1 (np0 hP rfl)) (fun q => q.elim (fun h => absurd h (np0 hP rfl)) (fun q => q.elim (fun h => absurd h (np0 hP rfl)) (fun q => q.elim (fun h => absurd h (np0 hP rfl)) (fun h => absurd h (np0 hP rfl))))))).trans (hid kn_26)
    have h_28 : c_8 P 1 = n1 := (hid kn_27)
    have kn_29 : Hid (c_1 41 21 = n1) := (hF_3 41 21 (fun q => q.elim (fun h => absurd h.1 (nn rfl)) (fun q => q.elim (fun h => absurd h (pn hP rfl rfl)) (fun h => absurd h (pn hP rfl rfl))))).trans (hm1)
    have kn_30 : Hid (c_8 41 21 = n1) := (hF_10 41 21 (fun q => q.elim (fun h => absurd h.2 (ni rfl)) (fun q => q.elim (fun h => absurd h (nn rfl)) (fun q => q.elim (fun h => absurd h (nn rfl)) (fun q => q.elim (fun h => absurd h (nn rfl)) (fun h => absurd h (nn rfl))))))).trans (hid kn_29)
    have h_31 : c_8 41 21 = n1 := (hid kn_30)
    have kn_32 : Hid (c_1 P 2 = n2) := (hF_3 P 2 (fun q => q.elim (fun h => absurd h.1 (np0 hP rfl)) (fun q => q.elim (fun h => absurd h (p0p rfl)) (fun h => absurd h (p0p rfl))))).trans (hn2)
    have kn_33 : Hid (c_8 P 2 = n2) := (hF_10 P 2 (fun q => q.elim (fun h => absurd h.1 (np0 hP rfl)) (fun q => q.elim (fun h => absurd h (np0 hP rfl)) (fun q => q.elim (fun h => absurd h (np0 hP rfl)) (fun q => q.elim (fun h => absurd h (np0 hP rfl)) (fun h => absurd h (np0 hP rfl))))))).trans (hid kn_32)
    have h_34 : c_8 P 2 = n2 := (hid kn_33)
    have kn_35 : Hid (c_1 41 22 = n2) := (hF_3 41 22 (fun q => q.elim (fun h => absurd h.1 (nn rfl)) (fun q => q.elim (fun h => absurd h (pn hP rfl rfl)) (fun h => absurd h (pn hP rfl rfl))))).trans (hm2)
    have kn_36 : Hid (c_8 41 22 = n2) := (hF_10 41 22 (fun q => q.elim (fun h => absurd h.2 (ni rfl)) (fun q => q.elim (fun h => absurd h (nn rfl)) (fun q => q.elim (fun h => absurd h (nn rfl)) (fun q => q.elim (fun h => absurd h (nn rfl)) (fun h => absurd h (nn rfl))))))).trans (hid kn_35)
    have h_37 : c_8 41 22 = n2 := (hid kn_36)
    have kn_38 : Hid (c_1 P 3 = n3) := (hF_3 P 3 (fun q => q.elim (fun h => absurd h.1 (np0 hP rfl)) (fun q => q.elim (fun h => absurd h (p0p rfl)) (fun h => absurd h (p0p rfl))))).trans (hn3)
    have kn_39 : Hid (c_8 P 3 = n3) := (hF_10 P 3 (fun q => q.elim (fun h => absurd h.1 (np0 hP rfl)) (fun q => q.elim (fun h => absurd h (np0 hP rfl)) (fun q => q.elim (fun h => absurd h (np0 hP rfl)) (fun q => q.elim (fun h => absurd h (np0 hP rfl)) (fun h => absurd h (np0 hP rfl))))))).trans (hid kn_38)
    have h_40 : c_8 P 3 = n3 := (hid kn_39)
    have kn_41 : Hid (c_1 41 23 = n3) := (hF_3 41 23 (fun q => q.elim (fun h => absurd h.1 (nn rfl)) (fun q => q.elim (fun h => absurd h (pn hP rfl rfl)) (fun h => absurd h (pn hP rfl rfl))))).trans (hm3)
    have kn_42 : Hid (c_8 41 23 = n3) := (hF_10 41 23 (fun q => q.elim (fun h => absurd h.2 (ni rfl)) (fun q => q.elim (fun h => absurd h (nn rfl)) (fun q => q.elim (fun h => absurd h (nn rfl)) (fun q => q.elim (fun h => absurd h (nn rfl)) (fun h => absurd h (nn rfl))))))).trans (hid kn_41)
    have h_43 : c_8 41 23 = n3 := (hid kn_42)
    exact K P Q c_8 1 (by decide) hI_9 ⟨by omega, ub_fr hU (fun j => (hF_10 2 j (fun q => q.elim (fun h => absurd h.1 (nn rfl)) (fun q => q.elim (fun h => absurd h (nn rfl)) (fun q => q.elim (fun h => absurd h (nn rfl)) (fun q => q.elim (fun h => absurd h (nn rfl)) (fun h => absurd h (nn rfl))))))).trans (hF_3 2 j (fun q => q.elim (fun h => absurd h.1 (nn rfl)) (fun q => q.elim (fun h => absurd h (pn hP rfl rfl)) (fun h => absurd h (pn hP rfl rfl)))))) (fun j => (hF_10 43 j (fun q => q.elim (fun h => absurd h.1 (nn rfl)) (fun q => q.elim (fun h => absurd h (nn rfl)) (fun q => q.elim (fun h => absurd h (nn rfl)) (fun q => q.elim (fun h => absurd h (nn rfl)) (fun h => absurd h (nn rfl))))))).trans (hF_3 43 j (fun q => q.elim (fun h => absurd h.1 (nn rfl)) (fun q => q.elim (fun h => absurd h (pn hP rfl rfl)) (fun h => absurd h (pn hP rfl rfl)))))), ⟨by omega, by omega, by omega, by omega⟩⟩
  refine bk_inl ?_
  refine v_i2l rfl (by omega) ?_
  refine v_ls rfl rfl (by decide) (by decide) (by decide) ?_
  refine q_goto (t := 15) rfl (by decide) ?_
  refine q_iconst rfl ?_
  refine q_iret rfl rfl ?_
  refine bk_inl ?_
  refine q_istore rfl (by decide) ?_
  refine q_aload_n rfl rfl ?_
  refine q_aload_n rfl rfl ?_
  refine q_iload rfl rfl ?_
  refine q_iconst rfl ?_
  refine v_iadd (v := (i0 : Int) + 1) rfl (by omega) ?_
  refine v_scr (j := i0 + 1) rfl (by omega) (by omega) hL hx1 ?_
  have hI_44 := iw_lx (a := 67) (j := 0) (v := y_7) hI_5 (by omega)
  refine v_cv rfl rfl rfl rfl (by decide) ⟨⟨rfl, rfl⟩, by decide, rfl⟩ (Nat.le_of_ble_eq_true rfl) (Nat.le_of_ble_eq_true rfl) (s_216 (a1 := x1) hI_44 (show (-2147483648) ≤ x1 ∧ x1 ≤ 2147483647 from by omega) (fun c_45 y_48 hI_46 hF_47 hy_48 => ?_))
  refine bk_inl ?_
  refine q_istore rfl (by decide) ?_
  refine q_goto (t := 1844) rfl (by decide) ?_
  refine Wp_ls [(4, vi (i0 : Int)), (3, .ref 67), (2, .ref 41), (1, .ref 0), (0, .ref a_SC)] (lsub_cons rfl (lsub_cons rfl (lsub_cons rfl (lsub_cons rfl (lsub_cons rfl lsub_nil))))) ?_
  have h_49 := ir_1_3 hI
  have kn_50 : Hid (c_4 1 3 = c 1 3) := hF_6 1 3 (fun q => q.elim (fun h => absurd h.1 (nn rfl)) (fun q => q.elim (fun h => absurd h (pn hP rfl rfl)) (fun h => absurd h (pn hP rfl rfl))))
  have kn_51 : Hid (c_45 1 3 = c 1 3) := (hF_47 1 3 (fun q => q.elim (fun h => absurd h.1 (nn rfl)) (fun q => q.elim (fun h => absurd h (nn rfl)) (fun q => q.elim (fun h => absurd h (nn rfl)) (fun q => q.elim (fun h => absurd h (nn rfl)) (fun h => absurd h (nn rfl))))))).trans ((up_c (nn rfl)).trans (hid kn_50))
  have h_52 : c_45 1 3 = c 1 3 := (hid kn_51)
  have h_53 := ir_41_2 hI
  have kn_54 : Hid (c_4 41 2 = c 41 2) := hF_6 41 2 (fun q => q.elim (fun h => absurd h.1 (nn rfl)) (fun q => q.elim (fun h => absurd h (pn hP rfl rfl)) (fun h => absurd h (pn hP rfl rfl))))
  have kn_55 : Hid (c_45 41 2 = c 41 2) := (hF_47 41 2 (fun q => q.elim (fun h => absurd h.2 (ni rfl)) (fun q => q.elim (fun h => absurd h (nn rfl)) (fun q => q.elim (fun h => absurd h (nn rfl)) (fun q => q.elim (fun h => absurd h (nn rfl)) (fun h => absurd h (nn rfl))))))).trans ((up_c (nn rfl)).trans (hid kn_54))
  have h_56 : c_45 41 2 = c 41 2 := (hid kn_55)
  have kn_57 : Hid (c_4 P 0 = n0) := (hF_6 P 0 (fun q => q.elim (fun h => absurd h.1 (np0 hP rfl)) (fun q => q.elim (fun h => absurd h (p0p rfl)) (fun h => absurd h (p0p rfl))))).trans (hn0)
  have kn_58 : Hid (c_45 P 0 = n0) := (hF_47 P 0 (fun q => q.elim (fun h => absurd h.1 (np0 hP rfl)) (fun q => q.elim (fun h => absurd h (np0 hP rfl)) (fun q => q.elim (fun h => absurd h (np0 hP rfl)) (fun q => q.elim (fun h => absurd h (np0 hP rfl)) (fun h => absurd h (np0 hP rfl))))))).trans ((up_c (np0 hP rfl)).trans (hid kn_57))
  have h_59 : c_45 P 0 = n0 := (hid kn_58)
  have kn_60 : Hid (c_4 41 20 = n0) := (hF_6 41 20 (fun q => q.elim (fun h => absurd h.1 (nn rfl)) (fun q => q.elim (fun h => absurd h (pn hP rfl rfl)) (fun h => absurd h (pn hP rfl rfl))))).trans (hm0)
  have kn_61 : Hid (c_45 41 20 = n0) := (hF_47 41 20 (fun q => q.elim (fun h => absurd h.2 (ni rfl)) (fun q => q.elim (fun h => absurd h (nn rfl)) (fun q => q.elim (fun h => absurd h (nn rfl)) (fun q => q.elim (fun h => absurd h (nn rfl)) (fun h => absurd h (nn rfl))))))).trans ((up_c (nn rfl)).trans (hid kn_60))
  have h_62 : c_45 41 20 = n0 := (hid kn_61)
  have kn_63 : Hid (c_4 P 1 = n1) := (hF_6 P 1 (fun q => q.elim (fun h => absurd h.1 (np0 hP rfl)) (fun q => q.elim (fun h => absurd h (p0p rfl)) (fun h => absurd h (p0p rfl))))).trans (hn1)
  have kn_64 : Hid (c_45 P 1 = n1) := (hF_47 P 1 (fun q => q.elim (fun h => absurd h.1 (np0 hP rfl)) (fun q => q.elim (fun h => absurd h (np0 hP rfl)) (fun q => q.elim (fun h => absurd h (np0 hP rfl)) (fun q => q.elim (fun h => absurd h (np0 hP rfl)) (fun h => absurd h (np0 hP rfl))))))).trans ((up_c (np0 hP rfl)).trans (hid kn_63))
  have h_65 : c_45 P 1 = n1 := (hid kn_64)
  have kn_66 : Hid (c_4 41 21 = n1) := (hF_6 41 21 (fun q => q.elim (fun h => absurd h.1 (nn rfl)) (fun q => q.elim (fun h => absurd h (pn hP rfl rfl)) (fun h => absurd h (pn hP rfl rfl))))).trans (hm1)
  have kn_67 : Hid (c_45 41 21 = n1) := (hF_47 41 21 (fun q => q.elim (fun h => absurd h.2 (ni rfl)) (fun q => q.elim (fun h => absurd h (nn rfl)) (fun q => q.elim (fun h => absurd h (nn rfl)) (fun q => q.elim (fun h => absurd h (nn rfl)) (fun h => absurd h (nn rfl))))))).trans ((up_c (nn rfl)).trans (hid kn_66))
  have h_68 : c_45 41 21 = n1 := (hid kn_67)
  have kn_69 : Hid (c_4 P 2 = n2) := (hF_6 P 2 (fun q => q.elim (fun h => absurd h.1 (np0 hP rfl)) (fun q => q.elim (fun h => absurd h (p0p rfl)) (fun h => absurd h (p0p rfl))))).trans (hn2)
  have kn_70 : Hid (c_45 P 2 = n2) := (hF_47 P 2 (fun q => q.elim (fun h => absurd h.1 (np0 hP rfl)) (fun q => q.elim (fun h => absurd h (np0 hP rfl)) (fun q => q.elim (fun h => absurd h (np0 hP rfl)) (fun q => q.elim (fun h => absurd h (np0 hP rfl)) (fun h => absurd h (np0 hP rfl))))))).trans ((up_c (np0 hP rfl)).trans (hid kn_69))
  have h_71 : c_45 P 2 = n2 := (hid kn_70)
  have kn_72 : Hid (c_4 41 22 = n2) := (hF_6 41 22 (fun q => q.elim (fun h => absurd h.1 (nn rfl)) (fun q => q.elim (fun h => absurd h (pn hP rfl rfl)) (fun h => absurd h (pn hP rfl rfl))))).trans (hm2)
  have kn_73 : Hid (c_45 41 22 = n2) := (hF_47 41 22 (fun q => q.elim (fun h => absurd h.2 (ni rfl)) (fun q => q.elim (fun h => absurd h (nn rfl)) (fun q => q.elim (fun h => absurd h (nn rfl)) (fun q => q.elim (fun h => absurd h (nn rfl)) (fun h => absurd h (nn rfl))))))).trans ((up_c (nn rfl)).trans (hid kn_72))
  have h_74 : c_45 41 22 = n2 := (hid kn_73)
  have kn_75 : Hid (c_4 P 3 = n3) := (hF_6 P 3 (fun q => q.elim (fun h => absurd h.1 (np0 hP rfl)) (fun q => q.elim (fun h => absurd h (p0p rfl)) (fun h => absurd h (p0p rfl))))).trans (hn3)
  have kn_76 : Hid (c_45 P 3 = n3) := (hF_47 P 3 (fun q => q.elim (fun h => absurd h.1 (np0 hP rfl)) (fun q => q.elim (fun h => absurd h (np0 hP rfl)) (fun q => q.elim (fun h => absurd h (np0 hP rfl)) (fun q => q.elim (fun h => absurd h (np0 hP rfl)) (fun h => absurd h (np0 hP rfl))))))).trans ((up_c (np0 hP rfl)).trans (hid kn_75))
  have h_77 : c_45 P 3 = n3 := (hid kn_76)
  have kn_78 : Hid (c_4 41 23 = n3) := (hF_6 41 23 (fun q => q.elim (fun h => absurd h.1 (nn rfl)) (fun q => q.elim (fun h => absurd h (pn hP rfl rfl)) (fun h => absurd h (pn hP rfl rfl))))).trans (hm3)
  have kn_79 : Hid (c_45 41 23 = n3) := (hF_47 41 23 (fun q => q.elim (fun h => absurd h.2 (ni rfl)) (fun q => q.elim (fun h => absurd h (nn rfl)) (fun q => q.elim (fun h => absurd h (nn rfl)) (fun q => q.elim (fun h => absurd h (nn rfl)) (fun h => absurd h (nn rfl))))))).trans ((up_c (nn rfl)).trans (hid kn_78))
  have h_80 : c_45 41 23 = n3 := (hid kn_79)
  exact K P Q c_45 0 (by decide) hI_46 ⟨by omega, ub_fr hU (fun j => (hF_47 2 j (fun q => q.elim (fun h => absurd h.1 (nn rfl)) (fun q => q.elim (fun h => absurd h (nn rfl)) (fun q => q.elim (fun h => absurd h (nn rfl)) (fun q => q.elim (fun h => absurd h (nn rfl)) (fun h => absurd h (nn rfl))))))).trans ((up_c (nn rfl)).trans (hF_6 2 j (fun q => q.elim (fun h => absurd h.1 (nn rfl)) (fun q => q.elim (fun h => absurd h (pn hP rfl rfl)) (fun h => absurd h (pn hP rfl rfl))))))) (fun j => (hF_47 43 j (fun q => q.elim (fun h => absurd h.1 (nn rfl)) (fun q => q.elim (fun h => absurd h (nn rfl)) (fun q => q.elim (fun h => absurd h (nn rfl)) (fun q => q.elim (fun h => absurd h (nn rfl)) (fun h => absurd h (nn rfl))))))).trans ((up_c (nn rfl)).trans (hF_6 43 j (fun q => q.elim (fun h => absurd h.1 (nn rfl)) (fun q => q.elim (fun h => absurd h (pn hP rfl rfl)) (fun h => absurd h (pn hP rfl rfl))))))), ⟨by omega, by omega, by omega, by omega⟩⟩

