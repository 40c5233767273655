/-! ===== the calls of the law 1 ===== -/
set_option maxRecDepth 100000 in
set_option maxHeartbeats 4000000 in
theorem o_1 {xs : Nat → Int32} {L i0 d nc ns P Q : Nat} {c : ME} {Z : AR → Prop} (hi : i0 + 8 ≤ L) (hL : L ≤ 100000) (hI : Iv 0 (-1) P Q c) (hR : Rq P c) (K : ∀ (P2 Q2 : Nat) (c2 : ME) (e : Nat), e ≤ 1 → Iv 0 (-1) P2 Q2 c2 → (Rq P2 c2) → Wp (a_scr L xs) (d + 90) 296 1844 [(4, vi (i0 : Int)), (3, .ref 67), (2, .ref 41), (1, .ref 0), (0, .ref a_SC)] [] (Wd P2 Q2 P2 P2 c2) (nc + e) (ns + 6 * e) Z) : Wp (a_scr L xs) (d + 90) 296 301 [(4, vi (i0 : Int)), (3, .ref 67), (2, .ref 41), (1, .ref 0), (0, .ref a_SC)] [] (Wd P Q P P c) nc ns Z := by
  obtain ⟨x1, hx1⟩ : ∃ z, (xs (i0 + 1)).toInt = z := ⟨_, rfl⟩
  have x1r := c_rng (xs (i0 + 1))
  rw [hx1] at x1r
  obtain ⟨x2, hx2⟩ : ∃ z, (xs (i0 + 2)).toInt = z := ⟨_, rfl⟩
  have x2r := c_rng (xs (i0 + 2))
  rw [hx2] at x2r
  obtain ⟨x3, hx3⟩ : ∃ z, (xs (i0 + 3)).toInt = z := ⟨_, rfl⟩
  have x3r := c_rng (xs (i0 + 3))
  rw [hx3] at x3r
  obtain ⟨x4, hx4⟩ : ∃ z, (xs (i0 + 4)).toInt = z := ⟨_, rfl⟩
  have x4r := c_rng (xs (i0 + 4))
  rw [hx4] at x4r
  obtain ⟨x5, hx5⟩ : ∃ z, (xs (i0 + 5)).toInt = z := ⟨_, rfl⟩
  have x5r := c_rng (xs (i0 + 5))
  rw [hx5] at x5r
  obtain ⟨x6, hx6⟩ : ∃ z, (xs (i0 + 6)).toInt = z := ⟨_, rfl⟩
  have x6r := c_rng (xs (i0 + 6))
  rw [hx6] at x6r
  obtain ⟨x7, hx7⟩ : ∃ z, (xs (i0 + 7)).toInt = z := ⟨_, rfl⟩
  have x7r := c_rng (xs (i0 + 7))
  rw [hx7] at x7r
  have hT := rl_t hR
  have hU := rl_u hR
  obtain ⟨nl, hnl⟩ : ∃ z, c (P + 7) 4 = z := ⟨_, rfl⟩
  have hml : c 41 30 = nl := (rl_law hR).1.symm.trans hnl
  have hlr := ir_41_30 hI
  rw [hml] at hlr
  have hCe : Ce nl (c (P + 8)) (c 52) (c 53) := ce_le (rl_law hR).2 (by omega)
  have hHw : Hw (c 52) (c 53) nl := by rw [← hml]; exact iv_hc hI
  have hP := iv_P hI
  have hQ := iv_Q hI
  refine q_aload_n rfl rfl ?_
  refine q_aload_n rfl rfl ?_
  refine q_iload rfl rfl ?_
  refine q_iconst rfl ?_
  refine v_iadd (v := (i0 : Int) + 1) rfl rfl ?_
  refine v_scr (j := i0 + 1) rfl (by omega) (by omega) hL hx1 ?_
  refine q_aload_n rfl rfl ?_
  refine q_call rfl rfl rfl rfl ?_
  refine q_aload_n rfl rfl ?_
  refine q_iconst rfl ?_
  refine q_aload_n rfl rfl ?_
  refine q_iload_n rfl rfl ?_
  have h_1 := ir_1_3 hI
  refine v_cv rfl rfl rfl rfl (by decide) ⟨⟨rfl, rfl⟩, by decide, rfl⟩ (Nat.le_of_ble_eq_true rfl) (Nat.le_of_ble_eq_true rfl) (fn_of (s_84 (a1 := x1) hI (show (-2147483648) ≤ x1 ∧ x1 ≤ 2147483647 from ⟨by omega, by omega⟩) (fun c_2 hI_3 hF_4 h_5 h_6 => ?_) (fun P Q c_7 y_10 hI_8 hF_9 hy_10 h_11 => ?_)))
  · skip
    intro hG_47
    have h_12 := ir_1_3 hI_3
    refine bk_thr (z := Int32.ofInt 1) rfl ⟨_, _, rfl⟩ rfl ?_
    refine bk_inl ?_
    refine q_istore rfl (by decide) ?_
    refine q_aload_n rfl rfl ?_
    refine q_aload_n rfl rfl ?_
    refine q_iload rfl rfl ?_
    refine q_iconst rfl ?_
    refine v_iadd (v := (i0 : Int) + 1) rfl rfl ?_
    refine v_scr (j := i0 + 1) rfl (by omega) (by omega) hL hx1 ?_
    refine v_cv rfl rfl rfl rfl (by decide) ⟨⟨rfl, rfl⟩, by decide, rfl⟩ (Nat.le_of_ble_eq_true rfl) (Nat.le_of_ble_eq_true rfl) ?_
    refine q_aload_n rfl rfl ?_
    refine q_iconst rfl ?_
    refine v_pi (z := 0) rfl rfl rfl (by decide) rfl rfl rfl (by decide) ?_
    refine q_aload_n rfl rfl ?_
    refine q_iload_n rfl rfl ?_
    by_cases h_13 : x1 < 0
    · refine v_if_lt_t (t := 22) rfl (by decide) ⟨by omega, h_13, by decide⟩ ?_
      refine q_iconst rfl ?_
      refine q_iconst rfl ?_
      refine q_iconst rfl ?_
      refine v_cv rfl rfl rfl rfl (by decide) ⟨⟨rfl, rfl⟩, by decide, rfl⟩ (Nat.le_of_ble_eq_true rfl) (Nat.le_of_ble_eq_true rfl) ?_
      refine q_iload_n rfl rfl ?_
      refine v_if_ne_f (t := 26) rfl (by decide) (by decide) ?_
      refine q_aload_n rfl rfl ?_
      refine v_gi (z := 0) (v := 0) rfl rfl rfl (by decide) rfl rfl (up_e rfl) ?_
      refine v_if_ne_f (t := 26) rfl (by decide) (by decide) ?_
      refine q_aload_n rfl rfl ?_
      refine q_iload_n rfl rfl ?_
      refine v_pi (z := 0) rfl rfl rfl (by decide) rfl rfl rfl (by decide) ?_
      refine q_aload_n rfl rfl ?_
      refine v_gr (t := 42) rfl rfl rfl (by decide) rfl ?_
      refine q_iload_n rfl rfl ?_
      refine q_dup2 rfl ⟨rfl, rfl⟩ ?_
      have h_14 := ir_42 hI 1
      have kn_15 : Hid (c_2 42 1 = c 42 1) := hF_4 42 1 (fun h => absurd h.1 (nn rfl))
      refine v_ia (v := c 42 1) rfl rfl (by decide) (by decide) (by decide) ((up_c (nn rfl)).trans ((up_c (nn rfl)).trans (hid kn_15))) ?_
      refine q_iconst rfl ?_
      refine v_iadd (v := c 42 1 + 1) rfl rfl ?_
      refine v_nrm (fun y_16 hy_16 => ?_)
      refine v_is rfl rfl (by decide) (by decide) (by decide) ?_
      refine q_aload_n rfl rfl ?_
      refine v_gi (z := 0) (v := 1) rfl rfl rfl (by decide) rfl rfl ((up_c (nn rfl)).trans (up_e rfl)) ?_
      refine v_if_ne_t (t := 37) rfl (by decide) (by decide) ?_
      refine q_iconst rfl ?_
      refine v_zret rfl rfl (by decide) ?_
      refine bk_inl ?_
      refine v_if_ne_f (t := 33) rfl (by decide) (by decide) ?_
      refine q_iconst rfl ?_
      refine q_iret rfl rfl ?_
      refine bk_inl ?_
      refine q_istore rfl (by decide) ?_
      refine q_goto (t := 1844) rfl (by decide) ?_
      have hI_17 := iw_41_0 (v := 0) hI_3 ⟨by decide, by decide⟩
      have hI_18 := iw_41_0 (v := 1) hI_17 ⟨by decide, by decide⟩
      have hI_19 := iw_42 (j := 1) (v := y_16) hI_18 ⟨hy_16.1, hy_16.2⟩
      refine Wp_ls [(4, vi (i0 : Int)), (3, .ref 67), (2, .ref 41), (1, .ref 0), (0, .ref a_SC)] (lsub_cons rfl (lsub_cons rfl (lsub_cons rfl (lsub_cons rfl (lsub_cons rfl lsub_nil))))) ?_
      have kn_20 : Hid (c_2 1 3 = c 1 3) := hF_4 1 3 (fun h => absurd h.1 (nn rfl))
      have h_21 : (up (up (up c_2 41 0 0) 41 0 1) 42 1 y_16) 1 3 = c 1 3 := ((up_c (nn rfl)).trans ((up_c (nn rfl)).trans ((up_c (nn rfl)).trans (hid kn_20))))
      have h_22 := ir_41_2 hI
      have kn_23 : Hid (c_2 41 2 = c 41 2) := hF_4 41 2 (fun h => absurd h.1 (nn rfl))
      have h_24 : (up (up (up c_2 41 0 0) 41 0 1) 42 1 y_16) 41 2 = c 41 2 := ((up_c (nn rfl)).trans ((up_n (by decide)).trans ((up_n (by decide)).trans (hid kn_23))))
      have kn_25 : Hid (c_2 (P + 7) 4 = nl) := (hF_4 (P + 7) 4 (fun h => absurd h.1 (np hP rfl rfl))).trans (hnl)
      have kn_26 : Hid (c_2 41 30 = nl) := (hF_4 41 30 (fun h => absurd h.1 (nn rfl))).trans (hml)
      have h_27 : (up (up (up c_2 41 0 0) 41 0 1) 42 1 y_16) (P + 7) 4 = nl := ((up_c (np hP rfl rfl)).trans ((up_c (np hP rfl rfl)).trans ((up_c (np hP rfl rfl)).trans (hid kn_25))))
      have h_28 : (up (up (up c_2 41 0 0) 41 0 1) 42 1 y_16) 41 30 = nl := ((up_c (nn rfl)).trans ((up_n (by decide)).trans ((up_n (by decide)).trans (hid kn_26))))
      have hA_29 : Ce nl ((up (up (up c_2 41 0 0) 41 0 1) 42 1 y_16) (P + 8)) ((up (up (up c_2 41 0 0) 41 0 1) 42 1 y_16) 52) ((up (up (up c_2 41 0 0) 41 0 1) 42 1 y_16) 53) := ce_fr hCe (fun j => (up_c (np hP rfl rfl)).trans ((up_c (np hP rfl rfl)).trans ((up_c (np hP rfl rfl)).trans (hF_4 (P + 8) j (fun h => absurd h.1 (np hP rfl rfl)))))) (fun j => (up_c (nn rfl)).trans ((up_c (nn rfl)).trans ((up_c (nn rfl)).trans (hF_4 52 j (fun h => absurd h.1 (nn rfl)))))) (fun j => (up_c (nn rfl)).trans ((up_c (nn rfl)).trans ((up_c (nn rfl)).trans (hF_4 53 j (fun h => absurd h.1 (nn rfl))))))
      exact K P Q (up (up (up c_2 41 0 0) 41 0 1) 42 1 y_16) 1 (by decide) hI_19 ⟨by omega, ub_fr hU (fun j => (up_c (nn rfl)).trans ((up_c (nn rfl)).trans ((up_c (nn rfl)).trans (hF_4 2 j (fun h => absurd h.1 (nn rfl)))))) (fun j => (up_c (nn rfl)).trans ((up_c (nn rfl)).trans ((up_c (nn rfl)).trans (hF_4 43 j (fun h => absurd h.1 (nn rfl)))))), ⟨by omega, ce_le hA_29 (by omega)⟩⟩
    · refine v_if_lt_f (t := 22) rfl (by decide) ⟨by decide, (Int.not_lt.mp h_13), by omega⟩ ?_
      refine q_iload_n rfl rfl ?_
      refine q_aload_n rfl rfl ?_
      have h_30 := ir_41_2 hI
      have kn_31 : Hid (c_2 41 2 = c 41 2) := hF_4 41 2 (fun h => absurd h.1 (nn rfl))
      refine v_gi (z := 2) (v := c 41 2) rfl rfl rfl (by decide) rfl rfl ((up_n (by decide)).trans (hid kn_31)) ?_
      refine v_ic_gt_t (t := 22) rfl (by decide) (by omega) ?_
      refine q_iconst rfl ?_
      refine q_iconst rfl ?_
      refine q_iconst rfl ?_
      refine v_cv rfl rfl rfl rfl (by decide) ⟨⟨rfl, rfl⟩, by decide, rfl⟩ (Nat.le_of_ble_eq_true rfl) (Nat.le_of_ble_eq_true rfl) ?_
      refine q_iload_n rfl rfl ?_
      refine v_if_ne_f (t := 26) rfl (by decide) (by decide) ?_
      refine q_aload_n rfl rfl ?_
      refine v_gi (z := 0) (v := 0) rfl rfl rfl (by decide) rfl rfl (up_e rfl) ?_
      refine v_if_ne_f (t := 26) rfl (by decide) (by decide) ?_
      refine q_aload_n rfl rfl ?_
      refine q_iload_n rfl rfl ?_
      refine v_pi (z := 0) rfl rfl rfl (by decide) rfl rfl rfl (by decide) ?_
      refine q_aload_n rfl rfl ?_
      refine v_gr (t := 42) rfl rfl rfl (by decide) rfl ?_
      refine q_iload_n rfl rfl ?_
      refine q_dup2 rfl ⟨rfl, rfl⟩ ?_
      have h_32 := ir_42 hI 1
      have kn_33 : Hid (c_2 42 1 = c 42 1) := hF_4 42 1 (fun h => absurd h.1 (nn rfl))
      refine v_ia (v := c 42 1) rfl rfl (by decide) (by decide) (by decide) ((up_c (nn rfl)).trans ((up_c (nn rfl)).trans (hid kn_33))) ?_
      refine q_iconst rfl ?_
      refine v_iadd (v := c 42 1 + 1) rfl rfl ?_
      refine v_nrm (fun y_34 hy_34 => ?_)
      refine v_is rfl rfl (by decide) (by decide) (by decide) ?_
      refine q_aload_n rfl rfl ?_
      refine v_gi (z := 0) (v := 1) rfl rfl rfl (by decide) rfl rfl ((up_c (nn rfl)).trans (up_e rfl)) ?_
      refine v_if_ne_t (t := 37) rfl (by decide) (by decide) ?_
      refine q_iconst rfl ?_
      refine v_zret rfl rfl (by decide) ?_
      refine bk_inl ?_
      refine v_if_ne_f (t := 33) rfl (by decide) (by decide) ?_
      refine q_iconst rfl ?_
      refine q_iret rfl rfl ?_
      refine bk_inl ?_
      refine q_istore rfl (by decide) ?_
      refine q_goto (t := 1844) rfl (by decide) ?_
      have hI_35 := iw_41_0 (v := 0) hI_3 ⟨by decide, by decide⟩
      have hI_36 := iw_41_0 (v := 1) hI_35 ⟨by decide, by decide⟩
      have hI_37 := iw_42 (j := 1) (v := y_34) hI_36 ⟨hy_34.1, hy_34.2⟩
      refine Wp_ls [(4, vi (i0 : Int)), (3, .ref 67), (2, .ref 41), (1, .ref 0), (0, .ref a_SC)] (lsub_cons rfl (lsub_cons rfl (lsub_cons rfl (lsub_cons rfl (lsub_cons rfl lsub_nil))))) ?_
      have kn_38 : Hid (c_2 1 3 = c 1 3) := hF_4 1 3 (fun h => absurd h.1 (nn rfl))
      have h_39 : (up (up (up c_2 41 0 0) 41 0 1) 42 1 y_34) 1 3 = c 1 3 := ((up_c (nn rfl)).trans ((up_c (nn rfl)).trans ((up_c (nn rfl)).trans (hid kn_38))))
      have h_40 : (up (up (up c_2 41 0 0) 41 0 1) 42 1 y_34) 41 2 = c 41 2 := ((up_c (nn rfl)).trans ((up_n (by decide)).trans ((up_n (by decide)).trans (hid kn_31))))
      have kn_41 : Hid (c_2 (P + 7) 4 = nl) := (hF_4 (P + 7) 4 (fun h => absurd h.1 (np hP rfl rfl))).trans (hnl)
      have kn_42 : Hid (c_2 41 30 = nl) := (hF_4 41 30 (fun h => absurd h.1 (nn rfl))).trans (hml)
      have h_43 : (up (up (up c_2 41 0 0) 41 0 1) 42 1 y_34) (P + 7) 4 = nl := ((up_c (np hP rfl rfl)).trans ((up_c (np hP rfl rfl)).trans ((up_c (np hP rfl rfl)).trans (hid kn_41))))
      have h_44 : (up (up (up c_2 41 0 0) 41 0 1) 42 1 y_34) 41 30 = nl := ((up_c (nn rfl)).trans ((up_n (by decide)).trans ((up_n (by decide)).trans (hid kn_42))))
      have hA_45 : Ce nl ((up (up (up c_2 41 0 0) 41 0 1) 42 1 y_34) (P + 8)) ((up (up (up c_2 41 0 0) 41 0 1) 42 1 y_34) 52) ((up (up (up c_2 41 0 0) 41 0 1) 42 1 y_34) 53) := ce_fr hCe (fun j => (up_c (np hP rfl rfl)).trans ((up_c (np hP rfl rfl)).trans ((up_c (np hP rfl rfl)).trans (hF_4 (P + 8) j (fun h => absurd h.1 (np hP rfl rfl)))))) (fun j => (up_c (nn rfl)).trans ((up_c (nn rfl)).trans ((up_c (nn rfl)).trans (hF_4 52 j (fun h => absurd h.1 (nn rfl)))))) (fun j => (up_c (nn rfl)).trans ((up_c (nn rfl)).trans ((up_c (nn rfl)).trans (hF_4 53 j (fun h => absurd h.1 (nn rfl))))))
      exact K P Q (up (up (up c_2 41 0 0) 41 0 1) 42 1 y_34) 1 (by decide) hI_37 ⟨by omega, ub_fr hU (fun j => (up_c (nn rfl)).trans ((up_c (nn rfl)).trans ((up_c (nn rfl)).trans (hF_4 2 j (fun h => absurd h.1 (nn rfl)))))) (fun j => (up_c (nn rfl)).trans ((up_c (nn rfl)).trans ((up_c (nn rfl)).trans (hF_4 43 j (fun h => absurd h.1 (nn rfl)))))), ⟨by omega, ce_le hA_45 (by omega)⟩⟩
  rename_i P0 Q0
  intro hG_47
  refine bk_inl ?_
  have hP := iv_P hI_8
  have hQ := iv_Q hI_8
  have h_46 := ir_1_3 hI_8
  refine v_i2l rfl (by omega) ?_
  refine v_ls rfl rfl (by decide) (by decide) (by decide) ?_
  refine q_goto (t := 15) rfl (by decide) ?_
  refine q_iconst rfl ?_
  refine q_iret rfl rfl ?_
  refine bk_inl ?_
  refine q_istore rfl (by decide) ?_
  refine q_aload_n rfl rfl ?_
  refine q_aload_n rfl rfl ?_
  refine q_iload rfl rfl ?_
  refine q_iconst rfl ?_
  refine v_iadd (v := (i0 : Int) + 1) rfl rfl ?_
  refine v_scr (j := i0 + 1) rfl (by omega) (by omega) hL hx1 ?_
  have hI_48 := iw_lx (a := 67) (j := 0) (v := y_10) hI_8 (by omega)
  have h_49 := ir_41_2 hI
  have kn_50 : Hid (c_7 41 2 = c 41 2) := hF_9 41 2 (fun q => q.elim (fun h => absurd h.1 (nn rfl)) (fun q => q.elim (fun h => absurd h.1 (nn rfl)) (fun q => q.elim (fun h => absurd h.1 (nn rfl)) (fun q => q.elim (fun h => absurd h.1 (nn rfl)) (fun q => q.elim (fun h => absurd h.1 (nn rfl)) (fun q => q.elim (fun h => absurd h.1 (nn rfl)) (fun q => q.elim (fun h => absurd h (nn rfl)) (fun q => q.elim (fun h => absurd h (nn rfl)) (fun q => q.elim (fun h => absurd h.1 (nn rfl)) (fun q => q.elim (fun h => absurd h.1 (nn rfl)) (fun q => q.elim (fun h => absurd h.1 (nn rfl)) (fun h => absurd h.2 (by decide)))))))))))))
  have kn_51 : Hid (c_7 41 30 = nl) := (hF_9 41 30 (fun q => q.elim (fun h => absurd h.1 (nn rfl)) (fun q => q.elim (fun h => absurd h.1 (nn rfl)) (fun q => q.elim (fun h => absurd h.1 (nn rfl)) (fun q => q.elim (fun h => absurd h.1 (nn rfl)) (fun q => q.elim (fun h => absurd h.1 (nn rfl)) (fun q => q.elim (fun h => absurd h.1 (nn rfl)) (fun q => q.elim (fun h => absurd h (nn rfl)) (fun q => q.elim (fun h => absurd h (nn rfl)) (fun q => q.elim (fun h => absurd h.1 (nn rfl)) (fun q => q.elim (fun h => absurd h.1 (nn rfl)) (fun q => q.elim (fun h => absurd h.1 (nn rfl)) (fun h => absurd h.2 (by decide)))))))))))))).trans (hml)
  have hA_52 : Ce nl (c (P0 + 8)) ((up c_7 67 0 y_10) 52) ((up c_7 67 0 y_10) 53) := ce_fr hCe (fun j => rfl) (fun j => (up_c (nn rfl)).trans (hF_9 52 j (fun q => q.elim (fun h => absurd h.1 (nn rfl)) (fun q => q.elim (fun h => absurd h.1 (nn rfl)) (fun q => q.elim (fun h => absurd h.1 (nn rfl)) (fun q => q.elim (fun h => absurd h.1 (nn rfl)) (fun q => q.elim (fun h => absurd h.1 (nn rfl)) (fun q => q.elim (fun h => absurd h.1 (nn rfl)) (fun q => q.elim (fun h => absurd h (nn rfl)) (fun q => q.elim (fun h => absurd h (nn rfl)) (fun q => q.elim (fun h => absurd h.1 (nn rfl)) (fun q => q.elim (fun h => absurd h.1 (nn rfl)) (fun q => q.elim (fun h => absurd h.1 (nn rfl)) (fun h => absurd h.2 (by decide))))))))))))))) (fun j => (up_c (nn rfl)).trans (hF_9 53 j (fun q => q.elim (fun h => absurd h.1 (nn rfl)) (fun q => q.elim (fun h => absurd h.1 (nn rfl)) (fun q => q.elim (fun h => absurd h.1 (nn rfl)) (fun q => q.elim (fun h => absurd h.1 (nn rfl)) (fun q => q.elim (fun h => absurd h.1 (nn rfl)) (fun q => q.elim (fun h => absurd h.1 (nn rfl)) (fun q => q.elim (fun h => absurd h (nn rfl)) (fun q => q.elim (fun h => absurd h (nn rfl)) (fun q => q.elim (fun h => absurd h.1 (nn rfl)) (fun q => q.elim (fun h => absurd h.1 (nn rfl)) (fun q => q.elim (fun h => absurd h.1 (nn rfl)) (fun h => absurd h.2 (by decide)))))))))))))))
  refine v_cv rfl rfl rfl rfl (by decide) ⟨⟨rfl, rfl⟩, by decide, rfl⟩ (Nat.le_of_ble_eq_true rfl) (Nat.le_of_ble_eq_true rfl) (L_84l (m := c) (a1 := x1) (yg := y_10) (t9 := c 1 3) (nl := nl) (F := c 2) (H := c 43) hI_48 hI hI_8 (show (-2147483648) ≤ x1 ∧ x1 ≤ 2147483647 from ⟨by omega, by omega⟩) ⟨by omega, by omega⟩ ⟨by omega, by omega, by omega⟩ (rfl) (((show _ = c 41 2 from ((up_c (nn rfl)).trans (hid kn_50))).trans (by omega))) ((hnl)) (((up_c (nn rfl)).trans (hid kn_51))) (fun j => rfl) (fun j => (up_c (nn rfl)).trans (hF_9 43 j (fun q => q.elim (fun h => absurd h.1 (nn rfl)) (fun q => q.elim (fun h => absurd h.1 (nn rfl)) (fun q => q.elim (fun h => absurd h.1 (nn rfl)) (fun q => q.elim (fun h => absurd h.1 (nn rfl)) (fun q => q.elim (fun h => absurd h.1 (nn rfl)) (fun q => q.elim (fun h => absurd h.1 (nn rfl)) (fun q => q.elim (fun h => absurd h (nn rfl)) (fun q => q.elim (fun h => absurd h (nn rfl)) (fun q => q.elim (fun h => absurd h.1 (nn rfl)) (fun q => q.elim (fun h => absurd h.1 (nn rfl)) (fun q => q.elim (fun h => absurd h.1 (nn rfl)) (fun h => absurd h.2 (by decide))))))))))))))) hU (ce_le hA_52 (by omega)) hG_47 (fun c_53 y_56 hI_54 hF_55 hy_56 h_57 h_58 h_59 h_60 h_61 hA_62 => ?_))
  refine bk_inl ?_
  have hs_63 := h_57.symm
  subst hs_63
  have h_64 := ir_41_2 hI_54
  have h_65 := ir_41_8 hI_54
  have h_66 := ir_1_5 hI_8
  have h_67 := ir_41_0 hI_54
  have h_68 := ir_41_30 hI_54
  have h_69 := ir_p7_4 hI_8 hP
  refine q_istore rfl (by decide) ?_
  refine q_goto (t := 1844) rfl (by decide) ?_
  refine Wp_ls [(4, vi (i0 : Int)), (3, .ref 67), (2, .ref 41), (1, .ref 0), (0, .ref a_SC)] (lsub_cons rfl (lsub_cons rfl (lsub_cons rfl (lsub_cons rfl (lsub_cons rfl lsub_nil))))) ?_
  have kn_70 : Hid (c_53 1 3 = c_7 1 3) := (hF_55 1 3 (fun q => q.elim (fun h => absurd h.1 (nn rfl)) (fun q => q.elim (fun h => absurd h (nn rfl)) (fun q => q.elim (fun h => absurd h.1 (nn rfl)) (fun q => q.elim (fun h => absurd h.1 (nn rfl)) (fun q => q.elim (fun h => absurd h.1 (nn rfl)) (fun q => q.elim (fun h => absurd h.1 (nn rfl)) (fun q => q.elim (fun h => absurd h.1 (nn rfl)) (fun q => q.elim (fun h => absurd h.1 (nn rfl)) (fun q => q.elim (fun h => absurd h.1 (nn rfl)) (fun q => q.elim (fun h => absurd h.1 (nn rfl)) (fun q => q.elim (fun h => absurd h.1 (nn rfl)) (fun q => q.elim (fun h => absurd h.1 (nn rfl)) (fun q => q.elim (fun h => absurd h.1 (nn rfl)) (fun q => q.elim (fun h => absurd h (nn rfl)) (fun q => q.elim (fun h => absurd h (nn rfl)) (fun q => q.elim (fun h => absurd h (nn rfl)) (fun q => q.elim (fun h => absurd h.1 (nn rfl)) (fun q => q.elim (fun h => absurd h.1 (nn rfl)) (fun q => q.elim (fun h => absurd h.1 (nn rfl)) (fun q => q.elim (fun h => absurd h.1 (nn rfl)) (fun q => q.elim (fun h => absurd h.1 (nn rfl)) (fun q => q.elim (fun h => absurd h.1 (nn rfl)) (fun q => q.elim (fun h => absurd h.1 (nn rfl)) (fun q => q.elim (fun h => absurd h.1 (nn rfl)) (fun q => q.elim (fun h => absurd h.1 (nn rfl)) (fun q => q.elim (fun h => absurd h.1 (nn rfl)) (fun q => q.elim (fun h => absurd h (nn rfl)) (fun q => q.elim (fun h => absurd h (nn rfl)) (fun q => q.elim (fun h => absurd h (nn rfl)) (fun q => q.elim (fun h => absurd h (nn rfl)) (fun h => absurd h (nn rfl))))))))))))))))))))))))))))))))).trans (up_c (nn rfl))
  have h_71 : c_53 1 3 = c_7 1 3 := (hid kn_70)
  have h_72 : c_53 41 2 = c_53 41 2 := rfl
  have kn_73 : Hid (c_53 (P + 7) 4 = c_7 (P + 7) 4) := (hF_55 (P + 7) 4 (fun q => q.elim (fun h => absurd h.1 (np hP rfl rfl)) (fun q => q.elim (fun h => absurd h (np hP rfl rfl)) (fun q => q.elim (fun h => absurd h.1 (np hP rfl rfl)) (fun q => q.elim (fun h => absurd h.1 (np hP rfl rfl)) (fun q => q.elim (fun h => absurd h.1 (np hP rfl rfl)) (fun q => q.elim (fun h => absurd h.1 (np hP rfl rfl)) (fun q => q.elim (fun h => absurd h.1 (np hP rfl rfl)) (fun q => q.elim (fun h => absurd h.1 (np hP rfl rfl)) (fun q => q.elim (fun h => absurd h.1 (np hP rfl rfl)) (fun q => q.elim (fun h => absurd h.1 (np hP rfl rfl)) (fun q => q.elim (fun h => absurd h.1 (np hP rfl rfl)) (fun q => q.elim (fun h => absurd h.1 (np hP rfl rfl)) (fun q => q.elim (fun h => absurd h.1 (np hP rfl rfl)) (fun q => q.elim (fun h => absurd h (np hP rfl rfl)) (fun q => q.elim (fun h => absurd h (np hP rfl rfl)) (fun q => q.elim (fun h => absurd h (np hP rfl rfl)) (fun q => q.elim (fun h => absurd h.1 (np hP rfl rfl)) (fun q => q.elim (fun h => absurd h.1 (np hP rfl rfl)) (fun q => q.elim (fun h => absurd h.1 (np hP rfl rfl)) (fun q => q.elim (fun h => absurd h.1 (np hP rfl rfl)) (fun q => q.elim (fun h => absurd h.1 (np hP rfl rfl)) (fun q => q.elim (fun h => absurd h.1 (np hP rfl rfl)) (fun q => q.elim (fun h => absurd h.1 (np hP rfl rfl)) (fun q => q.elim (fun h => absurd h.1 (np hP rfl rfl)) (fun q => q.elim (fun h => absurd h.1 (np hP rfl rfl)) (fun q => q.elim (fun h => absurd h.1 (np hP rfl rfl)) (fun q => q.elim (fun h => absurd h (np hP rfl rfl)) (fun q => q.elim (fun h => absurd h (np hP rfl rfl)) (fun q => q.elim (fun h => absurd h (np hP rfl rfl)) (fun q => q.elim (fun h => absurd h (np hP rfl rfl)) (fun h => absurd h (np hP rfl rfl))))))))))))))))))))))))))))))))).trans (up_c (np hP rfl rfl))
  have h_74 : c_53 (P + 7) 4 = c_7 (P + 7) 4 := (hid kn_73)
  have h_75 : c_53 41 30 = c_53 41 30 := rfl
  have hA_76 : Ce (c_53 41 30) (c_53 (P + 8)) (c_53 52) (c_53 53) := ce_fr hA_62 (fun j => (hF_55 (P + 8) j (fun q => q.elim (fun h => absurd h.1 (np hP rfl rfl)) (fun q => q.elim (fun h => absurd h (np hP rfl rfl)) (fun q => q.elim (fun h => absurd h.1 (np hP rfl rfl)) (fun q => q.elim (fun h => absurd h.1 (np hP rfl rfl)) (fun q => q.elim (fun h => absurd h.1 (np hP rfl rfl)) (fun q => q.elim (fun h => absurd h.1 (np hP rfl rfl)) (fun q => q.elim (fun h => absurd h.1 (np hP rfl rfl)) (fun q => q.elim (fun h => absurd h.1 (np hP rfl rfl)) (fun q => q.elim (fun h => absurd h.1 (np hP rfl rfl)) (fun q => q.elim (fun h => absurd h.1 (np hP rfl rfl)) (fun q => q.elim (fun h => absurd h.1 (np hP rfl rfl)) (fun q => q.elim (fun h => absurd h.1 (np hP rfl rfl)) (fun q => q.elim (fun h => absurd h.1 (np hP rfl rfl)) (fun q => q.elim (fun h => absurd h (np hP rfl rfl)) (fun q => q.elim (fun h => absurd h (np hP rfl rfl)) (fun q => q.elim (fun h => absurd h (np hP rfl rfl)) (fun q => q.elim (fun h => absurd h.1 (np hP rfl rfl)) (fun q => q.elim (fun h => absurd h.1 (np hP rfl rfl)) (fun q => q.elim (fun h => absurd h.1 (np hP rfl rfl)) (fun q => q.elim (fun h => absurd h.1 (np hP rfl rfl)) (fun q => q.elim (fun h => absurd h.1 (np hP rfl rfl)) (fun q => q.elim (fun h => absurd h.1 (np hP rfl rfl)) (fun q => q.elim (fun h => absurd h.1 (np hP rfl rfl)) (fun q => q.elim (fun h => absurd h.1 (np hP rfl rfl)) (fun q => q.elim (fun h => absurd h.1 (np hP rfl rfl)) (fun q => q.elim (fun h => absurd h.1 (np hP rfl rfl)) (fun q => q.elim (fun h => absurd h (np hP rfl rfl)) (fun q => q.elim (fun h => absurd h (np hP rfl rfl)) (fun q => q.elim (fun h => absurd h (np hP rfl rfl)) (fun q => q.elim (fun h => absurd h (np hP rfl rfl)) (fun h => absurd h (np hP rfl rfl))))))))))))))))))))))))))))))))).trans (up_c (np hP rfl rfl))) (fun j => rfl) (fun j => rfl)
  exact K P Q c_53 0 (by decide) hI_54 ⟨by omega, ub_fr hU (fun j => (hF_55 2 j (fun q => q.elim (fun h => absurd h.1 (nn rfl)) (fun q => q.elim (fun h => absurd h (nn rfl)) (fun q => q.elim (fun h => absurd h.1 (nn rfl)) (fun q => q.elim (fun h => absurd h.1 (nn rfl)) (fun q => q.elim (fun h => absurd h.1 (nn rfl)) (fun q => q.elim (fun h => absurd h.1 (nn rfl)) (fun q => q.elim (fun h => absurd h.1 (nn rfl)) (fun q => q.elim (fun h => absurd h.1 (nn rfl)) (fun q => q.elim (fun h => absurd h.1 (nn rfl)) (fun q => q.elim (fun h => absurd h.1 (nn rfl)) (fun q => q.elim (fun h => absurd h.1 (nn rfl)) (fun q => q.elim (fun h => absurd h.1 (nn rfl)) (fun q => q.elim (fun h => absurd h.1 (nn rfl)) (fun q => q.elim (fun h => absurd h (nn rfl)) (fun q => q.elim (fun h => absurd h (nn rfl)) (fun q => q.elim (fun h => absurd h (nn rfl)) (fun q => q.elim (fun h => absurd h.1 (nn rfl)) (fun q => q.elim (fun h => absurd h.1 (nn rfl)) (fun q => q.elim (fun h => absurd h.1 (nn rfl)) (fun q => q.elim (fun h => absurd h.1 (nn rfl)) (fun q => q.elim (fun h => absurd h.1 (nn rfl)) (fun q => q.elim (fun h => absurd h.1 (nn rfl)) (fun q => q.elim (fun h => absurd h.1 (nn rfl)) (fun q => q.elim (fun h => absurd h.1 (nn rfl)) (fun q => q.elim (fun h => absurd h.1 (nn rfl)) (fun q => q.elim (fun h => absurd h.1 (nn rfl)) (fun q => q.elim (fun h => absurd h (nn rfl)) (fun q => q.elim (fun h => absurd h (nn rfl)) (fun q => q.elim (fun h => absurd h (nn rfl)) (fun q => q.elim (fun h => absurd h (nn rfl)) (fun h => absurd h (nn rfl))))))))))))))))))))))))))))))))).trans ((up_c (nn rfl)).trans (hF_9 2 j (fun q => q.elim (fun h => absurd h.1 (nn rfl)) (fun q => q.elim (fun h => absurd h.1 (nn rfl)) (fun q => q.elim (fun h => absurd h.1 (nn rfl)) (fun q => q.elim (fun h => absurd h.1 (nn rfl)) (fun q => q.elim (fun h => absurd h.1 (nn rfl)) (fun q => q.elim (fun h => absurd h.1 (nn rfl)) (fun q => q.elim (fun h => absurd h (nn rfl)) (fun q => q.elim (fun h => absurd h (nn rfl)) (fun q => q.elim (fun h => absurd h.1 (nn rfl)) (fun q => q.elim (fun h => absurd h.1 (nn rfl)) (fun q => q.elim (fun h => absurd h.1 (nn rfl)) (fun h => absurd h.1 (by decide)))))))))))))))) (fun j => (hF_55 43 j (fun q => q.elim (fun h => absurd h.1 (nn rfl)) (fun q => q.elim (fun h => absurd h (nn rfl)) (fun q => q.elim (fun h => absurd h.1 (nn rfl)) (fun q => q.elim (fun h => absurd h.1 (nn rfl)) (fun q => q.elim (fun h => absurd h.1 (nn rfl)) (fun q => q.elim (fun h => absurd h.1 (nn rfl)) (fun q => q.elim (fun h => absurd h.1 (nn rfl)) (fun q => q.elim (fun h => absurd h.1 (nn rfl)) (fun q => q.elim (fun h => absurd h.1 (nn rfl)) (fun q => q.elim (fun h => absurd h.1 (nn rfl)) (fun q => q.elim (fun h => absurd h.1 (nn rfl)) (fun q => q.elim (fun h => absurd h.1 (nn rfl)) (fun q => q.elim (fun h => absurd h.1 (nn rfl)) (fun q => q.elim (fun h => absurd h (nn rfl)) (fun q => q.elim (fun h => absurd h (nn rfl)) (fun q => q.elim (fun h => absurd h (nn rfl)) (fun q => q.elim (fun h => absurd h.1 (nn rfl)) (fun q => q.elim (fun h => absurd h.1 (nn rfl)) (fun q => q.elim (fun h => absurd h.1 (nn rfl)) (fun q => q.elim (fun h => absurd h.1 (nn rfl)) (fun q => q.elim (fun h => absurd h.1 (nn rfl)) (fun q => q.elim (fun h => absurd h.1 (nn rfl)) (fun q => q.elim (fun h => absurd h.1 (nn rfl)) (fun q => q.elim (fun h => absurd h.1 (nn rfl)) (fun q => q.elim (fun h => absurd h.1 (nn rfl)) (fun q => q.elim (fun h => absurd h.1 (nn rfl)) (fun q => q.elim (fun h => absurd h (nn rfl)) (fun q => q.elim (fun h => absurd h (nn rfl)) (fun q => q.elim (fun h => absurd h (nn rfl)) (fun q => q.elim (fun h => absurd h (nn rfl)) (fun h => absurd h (nn rfl))))))))))))))))))))))))))))))))).trans ((up_c (nn rfl)).trans (hF_9 43 j (fun q => q.elim (fun h => absurd h.1 (nn rfl)) (fun q => q.elim (fun h => absurd h.1 (nn rfl)) (fun q => q.elim (fun h => absurd h.1 (nn rfl)) (fun q => q.elim (fun h => absurd h.1 (nn rfl)) (fun q => q.elim (fun h => absurd h.1 (nn rfl)) (fun q => q.elim (fun h => absurd h.1 (nn rfl)) (fun q => q.elim (fun h => absurd h (nn rfl)) (fun q => q.elim (fun h => absurd h (nn rfl)) (fun q => q.elim (fun h => absurd h.1 (nn rfl)) (fun q => q.elim (fun h => absurd h.1 (nn rfl)) (fun q => q.elim (fun h => absurd h.1 (nn rfl)) (fun h => absurd h.2 (by decide)))))))))))))))), ⟨by omega, ce_le hA_76 (by omega)⟩⟩

set_option maxRecDepth 100000 in
set_option maxHeartbeats 4000000 in
theorem o_2 {xs : Nat → Int32} {L i0 d nc ns P Q : Nat} {c : ME} {Z : AR → Prop} (hi : i0 + 8 ≤ L) (hL : L ≤ 100000) (hI : Iv 0 (-1) P Q c) (hR : Rq P c) (K : ∀ (P2 Q2 : Nat) (c2 : ME) (e : Nat), e ≤ 1 → Iv 0 (-1) P2 Q2 c2 → (Rq P2 c2) → Wp (a_scr L xs) (d + 90) 296 1844 [(4, vi (i0 : Int)), (3, .ref 67), (2, .ref 41), (1, .ref 0), (0, .ref a_SC)] [] (Wd P2 Q2 P2 P2 c2) (nc + e) (ns + 6 * e) Z) : Wp (a_scr L xs) (d + 90) 296 329 [(4, vi (i0 : Int)), (3, .ref 67), (2, .ref 41), (1, .ref 0), (0, .ref a_SC)] [] (Wd P Q P P c) nc ns Z := by
  obtain ⟨x1, hx1⟩ : ∃ z, (xs (i0 + 1)).toInt = z := ⟨_, rfl⟩
  have x1r := c_rng (xs (i0 + 1))
  rw [hx1] at x1r
  obtain ⟨x2, hx2⟩ : ∃ z, (xs (i0 + 2)).toInt = z := ⟨_, rfl⟩
  have x2r := c_rng (xs (i0 + 2))
  rw [hx2] at x2r
  obtain ⟨x3, hx3⟩ : ∃ z, (xs (i0 + 3)).toInt = z := ⟨_, rfl⟩
  have x3r := c_rng (xs (i0 + 3))
  rw [hx3] at x3r
  obtain ⟨x4, hx4⟩ : ∃ z, (xs (i0 + 4)).toInt = z := ⟨_, rfl⟩
  have x4r := c_rng (xs (i0 + 4))
  rw [hx4] at x4r
  obtain ⟨x5, hx5⟩ : ∃ z, (xs (i0 + 5)).toInt = z := ⟨_, rfl⟩
  have x5r := c_rng (xs (i0 + 5))
  rw [hx5] at x5r
  obtain ⟨x6, hx6⟩ : ∃ z, (xs (i0 + 6)).toInt = z := ⟨_, rfl⟩
  have x6r := c_rng (xs (i0 + 6))
  rw [hx6] at x6r
  obtain ⟨x7, hx7⟩ : ∃ z, (xs (i0 + 7)).toInt = z := ⟨_, rfl⟩
  have x7r := c_rng (xs (i0 + 7))
  rw [hx7] at x7r
  have hT := rl_t hR
  have hU := rl_u hR
  obtain ⟨nl, hnl⟩ : ∃ z, c (P + 7) 4 = z := ⟨_, rfl⟩
  have hml : c 41 30 = nl := (rl_law hR).1.symm.trans hnl
  have hlr := ir_41_30 hI
  rw [hml] at hlr
  have hCe : Ce nl (c (P + 8)) (c 52) (c 53) := ce_le (rl_law hR).2 (by omega)
  have hHw : Hw (c 52) (c 53) nl := by rw [← hml]; exact iv_hc hI
  have hP := iv_P hI
  have hQ := iv_Q hI
  refine q_aload_n rfl rfl ?_
  refine q_aload_n rfl rfl ?_
  refine q_iload rfl rfl ?_
  refine q_iconst rfl ?_
  refine v_iadd (v := (i0 : Int) + 1) rfl rfl ?_
  refine v_scr (j := i0 + 1) rfl (by omega) (by omega) hL hx1 ?_
  refine q_aload_n rfl rfl ?_
  refine q_call rfl rfl rfl rfl ?_
  refine q_aload_n rfl rfl ?_
  refine q_iconst rfl ?_
  refine q_aload_n rfl rfl ?_
  refine q_iload_n rfl rfl ?_
  have h_1 := ir_1_3 hI
  refine v_cv rfl rfl rfl rfl (by decide) ⟨⟨rfl, rfl⟩, by decide, rfl⟩ (Nat.le_of_ble_eq_true rfl) (Nat.le_of_ble_eq_true rfl) (fn_of (s_85 (a1 := x1) hI (show (-2147483648) ≤ x1 ∧ x1 ≤ 2147483647 from ⟨by omega, by omega⟩) (fun c_2 hI_3 hF_4 h_5 h_6 => ?_) (fun c_7 y_10 hI_8 hF_9 hy_10 h_11 => ?_)))
  · skip
    intro hG_62
    have h_12 := ir_1_3 hI_3
    refine bk_thr (z := Int32.ofInt 1) rfl ⟨_, _, rfl⟩ rfl ?_
    refine bk_inl ?_
    refine q_istore rfl (by decide) ?_
    refine q_aload_n rfl rfl ?_
    refine q_aload_n rfl rfl ?_
    refine q_iload rfl rfl ?_
    refine q_iconst rfl ?_
    refine v_iadd (v := (i0 : Int) + 1) rfl rfl ?_
    refine v_scr (j := i0 + 1) rfl (by omega) (by omega) hL hx1 ?_
    refine v_cv rfl rfl rfl rfl (by decide) ⟨⟨rfl, rfl⟩, by decide, rfl⟩ (Nat.le_of_ble_eq_true rfl) (Nat.le_of_ble_eq_true rfl) ?_
    refine q_aload_n rfl rfl ?_
    refine q_iconst rfl ?_
    refine v_pi (z := 0) rfl rfl rfl (by decide) rfl rfl rfl (by decide) ?_
    refine q_aload_n rfl rfl ?_
    refine q_iload_n rfl rfl ?_
    by_cases h_13 : x1 < 0
    · refine v_if_lt_t (t := 29) rfl (by decide) ⟨by omega, h_13, by decide⟩ ?_
      refine q_iconst rfl ?_
      refine q_iconst rfl ?_
      refine q_iconst rfl ?_
      refine v_cv rfl rfl rfl rfl (by decide) ⟨⟨rfl, rfl⟩, by decide, rfl⟩ (Nat.le_of_ble_eq_true rfl) (Nat.le_of_ble_eq_true rfl) ?_
      refine q_iload_n rfl rfl ?_
      refine v_if_ne_f (t := 26) rfl (by decide) (by decide) ?_
      refine q_aload_n rfl rfl ?_
      refine v_gi (z := 0) (v := 0) rfl rfl rfl (by decide) rfl rfl (up_e rfl) ?_
      refine v_if_ne_f (t := 26) rfl (by decide) (by decide) ?_
      refine q_aload_n rfl rfl ?_
      refine q_iload_n rfl rfl ?_
      refine v_pi (z := 0) rfl rfl rfl (by decide) rfl rfl rfl (by decide) ?_
      refine q_aload_n rfl rfl ?_
      refine v_gr (t := 42) rfl rfl rfl (by decide) rfl ?_
      refine q_iload_n rfl rfl ?_
      refine q_dup2 rfl ⟨rfl, rfl⟩ ?_
      have h_14 := ir_42 hI 1
      have kn_15 : Hid (c_2 42 1 = c 42 1) := hF_4 42 1 (fun h => absurd h.1 (nn rfl))
      refine v_ia (v := c 42 1) rfl rfl (by decide) (by decide) (by decide) ((up_c (nn rfl)).trans ((up_c (nn rfl)).trans (hid kn_15))) ?_
      refine q_iconst rfl ?_
      refine v_iadd (v := c 42 1 + 1) rfl rfl ?_
      refine v_nrm (fun y_16 hy_16 => ?_)
      refine v_is rfl rfl (by decide) (by decide) (by decide) ?_
      refine q_aload_n rfl rfl ?_
      refine v_gi (z := 0) (v := 1) rfl rfl rfl (by decide) rfl rfl ((up_c (nn rfl)).trans (up_e rfl)) ?_
      refine v_if_ne_t (t := 37) rfl (by decide) (by decide) ?_
      refine q_iconst rfl ?_
      refine v_zret rfl rfl (by decide) ?_
      refine bk_inl ?_
      refine v_if_ne_f (t := 40) rfl (by decide) (by decide) ?_
      refine q_iconst rfl ?_
      refine q_iret rfl rfl ?_
      refine bk_inl ?_
      refine q_istore rfl (by decide) ?_
      refine q_goto (t := 1844) rfl (by decide) ?_
      have hI_17 := iw_41_0 (v := 0) hI_3 ⟨by decide, by decide⟩
      have hI_18 := iw_41_0 (v := 1) hI_17 ⟨by decide, by decide⟩
      have hI_19 := iw_42 (j := 1) (v := y_16) hI_18 ⟨hy_16.1, hy_16.2⟩
      refine Wp_ls [(4, vi (i0 : Int)), (3, .ref 67), (2, .ref 41), (1, .ref 0), (0, .ref a_SC)] (lsub_cons rfl (lsub_cons rfl (lsub_cons rfl (lsub_cons rfl (lsub_cons rfl lsub_nil))))) ?_
      have kn_20 : Hid (c_2 1 3 = c 1 3) := hF_4 1 3 (fun h => absurd h.1 (nn rfl))
      have h_21 : (up (up (up c_2 41 0 0) 41 0 1) 42 1 y_16) 1 3 = c 1 3 := ((up_c (nn rfl)).trans ((up_c (nn rfl)).trans ((up_c (nn rfl)).trans (hid kn_20))))
      have h_22 := ir_41_2 hI
      have kn_23 : Hid (c_2 41 2 = c 41 2) := hF_4 41 2 (fun h => absurd h.1 (nn rfl))
      have h_24 : (up (up (up c_2 41 0 0) 41 0 1) 42 1 y_16) 41 2 = c 41 2 := ((up_c (nn rfl)).trans ((up_n (by decide)).trans ((up_n (by decide)).trans (hid kn_23))))
      have kn_25 : Hid (c_2 (P + 7) 4 = nl) := (hF_4 (P + 7) 4 (fun h => absurd h.1 (np hP rfl rfl))).trans (hnl)
      have kn_26 : Hid (c_2 41 30 = nl) := (hF_4 41 30 (fun h => absurd h.1 (nn rfl))).trans (hml)
      have h_27 : (up (up (up c_2 41 0 0) 41 0 1) 42 1 y_16) (P + 7) 4 = nl := ((up_c (np hP rfl rfl)).trans ((up_c (np hP rfl rfl)).trans ((up_c (np hP rfl rfl)).trans (hid kn_25))))
      have h_28 : (up (up (up c_2 41 0 0) 41 0 1) 42 1 y_16) 41 30 = nl := ((up_c (nn rfl)).trans ((up_n (by decide)).trans ((up_n (by decide)).trans (hid kn_26))))
      have hA_29 : Ce nl ((up (up (up c_2 41 0 0) 41 0 1) 42 1 y_16) (P + 8)) ((up (up (up c_2 41 0 0) 41 0 1) 42 1 y_16) 52) ((up (up (up c_2 41 0 0) 41 0 1) 42 1 y_16) 53) := ce_fr hCe (fun j => (up_c (np hP rfl rfl)).trans ((up_c (np hP rfl rfl)).trans ((up_c (np hP rfl rfl)).trans (hF_4 (P + 8) j (fun h => absurd h.1 (np hP rfl rfl)))))) (fun j => (up_c (nn rfl)).trans ((up_c (nn rfl)).trans ((up_c (nn rfl)).trans (hF_4 52 j (fun h => absurd h.1 (nn rfl)))))) (fun j => (up_c (nn rfl)).trans ((up_c (nn rfl)).trans ((up_c (nn rfl)).trans (hF_4 53 j (fun h => absurd h.1 (nn rfl))))))
      exact K P Q (up (up (up c_2 41 0 0) 41 0 1) 42 1 y_16) 1 (by decide) hI_19 ⟨by omega, ub_fr hU (fun j => (up_c (nn rfl)).trans ((up_c (nn rfl)).trans ((up_c (nn rfl)).trans (hF_4 2 j (fun h => absurd h.1 (nn rfl)))))) (fun j => (up_c (nn rfl)).trans ((up_c (nn rfl)).trans ((up_c (nn rfl)).trans (hF_4 43 j (fun h => absurd h.1 (nn rfl)))))), ⟨by omega, ce_le hA_29 (by omega)⟩⟩
    · refine v_if_lt_f (t := 29) rfl (by decide) ⟨by decide, (Int.not_lt.mp h_13), by omega⟩ ?_
      refine q_iload_n rfl rfl ?_
      refine q_aload_n rfl rfl ?_
      have h_30 := ir_41_2 hI
      have kn_31 : Hid (c_2 41 2 = c 41 2) := hF_4 41 2 (fun h => absurd h.1 (nn rfl))
      refine v_gi (z := 2) (v := c 41 2) rfl rfl rfl (by decide) rfl rfl ((up_n (by decide)).trans (hid kn_31)) ?_
      by_cases h_32 : x1 > c 41 2
      · refine v_ic_gt_t (t := 29) rfl (by decide) ⟨by omega, h_32, by omega⟩ ?_
        refine q_iconst rfl ?_
        refine q_iconst rfl ?_
        refine q_iconst rfl ?_
        refine v_cv rfl rfl rfl rfl (by decide) ⟨⟨rfl, rfl⟩, by decide, rfl⟩ (Nat.le_of_ble_eq_true rfl) (Nat.le_of_ble_eq_true rfl) ?_
        refine q_iload_n rfl rfl ?_
        refine v_if_ne_f (t := 26) rfl (by decide) (by decide) ?_
        refine q_aload_n rfl rfl ?_
        refine v_gi (z := 0) (v := 0) rfl rfl rfl (by decide) rfl rfl (up_e rfl) ?_
        refine v_if_ne_f (t := 26) rfl (by decide) (by decide) ?_
        refine q_aload_n rfl rfl ?_
        refine q_iload_n rfl rfl ?_
        refine v_pi (z := 0) rfl rfl rfl (by decide) rfl rfl rfl (by decide) ?_
        refine q_aload_n rfl rfl ?_
        refine v_gr (t := 42) rfl rfl rfl (by decide) rfl ?_
        refine q_iload_n rfl rfl ?_
        refine q_dup2 rfl ⟨rfl, rfl⟩ ?_
        have h_33 := ir_42 hI 1
        have kn_34 : Hid (c_2 42 1 = c 42 1) := hF_4 42 1 (fun h => absurd h.1 (nn rfl))
        refine v_ia (v := c 42 1) rfl rfl (by decide) (by decide) (by decide) ((up_c (nn rfl)).trans ((up_c (nn rfl)).trans (hid kn_34))) ?_
        refine q_iconst rfl ?_
        refine v_iadd (v := c 42 1 + 1) rfl rfl ?_
        refine v_nrm (fun y_35 hy_35 => ?_)
        refine v_is rfl rfl (by decide) (by decide) (by decide) ?_
        refine q_aload_n rfl rfl ?_
        refine v_gi (z := 0) (v := 1) rfl rfl rfl (by decide) rfl rfl ((up_c (nn rfl)).trans (up_e rfl)) ?_
        refine v_if_ne_t (t := 37) rfl (by decide) (by decide) ?_
        refine q_iconst rfl ?_
        refine v_zret rfl rfl (by decide) ?_
        refine bk_inl ?_
        refine v_if_ne_f (t := 40) rfl (by decide) (by decide) ?_
        refine q_iconst rfl ?_
        refine q_iret rfl rfl ?_
        refine bk_inl ?_
        refine q_istore rfl (by decide) ?_
        refine q_goto (t := 1844) rfl (by decide) ?_
        have hI_36 := iw_41_0 (v := 0) hI_3 ⟨by decide, by decide⟩
        have hI_37 := iw_41_0 (v := 1) hI_36 ⟨by decide, by decide⟩
        have hI_38 := iw_42 (j := 1) (v := y_35) hI_37 ⟨hy_35.1, hy_35.2⟩
        refine Wp_ls [(4, vi (i0 : Int)), (3, .ref 67), (2, .ref 41), (1, .ref 0), (0, .ref a_SC)] (lsub_cons rfl (lsub_cons rfl (lsub_cons rfl (lsub_cons rfl (lsub_cons rfl lsub_nil))))) ?_
        have kn_39 : Hid (c_2 1 3 = c 1 3) := hF_4 1 3 (fun h => absurd h.1 (nn rfl))
        have h_40 : (up (up (up c_2 41 0 0) 41 0 1) 42 1 y_35) 1 3 = c 1 3 := ((up_c (nn rfl)).trans ((up_c (nn rfl)).trans ((up_c (nn rfl)).trans (hid kn_39))))
        have h_41 : (up (up (up c_2 41 0 0) 41 0 1) 42 1 y_35) 41 2 = c 41 2 := ((up_c (nn rfl)).trans ((up_n (by decide)).trans ((up_n (by decide)).trans (hid kn_31))))
        have kn_42 : Hid (c_2 (P + 7) 4 = nl) := (hF_4 (P + 7) 4 (fun h => absurd h.1 (np hP rfl rfl))).trans (hnl)
        have kn_43 : Hid (c_2 41 30 = nl) := (hF_4 41 30 (fun h => absurd h.1 (nn rfl))).trans (hml)
        have h_44 : (up (up (up c_2 41 0 0) 41 0 1) 42 1 y_35) (P + 7) 4 = nl := ((up_c (np hP rfl rfl)).trans ((up_c (np hP rfl rfl)).trans ((up_c (np hP rfl rfl)).trans (hid kn_42))))
        have h_45 : (up (up (up c_2 41 0 0) 41 0 1) 42 1 y_35) 41 30 = nl := ((up_c (nn rfl)).trans ((up_n (by decide)).trans ((up_n (by decide)).trans (hid kn_43))))
        have hA_46 : Ce nl ((up (up (up c_2 41 0 0) 41 0 1) 42 1 y_35) (P + 8)) ((up (up (up c_2 41 0 0) 41 0 1) 42 1 y_35) 52) ((up (up (up c_2 41 0 0) 41 0 1) 42 1 y_35) 53) := ce_fr hCe (fun j => (up_c (np hP rfl rfl)).trans ((up_c (np hP rfl rfl)).trans ((up_c (np hP rfl rfl)).trans (hF_4 (P + 8) j (fun h => absurd h.1 (np hP rfl rfl)))))) (fun j => (up_c (nn rfl)).trans ((up_c (nn rfl)).trans ((up_c (nn rfl)).trans (hF_4 52 j (fun h => absurd h.1 (nn rfl)))))) (fun j => (up_c (nn rfl)).trans ((up_c (nn rfl)).trans ((up_c (nn rfl)).trans (hF_4 53 j (fun h => absurd h.1 (nn rfl))))))
        exact K P Q (up (up (up c_2 41 0 0) 41 0 1) 42 1 y_35) 1 (by decide) hI_38 ⟨by omega, ub_fr hU (fun j => (up_c (nn rfl)).trans ((up_c (nn rfl)).trans ((up_c (nn rfl)).trans (hF_4 2 j (fun h => absurd h.1 (nn rfl)))))) (fun j => (up_c (nn rfl)).trans ((up_c (nn rfl)).trans ((up_c (nn rfl)).trans (hF_4 43 j (fun h => absurd h.1 (nn rfl)))))), ⟨by omega, ce_le hA_46 (by omega)⟩⟩
      · refine v_ic_gt_f (t := 29) rfl (by decide) ⟨by omega, (Int.not_lt.mp h_32), by omega⟩ ?_
        refine q_iload_n rfl rfl ?_
        refine v_sip rfl (by decide) ?_
        refine v_ic_gt_t (t := 29) rfl (by decide) (by omega) ?_
        refine q_iconst rfl ?_
        refine q_iconst rfl ?_
        refine q_iconst rfl ?_
        refine v_cv rfl rfl rfl rfl (by decide) ⟨⟨rfl, rfl⟩, by decide, rfl⟩ (Nat.le_of_ble_eq_true rfl) (Nat.le_of_ble_eq_true rfl) ?_
        refine q_iload_n rfl rfl ?_
        refine v_if_ne_f (t := 26) rfl (by decide) (by decide) ?_
        refine q_aload_n rfl rfl ?_
        refine v_gi (z := 0) (v := 0) rfl rfl rfl (by decide) rfl rfl (up_e rfl) ?_
        refine v_if_ne_f (t := 26) rfl (by decide) (by decide) ?_
        refine q_aload_n rfl rfl ?_
        refine q_iload_n rfl rfl ?_
        refine v_pi (z := 0) rfl rfl rfl (by decide) rfl rfl rfl (by decide) ?_
        refine q_aload_n rfl rfl ?_
        refine v_gr (t := 42) rfl rfl rfl (by decide) rfl ?_
        refine q_iload_n rfl rfl ?_
        refine q_dup2 rfl ⟨rfl, rfl⟩ ?_
        have h_47 := ir_42 hI 1
        have kn_48 : Hid (c_2 42 1 = c 42 1) := hF_4 42 1 (fun h => absurd h.1 (nn rfl))
        refine v_ia (v := c 42 1) rfl rfl (by decide) (by decide) (by decide) ((up_c (nn rfl)).trans ((up_c (nn rfl)).trans (hid kn_48))) ?_
        refine q_iconst rfl ?_
        refine v_iadd (v := c 42 1 + 1) rfl rfl ?_
        refine v_nrm (fun y_49 hy_49 => ?_)
        refine v_is rfl rfl (by decide) (by decide) (by decide) ?_
        refine q_aload_n rfl rfl ?_
        refine v_gi (z := 0) (v := 1) rfl rfl rfl (by decide) rfl rfl ((up_c (nn rfl)).trans (up_e rfl)) ?_
        refine v_if_ne_t (t := 37) rfl (by decide) (by decide) ?_
        refine q_iconst rfl ?_
        refine v_zret rfl rfl (by decide) ?_
        refine bk_inl ?_
        refine v_if_ne_f (t := 40) rfl (by decide) (by decide) ?_
        refine q_iconst rfl ?_
        refine q_iret rfl rfl ?_
        refine bk_inl ?_
        refine q_istore rfl (by decide) ?_
        refine q_goto (t := 1844) rfl (by decide) ?_
        have hI_50 := iw_41_0 (v := 0) hI_3 ⟨by decide, by decide⟩
        have hI_51 := iw_41_0 (v := 1) hI_50 ⟨by decide, by decide⟩
        have hI_52 := iw_42 (j := 1) (v := y_49) hI_51 ⟨hy_49.1, hy_49.2⟩
        refine Wp_ls [(4, vi (i0 : Int)), (3, .ref 67), (2, .ref 41), (1, .ref 0), (0, .ref a_SC)] (lsub_cons rfl (lsub_cons rfl (lsub_cons rfl (lsub_cons rfl (lsub_cons rfl lsub_nil))))) ?_
        have kn_53 : Hid (c_2 1 3 = c 1 3) := hF_4 1 3 (fun h => absurd h.1 (nn rfl))
        have h_54 : (up (up (up c_2 41 0 0) 41 0 1) 42 1 y_49) 1 3 = c 1 3 := ((up_c (nn rfl)).trans ((up_c (nn rfl)).trans ((up_c (nn rfl)).trans (hid kn_53))))
        have h_55 : (up (up (up c_2 41 0 0) 41 0 1) 42 1 y_49) 41 2 = c 41 2 := ((up_c (nn rfl)).trans ((up_n (by decide)).trans ((up_n (by decide)).trans (hid kn_31))))
        have kn_56 : Hid (c_2 (P + 7) 4 = nl) := (hF_4 (P + 7) 4 (fun h => absurd h.1 (np hP rfl rfl))).trans (hnl)
        have kn_57 : Hid (c_2 41 30 = nl) := (hF_4 41 30 (fun h => absurd h.1 (nn rfl))).trans (hml)
        have h_58 : (up (up (up c_2 41 0 0) 41 0 1) 42 1 y_49) (P + 7) 4 = nl := ((up_c (np hP rfl rfl)).trans ((up_c (np hP rfl rfl)).trans ((up_c (np hP rfl rfl)).trans (hid kn_56))))
        have h_59 : (up (up (up c_2 41 0 0) 41 0 1) 42 1 y_49) 41 30 = nl := ((up_c (nn rfl)).trans ((up_n (by decide)).trans ((up_n (by decide)).trans (hid kn_57))))
        have hA_60 : Ce nl ((up (up (up c_2 41 0 0) 41 0 1) 42 1 y_49) (P + 8)) ((up (up (up c_2 41 0 0) 41 0 1) 42 1 y_49) 52) ((up (up (up c_2 41 0 0) 41 0 1) 42 1 y_49) 53) := ce_fr hCe (fun j => (up_c (np hP rfl rfl)).trans ((up_c (np hP rfl rfl)).trans ((up_c (np hP rfl rfl)).trans (hF_4 (P + 8) j (fun h => absurd h.1 (np hP rfl rfl)))))) (fun j => (up_c (nn rfl)).trans ((up_c (nn rfl)).trans ((up_c (nn rfl)).trans (hF_4 52 j (fun h => absurd h.1 (nn rfl)))))) (fun j => (up_c (nn rfl)).trans ((up_c (nn rfl)).trans ((up_c (nn rfl)).trans (hF_4 53 j (fun h => absurd h.1 (nn rfl))))))
        exact K P Q (up (up (up c_2 41 0 0) 41 0 1) 42 1 y_49) 1 (by decide) hI_52 ⟨by omega, ub_fr hU (fun j => (up_c (nn rfl)).trans ((up_c (nn rfl)).trans ((up_c (nn rfl)).trans (hF_4 2 j (fun h => absurd h.1 (nn rfl)))))) (fun j => (up_c (nn rfl)).trans ((up_c (nn rfl)).trans ((up_c (nn rfl)).trans (hF_4 43 j (fun h => absurd h.1 (nn rfl)))))), ⟨by omega, ce_le hA_60 (by omega)⟩⟩
  intro hG_62
  refine bk_inl ?_
  have h_61 := ir_1_3 hI_8
  refine v_i2l rfl (by omega) ?_
  refine v_ls rfl rfl (by decide) (by decide) (by decide) ?_
  refine q_goto (t := 15) rfl (by decide) ?_
  refine q_iconst rfl ?_
  refine q_iret rfl rfl ?_
  refine bk_inl ?_
  refine q_istore rfl (by decide) ?_
  refine q_aload_n rfl rfl ?_
  refine q_aload_n rfl rfl ?_
  refine q_iload rfl rfl ?_
  refine q_iconst rfl ?_
  refine v_iadd (v := (i0 : Int) + 1) rfl rfl ?_
  refine v_scr (j := i0 + 1) rfl (by omega) (by omega) hL hx1 ?_
  have hI_63 := iw_lx (a := 67) (j := 0) (v := y_10) hI_8 (by omega)
  have h_64 := ir_41_2 hI
  have kn_65 : Hid (c_7 41 2 = c 41 2) := hF_9 41 2 (fun q => q.elim (fun h => absurd h.1 (nn rfl)) (fun q => q.elim (fun h => absurd h.1 (nn rfl)) (fun q => q.elim (fun h => absurd h.1 (nn rfl)) (fun q => q.elim (fun h => absurd h.1 (nn rfl)) (fun q => q.elim (fun h => absurd h.1 (nn rfl)) (fun q => q.elim (fun h => absurd h.1 (nn rfl)) (fun q => q.elim (fun h => absurd h.1 (pn hP rfl rfl)) (fun q => q.elim (fun h => absurd h (pn hP rfl rfl)) (fun q => q.elim (fun h => absurd h.1 (pn hP rfl rfl)) (fun h => absurd h (pn hP rfl rfl)))))))))))
  have kn_66 : Hid (c_7 41 30 = nl) := (hF_9 41 30 (fun q => q.elim (fun h => absurd h.1 (nn rfl)) (fun q => q.elim (fun h => absurd h.1 (nn rfl)) (fun q => q.elim (fun h => absurd h.1 (nn rfl)) (fun q => q.elim (fun h => absurd h.1 (nn rfl)) (fun q => q.elim (fun h => absurd h.1 (nn rfl)) (fun q => q.elim (fun h => absurd h.1 (nn rfl)) (fun q => q.elim (fun h => absurd h.1 (pn hP rfl rfl)) (fun q => q.elim (fun h => absurd h (pn hP rfl rfl)) (fun q => q.elim (fun h => absurd h.1 (pn hP rfl rfl)) (fun h => absurd h (pn hP rfl rfl)))))))))))).trans (hml)
  have hA_67 : Ce nl (c (P + 8)) ((up c_7 67 0 y_10) 52) ((up c_7 67 0 y_10) 53) := ce_fr hCe (fun j => rfl) (fun j => (up_c (nn rfl)).trans (hF_9 52 j (fun q => q.elim (fun h => absurd h.1 (nn rfl)) (fun q => q.elim (fun h => absurd h.1 (nn rfl)) (fun q => q.elim (fun h => absurd h.1 (nn rfl)) (fun q => q.elim (fun h => absurd h.1 (nn rfl)) (fun q => q.elim (fun h => absurd h.1 (nn rfl)) (fun q => q.elim (fun h => absurd h.1 (nn rfl)) (fun q => q.elim (fun h => absurd h.1 (pn hP rfl rfl)) (fun q => q.elim (fun h => absurd h (pn hP rfl rfl)) (fun q => q.elim (fun h => absurd h.1 (pn hP rfl rfl)) (fun h => absurd h (pn hP rfl rfl))))))))))))) (fun j => (up_c (nn rfl)).trans (hF_9 53 j (fun q => q.elim (fun h => absurd h.1 (nn rfl)) (fun q => q.elim (fun h => absurd h.1 (nn rfl)) (fun q => q.elim (fun h => absurd h.1 (nn rfl)) (fun q => q.elim (fun h => absurd h.1 (nn rfl)) (fun q => q.elim (fun h => absurd h.1 (nn rfl)) (fun q => q.elim (fun h => absurd h.1 (nn rfl)) (fun q => q.elim (fun h => absurd h.1 (pn hP rfl rfl)) (fun q => q.elim (fun h => absurd h (pn hP rfl rfl)) (fun q => q.elim (fun h => absurd h.1 (pn hP rfl rfl)) (fun h => absurd h (pn hP rfl rfl)))))))))))))
  refine v_cv rfl rfl rfl rfl (by decide) ⟨⟨rfl, rfl⟩, by decide, rfl⟩ (Nat.le_of_ble_eq_true rfl) (Nat.le_of_ble_eq_true rfl) (L_85l (m := c) (a1 := x1) (yg := y_10) (t9 := c 1 3) (nl := nl) (F := c 2) (H := c 43) hI_63 hI hI_8 (show (-2147483648) ≤ x1 ∧ x1 ≤ 2147483647 from ⟨by omega, by omega⟩) ⟨by omega, by omega⟩ ⟨by omega, by omega, by omega⟩ (rfl) (((show _ = c 41 2 from ((up_c (nn rfl)).trans (hid kn_65))).trans (by omega))) ((hnl)) (((up_c (nn rfl)).trans (hid kn_66))) (fun j => rfl) (fun j => (up_c (nn rfl)).trans (hF_9 43 j (fun q => q.elim (fun h => absurd h.1 (nn rfl)) (fun q => q.elim (fun h => absurd h.1 (nn rfl)) (fun q => q.elim (fun h => absurd h.1 (nn rfl)) (fun q => q.elim (fun h => absurd h.1 (nn rfl)) (fun q => q.elim (fun h => absurd h.1 (nn rfl)) (fun q => q.elim (fun h => absurd h.1 (nn rfl)) (fun q => q.elim (fun h => absurd h.1 (pn hP rfl rfl)) (fun q => q.elim (fun h => absurd h (pn hP rfl rfl)) (fun q => q.elim (fun h => absurd h.1 (pn hP rfl rfl)) (fun h => absurd h (pn hP rfl rfl))))))))))))) hU (ce_le hA_67 (by omega)) hG_62 (fun c_68 y_71 hI_69 hF_70 hy_71 h_72 h_73 h_74 h_75 h_76 hA_77 => ?_))
  refine bk_inl ?_
  have hs_78 := h_72.symm
  subst hs_78
  have h_79 := ir_41_2 hI_69
  have h_80 := ir_41_8 hI_69
  have h_81 := ir_1_5 hI_8
  have h_82 := ir_41_0 hI_69
  have h_83 := ir_41_30 hI_69
  have h_84 := ir_p7_4 hI_8 hP
  refine q_istore rfl (by decide) ?_
  refine q_goto (t := 1844) rfl (by decide) ?_
  refine Wp_ls [(4, vi (i0 : Int)), (3, .ref 67), (2, .ref 41), (1, .ref 0), (0, .ref a_SC)] (lsub_cons rfl (lsub_cons rfl (lsub_cons rfl (lsub_cons rfl (lsub_cons rfl lsub_nil))))) ?_
  have kn_85 : Hid (c_68 1 3 = c_7 1 3) := (hF_70 1 3 (fun q => q.elim (fun h => absurd h.1 (nn rfl)) (fun q => q.elim (fun h => absurd h (nn rfl)) (fun q => q.elim (fun h => absurd h.1 (nn rfl)) (fun q => q.elim (fun h => absurd h.1 (nn rfl)) (fun q => q.elim (fun h => absurd h.1 (nn rfl)) (fun q => q.elim (fun h => absurd h.1 (nn rfl)) (fun q => q.elim (fun h => absurd h.1 (nn rfl)) (fun q => q.elim (fun h => absurd h.1 (nn rfl)) (fun q => q.elim (fun h => absurd h.1 (nn rfl)) (fun q => q.elim (fun h => absurd h.1 (nn rfl)) (fun q => q.elim (fun h => absurd h.1 (nn rfl)) (fun q => q.elim (fun h => absurd h (nn rfl)) (fun q => q.elim (fun h => absurd h (nn rfl)) (fun q => q.elim (fun h => absurd h (nn rfl)) (fun h => absurd h (nn rfl))))))))))))))))).trans (up_c (nn rfl))
  have h_86 : c_68 1 3 = c_7 1 3 := (hid kn_85)
  have h_87 : c_68 41 2 = c_68 41 2 := rfl
  have kn_88 : Hid (c_68 (P + 7) 4 = c_7 (P + 7) 4) := (hF_70 (P + 7) 4 (fun q => q.elim (fun h => absurd h.1 (np hP rfl rfl)) (fun q => q.elim (fun h => absurd h (np hP rfl rfl)) (fun q => q.elim (fun h => absurd h.1 (np hP rfl rfl)) (fun q => q.elim (fun h => absurd h.1 (np hP rfl rfl)) (fun q => q.elim (fun h => absurd h.1 (np hP rfl rfl)) (fun q => q.elim (fun h => absurd h.1 (np hP rfl rfl)) (fun q => q.elim (fun h => absurd h.1 (np hP rfl rfl)) (fun q => q.elim (fun h => absurd h.1 (np hP rfl rfl)) (fun q => q.elim (fun h => absurd h.1 (np hP rfl rfl)) (fun q => q.elim (fun h => absurd h.1 (np hP rfl rfl)) (fun q => q.elim (fun h => absurd h.1 (np hP rfl rfl)) (fun q => q.elim (fun h => absurd h (np hP rfl rfl)) (fun q => q.elim (fun h => absurd h (np hP rfl rfl)) (fun q => q.elim (fun h => absurd h (np hP rfl rfl)) (fun h => absurd h (np hP rfl rfl))))))))))))))))).trans (up_c (np hP rfl rfl))
  have h_89 : c_68 (P + 7) 4 = c_7 (P + 7) 4 := (hid kn_88)
  have h_90 : c_68 41 30 = c_68 41 30 := rfl
  have hA_91 : Ce (c_68 41 30) (c_68 (P + 8)) (c_68 52) (c_68 53) := ce_fr hA_77 (fun j => (hF_70 (P + 8) j (fun q => q.elim (fun h => absurd h.1 (np hP rfl rfl)) (fun q => q.elim (fun h => absurd h (np hP rfl rfl)) (fun q => q.elim (fun h => absurd h.1 (np hP rfl rfl)) (fun q => q.elim (fun h => absurd h.1 (np hP rfl rfl)) (fun q => q.elim (fun h => absurd h.1 (np hP rfl rfl)) (fun q => q.elim (fun h => absurd h.1 (np hP rfl rfl)) (fun q => q.elim (fun h => absurd h.1 (np hP rfl rfl)) (fun q => q.elim (fun h => absurd h.1 (np hP rfl rfl)) (fun q => q.elim (fun h => absurd h.1 (np hP rfl rfl)) (fun q => q.elim (fun h => absurd h.1 (np hP rfl rfl)) (fun q => q.elim (fun h => absurd h.1 (np hP rfl rfl)) (fun q => q.elim (fun h => absurd h (np hP rfl rfl)) (fun q => q.elim (fun h => absurd h (np hP rfl rfl)) (fun q => q.elim (fun h => absurd h (np hP rfl rfl)) (fun h => absurd h (np hP rfl rfl))))))))))))))))).trans (up_c (np hP rfl rfl))) (fun j => rfl) (fun j => rfl)
  exact K P Q c_68 0 (by decide) hI_69 ⟨by omega, ub_fr hU (fun j => (hF_70 2 j (fun q => q.elim (fun h => absurd h.1 (nn rfl)) (fun q => q.elim (fun h => absurd h (nn rfl)) (fun q => q.elim (fun h => absurd h.1 (nn rfl)) (fun q => q.elim (fun h => absurd h.1 (nn rfl)) (fun q => q.elim (fun h => absurd h.1 (nn rfl)) (fun q => q.elim (fun h => absurd h.1 (nn rfl)) (fun q => q.elim (fun h => absurd h.1 (nn rfl)) (fun q => q.elim (fun h => absurd h.1 (nn rfl)) (fun q => q.elim (fun h => absurd h.1 (nn rfl)) (fun q => q.elim (fun h => absurd h.1 (nn rfl)) (fun q => q.elim (fun h => absurd h.1 (nn rfl)) (fun q => q.elim (fun h => absurd h (nn rfl)) (fun q => q.elim (fun h => absurd h (nn rfl)) (fun q => q.elim (fun h => absurd h (nn rfl)) (fun h => absurd h (nn rfl))))))))))))))))).trans ((up_c (nn rfl)).trans (hF_9 2 j (fun q => q.elim (fun h => absurd h.1 (nn rfl)) (fun q => q.elim (fun h => absurd h.1 (nn rfl)) (fun q => q.elim (fun h => absurd h.1 (nn rfl)) (fun q => q.elim (fun h => absurd h.1 (nn rfl)) (fun q => q.elim (fun h => absurd h.1 (nn rfl)) (fun q => q.elim (fun h => absurd h.1 (nn rfl)) (fun q => q.elim (fun h => absurd h.1 (pn hP rfl rfl)) (fun q => q.elim (fun h => absurd h (pn hP rfl rfl)) (fun q => q.elim (fun h => absurd h.1 (pn hP rfl rfl)) (fun h => absurd h (pn hP rfl rfl)))))))))))))) (fun j => (hF_70 43 j (fun q => q.elim (fun h => absurd h.1 (nn rfl)) (fun q => q.elim (fun h => absurd h (nn rfl)) (fun q => q.elim (fun h => absurd h.1 (nn rfl)) (fun q => q.elim (fun h => absurd h.1 (nn rfl)) (fun q => q.elim (fun h => absurd h.1 (nn rfl)) (fun q => q.elim (fun h => absurd h.1 (nn rfl)) (fun q => q.elim (fun h => absurd h.1 (nn rfl)) (fun q => q.elim (fun h => absurd h.1 (nn rfl)) (fun q => q.elim (fun h => absurd h.1 (nn rfl)) (fun q => q.elim (fun h => absurd h.1 (nn rfl)) (fun q => q.elim (fun h => absurd h.1 (nn rfl)) (fun q => q.elim (fun h => absurd h (nn rfl)) (fun q => q.elim (fun h => absurd h (nn rfl)) (fun q => q.elim (fun h => absurd h (nn rfl)) (fun h => absurd h (nn rfl))))))))))))))))).trans ((up_c (nn rfl)).trans (hF_9 43 j (fun q => q.elim (fun h => absurd h.1 (nn rfl)) (fun q => q.elim (fun h => absurd h.1 (nn rfl)) (fun q => q.elim (fun h => absurd h.1 (nn rfl)) (fun q => q.elim (fun h => absurd h.1 (nn rfl)) (fun q => q.elim (fun h => absurd h.1 (nn rfl)) (fun q => q.elim (fun h => absurd h.1 (nn rfl)) (fun q => q.elim (fun h => absurd h.1 (pn hP rfl rfl)) (fun q => q.elim (fun h => absurd h (pn hP rfl rfl)) (fun q => q.elim (fun h => absurd h.1 (pn hP rfl rfl)) (fun h => absurd h (pn hP rfl rfl)))))))))))))), ⟨by omega, ce_le hA_91 (by omega)⟩⟩

set_option maxRecDepth 100000 in
set_option maxHeartbeats 4000000 in
theorem o_3 {xs : Nat → Int32} {L i0 d nc ns P Q : Nat} {c : ME} {Z : AR → Prop} (hi : i0 + 8 ≤ L) (hL : L ≤ 100000) (hI : Iv 0 (-1) P Q c) (hR : Rq P c) (K : ∀ (P2 Q2 : Nat) (c2 : ME) (e : Nat), e ≤ 1 → Iv 0 (-1) P2 Q2 c2 → (Rq P2 c2) → Wp (a_scr L xs) (d + 90) 296 1844 [(4, vi (i0 : Int)), (3, .ref 67), (2, .ref 41), (1, .ref 0), (0, .ref a_SC)] [] (Wd P2 Q2 P2 P2 c2) (nc + e) (ns + 6 * e) Z) : Wp (a_scr L xs) (d + 90) 296 357 [(4, vi (i0 : Int)), (3, .ref 67), (2, .ref 41), (1, .ref 0), (0, .ref a_SC)] [] (Wd P Q P P c) nc ns Z := by
  obtain ⟨x1, hx1⟩ : ∃ z, (xs (i0 + 1)).toInt = z := ⟨_, rfl⟩
  have x1r := c_rng (xs (i0 + 1))
  rw [hx1] at x1r
  obtain ⟨x2, hx2⟩ : ∃ z, (xs (i0 + 2)).toInt = z := ⟨_, rfl⟩
  have x2r := c_rng (xs (i0 + 2))
  rw [hx2] at x2r
  obtain ⟨x3, hx3⟩ : ∃ z, (xs (i0 + 3)).toInt = z := ⟨_, rfl⟩
  have x3r := c_rng (xs (i0 + 3))
  rw [hx3] at x3r
  obtain ⟨x4, hx4⟩ : ∃ z, (xs (i0 + 4)).toInt = z := ⟨_, rfl⟩
  have x4r := c_rng (xs (i0 + 4))
  rw [hx4] at x4r
  obtain ⟨x5, hx5⟩ : ∃ z, (xs (i0 + 5)).toInt = z := ⟨_, rfl⟩
  have x5r := c_rng (xs (i0 + 5))
  rw [hx5] at x5r
  obtain ⟨x6, hx6⟩ : ∃ z, (xs (i0 + 6)).toInt = z := ⟨_, rfl⟩
  have x6r := c_rng (xs (i0 + 6))
  rw [hx6] at x6r
  obtain ⟨x7, hx7⟩ : ∃ z, (xs (i0 + 7)).toInt = z := ⟨_, rfl⟩
  have x7r := c_rng (xs (i0 + 7))
  rw [hx7] at x7r
  have hT := rl_t hR
  have hU := rl_u hR
  obtain ⟨nl, hnl⟩ : ∃ z, c (P + 7) 4 = z := ⟨_, rfl⟩
  have hml : c 41 30 = nl := (rl_law hR).1.symm.trans hnl
  have hlr := ir_41_30 hI
  rw [hml] at hlr
  have hCe : Ce nl (c (P + 8)) (c 52) (c 53) := ce_le (rl_law hR).2 (by omega)
  have hHw : Hw (c 52) (c 53) nl := by rw [← hml]; exact iv_hc hI
  have hP := iv_P hI
  have hQ := iv_Q hI
  refine q_aload_n rfl rfl ?_
  refine q_aload_n rfl rfl ?_
  refine q_iload rfl rfl ?_
  refine q_iconst rfl ?_
  refine v_iadd (v := (i0 : Int) + 1) rfl rfl ?_
  refine v_scr (j := i0 + 1) rfl (by omega) (by omega) hL hx1 ?_
  refine q_aload_n rfl rfl ?_
  refine q_call rfl rfl rfl rfl ?_
  refine q_aload_n rfl rfl ?_
  refine q_iconst rfl ?_
  refine q_aload_n rfl rfl ?_
  refine q_iload_n rfl rfl ?_
  have h_1 := ir_1_3 hI
  refine v_cv rfl rfl rfl rfl (by decide) ⟨⟨rfl, rfl⟩, by decide, rfl⟩ (Nat.le_of_ble_eq_true rfl) (Nat.le_of_ble_eq_true rfl) (s_86 (a1 := x1) hI (show (-2147483648) ≤ x1 ∧ x1 ≤ 2147483647 from ⟨by omega, by omega⟩) (fun c_2 hI_3 hF_4 h_5 h_6 => ?_) (fun c_7 y_10 hI_8 hF_9 hy_10 h_11 => ?_))
  · skip
    have h_12 := ir_1_3 hI_3
    refine bk_thr (z := Int32.ofInt 1) rfl ⟨_, _, rfl⟩ rfl ?_
    refine bk_inl ?_
    refine q_istore rfl (by decide) ?_
    refine q_aload_n rfl rfl ?_
    refine q_aload_n rfl rfl ?_
    refine q_iload rfl rfl ?_
    refine q_iconst rfl ?_
    refine v_iadd (v := (i0 : Int) + 1) rfl rfl ?_
    refine v_scr (j := i0 + 1) rfl (by omega) (by omega) hL hx1 ?_
    have h_13 := ir_41_2 hI
    have kn_14 : Hid (c_2 41 2 = c 41 2) := hF_4 41 2 (fun h => absurd h.1 (nn rfl))
    have h_15 : c_2 41 2 = c 41 2 := (hid kn_14)
    refine v_cv rfl rfl rfl rfl (by decide) ⟨⟨rfl, rfl⟩, by decide, rfl⟩ (Nat.le_of_ble_eq_true rfl) (Nat.le_of_ble_eq_true rfl) (s_202 (a1 := x1) hI_3 (show (-2147483648) ≤ x1 ∧ x1 ≤ 2147483647 from ⟨by omega, by omega⟩) (fun c_16 y_19 hI_17 hF_18 hy_19 h_20 => ?_))
    refine bk_inl ?_
    have h_21 := ir_41_2 hI_17
    refine q_istore rfl (by decide) ?_
    refine q_goto (t := 1844) rfl (by decide) ?_
    refine Wp_ls [(4, vi (i0 : Int)), (3, .ref 67), (2, .ref 41), (1, .ref 0), (0, .ref a_SC)] (lsub_cons rfl (lsub_cons rfl (lsub_cons rfl (lsub_cons rfl (lsub_cons rfl lsub_nil))))) ?_
    have kn_22 : Hid (c_2 1 3 = c 1 3) := hF_4 1 3 (fun h => absurd h.1 (nn rfl))
    have kn_23 : Hid (c_16 1 3 = c 1 3) := (hF_18 1 3 (fun q => q.elim (fun h => absurd h.1 (nn rfl)) (fun q => q.elim (fun h => absurd h (nn rfl)) (fun q => q.elim (fun h => absurd h.1 (nn rfl)) (fun q => q.elim (fun h => absurd h.1 (nn rfl)) (fun q => q.elim (fun h => absurd h.1 (nn rfl)) (fun q => q.elim (fun h => absurd h.1 (nn rfl)) (fun q => q.elim (fun h => absurd h.1 (nn rfl)) (fun q => q.elim (fun h => absurd h.1 (nn rfl)) (fun q => q.elim (fun h => absurd h.1 (nn rfl)) (fun q => q.elim (fun h => absurd h.1 (nn rfl)) (fun q => q.elim (fun h => absurd h (nn rfl)) (fun q => q.elim (fun h => absurd h (nn rfl)) (fun q => q.elim (fun h => absurd h (nn rfl)) (fun q => q.elim (fun h => absurd h.1 (nn rfl)) (fun q => q.elim (fun h => absurd h.1 (nn rfl)) (fun q => q.elim (fun h => absurd h.1 (nn rfl)) (fun q => q.elim (fun h => absurd h.1 (nn rfl)) (fun q => q.elim (fun h => absurd h.1 (nn rfl)) (fun q => q.elim (fun h => absurd h (nn rfl)) (fun q => q.elim (fun h => absurd h (nn rfl)) (fun q => q.elim (fun h => absurd h (nn rfl)) (fun h => absurd h (nn rfl)))))))))))))))))))))))).trans (hid kn_22)
    have h_24 : c_16 1 3 = c 1 3 := (hid kn_23)
    have h_25 : c_16 41 2 = c_16 41 2 := rfl
    have kn_26 : Hid (c_2 (P + 7) 4 = nl) := (hF_4 (P + 7) 4 (fun h => absurd h.1 (np hP rfl rfl))).trans (hnl)
    have kn_27 : Hid (c_16 (P + 7) 4 = nl) := (hF_18 (P + 7) 4 (fun q => q.elim (fun h => absurd h.1 (np hP rfl rfl)) (fun q => q.elim (fun h => absurd h (np hP rfl rfl)) (fun q => q.elim (fun h => absurd h.1 (np hP rfl rfl)) (fun q => q.elim (fun h => absurd h.1 (np hP rfl rfl)) (fun q => q.elim (fun h => absurd h.1 (np hP rfl rfl)) (fun q => q.elim (fun h => absurd h.1 (np hP rfl rfl)) (fun q => q.elim (fun h => absurd h.1 (np hP rfl rfl)) (fun q => q.elim (fun h => absurd h.1 (np hP rfl rfl)) (fun q => q.elim (fun h => absurd h.1 (np hP rfl rfl)) (fun q => q.elim (fun h => absurd h.1 (np hP rfl rfl)) (fun q => q.elim (fun h => absurd h (np hP rfl rfl)) (fun q => q.elim (fun h => absurd h (np hP rfl rfl)) (fun q => q.elim (fun h => absurd h (np hP rfl rfl)) (fun q => q.elim (fun h => absurd h.1 (np hP rfl rfl)) (fun q => q.elim (fun h => absurd h.1 (np hP rfl rfl)) (fun q => q.elim (fun h => absurd h.1 (np hP rfl rfl)) (fun q => q.elim (fun h => absurd h.1 (np hP rfl rfl)) (fun q => q.elim (fun h => absurd h.1 (np hP rfl rfl)) (fun q => q.elim (fun h => absurd h (np hP rfl rfl)) (fun q => q.elim (fun h => absurd h (np hP rfl rfl)) (fun q => q.elim (fun h => absurd h (np hP rfl rfl)) (fun h => absurd h (np hP rfl rfl)))))))))))))))))))))))).trans (hid kn_26)
    have kn_28 : Hid (c_2 41 30 = nl) := (hF_4 41 30 (fun h => absurd h.1 (nn rfl))).trans (hml)
    have kn_29 : Hid (c_16 41 30 = nl) := (hF_18 41 30 (fun q => q.elim (fun h => absurd h.2 (ni rfl)) (fun q => q.elim (fun h => absurd h (nn rfl)) (fun q => q.elim (fun h => absurd h.2 (ni rfl)) (fun q => q.elim (fun h => absurd h.2 (ni rfl)) (fun q => q.elim (fun h => absurd h.2 (ni rfl)) (fun q => q.elim (fun h => absurd h.2 (ni rfl)) (fun q => q.elim (fun h => absurd h.2 (ni rfl)) (fun q => q.elim (fun h => absurd h.2 (ni rfl)) (fun q => q.elim (fun h => absurd h.2 (ni rfl)) (fun q => q.elim (fun h => absurd h.2 (ni rfl)) (fun q => q.elim (fun h => absurd h (nn rfl)) (fun q => q.elim (fun h => absurd h (nn rfl)) (fun q => q.elim (fun h => absurd h (nn rfl)) (fun q => q.elim (fun h => absurd h.2 (ni rfl)) (fun q => q.elim (fun h => absurd h.2 (ni rfl)) (fun q => q.elim (fun h => absurd h.2 (ni rfl)) (fun q => q.elim (fun h => absurd h.2 (ni rfl)) (fun q => q.elim (fun h => absurd h.2 (ni rfl)) (fun q => q.elim (fun h => absurd h (nn rfl)) (fun q => q.elim (fun h => absurd h (nn rfl)) (fun q => q.elim (fun h => absurd h (nn rfl)) (fun h => absurd h (nn rfl)))))))))))))))))))))))).trans (hid kn_28)
    have h_30 : c_16 (P + 7) 4 = nl := (hid kn_27)
    have h_31 : c_16 41 30 = nl := (hid kn_29)
    have hA_32 : Ce nl (c_16 (P + 8)) (c_16 52) (c_16 53) := ce_fr hCe (fun j => (hF_18 (P + 8) j (fun q => q.elim (fun h => absurd h.1 (np hP rfl rfl)) (fun q => q.elim (fun h => absurd h (np hP rfl rfl)) (fun q => q.elim (fun h => absurd h.1 (np hP rfl rfl)) (fun q => q.elim (fun h => absurd h.1 (np hP rfl rfl)) (fun q => q.elim (fun h => absurd h.1 (np hP rfl rfl)) (fun q => q.elim (fun h => absurd h.1 (np hP rfl rfl)) (fun q => q.elim (fun h => absurd h.1 (np hP rfl rfl)) (fun q => q.elim (fun h => absurd h.1 (np hP rfl rfl)) (fun q => q.elim (fun h => absurd h.1 (np hP rfl rfl)) (fun q => q.elim (fun h => absurd h.1 (np hP rfl rfl)) (fun q => q.elim (fun h => absurd h (np hP rfl rfl)) (fun q => q.elim (fun h => absurd h (np hP rfl rfl)) (fun q => q.elim (fun h => absurd h (np hP rfl rfl)) (fun q => q.elim (fun h => absurd h.1 (np hP rfl rfl)) (fun q => q.elim (fun h => absurd h.1 (np hP rfl rfl)) (fun q => q.elim (fun h => absurd h.1 (np hP rfl rfl)) (fun q => q.elim (fun h => absurd h.1 (np hP rfl rfl)) (fun q => q.elim (fun h => absurd h.1 (np hP rfl rfl)) (fun q => q.elim (fun h => absurd h (np hP rfl rfl)) (fun q => q.elim (fun h => absurd h (np hP rfl rfl)) (fun q => q.elim (fun h => absurd h (np hP rfl rfl)) (fun h => absurd h (np hP rfl rfl)))))))))))))))))))))))).trans (hF_4 (P + 8) j (fun h => absurd h.1 (np hP rfl rfl)))) (fun j => (hF_18 52 j (fun q => q.elim (fun h => absurd h.1 (nn rfl)) (fun q => q.elim (fun h => absurd h (nn rfl)) (fun q => q.elim (fun h => absurd h.1 (nn rfl)) (fun q => q.elim (fun h => absurd h.1 (nn rfl)) (fun q => q.elim (fun h => absurd h.1 (nn rfl)) (fun q => q.elim (fun h => absurd h.1 (nn rfl)) (fun q => q.elim (fun h => absurd h.1 (nn rfl)) (fun q => q.elim (fun h => absurd h.1 (nn rfl)) (fun q => q.elim (fun h => absurd h.1 (nn rfl)) (fun q => q.elim (fun h => absurd h.1 (nn rfl)) (fun q => q.elim (fun h => absurd h (nn rfl)) (fun q => q.elim (fun h => absurd h (nn rfl)) (fun q => q.elim (fun h => absurd h (nn rfl)) (fun q => q.elim (fun h => absurd h.1 (nn rfl)) (fun q => q.elim (fun h => absurd h.1 (nn rfl)) (fun q => q.elim (fun h => absurd h.1 (nn rfl)) (fun q => q.elim (fun h => absurd h.1 (nn rfl)) (fun q => q.elim (fun h => absurd h.1 (nn rfl)) (fun q => q.elim (fun h => absurd h (nn rfl)) (fun q => q.elim (fun h => absurd h (nn rfl)) (fun q => q.elim (fun h => absurd h (nn rfl)) (fun h => absurd h (nn rfl)))))))))))))))))))))))).trans (hF_4 52 j (fun h => absurd h.1 (nn rfl)))) (fun j => (hF_18 53 j (fun q => q.elim (fun h => absurd h.1 (nn rfl)) (fun q => q.elim (fun h => absurd h (nn rfl)) (fun q => q.elim (fun h => absurd h.1 (nn rfl)) (fun q => q.elim (fun h => absurd h.1 (nn rfl)) (fun q => q.elim (fun h => absurd h.1 (nn rfl)) (fun q => q.elim (fun h => absurd h.1 (nn rfl)) (fun q => q.elim (fun h => absurd h.1 (nn rfl)) (fun q => q.elim (fun h => absurd h.1 (nn rfl)) (fun q => q.elim (fun h => absurd h.1 (nn rfl)) (fun q => q.elim (fun h => absurd h.1 (nn rfl)) (fun q => q.elim (fun h => absurd h (nn rfl)) (fun q => q.elim (fun h => absurd h (nn rfl)) (fun q => q.elim (fun h => absurd h (nn rfl)) (fun q => q.elim (fun h => absurd h.1 (nn rfl)) (fun q => q.elim (fun h => absurd h.1 (nn rfl)) (fun q => q.elim (fun h => absurd h.1 (nn rfl)) (fun q => q.elim (fun h => absurd h.1 (nn rfl)) (fun q => q.elim (fun h => absurd h.1 (nn rfl)) (fun q => q.elim (fun h => absurd h (nn rfl)) (fun q => q.elim (fun h => absurd h (nn rfl)) (fun q => q.elim (fun h => absurd h (nn rfl)) (fun h => absurd h (nn rfl)))))))))))))))))))))))).trans (hF_4 53 j (fun h => absurd h.1 (nn rfl))))
    exact K P Q c_16 1 (by decide) hI_17 ⟨by omega, ub_fr hU (fun j => (hF_18 2 j (fun q => q.elim (fun h => absurd h.1 (nn rfl)) (fun q => q.elim (fun h => absurd h (nn rfl)) (fun q => q.elim (fun h => absurd h.1 (nn rfl)) (fun q => q.elim (fun h => absurd h.1 (nn rfl)) (fun q => q.elim (fun h => absurd h.1 (nn rfl)) (fun q => q.elim (fun h => absurd h.1 (nn rfl)) (fun q => q.elim (fun h => absurd h.1 (nn rfl)) (fun q => q.elim (fun h => absurd h.1 (nn rfl)) (fun q => q.elim (fun h => absurd h.1 (nn rfl)) (fun q => q.elim (fun h => absurd h.1 (nn rfl)) (fun q => q.elim (fun h => absurd h (nn rfl)) (fun q => q.elim (fun h => absurd h (nn rfl)) (fun q => q.elim (fun h => absurd h (nn rfl)) (fun q => q.elim (fun h => absurd h.1 (nn rfl)) (fun q => q.elim (fun h => absurd h.1 (nn rfl)) (fun q => q.elim (fun h => absurd h.1 (nn rfl)) (fun q => q.elim (fun h => absurd h.1 (nn rfl)) (fun q => q.elim (fun h => absurd h.1 (nn rfl)) (fun q => q.elim (fun h => absurd h (nn rfl)) (fun q => q.elim (fun h => absurd h (nn rfl)) (fun q => q.elim (fun h => absurd h (nn rfl)) (fun h => absurd h (nn rfl)))))))))))))))))))))))).trans (hF_4 2 j (fun h => absurd h.1 (nn rfl)))) (fun j => (hF_18 43 j (fun q => q.elim (fun h => absurd h.1 (nn rfl)) (fun q => q.elim (fun h => absurd h (nn rfl)) (fun q => q.elim (fun h => absurd h.1 (nn rfl)) (fun q => q.elim (fun h => absurd h.1 (nn rfl)) (fun q => q.elim (fun h => absurd h.1 (nn rfl)) (fun q => q.elim (fun h => absurd h.1 (nn rfl)) (fun q => q.elim (fun h => absurd h.1 (nn rfl)) (fun q => q.elim (fun h => absurd h.1 (nn rfl)) (fun q => q.elim (fun h => absurd h.1 (nn rfl)) (fun q => q.elim (fun h => absurd h.1 (nn rfl)) (fun q => q.elim (fun h => absurd h (nn rfl)) (fun q => q.elim (fun h => absurd h (nn rfl)) (fun q => q.elim (fun h => absurd h (nn rfl)) (fun q => q.elim (fun h => absurd h.1 (nn rfl)) (fun q => q.elim (fun h => absurd h.1 (nn rfl)) (fun q => q.elim (fun h => absurd h.1 (nn rfl)) (fun q => q.elim (fun h => absurd h.1 (nn rfl)) (fun q => q.elim (fun h => absurd h.1 (nn rfl)) (fun q => q.elim (fun h => absurd h (nn rfl)) (fun q => q.elim (fun h => absurd h (nn rfl)) (fun q => q.elim (fun h => absurd h (nn rfl)) (fun h => absurd h (nn rfl)))))))))))))))))))))))).trans (hF_4 43 j (fun h => absurd h.1 (nn rfl)))), ⟨by omega, ce_le hA_32 (by omega)⟩⟩
  refine bk_inl ?_
  have h_33 := ir_1_3 hI_8
  refine v_i2l rfl (by omega) ?_
  refine v_ls rfl rfl (by decide) (by decide) (by decide) ?_
  refine q_goto (t := 15) rfl (by decide) ?_
  refine q_iconst rfl ?_
  refine q_iret rfl rfl ?_
  refine bk_inl ?_
  refine q_istore rfl (by decide) ?_
  refine q_aload_n rfl rfl ?_
  refine q_aload_n rfl rfl ?_
  refine q_iload rfl rfl ?_
  refine q_iconst rfl ?_
  refine v_iadd (v := (i0 : Int) + 1) rfl rfl ?_
  refine v_scr (j := i0 + 1) rfl (by omega) (by omega) hL hx1 ?_
  have hI_34 := iw_lx (a := 67) (j := 0) (v := y_10) hI_8 (by omega)
  have h_35 := ir_41_2 hI
  have kn_36 : Hid (c_7 41 2 = c 41 2) := hF_9 41 2 (fun q => q.elim (fun h => absurd h.1 (nn rfl)) (fun q => q.elim (fun h => absurd h.1 (nn rfl)) (fun q => q.elim (fun h => absurd h.1 (nn rfl)) (fun q => q.elim (fun h => absurd h.1 (nn rfl)) (fun q => q.elim (fun h => absurd h.1 (nn rfl)) (fun q => q.elim (fun h => absurd h.1 (nn rfl)) (fun q => q.elim (fun h => absurd h.1 (nn rfl)) (fun q => q.elim (fun h => absurd h.1 (nn rfl)) (fun q => q.elim (fun h => absurd h.1 (nn rfl)) (fun q => q.elim (fun h => absurd h.1 (nn rfl)) (fun q => q.elim (fun h => absurd h (nn rfl)) (fun q => q.elim (fun h => absurd h.1 (nn rfl)) (fun q => q.elim (fun h => absurd h (nn rfl)) (fun q => q.elim (fun h => absurd h (nn rfl)) (fun q => q.elim (fun h => absurd h.1 (nn rfl)) (fun q => q.elim (fun h => absurd h (pn hP rfl rfl)) (fun h => absurd h (pn hP rfl rfl))))))))))))))))))
  have h_37 : (up c_7 67 0 y_10) 41 2 = c 41 2 := ((up_c (nn rfl)).trans (hid kn_36))
  refine v_cv rfl rfl rfl rfl (by decide) ⟨⟨rfl, rfl⟩, by decide, rfl⟩ (Nat.le_of_ble_eq_true rfl) (Nat.le_of_ble_eq_true rfl) (s_202 (a1 := x1) hI_34 (show (-2147483648) ≤ x1 ∧ x1 ≤ 2147483647 from ⟨by omega, by omega⟩) (fun c_38 y_41 hI_39 hF_40 hy_41 h_42 => ?_))
  refine bk_inl ?_
  have h_43 := ir_41_2 hI_39
  refine q_istore rfl (by decide) ?_
  refine q_goto (t := 1844) rfl (by decide) ?_
  refine Wp_ls [(4, vi (i0 : Int)), (3, .ref 67), (2, .ref 41), (1, .ref 0), (0, .ref a_SC)] (lsub_cons rfl (lsub_cons rfl (lsub_cons rfl (lsub_cons rfl (lsub_cons rfl lsub_nil))))) ?_
  have kn_44 : Hid (c_38 1 3 = c_7 1 3) := (hF_40 1 3 (fun q => q.elim (fun h => absurd h.1 (nn rfl)) (fun q => q.elim (fun h => absurd h (nn rfl)) (fun q => q.elim (fun h => absurd h.1 (nn rfl)) (fun q => q.elim (fun h => absurd h.1 (nn rfl)) (fun q => q.elim (fun h => absurd h.1 (nn rfl)) (fun q => q.elim (fun h => absurd h.1 (nn rfl)) (fun q => q.elim (fun h => absurd h.1 (nn rfl)) (fun q => q.elim (fun h => absurd h.1 (nn rfl)) (fun q => q.elim (fun h => absurd h.1 (nn rfl)) (fun q => q.elim (fun h => absurd h.1 (nn rfl)) (fun q => q.elim (fun h => absurd h (nn rfl)) (fun q => q.elim (fun h => absurd h (nn rfl)) (fun q => q.elim (fun h => absurd h (nn rfl)) (fun q => q.elim (fun h => absurd h.1 (nn rfl)) (fun q => q.elim (fun h => absurd h.1 (nn rfl)) (fun q => q.elim (fun h => absurd h.1 (nn rfl)) (fun q => q.elim (fun h => absurd h.1 (nn rfl)) (fun q => q.elim (fun h => absurd h.1 (nn rfl)) (fun q => q.elim (fun h => absurd h (nn rfl)) (fun q => q.elim (fun h => absurd h (nn rfl)) (fun q => q.elim (fun h => absurd h (nn rfl)) (fun h => absurd h (nn rfl)))))))))))))))))))))))).trans (up_c (nn rfl))
  have h_45 : c_38 1 3 = c_7 1 3 := (hid kn_44)
  have h_46 : c_38 41 2 = c_38 41 2 := rfl
  have kn_47 : Hid (c_7 (P + 7) 4 = nl) := (hF_9 (P + 7) 4 (fun q => q.elim (fun h => absurd h.1 (np hP rfl rfl)) (fun q => q.elim (fun h => absurd h.1 (np hP rfl rfl)) (fun q => q.elim (fun h => absurd h.1 (np hP rfl rfl)) (fun q => q.elim (fun h => absurd h.1 (np hP rfl rfl)) (fun q => q.elim (fun h => absurd h.1 (np hP rfl rfl)) (fun q => q.elim (fun h => absurd h.1 (np hP rfl rfl)) (fun q => q.elim (fun h => absurd h.1 (np hP rfl rfl)) (fun q => q.elim (fun h => absurd h.1 (np hP rfl rfl)) (fun q => q.elim (fun h => absurd h.1 (np hP rfl rfl)) (fun q => q.elim (fun h => absurd h.1 (np hP rfl rfl)) (fun q => q.elim (fun h => absurd h (np hP rfl rfl)) (fun q => q.elim (fun h => absurd h.1 (np hP rfl rfl)) (fun q => q.elim (fun h => absurd h (np hP rfl rfl)) (fun q => q.elim (fun h => absurd h (np hP rfl rfl)) (fun q => q.elim (fun h => absurd h.1 (np hP rfl rfl)) (fun q => q.elim (fun h => absurd h (pp rfl)) (fun h => absurd h (pp rfl))))))))))))))))))).trans (hnl)
  have kn_48 : Hid (c_38 (P + 7) 4 = nl) := (hF_40 (P + 7) 4 (fun q => q.elim (fun h => absurd h.1 (np hP rfl rfl)) (fun q => q.elim (fun h => absurd h (np hP rfl rfl)) (fun q => q.elim (fun h => absurd h.1 (np hP rfl rfl)) (fun q => q.elim (fun h => absurd h.1 (np hP rfl rfl)) (fun q => q.elim (fun h => absurd h.1 (np hP rfl rfl)) (fun q => q.elim (fun h => absurd h.1 (np hP rfl rfl)) (fun q => q.elim (fun h => absurd h.1 (np hP rfl rfl)) (fun q => q.elim (fun h => absurd h.1 (np hP rfl rfl)) (fun q => q.elim (fun h => absurd h.1 (np hP rfl rfl)) (fun q => q.elim (fun h => absurd h.1 (np hP rfl rfl)) (fun q => q.elim (fun h => absurd h (np hP rfl rfl)) (fun q => q.elim (fun h => absurd h (np hP rfl rfl)) (fun q => q.elim (fun h => absurd h (np hP rfl rfl)) (fun q => q.elim (fun h => absurd h.1 (np hP rfl rfl)) (fun q => q.elim (fun h => absurd h.1 (np hP rfl rfl)) (fun q => q.elim (fun h => absurd h.1 (np hP rfl rfl)) (fun q => q.elim (fun h => absurd h.1 (np hP rfl rfl)) (fun q => q.elim (fun h => absurd h.1 (np hP rfl rfl)) (fun q => q.elim (fun h => absurd h (np hP rfl rfl)) (fun q => q.elim (fun h => absurd h (np hP rfl rfl)) (fun q => q.elim (fun h => absurd h (np hP rfl rfl)) (fun h => absurd h (np hP rfl rfl)))))))))))))))))))))))).trans ((up_c (np hP rfl rfl)).trans (hid kn_47))
  have kn_49 : Hid (c_7 41 30 = nl) := (hF_9 41 30 (fun q => q.elim (fun h => absurd h.1 (nn rfl)) (fun q => q.elim (fun h => absurd h.1 (nn rfl)) (fun q => q.elim (fun h => absurd h.1 (nn rfl)) (fun q => q.elim (fun h => absurd h.1 (nn rfl)) (fun q => q.elim (fun h => absurd h.1 (nn rfl)) (fun q => q.elim (fun h => absurd h.1 (nn rfl)) (fun q => q.elim (fun h => absurd h.1 (nn rfl)) (fun q => q.elim (fun h => absurd h.1 (nn rfl)) (fun q => q.elim (fun h => absurd h.1 (nn rfl)) (fun q => q.elim (fun h => absurd h.1 (nn rfl)) (fun q => q.elim (fun h => absurd h (nn rfl)) (fun q => q.elim (fun h => absurd h.1 (nn rfl)) (fun q => q.elim (fun h => absurd h (nn rfl)) (fun q => q.elim (fun h => absurd h (nn rfl)) (fun q => q.elim (fun h => absurd h.1 (nn rfl)) (fun q => q.elim (fun h => absurd h (pn hP rfl rfl)) (fun h => absurd h (pn hP rfl rfl))))))))))))))))))).trans (hml)
  have kn_50 : Hid (c_38 41 30 = nl) := (hF_40 41 30 (fun q => q.elim (fun h => absurd h.2 (ni rfl)) (fun q => q.elim (fun h => absurd h (nn rfl)) (fun q => q.elim (fun h => absurd h.2 (ni rfl)) (fun q => q.elim (fun h => absurd h.2 (ni rfl)) (fun q => q.elim (fun h => absurd h.2 (ni rfl)) (fun q => q.elim (fun h => absurd h.2 (ni rfl)) (fun q => q.elim (fun h => absurd h.2 (ni rfl)) (fun q => q.elim (fun h => absurd h.2 (ni rfl)) (fun q => q.elim (fun h => absurd h.2 (ni rfl)) (fun q => q.elim (fun h => absurd h.2 (ni rfl)) (fun q => q.elim (fun h => absurd h (nn rfl)) (fun q => q.elim (fun h => absurd h (nn rfl)) (fun q => q.elim (fun h => absurd h (nn rfl)) (fun q => q.elim (fun h => absurd h.2 (ni rfl)) (fun q => q.elim (fun h => absurd h.2 (ni rfl)) (fun q => q.elim (fun h => absurd h.2 (ni rfl)) (fun q => q.elim (fun h => absurd h.2 (ni rfl)) (fun q => q.elim (fun h => absurd h.2 (ni rfl)) (fun q => q.elim (fun h => absurd h (nn rfl)) (fun q => q.elim (fun h => absurd h (nn rfl)) (fun q => q.elim (fun h => absurd h (nn rfl)) (fun h => absurd h (nn rfl)))))))))))))))))))))))).trans ((up_c (nn rfl)).trans (hid kn_49))
  have h_51 : c_38 (P + 7) 4 = nl := (hid kn_48)
  have h_52 : c_38 41 30 = nl := (hid kn_50)
  have hA_53 : Ce nl (c_38 (P + 8)) (c_38 52) (c_38 53) := ce_fr hCe (fun j => (hF_40 (P + 8) j (fun q => q.elim (fun h => absurd h.1 (np hP rfl rfl)) (fun q => q.elim (fun h => absurd h (np hP rfl rfl)) (fun q => q.elim (fun h => absurd h.1 (np hP rfl rfl)) (fun q => q.elim (fun h => absurd h.1 (np hP rfl rfl)) (fun q => q.elim (fun h => absurd h.1 (np hP rfl rfl)) (fun q => q.elim (fun h => absurd h.1 (np hP rfl rfl)) (fun q => q.elim (fun h => absurd h.1 (np hP rfl rfl)) (fun q => q.elim (fun h => absurd h.1 (np hP rfl rfl)) (fun q => q.elim (fun h => absurd h.1 (np hP rfl rfl)) (fun q => q.elim (fun h => absurd h.1 (np hP rfl rfl)) (fun q => q.elim (fun h => absurd h (np hP rfl rfl)) (fun q => q.elim (fun h => absurd h (np hP rfl rfl)) (fun q => q.elim (fun h => absurd h (np hP rfl rfl)) (fun q => q.elim (fun h => absurd h.1 (np hP rfl rfl)) (fun q => q.elim (fun h => absurd h.1 (np hP rfl rfl)) (fun q => q.elim (fun h => absurd h.1 (np hP rfl rfl)) (fun q => q.elim (fun h => absurd h.1 (np hP rfl rfl)) (fun q => q.elim (fun h => absurd h.1 (np hP rfl rfl)) (fun q => q.elim (fun h => absurd h (np hP rfl rfl)) (fun q => q.elim (fun h => absurd h (np hP rfl rfl)) (fun q => q.elim (fun h => absurd h (np hP rfl rfl)) (fun h => absurd h (np hP rfl rfl)))))))))))))))))))))))).trans ((up_c (np hP rfl rfl)).trans (hF_9 (P + 8) j (fun q => q.elim (fun h => absurd h.1 (np hP rfl rfl)) (fun q => q.elim (fun h => absurd h.1 (np hP rfl rfl)) (fun q => q.elim (fun h => absurd h.1 (np hP rfl rfl)) (fun q => q.elim (fun h => absurd h.1 (np hP rfl rfl)) (fun q => q.elim (fun h => absurd h.1 (np hP rfl rfl)) (fun q => q.elim (fun h => absurd h.1 (np hP rfl rfl)) (fun q => q.elim (fun h => absurd h.1 (np hP rfl rfl)) (fun q => q.elim (fun h => absurd h.1 (np hP rfl rfl)) (fun q => q.elim (fun h => absurd h.1 (np hP rfl rfl)) (fun q => q.elim (fun h => absurd h.1 (np hP rfl rfl)) (fun q => q.elim (fun h => absurd h (np hP rfl rfl)) (fun q => q.elim (fun h => absurd h.1 (np hP rfl rfl)) (fun q => q.elim (fun h => absurd h (np hP rfl rfl)) (fun q => q.elim (fun h => absurd h (np hP rfl rfl)) (fun q => q.elim (fun h => absurd h.1 (np hP rfl rfl)) (fun q => q.elim (fun h => absurd h (pp rfl)) (fun h => absurd h (pp rfl))))))))))))))))))))) (fun j => (hF_40 52 j (fun q => q.elim (fun h => absurd h.1 (nn rfl)) (fun q => q.elim (fun h => absurd h (nn rfl)) (fun q => q.elim (fun h => absurd h.1 (nn rfl)) (fun q => q.elim (fun h => absurd h.1 (nn rfl)) (fun q => q.elim (fun h => absurd h.1 (nn rfl)) (fun q => q.elim (fun h => absurd h.1 (nn rfl)) (fun q => q.elim (fun h => absurd h.1 (nn rfl)) (fun q => q.elim (fun h => absurd h.1 (nn rfl)) (fun q => q.elim (fun h => absurd h.1 (nn rfl)) (fun q => q.elim (fun h => absurd h.1 (nn rfl)) (fun q => q.elim (fun h => absurd h (nn rfl)) (fun q => q.elim (fun h => absurd h (nn rfl)) (fun q => q.elim (fun h => absurd h (nn rfl)) (fun q => q.elim (fun h => absurd h.1 (nn rfl)) (fun q => q.elim (fun h => absurd h.1 (nn rfl)) (fun q => q.elim (fun h => absurd h.1 (nn rfl)) (fun q => q.elim (fun h => absurd h.1 (nn rfl)) (fun q => q.elim (fun h => absurd h.1 (nn rfl)) (fun q => q.elim (fun h => absurd h (nn rfl)) (fun q => q.elim (fun h => absurd h (nn rfl)) (fun q => q.elim (fun h => absurd h (nn rfl)) (fun h => absurd h (nn rfl)))))))))))))))))))))))).trans ((up_c (nn rfl)).trans (hF_9 52 j (fun q => q.elim (fun h => absurd h.1 (nn rfl)) (fun q => q.elim (fun h => absurd h.1 (nn rfl)) (fun q => q.elim (fun h => absurd h.1 (nn rfl)) (fun q => q.elim (fun h => absurd h.1 (nn rfl)) (fun q => q.elim (fun h => absurd h.1 (nn rfl)) (fun q => q.elim (fun h => absurd h.1 (nn rfl)) (fun q => q.elim (fun h => absurd h.1 (nn rfl)) (fun q => q.elim (fun h => absurd h.1 (nn rfl)) (fun q => q.elim (fun h => absurd h.1 (nn rfl)) (fun q => q.elim (fun h => absurd h.1 (nn rfl)) (fun q => q.elim (fun h => absurd h (nn rfl)) (fun q => q.elim (fun h => absurd h.1 (nn rfl)) (fun q => q.elim (fun h => absurd h (nn rfl)) (fun q => q.elim (fun h => absurd h (nn rfl)) (fun q => q.elim (fun h => absurd h.1 (nn rfl)) (fun q => q.elim (fun h => absurd h (pn hP rfl rfl)) (fun h => absurd h (pn hP rfl rfl))))))))))))))))))))) (fun j => (hF_40 53 j (fun q => q.elim (fun h => absurd h.1 (nn rfl)) (fun q => q.elim (fun h => absurd h (nn rfl)) (fun q => q.elim (fun h => absurd h.1 (nn rfl)) (fun q => q.elim (fun h => absurd h.1 (nn rfl)) (fun q => q.elim (fun h => absurd h.1 (nn rfl)) (fun q => q.elim (fun h => absurd h.1 (nn rfl)) (fun q => q.elim (fun h => absurd h.1 (nn rfl)) (fun q => q.elim (fun h => absurd h.1 (nn rfl)) (fun q => q.elim (fun h => absurd h.1 (nn rfl)) (fun q => q.elim (fun h => absurd h.1 (nn rfl)) (fun q => q.elim (fun h => absurd h (nn rfl)) (fun q => q.elim (fun h => absurd h (nn rfl)) (fun q => q.elim (fun h => absurd h (nn rfl)) (fun q => q.elim (fun h => absurd h.1 (nn rfl)) (fun q => q.elim (fun h => absurd h.1 (nn rfl)) (fun q => q.elim (fun h => absurd h.1 (nn rfl)) (fun q => q.elim (fun h => absurd h.1 (nn rfl)) (fun q => q.elim (fun h => absurd h.1 (nn rfl)) (fun q => q.elim (fun h => absurd h (nn rfl)) (fun q => q.elim (fun h => absurd h (nn rfl)) (fun q => q.elim (fun h => absurd h (nn rfl)) (fun h => absurd h (nn rfl)))))))))))))))))))))))).trans ((up_c (nn rfl)).trans (hF_9 53 j (fun q => q.elim (fun h => absurd h.1 (nn rfl)) (fun q => q.elim (fun h => absurd h.1 (nn rfl)) (fun q => q.elim (fun h => absurd h.1 (nn rfl)) (fun q => q.elim (fun h => absurd h.1 (nn rfl)) (fun q => q.elim (fun h => absurd h.1 (nn rfl)) (fun q => q.elim (fun h => absurd h.1 (nn rfl)) (fun q => q.elim (fun h => absurd h.1 (nn rfl)) (fun q => q.elim (fun h => absurd h.1 (nn rfl)) (fun q => q.elim (fun h => absurd h.1 (nn rfl)) (fun q => q.elim (fun h => absurd h.1 (nn rfl)) (fun q => q.elim (fun h => absurd h (nn rfl)) (fun q => q.elim (fun h => absurd h.1 (nn rfl)) (fun q => q.elim (fun h => absurd h (nn rfl)) (fun q => q.elim (fun h => absurd h (nn rfl)) (fun q => q.elim (fun h => absurd h.1 (nn rfl)) (fun q => q.elim (fun h => absurd h (pn hP rfl rfl)) (fun h => absurd h (pn hP rfl rfl)))))))))))))))))))))
  exact K P Q c_38 0 (by decide) hI_39 ⟨by omega, ub_fr hU (fun j => (hF_40 2 j (fun q => q.elim (fun h => absurd h.1 (nn rfl)) (fun q => q.elim (fun h => absurd h (nn rfl)) (fun q => q.elim (fun h => absurd h.1 (nn rfl)) (fun q => q.elim (fun h => absurd h.1 (nn rfl)) (fun q => q.elim (fun h => absurd h.1 (nn rfl)) (fun q => q.elim (fun h => absurd h.1 (nn rfl)) (fun q => q.elim (fun h => absurd h.1 (nn rfl)) (fun q => q.elim (fun h => absurd h.1 (nn rfl)) (fun q => q.elim (fun h => absurd h.1 (nn rfl)) (fun q => q.elim (fun h => absurd h.1 (nn rfl)) (fun q => q.elim (fun h => absurd h (nn rfl)) (fun q => q.elim (fun h => absurd h (nn rfl)) (fun q => q.elim (fun h => absurd h (nn rfl)) (fun q => q.elim (fun h => absurd h.1 (nn rfl)) (fun q => q.elim (fun h => absurd h.1 (nn rfl)) (fun q => q.elim (fun h => absurd h.1 (nn rfl)) (fun q => q.elim (fun h => absurd h.1 (nn rfl)) (fun q => q.elim (fun h => absurd h.1 (nn rfl)) (fun q => q.elim (fun h => absurd h (nn rfl)) (fun q => q.elim (fun h => absurd h (nn rfl)) (fun q => q.elim (fun h => absurd h (nn rfl)) (fun h => absurd h (nn rfl)))))))))))))))))))))))).trans ((up_c (nn rfl)).trans (hF_9 2 j (fun q => q.elim (fun h => absurd h.1 (nn rfl)) (fun q => q.elim (fun h => absurd h.1 (nn rfl)) (fun q => q.elim (fun h => absurd h.1 (nn rfl)) (fun q => q.elim (fun h => absurd h.1 (nn rfl)) (fun q => q.elim (fun h => absurd h.1 (nn rfl)) (fun q => q.elim (fun h => absurd h.1 (nn rfl)) (fun q => q.elim (fun h => absurd h.1 (nn rfl)) (fun q => q.elim (fun h => absurd h.1 (nn rfl)) (fun q => q.elim (fun h => absurd h.1 (nn rfl)) (fun q => q.elim (fun h => absurd h.1 (nn rfl)) (fun q => q.elim (fun h => absurd h (nn rfl)) (fun q => q.elim (fun h => absurd h.1 (nn rfl)) (fun q => q.elim (fun h => absurd h (nn rfl)) (fun q => q.elim (fun h => absurd h (nn rfl)) (fun q => q.elim (fun h => absurd h.1 (nn rfl)) (fun q => q.elim (fun h => absurd h (pn hP rfl rfl)) (fun h => absurd h (pn hP rfl rfl))))))))))))))))))))) (fun j => (hF_40 43 j (fun q => q.elim (fun h => absurd h.1 (nn rfl)) (fun q => q.elim (fun h => absurd h (nn rfl)) (fun q => q.elim (fun h => absurd h.1 (nn rfl)) (fun q => q.elim (fun h => absurd h.1 (nn rfl)) (fun q => q.elim (fun h => absurd h.1 (nn rfl)) (fun q => q.elim (fun h => absurd h.1 (nn rfl)) (fun q => q.elim (fun h => absurd h.1 (nn rfl)) (fun q => q.elim (fun h => absurd h.1 (nn rfl)) (fun q => q.elim (fun h => absurd h.1 (nn rfl)) (fun q => q.elim (fun h => absurd h.1 (nn rfl)) (fun q => q.elim (fun h => absurd h (nn rfl)) (fun q => q.elim (fun h => absurd h (nn rfl)) (fun q => q.elim (fun h => absurd h (nn rfl)) (fun q => q.elim (fun h => absurd h.1 (nn rfl)) (fun q => q.elim (fun h => absurd h.1 (nn rfl)) (fun q => q.elim (fun h => absurd h.1 (nn rfl)) (fun q => q.elim (fun h => absurd h.1 (nn rfl)) (fun q => q.elim (fun h => absurd h.1 (nn rfl)) (fun q => q.elim (fun h => absurd h (nn rfl)) (fun q => q.elim (fun h => absurd h (nn rfl)) (fun q => q.elim (fun h => absurd h (nn rfl)) (fun h => absurd h (nn rfl)))))))))))))))))))))))).trans ((up_c (nn rfl)).trans (hF_9 43 j (fun q => q.elim (fun h => absurd h.1 (nn rfl)) (fun q => q.elim (fun h => absurd h.1 (nn rfl)) (fun q => q.elim (fun h => absurd h.1 (nn rfl)) (fun q => q.elim (fun h => absurd h.1 (nn rfl)) (fun q => q.elim (fun h => absurd h.1 (nn rfl)) (fun q => q.elim (fun h => absurd h.1 (nn rfl)) (fun q => q.elim (fun h => absurd h.1 (nn rfl)) (fun q => q.elim (fun h => absurd h.1 (nn rfl)) (fun q => q.elim (fun h => absurd h.1 (nn rfl)) (fun q => q.elim (fun h => absurd h.1 (nn rfl)) (fun q => q.elim (fun h => absurd h (nn rfl)) (fun q => q.elim (fun h => absurd h.1 (nn rfl)) (fun q => q.elim (fun h => absurd h (nn rfl)) (fun q => q.elim (fun h => absurd h (nn rfl)) (fun q => q.elim (fun h => absurd h.1 (nn rfl)) (fun q => q.elim (fun h => absurd h (pn hP rfl rfl)) (fun h => absurd h (pn hP rfl rfl))))))))))))))))))))), ⟨by omega, ce_le hA_53 (by omega)⟩⟩

set_option maxRecDepth 100000 in
set_option maxHeartbeats 4000000 in
theorem o_4 {xs : Nat → Int32} {L i0 d nc ns P Q : Nat} {c : ME} {Z : AR → Prop} (hi : i0 + 8 ≤ L) (hL : L ≤ 100000) (hI : Iv 0 (-1) P Q c) (hR : Rq P c) (K : ∀ (P2 Q2 : Nat) (c2 : ME) (e : Nat), e ≤ 1 → Iv 0 (-1) P2 Q2 c2 → (Rq P2 c2) → Wp (a_scr L xs) (d + 90) 296 1844 [(4, vi (i0 : Int)), (3, .ref 67), (2, .ref 41), (1, .ref 0), (0, .ref a_SC)] [] (Wd P2 Q2 P2 P2 c2) (nc + e) (ns + 6 * e) Z) : Wp (a_scr L xs) (d + 90) 296 385 [(4, vi (i0 : Int)), (3, .ref 67), (2, .ref 41), (1, .ref 0), (0, .ref a_SC)] [] (Wd P Q P P c) nc ns Z := by
  obtain ⟨x1, hx1⟩ : ∃ z, (xs (i0 + 1)).toInt = z := ⟨_, rfl⟩
  have x1r := c_rng (xs (i0 + 1))
  rw [hx1] at x1r
  obtain ⟨x2, hx2⟩ : ∃ z, (xs (i0 + 2)).toInt = z := ⟨_, rfl⟩
  have x2r := c_rng (xs (i0 + 2))
  rw [hx2] at x2r
  obtain ⟨x3, hx3⟩ : ∃ z, (xs (i0 + 3)).toInt = z := ⟨_, rfl⟩
  have x3r := c_rng (xs (i0 + 3))
  rw [hx3] at x3r
  obtain ⟨x4, hx4⟩ : ∃ z, (xs (i0 + 4)).toInt = z := ⟨_, rfl⟩
  have x4r := c_rng (xs (i0 + 4))
  rw [hx4] at x4r
  obtain ⟨x5, hx5⟩ : ∃ z, (xs (i0 + 5)).toInt = z := ⟨_, rfl⟩
  have x5r := c_rng (xs (i0 + 5))
  rw [hx5] at x5r
  obtain ⟨x6, hx6⟩ : ∃ z, (xs (i0 + 6)).toInt = z := ⟨_, rfl⟩
  have x6r := c_rng (xs (i0 + 6))
  rw [hx6] at x6r
  obtain ⟨x7, hx7⟩ : ∃ z, (xs (i0 + 7)).toInt = z := ⟨_, rfl⟩
  have x7r := c_rng (xs (i0 + 7))
  rw [hx7] at x7r
  have hT := rl_t hR
  have hU := rl_u hR
  obtain ⟨nl, hnl⟩ : ∃ z, c (P + 7) 4 = z := ⟨_, rfl⟩
  have hml : c 41 30 = nl := (rl_law hR).1.symm.trans hnl
  have hlr := ir_41_30 hI
  rw [hml] at hlr
  have hCe : Ce nl (c (P + 8)) (c 52) (c 53) := ce_le (rl_law hR).2 (by omega)
  have hHw : Hw (c 52) (c 53) nl := by rw [← hml]; exact iv_hc hI
  have hP := iv_P hI
  have hQ := iv_Q hI
  refine q_aload_n rfl rfl ?_
  refine q_aload_n rfl rfl ?_
  refine q_iload rfl rfl ?_
  refine q_iconst rfl ?_
  refine v_iadd (v := (i0 : Int) + 1) rfl rfl ?_
  refine v_scr (j := i0 + 1) rfl (by omega) (by omega) hL hx1 ?_
  refine q_aload_n rfl rfl ?_
  refine q_call rfl rfl rfl rfl ?_
  refine q_aload_n rfl rfl ?_
  refine q_iconst rfl ?_
  refine q_aload_n rfl rfl ?_
  refine q_iload_n rfl rfl ?_
  have h_1 := ir_1_3 hI
  refine v_cv rfl rfl rfl rfl (by decide) ⟨⟨rfl, rfl⟩, by decide, rfl⟩ (Nat.le_of_ble_eq_true rfl) (Nat.le_of_ble_eq_true rfl) (s_87 (a1 := x1) hI (show (-2147483648) ≤ x1 ∧ x1 ≤ 2147483647 from ⟨by omega, by omega⟩) (fun c_2 hI_3 hF_4 h_5 h_6 => ?_) (fun c_7 y_10 hI_8 hF_9 hy_10 h_11 => ?_))
  · skip
    have h_12 := ir_1_3 hI_3
    refine bk_thr (z := Int32.ofInt 1) rfl ⟨_, _, rfl⟩ rfl ?_
    refine bk_inl ?_
    refine q_istore rfl (by decide) ?_
    refine q_aload_n rfl rfl ?_
    refine q_aload_n rfl rfl ?_
    refine q_iload rfl rfl ?_
    refine q_iconst rfl ?_
    refine v_iadd (v := (i0 : Int) + 1) rfl rfl ?_
    refine v_scr (j := i0 + 1) rfl (by omega) (by omega) hL hx1 ?_
    have h_13 := ir_41_2 hI
    have kn_14 : Hid (c_2 41 2 = c 41 2) := hF_4 41 2 (fun h => absurd h.1 (nn rfl))
    have h_15 : c_2 41 2 = c 41 2 := (hid kn_14)
    refine v_cv rfl rfl rfl rfl (by decide) ⟨⟨rfl, rfl⟩, by decide, rfl⟩ (Nat.le_of_ble_eq_true rfl) (Nat.le_of_ble_eq_true rfl) (s_206 (a1 := x1) hI_3 (show (-2147483648) ≤ x1 ∧ x1 ≤ 2147483647 from ⟨by omega, by omega⟩) (fun c_16 y_19 hI_17 hF_18 hy_19 h_20 => ?_))
    refine bk_inl ?_
    have h_21 := ir_41_2 hI_17
    refine q_istore rfl (by decide) ?_
    refine q_goto (t := 1844) rfl (by decide) ?_
    refine Wp_ls [(4, vi (i0 : Int)), (3, .ref 67), (2, .ref 41), (1, .ref 0), (0, .ref a_SC)] (lsub_cons rfl (lsub_cons rfl (lsub_cons rfl (lsub_cons rfl (lsub_cons rfl lsub_nil))))) ?_
    have kn_22 : Hid (c_2 1 3 = c 1 3) := hF_4 1 3 (fun h => absurd h.1 (nn rfl))
    have kn_23 : Hid (c_16 1 3 = c 1 3) := (hF_18 1 3 (fun q => q.elim (fun h => absurd h.1 (nn rfl)) (fun q => q.elim (fun h => absurd h (nn rfl)) (fun q => q.elim (fun h => absurd h.1 (nn rfl)) (fun q => q.elim (fun h => absurd h.1 (nn rfl)) (fun q => q.elim (fun h => absurd h.1 (nn rfl)) (fun q => q.elim (fun h => absurd h.1 (nn rfl)) (fun q => q.elim (fun h => absurd h.1 (nn rfl)) (fun q => q.elim (fun h => absurd h.1 (nn rfl)) (fun q => q.elim (fun h => absurd h.1 (nn rfl)) (fun q => q.elim (fun h => absurd h.1 (nn rfl)) (fun q => q.elim (fun h => absurd h (nn rfl)) (fun h => absurd h (nn rfl)))))))))))))).trans (hid kn_22)
    have h_24 : c_16 1 3 = c 1 3 := (hid kn_23)
    have h_25 : c_16 41 2 = c_16 41 2 := rfl
    have kn_26 : Hid (c_2 (P + 7) 4 = nl) := (hF_4 (P + 7) 4 (fun h => absurd h.1 (np hP rfl rfl))).trans (hnl)
    have kn_27 : Hid (c_16 (P + 7) 4 = nl) := (hF_18 (P + 7) 4 (fun q => q.elim (fun h => absurd h.1 (np hP rfl rfl)) (fun q => q.elim (fun h => absurd h (np hP rfl rfl)) (fun q => q.elim (fun h => absurd h.1 (np hP rfl rfl)) (fun q => q.elim (fun h => absurd h.1 (np hP rfl rfl)) (fun q => q.elim (fun h => absurd h.1 (np hP rfl rfl)) (fun q => q.elim (fun h => absurd h.1 (np hP rfl rfl)) (fun q => q.elim (fun h => absurd h.1 (np hP rfl rfl)) (fun q => q.elim (fun h => absurd h.1 (np hP rfl rfl)) (fun q => q.elim (fun h => absurd h.1 (np hP rfl rfl)) (fun q => q.elim (fun h => absurd h.1 (np hP rfl rfl)) (fun q => q.elim (fun h => absurd h (np hP rfl rfl)) (fun h => absurd h (np hP rfl rfl)))))))))))))).trans (hid kn_26)
    have kn_28 : Hid (c_2 41 30 = nl) := (hF_4 41 30 (fun h => absurd h.1 (nn rfl))).trans (hml)
    have kn_29 : Hid (c_16 41 30 = nl) := (hF_18 41 30 (fun q => q.elim (fun h => absurd h.2 (ni rfl)) (fun q => q.elim (fun h => absurd h (nn rfl)) (fun q => q.elim (fun h => absurd h.2 (ni rfl)) (fun q => q.elim (fun h => absurd h.2 (ni rfl)) (fun q => q.elim (fun h => absurd h.2 (ni rfl)) (fun q => q.elim (fun h => absurd h.2 (ni rfl)) (fun q => q.elim (fun h => absurd h.2 (ni rfl)) (fun q => q.elim (fun h => absurd h.2 (ni rfl)) (fun q => q.elim (fun h => absurd h.2 (ni rfl)) (fun q => q.elim (fun h => absurd h.2 (ni rfl)) (fun q => q.elim (fun h => absurd h (nn rfl)) (fun h => absurd h (nn rfl)))))))))))))).trans (hid kn_28)
    have h_30 : c_16 (P + 7) 4 = nl := (hid kn_27)
    have h_31 : c_16 41 30 = nl := (hid kn_29)
    have hA_32 : Ce nl (c_16 (P + 8)) (c_16 52) (c_16 53) := ce_fr hCe (fun j => (hF_18 (P + 8) j (fun q => q.elim (fun h => absurd h.1 (np hP rfl rfl)) (fun q => q.elim (fun h => absurd h (np hP rfl rfl)) (fun q => q.elim (fun h => absurd h.1 (np hP rfl rfl)) (fun q => q.elim (fun h => absurd h.1 (np hP rfl rfl)) (fun q => q.elim (fun h => absurd h.1 (np hP rfl rfl)) (fun q => q.elim (fun h => absurd h.1 (np hP rfl rfl)) (fun q => q.elim (fun h => absurd h.1 (np hP rfl rfl)) (fun q => q.elim (fun h => absurd h.1 (np hP rfl rfl)) (fun q => q.elim (fun h => absurd h.1 (np hP rfl rfl)) (fun q => q.elim (fun h => absurd h.1 (np hP rfl rfl)) (fun q => q.elim (fun h => absurd h (np hP rfl rfl)) (fun h => absurd h (np hP rfl rfl)))))))))))))).trans (hF_4 (P + 8) j (fun h => absurd h.1 (np hP rfl rfl)))) (fun j => (hF_18 52 j (fun q => q.elim (fun h => absurd h.1 (nn rfl)) (fun q => q.elim (fun h => absurd h (nn rfl)) (fun q => q.elim (fun h => absurd h.1 (nn rfl)) (fun q => q.elim (fun h => absurd h.1 (nn rfl)) (fun q => q.elim (fun h => absurd h.1 (nn rfl)) (fun q => q.elim (fun h => absurd h.1 (nn rfl)) (fun q => q.elim (fun h => absurd h.1 (nn rfl)) (fun q => q.elim (fun h => absurd h.1 (nn rfl)) (fun q => q.elim (fun h => absurd h.1 (nn rfl)) (fun q => q.elim (fun h => absurd h.1 (nn rfl)) (fun q => q.elim (fun h => absurd h (nn rfl)) (fun h => absurd h (nn rfl)))))))))))))).trans (hF_4 52 j (fun h => absurd h.1 (nn rfl)))) (fun j => (hF_18 53 j (fun q => q.elim (fun h => absurd h.1 (nn rfl)) (fun q => q.elim (fun h => absurd h (nn rfl)) (fun q => q.elim (fun h => absurd h.1 (nn rfl)) (fun q => q.elim (fun h => absurd h.1 (nn rfl)) (fun q => q.elim (fun h => absurd h.1 (nn rfl)) (fun q => q.elim (fun h => absurd h.1 (nn rfl)) (fun q => q.elim (fun h => absurd h.1 (nn rfl)) (fun q => q.elim (fun h => absurd h.1 (nn rfl)) (fun q => q.elim (fun h => absurd h.1 (nn rfl)) (fun q => q.elim (fun h => absurd h.1 (nn rfl)) (fun q => q.elim (fun h => absurd h (nn rfl)) (fun h => absurd h (nn rfl)))))))))))))).trans (hF_4 53 j (fun h => absurd h.1 (nn rfl))))
    exact K P Q c_16 1 (by decide) hI_17 ⟨by omega, ub_fr hU (fun j => (hF_18 2 j (fun q => q.elim (fun h => absurd h.1 (nn rfl)) (fun q => q.elim (fun h => absurd h (nn rfl)) (fun q => q.elim (fun h => absurd h.1 (nn rfl)) (fun q => q.elim (fun h => absurd h.1 (nn rfl)) (fun q => q.elim (fun h => absurd h.1 (nn rfl)) (fun q => q.elim (fun h => absurd h.1 (nn rfl)) (fun q => q.elim (fun h => absurd h.1 (nn rfl)) (fun q => q.elim (fun h => absurd h.1 (nn rfl)) (fun q => q.elim (fun h => absurd h.1 (nn rfl)) (fun q => q.elim (fun h => absurd h.1 (nn rfl)) (fun q => q.elim (fun h => absurd h (nn rfl)) (fun h => absurd h (nn rfl)))))))))))))).trans (hF_4 2 j (fun h => absurd h.1 (nn rfl)))) (fun j => (hF_18 43 j (fun q => q.elim (fun h => absurd h.1 (nn rfl)) (fun q => q.elim (fun h => absurd h (nn rfl)) (fun q => q.elim (fun h => absurd h.1 (nn rfl)) (fun q => q.elim (fun h => absurd h.1 (nn rfl)) (fun q => q.elim (fun h => absurd h.1 (nn rfl)) (fun q => q.elim (fun h => absurd h.1 (nn rfl)) (fun q => q.elim (fun h => absurd h.1 (nn rfl)) (fun q => q.elim (fun h => absurd h.1 (nn rfl)) (fun q => q.elim (fun h => absurd h.1 (nn rfl)) (fun q => q.elim (fun h => absurd h.1 (nn rfl)) (fun q => q.elim (fun h => absurd h (nn rfl)) (fun h => absurd h (nn rfl)))))))))))))).trans (hF_4 43 j (fun h => absurd h.1 (nn rfl)))), ⟨by omega, ce_le hA_32 (by omega)⟩⟩
  refine bk_inl ?_
  have h_33 := ir_1_3 hI_8
  refine v_i2l rfl (by omega) ?_
  refine v_ls rfl rfl (by decide) (by decide) (by decide) ?_
  refine q_goto (t := 15) rfl (by decide) ?_
  refine q_iconst rfl ?_
  refine q_iret rfl rfl ?_
  refine bk_inl ?_
  refine q_istore rfl (by decide) ?_
  refine q_aload_n rfl rfl ?_
  refine q_aload_n rfl rfl ?_
  refine q_iload rfl rfl ?_
  refine q_iconst rfl ?_
  refine v_iadd (v := (i0 : Int) + 1) rfl rfl ?_
  refine v_scr (j := i0 + 1) rfl (by omega) (by omega) hL hx1 ?_
  have hI_34 := iw_lx (a := 67) (j := 0) (v := y_10) hI_8 (by omega)
  have h_35 := ir_41_2 hI
  have kn_36 : Hid (c_7 41 2 = c 41 2) := hF_9 41 2 (fun q => q.elim (fun h => absurd h.1 (nn rfl)) (fun q => q.elim (fun h => absurd h.1 (nn rfl)) (fun q => q.elim (fun h => absurd h.1 (nn rfl)) (fun q => q.elim (fun h => absurd h.1 (nn rfl)) (fun q => q.elim (fun h => absurd h.1 (nn rfl)) (fun q => q.elim (fun h => absurd h.1 (nn rfl)) (fun q => q.elim (fun h => absurd h.1 (pn0 hP rfl)) (fun q => q.elim (fun h => absurd h (pn hP rfl rfl)) (fun h => absurd h (pn hP rfl rfl))))))))))
  have h_37 : (up c_7 67 0 y_10) 41 2 = c 41 2 := ((up_c (nn rfl)).trans (hid kn_36))
  refine v_cv rfl rfl rfl rfl (by decide) ⟨⟨rfl, rfl⟩, by decide, rfl⟩ (Nat.le_of_ble_eq_true rfl) (Nat.le_of_ble_eq_true rfl) (s_206 (a1 := x1) hI_34 (show (-2147483648) ≤ x1 ∧ x1 ≤ 2147483647 from ⟨by omega, by omega⟩) (fun c_38 y_41 hI_39 hF_40 hy_41 h_42 => ?_))
  refine bk_inl ?_
  have h_43 := ir_41_2 hI_39
  refine q_istore rfl (by decide) ?_
  refine q_goto (t := 1844) rfl (by decide) ?_
  refine Wp_ls [(4, vi (i0 : Int)), (3, .ref 67), (2, .ref 41), (1, .ref 0), (0, .ref a_SC)] (lsub_cons rfl (lsub_cons rfl (lsub_cons rfl (lsub_cons rfl (lsub_cons rfl lsub_nil))))) ?_
  have kn_44 : Hid (c_38 1 3 = c_7 1 3) := (hF_40 1 3 (fun q => q.elim (fun h => absurd h.1 (nn rfl)) (fun q => q.elim (fun h => absurd h (nn rfl)) (fun q => q.elim (fun h => absurd h.1 (nn rfl)) (fun q => q.elim (fun h => absurd h.1 (nn rfl)) (fun q => q.elim (fun h => absurd h.1 (nn rfl)) (fun q => q.elim (fun h => absurd h.1 (nn rfl)) (fun q => q.elim (fun h => absurd h.1 (nn rfl)) (fun q => q.elim (fun h => absurd h.1 (nn rfl)) (fun q => q.elim (fun h => absurd h.1 (nn rfl)) (fun q => q.elim (fun h => absurd h.1 (nn rfl)) (fun q => q.elim (fun h => absurd h (nn rfl)) (fun h => absurd h (nn rfl)))))))))))))).trans (up_c (nn rfl))
  have h_45 : c_38 1 3 = c_7 1 3 := (hid kn_44)
  have h_46 : c_38 41 2 = c_38 41 2 := rfl
  have kn_47 : Hid (c_7 (P + 7) 4 = nl) := (hF_9 (P + 7) 4 (fun q => q.elim (fun h => absurd h.1 (np hP rfl rfl)) (fun q => q.elim (fun h => absurd h.1 (np hP rfl rfl)) (fun q => q.elim (fun h => absurd h.1 (np hP rfl rfl)) (fun q => q.elim (fun h => absurd h.1 (np hP rfl rfl)) (fun q => q.elim (fun h => absurd h.1 (np hP rfl rfl)) (fun q => q.elim (fun h => absurd h.1 (np hP rfl rfl)) (fun q => q.elim (fun h => absurd h.1 (pp0 rfl)) (fun q => q.elim (fun h => absurd h (pp rfl)) (fun h => absurd h (pp rfl))))))))))).trans (hnl)
  have kn_48 : Hid (c_38 (P + 7) 4 = nl) := (hF_40 (P + 7) 4 (fun q => q.elim (fun h => absurd h.1 (np hP rfl rfl)) (fun q => q.elim (fun h => absurd h (np hP rfl rfl)) (fun q => q.elim (fun h => absurd h.1 (np hP rfl rfl)) (fun q => q.elim (fun h => absurd h.1 (np hP rfl rfl)) (fun q => q.elim (fun h => absurd h.1 (np hP rfl rfl)) (fun q => q.elim (fun h => absurd h.1 (np hP rfl rfl)) (fun q => q.elim (fun h => absurd h.1 (np hP rfl rfl)) (fun q => q.elim (fun h => absurd h.1 (np hP rfl rfl)) (fun q => q.elim (fun h => absurd h.1 (np hP rfl rfl)) (fun q => q.elim (fun h => absurd h.1 (np hP rfl rfl)) (fun q => q.elim (fun h => absurd h (np hP rfl rfl)) (fun h => absurd h (np hP rfl rfl)))))))))))))).trans ((up_c (np hP rfl rfl)).trans (hid kn_47))
  have kn_49 : Hid (c_7 41 30 = nl) := (hF_9 41 30 (fun q => q.elim (fun h => absurd h.1 (nn rfl)) (fun q => q.elim (fun h => absurd h.1 (nn rfl)) (fun q => q.elim (fun h => absurd h.1 (nn rfl)) (fun q => q.elim (fun h => absurd h.1 (nn rfl)) (fun q => q.elim (fun h => absurd h.1 (nn rfl)) (fun q => q.elim (fun h => absurd h.1 (nn rfl)) (fun q => q.elim (fun h => absurd h.1 (pn0 hP rfl)) (fun q => q.elim (fun h => absurd h (pn hP rfl rfl)) (fun h => absurd h (pn hP rfl rfl))))))))))).trans (hml)
  have kn_50 : Hid (c_38 41 30 = nl) := (hF_40 41 30 (fun q => q.elim (fun h => absurd h.2 (ni rfl)) (fun q => q.elim (fun h => absurd h (nn rfl)) (fun q => q.elim (fun h => absurd h.2 (ni rfl)) (fun q => q.elim (fun h => absurd h.2 (ni rfl)) (fun q => q.elim (fun h => absurd h.2 (ni rfl)) (fun q => q.elim (fun h => absurd h.2 (ni rfl)) (fun q => q.elim (fun h => absurd h.2 (ni rfl)) (fun q => q.elim (fun h => absurd h.2 (ni rfl)) (fun q => q.elim (fun h => absurd h.2 (ni rfl)) (fun q => q.elim (fun h => absurd h.2 (ni rfl)) (fun q => q.elim (fun h => absurd h (nn rfl)) (fun h => absurd h (nn rfl)))))))))))))).trans ((up_c (nn rfl)).trans (hid kn_49))
  have h_51 : c_38 (P + 7) 4 = nl := (hid kn_48)
  have h_52 : c_38 41 30 = nl := (hid kn_50)
  have hA_53 : Ce nl (c_38 (P + 8)) (c_38 52) (c_38 53) := ce_fr hCe (fun j => (hF_40 (P + 8) j (fun q => q.elim (fun h => absurd h.1 (np hP rfl rfl)) (fun q => q.elim (fun h => absurd h (np hP rfl rfl)) (fun q => q.elim (fun h => absurd h.1 (np hP rfl rfl)) (fun q => q.elim (fun h => absurd h.1 (np hP rfl rfl)) (fun q => q.elim (fun h => absurd h.1 (np hP rfl rfl)) (fun q => q.elim (fun h => absurd h.1 (np hP rfl rfl)) (fun q => q.elim (fun h => absurd h.1 (np hP rfl rfl)) (fun q => q.elim (fun h => absurd h.1 (np hP rfl rfl)) (fun q => q.elim (fun h => absurd h.1 (np hP rfl rfl)) (fun q => q.elim (fun h => absurd h.1 (np hP rfl rfl)) (fun q => q.elim (fun h => absurd h (np hP rfl rfl)) (fun h => absurd h (np hP rfl rfl)))))))))))))).trans ((up_c (np hP rfl rfl)).trans (hF_9 (P + 8) j (fun q => q.elim (fun h => absurd h.1 (np hP rfl rfl)) (fun q => q.elim (fun h => absurd h.1 (np hP rfl rfl)) (fun q => q.elim (fun h => absurd h.1 (np hP rfl rfl)) (fun q => q.elim (fun h => absurd h.1 (np hP rfl rfl)) (fun q => q.elim (fun h => absurd h.1 (np hP rfl rfl)) (fun q => q.elim (fun h => absurd h.1 (np hP rfl rfl)) (fun q => q.elim (fun h => absurd h.1 (pp0 rfl)) (fun q => q.elim (fun h => absurd h (pp rfl)) (fun h => absurd h (pp rfl))))))))))))) (fun j => (hF_40 52 j (fun q => q.elim (fun h => absurd h.1 (nn rfl)) (fun q => q.elim (fun h => absurd h (nn rfl)) (fun q => q.elim (fun h => absurd h.1 (nn rfl)) (fun q => q.elim (fun h => absurd h.1 (nn rfl)) (fun q => q.elim (fun h => absurd h.1 (nn rfl)) (fun q => q.elim (fun h => absurd h.1 (nn rfl)) (fun q => q.elim (fun h => absurd h.1 (nn rfl)) (fun q => q.elim (fun h => absurd h.1 (nn rfl)) (fun q => q.elim (fun h => absurd h.1 (nn rfl)) (fun q => q.elim (fun h => absurd h.1 (nn rfl)) (fun q => q.elim (fun h => absurd h (nn rfl)) (fun h => absurd h (nn rfl)))))))))))))).trans ((up_c (nn rfl)).trans (hF_9 52 j (fun q => q.elim (fun h => absurd h.1 (nn rfl)) (fun q => q.elim (fun h => absurd h.1 (nn rfl)) (fun q => q.elim (fun h => absurd h.1 (nn rfl)) (fun q => q.elim (fun h => absurd h.1 (nn rfl)) (fun q => q.elim (fun h => absurd h.1 (nn rfl)) (fun q => q.elim (fun h => absurd h.1 (nn rfl)) (fun q => q.elim (fun h => absurd h.1 (pn0 hP rfl)) (fun q => q.elim (fun h => absurd h (pn hP rfl rfl)) (fun h => absurd h (pn hP rfl rfl))))))))))))) (fun j => (hF_40 53 j (fun q => q.elim (fun h => absurd h.1 (nn rfl)) (fun q => q.elim (fun h => absurd h (nn rfl)) (fun q => q.elim (fun h => absurd h.1 (nn rfl)) (fun q => q.elim (fun h => absurd h.1 (nn rfl)) (fun q => q.elim (fun h => absurd h.1 (nn rfl)) (fun q => q.elim (fun h => absurd h.1 (nn rfl)) (fun q => q.elim (fun h => absurd h.1 (nn rfl)) (fun q => q.elim (fun h => absurd h.1 (nn rfl)) (fun q => q.elim (fun h => absurd h.1 (nn rfl)) (fun q => q.elim (fun h => absurd h.1 (nn rfl)) (fun q => q.elim (fun h => absurd h (nn rfl)) (fun h => absurd h (nn rfl)))))))))))))).trans ((up_c (nn rfl)).trans (hF_9 53 j (fun q => q.elim (fun h => absurd h.1 (nn rfl)) (fun q => q.elim (fun h => absurd h.1 (nn rfl)) (fun q => q.elim (fun h => absurd h.1 (nn rfl)) (fun q => q.elim (fun h => absurd h.1 (nn rfl)) (fun q => q.elim (fun h => absurd h.1 (nn rfl)) (fun q => q.elim (fun h => absurd h.1 (nn rfl)) (fun q => q.elim (fun h => absurd h.1 (pn0 hP rfl)) (fun q => q.elim (fun h => absurd h (pn hP rfl rfl)) (fun h => absurd h (pn hP rfl rfl)))))))))))))
  exact K P Q c_38 0 (by decide) hI_39 ⟨by omega, ub_fr hU (fun j => (hF_40 2 j (fun q => q.elim (fun h => absurd h.1 (nn rfl)) (fun q => q.elim (fun h => absurd h (nn rfl)) (fun q => q.elim (fun h => absurd h.1 (nn rfl)) (fun q => q.elim (fun h => absurd h.1 (nn rfl)) (fun q => q.elim (fun h => absurd h.1 (nn rfl)) (fun q => q.elim (fun h => absurd h.1 (nn rfl)) (fun q => q.elim (fun h => absurd h.1 (nn rfl)) (fun q => q.elim (fun h => absurd h.1 (nn rfl)) (fun q => q.elim (fun h => absurd h.1 (nn rfl)) (fun q => q.elim (fun h => absurd h.1 (nn rfl)) (fun q => q.elim (fun h => absurd h (nn rfl)) (fun h => absurd h (nn rfl)))))))))))))).trans ((up_c (nn rfl)).trans (hF_9 2 j (fun q => q.elim (fun h => absurd h.1 (nn rfl)) (fun q => q.elim (fun h => absurd h.1 (nn rfl)) (fun q => q.elim (fun h => absurd h.1 (nn rfl)) (fun q => q.elim (fun h => absurd h.1 (nn rfl)) (fun q => q.elim (fun h => absurd h.1 (nn rfl)) (fun q => q.elim (fun h => absurd h.1 (nn rfl)) (fun q => q.elim (fun h => absurd h.1 (pn0 hP rfl)) (fun q => q.elim (fun h => absurd h (pn hP rfl rfl)) (fun h => absurd h (pn hP rfl rfl))))))))))))) (fun j => (hF_40 43 j (fun q => q.elim (fun h => absurd h.1 (nn rfl)) (fun q => q.elim (fun h => absurd h (nn rfl)) (fun q => q.elim (fun h => absurd h.1 (nn rfl)) (fun q => q.elim (fun h => absurd h.1 (nn rfl)) (fun q => q.elim (fun h => absurd h.1 (nn rfl)) (fun q => q.elim (fun h => absurd h.1 (nn rfl)) (fun q => q.elim (fun h => absurd h.1 (nn rfl)) (fun q => q.elim (fun h => absurd h.1 (nn rfl)) (fun q => q.elim (fun h => absurd h.1 (nn rfl)) (fun q => q.elim (fun h => absurd h.1 (nn rfl)) (fun q => q.elim (fun h => absurd h (nn rfl)) (fun h => absurd h (nn rfl)))))))))))))).trans ((up_c (nn rfl)).trans (hF_9 43 j (fun q => q.elim (fun h => absurd h.1 (nn rfl)) (fun q => q.elim (fun h => absurd h.1 (nn rfl)) (fun q => q.elim (fun h => absurd h.1 (nn rfl)) (fun q => q.elim (fun h => absurd h.1 (nn rfl)) (fun q => q.elim (fun h => absurd h.1 (nn rfl)) (fun q => q.elim (fun h => absurd h.1 (nn rfl)) (fun q => q.elim (fun h => absurd h.1 (pn0 hP rfl)) (fun q => q.elim (fun h => absurd h (pn hP rfl rfl)) (fun h => absurd h (pn hP rfl rfl))))))))))))), ⟨by omega, ce_le hA_53 (by omega)⟩⟩

set_option maxRecDepth 100000 in
set_option maxHeartbeats 4000000 in
theorem o_5 {xs : Nat → Int32} {L i0 d nc ns P Q : Nat} {c : ME} {Z : AR → Prop} (hi : i0 + 8 ≤ L) (hL : L ≤ 100000) (hI : Iv 0 (-1) P Q c) (hR : Rq P c) (K : ∀ (P2 Q2 : Nat) (c2 : ME) (e : Nat), e ≤ 1 → Iv 0 (-1) P2 Q2 c2 → (Rq P2 c2) → Wp (a_scr L xs) (d + 90) 296 1844 [(4, vi (i0 : Int)), (3, .ref 67), (2, .ref 41), (1, .ref 0), (0, .ref a_SC)] [] (Wd P2 Q2 P2 P2 c2) (nc + e) (ns + 6 * e) Z) : Wp (a_scr L xs) (d + 90) 296 413 [(4, vi (i0 : Int)), (3, .ref 67), (2, .ref 41), (1, .ref 0), (0, .ref a_SC)] [] (Wd P Q P P c) nc ns Z := by
  obtain ⟨x1, hx1⟩ : ∃ z, (xs (i0 + 1)).toInt = z := ⟨_, rfl⟩
  have x1r := c_rng (xs (i0 + 1))
  rw [hx1] at x1r
  obtain ⟨x2, hx2⟩ : ∃ z, (xs (i0 + 2)).toInt = z := ⟨_, rfl⟩
  have x2r := c_rng (xs (i0 + 2))
  rw [hx2] at x2r
  obtain ⟨x3, hx3⟩ : ∃ z, (xs (i0 + 3)).toInt = z := ⟨_, rfl⟩
  have x3r := c_rng (xs (i0 + 3))
  rw [hx3] at x3r
  obtain ⟨x4, hx4⟩ : ∃ z, (xs (i0 + 4)).toInt = z := ⟨_, rfl⟩
  have x4r := c_rng (xs (i0 + 4))
  rw [hx4] at x4r
  obtain ⟨x5, hx5⟩ : ∃ z, (xs (i0 + 5)).toInt = z := ⟨_, rfl⟩
  have x5r := c_rng (xs (i0 + 5))
  rw [hx5] at x5r
  obtain ⟨x6, hx6⟩ : ∃ z, (xs (i0 + 6)).toInt = z := ⟨_, rfl⟩
  have x6r := c_rng (xs (i0 + 6))
  rw [hx6] at x6r
  obtain ⟨x7, hx7⟩ : ∃ z, (xs (i0 + 7)).toInt = z := ⟨_, rfl⟩
  have x7r := c_rng (xs (i0 + 7))
  rw [hx7] at x7r
  have hT := rl_t hR
  have hU := rl_u hR
  obtain ⟨nl, hnl⟩ : ∃ z, c (P + 7) 4 = z := ⟨_, rfl⟩
  have hml : c 41 30 = nl := (rl_law hR).1.symm.trans hnl
  have hlr := ir_41_30 hI
  rw [hml] at hlr
  have hCe : Ce nl (c (P + 8)) (c 52) (c 53) := ce_le (rl_law hR).2 (by omega)
  have hHw : Hw (c 52) (c 53) nl := by rw [← hml]; exact iv_hc hI
  have hP := iv_P hI
  have hQ := iv_Q hI
  refine q_aload_n rfl rfl ?_
  refine q_aload_n rfl rfl ?_
  refine q_iload rfl rfl ?_
  refine q_iconst rfl ?_
  refine v_iadd (v := (i0 : Int) + 1) rfl rfl ?_
  refine v_scr (j := i0 + 1) rfl (by omega) (by omega) hL hx1 ?_
  refine q_aload_n rfl rfl ?_
  refine q_call rfl rfl rfl rfl ?_
  refine q_aload_n rfl rfl ?_
  refine q_iconst rfl ?_
  refine q_aload_n rfl rfl ?_
  refine q_iload_n rfl rfl ?_
  have h_1 := ir_1_3 hI
  refine v_cv rfl rfl rfl rfl (by decide) ⟨⟨rfl, rfl⟩, by decide, rfl⟩ (Nat.le_of_ble_eq_true rfl) (Nat.le_of_ble_eq_true rfl) (s_88 (a1 := x1) hI (show (-2147483648) ≤ x1 ∧ x1 ≤ 2147483647 from ⟨by omega, by omega⟩) (fun c_2 hI_3 hF_4 h_5 h_6 => ?_) (fun c_7 y_10 hI_8 hF_9 hy_10 h_11 => ?_))
  · skip
    have h_12 := ir_1_3 hI_3
    refine bk_thr (z := Int32.ofInt 1) rfl ⟨_, _, rfl⟩ rfl ?_
    refine bk_inl ?_
    refine q_istore rfl (by decide) ?_
    refine q_aload_n rfl rfl ?_
    refine q_aload_n rfl rfl ?_
    refine q_iload rfl rfl ?_
    refine q_iconst rfl ?_
    refine v_iadd (v := (i0 : Int) + 1) rfl rfl ?_
    refine v_scr (j := i0 + 1) rfl (by omega) (by omega) hL hx1 ?_
    have h_13 := ir_41_2 hI
    have kn_14 : Hid (c_2 41 2 = c 41 2) := hF_4 41 2 (fun h => absurd h.1 (nn rfl))
    have h_15 : c_2 41 2 = c 41 2 := (hid kn_14)
    refine v_cv rfl rfl rfl rfl (by decide) ⟨⟨rfl, rfl⟩, by decide, rfl⟩ (Nat.le_of_ble_eq_true rfl) (Nat.le_of_ble_eq_true rfl) (s_207 (a1 := x1) hI_3 (show (-2147483648) ≤ x1 ∧ x1 ≤ 2147483647 from ⟨by omega, by omega⟩) (fun c_16 y_19 hI_17 hF_18 hy_19 h_20 => ?_))
    refine bk_inl ?_
    have h_21 := ir_41_2 hI_17
    refine q_istore rfl (by decide) ?_
    refine q_goto (t := 1844) rfl (by decide) ?_
    refine Wp_ls [(4, vi (i0 : Int)), (3, .ref 67), (2, .ref 41), (1, .ref 0), (0, .ref a_SC)] (lsub_cons rfl (lsub_cons rfl (lsub_cons rfl (lsub_cons rfl (lsub_cons rfl lsub_nil))))) ?_
    have kn_22 : Hid (c_2 1 3 = c 1 3) := hF_4 1 3 (fun h => absurd h.1 (nn rfl))
    have kn_23 : Hid (c_16 1 3 = c 1 3) := (hF_18 1 3 (fun q => q.elim (fun h => absurd h.1 (nn rfl)) (fun q => q.elim (fun h => absurd h (nn rfl)) (fun q => q.elim (fun h => absurd h.1 (nn rfl)) (fun q => q.elim (fun h => absurd h.1 (nn rfl)) (fun q => q.elim (fun h => absurd h.1 (nn rfl)) (fun q => q.elim (fun h => absurd h.1 (nn rfl)) (fun q => q.elim (fun h => absurd h.1 (nn rfl)) (fun q => q.elim (fun h => absurd h.1 (nn rfl)) (fun q => q.elim (fun h => absurd h.1 (nn rfl)) (fun q => q.elim (fun h => absurd h.1 (nn rfl)) (fun q => q.elim (fun h => absurd h (nn rfl)) (fun h => absurd h (nn rfl)))))))))))))).trans (hid kn_22)
    have h_24 : c_16 1 3 = c 1 3 := (hid kn_23)
    have h_25 : c_16 41 2 = c_16 41 2 := rfl
    have kn_26 : Hid (c_2 (P + 7) 4 = nl) := (hF_4 (P + 7) 4 (fun h => absurd h.1 (np hP rfl rfl))).trans (hnl)
    have kn_27 : Hid (c_16 (P + 7) 4 = nl) := (hF_18 (P + 7) 4 (fun q => q.elim (fun h => absurd h.1 (np hP rfl rfl)) (fun q => q.elim (fun h => absurd h (np hP rfl rfl)) (fun q => q.elim (fun h => absurd h.1 (np hP rfl rfl)) (fun q => q.elim (fun h => absurd h.1 (np hP rfl rfl)) (fun q => q.elim (fun h => absurd h.1 (np hP rfl rfl)) (fun q => q.elim (fun h => absurd h.1 (np hP rfl rfl)) (fun q => q.elim (fun h => absurd h.1 (np hP rfl rfl)) (fun q => q.elim (fun h => absurd h.1 (np hP rfl rfl)) (fun q => q.elim (fun h => absurd h.1 (np hP rfl rfl)) (fun q => q.elim (fun h => absurd h.1 (np hP rfl rfl)) (fun q => q.elim (fun h => absurd h (np hP rfl rfl)) (fun h => absurd h (np hP rfl rfl)))))))))))))).trans (hid kn_26)
    have kn_28 : Hid (c_2 41 30 = nl) := (hF_4 41 30 (fun h => absurd h.1 (nn rfl))).trans (hml)
    have kn_29 : Hid (c_16 41 30 = nl) := (hF_18 41 30 (fun q => q.elim (fun h => absurd h.2 (ni rfl)) (fun q => q.elim (fun h => absurd h (nn rfl)) (fun q => q.elim (fun h => absurd h.2 (ni rfl)) (fun q => q.elim (fun h => absurd h.2 (ni rfl)) (fun q => q.elim (fun h => absurd h.2 (ni rfl)) (fun q => q.elim (fun h => absurd h.2 (ni rfl)) (fun q => q.elim (fun h => absurd h.2 (ni rfl)) (fun q => q.elim (fun h => absurd h.2 (ni rfl)) (fun q => q.elim (fun h => absurd h.2 (ni rfl)) (fun q => q.elim (fun h => absurd h.2 (ni rfl)) (fun q => q.elim (fun h => absurd h (nn rfl)) (fun h => absurd h (nn rfl)))))))))))))).trans (hid kn_28)
    have h_30 : c_16 (P + 7) 4 = nl := (hid kn_27)
    have h_31 : c_16 41 30 = nl := (hid kn_29)
    have hA_32 : Ce nl (c_16 (P + 8)) (c_16 52) (c_16 53) := ce_fr hCe (fun j => (hF_18 (P + 8) j (fun q => q.elim (fun h => absurd h.1 (np hP rfl rfl)) (fun q => q.elim (fun h => absurd h (np hP rfl rfl)) (fun q => q.elim (fun h => absurd h.1 (np hP rfl rfl)) (fun q => q.elim (fun h => absurd h.1 (np hP rfl rfl)) (fun q => q.elim (fun h => absurd h.1 (np hP rfl rfl)) (fun q => q.elim (fun h => absurd h.1 (np hP rfl rfl)) (fun q => q.elim (fun h => absurd h.1 (np hP rfl rfl)) (fun q => q.elim (fun h => absurd h.1 (np hP rfl rfl)) (fun q => q.elim (fun h => absurd h.1 (np hP rfl rfl)) (fun q => q.elim (fun h => absurd h.1 (np hP rfl rfl)) (fun q => q.elim (fun h => absurd h (np hP rfl rfl)) (fun h => absurd h (np hP rfl rfl)))))))))))))).trans (hF_4 (P + 8) j (fun h => absurd h.1 (np hP rfl rfl)))) (fun j => (hF_18 52 j (fun q => q.elim (fun h => absurd h.1 (nn rfl)) (fun q => q.elim (fun h => absurd h (nn rfl)) (fun q => q.elim (fun h => absurd h.1 (nn rfl)) (fun q => q.elim (fun h => absurd h.1 (nn rfl)) (fun q => q.elim (fun h => absurd h.1 (nn rfl)) (fun q => q.elim (fun h => absurd h.1 (nn rfl)) (fun q => q.elim (fun h => absurd h.1 (nn rfl)) (fun q => q.elim (fun h => absurd h.1 (nn rfl)) (fun q => q.elim (fun h => absurd h.1 (nn rfl)) (fun q => q.elim (fun h => absurd h.1 (nn rfl)) (fun q => q.elim (fun h => absurd h (nn rfl)) (fun h => absurd h (nn rfl)))))))))))))).trans (hF_4 52 j (fun h => absurd h.1 (nn rfl)))) (fun j => (hF_18 53 j (fun q => q.elim (fun h => absurd h.1 (nn rfl)) (fun q => q.elim (fun h => absurd h (nn rfl)) (fun q => q.elim (fun h => absurd h.1 (nn rfl)) (fun q => q.elim (fun h => absurd h.1 (nn rfl)) (fun q => q.elim (fun h => absurd h.1 (nn rfl)) (fun q => q.elim (fun h => absurd h.1 (nn rfl)) (fun q => q.elim (fun h => absurd h.1 (nn rfl)) (fun q => q.elim (fun h => absurd h.1 (nn rfl)) (fun q => q.elim (fun h => absurd h.1 (nn rfl)) (fun q => q.elim (fun h => absurd h.1 (nn rfl)) (fun q => q.elim (fun h => absurd h (nn rfl)) (fun h => absurd h (nn rfl)))))))))))))).trans (hF_4 53 j (fun h => absurd h.1 (nn rfl))))
    exact K P Q c_16 1 (by decide) hI_17 ⟨by omega, ub_fr hU (fun j => (hF_18 2 j (fun q => q.elim (fun h => absurd h.1 (nn rfl)) (fun q => q.elim (fun h => absurd h (nn rfl)) (fun q => q.elim (fun h => absurd h.1 (nn rfl)) (fun q => q.elim (fun h => absurd h.1 (nn rfl)) (fun q => q.elim (fun h => absurd h.1 (nn rfl)) (fun q => q.elim (fun h => absurd h.1 (nn rfl)) (fun q => q.elim (fun h => absurd h.1 (nn rfl)) (fun q => q.elim (fun h => absurd h.1 (nn rfl)) (fun q => q.elim (fun h => absurd h.1 (nn rfl)) (fun q => q.elim (fun h => absurd h.1 (nn rfl)) (fun q => q.elim (fun h => absurd h (nn rfl)) (fun h => absurd h (nn rfl)))))))))))))).trans (hF_4 2 j (fun h => absurd h.1 (nn rfl)))) (fun j => (hF_18 43 j (fun q => q.elim (fun h => absurd h.1 (nn rfl)) (fun q => q.elim (fun h => absurd h (nn rfl)) (fun q => q.elim (fun h => absurd h.1 (nn rfl)) (fun q => q.elim (fun h => absurd h.1 (nn rfl)) (fun q => q.elim (fun h => absurd h.1 (nn rfl)) (fun q => q.elim (fun h => absurd h.1 (nn rfl)) (fun q => q.elim (fun h => absurd h.1 (nn rfl)) (fun q => q.elim (fun h => absurd h.1 (nn rfl)) (fun q => q.elim (fun h => absurd h.1 (nn rfl)) (fun q => q.elim (fun h => absurd h.1 (nn rfl)) (fun q => q.elim (fun h => absurd h (nn rfl)) (fun h => absurd h (nn rfl)))))))))))))).trans (hF_4 43 j (fun h => absurd h.1 (nn rfl)))), ⟨by omega, ce_le hA_32 (by omega)⟩⟩
  refine bk_inl ?_
  have h_33 := ir_1_3 hI_8
  refine v_i2l rfl (by omega) ?_
  refine v_ls rfl rfl (by decide) (by decide) (by decide) ?_
  refine q_goto (t := 15) rfl (by decide) ?_
  refine q_iconst rfl ?_
  refine q_iret rfl rfl ?_
  refine bk_inl ?_
  refine q_istore rfl (by decide) ?_
  refine q_aload_n rfl rfl ?_
  refine q_aload_n rfl rfl ?_
  refine q_iload rfl rfl ?_
  refine q_iconst rfl ?_
  refine v_iadd (v := (i0 : Int) + 1) rfl rfl ?_
  refine v_scr (j := i0 + 1) rfl (by omega) (by omega) hL hx1 ?_
  have hI_34 := iw_lx (a := 67) (j := 0) (v := y_10) hI_8 (by omega)
  have h_35 := ir_41_2 hI
  have kn_36 : Hid (c_7 41 2 = c 41 2) := hF_9 41 2 (fun q => q.elim (fun h => absurd h.1 (nn rfl)) (fun q => q.elim (fun h => absurd h.1 (nn rfl)) (fun q => q.elim (fun h => absurd h.1 (nn rfl)) (fun q => q.elim (fun h => absurd h.1 (nn rfl)) (fun q => q.elim (fun h => absurd h.1 (nn rfl)) (fun q => q.elim (fun h => absurd h.1 (nn rfl)) (fun q => q.elim (fun h => absurd h.1 (pn0 hP rfl)) (fun q => q.elim (fun h => absurd h (pn hP rfl rfl)) (fun h => absurd h (pn hP rfl rfl))))))))))
  have h_37 : (up c_7 67 0 y_10) 41 2 = c 41 2 := ((up_c (nn rfl)).trans (hid kn_36))
  refine v_cv rfl rfl rfl rfl (by decide) ⟨⟨rfl, rfl⟩, by decide, rfl⟩ (Nat.le_of_ble_eq_true rfl) (Nat.le_of_ble_eq_true rfl) (s_207 (a1 := x1) hI_34 (show (-2147483648) ≤ x1 ∧ x1 ≤ 2147483647 from ⟨by omega, by omega⟩) (fun c_38 y_41 hI_39 hF_40 hy_41 h_42 => ?_))
  refine bk_inl ?_
  have h_43 := ir_41_2 hI_39
  refine q_istore rfl (by decide) ?_
  refine q_goto (t := 1844) rfl (by decide) ?_
  refine Wp_ls [(4, vi (i0 : Int)), (3, .ref 67), (2, .ref 41), (1, .ref 0), (0, .ref a_SC)] (lsub_cons rfl (lsub_cons rfl (lsub_cons rfl (lsub_cons rfl (lsub_cons rfl lsub_nil))))) ?_
  have kn_44 : Hid (c_38 1 3 = c_7 1 3) := (hF_40 1 3 (fun q => q.elim (fun h => absurd h.1 (nn rfl)) (fun q => q.elim (fun h => absurd h (nn rfl)) (fun q => q.elim (fun h => absurd h.1 (nn rfl)) (fun q => q.elim (fun h => absurd h.1 (nn rfl)) (fun q => q.elim (fun h => absurd h.1 (nn rfl)) (fun q => q.elim (fun h => absurd h.1 (nn rfl)) (fun q => q.elim (fun h => absurd h.1 (nn rfl)) (fun q => q.elim (fun h => absurd h.1 (nn rfl)) (fun q => q.elim (fun h => absurd h.1 (nn rfl)) (fun q => q.elim (fun h => absurd h.1 (nn rfl)) (fun q => q.elim (fun h => absurd h (nn rfl)) (fun h => absurd h (nn rfl)))))))))))))).trans (up_c (nn rfl))
  have h_45 : c_38 1 3 = c_7 1 3 := (hid kn_44)
  have h_46 : c_38 41 2 = c_38 41 2 := rfl
  have kn_47 : Hid (c_7 (P + 7) 4 = nl) := (hF_9 (P + 7) 4 (fun q => q.elim (fun h => absurd h.1 (np hP rfl rfl)) (fun q => q.elim (fun h => absurd h.1 (np hP rfl rfl)) (fun q => q.elim (fun h => absurd h.1 (np hP rfl rfl)) (fun q => q.elim (fun h => absurd h.1 (np hP rfl rfl)) (fun q => q.elim (fun h => absurd h.1 (np hP rfl rfl)) (fun q => q.elim (fun h => absurd h.1 (np hP rfl rfl)) (fun q => q.elim (fun h => absurd h.1 (pp0 rfl)) (fun q => q.elim (fun h => absurd h (pp rfl)) (fun h => absurd h (pp rfl))))))))))).trans (hnl)
  have kn_48 : Hid (c_38 (P + 7) 4 = nl) := (hF_40 (P + 7) 4 (fun q => q.elim (fun h => absurd h.1 (np hP rfl rfl)) (fun q => q.elim (fun h => absurd h (np hP rfl rfl)) (fun q => q.elim (fun h => absurd h.1 (np hP rfl rfl)) (fun q => q.elim (fun h => absurd h.1 (np hP rfl rfl)) (fun q => q.elim (fun h => absurd h.1 (np hP rfl rfl)) (fun q => q.elim (fun h => absurd h.1 (np hP rfl rfl)) (fun q => q.elim (fun h => absurd h.1 (np hP rfl rfl)) (fun q => q.elim (fun h => absurd h.1 (np hP rfl rfl)) (fun q => q.elim (fun h => absurd h.1 (np hP rfl rfl)) (fun q => q.elim (fun h => absurd h.1 (np hP rfl rfl)) (fun q => q.elim (fun h => absurd h (np hP rfl rfl)) (fun h => absurd h (np hP rfl rfl)))))))))))))).trans ((up_c (np hP rfl rfl)).trans (hid kn_47))
  have kn_49 : Hid (c_7 41 30 = nl) := (hF_9 41 30 (fun q => q.elim (fun h => absurd h.1 (nn rfl)) (fun q => q.elim (fun h => absurd h.1 (nn rfl)) (fun q => q.elim (fun h => absurd h.1 (nn rfl)) (fun q => q.elim (fun h => absurd h.1 (nn rfl)) (fun q => q.elim (fun h => absurd h.1 (nn rfl)) (fun q => q.elim (fun h => absurd h.1 (nn rfl)) (fun q => q.elim (fun h => absurd h.1 (pn0 hP rfl)) (fun q => q.elim (fun h => absurd h (pn hP rfl rfl)) (fun h => absurd h (pn hP rfl rfl))))))))))).trans (hml)
  have kn_50 : Hid (c_38 41 30 = nl) := (hF_40 41 30 (fun q => q.elim (fun h => absurd h.2 (ni rfl)) (fun q => q.elim (fun h => absurd h (nn rfl)) (fun q => q.elim (fun h => absurd h.2 (ni rfl)) (fun q => q.elim (fun h => absurd h.2 (ni rfl)) (fun q => q.elim (fun h => absurd h.2 (ni rfl)) (fun q => q.elim (fun h => absurd h.2 (ni rfl)) (fun q => q.elim (fun h => absurd h.2 (ni rfl)) (fun q => q.elim (fun h => absurd h.2 (ni rfl)) (fun q => q.elim (fun h => absurd h.2 (ni rfl)) (fun q => q.elim (fun h => absurd h.2 (ni rfl)) (fun q => q.elim (fun h => absurd h (nn rfl)) (fun h => absurd h (nn rfl)))))))))))))).trans ((up_c (nn rfl)).trans (hid kn_49))
  have h_51 : c_38 (P + 7) 4 = nl := (hid kn_48)
  have h_52 : c_38 41 30 = nl := (hid kn_50)
  have hA_53 : Ce nl (c_38 (P + 8)) (c_38 52) (c_38 53) := ce_fr hCe (fun j => (hF_40 (P + 8) j (fun q => q.elim (fun h => absurd h.1 (np hP rfl rfl)) (fun q => q.elim (fun h => absurd h (np hP rfl rfl)) (fun q => q.elim (fun h => absurd h.1 (np hP rfl rfl)) (fun q => q.elim (fun h => absurd h.1 (np hP rfl rfl)) (fun q => q.elim (fun h => absurd h.1 (np hP rfl rfl)) (fun q => q.elim (fun h => absurd h.1 (np hP rfl rfl)) (fun q => q.elim (fun h => absurd h.1 (np hP rfl rfl)) (fun q => q.elim (fun h => absurd h.1 (np hP rfl rfl)) (fun q => q.elim (fun h => absurd h.1 (np hP rfl rfl)) (fun q => q.elim (fun h => absurd h.1 (np hP rfl rfl)) (fun q => q.elim (fun h => absurd h (np hP rfl rfl)) (fun h => absurd h (np hP rfl rfl)))))))))))))).trans ((up_c (np hP rfl rfl)).trans (hF_9 (P + 8) j (fun q => q.elim (fun h => absurd h.1 (np hP rfl rfl)) (fun q => q.elim (fun h => absurd h.1 (np hP rfl rfl)) (fun q => q.elim (fun h => absurd h.1 (np hP rfl rfl)) (fun q => q.elim (fun h => absurd h.1 (np hP rfl rfl)) (fun q => q.elim (fun h => absurd h.1 (np hP rfl rfl)) (fun q => q.elim (fun h => absurd h.1 (np hP rfl rfl)) (fun q => q.elim (fun h => absurd h.1 (pp0 rfl)) (fun q => q.elim (fun h => absurd h (pp rfl)) (fun h => absurd h (pp rfl))))))))))))) (fun j => (hF_40 52 j (fun q => q.elim (fun h => absurd h.1 (nn rfl)) (fun q => q.elim (fun h => absurd h (nn rfl)) (fun q => q.elim (fun h => absurd h.1 (nn rfl)) (fun q => q.elim (fun h => absurd h.1 (nn rfl)) (fun q => q.elim (fun h => absurd h.1 (nn rfl)) (fun q => q.elim (fun h => absurd h.1 (nn rfl)) (fun q => q.elim (fun h => absurd h.1 (nn rfl)) (fun q => q.elim (fun h => absurd h.1 (nn rfl)) (fun q => q.elim (fun h => absurd h.1 (nn rfl)) (fun q => q.elim (fun h => absurd h.1 (nn rfl)) (fun q => q.elim (fun h => absurd h (nn rfl)) (fun h => absurd h (nn rfl)))))))))))))).trans ((up_c (nn rfl)).trans (hF_9 52 j (fun q => q.elim (fun h => absurd h.1 (nn rfl)) (fun q => q.elim (fun h => absurd h.1 (nn rfl)) (fun q => q.elim (fun h => absurd h.1 (nn rfl)) (fun q => q.elim (fun h => absurd h.1 (nn rfl)) (fun q => q.elim (fun h => absurd h.1 (nn rfl)) (fun q => q.elim (fun h => absurd h.1 (nn rfl)) (fun q => q.elim (fun h => absurd h.1 (pn0 hP rfl)) (fun q => q.elim (fun h => absurd h (pn hP rfl rfl)) (fun h => absurd h (pn hP rfl rfl))))))))))))) (fun j => (hF_40 53 j (fun q => q.elim (fun h => absurd h.1 (nn rfl)) (fun q => q.elim (fun h => absurd h (nn rfl)) (fun q => q.elim (fun h => absurd h.1 (nn rfl)) (fun q => q.elim (fun h => absurd h.1 (nn rfl)) (fun q => q.elim (fun h => absurd h.1 (nn rfl)) (fun q => q.elim (fun h => absurd h.1 (nn rfl)) (fun q => q.elim (fun h => absurd h.1 (nn rfl)) (fun q => q.elim (fun h => absurd h.1 (nn rfl)) (fun q => q.elim (fun h => absurd h.1 (nn rfl)) (fun q => q.elim (fun h => absurd h.1 (nn rfl)) (fun q => q.elim (fun h => absurd h (nn rfl)) (fun h => absurd h (nn rfl)))))))))))))).trans ((up_c (nn rfl)).trans (hF_9 53 j (fun q => q.elim (fun h => absurd h.1 (nn rfl)) (fun q => q.elim (fun h => absurd h.1 (nn rfl)) (fun q => q.elim (fun h => absurd h.1 (nn rfl)) (fun q => q.elim (fun h => absurd h.1 (nn rfl)) (fun q => q.elim (fun h => absurd h.1 (nn rfl)) (fun q => q.elim (fun h => absurd h.1 (nn rfl)) (fun q => q.elim (fun h => absurd h.1 (pn0 hP rfl)) (fun q => q.elim (fun h => absurd h (pn hP rfl rfl)) (fun h => absurd h (pn hP rfl rfl)))))))))))))
  exact K P Q c_38 0 (by decide) hI_39 ⟨by omega, ub_fr hU (fun j => (hF_40 2 j (fun q => q.elim (fun h => absurd h.1 (nn rfl)) (fun q => q.elim (fun h => absurd h (nn rfl)) (fun q => q.elim (fun h => absurd h.1 (nn rfl)) (fun q => q.elim (fun h => absurd h.1 (nn rfl)) (fun q => q.elim (fun h => absurd h.1 (nn rfl)) (fun q => q.elim (fun h => absurd h.1 (nn rfl)) (fun q => q.elim (fun h => absurd h.1 (nn rfl)) (fun q => q.elim (fun h => absurd h.1 (nn rfl)) (fun q => q.elim (fun h => absurd h.1 (nn rfl)) (fun q => q.elim (fun h => absurd h.1 (nn rfl)) (fun q => q.elim (fun h => absurd h (nn rfl)) (fun h => absurd h (nn rfl)))))))))))))).trans ((up_c (nn rfl)).trans (hF_9 2 j (fun q => q.elim (fun h => absurd h.1 (nn rfl)) (fun q => q.elim (fun h => absurd h.1 (nn rfl)) (fun q => q.elim (fun h => absurd h.1 (nn rfl)) (fun q => q.elim (fun h => absurd h.1 (nn rfl)) (fun q => q.elim (fun h => absurd h.1 (nn rfl)) (fun q => q.elim (fun h => absurd h.1 (nn rfl)) (fun q => q.elim (fun h => absurd h.1 (pn0 hP rfl)) (fun q => q.elim (fun h => absurd h (pn hP rfl rfl)) (fun h => absurd h (pn hP rfl rfl))))))))))))) (fun j => (hF_40 43 j (fun q => q.elim (fun h => absurd h.1 (nn rfl)) (fun q => q.elim (fun h => absurd h (nn rfl)) (fun q => q.elim (fun h => absurd h.1 (nn rfl)) (fun q => q.elim (fun h => absurd h.1 (nn rfl)) (fun q => q.elim (fun h => absurd h.1 (nn rfl)) (fun q => q.elim (fun h => absurd h.1 (nn rfl)) (fun q => q.elim (fun h => absurd h.1 (nn rfl)) (fun q => q.elim (fun h => absurd h.1 (nn rfl)) (fun q => q.elim (fun h => absurd h.1 (nn rfl)) (fun q => q.elim (fun h => absurd h.1 (nn rfl)) (fun q => q.elim (fun h => absurd h (nn rfl)) (fun h => absurd h (nn rfl)))))))))))))).trans ((up_c (nn rfl)).trans (hF_9 43 j (fun q => q.elim (fun h => absurd h.1 (nn rfl)) (fun q => q.elim (fun h => absurd h.1 (nn rfl)) (fun q => q.elim (fun h => absurd h.1 (nn rfl)) (fun q => q.elim (fun h => absurd h.1 (nn rfl)) (fun q => q.elim (fun h => absurd h.1 (nn rfl)) (fun q => q.elim (fun h => absurd h.1 (nn rfl)) (fun q => q.elim (fun h => absurd h.1 (pn0 hP rfl)) (fun q => q.elim (fun h => absurd h (pn hP rfl rfl)) (fun h => absurd h (pn hP rfl rfl))))))))))))), ⟨by omega, ce_le hA_53 (by omega)⟩⟩

set_option maxRecDepth 100000 in
set_option maxHeartbeats 4000000 in
theorem o_6 {xs : Nat → Int32} {L i0 d nc ns P Q : Nat} {c : ME} {Z : AR → Prop} (hi : i0 + 8 ≤ L) (hL : L ≤ 100000) (hI : Iv 0 (-1) P Q c) (hR : Rq P c) (K : ∀ (P2 Q2 : Nat) (c2 : ME) (e : Nat), e ≤ 1 → Iv 0 (-1) P2 Q2 c2 → (Rq P2 c2) → Wp (a_scr L xs) (d + 90) 296 1844 [(4, vi (i0 : Int)), (3, .ref 67), (2, .ref 41), (1, .ref 0), (0, .ref a_SC)] [] (Wd P2 Q2 P2 P2 c2) (nc + e) (ns + 6 * e) Z) : Wp (a_scr L xs) (d + 90) 296 441 [(4, vi (i0 : Int)), (3, .ref 67), (2, .ref 41), (1, .ref 0), (0, .ref a_SC)] [] (Wd P Q P P c) nc ns Z := by
  obtain ⟨x1, hx1⟩ : ∃ z, (xs (i0 + 1)).toInt = z := ⟨_, rfl⟩
  have x1r := c_rng (xs (i0 + 1))
  rw [hx1] at x1r
  obtain ⟨x2, hx2⟩ : ∃ z, (xs (i0 + 2)).toInt = z := ⟨_, rfl⟩
  have x2r := c_rng (xs (i0 + 2))
  rw [hx2] at x2r
  obtain ⟨x3, hx3⟩ : ∃ z, (xs (i0 + 3)).toInt = z := ⟨_, rfl⟩
  have x3r := c_rng (xs (i0 + 3))
  rw [hx3] at x3r
  obtain ⟨x4, hx4⟩ : ∃ z, (xs (i0 + 4)).toInt = z := ⟨_, rfl⟩
  have x4r := c_rng (xs (i0 + 4))
  rw [hx4] at x4r
  obtain ⟨x5, hx5⟩ : ∃ z, (xs (i0 + 5)).toInt = z := ⟨_, rfl⟩
  have x5r := c_rng (xs (i0 + 5))
  rw [hx5] at x5r
  obtain ⟨x6, hx6⟩ : ∃ z, (xs (i0 + 6)).toInt = z := ⟨_, rfl⟩
  have x6r := c_rng (xs (i0 + 6))
  rw [hx6] at x6r
  obtain ⟨x7, hx7⟩ : ∃ z, (xs (i0 + 7)).toInt = z := ⟨_, rfl⟩
  have x7r := c_rng (xs (i0 + 7))
  rw [hx7] at x7r
  have hT := rl_t hR
  have hU := rl_u hR
  obtain ⟨nl, hnl⟩ : ∃ z, c (P + 7) 4 = z := ⟨_, rfl⟩
  have hml : c 41 30 = nl := (rl_law hR).1.symm.trans hnl
  have hlr := ir_41_30 hI
  rw [hml] at hlr
  have hCe : Ce nl (c (P + 8)) (c 52) (c 53) := ce_le (rl_law hR).2 (by omega)
  have hHw : Hw (c 52) (c 53) nl := by rw [← hml]; exact iv_hc hI
  have hP := iv_P hI
  have hQ := iv_Q hI
  refine q_aload_n rfl rfl ?_
  refine v_cv rfl rfl rfl rfl (by decide) ⟨⟨rfl, rfl⟩, by decide, rfl⟩ (Nat.le_of_ble_eq_true rfl) (Nat.le_of_ble_eq_true rfl) (s_89 hI (fun y_1 hy_1 => ?_))
  refine bk_inl ?_
  refine q_pop rfl rfl ?_
  refine q_aload_n rfl rfl ?_
  refine v_cv rfl rfl rfl rfl (by decide) ⟨⟨rfl, rfl⟩, by decide, rfl⟩ (Nat.le_of_ble_eq_true rfl) (Nat.le_of_ble_eq_true rfl) (s_165 hI (fun c_2 y_5 hI_3 hF_4 hy_5 => ?_))
  refine bk_inl ?_
  refine q_pop rfl rfl ?_
  refine q_goto (t := 1844) rfl (by decide) ?_
  refine Wp_ls [(4, vi (i0 : Int)), (3, .ref 67), (2, .ref 41), (1, .ref 0), (0, .ref a_SC)] (lsub_cons rfl (lsub_cons rfl (lsub_cons rfl (lsub_cons rfl (lsub_cons rfl lsub_nil))))) ?_
  have h_6 := ir_1_3 hI
  have kn_7 : Hid (c_2 1 3 = c 1 3) := hF_4 1 3 (fun h => absurd h.1 (nn rfl))
  have h_8 : c_2 1 3 = c 1 3 := (hid kn_7)
  have h_9 := ir_41_2 hI
  have kn_10 : Hid (c_2 41 2 = c 41 2) := hF_4 41 2 (fun h => absurd h.2 (ni rfl))
  have h_11 : c_2 41 2 = c 41 2 := (hid kn_10)
  have kn_12 : Hid (c_2 (P + 7) 4 = nl) := (hF_4 (P + 7) 4 (fun h => absurd h.1 (np hP rfl rfl))).trans (hnl)
  have kn_13 : Hid (c_2 41 30 = nl) := (hF_4 41 30 (fun h => absurd h.2 (ni rfl))).trans (hml)
  have h_14 : c_2 (P + 7) 4 = nl := (hid kn_12)
  have h_15 : c_2 41 30 = nl := (hid kn_13)
  have hA_16 : Ce nl (c_2 (P + 8)) (c_2 52) (c_2 53) := ce_fr hCe (fun j => hF_4 (P + 8) j (fun h => absurd h.1 (np hP rfl rfl))) (fun j => hF_4 52 j (fun h => absurd h.1 (nn rfl))) (fun j => hF_4 53 j (fun h => absurd h.1 (nn rfl)))
  exact K P Q c_2 0 (by decide) hI_3 ⟨by omega, ub_fr hU (fun j => hF_4 2 j (fun h => absurd h.1 (nn rfl))) (fun j => hF_4 43 j (fun h => absurd h.1 (nn rfl))), ⟨by omega, ce_le hA_16 (by omega)⟩⟩

set_option maxRecDepth 100000 in
set_option maxHeartbeats 4000000 in
theorem o_7 {xs : Nat → Int32} {L i0 d nc ns P Q : Nat} {c : ME} {Z : AR → Prop} (hi : i0 + 8 ≤ L) (hL : L ≤ 100000) (hI : Iv 0 (-1) P Q c) (hR : Rq P c) (K : ∀ (P2 Q2 : Nat) (c2 : ME) (e : Nat), e ≤ 1 → Iv 0 (-1) P2 Q2 c2 → (Rq P2 c2) → Wp (a_scr L xs) (d + 90) 296 1844 [(4, vi (i0 : Int)), (3, .ref 67), (2, .ref 41), (1, .ref 0), (0, .ref a_SC)] [] (Wd P2 Q2 P2 P2 c2) (nc + e) (ns + 6 * e) Z) : Wp (a_scr L xs) (d + 90) 296 454 [(4, vi (i0 : Int)), (3, .ref 67), (2, .ref 41), (1, .ref 0), (0, .ref a_SC)] [] (Wd P Q P P c) nc ns Z := by
  obtain ⟨x1, hx1⟩ : ∃ z, (xs (i0 + 1)).toInt = z := ⟨_, rfl⟩
  have x1r := c_rng (xs (i0 + 1))
  rw [hx1] at x1r
  obtain ⟨x2, hx2⟩ : ∃ z, (xs (i0 + 2)).toInt = z := ⟨_, rfl⟩
  have x2r := c_rng (xs (i0 + 2))
  rw [hx2] at x2r
  obtain ⟨x3, hx3⟩ : ∃ z, (xs (i0 + 3)).toInt = z := ⟨_, rfl⟩
  have x3r := c_rng (xs (i0 + 3))
  rw [hx3] at x3r
  obtain ⟨x4, hx4⟩ : ∃ z, (xs (i0 + 4)).toInt = z := ⟨_, rfl⟩
  have x4r := c_rng (xs (i0 + 4))
  rw [hx4] at x4r
  obtain ⟨x5, hx5⟩ : ∃ z, (xs (i0 + 5)).toInt = z := ⟨_, rfl⟩
  have x5r := c_rng (xs (i0 + 5))
  rw [hx5] at x5r
  obtain ⟨x6, hx6⟩ : ∃ z, (xs (i0 + 6)).toInt = z := ⟨_, rfl⟩
  have x6r := c_rng (xs (i0 + 6))
  rw [hx6] at x6r
  obtain ⟨x7, hx7⟩ : ∃ z, (xs (i0 + 7)).toInt = z := ⟨_, rfl⟩
  have x7r := c_rng (xs (i0 + 7))
  rw [hx7] at x7r
  have hT := rl_t hR
  have hU := rl_u hR
  obtain ⟨nl, hnl⟩ : ∃ z, c (P + 7) 4 = z := ⟨_, rfl⟩
  have hml : c 41 30 = nl := (rl_law hR).1.symm.trans hnl
  have hlr := ir_41_30 hI
  rw [hml] at hlr
  have hCe : Ce nl (c (P + 8)) (c 52) (c 53) := ce_le (rl_law hR).2 (by omega)
  have hHw : Hw (c 52) (c 53) nl := by rw [← hml]; exact iv_hc hI
  have hP := iv_P hI
  have hQ := iv_Q hI
  refine q_aload_n rfl rfl ?_
  have h_1 := ir_3_3 hI
  refine v_cv rfl rfl rfl rfl (by decide) ⟨⟨rfl, rfl⟩, by decide, rfl⟩ (Nat.le_of_ble_eq_true rfl) (Nat.le_of_ble_eq_true rfl) (s_139 hI (fun c_2 y_5 hI_3 hF_4 hy_5 h_6 => ?_))
  refine bk_inl ?_
  have h_7 := ir_3_3 hI_3
  refine q_pop rfl rfl ?_
  refine q_aload_n rfl rfl ?_
  have h_8 := ir_41_35 hI
  have kn_9 : Hid (c_2 41 35 = c 41 35) := hF_4 41 35 (fun q => q.elim (fun h => absurd h.1 (nn rfl)) (fun q => q.elim (fun h => absurd h.1 (nn rfl)) (fun h => absurd h (nn rfl))))
  have h_10 : c_2 41 35 = c 41 35 := (hid kn_9)
  refine v_cv rfl rfl rfl rfl (by decide) ⟨⟨rfl, rfl⟩, by decide, rfl⟩ (Nat.le_of_ble_eq_true rfl) (Nat.le_of_ble_eq_true rfl) (s_208 hI_3 (fun c_11 y_14 hI_12 hF_13 hy_14 h_15 => ?_))
  refine bk_inl ?_
  have h_16 := ir_41_35 hI_12
  refine q_pop rfl rfl ?_
  refine q_goto (t := 1844) rfl (by decide) ?_
  refine Wp_ls [(4, vi (i0 : Int)), (3, .ref 67), (2, .ref 41), (1, .ref 0), (0, .ref a_SC)] (lsub_cons rfl (lsub_cons rfl (lsub_cons rfl (lsub_cons rfl (lsub_cons rfl lsub_nil))))) ?_
  have h_17 := ir_1_3 hI
  have kn_18 : Hid (c_2 1 3 = c 1 3) := hF_4 1 3 (fun q => q.elim (fun h => absurd h.1 (nn rfl)) (fun q => q.elim (fun h => absurd h.1 (nn rfl)) (fun h => absurd h (nn rfl))))
  have kn_19 : Hid (c_11 1 3 = c 1 3) := (hF_13 1 3 (fun q => q.elim (fun h => absurd h.1 (nn rfl)) (fun q => q.elim (fun h => absurd h.1 (nn rfl)) (fun q => q.elim (fun h => absurd h.1 (nn rfl)) (fun h => absurd h (nn rfl)))))).trans (hid kn_18)
  have h_20 : c_11 1 3 = c 1 3 := (hid kn_19)
  have h_21 := ir_41_2 hI
  have kn_22 : Hid (c_2 41 2 = c 41 2) := hF_4 41 2 (fun q => q.elim (fun h => absurd h.1 (nn rfl)) (fun q => q.elim (fun h => absurd h.1 (nn rfl)) (fun h => absurd h (nn rfl))))
  have kn_23 : Hid (c_11 41 2 = c 41 2) := (hF_13 41 2 (fun q => q.elim (fun h => absurd h.2 (ni rfl)) (fun q => q.elim (fun h => absurd h.2 (ni rfl)) (fun q => q.elim (fun h => absurd h.2 (ni rfl)) (fun h => absurd h (nn rfl)))))).trans (hid kn_22)
  have h_24 : c_11 41 2 = c 41 2 := (hid kn_23)
  have kn_25 : Hid (c_2 (P + 7) 4 = nl) := (hF_4 (P + 7) 4 (fun q => q.elim (fun h => absurd h.1 (np hP rfl rfl)) (fun q => q.elim (fun h => absurd h.1 (np hP rfl rfl)) (fun h => absurd h (np hP rfl rfl))))).trans (hnl)
  have kn_26 : Hid (c_11 (P + 7) 4 = nl) := (hF_13 (P + 7) 4 (fun q => q.elim (fun h => absurd h.1 (np hP rfl rfl)) (fun q => q.elim (fun h => absurd h.1 (np hP rfl rfl)) (fun q => q.elim (fun h => absurd h.1 (np hP rfl rfl)) (fun h => absurd h (np hP rfl rfl)))))).trans (hid kn_25)
  have kn_27 : Hid (c_2 41 30 = nl) := (hF_4 41 30 (fun q => q.elim (fun h => absurd h.1 (nn rfl)) (fun q => q.elim (fun h => absurd h.1 (nn rfl)) (fun h => absurd h (nn rfl))))).trans (hml)
  have kn_28 : Hid (c_11 41 30 = nl) := (hF_13 41 30 (fun q => q.elim (fun h => absurd h.2 (ni rfl)) (fun q => q.elim (fun h => absurd h.2 (ni rfl)) (fun q => q.elim (fun h => absurd h.2 (ni rfl)) (fun h => absurd h (nn rfl)))))).trans (hid kn_27)
  have h_29 : c_11 (P + 7) 4 = nl := (hid kn_26)
  have h_30 : c_11 41 30 = nl := (hid kn_28)
  have hA_31 : Ce nl (c_11 (P + 8)) (c_11 52) (c_11 53) := ce_fr hCe (fun j => (hF_13 (P + 8) j (fun q => q.elim (fun h => absurd h.1 (np hP rfl rfl)) (fun q => q.elim (fun h => absurd h.1 (np hP rfl rfl)) (fun q => q.elim (fun h => absurd h.1 (np hP rfl rfl)) (fun h => absurd h (np hP rfl rfl)))))).trans (hF_4 (P + 8) j (fun q => q.elim (fun h => absurd h.1 (np hP rfl rfl)) (fun q => q.elim (fun h => absurd h.1 (np hP rfl rfl)) (fun h => absurd h (np hP rfl rfl)))))) (fun j => (hF_13 52 j (fun q => q.elim (fun h => absurd h.1 (nn rfl)) (fun q => q.elim (fun h => absurd h.1 (nn rfl)) (fun q => q.elim (fun h => absurd h.1 (nn rfl)) (fun h => absurd h (nn rfl)))))).trans (hF_4 52 j (fun q => q.elim (fun h => absurd h.1 (nn rfl)) (fun q => q.elim (fun h => absurd h.1 (nn rfl)) (fun h => absurd h (nn rfl)))))) (fun j => (hF_13 53 j (fun q => q.elim (fun h => absurd h.1 (nn rfl)) (fun q => q.elim (fun h => absurd h.1 (nn rfl)) (fun q => q.elim (fun h => absurd h.1 (nn rfl)) (fun h => absurd h (nn rfl)))))).trans (hF_4 53 j (fun q => q.elim (fun h => absurd h.1 (nn rfl)) (fun q => q.elim (fun h => absurd h.1 (nn rfl)) (fun h => absurd h (nn rfl))))))
  exact K P Q c_11 0 (by decide) hI_12 ⟨by omega, ub_fr hU (fun j => (hF_13 2 j (fun q => q.elim (fun h => absurd h.1 (nn rfl)) (fun q => q.elim (fun h => absurd h.1 (nn rfl)) (fun q => q.elim (fun h => absurd h.1 (nn rfl)) (fun h => absurd h (nn rfl)))))).trans (hF_4 2 j (fun q => q.elim (fun h => absurd h.1 (nn rfl)) (fun q => q.elim (fun h => absurd h.1 (nn rfl)) (fun h => absurd h (nn rfl)))))) (fun j => (hF_13 43 j (fun q => q.elim (fun h => absurd h.1 (nn rfl)) (fun q => q.elim (fun h => absurd h.1 (nn rfl)) (fun q => q.elim (fun h => absurd h.1 (nn rfl)) (fun h => absurd h (nn rfl)))))).trans (hF_4 43 j (fun q => q.elim (fun h => absurd h.1 (nn rfl)) (fun q => q.elim (fun h => absurd h.1 (nn rfl)) (fun h => absurd h (nn rfl)))))), ⟨by omega, ce_le hA_31 (by omega)⟩⟩

set_option maxRecDepth 100000 in
set_option maxHeartbeats 4000000 in
theorem o_8 {xs : Nat → Int32} {L i0 d nc ns P Q : Nat} {c : ME} {Z : AR → Prop} (hi : i0 + 8 ≤ L) (hL : L ≤ 100000) (hI : Iv 0 (-1) P Q c) (hR : Rq P c) (K : ∀ (P2 Q2 : Nat) (c2 : ME) (e : Nat), e ≤ 1 → Iv 0 (-1) P2 Q2 c2 → (Rq P2 c2) → Wp (a_scr L xs) (d + 90) 296 1844 [(4, vi (i0 : Int)), (3, .ref 67), (2, .ref 41), (1, .ref 0), (0, .ref a_SC)] [] (Wd P2 Q2 P2 P2 c2) (nc + e) (ns + 6 * e) Z) : Wp (a_scr L xs) (d + 90) 296 467 [(4, vi (i0 : Int)), (3, .ref 67), (2, .ref 41), (1, .ref 0), (0, .ref a_SC)] [] (Wd P Q P P c) nc ns Z := by
  obtain ⟨x1, hx1⟩ : ∃ z, (xs (i0 + 1)).toInt = z := ⟨_, rfl⟩
  have x1r := c_rng (xs (i0 + 1))
  rw [hx1] at x1r
  obtain ⟨x2, hx2⟩ : ∃ z, (xs (i0 + 2)).toInt = z := ⟨_, rfl⟩
  have x2r := c_rng (xs (i0 + 2))
  rw [hx2] at x2r
  obtain ⟨x3, hx3⟩ : ∃ z, (xs (i0 + 3)).toInt = z := ⟨_, rfl⟩
  have x3r := c_rng (xs (i0 + 3))
  rw [hx3] at x3r
  obtain ⟨x4, hx4⟩ : ∃ z, (xs (i0 + 4)).toInt = z := ⟨_, rfl⟩
  have x4r := c_rng (xs (i0 + 4))
  rw [hx4] at x4r
  obtain ⟨x5, hx5⟩ : ∃ z, (xs (i0 + 5)).toInt = z := ⟨_, rfl⟩
  have x5r := c_rng (xs (i0 + 5))
  rw [hx5] at x5r
  obtain ⟨x6, hx6⟩ : ∃ z, (xs (i0 + 6)).toInt = z := ⟨_, rfl⟩
  have x6r := c_rng (xs (i0 + 6))
  rw [hx6] at x6r
  obtain ⟨x7, hx7⟩ : ∃ z, (xs (i0 + 7)).toInt = z := ⟨_, rfl⟩
  have x7r := c_rng (xs (i0 + 7))
  rw [hx7] at x7r
  have hT := rl_t hR
  have hU := rl_u hR
  obtain ⟨nl, hnl⟩ : ∃ z, c (P + 7) 4 = z := ⟨_, rfl⟩
  have hml : c 41 30 = nl := (rl_law hR).1.symm.trans hnl
  have hlr := ir_41_30 hI
  rw [hml] at hlr
  have hCe : Ce nl (c (P + 8)) (c 52) (c 53) := ce_le (rl_law hR).2 (by omega)
  have hHw : Hw (c 52) (c 53) nl := by rw [← hml]; exact iv_hc hI
  have hP := iv_P hI
  have hQ := iv_Q hI
  refine q_aload_n rfl rfl ?_
  refine q_aload_n rfl rfl ?_
  refine q_iload rfl rfl ?_
  refine q_iconst rfl ?_
  refine v_iadd (v := (i0 : Int) + 1) rfl rfl ?_
  refine v_scr (j := i0 + 1) rfl (by omega) (by omega) hL hx1 ?_
  refine q_aload_n rfl rfl ?_
  refine q_call rfl rfl rfl rfl ?_
  refine q_aload_n rfl rfl ?_
  refine q_iconst rfl ?_
  refine q_aload_n rfl rfl ?_
  refine q_iload_n rfl rfl ?_
  refine v_cv rfl rfl rfl rfl (by decide) ⟨⟨rfl, rfl⟩, by decide, rfl⟩ (Nat.le_of_ble_eq_true rfl) (Nat.le_of_ble_eq_true rfl) (s_90 (a1 := x1) hI (show (-2147483648) ≤ x1 ∧ x1 ≤ 2147483647 from ⟨by omega, by omega⟩) (fun c_1 hI_2 hF_3 => ?_) (fun c_4 y_7 hI_5 hF_6 hy_7 => ?_))
  · skip
    refine bk_thr (z := Int32.ofInt 1) rfl ⟨_, _, rfl⟩ rfl ?_
    refine bk_inl ?_
    refine q_istore rfl (by decide) ?_
    refine q_aload_n rfl rfl ?_
    refine q_aload_n rfl rfl ?_
    refine q_iload rfl rfl ?_
    refine q_iconst rfl ?_
    refine v_iadd (v := (i0 : Int) + 1) rfl rfl ?_
    refine v_scr (j := i0 + 1) rfl (by omega) (by omega) hL hx1 ?_
    refine v_cv rfl rfl rfl rfl (by decide) ⟨⟨rfl, rfl⟩, by decide, rfl⟩ (Nat.le_of_ble_eq_true rfl) (Nat.le_of_ble_eq_true rfl) (s_211 (a1 := x1) hI_2 (show (-2147483648) ≤ x1 ∧ x1 ≤ 2147483647 from ⟨by omega, by omega⟩) (fun c_8 y_11 hI_9 hF_10 hy_11 => ?_))
    refine bk_inl ?_
    refine q_istore rfl (by decide) ?_
    refine q_goto (t := 1844) rfl (by decide) ?_
    refine Wp_ls [(4, vi (i0 : Int)), (3, .ref 67), (2, .ref 41), (1, .ref 0), (0, .ref a_SC)] (lsub_cons rfl (lsub_cons rfl (lsub_cons rfl (lsub_cons rfl (lsub_cons rfl lsub_nil))))) ?_
    have h_12 := ir_1_3 hI
    have kn_13 : Hid (c_1 1 3 = c 1 3) := hF_3 1 3 (fun h => absurd h.1 (nn rfl))
    have kn_14 : Hid (c_8 1 3 = c 1 3) := (hF_10 1 3 (fun q => q.elim (fun h => absurd h.1 (nn rfl)) (fun q => q.elim (fun h => absurd h (nn rfl)) (fun h => absurd h (nn rfl))))).trans (hid kn_13)
    have h_15 : c_8 1 3 = c 1 3 := (hid kn_14)
    have h_16 := ir_41_2 hI
    have kn_17 : Hid (c_1 41 2 = c 41 2) := hF_3 41 2 (fun h => absurd h.1 (nn rfl))
    have kn_18 : Hid (c_8 41 2 = c 41 2) := (hF_10 41 2 (fun q => q.elim (fun h => absurd h.2 (ni rfl)) (fun q => q.elim (fun h => absurd h (nn rfl)) (fun h => absurd h (nn rfl))))).trans (hid kn_17)
    have h_19 : c_8 41 2 = c 41 2 := (hid kn_18)
    have kn_20 : Hid (c_1 (P + 7) 4 = nl) := (hF_3 (P + 7) 4 (fun h => absurd h.1 (np hP rfl rfl))).trans (hnl)
    have kn_21 : Hid (c_8 (P + 7) 4 = nl) := (hF_10 (P + 7) 4 (fun q => q.elim (fun h => absurd h.1 (np hP rfl rfl)) (fun q => q.elim (fun h => absurd h (np hP rfl rfl)) (fun h => absurd h (np hP rfl rfl))))).trans (hid kn_20)
    have kn_22 : Hid (c_1 41 30 = nl) := (hF_3 41 30 (fun h => absurd h.1 (nn rfl))).trans (hml)
    have kn_23 : Hid (c_8 41 30 = nl) := (hF_10 41 30 (fun q => q.elim (fun h => absurd h.2 (ni rfl)) (fun q => q.elim (fun h => absurd h (nn rfl)) (fun h => absurd h (nn rfl))))).trans (hid kn_22)
    have h_24 : c_8 (P + 7) 4 = nl := (hid kn_21)
    have h_25 : c_8 41 30 = nl := (hid kn_23)
    have hA_26 : Ce nl (c_8 (P + 8)) (c_8 52) (c_8 53) := ce_fr hCe (fun j => (hF_10 (P + 8) j (fun q => q.elim (fun h => absurd h.1 (np hP rfl rfl)) (fun q => q.elim (fun h => absurd h (np hP rfl rfl)) (fun h => absurd h (np hP rfl rfl))))).trans (hF_3 (P + 8) j (fun h => absurd h.1 (np hP rfl rfl)))) (fun j => (hF_10 52 j (fun q => q.elim (fun h => absurd h.1 (nn rfl)) (fun q => q.elim (fun h => absurd h (nn rfl)) (fun h => absurd h (nn rfl))))).trans (hF_3 52 j (fun h => absurd h.1 (nn rfl)))) (fun j => (hF_10 53 j (fun q => q.elim (fun h => absurd h.1 (nn rfl)) (fun q => q.elim (fun h => absurd h (nn rfl)) (fun h => absurd h (nn rfl))))).trans (hF_3 53 j (fun h => absurd h.1 (nn rfl))))
    exact K P Q c_8 1 (by decide) hI_9 ⟨by omega, ub_fr hU (fun j => (hF_10 2 j (fun q => q.elim (fun h => absurd h.1 (nn rfl)) (fun q => q.elim (fun h => absurd h (nn rfl)) (fun h => absurd h (nn rfl))))).trans (hF_3 2 j (fun h => absurd h.1 (nn rfl)))) (fun j => (hF_10 43 j (fun q => q.elim (fun h => absurd h.1 (nn rfl)) (fun q => q.elim (fun h => absurd h (nn rfl)) (fun h => absurd h (nn rfl))))).trans (hF_3 43 j (fun h => absurd h.1 (nn rfl)))), ⟨by omega, ce_le hA_26 (by omega)⟩⟩
  refine bk_inl ?_
  refine v_i2l rfl (by omega) ?_
  refine v_ls rfl rfl (by decide) (by decide) (by decide) ?_
  refine q_goto (t := 15) rfl (by decide) ?_
  refine q_iconst rfl ?_
  refine q_iret rfl rfl ?_
  refine bk_inl ?_
  refine q_istore rfl (by decide) ?_
  refine q_aload_n rfl rfl ?_
  refine q_aload_n rfl rfl ?_
  refine q_iload rfl rfl ?_
  refine q_iconst rfl ?_
  refine v_iadd (v := (i0 : Int) + 1) rfl rfl ?_
  refine v_scr (j := i0 + 1) rfl (by omega) (by omega) hL hx1 ?_
  have hI_27 := iw_lx (a := 67) (j := 0) (v := y_7) hI_5 (by omega)
  refine v_cv rfl rfl rfl rfl (by decide) ⟨⟨rfl, rfl⟩, by decide, rfl⟩ (Nat.le_of_ble_eq_true rfl) (Nat.le_of_ble_eq_true rfl) (s_211 (a1 := x1) hI_27 (show (-2147483648) ≤ x1 ∧ x1 ≤ 2147483647 from ⟨by omega, by omega⟩) (fun c_28 y_31 hI_29 hF_30 hy_31 => ?_))
  refine bk_inl ?_
  refine q_istore rfl (by decide) ?_
  refine q_goto (t := 1844) rfl (by decide) ?_
  refine Wp_ls [(4, vi (i0 : Int)), (3, .ref 67), (2, .ref 41), (1, .ref 0), (0, .ref a_SC)] (lsub_cons rfl (lsub_cons rfl (lsub_cons rfl (lsub_cons rfl (lsub_cons rfl lsub_nil))))) ?_
  have h_32 := ir_1_3 hI
  have kn_33 : Hid (c_4 1 3 = c 1 3) := hF_6 1 3 (fun h => absurd h.1 (nn rfl))
  have kn_34 : Hid (c_28 1 3 = c 1 3) := (hF_30 1 3 (fun q => q.elim (fun h => absurd h.1 (nn rfl)) (fun q => q.elim (fun h => absurd h (nn rfl)) (fun h => absurd h (nn rfl))))).trans ((up_c (nn rfl)).trans (hid kn_33))
  have h_35 : c_28 1 3 = c 1 3 := (hid kn_34)
  have h_36 := ir_41_2 hI
  have kn_37 : Hid (c_4 41 2 = c 41 2) := hF_6 41 2 (fun h => absurd h.1 (nn rfl))
  have kn_38 : Hid (c_28 41 2 = c 41 2) := (hF_30 41 2 (fun q => q.elim (fun h => absurd h.2 (ni rfl)) (fun q => q.elim (fun h => absurd h (nn rfl)) (fun h => absurd h (nn rfl))))).trans ((up_c (nn rfl)).trans (hid kn_37))
  have h_39 : c_28 41 2 = c 41 2 := (hid kn_38)
  have kn_40 : Hid (c_4 (P + 7) 4 = nl) := (hF_6 (P + 7) 4 (fun h => absurd h.1 (np hP rfl rfl))).trans (hnl)
  have kn_41 : Hid (c_28 (P + 7) 4 = nl) := (hF_30 (P + 7) 4 (fun q => q.elim (fun h => absurd h.1 (np hP rfl rfl)) (fun q => q.elim (fun h => absurd h (np hP rfl rfl)) (fun h => absurd h (np hP rfl rfl))))).trans ((up_c (np hP rfl rfl)).trans (hid kn_40))
  have kn_42 : Hid (c_4 41 30 = nl) := (hF_6 41 30 (fun h => absurd h.1 (nn rfl))).trans (hml)
  have kn_43 : Hid (c_28 41 30 = nl) := (hF_30 41 30 (fun q => q.elim (fun h => absurd h.2 (ni rfl)) (fun q => q.elim (fun h => absurd h (nn rfl)) (fun h => absurd h (nn rfl))))).trans ((up_c (nn rfl)).trans (hid kn_42))
  have h_44 : c_28 (P + 7) 4 = nl := (hid kn_41)
  have h_45 : c_28 41 30 = nl := (hid kn_43)
  have hA_46 : Ce nl (c_28 (P + 8)) (c_28 52) (c_28 53) := ce_fr hCe (fun j => (hF_30 (P + 8) j (fun q => q.elim (fun h => absurd h.1 (np hP rfl rfl)) (fun q => q.elim (fun h => absurd h (np hP rfl rfl)) (fun h => absurd h (np hP rfl rfl))))).trans ((up_c (np hP rfl rfl)).trans (hF_6 (P + 8) j (fun h => absurd h.1 (np hP rfl rfl))))) (fun j => (hF_30 52 j (fun q => q.elim (fun h => absurd h.1 (nn rfl)) (fun q => q.elim (fun h => absurd h (nn rfl)) (fun h => absurd h (nn rfl))))).trans ((up_c (nn rfl)).trans (hF_6 52 j (fun h => absurd h.1 (nn rfl))))) (fun j => (hF_30 53 j (fun q => q.elim (fun h => absurd h.1 (nn rfl)) (fun q => q.elim (fun h => absurd h (nn rfl)) (fun h => absurd h (nn rfl))))).trans ((up_c (nn rfl)).trans (hF_6 53 j (fun h => absurd h.1 (nn rfl)))))
  exact K P Q c_28 0 (by decide) hI_29 ⟨by omega, ub_fr hU (fun j => (hF_30 2 j (fun q => q.elim (fun h => absurd h.1 (nn rfl)) (fun q => q.elim (fun h => absurd h (nn rfl)) (fun h => absurd h (nn rfl))))).trans ((up_c (nn rfl)).trans (hF_6 2 j (fun h => absurd h.1 (nn rfl))))) (fun j => (hF_30 43 j (fun q => q.elim (fun h => absurd h.1 (nn rfl)) (fun q => q.elim (fun h => absurd h (nn rfl)) (fun h => absurd h (nn rfl))))).trans ((up_c (nn rfl)).trans (hF_6 43 j (fun h => absurd h.1 (nn rfl))))), ⟨by omega, ce_le hA_46 (by omega)⟩⟩

set_option maxRecDepth 100000 in
set_option maxHeartbeats 4000000 in
theorem o_9 {xs : Nat → Int32} {L i0 d nc ns P Q : Nat} {c : ME} {Z : AR → Prop} (hi : i0 + 8 ≤ L) (hL : L ≤ 100000) (hI : Iv 0 (-1) P Q c) (hR : Rq P c) (K : ∀ (P2 Q2 : Nat) (c2 : ME) (e : Nat), e ≤ 1 → Iv 0 (-1) P2 Q2 c2 → (Rq P2 c2) → Wp (a_scr L xs) (d + 90) 296 1844 [(4, vi (i0 : Int)), (3, .ref 67), (2, .ref 41), (1, .ref 0), (0, .ref a_SC)] [] (Wd P2 Q2 P2 P2 c2) (nc + e) (ns + 6 * e) Z) : Wp (a_scr L xs) (d + 90) 296 495 [(4, vi (i0 : Int)), (3, .ref 67), (2, .ref 41), (1, .ref 0), (0, .ref a_SC)] [] (Wd P Q P P c) nc ns Z := by
  obtain ⟨x1, hx1⟩ : ∃ z, (xs (i0 + 1)).toInt = z := ⟨_, rfl⟩
  have x1r := c_rng (xs (i0 + 1))
  rw [hx1] at x1r
  obtain ⟨x2, hx2⟩ : ∃ z, (xs (i0 + 2)).toInt = z := ⟨_, rfl⟩
  have x2r := c_rng (xs (i0 + 2))
  rw [hx2] at x2r
  obtain ⟨x3, hx3⟩ : ∃ z, (xs (i0 + 3)).toInt = z := ⟨_, rfl⟩
  have x3r := c_rng (xs (i0 + 3))
  rw [hx3] at x3r
  obtain ⟨x4, hx4⟩ : ∃ z, (xs (i0 + 4)).toInt = z := ⟨_, rfl⟩
  have x4r := c_rng (xs (i0 + 4))
  rw [hx4] at x4r
  obtain ⟨x5, hx5⟩ : ∃ z, (xs (i0 + 5)).toInt = z := ⟨_, rfl⟩
  have x5r := c_rng (xs (i0 + 5))
  rw [hx5] at x5r
  obtain ⟨x6, hx6⟩ : ∃ z, (xs (i0 + 6)).toInt = z := ⟨_, rfl⟩
  have x6r := c_rng (xs (i0 + 6))
  rw [hx6] at x6r
  obtain ⟨x7, hx7⟩ : ∃ z, (xs (i0 + 7)).toInt = z := ⟨_, rfl⟩
  have x7r := c_rng (xs (i0 + 7))
  rw [hx7] at x7r
  have hT := rl_t hR
  have hU := rl_u hR
  obtain ⟨nl, hnl⟩ : ∃ z, c (P + 7) 4 = z := ⟨_, rfl⟩
  have hml : c 41 30 = nl := (rl_law hR).1.symm.trans hnl
  have hlr := ir_41_30 hI
  rw [hml] at hlr
  have hCe : Ce nl (c (P + 8)) (c 52) (c 53) := ce_le (rl_law hR).2 (by omega)
  have hHw : Hw (c 52) (c 53) nl := by rw [← hml]; exact iv_hc hI
  have hP := iv_P hI
  have hQ := iv_Q hI
  refine q_aload_n rfl rfl ?_
  refine q_aload_n rfl rfl ?_
  refine q_iload rfl rfl ?_
  refine q_iconst rfl ?_
  refine v_iadd (v := (i0 : Int) + 1) rfl rfl ?_
  refine v_scr (j := i0 + 1) rfl (by omega) (by omega) hL hx1 ?_
  refine q_aload_n rfl rfl ?_
  refine q_iload rfl rfl ?_
  refine q_iconst rfl ?_
  refine v_iadd (v := (i0 : Int) + 2) rfl rfl ?_
  refine v_scr (j := i0 + 2) rfl (by omega) (by omega) hL hx2 ?_
  refine q_aload_n rfl rfl ?_
  refine q_call rfl rfl rfl rfl ?_
  refine q_aload_n rfl rfl ?_
  refine q_iconst rfl ?_
  refine q_aload_n rfl rfl ?_
  refine q_iload_n rfl rfl ?_
  refine q_iload_n rfl rfl ?_
  refine v_cv rfl rfl rfl rfl (by decide) ⟨⟨rfl, rfl⟩, by decide, rfl⟩ (Nat.le_of_ble_eq_true rfl) (Nat.le_of_ble_eq_true rfl) (s_93 (a1 := x1) (a2 := x2) hI (show (-2147483648) ≤ x1 ∧ x1 ≤ 2147483647 from ⟨by omega, by omega⟩) (show (-2147483648) ≤ x2 ∧ x2 ≤ 2147483647 from ⟨by omega, by omega⟩) (fun c_1 hI_2 hF_3 => ?_) (fun c_4 hI_5 hF_6 => ?_) (fun c_7 y_10 hI_8 hF_9 hy_10 => ?_))
  · skip
    refine bk_thr (z := Int32.ofInt 1) rfl ⟨_, _, rfl⟩ rfl ?_
    refine bk_inl ?_
    refine q_istore rfl (by decide) ?_
    refine q_aload_n rfl rfl ?_
    refine q_aload_n rfl rfl ?_
    refine q_iload rfl rfl ?_
    refine q_iconst rfl ?_
    refine v_iadd (v := (i0 : Int) + 1) rfl rfl ?_
    refine v_scr (j := i0 + 1) rfl (by omega) (by omega) hL hx1 ?_
    refine q_aload_n rfl rfl ?_
    refine q_iload rfl rfl ?_
    refine q_iconst rfl ?_
    refine v_iadd (v := (i0 : Int) + 2) rfl rfl ?_
    refine v_scr (j := i0 + 2) rfl (by omega) (by omega) hL hx2 ?_
    refine v_cv rfl rfl rfl rfl (by decide) ⟨⟨rfl, rfl⟩, by decide, rfl⟩ (Nat.le_of_ble_eq_true rfl) (Nat.le_of_ble_eq_true rfl) (s_213 (a1 := x1) (a2 := x2) hI_2 (show (-2147483648) ≤ x1 ∧ x1 ≤ 2147483647 from ⟨by omega, by omega⟩) (show (-2147483648) ≤ x2 ∧ x2 ≤ 2147483647 from ⟨by omega, by omega⟩) (fun c_11 y_14 hI_12 hF_13 hy_14 => ?_))
    refine bk_inl ?_
    refine q_istore rfl (by decide) ?_
    refine q_goto (t := 1844) rfl (by decide) ?_
    refine Wp_ls [(4, vi (i0 : Int)), (3, .ref 67), (2, .ref 41), (1, .ref 0), (0, .ref a_SC)] (lsub_cons rfl (lsub_cons rfl (lsub_cons rfl (lsub_cons rfl (lsub_cons rfl lsub_nil))))) ?_
    have h_15 := ir_1_3 hI
    have kn_16 : Hid (c_1 1 3 = c 1 3) := hF_3 1 3 (fun q => q.elim (fun h => absurd h.1 (nn rfl)) (fun h => absurd h.1 (nn rfl)))
    have kn_17 : Hid (c_11 1 3 = c 1 3) := (hF_13 1 3 (fun q => q.elim (fun h => absurd h.1 (nn rfl)) (fun q => q.elim (fun h => absurd h (nn rfl)) (fun h => absurd h (nn rfl))))).trans (hid kn_16)
    have h_18 : c_11 1 3 = c 1 3 := (hid kn_17)
    have h_19 := ir_41_2 hI
    have kn_20 : Hid (c_1 41 2 = c 41 2) := hF_3 41 2 (fun q => q.elim (fun h => absurd h.1 (nn rfl)) (fun h => absurd h.1 (nn rfl)))
    have kn_21 : Hid (c_11 41 2 = c 41 2) := (hF_13 41 2 (fun q => q.elim (fun h => absurd h.2 (ni rfl)) (fun q => q.elim (fun h => absurd h (nn rfl)) (fun h => absurd h (nn rfl))))).trans (hid kn_20)
    have h_22 : c_11 41 2 = c 41 2 := (hid kn_21)
    have kn_23 : Hid (c_1 (P + 7) 4 = nl) := (hF_3 (P + 7) 4 (fun q => q.elim (fun h => absurd h.1 (np hP rfl rfl)) (fun h => absurd h.1 (np hP rfl rfl)))).trans (hnl)
    have kn_24 : Hid (c_11 (P + 7) 4 = nl) := (hF_13 (P + 7) 4 (fun q => q.elim (fun h => absurd h.1 (np hP rfl rfl)) (fun q => q.elim (fun h => absurd h (np hP rfl rfl)) (fun h => absurd h (np hP rfl rfl))))).trans (hid kn_23)
    have kn_25 : Hid (c_1 41 30 = nl) := (hF_3 41 30 (fun q => q.elim (fun h => absurd h.1 (nn rfl)) (fun h => absurd h.1 (nn rfl)))).trans (hml)
    have kn_26 : Hid (c_11 41 30 = nl) := (hF_13 41 30 (fun q => q.elim (fun h => absurd h.2 (ni rfl)) (fun q => q.elim (fun h => absurd h (nn rfl)) (fun h => absurd h (nn rfl))))).trans (hid kn_25)
    have h_27 : c_11 (P + 7) 4 = nl := (hid kn_24)
    have h_28 : c_11 41 30 = nl := (hid kn_26)
    have hA_29 : Ce nl (c_11 (P + 8)) (c_11 52) (c_11 53) := ce_fr hCe (fun j => (hF_13 (P + 8) j (fun q => q.elim (fun h => absurd h.1 (np hP rfl rfl)) (fun q => q.elim (fun h => absurd h (np hP rfl rfl)) (fun h => absurd h (np hP rfl rfl))))).trans (hF_3 (P + 8) j (fun q => q.elim (fun h => absurd h.1 (np hP rfl rfl)) (fun h => absurd h.1 (np hP rfl rfl))))) (fun j => (hF_13 52 j (fun q => q.elim (fun h => absurd h.1 (nn rfl)) (fun q => q.elim (fun h => absurd h (nn rfl)) (fun h => absurd h (nn rfl))))).trans (hF_3 52 j (fun q => q.elim (fun h => absurd h.1 (nn rfl)) (fun h => absurd h.1 (nn rfl))))) (fun j => (hF_13 53 j (fun q => q.elim (fun h => absurd h.1 (nn rfl)) (fun q => q.elim (fun h => absurd h (nn rfl)) (fun h => absurd h (nn rfl))))).trans (hF_3 53 j (fun q => q.elim (fun h => absurd h.1 (nn rfl)) (fun h => absurd h.1 (nn rfl)))))
    exact K P Q c_11 1 (by decide) hI_12 ⟨by omega, ub_fr hU (fun j => (hF_13 2 j (fun q => q.elim (fun h => absurd h.1 (nn rfl)) (fun q => q.elim (fun h => absurd h (nn rfl)) (fun h => absurd h (nn rfl))))).trans (hF_3 2 j (fun q => q.elim (fun h => absurd h.1 (nn rfl)) (fun h => absurd h.1 (nn rfl))))) (fun j => (hF_13 43 j (fun q => q.elim (fun h => absurd h.1 (nn rfl)) (fun q => q.elim (fun h => absurd h (nn rfl)) (fun h => absurd h (nn rfl))))).trans (hF_3 43 j (fun q => q.elim (fun h => absurd h.1 (nn rfl)) (fun h => absurd h.1 (nn rfl))))), ⟨by omega, ce_le hA_29 (by omega)⟩⟩
  · skip
    refine bk_thr (z := Int32.ofInt 2) rfl ⟨_, _, rfl⟩ rfl ?_
    refine bk_inl ?_
    refine q_istore rfl (by decide) ?_
    refine q_aload_n rfl rfl ?_
    refine q_aload_n rfl rfl ?_
    refine q_iload rfl rfl ?_
    refine q_iconst rfl ?_
    refine v_iadd (v := (i0 : Int) + 1) rfl rfl ?_
    refine v_scr (j := i0 + 1) rfl (by omega) (by omega) hL hx1 ?_
    refine q_aload_n rfl rfl ?_
    refine q_iload rfl rfl ?_
    refine q_iconst rfl ?_
    refine v_iadd (v := (i0 : Int) + 2) rfl rfl ?_
    refine v_scr (j := i0 + 2) rfl (by omega) (by omega) hL hx2 ?_
    refine v_cv rfl rfl rfl rfl (by decide) ⟨⟨rfl, rfl⟩, by decide, rfl⟩ (Nat.le_of_ble_eq_true rfl) (Nat.le_of_ble_eq_true rfl) (s_213 (a1 := x1) (a2 := x2) hI_5 (show (-2147483648) ≤ x1 ∧ x1 ≤ 2147483647 from ⟨by omega, by omega⟩) (show (-2147483648) ≤ x2 ∧ x2 ≤ 2147483647 from ⟨by omega, by omega⟩) (fun c_30 y_33 hI_31 hF_32 hy_33 => ?_))
    refine bk_inl ?_
    refine q_istore rfl (by decide) ?_
    refine q_goto (t := 1844) rfl (by decide) ?_
    refine Wp_ls [(4, vi (i0 : Int)), (3, .ref 67), (2, .ref 41), (1, .ref 0), (0, .ref a_SC)] (lsub_cons rfl (lsub_cons rfl (lsub_cons rfl (lsub_cons rfl (lsub_cons rfl lsub_nil))))) ?_
    have h_34 := ir_1_3 hI
    have kn_35 : Hid (c_4 1 3 = c 1 3) := hF_6 1 3 (fun q => q.elim (fun h => absurd h.1 (nn rfl)) (fun h => absurd h.1 (nn rfl)))
    have kn_36 : Hid (c_30 1 3 = c 1 3) := (hF_32 1 3 (fun q => q.elim (fun h => absurd h.1 (nn rfl)) (fun q => q.elim (fun h => absurd h (nn rfl)) (fun h => absurd h (nn rfl))))).trans (hid kn_35)
    have h_37 : c_30 1 3 = c 1 3 := (hid kn_36)
    have h_38 := ir_41_2 hI
    have kn_39 : Hid (c_4 41 2 = c 41 2) := hF_6 41 2 (fun q => q.elim (fun h => absurd h.1 (nn rfl)) (fun h => absurd h.1 (nn rfl)))
    have kn_40 : Hid (c_30 41 2 = c 41 2) := (hF_32 41 2 (fun q => q.elim (fun h => absurd h.2 (ni rfl)) (fun q => q.elim (fun h => absurd h (nn rfl)) (fun h => absurd h (nn rfl))))).trans (hid kn_39)
    have h_41 : c_30 41 2 = c 41 2 := (hid kn_40)
    have kn_42 : Hid (c_4 (P + 7) 4 = nl) := (hF_6 (P + 7) 4 (fun q => q.elim (fun h => absurd h.1 (np hP rfl rfl)) (fun h => absurd h.1 (np hP rfl rfl)))).trans (hnl)
    have kn_43 : Hid (c_30 (P + 7) 4 = nl) := (hF_32 (P + 7) 4 (fun q => q.elim (fun h => absurd h.1 (np hP rfl rfl)) (fun q => q.elim (fun h => absurd h (np hP rfl rfl)) (fun h => absurd h (np hP rfl rfl))))).trans (hid kn_42)
    have kn_44 : Hid (c_4 41 30 = nl) := (hF_6 41 30 (fun q => q.elim (fun h => absurd h.1 (nn rfl)) (fun h => absurd h.1 (nn rfl)))).trans (hml)
    have kn_45 : Hid (c_30 41 30 = nl) := (hF_32 41 30 (fun q => q.elim (fun h => absurd h.2 (ni rfl)) (fun q => q.elim (fun h => absurd h (nn rfl)) (fun h => absurd h (nn rfl))))).trans (hid kn_44)
    have h_46 : c_30 (P + 7) 4 = nl := (hid kn_43)
    have h_47 : c_30 41 30 = nl := (hid kn_45)
    have hA_48 : Ce nl (c_30 (P + 8)) (c_30 52) (c_30 53) := ce_fr hCe (fun j => (hF_32 (P + 8) j (fun q => q.elim (fun h => absurd h.1 (np hP rfl rfl)) (fun q => q.elim (fun h => absurd h (np hP rfl rfl)) (fun h => absurd h (np hP rfl rfl))))).trans (hF_6 (P + 8) j (fun q => q.elim (fun h => absurd h.1 (np hP rfl rfl)) (fun h => absurd h.1 (np hP rfl rfl))))) (fun j => (hF_32 52 j (fun q => q.elim (fun h => absurd h.1 (nn rfl)) (fun q => q.elim (fun h => absurd h (nn rfl)) (fun h => absurd h (nn rfl))))).trans (hF_6 52 j (fun q => q.elim (fun h => absurd h.1 (nn rfl)) (fun h => absurd h.1 (nn rfl))))) (fun j => (hF_32 53 j (fun q => q.elim (fun h => absurd h.1 (nn rfl)) (fun q => q.elim (fun h => absurd h (nn rfl)) (fun h => absurd h (nn rfl))))).trans (hF_6 53 j (fun q => q.elim (fun h => absurd h.1 (nn rfl)) (fun h => absurd h.1 (nn rfl)))))
    exact K P Q c_30 1 (by decide) hI_31 ⟨by omega, ub_fr hU (fun j => (hF_32 2 j (fun q => q.elim (fun h => absurd h.1 (nn rfl)) (fun q => q.elim (fun h => absurd h (nn rfl)) (fun h => absurd h (nn rfl))))).trans (hF_6 2 j (fun q => q.elim (fun h => absurd h.1 (nn rfl)) (fun h => absurd h.1 (nn rfl))))) (fun j => (hF_32 43 j (fun q => q.elim (fun h => absurd h.1 (nn rfl)) (fun q => q.elim (fun h => absurd h (nn rfl)) (fun h => absurd h (nn rfl))))).trans (hF_6 43 j (fun q => q.elim (fun h => absurd h.1 (nn rfl)) (fun h => absurd h.1 (nn rfl))))), ⟨by omega, ce_le hA_48 (by omega)⟩⟩
  refine bk_inl ?_
  refine v_i2l rfl (by omega) ?_
  refine v_ls rfl rfl (by decide) (by decide) (by decide) ?_
  refine q_goto (t := 21) rfl (by decide) ?_
  refine q_iconst rfl ?_
  refine q_iret rfl rfl ?_
  refine bk_inl ?_
  refine q_istore rfl (by decide) ?_
  refine q_aload_n rfl rfl ?_
  refine q_aload_n rfl rfl ?_
  refine q_iload rfl rfl ?_
  refine q_iconst rfl ?_
  refine v_iadd (v := (i0 : Int) + 1) rfl rfl ?_
  refine v_scr (j := i0 + 1) rfl (by omega) (by omega) hL hx1 ?_
  refine q_aload_n rfl rfl ?_
  refine q_iload rfl rfl ?_
  refine q_iconst rfl ?_
  refine v_iadd (v := (i0 : Int) + 2) rfl rfl ?_
  refine v_scr (j := i0 + 2) rfl (by omega) (by omega) hL hx2 ?_
  have hI_49 := iw_lx (a := 67) (j := 0) (v := y_10) hI_8 (by omega)
  refine v_cv rfl rfl rfl rfl (by decide) ⟨⟨rfl, rfl⟩, by decide, rfl⟩ (Nat.le_of_ble_eq_true rfl) (Nat.le_of_ble_eq_true rfl) (s_213 (a1 := x1) (a2 := x2) hI_49 (show (-2147483648) ≤ x1 ∧ x1 ≤ 2147483647 from ⟨by omega, by omega⟩) (show (-2147483648) ≤ x2 ∧ x2 ≤ 2147483647 from ⟨by omega, by omega⟩) (fun c_50 y_53 hI_51 hF_52 hy_53 => ?_))
  refine bk_inl ?_
  refine q_istore rfl (by decide) ?_
  refine q_goto (t := 1844) rfl (by decide) ?_
  refine Wp_ls [(4, vi (i0 : Int)), (3, .ref 67), (2, .ref 41), (1, .ref 0), (0, .ref a_SC)] (lsub_cons rfl (lsub_cons rfl (lsub_cons rfl (lsub_cons rfl (lsub_cons rfl lsub_nil))))) ?_
  have h_54 := ir_1_3 hI
  have kn_55 : Hid (c_7 1 3 = c 1 3) := hF_9 1 3 (fun q => q.elim (fun h => absurd h.1 (nn rfl)) (fun h => absurd h.1 (nn rfl)))
  have kn_56 : Hid (c_50 1 3 = c 1 3) := (hF_52 1 3 (fun q => q.elim (fun h => absurd h.1 (nn rfl)) (fun q => q.elim (fun h => absurd h (nn rfl)) (fun h => absurd h (nn rfl))))).trans ((up_c (nn rfl)).trans (hid kn_55))
  have h_57 : c_50 1 3 = c 1 3 := (hid kn_56)
  have h_58 := ir_41_2 hI
  have kn_59 : Hid (c_7 41 2 = c 41 2) := hF_9 41 2 (fun q => q.elim (fun h => absurd h.1 (nn rfl)) (fun h => absurd h.1 (nn rfl)))
  have kn_60 : Hid (c_50 41 2 = c 41 2) := (hF_52 41 2 (fun q => q.elim (fun h => absurd h.2 (ni rfl)) (fun q => q.elim (fun h => absurd h (nn rfl)) (fun h => absurd h (nn rfl))))).trans ((up_c (nn rfl)).trans (hid kn_59))
  have h_61 : c_50 41 2 = c 41 2 := (hid kn_60)
  have kn_62 : Hid (c_7 (P + 7) 4 = nl) := (hF_9 (P + 7) 4 (fun q => q.elim (fun h => absurd h.1 (np hP rfl rfl)) (fun h => absurd h.1 (np hP rfl rfl)))).trans (hnl)
  have kn_63 : Hid (c_50 (P + 7) 4 = nl) := (hF_52 (P + 7) 4 (fun q => q.elim (fun h => absurd h.1 (np hP rfl rfl)) (fun q => q.elim (fun h => absurd h (np hP rfl rfl)) (fun h => absurd h (np hP rfl rfl))))).trans ((up_c (np hP rfl rfl)).trans (hid kn_62))
  have kn_64 : Hid (c_7 41 30 = nl) := (hF_9 41 30 (fun q => q.elim (fun h => absurd h.1 (nn rfl)) (fun h => absurd h.1 (nn rfl)))).trans (hml)
  have kn_65 : Hid (c_50 41 30 = nl) := (hF_52 41 30 (fun q => q.elim (fun h => absurd h.2 (ni rfl)) (fun q => q.elim (fun h => absurd h (nn rfl)) (fun h => absurd h (nn rfl))))).trans ((up_c (nn rfl)).trans (hid kn_64))
  have h_66 : c_50 (P + 7) 4 = nl := (hid kn_63)
  have h_67 : c_50 41 30 = nl := (hid kn_65)
  have hA_68 : Ce nl (c_50 (P + 8)) (c_50 52) (c_50 53) := ce_fr hCe (fun j => (hF_52 (P + 8) j (fun q => q.elim (fun h => absurd h.1 (np hP rfl rfl)) (fun q => q.elim (fun h => absurd h (np hP rfl rfl)) (fun h => absurd h (np hP rfl rfl))))).trans ((up_c (np hP rfl rfl)).trans (hF_9 (P + 8) j (fun q => q.elim (fun h => absurd h.1 (np hP rfl rfl)) (fun h => absurd h.1 (np hP rfl rfl)))))) (fun j => (hF_52 52 j (fun q => q.elim (fun h => absurd h.1 (nn rfl)) (fun q => q.elim (fun h => absurd h (nn rfl)) (fun h => absurd h (nn rfl))))).trans ((up_c (nn rfl)).trans (hF_9 52 j (fun q => q.elim (fun h => absurd h.1 (nn rfl)) (fun h => absurd h.1 (nn rfl)))))) (fun j => (hF_52 53 j (fun q => q.elim (fun h => absurd h.1 (nn rfl)) (fun q => q.elim (fun h => absurd h (nn rfl)) (fun h => absurd h (nn rfl))))).trans ((up_c (nn rfl)).trans (hF_9 53 j (fun q => q.elim (fun h => absurd h.1 (nn rfl)) (fun h => absurd h.1 (nn rfl))))))
  exact K P Q c_50 0 (by decide) hI_51 ⟨by omega, ub_fr hU (fun j => (hF_52 2 j (fun q => q.elim (fun h => absurd h.1 (nn rfl)) (fun q => q.elim (fun h => absurd h (nn rfl)) (fun h => absurd h (nn rfl))))).trans ((up_c (nn rfl)).trans (hF_9 2 j (fun q => q.elim (fun h => absurd h.1 (nn rfl)) (fun h => absurd h.1 (nn rfl)))))) (fun j => (hF_52 43 j (fun q => q.elim (fun h => absurd h.1 (nn rfl)) (fun q => q.elim (fun h => absurd h (nn rfl)) (fun h => absurd h (nn rfl))))).trans ((up_c (nn rfl)).trans (hF_9 43 j (fun q => q.elim (fun h => absurd h.1 (nn rfl)) (fun h => absurd h.1 (nn rfl)))))), ⟨by omega, ce_le hA_68 (by omega)⟩⟩

set_option maxRecDepth 100000 in
set_option maxHeartbeats 4000000 in
theorem o_10 {xs : Nat → Int32} {L i0 d nc ns P Q : Nat} {c : ME} {Z : AR → Prop} (hi : i0 + 8 ≤ L) (hL : L ≤ 100000) (hI : Iv 0 (-1) P Q c) (hR : Rq P c) (K : ∀ (P2 Q2 : Nat) (c2 : ME) (e : Nat), e ≤ 1 → Iv 0 (-1) P2 Q2 c2 → (Rq P2 c2) → Wp (a_scr L xs) (d + 90) 296 1844 [(4, vi (i0 : Int)), (3, .ref 67), (2, .ref 41), (1, .ref 0), (0, .ref a_SC)] [] (Wd P2 Q2 P2 P2 c2) (nc + e) (ns + 6 * e) Z) : Wp (a_scr L xs) (d + 90) 296 535 [(4, vi (i0 : Int)), (3, .ref 67), (2, .ref 41), (1, .ref 0), (0, .ref a_SC)] [] (Wd P Q P P c) nc ns Z := by
  obtain ⟨x1, hx1⟩ : ∃ z, (xs (i0 + 1)).toInt = z := ⟨_, rfl⟩
  have x1r := c_rng (xs (i0 + 1))
  rw [hx1] at x1r
  obtain ⟨x2, hx2⟩ : ∃ z, (xs (i0 + 2)).toInt = z := ⟨_, rfl⟩
  have x2r := c_rng (xs (i0 + 2))
  rw [hx2] at x2r
  obtain ⟨x3, hx3⟩ : ∃ z, (xs (i0 + 3)).toInt = z := ⟨_, rfl⟩
  have x3r := c_rng (xs (i0 + 3))
  rw [hx3] at x3r
  obtain ⟨x4, hx4⟩ : ∃ z, (xs (i0 + 4)).toInt = z := ⟨_, rfl⟩
  have x4r := c_rng (xs (i0 + 4))
  rw [hx4] at x4r
  obtain ⟨x5, hx5⟩ : ∃ z, (xs (i0 + 5)).toInt = z := ⟨_, rfl⟩
  have x5r := c_rng (xs (i0 + 5))
  rw [hx5] at x5r
  obtain ⟨x6, hx6⟩ : ∃ z, (xs (i0 + 6)).toInt = z := ⟨_, rfl⟩
  have x6r := c_rng (xs (i0 + 6))
  rw [hx6] at x6r
  obtain ⟨x7, hx7⟩ : ∃ z, (xs (i0 + 7)).toInt = z := ⟨_, rfl⟩
  have x7r := c_rng (xs (i0 + 7))
  rw [hx7] at x7r
  have hT := rl_t hR
  have hU := rl_u hR
  obtain ⟨nl, hnl⟩ : ∃ z, c (P + 7) 4 = z := ⟨_, rfl⟩
  have hml : c 41 30 = nl := (rl_law hR).1.symm.trans hnl
  have hlr := ir_41_30 hI
  rw [hml] at hlr
  have hCe : Ce nl (c (P + 8)) (c 52) (c 53) := ce_le (rl_law hR).2 (by omega)
  have hHw : Hw (c 52) (c 53) nl := by rw [← hml]; exact iv_hc hI
  have hP := iv_P hI
  have hQ := iv_Q hI
  refine q_aload_n rfl rfl ?_
  refine q_aload_n rfl rfl ?_
  refine q_iload rfl rfl ?_
  refine q_iconst rfl ?_
  refine v_iadd (v := (i0 : Int) + 1) rfl rfl ?_
  refine v_scr (j := i0 + 1) rfl (by omega) (by omega) hL hx1 ?_
  refine q_aload_n rfl rfl ?_
  refine q_iload rfl rfl ?_
  refine q_iconst rfl ?_
  refine v_iadd (v := (i0 : Int) + 2) rfl rfl ?_
  refine v_scr (j := i0 + 2) rfl (by omega) (by omega) hL hx2 ?_
  refine q_aload_n rfl rfl ?_
  refine q_call rfl rfl rfl rfl ?_
  refine q_aload_n rfl rfl ?_
  refine q_iconst rfl ?_
  refine q_aload_n rfl rfl ?_
  refine q_iload_n rfl rfl ?_
  refine q_iload_n rfl rfl ?_
  refine v_cv rfl rfl rfl rfl (by decide) ⟨⟨rfl, rfl⟩, by decide, rfl⟩ (Nat.le_of_ble_eq_true rfl) (Nat.le_of_ble_eq_true rfl) (s_95 (a1 := x1) (a2 := x2) hI (show (-2147483648) ≤ x1 ∧ x1 ≤ 2147483647 from ⟨by omega, by omega⟩) (show (-2147483648) ≤ x2 ∧ x2 ≤ 2147483647 from ⟨by omega, by omega⟩) (fun c_1 hI_2 hF_3 => ?_) (fun c_4 hI_5 hF_6 => ?_) (fun c_7 y_10 hI_8 hF_9 hy_10 => ?_))
  · skip
    refine bk_thr (z := Int32.ofInt 1) rfl ⟨_, _, rfl⟩ rfl ?_
    refine bk_inl ?_
    refine q_istore rfl (by decide) ?_
    refine q_aload_n rfl rfl ?_
    refine q_aload_n rfl rfl ?_
    refine q_iload rfl rfl ?_
    refine q_iconst rfl ?_
    refine v_iadd (v := (i0 : Int) + 1) rfl rfl ?_
    refine v_scr (j := i0 + 1) rfl (by omega) (by omega) hL hx1 ?_
    refine q_aload_n rfl rfl ?_
    refine q_iload rfl rfl ?_
    refine q_iconst rfl ?_
    refine v_iadd (v := (i0 : Int) + 2) rfl rfl ?_
    refine v_scr (j := i0 + 2) rfl (by omega) (by omega) hL hx2 ?_
    refine v_cv rfl rfl rfl rfl (by decide) ⟨⟨rfl, rfl⟩, by decide, rfl⟩ (Nat.le_of_ble_eq_true rfl) (Nat.le_of_ble_eq_true rfl) (s_214 (a1 := x1) (a2 := x2) hI_2 (show (-2147483648) ≤ x1 ∧ x1 ≤ 2147483647 from ⟨by omega, by omega⟩) (show (-2147483648) ≤ x2 ∧ x2 ≤ 2147483647 from ⟨by omega, by omega⟩) (fun c_11 y_14 hI_12 hF_13 hy_14 => ?_))
    refine bk_inl ?_
    refine q_istore rfl (by decide) ?_
    refine q_goto (t := 1844) rfl (by decide) ?_
    refine Wp_ls [(4, vi (i0 : Int)), (3, .ref 67), (2, .ref 41), (1, .ref 0), (0, .ref a_SC)] (lsub_cons rfl (lsub_cons rfl (lsub_cons rfl (lsub_cons rfl (lsub_cons rfl lsub_nil))))) ?_
    have h_15 := ir_1_3 hI
    have kn_16 : Hid (c_1 1 3 = c 1 3) := hF_3 1 3 (fun q => q.elim (fun h => absurd h.1 (nn rfl)) (fun h => absurd h.1 (nn rfl)))
    have kn_17 : Hid (c_11 1 3 = c 1 3) := (hF_13 1 3 (fun q => q.elim (fun h => absurd h.1 (nn rfl)) (fun h => absurd h (nn rfl)))).trans (hid kn_16)
    have h_18 : c_11 1 3 = c 1 3 := (hid kn_17)
    have h_19 := ir_41_2 hI
    have kn_20 : Hid (c_1 41 2 = c 41 2) := hF_3 41 2 (fun q => q.elim (fun h => absurd h.1 (nn rfl)) (fun h => absurd h.1 (nn rfl)))
    have kn_21 : Hid (c_11 41 2 = c 41 2) := (hF_13 41 2 (fun q => q.elim (fun h => absurd h.2 (ni rfl)) (fun h => absurd h (nn rfl)))).trans (hid kn_20)
    have h_22 : c_11 41 2 = c 41 2 := (hid kn_21)
    have kn_23 : Hid (c_1 (P + 7) 4 = nl) := (hF_3 (P + 7) 4 (fun q => q.elim (fun h => absurd h.1 (np hP rfl rfl)) (fun h => absurd h.1 (np hP rfl rfl)))).trans (hnl)
    have kn_24 : Hid (c_11 (P + 7) 4 = nl) := (hF_13 (P + 7) 4 (fun q => q.elim (fun h => absurd h.1 (np hP rfl rfl)) (fun h => absurd h (np hP rfl rfl)))).trans (hid kn_23)
    have kn_25 : Hid (c_1 41 30 = nl) := (hF_3 41 30 (fun q => q.elim (fun h => absurd h.1 (nn rfl)) (fun h => absurd h.1 (nn rfl)))).trans (hml)
    have kn_26 : Hid (c_11 41 30 = nl) := (hF_13 41 30 (fun q => q.elim (fun h => absurd h.2 (ni rfl)) (fun h => absurd h (nn rfl)))).trans (hid kn_25)
    have h_27 : c_11 (P + 7) 4 = nl := (hid kn_24)
    have h_28 : c_11 41 30 = nl := (hid kn_26)
    have hA_29 : Ce nl (c_11 (P + 8)) (c_11 52) (c_11 53) := ce_fr hCe (fun j => (hF_13 (P + 8) j (fun q => q.elim (fun h => absurd h.1 (np hP rfl rfl)) (fun h => absurd h (np hP rfl rfl)))).trans (hF_3 (P + 8) j (fun q => q.elim (fun h => absurd h.1 (np hP rfl rfl)) (fun h => absurd h.1 (np hP rfl rfl))))) (fun j => (hF_13 52 j (fun q => q.elim (fun h => absurd h.1 (nn rfl)) (fun h => absurd h (nn rfl)))).trans (hF_3 52 j (fun q => q.elim (fun h => absurd h.1 (nn rfl)) (fun h => absurd h.1 (nn rfl))))) (fun j => (hF_13 53 j (fun q => q.elim (fun h => absurd h.1 (nn rfl)) (fun h => absurd h (nn rfl)))).trans (hF_3 53 j (fun q => q.elim (fun h => absurd h.1 (nn rfl)) (fun h => absurd h.1 (nn rfl)))))
    exact K P Q c_11 1 (by decide) hI_12 ⟨by omega, ub_fr hU (fun j => (hF_13 2 j (fun q => q.elim (fun h => absurd h.1 (nn rfl)) (fun h => absurd h (nn rfl)))).trans (hF_3 2 j (fun q => q.elim (fun h => absurd h.1 (nn rfl)) (fun h => absurd h.1 (nn rfl))))) (fun j => (hF_13 43 j (fun q => q.elim (fun h => absurd h.1 (nn rfl)) (fun h => absurd h (nn rfl)))).trans (hF_3 43 j (fun q => q.elim (fun h => absurd h.1 (nn rfl)) (fun h => absurd h.1 (nn rfl))))), ⟨by omega, ce_le hA_29 (by omega)⟩⟩
  · skip
    refine bk_thr (z := Int32.ofInt 2) rfl ⟨_, _, rfl⟩ rfl ?_
    refine bk_inl ?_
    refine q_istore rfl (by decide) ?_
    refine q_aload_n rfl rfl ?_
    refine q_aload_n rfl rfl ?_
    refine q_iload rfl rfl ?_
    refine q_iconst rfl ?_
    refine v_iadd (v := (i0 : Int) + 1) rfl rfl ?_
    refine v_scr (j := i0 + 1) rfl (by omega) (by omega) hL hx1 ?_
    refine q_aload_n rfl rfl ?_
    refine q_iload rfl rfl ?_
    refine q_iconst rfl ?_
    refine v_iadd (v := (i0 : Int) + 2) rfl rfl ?_
    refine v_scr (j := i0 + 2) rfl (by omega) (by omega) hL hx2 ?_
    refine v_cv rfl rfl rfl rfl (by decide) ⟨⟨rfl, rfl⟩, by decide, rfl⟩ (Nat.le_of_ble_eq_true rfl) (Nat.le_of_ble_eq_true rfl) (s_214 (a1 := x1) (a2 := x2) hI_5 (show (-2147483648) ≤ x1 ∧ x1 ≤ 2147483647 from ⟨by omega, by omega⟩) (show (-2147483648) ≤ x2 ∧ x2 ≤ 2147483647 from ⟨by omega, by omega⟩) (fun c_30 y_33 hI_31 hF_32 hy_33 => ?_))
    refine bk_inl ?_
    refine q_istore rfl (by decide) ?_
    refine q_goto (t := 1844) rfl (by decide) ?_
    refine Wp_ls [(4, vi (i0 : Int)), (3, .ref 67), (2, .ref 41), (1, .ref 0), (0, .ref a_SC)] (lsub_cons rfl (lsub_cons rfl (lsub_cons rfl (lsub_cons rfl (lsub_cons rfl lsub_nil))))) ?_
    have h_34 := ir_1_3 hI
    have kn_35 : Hid (c_4 1 3 = c 1 3) := hF_6 1 3 (fun q => q.elim (fun h => absurd h.1 (nn rfl)) (fun h => absurd h.1 (nn rfl)))
    have kn_36 : Hid (c_30 1 3 = c 1 3) := (hF_32 1 3 (fun q => q.elim (fun h => absurd h.1 (nn rfl)) (fun h => absurd h (nn rfl)))).trans (hid kn_35)
    have h_37 : c_30 1 3 = c 1 3 := (hid kn_36)
    have h_38 := ir_41_2 hI
    have kn_39 : Hid (c_4 41 2 = c 41 2) := hF_6 41 2 (fun q => q.elim (fun h => absurd h.1 (nn rfl)) (fun h => absurd h.1 (nn rfl)))
    have kn_40 : Hid (c_30 41 2 = c 41 2) := (hF_32 41 2 (fun q => q.elim (fun h => absurd h.2 (ni rfl)) (fun h => absurd h (nn rfl)))).trans (hid kn_39)
    have h_41 : c_30 41 2 = c 41 2 := (hid kn_40)
    have kn_42 : Hid (c_4 (P + 7) 4 = nl) := (hF_6 (P + 7) 4 (fun q => q.elim (fun h => absurd h.1 (np hP rfl rfl)) (fun h => absurd h.1 (np hP rfl rfl)))).trans (hnl)
    have kn_43 : Hid (c_30 (P + 7) 4 = nl) := (hF_32 (P + 7) 4 (fun q => q.elim (fun h => absurd h.1 (np hP rfl rfl)) (fun h => absurd h (np hP rfl rfl)))).trans (hid kn_42)
    have kn_44 : Hid (c_4 41 30 = nl) := (hF_6 41 30 (fun q => q.elim (fun h => absurd h.1 (nn rfl)) (fun h => absurd h.1 (nn rfl)))).trans (hml)
    have kn_45 : Hid (c_30 41 30 = nl) := (hF_32 41 30 (fun q => q.elim (fun h => absurd h.2 (ni rfl)) (fun h => absurd h (nn rfl)))).trans (hid kn_44)
    have h_46 : c_30 (P + 7) 4 = nl := (hid kn_43)
    have h_47 : c_30 41 30 = nl := (hid kn_45)
    have hA_48 : Ce nl (c_30 (P + 8)) (c_30 52) (c_30 53) := ce_fr hCe (fun j => (hF_32 (P + 8) j (fun q => q.elim (fun h => absurd h.1 (np hP rfl rfl)) (fun h => absurd h (np hP rfl rfl)))).trans (hF_6 (P + 8) j (fun q => q.elim (fun h => absurd h.1 (np hP rfl rfl)) (fun h => absurd h.1 (np hP rfl rfl))))) (fun j => (hF_32 52 j (fun q => q.elim (fun h => absurd h.1 (nn rfl)) (fun h => absurd h (nn rfl)))).trans (hF_6 52 j (fun q => q.elim (fun h => absurd h.1 (nn rfl)) (fun h => absurd h.1 (nn rfl))))) (fun j => (hF_32 53 j (fun q => q.elim (fun h => absurd h.1 (nn rfl)) (fun h => absurd h (nn rfl)))).trans (hF_6 53 j (fun q => q.elim (fun h => absurd h.1 (nn rfl)) (fun h => absurd h.1 (nn rfl)))))
    exact K P Q c_30 1 (by decide) hI_31 ⟨by omega, ub_fr hU (fun j => (hF_32 2 j (fun q => q.elim (fun h => absurd h.1 (nn rfl)) (fun h => absurd h (nn rfl)))).trans (hF_6 2 j (fun q => q.elim (fun h => absurd h.1 (nn rfl)) (fun h => absurd h.1 (nn rfl))))) (fun j => (hF_32 43 j (fun q => q.elim (fun h => absurd h.1 (nn rfl)) (fun h => absurd h (nn rfl)))).trans (hF_6 43 j (fun q => q.elim (fun h => absurd h.1 (nn rfl)) (fun h => absurd h.1 (nn rfl))))), ⟨by omega, ce_le hA_48 (by omega)⟩⟩
  refine bk_inl ?_
  refine v_i2l rfl (by omega) ?_
  refine v_ls rfl rfl (by decide) (by decide) (by decide) ?_
  refine q_goto (t := 21) rfl (by decide) ?_
  refine q_iconst rfl ?_
  refine q_iret rfl rfl ?_
  refine bk_inl ?_
  refine q_istore rfl (by decide) ?_
  refine q_aload_n rfl rfl ?_
  refine q_aload_n rfl rfl ?_
  refine q_iload rfl rfl ?_
  refine q_iconst rfl ?_
  refine v_iadd (v := (i0 : Int) + 1) rfl rfl ?_
  refine v_scr (j := i0 + 1) rfl (by omega) (by omega) hL hx1 ?_
  refine q_aload_n rfl rfl ?_
  refine q_iload rfl rfl ?_
  refine q_iconst rfl ?_
  refine v_iadd (v := (i0 : Int) + 2) rfl rfl ?_
  refine v_scr (j := i0 + 2) rfl (by omega) (by omega) hL hx2 ?_
  have hI_49 := iw_lx (a := 67) (j := 0) (v := y_10) hI_8 (by omega)
  refine v_cv rfl rfl rfl rfl (by decide) ⟨⟨rfl, rfl⟩, by decide, rfl⟩ (Nat.le_of_ble_eq_true rfl) (Nat.le_of_ble_eq_true rfl) (s_214 (a1 := x1) (a2 := x2) hI_49 (show (-2147483648) ≤ x1 ∧ x1 ≤ 2147483647 from ⟨by omega, by omega⟩) (show (-2147483648) ≤ x2 ∧ x2 ≤ 2147483647 from ⟨by omega, by omega⟩) (fun c_50 y_53 hI_51 hF_52 hy_53 => ?_))
  refine bk_inl ?_
  refine q_istore rfl (by decide) ?_
  refine q_goto (t := 1844) rfl (by decide) ?_
  refine Wp_ls [(4, vi (i0 : Int)), (3, .ref 67), (2, .ref 41), (1, .ref 0), (0, .ref a_SC)] (lsub_cons rfl (lsub_cons rfl (lsub_cons rfl (lsub_cons rfl (lsub_cons rfl lsub_nil))))) ?_
  have h_54 := ir_1_3 hI
  have kn_55 : Hid (c_7 1 3 = c 1 3) := hF_9 1 3 (fun q => q.elim (fun h => absurd h.1 (nn rfl)) (fun h => absurd h.1 (nn rfl)))
  have kn_56 : Hid (c_50 1 3 = c 1 3) := (hF_52 1 3 (fun q => q.elim (fun h => absurd h.1 (nn rfl)) (fun h => absurd h (nn rfl)))).trans ((up_c (nn rfl)).trans (hid kn_55))
  have h_57 : c_50 1 3 = c 1 3 := (hid kn_56)
  have h_58 := ir_41_2 hI
  have kn_59 : Hid (c_7 41 2 = c 41 2) := hF_9 41 2 (fun q => q.elim (fun h => absurd h.1 (nn rfl)) (fun h => absurd h.1 (nn rfl)))
  have kn_60 : Hid (c_50 41 2 = c 41 2) := (hF_52 41 2 (fun q => q.elim (fun h => absurd h.2 (ni rfl)) (fun h => absurd h (nn rfl)))).trans ((up_c (nn rfl)).trans (hid kn_59))
  have h_61 : c_50 41 2 = c 41 2 := (hid kn_60)
  have kn_62 : Hid (c_7 (P + 7) 4 = nl) := (hF_9 (P + 7) 4 (fun q => q.elim (fun h => absurd h.1 (np hP rfl rfl)) (fun h => absurd h.1 (np hP rfl rfl)))).trans (hnl)
  have kn_63 : Hid (c_50 (P + 7) 4 = nl) := (hF_52 (P + 7) 4 (fun q => q.elim (fun h => absurd h.1 (np hP rfl rfl)) (fun h => absurd h (np hP rfl rfl)))).trans ((up_c (np hP rfl rfl)).trans (hid kn_62))
  have kn_64 : Hid (c_7 41 30 = nl) := (hF_9 41 30 (fun q => q.elim (fun h => absurd h.1 (nn rfl)) (fun h => absurd h.1 (nn rfl)))).trans (hml)
  have kn_65 : Hid (c_50 41 30 = nl) := (hF_52 41 30 (fun q => q.elim (fun h => absurd h.2 (ni rfl)) (fun h => absurd h (nn rfl)))).trans ((up_c (nn rfl)).trans (hid kn_64))
  have h_66 : c_50 (P + 7) 4 = nl := (hid kn_63)
  have h_67 : c_50 41 30 = nl := (hid kn_65)
  have hA_68 : Ce nl (c_50 (P + 8)) (c_50 52) (c_50 53) := ce_fr hCe (fun j => (hF_52 (P + 8) j (fun q => q.elim (fun h => absurd h.1 (np hP rfl rfl)) (fun h => absurd h (np hP rfl rfl)))).trans ((up_c (np hP rfl rfl)).trans (hF_9 (P + 8) j (fun q => q.elim (fun h => absurd h.1 (np hP rfl rfl)) (fun h => absurd h.1 (np hP rfl rfl)))))) (fun j => (hF_52 52 j (fun q => q.elim (fun h => absurd h.1 (nn rfl)) (fun h => absurd h (nn rfl)))).trans ((up_c (nn rfl)).trans (hF_9 52 j (fun q => q.elim (fun h => absurd h.1 (nn rfl)) (fun h => absurd h.1 (nn rfl)))))) (fun j => (hF_52 53 j (fun q => q.elim (fun h => absurd h.1 (nn rfl)) (fun h => absurd h (nn rfl)))).trans ((up_c (nn rfl)).trans (hF_9 53 j (fun q => q.elim (fun h => absurd h.1 (nn rfl)) (fun h => absurd h.1 (nn rfl))))))
  exact K P Q c_50 0 (by decide) hI_51 ⟨by omega, ub_fr hU (fun j => (hF_52 2 j (fun q => q.elim (fun h => absurd h.1 (nn rfl)) (fun h => absurd h (nn rfl)))).trans ((up_c (nn rfl)).trans (hF_9 2 j (fun q => q.elim (fun h => absurd h.1 (nn rfl)) (fun h => absurd h.1 (nn rfl)))))) (fun j => (hF_52 43 j (fun q => q.elim (fun h => absurd h.1 (nn rfl)) (fun h => absurd h (nn rfl)))).trans ((up_c (nn rfl)).trans (hF_9 43 j (fun q => q.elim (fun h => absurd h.1 (nn rfl)) (fun h => absurd h.1 (nn rfl)))))), ⟨by omega, ce_le hA_68 (by omega)⟩⟩

set_option maxRecDepth 100000 in
set_option maxHeartbeats 4000000 in
theorem o_11 {xs : Nat → Int32} {L i0 d nc ns P Q : Nat} {c : ME} {Z : AR → Prop} (hi : i0 + 8 ≤ L) (hL : L ≤ 100000) (hI : Iv 0 (-1) P Q c) (hR : Rq P c) (K : ∀ (P2 Q2 : Nat) (c2 : ME) (e : Nat), e ≤ 1 → Iv 0 (-1) P2 Q2 c2 → (Rq P2 c2) → Wp (a_scr L xs) (d + 90) 296 1844 [(4, vi (i0 : Int)), (3, .ref 67), (2, .ref 41), (1, .ref 0), (0, .ref a_SC)] [] (Wd P2 Q2 P2 P2 c2) (nc + e) (ns + 6 * e) Z) : Wp (a_scr L xs) (d + 90) 296 575 [(4, vi (i0 : Int)), (3, .ref 67), (2, .ref 41), (1, .ref 0), (0, .ref a_SC)] [] (Wd P Q P P c) nc ns Z := by
  obtain ⟨x1, hx1⟩ : ∃ z, (xs (i0 + 1)).toInt = z := ⟨_, rfl⟩
  have x1r := c_rng (xs (i0 + 1))
  rw [hx1] at x1r
  obtain ⟨x2, hx2⟩ : ∃ z, (xs (i0 + 2)).toInt = z := ⟨_, rfl⟩
  have x2r := c_rng (xs (i0 + 2))
  rw [hx2] at x2r
  obtain ⟨x3, hx3⟩ : ∃ z, (xs (i0 + 3)).toInt = z := ⟨_, rfl⟩
  have x3r := c_rng (xs (i0 + 3))
  rw [hx3] at x3r
  obtain ⟨x4, hx4⟩ : ∃ z, (xs (i0 + 4)).toInt = z := ⟨_, rfl⟩
  have x4r := c_rng (xs (i0 + 4))
  rw [hx4] at x4r
  obtain ⟨x5, hx5⟩ : ∃ z, (xs (i0 + 5)).toInt = z := ⟨_, rfl⟩
  have x5r := c_rng (xs (i0 + 5))
  rw [hx5] at x5r
  obtain ⟨x6, hx6⟩ : ∃ z, (xs (i0 + 6)).toInt = z := ⟨_, rfl⟩
  have x6r := c_rng (xs (i0 + 6))
  rw [hx6] at x6r
  obtain ⟨x7, hx7⟩ : ∃ z, (xs (i0 + 7)).toInt = z := ⟨_, rfl⟩
  have x7r := c_rng (xs (i0 + 7))
  rw [hx7] at x7r
  have hT := rl_t hR
  have hU := rl_u hR
  obtain ⟨nl, hnl⟩ : ∃ z, c (P + 7) 4 = z := ⟨_, rfl⟩
  have hml : c 41 30 = nl := (rl_law hR).1.symm.trans hnl
  have hlr := ir_41_30 hI
  rw [hml] at hlr
  have hCe : Ce nl (c (P + 8)) (c 52) (c 53) := ce_le (rl_law hR).2 (by omega)
  have hHw : Hw (c 52) (c 53) nl := by rw [← hml]; exact iv_hc hI
  have hP := iv_P hI
  have hQ := iv_Q hI
  refine q_aload_n rfl rfl ?_
  refine q_aload_n rfl rfl ?_
  refine q_iload rfl rfl ?_
  refine q_iconst rfl ?_
  refine v_iadd (v := (i0 : Int) + 1) rfl rfl ?_
  refine v_scr (j := i0 + 1) rfl (by omega) (by omega) hL hx1 ?_
  refine q_aload_n rfl rfl ?_
  refine q_iload rfl rfl ?_
  refine q_iconst rfl ?_
  refine v_iadd (v := (i0 : Int) + 2) rfl rfl ?_
  refine v_scr (j := i0 + 2) rfl (by omega) (by omega) hL hx2 ?_
  refine q_aload_n rfl rfl ?_
  refine q_call rfl rfl rfl rfl ?_
  refine q_aload_n rfl rfl ?_
  refine q_iconst rfl ?_
  refine q_aload_n rfl rfl ?_
  refine q_iload_n rfl rfl ?_
  refine q_iload_n rfl rfl ?_
  refine v_cv rfl rfl rfl rfl (by decide) ⟨⟨rfl, rfl⟩, by decide, rfl⟩ (Nat.le_of_ble_eq_true rfl) (Nat.le_of_ble_eq_true rfl) (s_97 (a1 := x1) (a2 := x2) hI (show (-2147483648) ≤ x1 ∧ x1 ≤ 2147483647 from ⟨by omega, by omega⟩) (show (-2147483648) ≤ x2 ∧ x2 ≤ 2147483647 from ⟨by omega, by omega⟩) (fun c_1 hI_2 hF_3 => ?_) (fun c_4 hI_5 hF_6 => ?_) (fun c_7 y_10 hI_8 hF_9 hy_10 => ?_))
  · skip
    refine bk_thr (z := Int32.ofInt 1) rfl ⟨_, _, rfl⟩ rfl ?_
    refine bk_inl ?_
    refine q_istore rfl (by decide) ?_
    refine q_aload_n rfl rfl ?_
    refine q_aload_n rfl rfl ?_
    refine q_iload rfl rfl ?_
    refine q_iconst rfl ?_
    refine v_iadd (v := (i0 : Int) + 1) rfl rfl ?_
    refine v_scr (j := i0 + 1) rfl (by omega) (by omega) hL hx1 ?_
    refine q_aload_n rfl rfl ?_
    refine q_iload rfl rfl ?_
    refine q_iconst rfl ?_
    refine v_iadd (v := (i0 : Int) + 2) rfl rfl ?_
    refine v_scr (j := i0 + 2) rfl (by omega) (by omega) hL hx2 ?_
    refine v_cv rfl rfl rfl rfl (by decide) ⟨⟨rfl, rfl⟩, by decide, rfl⟩ (Nat.le_of_ble_eq_true rfl) (Nat.le_of_ble_eq_true rfl) (s_215 (a1 := x1) (a2 := x2) hI_2 (show (-2147483648) ≤ x1 ∧ x1 ≤ 2147483647 from ⟨by omega, by omega⟩) (show (-2147483648) ≤ x2 ∧ x2 ≤ 2147483647 from ⟨by omega, by omega⟩) (fun c_11 y_14 hI_12 hF_13 hy_14 => ?_))
    refine bk_inl ?_
    refine q_istore rfl (by decide) ?_
    refine q_goto (t := 1844) rfl (by decide) ?_
    refine Wp_ls [(4, vi (i0 : Int)), (3, .ref 67), (2, .ref 41), (1, .ref 0), (0, .ref a_SC)] (lsub_cons rfl (lsub_cons rfl (lsub_cons rfl (lsub_cons rfl (lsub_cons rfl lsub_nil))))) ?_
    have h_15 := ir_1_3 hI
    have kn_16 : Hid (c_1 1 3 = c 1 3) := hF_3 1 3 (fun q => q.elim (fun h => absurd h.1 (nn rfl)) (fun h => absurd h.1 (nn rfl)))
    have kn_17 : Hid (c_11 1 3 = c 1 3) := (hF_13 1 3 (fun q => q.elim (fun h => absurd h.1 (nn rfl)) (fun h => absurd h (nn rfl)))).trans (hid kn_16)
    have h_18 : c_11 1 3 = c 1 3 := (hid kn_17)
    have h_19 := ir_41_2 hI
    have kn_20 : Hid (c_1 41 2 = c 41 2) := hF_3 41 2 (fun q => q.elim (fun h => absurd h.1 (nn rfl)) (fun h => absurd h.1 (nn rfl)))
    have kn_21 : Hid (c_11 41 2 = c 41 2) := (hF_13 41 2 (fun q => q.elim (fun h => absurd h.2 (ni rfl)) (fun h => absurd h (nn rfl)))).trans (hid kn_20)
    have h_22 : c_11 41 2 = c 41 2 := (hid kn_21)
    have kn_23 : Hid (c_1 (P + 7) 4 = nl) := (hF_3 (P + 7) 4 (fun q => q.elim (fun h => absurd h.1 (np hP rfl rfl)) (fun h => absurd h.1 (np hP rfl rfl)))).trans (hnl)
    have kn_24 : Hid (c_11 (P + 7) 4 = nl) := (hF_13 (P + 7) 4 (fun q => q.elim (fun h => absurd h.1 (np hP rfl rfl)) (fun h => absurd h (np hP rfl rfl)))).trans (hid kn_23)
    have kn_25 : Hid (c_1 41 30 = nl) := (hF_3 41 30 (fun q => q.elim (fun h => absurd h.1 (nn rfl)) (fun h => absurd h.1 (nn rfl)))).trans (hml)
    have kn_26 : Hid (c_11 41 30 = nl) := (hF_13 41 30 (fun q => q.elim (fun h => absurd h.2 (ni rfl)) (fun h => absurd h (nn rfl)))).trans (hid kn_25)
    have h_27 : c_11 (P + 7) 4 = nl := (hid kn_24)
    have h_28 : c_11 41 30 = nl := (hid kn_26)
    have hA_29 : Ce nl (c_11 (P + 8)) (c_11 52) (c_11 53) := ce_fr hCe (fun j => (hF_13 (P + 8) j (fun q => q.elim (fun h => absurd h.1 (np hP rfl rfl)) (fun h => absurd h (np hP rfl rfl)))).trans (hF_3 (P + 8) j (fun q => q.elim (fun h => absurd h.1 (np hP rfl rfl)) (fun h => absurd h.1 (np hP rfl rfl))))) (fun j => (hF_13 52 j (fun q => q.elim (fun h => absurd h.1 (nn rfl)) (fun h => absurd h (nn rfl)))).trans (hF_3 52 j (fun q => q.elim (fun h => absurd h.1 (nn rfl)) (fun h => absurd h.1 (nn rfl))))) (fun j => (hF_13 53 j (fun q => q.elim (fun h => absurd h.1 (nn rfl)) (fun h => absurd h (nn rfl)))).trans (hF_3 53 j (fun q => q.elim (fun h => absurd h.1 (nn rfl)) (fun h => absurd h.1 (nn rfl)))))
    exact K P Q c_11 1 (by decide) hI_12 ⟨by omega, ub_fr hU (fun j => (hF_13 2 j (fun q => q.elim (fun h => absurd h.1 (nn rfl)) (fun h => absurd h (nn rfl)))).trans (hF_3 2 j (fun q => q.elim (fun h => absurd h.1 (nn rfl)) (fun h => absurd h.1 (nn rfl))))) (fun j => (hF_13 43 j (fun q => q.elim (fun h => absurd h.1 (nn rfl)) (fun h => absurd h (nn rfl)))).trans (hF_3 43 j (fun q => q.elim (fun h => absurd h.1 (nn rfl)) (fun h => absurd h.1 (nn rfl))))), ⟨by omega, ce_le hA_29 (by omega)⟩⟩
  · skip
    refine bk_thr (z := Int32.ofInt 2) rfl ⟨_, _, rfl⟩ rfl ?_
    refine bk_inl ?_
    refine q_istore rfl (by decide) ?_
    refine q_aload_n rfl rfl ?_
    refine q_aload_n rfl rfl ?_
    refine q_iload rfl rfl ?_
    refine q_iconst rfl ?_
    refine v_iadd (v := (i0 : Int) + 1) rfl rfl ?_
    refine v_scr (j := i0 + 1) rfl (by omega) (by omega) hL hx1 ?_
    refine q_aload_n rfl rfl ?_
    refine q_iload rfl rfl ?_
    refine q_iconst rfl ?_
    refine v_iadd (v := (i0 : Int) + 2) rfl rfl ?_
    refine v_scr (j := i0 + 2) rfl (by omega) (by omega) hL hx2 ?_
    refine v_cv rfl rfl rfl rfl (by decide) ⟨⟨rfl, rfl⟩, by decide, rfl⟩ (Nat.le_of_ble_eq_true rfl) (Nat.le_of_ble_eq_true rfl) (s_215 (a1 := x1) (a2 := x2) hI_5 (show (-2147483648) ≤ x1 ∧ x1 ≤ 2147483647 from ⟨by omega, by omega⟩) (show (-2147483648) ≤ x2 ∧ x2 ≤ 2147483647 from ⟨by omega, by omega⟩) (fun c_30 y_33 hI_31 hF_32 hy_33 => ?_))
    refine bk_inl ?_
    refine q_istore rfl (by decide) ?_
    refine q_goto (t := 1844) rfl (by decide) ?_
    refine Wp_ls [(4, vi (i0 : Int)), (3, .ref 67), (2, .ref 41), (1, .ref 0), (0, .ref a_SC)] (lsub_cons rfl (lsub_cons rfl (lsub_cons rfl (lsub_cons rfl (lsub_cons rfl lsub_nil))))) ?_
    have h_34 := ir_1_3 hI
    have kn_35 : Hid (c_4 1 3 = c 1 3) := hF_6 1 3 (fun q => q.elim (fun h => absurd h.1 (nn rfl)) (fun h => absurd h.1 (nn rfl)))
    have kn_36 : Hid (c_30 1 3 = c 1 3) := (hF_32 1 3 (fun q => q.elim (fun h => absurd h.1 (nn rfl)) (fun h => absurd h (nn rfl)))).trans (hid kn_35)
    have h_37 : c_30 1 3 = c 1 3 := (hid kn_36)
    have h_38 := ir_41_2 hI
    have kn_39 : Hid (c_4 41 2 = c 41 2) := hF_6 41 2 (fun q => q.elim (fun h => absurd h.1 (nn rfl)) (fun h => absurd h.1 (nn rfl)))
    have kn_40 : Hid (c_30 41 2 = c 41 2) := (hF_32 41 2 (fun q => q.elim (fun h => absurd h.2 (ni rfl)) (fun h => absurd h (nn rfl)))).trans (hid kn_39)
    have h_41 : c_30 41 2 = c 41 2 := (hid kn_40)
    have kn_42 : Hid (c_4 (P + 7) 4 = nl) := (hF_6 (P + 7) 4 (fun q => q.elim (fun h => absurd h.1 (np hP rfl rfl)) (fun h => absurd h.1 (np hP rfl rfl)))).trans (hnl)
    have kn_43 : Hid (c_30 (P + 7) 4 = nl) := (hF_32 (P + 7) 4 (fun q => q.elim (fun h => absurd h.1 (np hP rfl rfl)) (fun h => absurd h (np hP rfl rfl)))).trans (hid kn_42)
    have kn_44 : Hid (c_4 41 30 = nl) := (hF_6 41 30 (fun q => q.elim (fun h => absurd h.1 (nn rfl)) (fun h => absurd h.1 (nn rfl)))).trans (hml)
    have kn_45 : Hid (c_30 41 30 = nl) := (hF_32 41 30 (fun q => q.elim (fun h => absurd h.2 (ni rfl)) (fun h => absurd h (nn rfl)))).trans (hid kn_44)
    have h_46 : c_30 (P + 7) 4 = nl := (hid kn_43)
    have h_47 : c_30 41 30 = nl := (hid kn_45)
    have hA_48 : Ce nl (c_30 (P + 8)) (c_30 52) (c_30 53) := ce_fr hCe (fun j => (hF_32 (P + 8) j (fun q => q.elim (fun h => absurd h.1 (np hP rfl rfl)) (fun h => absurd h (np hP rfl rfl)))).trans (hF_6 (P + 8) j (fun q => q.elim (fun h => absurd h.1 (np hP rfl rfl)) (fun h => absurd h.1 (np hP rfl rfl))))) (fun j => (hF_32 52 j (fun q => q.elim (fun h => absurd h.1 (nn rfl)) (fun h => absurd h (nn rfl)))).trans (hF_6 52 j (fun q => q.elim (fun h => absurd h.1 (nn rfl)) (fun h => absurd h.1 (nn rfl))))) (fun j => (hF_32 53 j (fun q => q.elim (fun h => absurd h.1 (nn rfl)) (fun h => absurd h (nn rfl)))).trans (hF_6 53 j (fun q => q.elim (fun h => absurd h.1 (nn rfl)) (fun h => absurd h.1 (nn rfl)))))
    exact K P Q c_30 1 (by decide) hI_31 ⟨by omega, ub_fr hU (fun j => (hF_32 2 j (fun q => q.elim (fun h => absurd h.1 (nn rfl)) (fun h => absurd h (nn rfl)))).trans (hF_6 2 j (fun q => q.elim (fun h => absurd h.1 (nn rfl)) (fun h => absurd h.1 (nn rfl))))) (fun j => (hF_32 43 j (fun q => q.elim (fun h => absurd h.1 (nn rfl)) (fun h => absurd h (nn rfl)))).trans (hF_6 43 j (fun q => q.elim (fun h => absurd h.1 (nn rfl)) (fun h => absurd h.1 (nn rfl))))), ⟨by omega, ce_le hA_48 (by omega)⟩⟩
  refine bk_inl ?_
  refine v_i2l rfl (by omega) ?_
  refine v_ls rfl rfl (by decide) (by decide) (by decide) ?_
  refine q_goto (t := 21) rfl (by decide) ?_
  refine q_iconst rfl ?_
  refine q_iret rfl rfl ?_
  refine bk_inl ?_
  refine q_istore rfl (by decide) ?_
  refine q_aload_n rfl rfl ?_
  refine q_aload_n rfl rfl ?_
  refine q_iload rfl rfl ?_
  refine q_iconst rfl ?_
  refine v_iadd (v := (i0 : Int) + 1) rfl rfl ?_
  refine v_scr (j := i0 + 1) rfl (by omega) (by omega) hL hx1 ?_
  refine q_aload_n rfl rfl ?_
  refine q_iload rfl rfl ?_
  refine q_iconst rfl ?_
  refine v_iadd (v := (i0 : Int) + 2) rfl rfl ?_
  refine v_scr (j := i0 + 2) rfl (by omega) (by omega) hL hx2 ?_
  have hI_49 := iw_lx (a := 67) (j := 0) (v := y_10) hI_8 (by omega)
  refine v_cv rfl rfl rfl rfl (by decide) ⟨⟨rfl, rfl⟩, by decide, rfl⟩ (Nat.le_of_ble_eq_true rfl) (Nat.le_of_ble_eq_true rfl) (s_215 (a1 := x1) (a2 := x2) hI_49 (show (-2147483648) ≤ x1 ∧ x1 ≤ 2147483647 from ⟨by omega, by omega⟩) (show (-2147483648) ≤ x2 ∧ x2 ≤ 2147483647 from ⟨by omega, by omega⟩) (fun c_50 y_53 hI_51 hF_52 hy_53 => ?_))
  refine bk_inl ?_
  refine q_istore rfl (by decide) ?_
  refine q_goto (t := 1844) rfl (by decide) ?_
  refine Wp_ls [(4, vi (i0 : Int)), (3, .ref 67), (2, .ref 41), (1, .ref 0), (0, .ref a_SC)] (lsub_cons rfl (lsub_cons rfl (lsub_cons rfl (lsub_cons rfl (lsub_cons rfl lsub_nil))))) ?_
  have h_54 := ir_1_3 hI
  have kn_55 : Hid (c_7 1 3 = c 1 3) := hF_9 1 3 (fun q => q.elim (fun h => absurd h.1 (nn rfl)) (fun h => absurd h.1 (nn rfl)))
  have kn_56 : Hid (c_50 1 3 = c 1 3) := (hF_52 1 3 (fun q => q.elim (fun h => absurd h.1 (nn rfl)) (fun h => absurd h (nn rfl)))).trans ((up_c (nn rfl)).trans (hid kn_55))
  have h_57 : c_50 1 3 = c 1 3 := (hid kn_56)
  have h_58 := ir_41_2 hI
  have kn_59 : Hid (c_7 41 2 = c 41 2) := hF_9 41 2 (fun q => q.elim (fun h => absurd h.1 (nn rfl)) (fun h => absurd h.1 (nn rfl)))
  have kn_60 : Hid (c_50 41 2 = c 41 2) := (hF_52 41 2 (fun q => q.elim (fun h => absurd h.2 (ni rfl)) (fun h => absurd h (nn rfl)))).trans ((up_c (nn rfl)).trans (hid kn_59))
  have h_61 : c_50 41 2 = c 41 2 := (hid kn_60)
  have kn_62 : Hid (c_7 (P + 7) 4 = nl) := (hF_9 (P + 7) 4 (fun q => q.elim (fun h => absurd h.1 (np hP rfl rfl)) (fun h => absurd h.1 (np hP rfl rfl)))).trans (hnl)
  have kn_63 : Hid (c_50 (P + 7) 4 = nl) := (hF_52 (P + 7) 4 (fun q => q.elim (fun h => absurd h.1 (np hP rfl rfl)) (fun h => absurd h (np hP rfl rfl)))).trans ((up_c (np hP rfl rfl)).trans (hid kn_62))
  have kn_64 : Hid (c_7 41 30 = nl) := (hF_9 41 30 (fun q => q.elim (fun h => absurd h.1 (nn rfl)) (fun h => absurd h.1 (nn rfl)))).trans (hml)
  have kn_65 : Hid (c_50 41 30 = nl) := (hF_52 41 30 (fun q => q.elim (fun h => absurd h.2 (ni rfl)) (fun h => absurd h (nn rfl)))).trans ((up_c (nn rfl)).trans (hid kn_64))
  have h_66 : c_50 (P + 7) 4 = nl := (hid kn_63)
  have h_67 : c_50 41 30 = nl := (hid kn_65)
  have hA_68 : Ce nl (c_50 (P + 8)) (c_50 52) (c_50 53) := ce_fr hCe (fun j => (hF_52 (P + 8) j (fun q => q.elim (fun h => absurd h.1 (np hP rfl rfl)) (fun h => absurd h (np hP rfl rfl)))).trans ((up_c (np hP rfl rfl)).trans (hF_9 (P + 8) j (fun q => q.elim (fun h => absurd h.1 (np hP rfl rfl)) (fun h => absurd h.1 (np hP rfl rfl)))))) (fun j => (hF_52 52 j (fun q => q.elim (fun h => absurd h.1 (nn rfl)) (fun h => absurd h (nn rfl)))).trans ((up_c (nn rfl)).trans (hF_9 52 j (fun q => q.elim (fun h => absurd h.1 (nn rfl)) (fun h => absurd h.1 (nn rfl)))))) (fun j => (hF_52 53 j (fun q => q.elim (fun h => absurd h.1 (nn rfl)) (fun h => absurd h (nn rfl)))).trans ((up_c (nn rfl)).trans (hF_9 53 j (fun q => q.elim (fun h => absurd h.1 (nn rfl)) (fun h => absurd h.1 (nn rfl))))))
  exact K P Q c_50 0 (by decide) hI_51 ⟨by omega, ub_fr hU (fun j => (hF_52 2 j (fun q => q.elim (fun h => absurd h.1 (nn rfl)) (fun h => absurd h (nn rfl)))).trans ((up_c (nn rfl)).trans (hF_9 2 j (fun q => q.elim (fun h => absurd h.1 (nn rfl)) (fun h => absurd h.1 (nn rfl)))))) (fun j => (hF_52 43 j (fun q => q.elim (fun h => absurd h.1 (nn rfl)) (fun h => absurd h (nn rfl)))).trans ((up_c (nn rfl)).trans (hF_9 43 j (fun q => q.elim (fun h => absurd h.1 (nn rfl)) (fun h => absurd h.1 (nn rfl)))))), ⟨by omega, ce_le hA_68 (by omega)⟩⟩

set_option maxRecDepth 100000 in
set_option maxHeartbeats 4000000 in
theorem o_12 {xs : Nat → Int32} {L i0 d nc ns P Q : Nat} {c : ME} {Z : AR → Prop} (hi : i0 + 8 ≤ L) (hL : L ≤ 100000) (hI : Iv 0 (-1) P Q c) (hR : Rq P c) (K : ∀ (P2 Q2 : Nat) (c2 : ME) (e : Nat), e ≤ 1 → Iv 0 (-1) P2 Q2 c2 → (Rq P2 c2) → Wp (a_scr L xs) (d + 90) 296 1844 [(4, vi (i0 : Int)), (3, .ref 67), (2, .ref 41), (1, .ref 0), (0, .ref a_SC)] [] (Wd P2 Q2 P2 P2 c2) (nc + e) (ns + 6 * e) Z) : Wp (a_scr L xs) (d + 90) 296 615 [(4, vi (i0 : Int)), (3, .ref 67), (2, .ref 41), (1, .ref 0), (0, .ref a_SC)] [] (Wd P Q P P c) nc ns Z := by
  obtain ⟨x1, hx1⟩ : ∃ z, (xs (i0 + 1)).toInt = z := ⟨_, rfl⟩
  have x1r := c_rng (xs (i0 + 1))
  rw [hx1] at x1r
  obtain ⟨x2, hx2⟩ : ∃ z, (xs (i0 + 2)).toInt = z := ⟨_, rfl⟩
  have x2r := c_rng (xs (i0 + 2))
  rw [hx2] at x2r
  obtain ⟨x3, hx3⟩ : ∃ z, (xs (i0 + 3)).toInt = z := ⟨_, rfl⟩
  have x3r := c_rng (xs (i0 + 3))
  rw [hx3] at x3r
  obtain ⟨x4, hx4⟩ : ∃ z, (xs (i0 + 4)).toInt = z := ⟨_, rfl⟩
  have x4r := c_rng (xs (i0 + 4))
  rw [hx4] at x4r
  obtain ⟨x5, hx5⟩ : ∃ z, (xs (i0 + 5)).toInt = z := ⟨_, rfl⟩
  have x5r := c_rng (xs (i0 + 5))
  rw [hx5] at x5r
  obtain ⟨x6, hx6⟩ : ∃ z, (xs (i0 + 6)).toInt = z := ⟨_, rfl⟩
  have x6r := c_rng (xs (i0 + 6))
  rw [hx6] at x6r
  obtain ⟨x7, hx7⟩ : ∃ z, (xs (i0 + 7)).toInt = z := ⟨_, rfl⟩
  have x7r := c_rng (xs (i0 + 7))
  rw [hx7] at x7r
  have hT := rl_t hR
  have hU := rl_u hR
  obtain ⟨nl, hnl⟩ : ∃ z, c (P + 7) 4 = z := ⟨_, rfl⟩
  have hml : c 41 30 = nl := (rl_law hR).1.symm.trans hnl
  have hlr := ir_41_30 hI
  rw [hml] at hlr
  have hCe : Ce nl (c (P + 8)) (c 52) (c 53) := ce_le (rl_law hR).2 (by omega)
  have hHw : Hw (c 52) (c 53) nl := by rw [← hml]; exact iv_hc hI
  have hP := iv_P hI
  have hQ := iv_Q hI
  refine q_aload_n rfl rfl ?_
  refine q_aload_n rfl rfl ?_
  refine q_iload rfl rfl ?_
  refine q_iconst rfl ?_
  refine v_iadd (v := (i0 : Int) + 1) rfl rfl ?_
  refine v_scr (j := i0 + 1) rfl (by omega) (by omega) hL hx1 ?_
  refine q_aload_n rfl rfl ?_
  refine q_call rfl rfl rfl rfl ?_
  refine q_aload_n rfl rfl ?_
  refine q_iconst rfl ?_
  refine q_aload_n rfl rfl ?_
  refine q_iload_n rfl rfl ?_
  refine v_cv rfl rfl rfl rfl (by decide) ⟨⟨rfl, rfl⟩, by decide, rfl⟩ (Nat.le_of_ble_eq_true rfl) (Nat.le_of_ble_eq_true rfl) (s_103 (a1 := x1) hI (show (-2147483648) ≤ x1 ∧ x1 ≤ 2147483647 from ⟨by omega, by omega⟩) (fun c_1 hI_2 hF_3 => ?_) (fun c_4 y_7 hI_5 hF_6 hy_7 => ?_))
  · skip
    refine bk_thr (z := Int32.ofInt 1) rfl ⟨_, _, rfl⟩ rfl ?_
    refine bk_inl ?_
    refine q_istore rfl (by decide) ?_
    refine q_aload_n rfl rfl ?_
    refine q_aload_n rfl rfl ?_
    refine q_iload rfl rfl ?_
    refine q_iconst rfl ?_
    refine v_iadd (v := (i0 : Int) + 1) rfl rfl ?_
    refine v_scr (j := i0 + 1) rfl (by omega) (by omega) hL hx1 ?_
    refine v_cv rfl rfl rfl rfl (by decide) ⟨⟨rfl, rfl⟩, by decide, rfl⟩ (Nat.le_of_ble_eq_true rfl) (Nat.le_of_ble_eq_true rfl) (s_216 (a1 := x1) hI_2 (show (-2147483648) ≤ x1 ∧ x1 ≤ 2147483647 from ⟨by omega, by omega⟩) (fun c_8 y_11 hI_9 hF_10 hy_11 => ?_))
    refine bk_inl ?_
    refine q_istore rfl (by decide) ?_
    refine q_goto (t := 1844) rfl (by decide) ?_
    refine Wp_ls [(4, vi (i0 : Int)), (3, .ref 67), (2, .ref 41), (1, .ref 0), (0, .ref a_SC)] (lsub_cons rfl (lsub_cons rfl (lsub_cons rfl (lsub_cons rfl (lsub_cons rfl lsub_nil))))) ?_
    have h_12 := ir_1_3 hI
    have kn_13 : Hid (c_1 1 3 = c 1 3) := hF_3 1 3 (fun q => q.elim (fun h => absurd h.1 (nn rfl)) (fun q => q.elim (fun h => absurd h (pn hP rfl rfl)) (fun h => absurd h (pn hP rfl rfl))))
    have kn_14 : Hid (c_8 1 3 = c 1 3) := (hF_10 1 3 (fun q => q.elim (fun h => absurd h.1 (nn rfl)) (fun q => q.elim (fun h => absurd h (nn rfl)) (fun q => q.elim (fun h => absurd h (nn rfl)) (fun q => q.elim (fun h => absurd h (nn rfl)) (fun h => absurd h (nn rfl))))))).trans (hid kn_13)
    have h_15 : c_8 1 3 = c 1 3 := (hid kn_14)
    have h_16 := ir_41_2 hI
    have kn_17 : Hid (c_1 41 2 = c 41 2) := hF_3 41 2 (fun q => q.elim (fun h => absurd h.1 (nn rfl)) (fun q => q.elim (fun h => absurd h (pn hP rfl rfl)) (fun h => absurd h (pn hP rfl rfl))))
    have kn_18 : Hid (c_8 41 2 = c 41 2) := (hF_10 41 2 (fun q => q.elim (fun h => absurd h.2 (ni rfl)) (fun q => q.elim (fun h => absurd h (nn rfl)) (fun q => q.elim (fun h => absurd h (nn rfl)) (fun q => q.elim (fun h => absurd h (nn rfl)) (fun h => absurd h (nn rfl))))))).trans (hid kn_17)
    have h_19 : c_8 41 2 = c 41 2 := (hid kn_18)
    have kn_20 : Hid (c_1 (P + 7) 4 = nl) := (hF_3 (P + 7) 4 (fun q => q.elim (fun h => absurd h.1 (np hP rfl rfl)) (fun q => q.elim (fun h => absurd h (pp rfl)) (fun h => absurd h (pp rfl))))).trans (hnl)
    have kn_21 : Hid (c_8 (P + 7) 4 = nl) := (hF_10 (P + 7) 4 (fun q => q.elim (fun h => absurd h.1 (np hP rfl rfl)) (fun q => q.elim (fun h => absurd h (np hP rfl rfl)) (fun q => q.elim (fun h => absurd h (np hP rfl rfl)) (fun q => q.elim (fun h => absurd h (np hP rfl rfl)) (fun h => absurd h (np hP rfl rfl))))))).trans (hid kn_20)
    have kn_22 : Hid (c_1 41 30 = nl) := (hF_3 41 30 (fun q => q.elim (fun h => absurd h.1 (nn rfl)) (fun q => q.elim (fun h => absurd h (pn hP rfl rfl)) (fun h => absurd h (pn hP rfl rfl))))).trans (hml)
    have kn_23 : Hid (c_8 41 30 = nl) := (hF_10 41 30 (fun q => q.elim (fun h => absurd h.2 (ni rfl)) (fun q => q.elim (fun h => absurd h (nn rfl)) (fun q => q.elim (fun h => absurd h (nn rfl)) (fun q => q.elim (fun h => absurd h (nn rfl)) (fun h => absurd h (nn rfl))))))).trans (hid kn_22)
    have h_24 : c_8 (P + 7) 4 = nl := (hid kn_21)
    have h_25 : c_8 41 30 = nl := (hid kn_23)
    have hA_26 : Ce nl (c_8 (P + 8)) (c_8 52) (c_8 53) := ce_fr hCe (fun j => (hF_10 (P + 8) j (fun q => q.elim (fun h => absurd h.1 (np hP rfl rfl)) (fun q => q.elim (fun h => absurd h (np hP rfl rfl)) (fun q => q.elim (fun h => absurd h (np hP rfl rfl)) (fun q => q.elim (fun h => absurd h (np hP rfl rfl)) (fun h => absurd h (np hP rfl rfl))))))).trans (hF_3 (P + 8) j (fun q => q.elim (fun h => absurd h.1 (np hP rfl rfl)) (fun q => q.elim (fun h => absurd h (pp rfl)) (fun h => absurd h (pp rfl)))))) (fun j => (hF_10 52 j (fun q => q.elim (fun h => absurd h.1 (nn rfl)) (fun q => q.elim (fun h => absurd h (nn rfl)) (fun q => q.elim (fun h => absurd h (nn rfl)) (fun q => q.elim (fun h => absurd h (nn rfl)) (fun h => absurd h (nn rfl))))))).trans (hF_3 52 j (fun q => q.elim (fun h => absurd h.1 (nn rfl)) (fun q => q.elim (fun h => absurd h (pn hP rfl rfl)) (fun h => absurd h (pn hP rfl rfl)))))) (fun j => (hF_10 53 j (fun q => q.elim (fun h => absurd h.1 (nn rfl)) (fun q => q.elim (fun h => absurd h (nn rfl)) (fun q => q.elim (fun h => absurd h (nn rfl)) (fun q => q.elim (fun h => absurd h (nn rfl)) (fun h => absurd h (nn rfl))))))).trans (hF_3 53 j (fun q => q.elim (fun h => absurd h.1 (nn rfl)) (fun q => q.elim (fun h => absurd h (pn hP rfl rfl)) (fun h => absurd h (pn hP rfl rfl))))))
    exact K P Q c_8 1 (by decide) hI_9 ⟨by omega, ub_fr hU (fun j => (hF_10 2 j (fun q => q.elim (fun h => absurd h.1 (nn rfl)) (fun q => q.elim (fun h => absurd h (nn rfl)) (fun q => q.elim (fun h => absurd h (nn rfl)) (fun q => q.elim (fun h => absurd h (nn rfl)) (fun h => absurd h (nn rfl))))))).trans (hF_3 2 j (fun q => q.elim (fun h => absurd h.1 (nn rfl)) (fun q => q.elim (fun h => absurd h (pn hP rfl rfl)) (fun h => absurd h (pn hP rfl rfl)))))) (fun j => (hF_10 43 j (fun q => q.elim (fun h => absurd h.1 (nn rfl)) (fun q => q.elim (fun h => absurd h (nn rfl)) (fun q => q.elim (fun h => absurd h (nn rfl)) (fun q => q.elim (fun h => absurd h (nn rfl)) (fun h => absurd h (nn rfl))))))).trans (hF_3 43 j (fun q => q.elim (fun h => absurd h.1 (nn rfl)) (fun q => q.elim (fun h => absurd h (pn hP rfl rfl)) (fun h => absurd h (pn hP rfl rfl)))))), ⟨by omega, ce_le hA_26 (by omega)⟩⟩
  refine bk_inl ?_
  refine v_i2l rfl (by omega) ?_
  refine v_ls rfl rfl (by decide) (by decide) (by decide) ?_
  refine q_goto (t := 15) rfl (by decide) ?_
  refine q_iconst rfl ?_
  refine q_iret rfl rfl ?_
  refine bk_inl ?_
  refine q_istore rfl (by decide) ?_
  refine q_aload_n rfl rfl ?_
  refine q_aload_n rfl rfl ?_
  refine q_iload rfl rfl ?_
  refine q_iconst rfl ?_
  refine v_iadd (v := (i0 : Int) + 1) rfl rfl ?_
  refine v_scr (j := i0 + 1) rfl (by omega) (by omega) hL hx1 ?_
  have hI_27 := iw_lx (a := 67) (j := 0) (v := y_7) hI_5 (by omega)
  refine v_cv rfl rfl rfl rfl (by decide) ⟨⟨rfl, rfl⟩, by decide, rfl⟩ (Nat.le_of_ble_eq_true rfl) (Nat.le_of_ble_eq_true rfl) (s_216 (a1 := x1) hI_27 (show (-2147483648) ≤ x1 ∧ x1 ≤ 2147483647 from ⟨by omega, by omega⟩) (fun c_28 y_31 hI_29 hF_30 hy_31 => ?_))
  refine bk_inl ?_
  refine q_istore rfl (by decide) ?_
  refine q_goto (t := 1844) rfl (by decide) ?_
  refine Wp_ls [(4, vi (i0 : Int)), (3, .ref 67), (2, .ref 41), (1, .ref 0), (0, .ref a_SC)] (lsub_cons rfl (lsub_cons rfl (lsub_cons rfl (lsub_cons rfl (lsub_cons rfl lsub_nil))))) ?_
  have h_32 := ir_1_3 hI
  have kn_33 : Hid (c_4 1 3 = c 1 3) := hF_6 1 3 (fun q => q.elim (fun h => absurd h.1 (nn rfl)) (fun q => q.elim (fun h => absurd h (pn hP rfl rfl)) (fun h => absurd h (pn hP rfl rfl))))
  have kn_34 : Hid (c_28 1 3 = c 1 3) := (hF_30 1 3 (fun q => q.elim (fun h => absurd h.1 (nn rfl)) (fun q => q.elim (fun h => absurd h (nn rfl)) (fun q => q.elim (fun h => absurd h (nn rfl)) (fun q => q.elim (fun h => absurd h (nn rfl)) (fun h => absurd h (nn rfl))))))).trans ((up_c (nn rfl)).trans (hid kn_33))
  have h_35 : c_28 1 3 = c 1 3 := (hid kn_34)
  have h_36 := ir_41_2 hI
  have kn_37 : Hid (c_4 41 2 = c 41 2) := hF_6 41 2 (fun q => q.elim (fun h => absurd h.1 (nn rfl)) (fun q => q.elim (fun h => absurd h (pn hP rfl rfl)) (fun h => absurd h (pn hP rfl rfl))))
  have kn_38 : Hid (c_28 41 2 = c 41 2) := (hF_30 41 2 (fun q => q.elim (fun h => absurd h.2 (ni rfl)) (fun q => q.elim (fun h => absurd h (nn rfl)) (fun q => q.elim (fun h => absurd h (nn rfl)) (fun q => q.elim (fun h => absurd h (nn rfl)) (fun h => absurd h (nn rfl))))))).trans ((up_c (nn rfl)).trans (hid kn_37))
  have h_39 : c_28 41 2 = c 41 2 := (hid kn_38)
  have kn_40 : Hid (c_4 (P + 7) 4 = nl) := (hF_6 (P + 7) 4 (fun q => q.elim (fun h => absurd h.1 (np hP rfl rfl)) (fun q => q.elim (fun h => absurd h (pp rfl)) (fun h => absurd h (pp rfl))))).trans (hnl)
  have kn_41 : Hid (c_28 (P + 7) 4 = nl) := (hF_30 (P + 7) 4 (fun q => q.elim (fun h => absurd h.1 (np hP rfl rfl)) (fun q => q.elim (fun h => absurd h (np hP rfl rfl)) (fun q => q.elim (fun h => absurd h (np hP rfl rfl)) (fun q => q.elim (fun h => absurd h (np hP rfl rfl)) (fun h => absurd h (np hP rfl rfl))))))).trans ((up_c (np hP rfl rfl)).trans (hid kn_40))
  have kn_42 : Hid (c_4 41 30 = nl) := (hF_6 41 30 (fun q => q.elim (fun h => absurd h.1 (nn rfl)) (fun q => q.elim (fun h => absurd h (pn hP rfl rfl)) (fun h => absurd h (pn hP rfl rfl))))).trans (hml)
  have kn_43 : Hid (c_28 41 30 = nl) := (hF_30 41 30 (fun q => q.elim (fun h => absurd h.2 (ni rfl)) (fun q => q.elim (fun h => absurd h (nn rfl)) (fun q => q.elim (fun h => absurd h (nn rfl)) (fun q => q.elim (fun h => absurd h (nn rfl)) (fun h => absurd h (nn rfl))))))).trans ((up_c (nn rfl)).trans (hid kn_42))
  have h_44 : c_28 (P + 7) 4 = nl := (hid kn_41)
  have h_45 : c_28 41 30 = nl := (hid kn_43)
  have hA_46 : Ce nl (c_28 (P + 8)) (c_28 52) (c_28 53) := ce_fr hCe (fun j => (hF_30 (P + 8) j (fun q => q.elim (fun h => absurd h.1 (np hP rfl rfl)) (fun q => q.elim (fun h => absurd h (np hP rfl rfl)) (fun q => q.elim (fun h => absurd h (np hP rfl rfl)) (fun q => q.elim (fun h => absurd h (np hP rfl rfl)) (fun h => absurd h (np hP rfl rfl))))))).trans ((up_c (np hP rfl rfl)).trans (hF_6 (P + 8) j (fun q => q.elim (fun h => absurd h.1 (np hP rfl rfl)) (fun q => q.elim (fun h => absurd h (pp rfl)) (fun h => absurd h (pp rfl))))))) (fun j => (hF_30 52 j (fun q => q.elim (fun h => absurd h.1 (nn rfl)) (fun q => q.elim (fun h => absurd h (nn rfl)) (fun q => q.elim (fun h => absurd h (nn rfl)) (fun q => q.elim (fun h => absurd h (nn rfl)) (fun h => absurd h (nn rfl))))))).trans ((up_c (nn rfl)).trans (hF_6 52 j (fun q => q.elim (fun h => absurd h.1 (nn rfl)) (fun q => q.elim (fun h => absurd h (pn hP rfl rfl)) (fun h => absurd h (pn hP rfl rfl))))))) (fun j => (hF_30 53 j (fun q => q.elim (fun h => absurd h.1 (nn rfl)) (fun q => q.elim (fun h => absurd h (nn rfl)) (fun q => q.elim (fun h => absurd h (nn rfl)) (fun q => q.elim (fun h => absurd h (nn rfl)) (fun h => absurd h (nn rfl))))))).trans ((up_c (nn rfl)).trans (hF_6 53 j (fun q => q.elim (fun h => absurd h.1 (nn rfl)) (fun q => q.elim (fun h => absurd h (pn hP rfl rfl)) (fun h => absurd h (pn hP rfl rfl)))))))
  exact K P Q c_28 0 (by decide) hI_29 ⟨by omega, ub_fr hU (fun j => (hF_30 2 j (fun q => q.elim (fun h => absurd h.1 (nn rfl)) (fun q => q.elim (fun h => absurd h (nn rfl)) (fun q => q.elim (fun h => absurd h (nn rfl)) (fun q => q.elim (fun h => absurd h (nn rfl)) (fun h => absurd h (nn rfl))))))).trans ((up_c (nn rfl)).trans (hF_6 2 j (fun q => q.elim (fun h => absurd h.1 (nn rfl)) (fun q => q.elim (fun h => absurd h (pn hP rfl rfl)) (fun h => absurd h (pn hP rfl rfl))))))) (fun j => (hF_30 43 j (fun q => q.elim (fun h => absurd h.1 (nn rfl)) (fun q => q.elim (fun h => absurd h (nn rfl)) (fun q => q.elim (fun h => absurd h (nn rfl)) (fun q => q.elim (fun h => absurd h (nn rfl)) (fun h => absurd h (nn rfl))))))).trans ((up_c (nn rfl)).trans (hF_6 43 j (fun q => q.elim (fun h => absurd h.1 (nn rfl)) (fun q => q.elim (fun h => absurd h (pn hP rfl rfl)) (fun h => absurd h (pn hP rfl rfl))))))), ⟨by omega, ce_le hA_46 (by omega)⟩⟩

