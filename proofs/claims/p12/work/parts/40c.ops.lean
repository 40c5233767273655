/-! ===== the calls of the law 3 ===== -/
set_option maxRecDepth 100000 in
set_option maxHeartbeats 4000000 in
theorem o_22 {xs : Nat → Int32} {L i0 d nc ns P Q : Nat} {c : ME} {Z : AR → Prop} (hi : i0 + 8 ≤ L) (hL : L ≤ 100000) (hI : Iv 0 (-1) P Q c) (hR : Rq P c) (K : ∀ (P2 Q2 : Nat) (c2 : ME) (e : Nat), e ≤ 1 → Iv 0 (-1) P2 Q2 c2 → (Rq P2 c2) → Wp (a_scr L xs) (d + 90) 296 1844 [(4, vi (i0 : Int)), (3, .ref 67), (2, .ref 41), (1, .ref 0), (0, .ref a_SC)] [] (Wd P2 Q2 P2 P2 c2) (nc + e) (ns + 6 * e) Z) : Wp (a_scr L xs) (d + 90) 296 1119 [(4, vi (i0 : Int)), (3, .ref 67), (2, .ref 41), (1, .ref 0), (0, .ref a_SC)] [] (Wd P Q P P c) nc ns Z := by
  obtain ⟨x1, hx1⟩ : ∃ z, (xs (i0 + 1)).toInt = z := ⟨_, rfl⟩
  have x1r := c_rng (xs (i0 + 1))
  rw [hx1] at x1r
  obtain ⟨x2, hx2⟩ : ∃ z, (xs (i0 + 2)).toInt = z := ⟨_, rfl⟩
  have x2r := c_rng (xs (i0 + 2))
  rw [hx2] at x2r
  obtain ⟨x3, hx3⟩ : ∃ z, (xs (i0 + 3)).toInt = z := ⟨_, rfl⟩
  have x3r := c_rng (xs (i0 + 3))
  rw [hx3] at x3r
  obtain ⟨x4, hx4⟩ : ∃ z, (xs (i0 + 4)).toInt = z := ⟨_, rfl⟩
  have x4r := c_rng (xs (i0 + 4))
  rw [hx4] at x4r
  obtain ⟨x5, hx5⟩ : ∃ z, (xs (i0 + 5)).toInt = z := ⟨_, rfl⟩
  have x5r := c_rng (xs (i0 + 5))
  rw [hx5] at x5r
  obtain ⟨x6, hx6⟩ : ∃ z, (xs (i0 + 6)).toInt = z := ⟨_, rfl⟩
  have x6r := c_rng (xs (i0 + 6))
  rw [hx6] at x6r
  obtain ⟨x7, hx7⟩ : ∃ z, (xs (i0 + 7)).toInt = z := ⟨_, rfl⟩
  have x7r := c_rng (xs (i0 + 7))
  rw [hx7] at x7r
  have hT := rl_t hR
  have hU := rl_u hR
  have hP := iv_P hI
  obtain ⟨n0, hn0⟩ : ∃ z, c P 0 = z := ⟨_, rfl⟩
  have hm0 : c 41 20 = n0 := (rl_nums hR).1.symm.trans hn0
  have hr0 := ir_p0_0 hI hP
  rw [hn0] at hr0
  obtain ⟨n1, hn1⟩ : ∃ z, c P 1 = z := ⟨_, rfl⟩
  have hm1 : c 41 21 = n1 := (rl_nums hR).2.1.symm.trans hn1
  have hr1 := ir_p0_1 hI hP
  rw [hn1] at hr1
  obtain ⟨n2, hn2⟩ : ∃ z, c P 2 = z := ⟨_, rfl⟩
  have hm2 : c 41 22 = n2 := (rl_nums hR).2.2.1.symm.trans hn2
  have hr2 := ir_p0_2 hI hP
  rw [hn2] at hr2
  obtain ⟨n3, hn3⟩ : ∃ z, c P 3 = z := ⟨_, rfl⟩
  have hm3 : c 41 23 = n3 := (rl_nums hR).2.2.2.symm.trans hn3
  have hr3 := ir_p0_3 hI hP
  rw [hn3] at hr3
  have h_1 : c P 1 = n1 := (hn1)
  have hAshares : Ae (3 * n1) (c (P + 2)) (c 48) := ae_le (rl_shares hR) (by omega)
  have h_2 : c P 2 = n2 := (hn2)
  have hAmeshes : Ae n2 (c (P + 3)) (c 49) := ae_le (rl_meshes hR) (by omega)
  have hP := iv_P hI
  have hQ := iv_Q hI
  refine q_aload_n rfl rfl (q_aload_n rfl rfl (q_iload rfl rfl (q_iconst rfl (v_iadd (v := (i0 : Int) + 1) rfl rfl (v_scr (j := i0 + 1) rfl (by omega) (by omega) hL hx1 (q_aload_n rfl rfl (q_iload rfl rfl ?_)))))))
  refine q_iconst rfl (v_iadd (v := (i0 : Int) + 2) rfl rfl (v_scr (j := i0 + 2) rfl (by omega) (by omega) hL hx2 (q_aload_n rfl rfl (q_iload rfl rfl (q_iconst rfl (v_iadd (v := (i0 : Int) + 3) rfl rfl (v_scr (j := i0 + 3) rfl (by omega) (by omega) hL hx3 ?_)))))))
  refine q_aload_n rfl rfl (q_iload rfl rfl (q_iconst rfl (v_iadd (v := (i0 : Int) + 4) rfl rfl (v_scr (j := i0 + 4) rfl (by omega) (by omega) hL hx4 (q_aload_n rfl rfl (q_call rfl rfl rfl rfl (q_aload rfl rfl ?_)))))))
  refine q_iconst rfl (q_aload_n rfl rfl (q_iload_n rfl rfl (q_iload_n rfl rfl (q_iload_n rfl rfl (q_iload rfl rfl ?_)))))
  refine v_cv rfl rfl rfl rfl (Nat.le_of_ble_eq_true rfl) ⟨⟨rfl, rfl⟩, Nat.le_of_ble_eq_true rfl, rfl⟩ (Nat.le_of_ble_eq_true rfl) (Nat.le_of_ble_eq_true rfl) (s_134 (a1 := x1) (a2 := x2) (a3 := x3) (a4 := x4) hI (show (-2147483648) ≤ x1 ∧ x1 ≤ 2147483647 from ⟨by omega, by omega⟩) (show (-2147483648) ≤ x2 ∧ x2 ≤ 2147483647 from ⟨by omega, by omega⟩) (show (-2147483648) ≤ x3 ∧ x3 ≤ 2147483647 from ⟨by omega, by omega⟩) (show (-2147483648) ≤ x4 ∧ x4 ≤ 2147483647 from ⟨by omega, by omega⟩) (fun c_3 hI_4 hF_5 => ?_) (fun c_6 y_9 hI_7 hF_8 => ?_))
  · skip
    refine bk_thr (z := Int32.ofInt 1) rfl ⟨_, _, rfl⟩ rfl (bk_inl (q_istore rfl (Nat.le_of_ble_eq_true rfl) (q_aload_n rfl rfl (q_aload_n rfl rfl (q_iload rfl rfl (q_iconst rfl (v_iadd (v := (i0 : Int) + 1) rfl rfl ?_)))))))
    refine v_scr (j := i0 + 1) rfl (by omega) (by omega) hL hx1 (q_aload_n rfl rfl (q_iload rfl rfl (q_iconst rfl (v_iadd (v := (i0 : Int) + 2) rfl rfl (v_scr (j := i0 + 2) rfl (by omega) (by omega) hL hx2 (q_aload_n rfl rfl (q_iload rfl rfl ?_)))))))
    refine q_iconst rfl (v_iadd (v := (i0 : Int) + 3) rfl rfl (v_scr (j := i0 + 3) rfl (by omega) (by omega) hL hx3 (q_aload_n rfl rfl (q_iload rfl rfl (q_iconst rfl (v_iadd (v := (i0 : Int) + 4) rfl rfl (v_scr (j := i0 + 4) rfl (by omega) (by omega) hL hx4 ?_)))))))
    refine v_cv rfl rfl rfl rfl (Nat.le_of_ble_eq_true rfl) ⟨⟨rfl, rfl⟩, Nat.le_of_ble_eq_true rfl, rfl⟩ (Nat.le_of_ble_eq_true rfl) (Nat.le_of_ble_eq_true rfl) (s_234 (a1 := x1) (a2 := x2) (a3 := x3) (a4 := x4) hI_4 (show (-2147483648) ≤ x1 ∧ x1 ≤ 2147483647 from ⟨by omega, by omega⟩) (show (-2147483648) ≤ x2 ∧ x2 ≤ 2147483647 from ⟨by omega, by omega⟩) (show (-2147483648) ≤ x3 ∧ x3 ≤ 2147483647 from ⟨by omega, by omega⟩) (show (-2147483648) ≤ x4 ∧ x4 ≤ 2147483647 from ⟨by omega, by omega⟩) (fun c_10 y_13 hI_11 hF_12 => (bk_inl (q_lstore rfl (by decide) (q_goto (t := 1844) rfl rfl (Wp_ls [(4, vi (i0 : Int)), (3, .ref 67), (2, .ref 41), (1, .ref 0), (0, .ref a_SC)] (lsub_cons rfl (lsub_cons rfl (lsub_cons rfl (lsub_cons rfl (lsub_cons rfl lsub_nil))))) ?_))))))
    have h_14 := ir_1_3 hI
    have kn_15 : Hid (c_3 1 3 = c 1 3) := hF_5 1 3 (fun h => absurd h.1 (nn rfl))
    have kn_16 : Hid (c_10 1 3 = c 1 3) := (hF_12 1 3 (fun q => q.elim (fun h => absurd h.1 (nn rfl)) (fun q => q.elim (fun h => absurd h (nn rfl)) (fun h => absurd h (nn rfl))))).trans (hid kn_15)
    have h_17 : c_10 1 3 = c 1 3 := (hid kn_16)
    have h_18 := ir_41_2 hI
    have kn_19 : Hid (c_3 41 2 = c 41 2) := hF_5 41 2 (fun h => absurd h.1 (nn rfl))
    have kn_20 : Hid (c_10 41 2 = c 41 2) := (hF_12 41 2 (fun q => q.elim (fun h => absurd h.2 (ni rfl)) (fun q => q.elim (fun h => absurd h (nn rfl)) (fun h => absurd h (nn rfl))))).trans (hid kn_19)
    have h_21 : c_10 41 2 = c 41 2 := (hid kn_20)
    have kn_22 : Hid (c_3 P 0 = n0) := (hF_5 P 0 (fun h => absurd h.1 (np0 hP rfl))).trans (hn0)
    have kn_23 : Hid (c_10 P 0 = n0) := (hF_12 P 0 (fun q => q.elim (fun h => absurd h.1 (np0 hP rfl)) (fun q => q.elim (fun h => absurd h (np0 hP rfl)) (fun h => absurd h (np0 hP rfl))))).trans (hid kn_22)
    have h_24 : c_10 P 0 = n0 := (hid kn_23)
    have kn_25 : Hid (c_3 41 20 = n0) := (hF_5 41 20 (fun h => absurd h.1 (nn rfl))).trans (hm0)
    have kn_26 : Hid (c_10 41 20 = n0) := (hF_12 41 20 (fun q => q.elim (fun h => absurd h.2 (ni rfl)) (fun q => q.elim (fun h => absurd h (nn rfl)) (fun h => absurd h (nn rfl))))).trans (hid kn_25)
    have h_27 : c_10 41 20 = n0 := (hid kn_26)
    have kn_28 : Hid (c_3 P 1 = n1) := (hF_5 P 1 (fun h => absurd h.1 (np0 hP rfl))).trans (hn1)
    have kn_29 : Hid (c_10 P 1 = n1) := (hF_12 P 1 (fun q => q.elim (fun h => absurd h.1 (np0 hP rfl)) (fun q => q.elim (fun h => absurd h (np0 hP rfl)) (fun h => absurd h (np0 hP rfl))))).trans (hid kn_28)
    have h_30 : c_10 P 1 = n1 := (hid kn_29)
    have kn_31 : Hid (c_3 41 21 = n1) := (hF_5 41 21 (fun h => absurd h.1 (nn rfl))).trans (hm1)
    have kn_32 : Hid (c_10 41 21 = n1) := (hF_12 41 21 (fun q => q.elim (fun h => absurd h.2 (ni rfl)) (fun q => q.elim (fun h => absurd h (nn rfl)) (fun h => absurd h (nn rfl))))).trans (hid kn_31)
    have h_33 : c_10 41 21 = n1 := (hid kn_32)
    have kn_34 : Hid (c_3 P 2 = n2) := (hF_5 P 2 (fun h => absurd h.1 (np0 hP rfl))).trans (hn2)
    have kn_35 : Hid (c_10 P 2 = n2) := (hF_12 P 2 (fun q => q.elim (fun h => absurd h.1 (np0 hP rfl)) (fun q => q.elim (fun h => absurd h (np0 hP rfl)) (fun h => absurd h (np0 hP rfl))))).trans (hid kn_34)
    have h_36 : c_10 P 2 = n2 := (hid kn_35)
    have kn_37 : Hid (c_3 41 22 = n2) := (hF_5 41 22 (fun h => absurd h.1 (nn rfl))).trans (hm2)
    have kn_38 : Hid (c_10 41 22 = n2) := (hF_12 41 22 (fun q => q.elim (fun h => absurd h.2 (ni rfl)) (fun q => q.elim (fun h => absurd h (nn rfl)) (fun h => absurd h (nn rfl))))).trans (hid kn_37)
    have h_39 : c_10 41 22 = n2 := (hid kn_38)
    have kn_40 : Hid (c_3 P 3 = n3) := (hF_5 P 3 (fun h => absurd h.1 (np0 hP rfl))).trans (hn3)
    have kn_41 : Hid (c_10 P 3 = n3) := (hF_12 P 3 (fun q => q.elim (fun h => absurd h.1 (np0 hP rfl)) (fun q => q.elim (fun h => absurd h (np0 hP rfl)) (fun h => absurd h (np0 hP rfl))))).trans (hid kn_40)
    have h_42 : c_10 P 3 = n3 := (hid kn_41)
    have kn_43 : Hid (c_3 41 23 = n3) := (hF_5 41 23 (fun h => absurd h.1 (nn rfl))).trans (hm3)
    have kn_44 : Hid (c_10 41 23 = n3) := (hF_12 41 23 (fun q => q.elim (fun h => absurd h.2 (ni rfl)) (fun q => q.elim (fun h => absurd h (nn rfl)) (fun h => absurd h (nn rfl))))).trans (hid kn_43)
    have h_45 : c_10 41 23 = n3 := (hid kn_44)
    have h_46 : c_10 P 1 = n1 := (hid kn_29)
    have hA_47 : Ae (3 * n1) (c_10 (P + 2)) (c_10 48) := ae_fr hAshares (fun j => (hF_12 (P + 2) j (fun q => q.elim (fun h => absurd h.1 (np hP rfl rfl)) (fun q => q.elim (fun h => absurd h (np hP rfl rfl)) (fun h => absurd h (np hP rfl rfl))))).trans (hF_5 (P + 2) j (fun h => absurd h.1 (np hP rfl rfl)))) (fun j => (hF_12 48 j (fun q => q.elim (fun h => absurd h.1 (nn rfl)) (fun q => q.elim (fun h => absurd h (nn rfl)) (fun h => absurd h (nn rfl))))).trans (hF_5 48 j (fun h => absurd h.1 (nn rfl))))
    have h_48 : c_10 P 2 = n2 := (hid kn_35)
    have hA_49 : Ae n2 (c_10 (P + 3)) (c_10 49) := ae_fr hAmeshes (fun j => (hF_12 (P + 3) j (fun q => q.elim (fun h => absurd h.1 (np hP rfl rfl)) (fun q => q.elim (fun h => absurd h (np hP rfl rfl)) (fun h => absurd h (np hP rfl rfl))))).trans (hF_5 (P + 3) j (fun h => absurd h.1 (np hP rfl rfl)))) (fun j => (hF_12 49 j (fun q => q.elim (fun h => absurd h.1 (nn rfl)) (fun q => q.elim (fun h => absurd h (nn rfl)) (fun h => absurd h (nn rfl))))).trans (hF_5 49 j (fun h => absurd h.1 (nn rfl))))
    exact K P Q c_10 1 (by decide) hI_11 ⟨by omega, ub_fr hU (fun j => (hF_12 2 j (fun q => q.elim (fun h => absurd h.1 (nn rfl)) (fun q => q.elim (fun h => absurd h (nn rfl)) (fun h => absurd h (nn rfl))))).trans (hF_5 2 j (fun h => absurd h.1 (nn rfl)))) (fun j => (hF_12 43 j (fun q => q.elim (fun h => absurd h.1 (nn rfl)) (fun q => q.elim (fun h => absurd h (nn rfl)) (fun h => absurd h (nn rfl))))).trans (hF_5 43 j (fun h => absurd h.1 (nn rfl)))), ⟨by omega, by omega, by omega, by omega⟩, ae_le hA_47 (by omega), ae_le hA_49 (by omega)⟩
  refine bk_inl (v_ls rfl rfl (by decide) (by decide) (by decide) (q_goto (t := 20) rfl rfl (q_iconst rfl (q_iret rfl rfl (bk_inl (q_istore rfl (Nat.le_of_ble_eq_true rfl) (q_aload_n rfl rfl ?_)))))))
  refine q_aload_n rfl rfl (q_iload rfl rfl (q_iconst rfl (v_iadd (v := (i0 : Int) + 1) rfl rfl (v_scr (j := i0 + 1) rfl (by omega) (by omega) hL hx1 (q_aload_n rfl rfl (q_iload rfl rfl (q_iconst rfl ?_)))))))
  refine v_iadd (v := (i0 : Int) + 2) rfl rfl (v_scr (j := i0 + 2) rfl (by omega) (by omega) hL hx2 (q_aload_n rfl rfl (q_iload rfl rfl (q_iconst rfl (v_iadd (v := (i0 : Int) + 3) rfl rfl (v_scr (j := i0 + 3) rfl (by omega) (by omega) hL hx3 (q_aload_n rfl rfl ?_)))))))
  refine q_iload rfl rfl (q_iconst rfl (v_iadd (v := (i0 : Int) + 4) rfl rfl (v_scr (j := i0 + 4) rfl (by omega) (by omega) hL hx4 ?_)))
  have hI_50 := iw_lx (a := 67) (j := 0) (v := y_9) hI_7 (by omega)
  refine v_cv rfl rfl rfl rfl (Nat.le_of_ble_eq_true rfl) ⟨⟨rfl, rfl⟩, Nat.le_of_ble_eq_true rfl, rfl⟩ (Nat.le_of_ble_eq_true rfl) (Nat.le_of_ble_eq_true rfl) (s_234 (a1 := x1) (a2 := x2) (a3 := x3) (a4 := x4) hI_50 (show (-2147483648) ≤ x1 ∧ x1 ≤ 2147483647 from ⟨by omega, by omega⟩) (show (-2147483648) ≤ x2 ∧ x2 ≤ 2147483647 from ⟨by omega, by omega⟩) (show (-2147483648) ≤ x3 ∧ x3 ≤ 2147483647 from ⟨by omega, by omega⟩) (show (-2147483648) ≤ x4 ∧ x4 ≤ 2147483647 from ⟨by omega, by omega⟩) (fun c_51 y_54 hI_52 hF_53 => (bk_inl (q_lstore rfl (by decide) (q_goto (t := 1844) rfl rfl (Wp_ls [(4, vi (i0 : Int)), (3, .ref 67), (2, .ref 41), (1, .ref 0), (0, .ref a_SC)] (lsub_cons rfl (lsub_cons rfl (lsub_cons rfl (lsub_cons rfl (lsub_cons rfl lsub_nil))))) ?_))))))
  have h_55 := ir_1_3 hI
  have kn_56 : Hid (c_6 1 3 = c 1 3) := hF_8 1 3 (fun h => absurd h.1 (nn rfl))
  have kn_57 : Hid (c_51 1 3 = c 1 3) := (hF_53 1 3 (fun q => q.elim (fun h => absurd h.1 (nn rfl)) (fun q => q.elim (fun h => absurd h (nn rfl)) (fun h => absurd h (nn rfl))))).trans ((up_c (nn rfl)).trans (hid kn_56))
  have h_58 : c_51 1 3 = c 1 3 := (hid kn_57)
  have h_59 := ir_41_2 hI
  have kn_60 : Hid (c_6 41 2 = c 41 2) := hF_8 41 2 (fun h => absurd h.1 (nn rfl))
  have kn_61 : Hid (c_51 41 2 = c 41 2) := (hF_53 41 2 (fun q => q.elim (fun h => absurd h.2 (ni rfl)) (fun q => q.elim (fun h => absurd h (nn rfl)) (fun h => absurd h (nn rfl))))).trans ((up_c (nn rfl)).trans (hid kn_60))
  have h_62 : c_51 41 2 = c 41 2 := (hid kn_61)
  have kn_63 : Hid (c_6 P 0 = n0) := (hF_8 P 0 (fun h => absurd h.1 (np0 hP rfl))).trans (hn0)
  have kn_64 : Hid (c_51 P 0 = n0) := (hF_53 P 0 (fun q => q.elim (fun h => absurd h.1 (np0 hP rfl)) (fun q => q.elim (fun h => absurd h (np0 hP rfl)) (fun h => absurd h (np0 hP rfl))))).trans ((up_c (np0 hP rfl)).trans (hid kn_63))
  have h_65 : c_51 P 0 = n0 := (hid kn_64)
  have kn_66 : Hid (c_6 41 20 = n0) := (hF_8 41 20 (fun h => absurd h.1 (nn rfl))).trans (hm0)
  have kn_67 : Hid (c_51 41 20 = n0) := (hF_53 41 20 (fun q => q.elim (fun h => absurd h.2 (ni rfl)) (fun q => q.elim (fun h => absurd h (nn rfl)) (fun h => absurd h (nn rfl))))).trans ((up_c (nn rfl)).trans (hid kn_66))
  have h_68 : c_51 41 20 = n0 := (hid kn_67)
  have kn_69 : Hid (c_6 P 1 = n1) := (hF_8 P 1 (fun h => absurd h.1 (np0 hP rfl))).trans (hn1)
  have kn_70 : Hid (c_51 P 1 = n1) := (hF_53 P 1 (fun q => q.elim (fun h => absurd h.1 (np0 hP rfl)) (fun q => q.elim (fun h => absurd h (np0 hP rfl)) (fun h => absurd h (np0 hP rfl))))).trans ((up_c (np0 hP rfl)).trans (hid kn_69))
  have h_71 : c_51 P 1 = n1 := (hid kn_70)
  have kn_72 : Hid (c_6 41 21 = n1) := (hF_8 41 21 (fun h => absurd h.1 (nn rfl))).trans (hm1)
  have kn_73 : Hid (c_51 41 21 = n1) := (hF_53 41 21 (fun q => q.elim (fun h => absurd h.2 (ni rfl)) (fun q => q.elim (fun h => absurd h (nn rfl)) (fun h => absurd h (nn rfl))))).trans ((up_c (nn rfl)).trans (hid kn_72))
  have h_74 : c_51 41 21 = n1 := (hid kn_73)
  have kn_75 : Hid (c_6 P 2 = n2) := (hF_8 P 2 (fun h => absurd h.1 (np0 hP rfl))).trans (hn2)
  have kn_76 : Hid (c_51 P 2 = n2) := (hF_53 P 2 (fun q => q.elim (fun h => absurd h.1 (np0 hP rfl)) (fun q => q.elim (fun h => absurd h (np0 hP rfl)) (fun h => absurd h (np0 hP rfl))))).trans ((up_c (np0 hP rfl)).trans (hid kn_75))
  have h_77 : c_51 P 2 = n2 := (hid kn_76)
  have kn_78 : Hid (c_6 41 22 = n2) := (hF_8 41 22 (fun h => absurd h.1 (nn rfl))).trans (hm2)
  have kn_79 : Hid (c_51 41 22 = n2) := (hF_53 41 22 (fun q => q.elim (fun h => absurd h.2 (ni rfl)) (fun q => q.elim (fun h => absurd h (nn rfl)) (fun h => absurd h (nn rfl))))).trans ((up_c (nn rfl)).trans (hid kn_78))
  have h_80 : c_51 41 22 = n2 := (hid kn_79)
  have kn_81 : Hid (c_6 P 3 = n3) := (hF_8 P 3 (fun h => absurd h.1 (np0 hP rfl))).trans (hn3)
  have kn_82 : Hid (c_51 P 3 = n3) := (hF_53 P 3 (fun q => q.elim (fun h => absurd h.1 (np0 hP rfl)) (fun q => q.elim (fun h => absurd h (np0 hP rfl)) (fun h => absurd h (np0 hP rfl))))).trans ((up_c (np0 hP rfl)).trans (hid kn_81))
  have h_83 : c_51 P 3 = n3 := (hid kn_82)
  have kn_84 : Hid (c_6 41 23 = n3) := (hF_8 41 23 (fun h => absurd h.1 (nn rfl))).trans (hm3)
  have kn_85 : Hid (c_51 41 23 = n3) := (hF_53 41 23 (fun q => q.elim (fun h => absurd h.2 (ni rfl)) (fun q => q.elim (fun h => absurd h (nn rfl)) (fun h => absurd h (nn rfl))))).trans ((up_c (nn rfl)).trans (hid kn_84))
  have h_86 : c_51 41 23 = n3 := (hid kn_85)
  have h_87 : c_51 P 1 = n1 := (hid kn_70)
  have hA_88 : Ae (3 * n1) (c_51 (P + 2)) (c_51 48) := ae_fr hAshares (fun j => (hF_53 (P + 2) j (fun q => q.elim (fun h => absurd h.1 (np hP rfl rfl)) (fun q => q.elim (fun h => absurd h (np hP rfl rfl)) (fun h => absurd h (np hP rfl rfl))))).trans ((up_c (np hP rfl rfl)).trans (hF_8 (P + 2) j (fun h => absurd h.1 (np hP rfl rfl))))) (fun j => (hF_53 48 j (fun q => q.elim (fun h => absurd h.1 (nn rfl)) (fun q => q.elim (fun h => absurd h (nn rfl)) (fun h => absurd h (nn rfl))))).trans ((up_c (nn rfl)).trans (hF_8 48 j (fun h => absurd h.1 (nn rfl)))))
  have h_89 : c_51 P 2 = n2 := (hid kn_76)
  have hA_90 : Ae n2 (c_51 (P + 3)) (c_51 49) := ae_fr hAmeshes (fun j => (hF_53 (P + 3) j (fun q => q.elim (fun h => absurd h.1 (np hP rfl rfl)) (fun q => q.elim (fun h => absurd h (np hP rfl rfl)) (fun h => absurd h (np hP rfl rfl))))).trans ((up_c (np hP rfl rfl)).trans (hF_8 (P + 3) j (fun h => absurd h.1 (np hP rfl rfl))))) (fun j => (hF_53 49 j (fun q => q.elim (fun h => absurd h.1 (nn rfl)) (fun q => q.elim (fun h => absurd h (nn rfl)) (fun h => absurd h (nn rfl))))).trans ((up_c (nn rfl)).trans (hF_8 49 j (fun h => absurd h.1 (nn rfl)))))
  exact K P Q c_51 0 (by decide) hI_52 ⟨by omega, ub_fr hU (fun j => (hF_53 2 j (fun q => q.elim (fun h => absurd h.1 (nn rfl)) (fun q => q.elim (fun h => absurd h (nn rfl)) (fun h => absurd h (nn rfl))))).trans ((up_c (nn rfl)).trans (hF_8 2 j (fun h => absurd h.1 (nn rfl))))) (fun j => (hF_53 43 j (fun q => q.elim (fun h => absurd h.1 (nn rfl)) (fun q => q.elim (fun h => absurd h (nn rfl)) (fun h => absurd h (nn rfl))))).trans ((up_c (nn rfl)).trans (hF_8 43 j (fun h => absurd h.1 (nn rfl))))), ⟨by omega, by omega, by omega, by omega⟩, ae_le hA_88 (by omega), ae_le hA_90 (by omega)⟩

set_option maxRecDepth 100000 in
set_option maxHeartbeats 4000000 in
theorem o_23 {xs : Nat → Int32} {L i0 d nc ns P Q : Nat} {c : ME} {Z : AR → Prop} (hi : i0 + 8 ≤ L) (hL : L ≤ 100000) (hI : Iv 0 (-1) P Q c) (hR : Rq P c) (K : ∀ (P2 Q2 : Nat) (c2 : ME) (e : Nat), e ≤ 1 → Iv 0 (-1) P2 Q2 c2 → (Rq P2 c2) → Wp (a_scr L xs) (d + 90) 296 1844 [(4, vi (i0 : Int)), (3, .ref 67), (2, .ref 41), (1, .ref 0), (0, .ref a_SC)] [] (Wd P2 Q2 P2 P2 c2) (nc + e) (ns + 6 * e) Z) : Wp (a_scr L xs) (d + 90) 296 1183 [(4, vi (i0 : Int)), (3, .ref 67), (2, .ref 41), (1, .ref 0), (0, .ref a_SC)] [] (Wd P Q P P c) nc ns Z := by
  obtain ⟨x1, hx1⟩ : ∃ z, (xs (i0 + 1)).toInt = z := ⟨_, rfl⟩
  have x1r := c_rng (xs (i0 + 1))
  rw [hx1] at x1r
  obtain ⟨x2, hx2⟩ : ∃ z, (xs (i0 + 2)).toInt = z := ⟨_, rfl⟩
  have x2r := c_rng (xs (i0 + 2))
  rw [hx2] at x2r
  obtain ⟨x3, hx3⟩ : ∃ z, (xs (i0 + 3)).toInt = z := ⟨_, rfl⟩
  have x3r := c_rng (xs (i0 + 3))
  rw [hx3] at x3r
  obtain ⟨x4, hx4⟩ : ∃ z, (xs (i0 + 4)).toInt = z := ⟨_, rfl⟩
  have x4r := c_rng (xs (i0 + 4))
  rw [hx4] at x4r
  obtain ⟨x5, hx5⟩ : ∃ z, (xs (i0 + 5)).toInt = z := ⟨_, rfl⟩
  have x5r := c_rng (xs (i0 + 5))
  rw [hx5] at x5r
  obtain ⟨x6, hx6⟩ : ∃ z, (xs (i0 + 6)).toInt = z := ⟨_, rfl⟩
  have x6r := c_rng (xs (i0 + 6))
  rw [hx6] at x6r
  obtain ⟨x7, hx7⟩ : ∃ z, (xs (i0 + 7)).toInt = z := ⟨_, rfl⟩
  have x7r := c_rng (xs (i0 + 7))
  rw [hx7] at x7r
  have hT := rl_t hR
  have hU := rl_u hR
  have hP := iv_P hI
  obtain ⟨n0, hn0⟩ : ∃ z, c P 0 = z := ⟨_, rfl⟩
  have hm0 : c 41 20 = n0 := (rl_nums hR).1.symm.trans hn0
  have hr0 := ir_p0_0 hI hP
  rw [hn0] at hr0
  obtain ⟨n1, hn1⟩ : ∃ z, c P 1 = z := ⟨_, rfl⟩
  have hm1 : c 41 21 = n1 := (rl_nums hR).2.1.symm.trans hn1
  have hr1 := ir_p0_1 hI hP
  rw [hn1] at hr1
  obtain ⟨n2, hn2⟩ : ∃ z, c P 2 = z := ⟨_, rfl⟩
  have hm2 : c 41 22 = n2 := (rl_nums hR).2.2.1.symm.trans hn2
  have hr2 := ir_p0_2 hI hP
  rw [hn2] at hr2
  obtain ⟨n3, hn3⟩ : ∃ z, c P 3 = z := ⟨_, rfl⟩
  have hm3 : c 41 23 = n3 := (rl_nums hR).2.2.2.symm.trans hn3
  have hr3 := ir_p0_3 hI hP
  rw [hn3] at hr3
  have h_1 : c P 1 = n1 := (hn1)
  have hAshares : Ae (3 * n1) (c (P + 2)) (c 48) := ae_le (rl_shares hR) (by omega)
  have h_2 : c P 2 = n2 := (hn2)
  have hAmeshes : Ae n2 (c (P + 3)) (c 49) := ae_le (rl_meshes hR) (by omega)
  have hP := iv_P hI
  have hQ := iv_Q hI
  refine q_aload_n rfl rfl (q_aload_n rfl rfl (q_iload rfl rfl (q_iconst rfl (v_iadd (v := (i0 : Int) + 1) rfl rfl (v_scr (j := i0 + 1) rfl (by omega) (by omega) hL hx1 (q_aload_n rfl rfl (q_iload rfl rfl ?_)))))))
  refine q_iconst rfl (v_iadd (v := (i0 : Int) + 2) rfl rfl (v_scr (j := i0 + 2) rfl (by omega) (by omega) hL hx2 (q_aload_n rfl rfl (q_iload rfl rfl (q_iconst rfl (v_iadd (v := (i0 : Int) + 3) rfl rfl (v_scr (j := i0 + 3) rfl (by omega) (by omega) hL hx3 ?_)))))))
  refine q_aload_n rfl rfl (q_call rfl rfl rfl rfl (q_aload rfl rfl (q_iconst rfl (q_aload_n rfl rfl (q_iload_n rfl rfl (q_iload_n rfl rfl (q_iload_n rfl rfl ?_)))))))
  refine v_cv rfl rfl rfl rfl (Nat.le_of_ble_eq_true rfl) ⟨⟨rfl, rfl⟩, Nat.le_of_ble_eq_true rfl, rfl⟩ (Nat.le_of_ble_eq_true rfl) (Nat.le_of_ble_eq_true rfl) (s_136 (a1 := x1) (a2 := x2) (a3 := x3) hI (show (-2147483648) ≤ x1 ∧ x1 ≤ 2147483647 from ⟨by omega, by omega⟩) (show (-2147483648) ≤ x2 ∧ x2 ≤ 2147483647 from ⟨by omega, by omega⟩) (show (-2147483648) ≤ x3 ∧ x3 ≤ 2147483647 from ⟨by omega, by omega⟩) (fun c_3 hI_4 hF_5 => ?_) (fun c_6 y_9 hI_7 hF_8 hy_9 => ?_))
  · skip
    refine bk_thr (z := Int32.ofInt 1) rfl ⟨_, _, rfl⟩ rfl (bk_inl (q_istore rfl (Nat.le_of_ble_eq_true rfl) (q_aload_n rfl rfl (q_aload_n rfl rfl (q_iload rfl rfl (q_iconst rfl (v_iadd (v := (i0 : Int) + 1) rfl rfl ?_)))))))
    refine v_scr (j := i0 + 1) rfl (by omega) (by omega) hL hx1 (q_aload_n rfl rfl (q_iload rfl rfl (q_iconst rfl (v_iadd (v := (i0 : Int) + 2) rfl rfl (v_scr (j := i0 + 2) rfl (by omega) (by omega) hL hx2 (q_aload_n rfl rfl (q_iload rfl rfl ?_)))))))
    refine q_iconst rfl (v_iadd (v := (i0 : Int) + 3) rfl rfl (v_scr (j := i0 + 3) rfl (by omega) (by omega) hL hx3 (v_cv rfl rfl rfl rfl (Nat.le_of_ble_eq_true rfl) ⟨⟨rfl, rfl⟩, Nat.le_of_ble_eq_true rfl, rfl⟩ (Nat.le_of_ble_eq_true rfl) (Nat.le_of_ble_eq_true rfl) (s_236 (a1 := x1) (a2 := x2) (a3 := x3) hI_4 (show (-2147483648) ≤ x1 ∧ x1 ≤ 2147483647 from ⟨by omega, by omega⟩) (show (-2147483648) ≤ x2 ∧ x2 ≤ 2147483647 from ⟨by omega, by omega⟩) (show (-2147483648) ≤ x3 ∧ x3 ≤ 2147483647 from ⟨by omega, by omega⟩) (fun c_10 y_13 hI_11 hF_12 hy_13 => (bk_inl (q_istore rfl (Nat.le_of_ble_eq_true rfl) (q_goto (t := 1844) rfl rfl (Wp_ls [(4, vi (i0 : Int)), (3, .ref 67), (2, .ref 41), (1, .ref 0), (0, .ref a_SC)] (lsub_cons rfl (lsub_cons rfl (lsub_cons rfl (lsub_cons rfl (lsub_cons rfl lsub_nil))))) ?_)))))))))
    have h_14 := ir_1_3 hI
    have kn_15 : Hid (c_3 1 3 = c 1 3) := hF_5 1 3 (fun h => absurd h.1 (nn rfl))
    have kn_16 : Hid (c_10 1 3 = c 1 3) := (hF_12 1 3 (fun q => q.elim (fun h => absurd h.1 (nn rfl)) (fun h => absurd h (nn rfl)))).trans (hid kn_15)
    have h_17 : c_10 1 3 = c 1 3 := (hid kn_16)
    have h_18 := ir_41_2 hI
    have kn_19 : Hid (c_3 41 2 = c 41 2) := hF_5 41 2 (fun h => absurd h.1 (nn rfl))
    have kn_20 : Hid (c_10 41 2 = c 41 2) := (hF_12 41 2 (fun q => q.elim (fun h => absurd h.2 (ni rfl)) (fun h => absurd h (nn rfl)))).trans (hid kn_19)
    have h_21 : c_10 41 2 = c 41 2 := (hid kn_20)
    have kn_22 : Hid (c_3 P 0 = n0) := (hF_5 P 0 (fun h => absurd h.1 (np0 hP rfl))).trans (hn0)
    have kn_23 : Hid (c_10 P 0 = n0) := (hF_12 P 0 (fun q => q.elim (fun h => absurd h.1 (np0 hP rfl)) (fun h => absurd h (np0 hP rfl)))).trans (hid kn_22)
    have h_24 : c_10 P 0 = n0 := (hid kn_23)
    have kn_25 : Hid (c_3 41 20 = n0) := (hF_5 41 20 (fun h => absurd h.1 (nn rfl))).trans (hm0)
    have kn_26 : Hid (c_10 41 20 = n0) := (hF_12 41 20 (fun q => q.elim (fun h => absurd h.2 (ni rfl)) (fun h => absurd h (nn rfl)))).trans (hid kn_25)
    have h_27 : c_10 41 20 = n0 := (hid kn_26)
    have kn_28 : Hid (c_3 P 1 = n1) := (hF_5 P 1 (fun h => absurd h.1 (np0 hP rfl))).trans (hn1)
    have kn_29 : Hid (c_10 P 1 = n1) := (hF_12 P 1 (fun q => q.elim (fun h => absurd h.1 (np0 hP rfl)) (fun h => absurd h (np0 hP rfl)))).trans (hid kn_28)
    have h_30 : c_10 P 1 = n1 := (hid kn_29)
    have kn_31 : Hid (c_3 41 21 = n1) := (hF_5 41 21 (fun h => absurd h.1 (nn rfl))).trans (hm1)
    have kn_32 : Hid (c_10 41 21 = n1) := (hF_12 41 21 (fun q => q.elim (fun h => absurd h.2 (ni rfl)) (fun h => absurd h (nn rfl)))).trans (hid kn_31)
    have h_33 : c_10 41 21 = n1 := (hid kn_32)
    have kn_34 : Hid (c_3 P 2 = n2) := (hF_5 P 2 (fun h => absurd h.1 (np0 hP rfl))).trans (hn2)
    have kn_35 : Hid (c_10 P 2 = n2) := (hF_12 P 2 (fun q => q.elim (fun h => absurd h.1 (np0 hP rfl)) (fun h => absurd h (np0 hP rfl)))).trans (hid kn_34)
    have h_36 : c_10 P 2 = n2 := (hid kn_35)
    have kn_37 : Hid (c_3 41 22 = n2) := (hF_5 41 22 (fun h => absurd h.1 (nn rfl))).trans (hm2)
    have kn_38 : Hid (c_10 41 22 = n2) := (hF_12 41 22 (fun q => q.elim (fun h => absurd h.2 (ni rfl)) (fun h => absurd h (nn rfl)))).trans (hid kn_37)
    have h_39 : c_10 41 22 = n2 := (hid kn_38)
    have kn_40 : Hid (c_3 P 3 = n3) := (hF_5 P 3 (fun h => absurd h.1 (np0 hP rfl))).trans (hn3)
    have kn_41 : Hid (c_10 P 3 = n3) := (hF_12 P 3 (fun q => q.elim (fun h => absurd h.1 (np0 hP rfl)) (fun h => absurd h (np0 hP rfl)))).trans (hid kn_40)
    have h_42 : c_10 P 3 = n3 := (hid kn_41)
    have kn_43 : Hid (c_3 41 23 = n3) := (hF_5 41 23 (fun h => absurd h.1 (nn rfl))).trans (hm3)
    have kn_44 : Hid (c_10 41 23 = n3) := (hF_12 41 23 (fun q => q.elim (fun h => absurd h.2 (ni rfl)) (fun h => absurd h (nn rfl)))).trans (hid kn_43)
    have h_45 : c_10 41 23 = n3 := (hid kn_44)
    have h_46 : c_10 P 1 = n1 := (hid kn_29)
    have hA_47 : Ae (3 * n1) (c_10 (P + 2)) (c_10 48) := ae_fr hAshares (fun j => (hF_12 (P + 2) j (fun q => q.elim (fun h => absurd h.1 (np hP rfl rfl)) (fun h => absurd h (np hP rfl rfl)))).trans (hF_5 (P + 2) j (fun h => absurd h.1 (np hP rfl rfl)))) (fun j => (hF_12 48 j (fun q => q.elim (fun h => absurd h.1 (nn rfl)) (fun h => absurd h (nn rfl)))).trans (hF_5 48 j (fun h => absurd h.1 (nn rfl))))
    have h_48 : c_10 P 2 = n2 := (hid kn_35)
    have hA_49 : Ae n2 (c_10 (P + 3)) (c_10 49) := ae_fr hAmeshes (fun j => (hF_12 (P + 3) j (fun q => q.elim (fun h => absurd h.1 (np hP rfl rfl)) (fun h => absurd h (np hP rfl rfl)))).trans (hF_5 (P + 3) j (fun h => absurd h.1 (np hP rfl rfl)))) (fun j => (hF_12 49 j (fun q => q.elim (fun h => absurd h.1 (nn rfl)) (fun h => absurd h (nn rfl)))).trans (hF_5 49 j (fun h => absurd h.1 (nn rfl))))
    exact K P Q c_10 1 (by decide) hI_11 ⟨by omega, ub_fr hU (fun j => (hF_12 2 j (fun q => q.elim (fun h => absurd h.1 (nn rfl)) (fun h => absurd h (nn rfl)))).trans (hF_5 2 j (fun h => absurd h.1 (nn rfl)))) (fun j => (hF_12 43 j (fun q => q.elim (fun h => absurd h.1 (nn rfl)) (fun h => absurd h (nn rfl)))).trans (hF_5 43 j (fun h => absurd h.1 (nn rfl)))), ⟨by omega, by omega, by omega, by omega⟩, ae_le hA_47 (by omega), ae_le hA_49 (by omega)⟩
  refine bk_inl (v_i2l rfl (by omega) (v_ls rfl rfl (by decide) (by decide) (by decide) (q_goto (t := 19) rfl rfl (q_iconst rfl (q_iret rfl rfl (bk_inl (q_istore rfl (Nat.le_of_ble_eq_true rfl) ?_)))))))
  refine q_aload_n rfl rfl (q_aload_n rfl rfl (q_iload rfl rfl (q_iconst rfl (v_iadd (v := (i0 : Int) + 1) rfl rfl (v_scr (j := i0 + 1) rfl (by omega) (by omega) hL hx1 (q_aload_n rfl rfl (q_iload rfl rfl ?_)))))))
  refine q_iconst rfl (v_iadd (v := (i0 : Int) + 2) rfl rfl (v_scr (j := i0 + 2) rfl (by omega) (by omega) hL hx2 (q_aload_n rfl rfl (q_iload rfl rfl (q_iconst rfl (v_iadd (v := (i0 : Int) + 3) rfl rfl (v_scr (j := i0 + 3) rfl (by omega) (by omega) hL hx3 ?_)))))))
  have hI_50 := iw_lx (a := 67) (j := 0) (v := y_9) hI_7 (by omega)
  refine v_cv rfl rfl rfl rfl (Nat.le_of_ble_eq_true rfl) ⟨⟨rfl, rfl⟩, Nat.le_of_ble_eq_true rfl, rfl⟩ (Nat.le_of_ble_eq_true rfl) (Nat.le_of_ble_eq_true rfl) (s_236 (a1 := x1) (a2 := x2) (a3 := x3) hI_50 (show (-2147483648) ≤ x1 ∧ x1 ≤ 2147483647 from ⟨by omega, by omega⟩) (show (-2147483648) ≤ x2 ∧ x2 ≤ 2147483647 from ⟨by omega, by omega⟩) (show (-2147483648) ≤ x3 ∧ x3 ≤ 2147483647 from ⟨by omega, by omega⟩) (fun c_51 y_54 hI_52 hF_53 hy_54 => (bk_inl (q_istore rfl (Nat.le_of_ble_eq_true rfl) (q_goto (t := 1844) rfl rfl (Wp_ls [(4, vi (i0 : Int)), (3, .ref 67), (2, .ref 41), (1, .ref 0), (0, .ref a_SC)] (lsub_cons rfl (lsub_cons rfl (lsub_cons rfl (lsub_cons rfl (lsub_cons rfl lsub_nil))))) ?_))))))
  have h_55 := ir_1_3 hI
  have kn_56 : Hid (c_6 1 3 = c 1 3) := hF_8 1 3 (fun h => absurd h.1 (nn rfl))
  have kn_57 : Hid (c_51 1 3 = c 1 3) := (hF_53 1 3 (fun q => q.elim (fun h => absurd h.1 (nn rfl)) (fun h => absurd h (nn rfl)))).trans ((up_c (nn rfl)).trans (hid kn_56))
  have h_58 : c_51 1 3 = c 1 3 := (hid kn_57)
  have h_59 := ir_41_2 hI
  have kn_60 : Hid (c_6 41 2 = c 41 2) := hF_8 41 2 (fun h => absurd h.1 (nn rfl))
  have kn_61 : Hid (c_51 41 2 = c 41 2) := (hF_53 41 2 (fun q => q.elim (fun h => absurd h.2 (ni rfl)) (fun h => absurd h (nn rfl)))).trans ((up_c (nn rfl)).trans (hid kn_60))
  have h_62 : c_51 41 2 = c 41 2 := (hid kn_61)
  have kn_63 : Hid (c_6 P 0 = n0) := (hF_8 P 0 (fun h => absurd h.1 (np0 hP rfl))).trans (hn0)
  have kn_64 : Hid (c_51 P 0 = n0) := (hF_53 P 0 (fun q => q.elim (fun h => absurd h.1 (np0 hP rfl)) (fun h => absurd h (np0 hP rfl)))).trans ((up_c (np0 hP rfl)).trans (hid kn_63))
  have h_65 : c_51 P 0 = n0 := (hid kn_64)
  have kn_66 : Hid (c_6 41 20 = n0) := (hF_8 41 20 (fun h => absurd h.1 (nn rfl))).trans (hm0)
  have kn_67 : Hid (c_51 41 20 = n0) := (hF_53 41 20 (fun q => q.elim (fun h => absurd h.2 (ni rfl)) (fun h => absurd h (nn rfl)))).trans ((up_c (nn rfl)).trans (hid kn_66))
  have h_68 : c_51 41 20 = n0 := (hid kn_67)
  have kn_69 : Hid (c_6 P 1 = n1) := (hF_8 P 1 (fun h => absurd h.1 (np0 hP rfl))).trans (hn1)
  have kn_70 : Hid (c_51 P 1 = n1) := (hF_53 P 1 (fun q => q.elim (fun h => absurd h.1 (np0 hP rfl)) (fun h => absurd h (np0 hP rfl)))).trans ((up_c (np0 hP rfl)).trans (hid kn_69))
  have h_71 : c_51 P 1 = n1 := (hid kn_70)
  have kn_72 : Hid (c_6 41 21 = n1) := (hF_8 41 21 (fun h => absurd h.1 (nn rfl))).trans (hm1)
  have kn_73 : Hid (c_51 41 21 = n1) := (hF_53 41 21 (fun q => q.elim (fun h => absurd h.2 (ni rfl)) (fun h => absurd h (nn rfl)))).trans ((up_c (nn rfl)).trans (hid kn_72))
  have h_74 : c_51 41 21 = n1 := (hid kn_73)
  have kn_75 : Hid (c_6 P 2 = n2) := (hF_8 P 2 (fun h => absurd h.1 (np0 hP rfl))).trans (hn2)
  have kn_76 : Hid (c_51 P 2 = n2) := (hF_53 P 2 (fun q => q.elim (fun h => absurd h.1 (np0 hP rfl)) (fun h => absurd h (np0 hP rfl)))).trans ((up_c (np0 hP rfl)).trans (hid kn_75))
  have h_77 : c_51 P 2 = n2 := (hid kn_76)
  have kn_78 : Hid (c_6 41 22 = n2) := (hF_8 41 22 (fun h => absurd h.1 (nn rfl))).trans (hm2)
  have kn_79 : Hid (c_51 41 22 = n2) := (hF_53 41 22 (fun q => q.elim (fun h => absurd h.2 (ni rfl)) (fun h => absurd h (nn rfl)))).trans ((up_c (nn rfl)).trans (hid kn_78))
  have h_80 : c_51 41 22 = n2 := (hid kn_79)
  have kn_81 : Hid (c_6 P 3 = n3) := (hF_8 P 3 (fun h => absurd h.1 (np0 hP rfl))).trans (hn3)
  have kn_82 : Hid (c_51 P 3 = n3) := (hF_53 P 3 (fun q => q.elim (fun h => absurd h.1 (np0 hP rfl)) (fun h => absurd h (np0 hP rfl)))).trans ((up_c (np0 hP rfl)).trans (hid kn_81))
  have h_83 : c_51 P 3 = n3 := (hid kn_82)
  have kn_84 : Hid (c_6 41 23 = n3) := (hF_8 41 23 (fun h => absurd h.1 (nn rfl))).trans (hm3)
  have kn_85 : Hid (c_51 41 23 = n3) := (hF_53 41 23 (fun q => q.elim (fun h => absurd h.2 (ni rfl)) (fun h => absurd h (nn rfl)))).trans ((up_c (nn rfl)).trans (hid kn_84))
  have h_86 : c_51 41 23 = n3 := (hid kn_85)
  have h_87 : c_51 P 1 = n1 := (hid kn_70)
  have hA_88 : Ae (3 * n1) (c_51 (P + 2)) (c_51 48) := ae_fr hAshares (fun j => (hF_53 (P + 2) j (fun q => q.elim (fun h => absurd h.1 (np hP rfl rfl)) (fun h => absurd h (np hP rfl rfl)))).trans ((up_c (np hP rfl rfl)).trans (hF_8 (P + 2) j (fun h => absurd h.1 (np hP rfl rfl))))) (fun j => (hF_53 48 j (fun q => q.elim (fun h => absurd h.1 (nn rfl)) (fun h => absurd h (nn rfl)))).trans ((up_c (nn rfl)).trans (hF_8 48 j (fun h => absurd h.1 (nn rfl)))))
  have h_89 : c_51 P 2 = n2 := (hid kn_76)
  have hA_90 : Ae n2 (c_51 (P + 3)) (c_51 49) := ae_fr hAmeshes (fun j => (hF_53 (P + 3) j (fun q => q.elim (fun h => absurd h.1 (np hP rfl rfl)) (fun h => absurd h (np hP rfl rfl)))).trans ((up_c (np hP rfl rfl)).trans (hF_8 (P + 3) j (fun h => absurd h.1 (np hP rfl rfl))))) (fun j => (hF_53 49 j (fun q => q.elim (fun h => absurd h.1 (nn rfl)) (fun h => absurd h (nn rfl)))).trans ((up_c (nn rfl)).trans (hF_8 49 j (fun h => absurd h.1 (nn rfl)))))
  exact K P Q c_51 0 (by decide) hI_52 ⟨by omega, ub_fr hU (fun j => (hF_53 2 j (fun q => q.elim (fun h => absurd h.1 (nn rfl)) (fun h => absurd h (nn rfl)))).trans ((up_c (nn rfl)).trans (hF_8 2 j (fun h => absurd h.1 (nn rfl))))) (fun j => (hF_53 43 j (fun q => q.elim (fun h => absurd h.1 (nn rfl)) (fun h => absurd h (nn rfl)))).trans ((up_c (nn rfl)).trans (hF_8 43 j (fun h => absurd h.1 (nn rfl))))), ⟨by omega, by omega, by omega, by omega⟩, ae_le hA_88 (by omega), ae_le hA_90 (by omega)⟩

set_option maxRecDepth 100000 in
set_option maxHeartbeats 4000000 in
theorem o_24 {xs : Nat → Int32} {L i0 d nc ns P Q : Nat} {c : ME} {Z : AR → Prop} (hi : i0 + 8 ≤ L) (hL : L ≤ 100000) (hI : Iv 0 (-1) P Q c) (hR : Rq P c) (K : ∀ (P2 Q2 : Nat) (c2 : ME) (e : Nat), e ≤ 1 → Iv 0 (-1) P2 Q2 c2 → (Rq P2 c2) → Wp (a_scr L xs) (d + 90) 296 1844 [(4, vi (i0 : Int)), (3, .ref 67), (2, .ref 41), (1, .ref 0), (0, .ref a_SC)] [] (Wd P2 Q2 P2 P2 c2) (nc + e) (ns + 6 * e) Z) : Wp (a_scr L xs) (d + 90) 296 1235 [(4, vi (i0 : Int)), (3, .ref 67), (2, .ref 41), (1, .ref 0), (0, .ref a_SC)] [] (Wd P Q P P c) nc ns Z := by
  obtain ⟨x1, hx1⟩ : ∃ z, (xs (i0 + 1)).toInt = z := ⟨_, rfl⟩
  have x1r := c_rng (xs (i0 + 1))
  rw [hx1] at x1r
  obtain ⟨x2, hx2⟩ : ∃ z, (xs (i0 + 2)).toInt = z := ⟨_, rfl⟩
  have x2r := c_rng (xs (i0 + 2))
  rw [hx2] at x2r
  obtain ⟨x3, hx3⟩ : ∃ z, (xs (i0 + 3)).toInt = z := ⟨_, rfl⟩
  have x3r := c_rng (xs (i0 + 3))
  rw [hx3] at x3r
  obtain ⟨x4, hx4⟩ : ∃ z, (xs (i0 + 4)).toInt = z := ⟨_, rfl⟩
  have x4r := c_rng (xs (i0 + 4))
  rw [hx4] at x4r
  obtain ⟨x5, hx5⟩ : ∃ z, (xs (i0 + 5)).toInt = z := ⟨_, rfl⟩
  have x5r := c_rng (xs (i0 + 5))
  rw [hx5] at x5r
  obtain ⟨x6, hx6⟩ : ∃ z, (xs (i0 + 6)).toInt = z := ⟨_, rfl⟩
  have x6r := c_rng (xs (i0 + 6))
  rw [hx6] at x6r
  obtain ⟨x7, hx7⟩ : ∃ z, (xs (i0 + 7)).toInt = z := ⟨_, rfl⟩
  have x7r := c_rng (xs (i0 + 7))
  rw [hx7] at x7r
  have hT := rl_t hR
  have hU := rl_u hR
  have hP := iv_P hI
  obtain ⟨n0, hn0⟩ : ∃ z, c P 0 = z := ⟨_, rfl⟩
  have hm0 : c 41 20 = n0 := (rl_nums hR).1.symm.trans hn0
  have hr0 := ir_p0_0 hI hP
  rw [hn0] at hr0
  obtain ⟨n1, hn1⟩ : ∃ z, c P 1 = z := ⟨_, rfl⟩
  have hm1 : c 41 21 = n1 := (rl_nums hR).2.1.symm.trans hn1
  have hr1 := ir_p0_1 hI hP
  rw [hn1] at hr1
  obtain ⟨n2, hn2⟩ : ∃ z, c P 2 = z := ⟨_, rfl⟩
  have hm2 : c 41 22 = n2 := (rl_nums hR).2.2.1.symm.trans hn2
  have hr2 := ir_p0_2 hI hP
  rw [hn2] at hr2
  obtain ⟨n3, hn3⟩ : ∃ z, c P 3 = z := ⟨_, rfl⟩
  have hm3 : c 41 23 = n3 := (rl_nums hR).2.2.2.symm.trans hn3
  have hr3 := ir_p0_3 hI hP
  rw [hn3] at hr3
  have h_1 : c P 1 = n1 := (hn1)
  have hAshares : Ae (3 * n1) (c (P + 2)) (c 48) := ae_le (rl_shares hR) (by omega)
  have h_2 : c P 2 = n2 := (hn2)
  have hAmeshes : Ae n2 (c (P + 3)) (c 49) := ae_le (rl_meshes hR) (by omega)
  have hP := iv_P hI
  have hQ := iv_Q hI
  refine q_aload_n rfl rfl (q_aload_n rfl rfl (q_iload rfl rfl (q_iconst rfl (v_iadd (v := (i0 : Int) + 1) rfl rfl (v_scr (j := i0 + 1) rfl (by omega) (by omega) hL hx1 (q_aload_n rfl rfl (q_iload rfl rfl ?_)))))))
  refine q_iconst rfl (v_iadd (v := (i0 : Int) + 2) rfl rfl (v_scr (j := i0 + 2) rfl (by omega) (by omega) hL hx2 (q_aload_n rfl rfl (q_iload rfl rfl (q_iconst rfl (v_iadd (v := (i0 : Int) + 3) rfl rfl (v_scr (j := i0 + 3) rfl (by omega) (by omega) hL hx3 ?_)))))))
  refine q_aload_n rfl rfl (q_call rfl rfl rfl rfl (q_aload rfl rfl (q_iconst rfl (q_aload_n rfl rfl (q_iload_n rfl rfl (q_iload_n rfl rfl (q_iload_n rfl rfl ?_)))))))
  refine v_cv rfl rfl rfl rfl (Nat.le_of_ble_eq_true rfl) ⟨⟨rfl, rfl⟩, Nat.le_of_ble_eq_true rfl, rfl⟩ (Nat.le_of_ble_eq_true rfl) (Nat.le_of_ble_eq_true rfl) (s_125 (a1 := x1) (a2 := x2) (a3 := x3) hI (show (-2147483648) ≤ x1 ∧ x1 ≤ 2147483647 from ⟨by omega, by omega⟩) (show (-2147483648) ≤ x2 ∧ x2 ≤ 2147483647 from ⟨by omega, by omega⟩) (show (-2147483648) ≤ x3 ∧ x3 ≤ 2147483647 from ⟨by omega, by omega⟩) (fun c_3 hI_4 hF_5 => ?_) (fun c_6 hI_7 hF_8 => ?_) (fun c_9 y_12 hI_10 hF_11 hy_12 => ?_))
  · skip
    refine bk_thr (z := Int32.ofInt 1) rfl ⟨_, _, rfl⟩ rfl (bk_inl (q_istore rfl (Nat.le_of_ble_eq_true rfl) (q_aload_n rfl rfl (q_aload_n rfl rfl (q_iload rfl rfl (q_iconst rfl (v_iadd (v := (i0 : Int) + 1) rfl rfl ?_)))))))
    refine v_scr (j := i0 + 1) rfl (by omega) (by omega) hL hx1 (q_aload_n rfl rfl (q_iload rfl rfl (q_iconst rfl (v_iadd (v := (i0 : Int) + 2) rfl rfl (v_scr (j := i0 + 2) rfl (by omega) (by omega) hL hx2 (q_aload_n rfl rfl (q_iload rfl rfl ?_)))))))
    refine q_iconst rfl (v_iadd (v := (i0 : Int) + 3) rfl rfl (v_scr (j := i0 + 3) rfl (by omega) (by omega) hL hx3 (v_cv rfl rfl rfl rfl (Nat.le_of_ble_eq_true rfl) ⟨⟨rfl, rfl⟩, Nat.le_of_ble_eq_true rfl, rfl⟩ (Nat.le_of_ble_eq_true rfl) (Nat.le_of_ble_eq_true rfl) (s_239 (a1 := x1) (a2 := x2) (a3 := x3) hI_4 (show (-2147483648) ≤ x1 ∧ x1 ≤ 2147483647 from ⟨by omega, by omega⟩) (show (-2147483648) ≤ x2 ∧ x2 ≤ 2147483647 from ⟨by omega, by omega⟩) (show (-2147483648) ≤ x3 ∧ x3 ≤ 2147483647 from ⟨by omega, by omega⟩) (fun c_13 y_16 hI_14 hF_15 hy_16 => (bk_inl (q_istore rfl (Nat.le_of_ble_eq_true rfl) (q_goto (t := 1844) rfl rfl (Wp_ls [(4, vi (i0 : Int)), (3, .ref 67), (2, .ref 41), (1, .ref 0), (0, .ref a_SC)] (lsub_cons rfl (lsub_cons rfl (lsub_cons rfl (lsub_cons rfl (lsub_cons rfl lsub_nil))))) ?_)))))))))
    have h_17 := ir_1_3 hI
    have kn_18 : Hid (c_3 1 3 = c 1 3) := hF_5 1 3 (fun q => q.elim (fun h => absurd h.1 (nn rfl)) (fun h => absurd h.1 (nn rfl)))
    have kn_19 : Hid (c_13 1 3 = c 1 3) := (hF_15 1 3 (fun q => q.elim (fun h => absurd h.1 (nn rfl)) (fun q => q.elim (fun h => absurd h (nn rfl)) (fun h => absurd h (nn rfl))))).trans (hid kn_18)
    have h_20 : c_13 1 3 = c 1 3 := (hid kn_19)
    have h_21 := ir_41_2 hI
    have kn_22 : Hid (c_3 41 2 = c 41 2) := hF_5 41 2 (fun q => q.elim (fun h => absurd h.1 (nn rfl)) (fun h => absurd h.1 (nn rfl)))
    have kn_23 : Hid (c_13 41 2 = c 41 2) := (hF_15 41 2 (fun q => q.elim (fun h => absurd h.2 (ni rfl)) (fun q => q.elim (fun h => absurd h (nn rfl)) (fun h => absurd h (nn rfl))))).trans (hid kn_22)
    have h_24 : c_13 41 2 = c 41 2 := (hid kn_23)
    have kn_25 : Hid (c_3 P 0 = n0) := (hF_5 P 0 (fun q => q.elim (fun h => absurd h.1 (np0 hP rfl)) (fun h => absurd h.1 (np0 hP rfl)))).trans (hn0)
    have kn_26 : Hid (c_13 P 0 = n0) := (hF_15 P 0 (fun q => q.elim (fun h => absurd h.1 (np0 hP rfl)) (fun q => q.elim (fun h => absurd h (np0 hP rfl)) (fun h => absurd h (np0 hP rfl))))).trans (hid kn_25)
    have h_27 : c_13 P 0 = n0 := (hid kn_26)
    have kn_28 : Hid (c_3 41 20 = n0) := (hF_5 41 20 (fun q => q.elim (fun h => absurd h.1 (nn rfl)) (fun h => absurd h.1 (nn rfl)))).trans (hm0)
    have kn_29 : Hid (c_13 41 20 = n0) := (hF_15 41 20 (fun q => q.elim (fun h => absurd h.2 (ni rfl)) (fun q => q.elim (fun h => absurd h (nn rfl)) (fun h => absurd h (nn rfl))))).trans (hid kn_28)
    have h_30 : c_13 41 20 = n0 := (hid kn_29)
    have kn_31 : Hid (c_3 P 1 = n1) := (hF_5 P 1 (fun q => q.elim (fun h => absurd h.1 (np0 hP rfl)) (fun h => absurd h.1 (np0 hP rfl)))).trans (hn1)
    have kn_32 : Hid (c_13 P 1 = n1) := (hF_15 P 1 (fun q => q.elim (fun h => absurd h.1 (np0 hP rfl)) (fun q => q.elim (fun h => absurd h (np0 hP rfl)) (fun h => absurd h (np0 hP rfl))))).trans (hid kn_31)
    have h_33 : c_13 P 1 = n1 := (hid kn_32)
    have kn_34 : Hid (c_3 41 21 = n1) := (hF_5 41 21 (fun q => q.elim (fun h => absurd h.1 (nn rfl)) (fun h => absurd h.1 (nn rfl)))).trans (hm1)
    have kn_35 : Hid (c_13 41 21 = n1) := (hF_15 41 21 (fun q => q.elim (fun h => absurd h.2 (ni rfl)) (fun q => q.elim (fun h => absurd h (nn rfl)) (fun h => absurd h (nn rfl))))).trans (hid kn_34)
    have h_36 : c_13 41 21 = n1 := (hid kn_35)
    have kn_37 : Hid (c_3 P 2 = n2) := (hF_5 P 2 (fun q => q.elim (fun h => absurd h.1 (np0 hP rfl)) (fun h => absurd h.1 (np0 hP rfl)))).trans (hn2)
    have kn_38 : Hid (c_13 P 2 = n2) := (hF_15 P 2 (fun q => q.elim (fun h => absurd h.1 (np0 hP rfl)) (fun q => q.elim (fun h => absurd h (np0 hP rfl)) (fun h => absurd h (np0 hP rfl))))).trans (hid kn_37)
    have h_39 : c_13 P 2 = n2 := (hid kn_38)
    have kn_40 : Hid (c_3 41 22 = n2) := (hF_5 41 22 (fun q => q.elim (fun h => absurd h.1 (nn rfl)) (fun h => absurd h.1 (nn rfl)))).trans (hm2)
    have kn_41 : Hid (c_13 41 22 = n2) := (hF_15 41 22 (fun q => q.elim (fun h => absurd h.2 (ni rfl)) (fun q => q.elim (fun h => absurd h (nn rfl)) (fun h => absurd h (nn rfl))))).trans (hid kn_40)
    have h_42 : c_13 41 22 = n2 := (hid kn_41)
    have kn_43 : Hid (c_3 P 3 = n3) := (hF_5 P 3 (fun q => q.elim (fun h => absurd h.1 (np0 hP rfl)) (fun h => absurd h.1 (np0 hP rfl)))).trans (hn3)
    have kn_44 : Hid (c_13 P 3 = n3) := (hF_15 P 3 (fun q => q.elim (fun h => absurd h.1 (np0 hP rfl)) (fun q => q.elim (fun h => absurd h (np0 hP rfl)) (fun h => absurd h (np0 hP rfl))))).trans (hid kn_43)
    have h_45 : c_13 P 3 = n3 := (hid kn_44)
    have kn_46 : Hid (c_3 41 23 = n3) := (hF_5 41 23 (fun q => q.elim (fun h => absurd h.1 (nn rfl)) (fun h => absurd h.1 (nn rfl)))).trans (hm3)
    have kn_47 : Hid (c_13 41 23 = n3) := (hF_15 41 23 (fun q => q.elim (fun h => absurd h.2 (ni rfl)) (fun q => q.elim (fun h => absurd h (nn rfl)) (fun h => absurd h (nn rfl))))).trans (hid kn_46)
    have h_48 : c_13 41 23 = n3 := (hid kn_47)
    have h_49 : c_13 P 1 = n1 := (hid kn_32)
    have hA_50 : Ae (3 * n1) (c_13 (P + 2)) (c_13 48) := ae_fr hAshares (fun j => (hF_15 (P + 2) j (fun q => q.elim (fun h => absurd h.1 (np hP rfl rfl)) (fun q => q.elim (fun h => absurd h (np hP rfl rfl)) (fun h => absurd h (np hP rfl rfl))))).trans (hF_5 (P + 2) j (fun q => q.elim (fun h => absurd h.1 (np hP rfl rfl)) (fun h => absurd h.1 (np hP rfl rfl))))) (fun j => (hF_15 48 j (fun q => q.elim (fun h => absurd h.1 (nn rfl)) (fun q => q.elim (fun h => absurd h (nn rfl)) (fun h => absurd h (nn rfl))))).trans (hF_5 48 j (fun q => q.elim (fun h => absurd h.1 (nn rfl)) (fun h => absurd h.1 (nn rfl)))))
    have h_51 : c_13 P 2 = n2 := (hid kn_38)
    have hA_52 : Ae n2 (c_13 (P + 3)) (c_13 49) := ae_fr hAmeshes (fun j => (hF_15 (P + 3) j (fun q => q.elim (fun h => absurd h.1 (np hP rfl rfl)) (fun q => q.elim (fun h => absurd h (np hP rfl rfl)) (fun h => absurd h (np hP rfl rfl))))).trans (hF_5 (P + 3) j (fun q => q.elim (fun h => absurd h.1 (np hP rfl rfl)) (fun h => absurd h.1 (np hP rfl rfl))))) (fun j => (hF_15 49 j (fun q => q.elim (fun h => absurd h.1 (nn rfl)) (fun q => q.elim (fun h => absurd h (nn rfl)) (fun h => absurd h (nn rfl))))).trans (hF_5 49 j (fun q => q.elim (fun h => absurd h.1 (nn rfl)) (fun h => absurd h.1 (nn rfl)))))
    exact K P Q c_13 1 (by decide) hI_14 ⟨by omega, ub_fr hU (fun j => (hF_15 2 j (fun q => q.elim (fun h => absurd h.1 (nn rfl)) (fun q => q.elim (fun h => absurd h (nn rfl)) (fun h => absurd h (nn rfl))))).trans (hF_5 2 j (fun q => q.elim (fun h => absurd h.1 (nn rfl)) (fun h => absurd h.1 (nn rfl))))) (fun j => (hF_15 43 j (fun q => q.elim (fun h => absurd h.1 (nn rfl)) (fun q => q.elim (fun h => absurd h (nn rfl)) (fun h => absurd h (nn rfl))))).trans (hF_5 43 j (fun q => q.elim (fun h => absurd h.1 (nn rfl)) (fun h => absurd h.1 (nn rfl))))), ⟨by omega, by omega, by omega, by omega⟩, ae_le hA_50 (by omega), ae_le hA_52 (by omega)⟩
  · skip
    refine bk_thr (z := Int32.ofInt 2) rfl ⟨_, _, rfl⟩ rfl (bk_inl (q_istore rfl (Nat.le_of_ble_eq_true rfl) (q_aload_n rfl rfl (q_aload_n rfl rfl (q_iload rfl rfl (q_iconst rfl (v_iadd (v := (i0 : Int) + 1) rfl rfl ?_)))))))
    refine v_scr (j := i0 + 1) rfl (by omega) (by omega) hL hx1 (q_aload_n rfl rfl (q_iload rfl rfl (q_iconst rfl (v_iadd (v := (i0 : Int) + 2) rfl rfl (v_scr (j := i0 + 2) rfl (by omega) (by omega) hL hx2 (q_aload_n rfl rfl (q_iload rfl rfl ?_)))))))
    refine q_iconst rfl (v_iadd (v := (i0 : Int) + 3) rfl rfl (v_scr (j := i0 + 3) rfl (by omega) (by omega) hL hx3 (v_cv rfl rfl rfl rfl (Nat.le_of_ble_eq_true rfl) ⟨⟨rfl, rfl⟩, Nat.le_of_ble_eq_true rfl, rfl⟩ (Nat.le_of_ble_eq_true rfl) (Nat.le_of_ble_eq_true rfl) (s_239 (a1 := x1) (a2 := x2) (a3 := x3) hI_7 (show (-2147483648) ≤ x1 ∧ x1 ≤ 2147483647 from ⟨by omega, by omega⟩) (show (-2147483648) ≤ x2 ∧ x2 ≤ 2147483647 from ⟨by omega, by omega⟩) (show (-2147483648) ≤ x3 ∧ x3 ≤ 2147483647 from ⟨by omega, by omega⟩) (fun c_53 y_56 hI_54 hF_55 hy_56 => (bk_inl (q_istore rfl (Nat.le_of_ble_eq_true rfl) (q_goto (t := 1844) rfl rfl (Wp_ls [(4, vi (i0 : Int)), (3, .ref 67), (2, .ref 41), (1, .ref 0), (0, .ref a_SC)] (lsub_cons rfl (lsub_cons rfl (lsub_cons rfl (lsub_cons rfl (lsub_cons rfl lsub_nil))))) ?_)))))))))
    have h_57 := ir_1_3 hI
    have kn_58 : Hid (c_6 1 3 = c 1 3) := hF_8 1 3 (fun q => q.elim (fun h => absurd h.1 (nn rfl)) (fun h => absurd h.1 (nn rfl)))
    have kn_59 : Hid (c_53 1 3 = c 1 3) := (hF_55 1 3 (fun q => q.elim (fun h => absurd h.1 (nn rfl)) (fun q => q.elim (fun h => absurd h (nn rfl)) (fun h => absurd h (nn rfl))))).trans (hid kn_58)
    have h_60 : c_53 1 3 = c 1 3 := (hid kn_59)
    have h_61 := ir_41_2 hI
    have kn_62 : Hid (c_6 41 2 = c 41 2) := hF_8 41 2 (fun q => q.elim (fun h => absurd h.1 (nn rfl)) (fun h => absurd h.1 (nn rfl)))
    have kn_63 : Hid (c_53 41 2 = c 41 2) := (hF_55 41 2 (fun q => q.elim (fun h => absurd h.2 (ni rfl)) (fun q => q.elim (fun h => absurd h (nn rfl)) (fun h => absurd h (nn rfl))))).trans (hid kn_62)
    have h_64 : c_53 41 2 = c 41 2 := (hid kn_63)
    have kn_65 : Hid (c_6 P 0 = n0) := (hF_8 P 0 (fun q => q.elim (fun h => absurd h.1 (np0 hP rfl)) (fun h => absurd h.1 (np0 hP rfl)))).trans (hn0)
    have kn_66 : Hid (c_53 P 0 = n0) := (hF_55 P 0 (fun q => q.elim (fun h => absurd h.1 (np0 hP rfl)) (fun q => q.elim (fun h => absurd h (np0 hP rfl)) (fun h => absurd h (np0 hP rfl))))).trans (hid kn_65)
    have h_67 : c_53 P 0 = n0 := (hid kn_66)
    have kn_68 : Hid (c_6 41 20 = n0) := (hF_8 41 20 (fun q => q.elim (fun h => absurd h.1 (nn rfl)) (fun h => absurd h.1 (nn rfl)))).trans (hm0)
    have kn_69 : Hid (c_53 41 20 = n0) := (hF_55 41 20 (fun q => q.elim (fun h => absurd h.2 (ni rfl)) (fun q => q.elim (fun h => absurd h (nn rfl)) (fun h => absurd h (nn rfl))))).trans (hid kn_68)
    have h_70 : c_53 41 20 = n0 := (hid kn_69)
    have kn_71 : Hid (c_6 P 1 = n1) := (hF_8 P 1 (fun q => q.elim (fun h => absurd h.1 (np0 hP rfl)) (fun h => absurd h.1 (np0 hP rfl)))).trans (hn1)
    have kn_72 : Hid (c_53 P 1 = n1) := (hF_55 P 1 (fun q => q.elim (fun h => absurd h.1 (np0 hP rfl)) (fun q => q.elim (fun h => absurd h (np0 hP rfl)) (fun h => absurd h (np0 hP rfl))))).trans (hid kn_71)
    have h_73 : c_53 P 1 = n1 := (hid kn_72)
    have kn_74 : Hid (c_6 41 21 = n1) := (hF_8 41 21 (fun q => q.elim (fun h => absurd h.1 (nn rfl)) (fun h => absurd h.1 (nn rfl)))).trans (hm1)
    have kn_75 : Hid (c_53 41 21 = n1) := (hF_55 41 21 (fun q => q.elim (fun h => absurd h.2 (ni rfl)) (fun q => q.elim (fun h => absurd h (nn rfl)) (fun h => absurd h (nn rfl))))).trans (hid kn_74)
    have h_76 : c_53 41 21 = n1 := (hid kn_75)
    have kn_77 : Hid (c_6 P 2 = n2) := (hF_8 P 2 (fun q => q.elim (fun h => absurd h.1 (np0 hP rfl)) (fun h => absurd h.1 (np0 hP rfl)))).trans (hn2)
    have kn_78 : Hid (c_53 P 2 = n2) := (hF_55 P 2 (fun q => q.elim (fun h => absurd h.1 (np0 hP rfl)) (fun q => q.elim (fun h => absurd h (np0 hP rfl)) (fun h => absurd h (np0 hP rfl))))).trans (hid kn_77)
    have h_79 : c_53 P 2 = n2 := (hid kn_78)
    have kn_80 : Hid (c_6 41 22 = n2) := (hF_8 41 22 (fun q => q.elim (fun h => absurd h.1 (nn rfl)) (fun h => absurd h.1 (nn rfl)))).trans (hm2)
    have kn_81 : Hid (c_53 41 22 = n2) := (hF_55 41 22 (fun q => q.elim (fun h => absurd h.2 (ni rfl)) (fun q => q.elim (fun h => absurd h (nn rfl)) (fun h => absurd h (nn rfl))))).trans (hid kn_80)
    have h_82 : c_53 41 22 = n2 := (hid kn_81)
    have kn_83 : Hid (c_6 P 3 = n3) := (hF_8 P 3 (fun q => q.elim (fun h => absurd h.1 (np0 hP rfl)) (fun h => absurd h.1 (np0 hP rfl)))).trans (hn3)
    have kn_84 : Hid (c_53 P 3 = n3) := (hF_55 P 3 (fun q => q.elim (fun h => absurd h.1 (np0 hP rfl)) (fun q => q.elim (fun h => absurd h (np0 hP rfl)) (fun h => absurd h (np0 hP rfl))))).trans (hid kn_83)
    have h_85 : c_53 P 3 = n3 := (hid kn_84)
    have kn_86 : Hid (c_6 41 23 = n3) := (hF_8 41 23 (fun q => q.elim (fun h => absurd h.1 (nn rfl)) (fun h => absurd h.1 (nn rfl)))).trans (hm3)
    have kn_87 : Hid (c_53 41 23 = n3) := (hF_55 41 23 (fun q => q.elim (fun h => absurd h.2 (ni rfl)) (fun q => q.elim (fun h => absurd h (nn rfl)) (fun h => absurd h (nn rfl))))).trans (hid kn_86)
    have h_88 : c_53 41 23 = n3 := (hid kn_87)
    have h_89 : c_53 P 1 = n1 := (hid kn_72)
    have hA_90 : Ae (3 * n1) (c_53 (P + 2)) (c_53 48) := ae_fr hAshares (fun j => (hF_55 (P + 2) j (fun q => q.elim (fun h => absurd h.1 (np hP rfl rfl)) (fun q => q.elim (fun h => absurd h (np hP rfl rfl)) (fun h => absurd h (np hP rfl rfl))))).trans (hF_8 (P + 2) j (fun q => q.elim (fun h => absurd h.1 (np hP rfl rfl)) (fun h => absurd h.1 (np hP rfl rfl))))) (fun j => (hF_55 48 j (fun q => q.elim (fun h => absurd h.1 (nn rfl)) (fun q => q.elim (fun h => absurd h (nn rfl)) (fun h => absurd h (nn rfl))))).trans (hF_8 48 j (fun q => q.elim (fun h => absurd h.1 (nn rfl)) (fun h => absurd h.1 (nn rfl)))))
    have h_91 : c_53 P 2 = n2 := (hid kn_78)
    have hA_92 : Ae n2 (c_53 (P + 3)) (c_53 49) := ae_fr hAmeshes (fun j => (hF_55 (P + 3) j (fun q => q.elim (fun h => absurd h.1 (np hP rfl rfl)) (fun q => q.elim (fun h => absurd h (np hP rfl rfl)) (fun h => absurd h (np hP rfl rfl))))).trans (hF_8 (P + 3) j (fun q => q.elim (fun h => absurd h.1 (np hP rfl rfl)) (fun h => absurd h.1 (np hP rfl rfl))))) (fun j => (hF_55 49 j (fun q => q.elim (fun h => absurd h.1 (nn rfl)) (fun q => q.elim (fun h => absurd h (nn rfl)) (fun h => absurd h (nn rfl))))).trans (hF_8 49 j (fun q => q.elim (fun h => absurd h.1 (nn rfl)) (fun h => absurd h.1 (nn rfl)))))
    exact K P Q c_53 1 (by decide) hI_54 ⟨by omega, ub_fr hU (fun j => (hF_55 2 j (fun q => q.elim (fun h => absurd h.1 (nn rfl)) (fun q => q.elim (fun h => absurd h (nn rfl)) (fun h => absurd h (nn rfl))))).trans (hF_8 2 j (fun q => q.elim (fun h => absurd h.1 (nn rfl)) (fun h => absurd h.1 (nn rfl))))) (fun j => (hF_55 43 j (fun q => q.elim (fun h => absurd h.1 (nn rfl)) (fun q => q.elim (fun h => absurd h (nn rfl)) (fun h => absurd h (nn rfl))))).trans (hF_8 43 j (fun q => q.elim (fun h => absurd h.1 (nn rfl)) (fun h => absurd h.1 (nn rfl))))), ⟨by omega, by omega, by omega, by omega⟩, ae_le hA_90 (by omega), ae_le hA_92 (by omega)⟩
  refine bk_inl (v_i2l rfl (by omega) (v_ls rfl rfl (by decide) (by decide) (by decide) (q_goto (t := 23) rfl rfl (q_iconst rfl (q_iret rfl rfl (bk_inl (q_istore rfl (Nat.le_of_ble_eq_true rfl) ?_)))))))
  refine q_aload_n rfl rfl (q_aload_n rfl rfl (q_iload rfl rfl (q_iconst rfl (v_iadd (v := (i0 : Int) + 1) rfl rfl (v_scr (j := i0 + 1) rfl (by omega) (by omega) hL hx1 (q_aload_n rfl rfl (q_iload rfl rfl ?_)))))))
  refine q_iconst rfl (v_iadd (v := (i0 : Int) + 2) rfl rfl (v_scr (j := i0 + 2) rfl (by omega) (by omega) hL hx2 (q_aload_n rfl rfl (q_iload rfl rfl (q_iconst rfl (v_iadd (v := (i0 : Int) + 3) rfl rfl (v_scr (j := i0 + 3) rfl (by omega) (by omega) hL hx3 ?_)))))))
  have hI_93 := iw_lx (a := 67) (j := 0) (v := y_12) hI_10 (by omega)
  refine v_cv rfl rfl rfl rfl (Nat.le_of_ble_eq_true rfl) ⟨⟨rfl, rfl⟩, Nat.le_of_ble_eq_true rfl, rfl⟩ (Nat.le_of_ble_eq_true rfl) (Nat.le_of_ble_eq_true rfl) (s_239 (a1 := x1) (a2 := x2) (a3 := x3) hI_93 (show (-2147483648) ≤ x1 ∧ x1 ≤ 2147483647 from ⟨by omega, by omega⟩) (show (-2147483648) ≤ x2 ∧ x2 ≤ 2147483647 from ⟨by omega, by omega⟩) (show (-2147483648) ≤ x3 ∧ x3 ≤ 2147483647 from ⟨by omega, by omega⟩) (fun c_94 y_97 hI_95 hF_96 hy_97 => (bk_inl (q_istore rfl (Nat.le_of_ble_eq_true rfl) (q_goto (t := 1844) rfl rfl (Wp_ls [(4, vi (i0 : Int)), (3, .ref 67), (2, .ref 41), (1, .ref 0), (0, .ref a_SC)] (lsub_cons rfl (lsub_cons rfl (lsub_cons rfl (lsub_cons rfl (lsub_cons rfl lsub_nil))))) ?_))))))
  have h_98 := ir_1_3 hI
  have kn_99 : Hid (c_9 1 3 = c 1 3) := hF_11 1 3 (fun q => q.elim (fun h => absurd h.1 (nn rfl)) (fun h => absurd h.1 (nn rfl)))
  have kn_100 : Hid (c_94 1 3 = c 1 3) := (hF_96 1 3 (fun q => q.elim (fun h => absurd h.1 (nn rfl)) (fun q => q.elim (fun h => absurd h (nn rfl)) (fun h => absurd h (nn rfl))))).trans ((up_c (nn rfl)).trans (hid kn_99))
  have h_101 : c_94 1 3 = c 1 3 := (hid kn_100)
  have h_102 := ir_41_2 hI
  have kn_103 : Hid (c_9 41 2 = c 41 2) := hF_11 41 2 (fun q => q.elim (fun h => absurd h.1 (nn rfl)) (fun h => absurd h.1 (nn rfl)))
  have kn_104 : Hid (c_94 41 2 = c 41 2) := (hF_96 41 2 (fun q => q.elim (fun h => absurd h.2 (ni rfl)) (fun q => q.elim (fun h => absurd h (nn rfl)) (fun h => absurd h (nn rfl))))).trans ((up_c (nn rfl)).trans (hid kn_103))
  have h_105 : c_94 41 2 = c 41 2 := (hid kn_104)
  have kn_106 : Hid (c_9 P 0 = n0) := (hF_11 P 0 (fun q => q.elim (fun h => absurd h.1 (np0 hP rfl)) (fun h => absurd h.1 (np0 hP rfl)))).trans (hn0)
  have kn_107 : Hid (c_94 P 0 = n0) := (hF_96 P 0 (fun q => q.elim (fun h => absurd h.1 (np0 hP rfl)) (fun q => q.elim (fun h => absurd h (np0 hP rfl)) (fun h => absurd h (np0 hP rfl))))).trans ((up_c (np0 hP rfl)).trans (hid kn_106))
  have h_108 : c_94 P 0 = n0 := (hid kn_107)
  have kn_109 : Hid (c_9 41 20 = n0) := (hF_11 41 20 (fun q => q.elim (fun h => absurd h.1 (nn rfl)) (fun h => absurd h.1 (nn rfl)))).trans (hm0)
  have kn_110 : Hid (c_94 41 20 = n0) := (hF_96 41 20 (fun q => q.elim (fun h => absurd h.2 (ni rfl)) (fun q => q.elim (fun h => absurd h (nn rfl)) (fun h => absurd h (nn rfl))))).trans ((up_c (nn rfl)).trans (hid kn_109))
  have h_111 : c_94 41 20 = n0 := (hid kn_110)
  have kn_112 : Hid (c_9 P 1 = n1) := (hF_11 P 1 (fun q => q.elim (fun h => absurd h.1 (np0 hP rfl)) (fun h => absurd h.1 (np0 hP rfl)))).trans (hn1)
  have kn_113 : Hid (c_94 P 1 = n1) := (hF_96 P 1 (fun q => q.elim (fun h => absurd h.1 (np0 hP rfl)) (fun q => q.elim (fun h => absurd h (np0 hP rfl)) (fun h => absurd h (np0 hP rfl))))).trans ((up_c (np0 hP rfl)).trans (hid kn_112))
  have h_114 : c_94 P 1 = n1 := (hid kn_113)
  have kn_115 : Hid (c_9 41 21 = n1) := (hF_11 41 21 (fun q => q.elim (fun h => absurd h.1 (nn rfl)) (fun h => absurd h.1 (nn rfl)))).trans (hm1)
  have kn_116 : Hid (c_94 41 21 = n1) := (hF_96 41 21 (fun q => q.elim (fun h => absurd h.2 (ni rfl)) (fun q => q.elim (fun h => absurd h (nn rfl)) (fun h => absurd h (nn rfl))))).trans ((up_c (nn rfl)).trans (hid kn_115))
  have h_117 : c_94 41 21 = n1 := (hid kn_116)
  have kn_118 : Hid (c_9 P 2 = n2) := (hF_11 P 2 (fun q => q.elim (fun h => absurd h.1 (np0 hP rfl)) (fun h => absurd h.1 (np0 hP rfl)))).trans (hn2)
  have kn_119 : Hid (c_94 P 2 = n2) := (hF_96 P 2 (fun q => q.elim (fun h => absurd h.1 (np0 hP rfl)) (fun q => q.elim (fun h => absurd h (np0 hP rfl)) (fun h => absurd h (np0 hP rfl))))).trans ((up_c (np0 hP rfl)).trans (hid kn_118))
  have h_120 : c_94 P 2 = n2 := (hid kn_119)
  have kn_121 : Hid (c_9 41 22 = n2) := (hF_11 41 22 (fun q => q.elim (fun h => absurd h.1 (nn rfl)) (fun h => absurd h.1 (nn rfl)))).trans (hm2)
  have kn_122 : Hid (c_94 41 22 = n2) := (hF_96 41 22 (fun q => q.elim (fun h => absurd h.2 (ni rfl)) (fun q => q.elim (fun h => absurd h (nn rfl)) (fun h => absurd h (nn rfl))))).trans ((up_c (nn rfl)).trans (hid kn_121))
  have h_123 : c_94 41 22 = n2 := (hid kn_122)
  have kn_124 : Hid (c_9 P 3 = n3) := (hF_11 P 3 (fun q => q.elim (fun h => absurd h.1 (np0 hP rfl)) (fun h => absurd h.1 (np0 hP rfl)))).trans (hn3)
  have kn_125 : Hid (c_94 P 3 = n3) := (hF_96 P 3 (fun q => q.elim (fun h => absurd h.1 (np0 hP rfl)) (fun q => q.elim (fun h => absurd h (np0 hP rfl)) (fun h => absurd h (np0 hP rfl))))).trans ((up_c (np0 hP rfl)).trans (hid kn_124))
  have h_126 : c_94 P 3 = n3 := (hid kn_125)
  have kn_127 : Hid (c_9 41 23 = n3) := (hF_11 41 23 (fun q => q.elim (fun h => absurd h.1 (nn rfl)) (fun h => absurd h.1 (nn rfl)))).trans (hm3)
  have kn_128 : Hid (c_94 41 23 = n3) := (hF_96 41 23 (fun q => q.elim (fun h => absurd h.2 (ni rfl)) (fun q => q.elim (fun h => absurd h (nn rfl)) (fun h => absurd h (nn rfl))))).trans ((up_c (nn rfl)).trans (hid kn_127))
  have h_129 : c_94 41 23 = n3 := (hid kn_128)
  have h_130 : c_94 P 1 = n1 := (hid kn_113)
  have hA_131 : Ae (3 * n1) (c_94 (P + 2)) (c_94 48) := ae_fr hAshares (fun j => (hF_96 (P + 2) j (fun q => q.elim (fun h => absurd h.1 (np hP rfl rfl)) (fun q => q.elim (fun h => absurd h (np hP rfl rfl)) (fun h => absurd h (np hP rfl rfl))))).trans ((up_c (np hP rfl rfl)).trans (hF_11 (P + 2) j (fun q => q.elim (fun h => absurd h.1 (np hP rfl rfl)) (fun h => absurd h.1 (np hP rfl rfl)))))) (fun j => (hF_96 48 j (fun q => q.elim (fun h => absurd h.1 (nn rfl)) (fun q => q.elim (fun h => absurd h (nn rfl)) (fun h => absurd h (nn rfl))))).trans ((up_c (nn rfl)).trans (hF_11 48 j (fun q => q.elim (fun h => absurd h.1 (nn rfl)) (fun h => absurd h.1 (nn rfl))))))
  have h_132 : c_94 P 2 = n2 := (hid kn_119)
  have hA_133 : Ae n2 (c_94 (P + 3)) (c_94 49) := ae_fr hAmeshes (fun j => (hF_96 (P + 3) j (fun q => q.elim (fun h => absurd h.1 (np hP rfl rfl)) (fun q => q.elim (fun h => absurd h (np hP rfl rfl)) (fun h => absurd h (np hP rfl rfl))))).trans ((up_c (np hP rfl rfl)).trans (hF_11 (P + 3) j (fun q => q.elim (fun h => absurd h.1 (np hP rfl rfl)) (fun h => absurd h.1 (np hP rfl rfl)))))) (fun j => (hF_96 49 j (fun q => q.elim (fun h => absurd h.1 (nn rfl)) (fun q => q.elim (fun h => absurd h (nn rfl)) (fun h => absurd h (nn rfl))))).trans ((up_c (nn rfl)).trans (hF_11 49 j (fun q => q.elim (fun h => absurd h.1 (nn rfl)) (fun h => absurd h.1 (nn rfl))))))
  exact K P Q c_94 0 (by decide) hI_95 ⟨by omega, ub_fr hU (fun j => (hF_96 2 j (fun q => q.elim (fun h => absurd h.1 (nn rfl)) (fun q => q.elim (fun h => absurd h (nn rfl)) (fun h => absurd h (nn rfl))))).trans ((up_c (nn rfl)).trans (hF_11 2 j (fun q => q.elim (fun h => absurd h.1 (nn rfl)) (fun h => absurd h.1 (nn rfl)))))) (fun j => (hF_96 43 j (fun q => q.elim (fun h => absurd h.1 (nn rfl)) (fun q => q.elim (fun h => absurd h (nn rfl)) (fun h => absurd h (nn rfl))))).trans ((up_c (nn rfl)).trans (hF_11 43 j (fun q => q.elim (fun h => absurd h.1 (nn rfl)) (fun h => absurd h.1 (nn rfl)))))), ⟨by omega, by omega, by omega, by omega⟩, ae_le hA_131 (by omega), ae_le hA_133 (by omega)⟩

set_option maxRecDepth 100000 in
set_option maxHeartbeats 4000000 in
theorem o_25 {xs : Nat → Int32} {L i0 d nc ns P Q : Nat} {c : ME} {Z : AR → Prop} (hi : i0 + 8 ≤ L) (hL : L ≤ 100000) (hI : Iv 0 (-1) P Q c) (hR : Rq P c) (K : ∀ (P2 Q2 : Nat) (c2 : ME) (e : Nat), e ≤ 1 → Iv 0 (-1) P2 Q2 c2 → (Rq P2 c2) → Wp (a_scr L xs) (d + 90) 296 1844 [(4, vi (i0 : Int)), (3, .ref 67), (2, .ref 41), (1, .ref 0), (0, .ref a_SC)] [] (Wd P2 Q2 P2 P2 c2) (nc + e) (ns + 6 * e) Z) : Wp (a_scr L xs) (d + 90) 296 1287 [(4, vi (i0 : Int)), (3, .ref 67), (2, .ref 41), (1, .ref 0), (0, .ref a_SC)] [] (Wd P Q P P c) nc ns Z := by
  obtain ⟨x1, hx1⟩ : ∃ z, (xs (i0 + 1)).toInt = z := ⟨_, rfl⟩
  have x1r := c_rng (xs (i0 + 1))
  rw [hx1] at x1r
  obtain ⟨x2, hx2⟩ : ∃ z, (xs (i0 + 2)).toInt = z := ⟨_, rfl⟩
  have x2r := c_rng (xs (i0 + 2))
  rw [hx2] at x2r
  obtain ⟨x3, hx3⟩ : ∃ z, (xs (i0 + 3)).toInt = z := ⟨_, rfl⟩
  have x3r := c_rng (xs (i0 + 3))
  rw [hx3] at x3r
  obtain ⟨x4, hx4⟩ : ∃ z, (xs (i0 + 4)).toInt = z := ⟨_, rfl⟩
  have x4r := c_rng (xs (i0 + 4))
  rw [hx4] at x4r
  obtain ⟨x5, hx5⟩ : ∃ z, (xs (i0 + 5)).toInt = z := ⟨_, rfl⟩
  have x5r := c_rng (xs (i0 + 5))
  rw [hx5] at x5r
  obtain ⟨x6, hx6⟩ : ∃ z, (xs (i0 + 6)).toInt = z := ⟨_, rfl⟩
  have x6r := c_rng (xs (i0 + 6))
  rw [hx6] at x6r
  obtain ⟨x7, hx7⟩ : ∃ z, (xs (i0 + 7)).toInt = z := ⟨_, rfl⟩
  have x7r := c_rng (xs (i0 + 7))
  rw [hx7] at x7r
  have hT := rl_t hR
  have hU := rl_u hR
  have hP := iv_P hI
  obtain ⟨n0, hn0⟩ : ∃ z, c P 0 = z := ⟨_, rfl⟩
  have hm0 : c 41 20 = n0 := (rl_nums hR).1.symm.trans hn0
  have hr0 := ir_p0_0 hI hP
  rw [hn0] at hr0
  obtain ⟨n1, hn1⟩ : ∃ z, c P 1 = z := ⟨_, rfl⟩
  have hm1 : c 41 21 = n1 := (rl_nums hR).2.1.symm.trans hn1
  have hr1 := ir_p0_1 hI hP
  rw [hn1] at hr1
  obtain ⟨n2, hn2⟩ : ∃ z, c P 2 = z := ⟨_, rfl⟩
  have hm2 : c 41 22 = n2 := (rl_nums hR).2.2.1.symm.trans hn2
  have hr2 := ir_p0_2 hI hP
  rw [hn2] at hr2
  obtain ⟨n3, hn3⟩ : ∃ z, c P 3 = z := ⟨_, rfl⟩
  have hm3 : c 41 23 = n3 := (rl_nums hR).2.2.2.symm.trans hn3
  have hr3 := ir_p0_3 hI hP
  rw [hn3] at hr3
  have h_1 : c P 1 = n1 := (hn1)
  have hAshares : Ae (3 * n1) (c (P + 2)) (c 48) := ae_le (rl_shares hR) (by omega)
  have h_2 : c P 2 = n2 := (hn2)
  have hAmeshes : Ae n2 (c (P + 3)) (c 49) := ae_le (rl_meshes hR) (by omega)
  have hP := iv_P hI
  have hQ := iv_Q hI
  refine q_aload_n rfl rfl (q_aload_n rfl rfl (q_iload rfl rfl (q_iconst rfl (v_iadd (v := (i0 : Int) + 1) rfl rfl (v_scr (j := i0 + 1) rfl (by omega) (by omega) hL hx1 (q_aload_n rfl rfl (q_call rfl rfl rfl rfl ?_)))))))
  refine q_aload_n rfl rfl (q_iconst rfl (q_aload_n rfl rfl (q_iload_n rfl rfl ?_)))
  refine v_cv rfl rfl rfl rfl (Nat.le_of_ble_eq_true rfl) ⟨⟨rfl, rfl⟩, Nat.le_of_ble_eq_true rfl, rfl⟩ (Nat.le_of_ble_eq_true rfl) (Nat.le_of_ble_eq_true rfl) (s_105 (a1 := x1) hI (show (-2147483648) ≤ x1 ∧ x1 ≤ 2147483647 from ⟨by omega, by omega⟩) (fun c_3 hI_4 hF_5 => ?_) (fun c_6 y_9 hI_7 hF_8 hy_9 => ?_))
  · skip
    refine bk_thr (z := Int32.ofInt 1) rfl ⟨_, _, rfl⟩ rfl (bk_inl (q_istore rfl (Nat.le_of_ble_eq_true rfl) (q_aload_n rfl rfl (q_aload_n rfl rfl (q_iload rfl rfl (q_iconst rfl (v_iadd (v := (i0 : Int) + 1) rfl rfl ?_)))))))
    refine v_scr (j := i0 + 1) rfl (by omega) (by omega) hL hx1 (v_cv rfl rfl rfl rfl (Nat.le_of_ble_eq_true rfl) ⟨⟨rfl, rfl⟩, Nat.le_of_ble_eq_true rfl, rfl⟩ (Nat.le_of_ble_eq_true rfl) (Nat.le_of_ble_eq_true rfl) (s_240 (a1 := x1) hI_4 (show (-2147483648) ≤ x1 ∧ x1 ≤ 2147483647 from ⟨by omega, by omega⟩) (fun c_10 y_13 hI_11 hF_12 hy_13 => (bk_inl (q_istore rfl (Nat.le_of_ble_eq_true rfl) (q_goto (t := 1844) rfl rfl (Wp_ls [(4, vi (i0 : Int)), (3, .ref 67), (2, .ref 41), (1, .ref 0), (0, .ref a_SC)] (lsub_cons rfl (lsub_cons rfl (lsub_cons rfl (lsub_cons rfl (lsub_cons rfl lsub_nil))))) ?_)))))))
    have h_14 := ir_1_3 hI
    have kn_15 : Hid (c_3 1 3 = c 1 3) := hF_5 1 3 (fun q => q.elim (fun h => absurd h.1 (nn rfl)) (fun q => q.elim (fun h => absurd h (pn hP rfl rfl)) (fun h => absurd h (pn hP rfl rfl))))
    have kn_16 : Hid (c_10 1 3 = c 1 3) := (hF_12 1 3 (fun q => q.elim (fun h => absurd h.1 (nn rfl)) (fun q => q.elim (fun h => absurd h (nn rfl)) (fun q => q.elim (fun h => absurd h (nn rfl)) (fun q => q.elim (fun h => absurd h (nn rfl)) (fun h => absurd h (nn rfl))))))).trans (hid kn_15)
    have h_17 : c_10 1 3 = c 1 3 := (hid kn_16)
    have h_18 := ir_41_2 hI
    have kn_19 : Hid (c_3 41 2 = c 41 2) := hF_5 41 2 (fun q => q.elim (fun h => absurd h.1 (nn rfl)) (fun q => q.elim (fun h => absurd h (pn hP rfl rfl)) (fun h => absurd h (pn hP rfl rfl))))
    have kn_20 : Hid (c_10 41 2 = c 41 2) := (hF_12 41 2 (fun q => q.elim (fun h => absurd h.2 (ni rfl)) (fun q => q.elim (fun h => absurd h (nn rfl)) (fun q => q.elim (fun h => absurd h (nn rfl)) (fun q => q.elim (fun h => absurd h (nn rfl)) (fun h => absurd h (nn rfl))))))).trans (hid kn_19)
    have h_21 : c_10 41 2 = c 41 2 := (hid kn_20)
    have kn_22 : Hid (c_3 P 0 = n0) := (hF_5 P 0 (fun q => q.elim (fun h => absurd h.1 (np0 hP rfl)) (fun q => q.elim (fun h => absurd h (p0p rfl)) (fun h => absurd h (p0p rfl))))).trans (hn0)
    have kn_23 : Hid (c_10 P 0 = n0) := (hF_12 P 0 (fun q => q.elim (fun h => absurd h.1 (np0 hP rfl)) (fun q => q.elim (fun h => absurd h (np0 hP rfl)) (fun q => q.elim (fun h => absurd h (np0 hP rfl)) (fun q => q.elim (fun h => absurd h (np0 hP rfl)) (fun h => absurd h (np0 hP rfl))))))).trans (hid kn_22)
    have h_24 : c_10 P 0 = n0 := (hid kn_23)
    have kn_25 : Hid (c_3 41 20 = n0) := (hF_5 41 20 (fun q => q.elim (fun h => absurd h.1 (nn rfl)) (fun q => q.elim (fun h => absurd h (pn hP rfl rfl)) (fun h => absurd h (pn hP rfl rfl))))).trans (hm0)
    have kn_26 : Hid (c_10 41 20 = n0) := (hF_12 41 20 (fun q => q.elim (fun h => absurd h.2 (ni rfl)) (fun q => q.elim (fun h => absurd h (nn rfl)) (fun q => q.elim (fun h => absurd h (nn rfl)) (fun q => q.elim (fun h => absurd h (nn rfl)) (fun h => absurd h (nn rfl))))))).trans (hid kn_25)
    have h_27 : c_10 41 20 = n0 := (hid kn_26)
    have kn_28 : Hid (c_3 P 1 = n1) := (hF_5 P 1 (fun q => q.elim (fun h => absurd h.1 (np0 hP rfl)) (fun q => q.elim (fun h => absurd h (p0p rfl)) (fun h => absurd h (p0p rfl))))).trans (hn1)
    have kn_29 : Hid (c_10 P 1 = n1) := (hF_12 P 1 (fun q => q.elim (fun h => absurd h.1 (np0 hP rfl)) (fun q => q.elim (fun h => absurd h (np0 hP rfl)) (fun q => q.elim (fun h => absurd h (np0 hP rfl)) (fun q => q.elim (fun h => absurd h (np0 hP rfl)) (fun h => absurd h (np0 hP rfl))))))).trans (hid kn_28)
    have h_30 : c_10 P 1 = n1 := (hid kn_29)
    have kn_31 : Hid (c_3 41 21 = n1) := (hF_5 41 21 (fun q => q.elim (fun h => absurd h.1 (nn rfl)) (fun q => q.elim (fun h => absurd h (pn hP rfl rfl)) (fun h => absurd h (pn hP rfl rfl))))).trans (hm1)
    have kn_32 : Hid (c_10 41 21 = n1) := (hF_12 41 21 (fun q => q.elim (fun h => absurd h.2 (ni rfl)) (fun q => q.elim (fun h => absurd h (nn rfl)) (fun q => q.elim (fun h => absurd h (nn rfl)) (fun q => q.elim (fun h => absurd h (nn rfl)) (fun h => absurd h (nn rfl))))))).trans (hid kn_31)
    have h_33 : c_10 41 21 = n1 := (hid kn_32)
    have kn_34 : Hid (c_3 P 2 = n2) := (hF_5 P 2 (fun q => q.elim (fun h => absurd h.1 (np0 hP rfl)) (fun q => q.elim (fun h => absurd h (p0p rfl)) (fun h => absurd h (p0p rfl))))).trans (hn2)
    have kn_35 : Hid (c_10 P 2 = n2) := (hF_12 P 2 (fun q => q.elim (fun h => absurd h.1 (np0 hP rfl)) (fun q => q.elim (fun h => absurd h (np0 hP rfl)) (fun q => q.elim (fun h => absurd h (np0 hP rfl)) (fun q => q.elim (fun h => absurd h (np0 hP rfl)) (fun h => absurd h (np0 hP rfl))))))).trans (hid kn_34)
    have h_36 : c_10 P 2 = n2 := (hid kn_35)
    have kn_37 : Hid (c_3 41 22 = n2) := (hF_5 41 22 (fun q => q.elim (fun h => absurd h.1 (nn rfl)) (fun q => q.elim (fun h => absurd h (pn hP rfl rfl)) (fun h => absurd h (pn hP rfl rfl))))).trans (hm2)
    have kn_38 : Hid (c_10 41 22 = n2) := (hF_12 41 22 (fun q => q.elim (fun h => absurd h.2 (ni rfl)) (fun q => q.elim (fun h => absurd h (nn rfl)) (fun q => q.elim (fun h => absurd h (nn rfl)) (fun q => q.elim (fun h => absurd h (nn rfl)) (fun h => absurd h (nn rfl))))))).trans (hid kn_37)
    have h_39 : c_10 41 22 = n2 := (hid kn_38)
    have kn_40 : Hid (c_3 P 3 = n3) := (hF_5 P 3 (fun q => q.elim (fun h => absurd h.1 (np0 hP rfl)) (fun q => q.elim (fun h => absurd h (p0p rfl)) (fun h => absurd h (p0p rfl))))).trans (hn3)
    have kn_41 : Hid (c_10 P 3 = n3) := (hF_12 P 3 (fun q => q.elim (fun h => absurd h.1 (np0 hP rfl)) (fun q => q.elim (fun h => absurd h (np0 hP rfl)) (fun q => q.elim (fun h => absurd h (np0 hP rfl)) (fun q => q.elim (fun h => absurd h (np0 hP rfl)) (fun h => absurd h (np0 hP rfl))))))).trans (hid kn_40)
    have h_42 : c_10 P 3 = n3 := (hid kn_41)
    have kn_43 : Hid (c_3 41 23 = n3) := (hF_5 41 23 (fun q => q.elim (fun h => absurd h.1 (nn rfl)) (fun q => q.elim (fun h => absurd h (pn hP rfl rfl)) (fun h => absurd h (pn hP rfl rfl))))).trans (hm3)
    have kn_44 : Hid (c_10 41 23 = n3) := (hF_12 41 23 (fun q => q.elim (fun h => absurd h.2 (ni rfl)) (fun q => q.elim (fun h => absurd h (nn rfl)) (fun q => q.elim (fun h => absurd h (nn rfl)) (fun q => q.elim (fun h => absurd h (nn rfl)) (fun h => absurd h (nn rfl))))))).trans (hid kn_43)
    have h_45 : c_10 41 23 = n3 := (hid kn_44)
    have h_46 : c_10 P 1 = n1 := (hid kn_29)
    have hA_47 : Ae (3 * n1) (c_10 (P + 2)) (c_10 48) := ae_fr hAshares (fun j => (hF_12 (P + 2) j (fun q => q.elim (fun h => absurd h.1 (np hP rfl rfl)) (fun q => q.elim (fun h => absurd h (np hP rfl rfl)) (fun q => q.elim (fun h => absurd h (np hP rfl rfl)) (fun q => q.elim (fun h => absurd h (np hP rfl rfl)) (fun h => absurd h (np hP rfl rfl))))))).trans (hF_5 (P + 2) j (fun q => q.elim (fun h => absurd h.1 (np hP rfl rfl)) (fun q => q.elim (fun h => absurd h (pp rfl)) (fun h => absurd h (pp rfl)))))) (fun j => (hF_12 48 j (fun q => q.elim (fun h => absurd h.1 (nn rfl)) (fun q => q.elim (fun h => absurd h (nn rfl)) (fun q => q.elim (fun h => absurd h (nn rfl)) (fun q => q.elim (fun h => absurd h (nn rfl)) (fun h => absurd h (nn rfl))))))).trans (hF_5 48 j (fun q => q.elim (fun h => absurd h.1 (nn rfl)) (fun q => q.elim (fun h => absurd h (pn hP rfl rfl)) (fun h => absurd h (pn hP rfl rfl))))))
    have h_48 : c_10 P 2 = n2 := (hid kn_35)
    have hA_49 : Ae n2 (c_10 (P + 3)) (c_10 49) := ae_fr hAmeshes (fun j => (hF_12 (P + 3) j (fun q => q.elim (fun h => absurd h.1 (np hP rfl rfl)) (fun q => q.elim (fun h => absurd h (np hP rfl rfl)) (fun q => q.elim (fun h => absurd h (np hP rfl rfl)) (fun q => q.elim (fun h => absurd h (np hP rfl rfl)) (fun h => absurd h (np hP rfl rfl))))))).trans (hF_5 (P + 3) j (fun q => q.elim (fun h => absurd h.1 (np hP rfl rfl)) (fun q => q.elim (fun h => absurd h (pp rfl)) (fun h => absurd h (pp rfl)))))) (fun j => (hF_12 49 j (fun q => q.elim (fun h => absurd h.1 (nn rfl)) (fun q => q.elim (fun h => absurd h (nn rfl)) (fun q => q.elim (fun h => absurd h (nn rfl)) (fun q => q.elim (fun h => absurd h (nn rfl)) (fun h => absurd h (nn rfl))))))).trans (hF_5 49 j (fun q => q.elim (fun h => absurd h.1 (nn rfl)) (fun q => q.elim (fun h => absurd h (pn hP rfl rfl)) (fun h => absurd h (pn hP rfl rfl))))))
    exact K P Q c_10 1 (by decide) hI_11 ⟨by omega, ub_fr hU (fun j => (hF_12 2 j (fun q => q.elim (fun h => absurd h.1 (nn rfl)) (fun q => q.elim (fun h => absurd h (nn rfl)) (fun q => q.elim (fun h => absurd h (nn rfl)) (fun q => q.elim (fun h => absurd h (nn rfl)) (fun h => absurd h (nn rfl))))))).trans (hF_5 2 j (fun q => q.elim (fun h => absurd h.1 (nn rfl)) (fun q => q.elim (fun h => absurd h (pn hP rfl rfl)) (fun h => absurd h (pn hP rfl rfl)))))) (fun j => (hF_12 43 j (fun q => q.elim (fun h => absurd h.1 (nn rfl)) (fun q => q.elim (fun h => absurd h (nn rfl)) (fun q => q.elim (fun h => absurd h (nn rfl)) (fun q => q.elim (fun h => absurd h (nn rfl)) (fun h => absurd h (nn rfl))))))).trans (hF_5 43 j (fun q => q.elim (fun h => absurd h.1 (nn rfl)) (fun q => q.elim (fun h => absurd h (pn hP rfl rfl)) (fun h => absurd h (pn hP rfl rfl)))))), ⟨by omega, by omega, by omega, by omega⟩, ae_le hA_47 (by omega), ae_le hA_49 (by omega)⟩
  refine bk_inl (v_i2l rfl (by omega) (v_ls rfl rfl (by decide) (by decide) (by decide) (q_goto (t := 15) rfl rfl (q_iconst rfl (q_iret rfl rfl (bk_inl (q_istore rfl (Nat.le_of_ble_eq_true rfl) ?_)))))))
  refine q_aload_n rfl rfl (q_aload_n rfl rfl (q_iload rfl rfl (q_iconst rfl (v_iadd (v := (i0 : Int) + 1) rfl rfl (v_scr (j := i0 + 1) rfl (by omega) (by omega) hL hx1 ?_)))))
  have hI_50 := iw_lx (a := 67) (j := 0) (v := y_9) hI_7 (by omega)
  refine v_cv rfl rfl rfl rfl (Nat.le_of_ble_eq_true rfl) ⟨⟨rfl, rfl⟩, Nat.le_of_ble_eq_true rfl, rfl⟩ (Nat.le_of_ble_eq_true rfl) (Nat.le_of_ble_eq_true rfl) (s_240 (a1 := x1) hI_50 (show (-2147483648) ≤ x1 ∧ x1 ≤ 2147483647 from ⟨by omega, by omega⟩) (fun c_51 y_54 hI_52 hF_53 hy_54 => (bk_inl (q_istore rfl (Nat.le_of_ble_eq_true rfl) (q_goto (t := 1844) rfl rfl (Wp_ls [(4, vi (i0 : Int)), (3, .ref 67), (2, .ref 41), (1, .ref 0), (0, .ref a_SC)] (lsub_cons rfl (lsub_cons rfl (lsub_cons rfl (lsub_cons rfl (lsub_cons rfl lsub_nil))))) ?_))))))
  have h_55 := ir_1_3 hI
  have kn_56 : Hid (c_6 1 3 = c 1 3) := hF_8 1 3 (fun q => q.elim (fun h => absurd h.1 (nn rfl)) (fun q => q.elim (fun h => absurd h (pn hP rfl rfl)) (fun h => absurd h (pn hP rfl rfl))))
  have kn_57 : Hid (c_51 1 3 = c 1 3) := (hF_53 1 3 (fun q => q.elim (fun h => absurd h.1 (nn rfl)) (fun q => q.elim (fun h => absurd h (nn rfl)) (fun q => q.elim (fun h => absurd h (nn rfl)) (fun q => q.elim (fun h => absurd h (nn rfl)) (fun h => absurd h (nn rfl))))))).trans ((up_c (nn rfl)).trans (hid kn_56))
  have h_58 : c_51 1 3 = c 1 3 := (hid kn_57)
  have h_59 := ir_41_2 hI
  have kn_60 : Hid (c_6 41 2 = c 41 2) := hF_8 41 2 (fun q => q.elim (fun h => absurd h.1 (nn rfl)) (fun q => q.elim (fun h => absurd h (pn hP rfl rfl)) (fun h => absurd h (pn hP rfl rfl))))
  have kn_61 : Hid (c_51 41 2 = c 41 2) := (hF_53 41 2 (fun q => q.elim (fun h => absurd h.2 (ni rfl)) (fun q => q.elim (fun h => absurd h (nn rfl)) (fun q => q.elim (fun h => absurd h (nn rfl)) (fun q => q.elim (fun h => absurd h (nn rfl)) (fun h => absurd h (nn rfl))))))).trans ((up_c (nn rfl)).trans (hid kn_60))
  have h_62 : c_51 41 2 = c 41 2 := (hid kn_61)
  have kn_63 : Hid (c_6 P 0 = n0) := (hF_8 P 0 (fun q => q.elim (fun h => absurd h.1 (np0 hP rfl)) (fun q => q.elim (fun h => absurd h (p0p rfl)) (fun h => absurd h (p0p rfl))))).trans (hn0)
  have kn_64 : Hid (c_51 P 0 = n0) := (hF_53 P 0 (fun q => q.elim (fun h => absurd h.1 (np0 hP rfl)) (fun q => q.elim (fun h => absurd h (np0 hP rfl)) (fun q => q.elim (fun h => absurd h (np0 hP rfl)) (fun q => q.elim (fun h => absurd h (np0 hP rfl)) (fun h => absurd h (np0 hP rfl))))))).trans ((up_c (np0 hP rfl)).trans (hid kn_63))
  have h_65 : c_51 P 0 = n0 := (hid kn_64)
  have kn_66 : Hid (c_6 41 20 = n0) := (hF_8 41 20 (fun q => q.elim (fun h => absurd h.1 (nn rfl)) (fun q => q.elim (fun h => absurd h (pn hP rfl rfl)) (fun h => absurd h (pn hP rfl rfl))))).trans (hm0)
  have kn_67 : Hid (c_51 41 20 = n0) := (hF_53 41 20 (fun q => q.elim (fun h => absurd h.2 (ni rfl)) (fun q => q.elim (fun h => absurd h (nn rfl)) (fun q => q.elim (fun h => absurd h (nn rfl)) (fun q => q.elim (fun h => absurd h (nn rfl)) (fun h => absurd h (nn rfl))))))).trans ((up_c (nn rfl)).trans (hid kn_66))
  have h_68 : c_51 41 20 = n0 := (hid kn_67)
  have kn_69 : Hid (c_6 P 1 = n1) := (hF_8 P 1 (fun q => q.elim (fun h => absurd h.1 (np0 hP rfl)) (fun q => q.elim (fun h => absurd h (p0p rfl)) (fun h => absurd h (p0p rfl))))).trans (hn1)
  have kn_70 : Hid (c_51 P 1 = n1) := (hF_53 P 1 (fun q => q.elim (fun h => absurd h.1 (np0 hP rfl)) (fun q => q.elim (fun h => absurd h (np0 hP rfl)) (fun q => q.elim (fun h => absurd h (np0 hP rfl)) (fun q => q.elim (fun h => absurd h (np0 hP rfl)) (fun h => absurd h (np0 hP rfl))))))).trans ((up_c (np0 hP rfl)).trans (hid kn_69))
  have h_71 : c_51 P 1 = n1 := (hid kn_70)
  have kn_72 : Hid (c_6 41 21 = n1) := (hF_8 41 21 (fun q => q.elim (fun h => absurd h.1 (nn rfl)) (fun q => q.elim (fun h => absurd h (pn hP rfl rfl)) (fun h => absurd h (pn hP rfl rfl))))).trans (hm1)
  have kn_73 : Hid (c_51 41 21 = n1) := (hF_53 41 21 (fun q => q.elim (fun h => absurd h.2 (ni rfl)) (fun q => q.elim (fun h => absurd h (nn rfl)) (fun q => q.elim (fun h => absurd h (nn rfl)) (fun q => q.elim (fun h => absurd h (nn rfl)) (fun h => absurd h (nn rfl))))))).trans ((up_c (nn rfl)).trans (hid kn_72))
  have h_74 : c_51 41 21 = n1 := (hid kn_73)
  have kn_75 : Hid (c_6 P 2 = n2) := (hF_8 P 2 (fun q => q.elim (fun h => absurd h.1 (np0 hP rfl)) (fun q => q.elim (fun h => absurd h (p0p rfl)) (fun h => absurd h (p0p rfl))))).trans (hn2)
  have kn_76 : Hid (c_51 P 2 = n2) := (hF_53 P 2 (fun q => q.elim (fun h => absurd h.1 (np0 hP rfl)) (fun q => q.elim (fun h => absurd h (np0 hP rfl)) (fun q => q.elim (fun h => absurd h (np0 hP rfl)) (fun q => q.elim (fun h => absurd h (np0 hP rfl)) (fun h => absurd h (np0 hP rfl))))))).trans ((up_c (np0 hP rfl)).trans (hid kn_75))
  have h_77 : c_51 P 2 = n2 := (hid kn_76)
  have kn_78 : Hid (c_6 41 22 = n2) := (hF_8 41 22 (fun q => q.elim (fun h => absurd h.1 (nn rfl)) (fun q => q.elim (fun h => absurd h (pn hP rfl rfl)) (fun h => absurd h (pn hP rfl rfl))))).trans (hm2)
  have kn_79 : Hid (c_51 41 22 = n2) := (hF_53 41 22 (fun q => q.elim (fun h => absurd h.2 (ni rfl)) (fun q => q.elim (fun h => absurd h (nn rfl)) (fun q => q.elim (fun h => absurd h (nn rfl)) (fun q => q.elim (fun h => absurd h (nn rfl)) (fun h => absurd h (nn rfl))))))).trans ((up_c (nn rfl)).trans (hid kn_78))
  have h_80 : c_51 41 22 = n2 := (hid kn_79)
  have kn_81 : Hid (c_6 P 3 = n3) := (hF_8 P 3 (fun q => q.elim (fun h => absurd h.1 (np0 hP rfl)) (fun q => q.elim (fun h => absurd h (p0p rfl)) (fun h => absurd h (p0p rfl))))).trans (hn3)
  have kn_82 : Hid (c_51 P 3 = n3) := (hF_53 P 3 (fun q => q.elim (fun h => absurd h.1 (np0 hP rfl)) (fun q => q.elim (fun h => absurd h (np0 hP rfl)) (fun q => q.elim (fun h => absurd h (np0 hP rfl)) (fun q => q.elim (fun h => absurd h (np0 hP rfl)) (fun h => absurd h (np0 hP rfl))))))).trans ((up_c (np0 hP rfl)).trans (hid kn_81))
  have h_83 : c_51 P 3 = n3 := (hid kn_82)
  have kn_84 : Hid (c_6 41 23 = n3) := (hF_8 41 23 (fun q => q.elim (fun h => absurd h.1 (nn rfl)) (fun q => q.elim (fun h => absurd h (pn hP rfl rfl)) (fun h => absurd h (pn hP rfl rfl))))).trans (hm3)
  have kn_85 : Hid (c_51 41 23 = n3) := (hF_53 41 23 (fun q => q.elim (fun h => absurd h.2 (ni rfl)) (fun q => q.elim (fun h => absurd h (nn rfl)) (fun q => q.elim (fun h => absurd h (nn rfl)) (fun q => q.elim (fun h => absurd h (nn rfl)) (fun h => absurd h (nn rfl))))))).trans ((up_c (nn rfl)).trans (hid kn_84))
  have h_86 : c_51 41 23 = n3 := (hid kn_85)
  have h_87 : c_51 P 1 = n1 := (hid kn_70)
  have hA_88 : Ae (3 * n1) (c_51 (P + 2)) (c_51 48) := ae_fr hAshares (fun j => (hF_53 (P + 2) j (fun q => q.elim (fun h => absurd h.1 (np hP rfl rfl)) (fun q => q.elim (fun h => absurd h (np hP rfl rfl)) (fun q => q.elim (fun h => absurd h (np hP rfl rfl)) (fun q => q.elim (fun h => absurd h (np hP rfl rfl)) (fun h => absurd h (np hP rfl rfl))))))).trans ((up_c (np hP rfl rfl)).trans (hF_8 (P + 2) j (fun q => q.elim (fun h => absurd h.1 (np hP rfl rfl)) (fun q => q.elim (fun h => absurd h (pp rfl)) (fun h => absurd h (pp rfl))))))) (fun j => (hF_53 48 j (fun q => q.elim (fun h => absurd h.1 (nn rfl)) (fun q => q.elim (fun h => absurd h (nn rfl)) (fun q => q.elim (fun h => absurd h (nn rfl)) (fun q => q.elim (fun h => absurd h (nn rfl)) (fun h => absurd h (nn rfl))))))).trans ((up_c (nn rfl)).trans (hF_8 48 j (fun q => q.elim (fun h => absurd h.1 (nn rfl)) (fun q => q.elim (fun h => absurd h (pn hP rfl rfl)) (fun h => absurd h (pn hP rfl rfl)))))))
  have h_89 : c_51 P 2 = n2 := (hid kn_76)
  have hA_90 : Ae n2 (c_51 (P + 3)) (c_51 49) := ae_fr hAmeshes (fun j => (hF_53 (P + 3) j (fun q => q.elim (fun h => absurd h.1 (np hP rfl rfl)) (fun q => q.elim (fun h => absurd h (np hP rfl rfl)) (fun q => q.elim (fun h => absurd h (np hP rfl rfl)) (fun q => q.elim (fun h => absurd h (np hP rfl rfl)) (fun h => absurd h (np hP rfl rfl))))))).trans ((up_c (np hP rfl rfl)).trans (hF_8 (P + 3) j (fun q => q.elim (fun h => absurd h.1 (np hP rfl rfl)) (fun q => q.elim (fun h => absurd h (pp rfl)) (fun h => absurd h (pp rfl))))))) (fun j => (hF_53 49 j (fun q => q.elim (fun h => absurd h.1 (nn rfl)) (fun q => q.elim (fun h => absurd h (nn rfl)) (fun q => q.elim (fun h => absurd h (nn rfl)) (fun q => q.elim (fun h => absurd h (nn rfl)) (fun h => absurd h (nn rfl))))))).trans ((up_c (nn rfl)).trans (hF_8 49 j (fun q => q.elim (fun h => absurd h.1 (nn rfl)) (fun q => q.elim (fun h => absurd h (pn hP rfl rfl)) (fun h => absurd h (pn hP rfl rfl)))))))
  exact K P Q c_51 0 (by decide) hI_52 ⟨by omega, ub_fr hU (fun j => (hF_53 2 j (fun q => q.elim (fun h => absurd h.1 (nn rfl)) (fun q => q.elim (fun h => absurd h (nn rfl)) (fun q => q.elim (fun h => absurd h (nn rfl)) (fun q => q.elim (fun h => absurd h (nn rfl)) (fun h => absurd h (nn rfl))))))).trans ((up_c (nn rfl)).trans (hF_8 2 j (fun q => q.elim (fun h => absurd h.1 (nn rfl)) (fun q => q.elim (fun h => absurd h (pn hP rfl rfl)) (fun h => absurd h (pn hP rfl rfl))))))) (fun j => (hF_53 43 j (fun q => q.elim (fun h => absurd h.1 (nn rfl)) (fun q => q.elim (fun h => absurd h (nn rfl)) (fun q => q.elim (fun h => absurd h (nn rfl)) (fun q => q.elim (fun h => absurd h (nn rfl)) (fun h => absurd h (nn rfl))))))).trans ((up_c (nn rfl)).trans (hF_8 43 j (fun q => q.elim (fun h => absurd h.1 (nn rfl)) (fun q => q.elim (fun h => absurd h (pn hP rfl rfl)) (fun h => absurd h (pn hP rfl rfl))))))), ⟨by omega, by omega, by omega, by omega⟩, ae_le hA_88 (by omega), ae_le hA_90 (by omega)⟩

set_option maxRecDepth 100000 in
set_option maxHeartbeats 4000000 in
theorem o_26 {xs : Nat → Int32} {L i0 d nc ns P Q : Nat} {c : ME} {Z : AR → Prop} (hi : i0 + 8 ≤ L) (hL : L ≤ 100000) (hI : Iv 0 (-1) P Q c) (hR : Rq P c) (K : ∀ (P2 Q2 : Nat) (c2 : ME) (e : Nat), e ≤ 1 → Iv 0 (-1) P2 Q2 c2 → (Rq P2 c2) → Wp (a_scr L xs) (d + 90) 296 1844 [(4, vi (i0 : Int)), (3, .ref 67), (2, .ref 41), (1, .ref 0), (0, .ref a_SC)] [] (Wd P2 Q2 P2 P2 c2) (nc + e) (ns + 6 * e) Z) : Wp (a_scr L xs) (d + 90) 296 1315 [(4, vi (i0 : Int)), (3, .ref 67), (2, .ref 41), (1, .ref 0), (0, .ref a_SC)] [] (Wd P Q P P c) nc ns Z := by
  obtain ⟨x1, hx1⟩ : ∃ z, (xs (i0 + 1)).toInt = z := ⟨_, rfl⟩
  have x1r := c_rng (xs (i0 + 1))
  rw [hx1] at x1r
  obtain ⟨x2, hx2⟩ : ∃ z, (xs (i0 + 2)).toInt = z := ⟨_, rfl⟩
  have x2r := c_rng (xs (i0 + 2))
  rw [hx2] at x2r
  obtain ⟨x3, hx3⟩ : ∃ z, (xs (i0 + 3)).toInt = z := ⟨_, rfl⟩
  have x3r := c_rng (xs (i0 + 3))
  rw [hx3] at x3r
  obtain ⟨x4, hx4⟩ : ∃ z, (xs (i0 + 4)).toInt = z := ⟨_, rfl⟩
  have x4r := c_rng (xs (i0 + 4))
  rw [hx4] at x4r
  obtain ⟨x5, hx5⟩ : ∃ z, (xs (i0 + 5)).toInt = z := ⟨_, rfl⟩
  have x5r := c_rng (xs (i0 + 5))
  rw [hx5] at x5r
  obtain ⟨x6, hx6⟩ : ∃ z, (xs (i0 + 6)).toInt = z := ⟨_, rfl⟩
  have x6r := c_rng (xs (i0 + 6))
  rw [hx6] at x6r
  obtain ⟨x7, hx7⟩ : ∃ z, (xs (i0 + 7)).toInt = z := ⟨_, rfl⟩
  have x7r := c_rng (xs (i0 + 7))
  rw [hx7] at x7r
  have hT := rl_t hR
  have hU := rl_u hR
  have hP := iv_P hI
  obtain ⟨n0, hn0⟩ : ∃ z, c P 0 = z := ⟨_, rfl⟩
  have hm0 : c 41 20 = n0 := (rl_nums hR).1.symm.trans hn0
  have hr0 := ir_p0_0 hI hP
  rw [hn0] at hr0
  obtain ⟨n1, hn1⟩ : ∃ z, c P 1 = z := ⟨_, rfl⟩
  have hm1 : c 41 21 = n1 := (rl_nums hR).2.1.symm.trans hn1
  have hr1 := ir_p0_1 hI hP
  rw [hn1] at hr1
  obtain ⟨n2, hn2⟩ : ∃ z, c P 2 = z := ⟨_, rfl⟩
  have hm2 : c 41 22 = n2 := (rl_nums hR).2.2.1.symm.trans hn2
  have hr2 := ir_p0_2 hI hP
  rw [hn2] at hr2
  obtain ⟨n3, hn3⟩ : ∃ z, c P 3 = z := ⟨_, rfl⟩
  have hm3 : c 41 23 = n3 := (rl_nums hR).2.2.2.symm.trans hn3
  have hr3 := ir_p0_3 hI hP
  rw [hn3] at hr3
  have h_1 : c P 1 = n1 := (hn1)
  have hAshares : Ae (3 * n1) (c (P + 2)) (c 48) := ae_le (rl_shares hR) (by omega)
  have h_2 : c P 2 = n2 := (hn2)
  have hAmeshes : Ae n2 (c (P + 3)) (c 49) := ae_le (rl_meshes hR) (by omega)
  have hP := iv_P hI
  have hQ := iv_Q hI
  refine q_aload_n rfl rfl (v_cv rfl rfl rfl rfl (Nat.le_of_ble_eq_true rfl) ⟨⟨rfl, rfl⟩, Nat.le_of_ble_eq_true rfl, rfl⟩ (Nat.le_of_ble_eq_true rfl) (Nat.le_of_ble_eq_true rfl) (s_106 hI (fun c_3 y_6 hI_4 hF_5 hy_6 => (bk_inl (q_pop rfl rfl (q_aload_n rfl rfl (v_cv rfl rfl rfl rfl (Nat.le_of_ble_eq_true rfl) ⟨⟨rfl, rfl⟩, Nat.le_of_ble_eq_true rfl, rfl⟩ (Nat.le_of_ble_eq_true rfl) (Nat.le_of_ble_eq_true rfl) (s_241 hI_4 (fun c_7 y_10 hI_8 hF_9 hy_10 => (bk_inl (q_pop rfl rfl ?_)))))))))))
  refine q_goto (t := 1844) rfl rfl (Wp_ls [(4, vi (i0 : Int)), (3, .ref 67), (2, .ref 41), (1, .ref 0), (0, .ref a_SC)] (lsub_cons rfl (lsub_cons rfl (lsub_cons rfl (lsub_cons rfl (lsub_cons rfl lsub_nil))))) ?_)
  have h_11 := ir_1_3 hI
  have kn_12 : Hid (c_3 1 3 = c 1 3) := hF_5 1 3 (fun q => q.elim (fun h => absurd h (pn hP rfl rfl)) (fun h => absurd h (pn hP rfl rfl)))
  have kn_13 : Hid (c_7 1 3 = c 1 3) := (hF_9 1 3 (fun q => q.elim (fun h => absurd h.1 (nn rfl)) (fun q => q.elim (fun h => absurd h (nn rfl)) (fun q => q.elim (fun h => absurd h (nn rfl)) (fun h => absurd h (nn rfl)))))).trans (hid kn_12)
  have h_14 : c_7 1 3 = c 1 3 := (hid kn_13)
  have h_15 := ir_41_2 hI
  have kn_16 : Hid (c_3 41 2 = c 41 2) := hF_5 41 2 (fun q => q.elim (fun h => absurd h (pn hP rfl rfl)) (fun h => absurd h (pn hP rfl rfl)))
  have kn_17 : Hid (c_7 41 2 = c 41 2) := (hF_9 41 2 (fun q => q.elim (fun h => absurd h.2 (ni rfl)) (fun q => q.elim (fun h => absurd h (nn rfl)) (fun q => q.elim (fun h => absurd h (nn rfl)) (fun h => absurd h (nn rfl)))))).trans (hid kn_16)
  have h_18 : c_7 41 2 = c 41 2 := (hid kn_17)
  have kn_19 : Hid (c_3 P 0 = n0) := (hF_5 P 0 (fun q => q.elim (fun h => absurd h (p0p rfl)) (fun h => absurd h (p0p rfl)))).trans (hn0)
  have kn_20 : Hid (c_7 P 0 = n0) := (hF_9 P 0 (fun q => q.elim (fun h => absurd h.1 (np0 hP rfl)) (fun q => q.elim (fun h => absurd h (np0 hP rfl)) (fun q => q.elim (fun h => absurd h (np0 hP rfl)) (fun h => absurd h (np0 hP rfl)))))).trans (hid kn_19)
  have h_21 : c_7 P 0 = n0 := (hid kn_20)
  have kn_22 : Hid (c_3 41 20 = n0) := (hF_5 41 20 (fun q => q.elim (fun h => absurd h (pn hP rfl rfl)) (fun h => absurd h (pn hP rfl rfl)))).trans (hm0)
  have kn_23 : Hid (c_7 41 20 = n0) := (hF_9 41 20 (fun q => q.elim (fun h => absurd h.2 (ni rfl)) (fun q => q.elim (fun h => absurd h (nn rfl)) (fun q => q.elim (fun h => absurd h (nn rfl)) (fun h => absurd h (nn rfl)))))).trans (hid kn_22)
  have h_24 : c_7 41 20 = n0 := (hid kn_23)
  have kn_25 : Hid (c_3 P 1 = n1) := (hF_5 P 1 (fun q => q.elim (fun h => absurd h (p0p rfl)) (fun h => absurd h (p0p rfl)))).trans (hn1)
  have kn_26 : Hid (c_7 P 1 = n1) := (hF_9 P 1 (fun q => q.elim (fun h => absurd h.1 (np0 hP rfl)) (fun q => q.elim (fun h => absurd h (np0 hP rfl)) (fun q => q.elim (fun h => absurd h (np0 hP rfl)) (fun h => absurd h (np0 hP rfl)))))).trans (hid kn_25)
  have h_27 : c_7 P 1 = n1 := (hid kn_26)
  have kn_28 : Hid (c_3 41 21 = n1) := (hF_5 41 21 (fun q => q.elim (fun h => absurd h (pn hP rfl rfl)) (fun h => absurd h (pn hP rfl rfl)))).trans (hm1)
  have kn_29 : Hid (c_7 41 21 = n1) := (hF_9 41 21 (fun q => q.elim (fun h => absurd h.2 (ni rfl)) (fun q => q.elim (fun h => absurd h (nn rfl)) (fun q => q.elim (fun h => absurd h (nn rfl)) (fun h => absurd h (nn rfl)))))).trans (hid kn_28)
  have h_30 : c_7 41 21 = n1 := (hid kn_29)
  have kn_31 : Hid (c_3 P 2 = n2) := (hF_5 P 2 (fun q => q.elim (fun h => absurd h (p0p rfl)) (fun h => absurd h (p0p rfl)))).trans (hn2)
  have kn_32 : Hid (c_7 P 2 = n2) := (hF_9 P 2 (fun q => q.elim (fun h => absurd h.1 (np0 hP rfl)) (fun q => q.elim (fun h => absurd h (np0 hP rfl)) (fun q => q.elim (fun h => absurd h (np0 hP rfl)) (fun h => absurd h (np0 hP rfl)))))).trans (hid kn_31)
  have h_33 : c_7 P 2 = n2 := (hid kn_32)
  have kn_34 : Hid (c_3 41 22 = n2) := (hF_5 41 22 (fun q => q.elim (fun h => absurd h (pn hP rfl rfl)) (fun h => absurd h (pn hP rfl rfl)))).trans (hm2)
  have kn_35 : Hid (c_7 41 22 = n2) := (hF_9 41 22 (fun q => q.elim (fun h => absurd h.2 (ni rfl)) (fun q => q.elim (fun h => absurd h (nn rfl)) (fun q => q.elim (fun h => absurd h (nn rfl)) (fun h => absurd h (nn rfl)))))).trans (hid kn_34)
  have h_36 : c_7 41 22 = n2 := (hid kn_35)
  have kn_37 : Hid (c_3 P 3 = n3) := (hF_5 P 3 (fun q => q.elim (fun h => absurd h (p0p rfl)) (fun h => absurd h (p0p rfl)))).trans (hn3)
  have kn_38 : Hid (c_7 P 3 = n3) := (hF_9 P 3 (fun q => q.elim (fun h => absurd h.1 (np0 hP rfl)) (fun q => q.elim (fun h => absurd h (np0 hP rfl)) (fun q => q.elim (fun h => absurd h (np0 hP rfl)) (fun h => absurd h (np0 hP rfl)))))).trans (hid kn_37)
  have h_39 : c_7 P 3 = n3 := (hid kn_38)
  have kn_40 : Hid (c_3 41 23 = n3) := (hF_5 41 23 (fun q => q.elim (fun h => absurd h (pn hP rfl rfl)) (fun h => absurd h (pn hP rfl rfl)))).trans (hm3)
  have kn_41 : Hid (c_7 41 23 = n3) := (hF_9 41 23 (fun q => q.elim (fun h => absurd h.2 (ni rfl)) (fun q => q.elim (fun h => absurd h (nn rfl)) (fun q => q.elim (fun h => absurd h (nn rfl)) (fun h => absurd h (nn rfl)))))).trans (hid kn_40)
  have h_42 : c_7 41 23 = n3 := (hid kn_41)
  have h_43 : c_7 P 1 = n1 := (hid kn_26)
  have hA_44 : Ae (3 * n1) (c_7 (P + 2)) (c_7 48) := ae_fr hAshares (fun j => (hF_9 (P + 2) j (fun q => q.elim (fun h => absurd h.1 (np hP rfl rfl)) (fun q => q.elim (fun h => absurd h (np hP rfl rfl)) (fun q => q.elim (fun h => absurd h (np hP rfl rfl)) (fun h => absurd h (np hP rfl rfl)))))).trans (hF_5 (P + 2) j (fun q => q.elim (fun h => absurd h (pp rfl)) (fun h => absurd h (pp rfl))))) (fun j => (hF_9 48 j (fun q => q.elim (fun h => absurd h.1 (nn rfl)) (fun q => q.elim (fun h => absurd h (nn rfl)) (fun q => q.elim (fun h => absurd h (nn rfl)) (fun h => absurd h (nn rfl)))))).trans (hF_5 48 j (fun q => q.elim (fun h => absurd h (pn hP rfl rfl)) (fun h => absurd h (pn hP rfl rfl)))))
  have h_45 : c_7 P 2 = n2 := (hid kn_32)
  have hA_46 : Ae n2 (c_7 (P + 3)) (c_7 49) := ae_fr hAmeshes (fun j => (hF_9 (P + 3) j (fun q => q.elim (fun h => absurd h.1 (np hP rfl rfl)) (fun q => q.elim (fun h => absurd h (np hP rfl rfl)) (fun q => q.elim (fun h => absurd h (np hP rfl rfl)) (fun h => absurd h (np hP rfl rfl)))))).trans (hF_5 (P + 3) j (fun q => q.elim (fun h => absurd h (pp rfl)) (fun h => absurd h (pp rfl))))) (fun j => (hF_9 49 j (fun q => q.elim (fun h => absurd h.1 (nn rfl)) (fun q => q.elim (fun h => absurd h (nn rfl)) (fun q => q.elim (fun h => absurd h (nn rfl)) (fun h => absurd h (nn rfl)))))).trans (hF_5 49 j (fun q => q.elim (fun h => absurd h (pn hP rfl rfl)) (fun h => absurd h (pn hP rfl rfl)))))
  exact K P Q c_7 0 (by decide) hI_8 ⟨by omega, ub_fr hU (fun j => (hF_9 2 j (fun q => q.elim (fun h => absurd h.1 (nn rfl)) (fun q => q.elim (fun h => absurd h (nn rfl)) (fun q => q.elim (fun h => absurd h (nn rfl)) (fun h => absurd h (nn rfl)))))).trans (hF_5 2 j (fun q => q.elim (fun h => absurd h (pn hP rfl rfl)) (fun h => absurd h (pn hP rfl rfl))))) (fun j => (hF_9 43 j (fun q => q.elim (fun h => absurd h.1 (nn rfl)) (fun q => q.elim (fun h => absurd h (nn rfl)) (fun q => q.elim (fun h => absurd h (nn rfl)) (fun h => absurd h (nn rfl)))))).trans (hF_5 43 j (fun q => q.elim (fun h => absurd h (pn hP rfl rfl)) (fun h => absurd h (pn hP rfl rfl))))), ⟨by omega, by omega, by omega, by omega⟩, ae_le hA_44 (by omega), ae_le hA_46 (by omega)⟩

set_option maxRecDepth 100000 in
set_option maxHeartbeats 4000000 in
theorem o_27 {xs : Nat → Int32} {L i0 d nc ns P Q : Nat} {c : ME} {Z : AR → Prop} (hi : i0 + 8 ≤ L) (hL : L ≤ 100000) (hI : Iv 0 (-1) P Q c) (hR : Rq P c) (K : ∀ (P2 Q2 : Nat) (c2 : ME) (e : Nat), e ≤ 1 → Iv 0 (-1) P2 Q2 c2 → (Rq P2 c2) → Wp (a_scr L xs) (d + 90) 296 1844 [(4, vi (i0 : Int)), (3, .ref 67), (2, .ref 41), (1, .ref 0), (0, .ref a_SC)] [] (Wd P2 Q2 P2 P2 c2) (nc + e) (ns + 6 * e) Z) : Wp (a_scr L xs) (d + 90) 296 1328 [(4, vi (i0 : Int)), (3, .ref 67), (2, .ref 41), (1, .ref 0), (0, .ref a_SC)] [] (Wd P Q P P c) nc ns Z := by
  obtain ⟨x1, hx1⟩ : ∃ z, (xs (i0 + 1)).toInt = z := ⟨_, rfl⟩
  have x1r := c_rng (xs (i0 + 1))
  rw [hx1] at x1r
  obtain ⟨x2, hx2⟩ : ∃ z, (xs (i0 + 2)).toInt = z := ⟨_, rfl⟩
  have x2r := c_rng (xs (i0 + 2))
  rw [hx2] at x2r
  obtain ⟨x3, hx3⟩ : ∃ z, (xs (i0 + 3)).toInt = z := ⟨_, rfl⟩
  have x3r := c_rng (xs (i0 + 3))
  rw [hx3] at x3r
  obtain ⟨x4, hx4⟩ : ∃ z, (xs (i0 + 4)).toInt = z := ⟨_, rfl⟩
  have x4r := c_rng (xs (i0 + 4))
  rw [hx4] at x4r
  obtain ⟨x5, hx5⟩ : ∃ z, (xs (i0 + 5)).toInt = z := ⟨_, rfl⟩
  have x5r := c_rng (xs (i0 + 5))
  rw [hx5] at x5r
  obtain ⟨x6, hx6⟩ : ∃ z, (xs (i0 + 6)).toInt = z := ⟨_, rfl⟩
  have x6r := c_rng (xs (i0 + 6))
  rw [hx6] at x6r
  obtain ⟨x7, hx7⟩ : ∃ z, (xs (i0 + 7)).toInt = z := ⟨_, rfl⟩
  have x7r := c_rng (xs (i0 + 7))
  rw [hx7] at x7r
  have hT := rl_t hR
  have hU := rl_u hR
  have hP := iv_P hI
  obtain ⟨n0, hn0⟩ : ∃ z, c P 0 = z := ⟨_, rfl⟩
  have hm0 : c 41 20 = n0 := (rl_nums hR).1.symm.trans hn0
  have hr0 := ir_p0_0 hI hP
  rw [hn0] at hr0
  obtain ⟨n1, hn1⟩ : ∃ z, c P 1 = z := ⟨_, rfl⟩
  have hm1 : c 41 21 = n1 := (rl_nums hR).2.1.symm.trans hn1
  have hr1 := ir_p0_1 hI hP
  rw [hn1] at hr1
  obtain ⟨n2, hn2⟩ : ∃ z, c P 2 = z := ⟨_, rfl⟩
  have hm2 : c 41 22 = n2 := (rl_nums hR).2.2.1.symm.trans hn2
  have hr2 := ir_p0_2 hI hP
  rw [hn2] at hr2
  obtain ⟨n3, hn3⟩ : ∃ z, c P 3 = z := ⟨_, rfl⟩
  have hm3 : c 41 23 = n3 := (rl_nums hR).2.2.2.symm.trans hn3
  have hr3 := ir_p0_3 hI hP
  rw [hn3] at hr3
  have h_1 : c P 1 = n1 := (hn1)
  have hAshares : Ae (3 * n1) (c (P + 2)) (c 48) := ae_le (rl_shares hR) (by omega)
  have h_2 : c P 2 = n2 := (hn2)
  have hAmeshes : Ae n2 (c (P + 3)) (c 49) := ae_le (rl_meshes hR) (by omega)
  have hP := iv_P hI
  have hQ := iv_Q hI
  refine q_aload_n rfl rfl (q_aload_n rfl rfl (q_iload rfl rfl (q_iconst rfl (v_iadd (v := (i0 : Int) + 1) rfl rfl (v_scr (j := i0 + 1) rfl (by omega) (by omega) hL hx1 (q_aload_n rfl rfl (q_iload rfl rfl ?_)))))))
  refine q_iconst rfl (v_iadd (v := (i0 : Int) + 2) rfl rfl (v_scr (j := i0 + 2) rfl (by omega) (by omega) hL hx2 (q_aload_n rfl rfl (q_call rfl rfl rfl rfl (q_aload_n rfl rfl (q_iconst rfl (q_aload_n rfl rfl ?_)))))))
  refine q_iload_n rfl rfl (q_iload_n rfl rfl ?_)
  refine v_cv rfl rfl rfl rfl (Nat.le_of_ble_eq_true rfl) ⟨⟨rfl, rfl⟩, Nat.le_of_ble_eq_true rfl, rfl⟩ (Nat.le_of_ble_eq_true rfl) (Nat.le_of_ble_eq_true rfl) (s_108 (a1 := x1) (a2 := x2) hI (show (-2147483648) ≤ x1 ∧ x1 ≤ 2147483647 from ⟨by omega, by omega⟩) (show (-2147483648) ≤ x2 ∧ x2 ≤ 2147483647 from ⟨by omega, by omega⟩) (fun c_3 hI_4 hF_5 => ?_) (fun c_6 y_9 hI_7 hF_8 hy_9 => ?_))
  · skip
    refine bk_thr (z := Int32.ofInt 1) rfl ⟨_, _, rfl⟩ rfl (bk_inl (q_istore rfl (Nat.le_of_ble_eq_true rfl) (q_aload_n rfl rfl (q_aload_n rfl rfl (q_iload rfl rfl (q_iconst rfl (v_iadd (v := (i0 : Int) + 1) rfl rfl ?_)))))))
    refine v_scr (j := i0 + 1) rfl (by omega) (by omega) hL hx1 (q_aload_n rfl rfl (q_iload rfl rfl (q_iconst rfl (v_iadd (v := (i0 : Int) + 2) rfl rfl (v_scr (j := i0 + 2) rfl (by omega) (by omega) hL hx2 (v_cv rfl rfl rfl rfl (Nat.le_of_ble_eq_true rfl) ⟨⟨rfl, rfl⟩, Nat.le_of_ble_eq_true rfl, rfl⟩ (Nat.le_of_ble_eq_true rfl) (Nat.le_of_ble_eq_true rfl) (s_242 (a1 := x1) (a2 := x2) hI_4 (show (-2147483648) ≤ x1 ∧ x1 ≤ 2147483647 from ⟨by omega, by omega⟩) (show (-2147483648) ≤ x2 ∧ x2 ≤ 2147483647 from ⟨by omega, by omega⟩) (fun c_10 y_13 hI_11 hF_12 hy_13 => (bk_inl ?_)))))))))
    refine q_istore rfl (Nat.le_of_ble_eq_true rfl) (q_goto (t := 1844) rfl rfl (Wp_ls [(4, vi (i0 : Int)), (3, .ref 67), (2, .ref 41), (1, .ref 0), (0, .ref a_SC)] (lsub_cons rfl (lsub_cons rfl (lsub_cons rfl (lsub_cons rfl (lsub_cons rfl lsub_nil))))) ?_))
    have h_14 := ir_1_3 hI
    have kn_15 : Hid (c_3 1 3 = c 1 3) := hF_5 1 3 (fun q => q.elim (fun h => absurd h.1 (nn rfl)) (fun q => q.elim (fun h => absurd h (pn hP rfl rfl)) (fun q => q.elim (fun h => absurd h (pn hP rfl rfl)) (fun h => absurd h (nn rfl)))))
    have kn_16 : Hid (c_10 1 3 = c 1 3) := (hF_12 1 3 (fun q => q.elim (fun h => absurd h.1 (nn rfl)) (fun q => q.elim (fun h => absurd h (nn rfl)) (fun q => q.elim (fun h => absurd h (nn rfl)) (fun q => q.elim (fun h => absurd h (nn rfl)) (fun h => absurd h (nn rfl))))))).trans (hid kn_15)
    have h_17 : c_10 1 3 = c 1 3 := (hid kn_16)
    have h_18 := ir_41_2 hI
    have kn_19 : Hid (c_3 41 2 = c 41 2) := hF_5 41 2 (fun q => q.elim (fun h => absurd h.1 (nn rfl)) (fun q => q.elim (fun h => absurd h (pn hP rfl rfl)) (fun q => q.elim (fun h => absurd h (pn hP rfl rfl)) (fun h => absurd h (nn rfl)))))
    have kn_20 : Hid (c_10 41 2 = c 41 2) := (hF_12 41 2 (fun q => q.elim (fun h => absurd h.2 (ni rfl)) (fun q => q.elim (fun h => absurd h (nn rfl)) (fun q => q.elim (fun h => absurd h (nn rfl)) (fun q => q.elim (fun h => absurd h (nn rfl)) (fun h => absurd h (nn rfl))))))).trans (hid kn_19)
    have h_21 : c_10 41 2 = c 41 2 := (hid kn_20)
    have kn_22 : Hid (c_3 P 0 = n0) := (hF_5 P 0 (fun q => q.elim (fun h => absurd h.1 (np0 hP rfl)) (fun q => q.elim (fun h => absurd h (p0p rfl)) (fun q => q.elim (fun h => absurd h (p0p rfl)) (fun h => absurd h (np0 hP rfl)))))).trans (hn0)
    have kn_23 : Hid (c_10 P 0 = n0) := (hF_12 P 0 (fun q => q.elim (fun h => absurd h.1 (np0 hP rfl)) (fun q => q.elim (fun h => absurd h (np0 hP rfl)) (fun q => q.elim (fun h => absurd h (np0 hP rfl)) (fun q => q.elim (fun h => absurd h (np0 hP rfl)) (fun h => absurd h (np0 hP rfl))))))).trans (hid kn_22)
    have h_24 : c_10 P 0 = n0 := (hid kn_23)
    have kn_25 : Hid (c_3 41 20 = n0) := (hF_5 41 20 (fun q => q.elim (fun h => absurd h.1 (nn rfl)) (fun q => q.elim (fun h => absurd h (pn hP rfl rfl)) (fun q => q.elim (fun h => absurd h (pn hP rfl rfl)) (fun h => absurd h (nn rfl)))))).trans (hm0)
    have kn_26 : Hid (c_10 41 20 = n0) := (hF_12 41 20 (fun q => q.elim (fun h => absurd h.2 (ni rfl)) (fun q => q.elim (fun h => absurd h (nn rfl)) (fun q => q.elim (fun h => absurd h (nn rfl)) (fun q => q.elim (fun h => absurd h (nn rfl)) (fun h => absurd h (nn rfl))))))).trans (hid kn_25)
    have h_27 : c_10 41 20 = n0 := (hid kn_26)
    have kn_28 : Hid (c_3 P 1 = n1) := (hF_5 P 1 (fun q => q.elim (fun h => absurd h.1 (np0 hP rfl)) (fun q => q.elim (fun h => absurd h (p0p rfl)) (fun q => q.elim (fun h => absurd h (p0p rfl)) (fun h => absurd h (np0 hP rfl)))))).trans (hn1)
    have kn_29 : Hid (c_10 P 1 = n1) := (hF_12 P 1 (fun q => q.elim (fun h => absurd h.1 (np0 hP rfl)) (fun q => q.elim (fun h => absurd h (np0 hP rfl)) (fun q => q.elim (fun h => absurd h (np0 hP rfl)) (fun q => q.elim (fun h => absurd h (np0 hP rfl)) (fun h => absurd h (np0 hP rfl))))))).trans (hid kn_28)
    have h_30 : c_10 P 1 = n1 := (hid kn_29)
    have kn_31 : Hid (c_3 41 21 = n1) := (hF_5 41 21 (fun q => q.elim (fun h => absurd h.1 (nn rfl)) (fun q => q.elim (fun h => absurd h (pn hP rfl rfl)) (fun q => q.elim (fun h => absurd h (pn hP rfl rfl)) (fun h => absurd h (nn rfl)))))).trans (hm1)
    have kn_32 : Hid (c_10 41 21 = n1) := (hF_12 41 21 (fun q => q.elim (fun h => absurd h.2 (ni rfl)) (fun q => q.elim (fun h => absurd h (nn rfl)) (fun q => q.elim (fun h => absurd h (nn rfl)) (fun q => q.elim (fun h => absurd h (nn rfl)) (fun h => absurd h (nn rfl))))))).trans (hid kn_31)
    have h_33 : c_10 41 21 = n1 := (hid kn_32)
    have kn_34 : Hid (c_3 P 2 = n2) := (hF_5 P 2 (fun q => q.elim (fun h => absurd h.1 (np0 hP rfl)) (fun q => q.elim (fun h => absurd h (p0p rfl)) (fun q => q.elim (fun h => absurd h (p0p rfl)) (fun h => absurd h (np0 hP rfl)))))).trans (hn2)
    have kn_35 : Hid (c_10 P 2 = n2) := (hF_12 P 2 (fun q => q.elim (fun h => absurd h.1 (np0 hP rfl)) (fun q => q.elim (fun h => absurd h (np0 hP rfl)) (fun q => q.elim (fun h => absurd h (np0 hP rfl)) (fun q => q.elim (fun h => absurd h (np0 hP rfl)) (fun h => absurd h (np0 hP rfl))))))).trans (hid kn_34)
    have h_36 : c_10 P 2 = n2 := (hid kn_35)
    have kn_37 : Hid (c_3 41 22 = n2) := (hF_5 41 22 (fun q => q.elim (fun h => absurd h.1 (nn rfl)) (fun q => q.elim (fun h => absurd h (pn hP rfl rfl)) (fun q => q.elim (fun h => absurd h (pn hP rfl rfl)) (fun h => absurd h (nn rfl)))))).trans (hm2)
    have kn_38 : Hid (c_10 41 22 = n2) := (hF_12 41 22 (fun q => q.elim (fun h => absurd h.2 (ni rfl)) (fun q => q.elim (fun h => absurd h (nn rfl)) (fun q => q.elim (fun h => absurd h (nn rfl)) (fun q => q.elim (fun h => absurd h (nn rfl)) (fun h => absurd h (nn rfl))))))).trans (hid kn_37)
    have h_39 : c_10 41 22 = n2 := (hid kn_38)
    have kn_40 : Hid (c_3 P 3 = n3) := (hF_5 P 3 (fun q => q.elim (fun h => absurd h.1 (np0 hP rfl)) (fun q => q.elim (fun h => absurd h (p0p rfl)) (fun q => q.elim (fun h => absurd h (p0p rfl)) (fun h => absurd h (np0 hP rfl)))))).trans (hn3)
    have kn_41 : Hid (c_10 P 3 = n3) := (hF_12 P 3 (fun q => q.elim (fun h => absurd h.1 (np0 hP rfl)) (fun q => q.elim (fun h => absurd h (np0 hP rfl)) (fun q => q.elim (fun h => absurd h (np0 hP rfl)) (fun q => q.elim (fun h => absurd h (np0 hP rfl)) (fun h => absurd h (np0 hP rfl))))))).trans (hid kn_40)
    have h_42 : c_10 P 3 = n3 := (hid kn_41)
    have kn_43 : Hid (c_3 41 23 = n3) := (hF_5 41 23 (fun q => q.elim (fun h => absurd h.1 (nn rfl)) (fun q => q.elim (fun h => absurd h (pn hP rfl rfl)) (fun q => q.elim (fun h => absurd h (pn hP rfl rfl)) (fun h => absurd h (nn rfl)))))).trans (hm3)
    have kn_44 : Hid (c_10 41 23 = n3) := (hF_12 41 23 (fun q => q.elim (fun h => absurd h.2 (ni rfl)) (fun q => q.elim (fun h => absurd h (nn rfl)) (fun q => q.elim (fun h => absurd h (nn rfl)) (fun q => q.elim (fun h => absurd h (nn rfl)) (fun h => absurd h (nn rfl))))))).trans (hid kn_43)
    have h_45 : c_10 41 23 = n3 := (hid kn_44)
    have h_46 : c_10 P 1 = n1 := (hid kn_29)
    have hA_47 : Ae (3 * n1) (c_10 (P + 2)) (c_10 48) := ae_fr hAshares (fun j => (hF_12 (P + 2) j (fun q => q.elim (fun h => absurd h.1 (np hP rfl rfl)) (fun q => q.elim (fun h => absurd h (np hP rfl rfl)) (fun q => q.elim (fun h => absurd h (np hP rfl rfl)) (fun q => q.elim (fun h => absurd h (np hP rfl rfl)) (fun h => absurd h (np hP rfl rfl))))))).trans (hF_5 (P + 2) j (fun q => q.elim (fun h => absurd h.1 (np hP rfl rfl)) (fun q => q.elim (fun h => absurd h (pp rfl)) (fun q => q.elim (fun h => absurd h (pp rfl)) (fun h => absurd h (np hP rfl rfl))))))) (fun j => (hF_12 48 j (fun q => q.elim (fun h => absurd h.1 (nn rfl)) (fun q => q.elim (fun h => absurd h (nn rfl)) (fun q => q.elim (fun h => absurd h (nn rfl)) (fun q => q.elim (fun h => absurd h (nn rfl)) (fun h => absurd h (nn rfl))))))).trans (hF_5 48 j (fun q => q.elim (fun h => absurd h.1 (nn rfl)) (fun q => q.elim (fun h => absurd h (pn hP rfl rfl)) (fun q => q.elim (fun h => absurd h (pn hP rfl rfl)) (fun h => absurd h (nn rfl)))))))
    have h_48 : c_10 P 2 = n2 := (hid kn_35)
    have hA_49 : Ae n2 (c_10 (P + 3)) (c_10 49) := ae_fr hAmeshes (fun j => (hF_12 (P + 3) j (fun q => q.elim (fun h => absurd h.1 (np hP rfl rfl)) (fun q => q.elim (fun h => absurd h (np hP rfl rfl)) (fun q => q.elim (fun h => absurd h (np hP rfl rfl)) (fun q => q.elim (fun h => absurd h (np hP rfl rfl)) (fun h => absurd h (np hP rfl rfl))))))).trans (hF_5 (P + 3) j (fun q => q.elim (fun h => absurd h.1 (np hP rfl rfl)) (fun q => q.elim (fun h => absurd h (pp rfl)) (fun q => q.elim (fun h => absurd h (pp rfl)) (fun h => absurd h (np hP rfl rfl))))))) (fun j => (hF_12 49 j (fun q => q.elim (fun h => absurd h.1 (nn rfl)) (fun q => q.elim (fun h => absurd h (nn rfl)) (fun q => q.elim (fun h => absurd h (nn rfl)) (fun q => q.elim (fun h => absurd h (nn rfl)) (fun h => absurd h (nn rfl))))))).trans (hF_5 49 j (fun q => q.elim (fun h => absurd h.1 (nn rfl)) (fun q => q.elim (fun h => absurd h (pn hP rfl rfl)) (fun q => q.elim (fun h => absurd h (pn hP rfl rfl)) (fun h => absurd h (nn rfl)))))))
    exact K P Q c_10 1 (by decide) hI_11 ⟨by omega, ub_fr hU (fun j => (hF_12 2 j (fun q => q.elim (fun h => absurd h.1 (nn rfl)) (fun q => q.elim (fun h => absurd h (nn rfl)) (fun q => q.elim (fun h => absurd h (nn rfl)) (fun q => q.elim (fun h => absurd h (nn rfl)) (fun h => absurd h (nn rfl))))))).trans (hF_5 2 j (fun q => q.elim (fun h => absurd h.1 (nn rfl)) (fun q => q.elim (fun h => absurd h (pn hP rfl rfl)) (fun q => q.elim (fun h => absurd h (pn hP rfl rfl)) (fun h => absurd h (nn rfl))))))) (fun j => (hF_12 43 j (fun q => q.elim (fun h => absurd h.1 (nn rfl)) (fun q => q.elim (fun h => absurd h (nn rfl)) (fun q => q.elim (fun h => absurd h (nn rfl)) (fun q => q.elim (fun h => absurd h (nn rfl)) (fun h => absurd h (nn rfl))))))).trans (hF_5 43 j (fun q => q.elim (fun h => absurd h.1 (nn rfl)) (fun q => q.elim (fun h => absurd h (pn hP rfl rfl)) (fun q => q.elim (fun h => absurd h (pn hP rfl rfl)) (fun h => absurd h (nn rfl))))))), ⟨by omega, by omega, by omega, by omega⟩, ae_le hA_47 (by omega), ae_le hA_49 (by omega)⟩
  refine bk_inl (v_i2l rfl (by omega) (v_ls rfl rfl (by decide) (by decide) (by decide) (q_goto (t := 17) rfl rfl (q_iconst rfl (q_iret rfl rfl (bk_inl (q_istore rfl (Nat.le_of_ble_eq_true rfl) ?_)))))))
  refine q_aload_n rfl rfl (q_aload_n rfl rfl (q_iload rfl rfl (q_iconst rfl (v_iadd (v := (i0 : Int) + 1) rfl rfl (v_scr (j := i0 + 1) rfl (by omega) (by omega) hL hx1 (q_aload_n rfl rfl (q_iload rfl rfl ?_)))))))
  refine q_iconst rfl (v_iadd (v := (i0 : Int) + 2) rfl rfl (v_scr (j := i0 + 2) rfl (by omega) (by omega) hL hx2 ?_))
  have hI_50 := iw_lx (a := 67) (j := 0) (v := y_9) hI_7 (by omega)
  refine v_cv rfl rfl rfl rfl (Nat.le_of_ble_eq_true rfl) ⟨⟨rfl, rfl⟩, Nat.le_of_ble_eq_true rfl, rfl⟩ (Nat.le_of_ble_eq_true rfl) (Nat.le_of_ble_eq_true rfl) (s_242 (a1 := x1) (a2 := x2) hI_50 (show (-2147483648) ≤ x1 ∧ x1 ≤ 2147483647 from ⟨by omega, by omega⟩) (show (-2147483648) ≤ x2 ∧ x2 ≤ 2147483647 from ⟨by omega, by omega⟩) (fun c_51 y_54 hI_52 hF_53 hy_54 => (bk_inl (q_istore rfl (Nat.le_of_ble_eq_true rfl) (q_goto (t := 1844) rfl rfl (Wp_ls [(4, vi (i0 : Int)), (3, .ref 67), (2, .ref 41), (1, .ref 0), (0, .ref a_SC)] (lsub_cons rfl (lsub_cons rfl (lsub_cons rfl (lsub_cons rfl (lsub_cons rfl lsub_nil))))) ?_))))))
  have h_55 := ir_1_3 hI
  have kn_56 : Hid (c_6 1 3 = c 1 3) := hF_8 1 3 (fun q => q.elim (fun h => absurd h.1 (nn rfl)) (fun q => q.elim (fun h => absurd h (pn hP rfl rfl)) (fun q => q.elim (fun h => absurd h (pn hP rfl rfl)) (fun h => absurd h (nn rfl)))))
  have kn_57 : Hid (c_51 1 3 = c 1 3) := (hF_53 1 3 (fun q => q.elim (fun h => absurd h.1 (nn rfl)) (fun q => q.elim (fun h => absurd h (nn rfl)) (fun q => q.elim (fun h => absurd h (nn rfl)) (fun q => q.elim (fun h => absurd h (nn rfl)) (fun h => absurd h (nn rfl))))))).trans ((up_c (nn rfl)).trans (hid kn_56))
  have h_58 : c_51 1 3 = c 1 3 := (hid kn_57)
  have h_59 := ir_41_2 hI
  have kn_60 : Hid (c_6 41 2 = c 41 2) := hF_8 41 2 (fun q => q.elim (fun h => absurd h.1 (nn rfl)) (fun q => q.elim (fun h => absurd h (pn hP rfl rfl)) (fun q => q.elim (fun h => absurd h (pn hP rfl rfl)) (fun h => absurd h (nn rfl)))))
  have kn_61 : Hid (c_51 41 2 = c 41 2) := (hF_53 41 2 (fun q => q.elim (fun h => absurd h.2 (ni rfl)) (fun q => q.elim (fun h => absurd h (nn rfl)) (fun q => q.elim (fun h => absurd h (nn rfl)) (fun q => q.elim (fun h => absurd h (nn rfl)) (fun h => absurd h (nn rfl))))))).trans ((up_c (nn rfl)).trans (hid kn_60))
  have h_62 : c_51 41 2 = c 41 2 := (hid kn_61)
  have kn_63 : Hid (c_6 P 0 = n0) := (hF_8 P 0 (fun q => q.elim (fun h => absurd h.1 (np0 hP rfl)) (fun q => q.elim (fun h => absurd h (p0p rfl)) (fun q => q.elim (fun h => absurd h (p0p rfl)) (fun h => absurd h (np0 hP rfl)))))).trans (hn0)
  have kn_64 : Hid (c_51 P 0 = n0) := (hF_53 P 0 (fun q => q.elim (fun h => absurd h.1 (np0 hP rfl)) (fun q => q.elim (fun h => absurd h (np0 hP rfl)) (fun q => q.elim (fun h => absurd h (np0 hP rfl)) (fun q => q.elim (fun h => absurd h (np0 hP rfl)) (fun h => absurd h (np0 hP rfl))))))).trans ((up_c (np0 hP rfl)).trans (hid kn_63))
  have h_65 : c_51 P 0 = n0 := (hid kn_64)
  have kn_66 : Hid (c_6 41 20 = n0) := (hF_8 41 20 (fun q => q.elim (fun h => absurd h.1 (nn rfl)) (fun q => q.elim (fun h => absurd h (pn hP rfl rfl)) (fun q => q.elim (fun h => absurd h (pn hP rfl rfl)) (fun h => absurd h (nn rfl)))))).trans (hm0)
  have kn_67 : Hid (c_51 41 20 = n0) := (hF_53 41 20 (fun q => q.elim (fun h => absurd h.2 (ni rfl)) (fun q => q.elim (fun h => absurd h (nn rfl)) (fun q => q.elim (fun h => absurd h (nn rfl)) (fun q => q.elim (fun h => absurd h (nn rfl)) (fun h => absurd h (nn rfl))))))).trans ((up_c (nn rfl)).trans (hid kn_66))
  have h_68 : c_51 41 20 = n0 := (hid kn_67)
  have kn_69 : Hid (c_6 P 1 = n1) := (hF_8 P 1 (fun q => q.elim (fun h => absurd h.1 (np0 hP rfl)) (fun q => q.elim (fun h => absurd h (p0p rfl)) (fun q => q.elim (fun h => absurd h (p0p rfl)) (fun h => absurd h (np0 hP rfl)))))).trans (hn1)
  have kn_70 : Hid (c_51 P 1 = n1) := (hF_53 P 1 (fun q => q.elim (fun h => absurd h.1 (np0 hP rfl)) (fun q => q.elim (fun h => absurd h (np0 hP rfl)) (fun q => q.elim (fun h => absurd h (np0 hP rfl)) (fun q => q.elim (fun h => absurd h (np0 hP rfl)) (fun h => absurd h (np0 hP rfl))))))).trans ((up_c (np0 hP rfl)).trans (hid kn_69))
  have h_71 : c_51 P 1 = n1 := (hid kn_70)
  have kn_72 : Hid (c_6 41 21 = n1) := (hF_8 41 21 (fun q => q.elim (fun h => absurd h.1 (nn rfl)) (fun q => q.elim (fun h => absurd h (pn hP rfl rfl)) (fun q => q.elim (fun h => absurd h (pn hP rfl rfl)) (fun h => absurd h (nn rfl)))))).trans (hm1)
  have kn_73 : Hid (c_51 41 21 = n1) := (hF_53 41 21 (fun q => q.elim (fun h => absurd h.2 (ni rfl)) (fun q => q.elim (fun h => absurd h (nn rfl)) (fun q => q.elim (fun h => absurd h (nn rfl)) (fun q => q.elim (fun h => absurd h (nn rfl)) (fun h => absurd h (nn rfl))))))).trans ((up_c (nn rfl)).trans (hid kn_72))
  have h_74 : c_51 41 21 = n1 := (hid kn_73)
  have kn_75 : Hid (c_6 P 2 = n2) := (hF_8 P 2 (fun q => q.elim (fun h => absurd h.1 (np0 hP rfl)) (fun q => q.elim (fun h => absurd h (p0p rfl)) (fun q => q.elim (fun h => absurd h (p0p rfl)) (fun h => absurd h (np0 hP rfl)))))).trans (hn2)
  have kn_76 : Hid (c_51 P 2 = n2) := (hF_53 P 2 (fun q => q.elim (fun h => absurd h.1 (np0 hP rfl)) (fun q => q.elim (fun h => absurd h (np0 hP rfl)) (fun q => q.elim (fun h => absurd h (np0 hP rfl)) (fun q => q.elim (fun h => absurd h (np0 hP rfl)) (fun h => absurd h (np0 hP rfl))))))).trans ((up_c (np0 hP rfl)).trans (hid kn_75))
  have h_77 : c_51 P 2 = n2 := (hid kn_76)
  have kn_78 : Hid (c_6 41 22 = n2) := (hF_8 41 22 (fun q => q.elim (fun h => absurd h.1 (nn rfl)) (fun q => q.elim (fun h => absurd h (pn hP rfl rfl)) (fun q => q.elim (fun h => absurd h (pn hP rfl rfl)) (fun h => absurd h (nn rfl)))))).trans (hm2)
  have kn_79 : Hid (c_51 41 22 = n2) := (hF_53 41 22 (fun q => q.elim (fun h => absurd h.2 (ni rfl)) (fun q => q.elim (fun h => absurd h (nn rfl)) (fun q => q.elim (fun h => absurd h (nn rfl)) (fun q => q.elim (fun h => absurd h (nn rfl)) (fun h => absurd h (nn rfl))))))).trans ((up_c (nn rfl)).trans (hid kn_78))
  have h_80 : c_51 41 22 = n2 := (hid kn_79)
  have kn_81 : Hid (c_6 P 3 = n3) := (hF_8 P 3 (fun q => q.elim (fun h => absurd h.1 (np0 hP rfl)) (fun q => q.elim (fun h => absurd h (p0p rfl)) (fun q => q.elim (fun h => absurd h (p0p rfl)) (fun h => absurd h (np0 hP rfl)))))).trans (hn3)
  have kn_82 : Hid (c_51 P 3 = n3) := (hF_53 P 3 (fun q => q.elim (fun h => absurd h.1 (np0 hP rfl)) (fun q => q.elim (fun h => absurd h (np0 hP rfl)) (fun q => q.elim (fun h => absurd h (np0 hP rfl)) (fun q => q.elim (fun h => absurd h (np0 hP rfl)) (fun h => absurd h (np0 hP rfl))))))).trans ((up_c (np0 hP rfl)).trans (hid kn_81))
  have h_83 : c_51 P 3 = n3 := (hid kn_82)
  have kn_84 : Hid (c_6 41 23 = n3) := (hF_8 41 23 (fun q => q.elim (fun h => absurd h.1 (nn rfl)) (fun q => q.elim (fun h => absurd h (pn hP rfl rfl)) (fun q => q.elim (fun h => absurd h (pn hP rfl rfl)) (fun h => absurd h (nn rfl)))))).trans (hm3)
  have kn_85 : Hid (c_51 41 23 = n3) := (hF_53 41 23 (fun q => q.elim (fun h => absurd h.2 (ni rfl)) (fun q => q.elim (fun h => absurd h (nn rfl)) (fun q => q.elim (fun h => absurd h (nn rfl)) (fun q => q.elim (fun h => absurd h (nn rfl)) (fun h => absurd h (nn rfl))))))).trans ((up_c (nn rfl)).trans (hid kn_84))
  have h_86 : c_51 41 23 = n3 := (hid kn_85)
  have h_87 : c_51 P 1 = n1 := (hid kn_70)
  have hA_88 : Ae (3 * n1) (c_51 (P + 2)) (c_51 48) := ae_fr hAshares (fun j => (hF_53 (P + 2) j (fun q => q.elim (fun h => absurd h.1 (np hP rfl rfl)) (fun q => q.elim (fun h => absurd h (np hP rfl rfl)) (fun q => q.elim (fun h => absurd h (np hP rfl rfl)) (fun q => q.elim (fun h => absurd h (np hP rfl rfl)) (fun h => absurd h (np hP rfl rfl))))))).trans ((up_c (np hP rfl rfl)).trans (hF_8 (P + 2) j (fun q => q.elim (fun h => absurd h.1 (np hP rfl rfl)) (fun q => q.elim (fun h => absurd h (pp rfl)) (fun q => q.elim (fun h => absurd h (pp rfl)) (fun h => absurd h (np hP rfl rfl)))))))) (fun j => (hF_53 48 j (fun q => q.elim (fun h => absurd h.1 (nn rfl)) (fun q => q.elim (fun h => absurd h (nn rfl)) (fun q => q.elim (fun h => absurd h (nn rfl)) (fun q => q.elim (fun h => absurd h (nn rfl)) (fun h => absurd h (nn rfl))))))).trans ((up_c (nn rfl)).trans (hF_8 48 j (fun q => q.elim (fun h => absurd h.1 (nn rfl)) (fun q => q.elim (fun h => absurd h (pn hP rfl rfl)) (fun q => q.elim (fun h => absurd h (pn hP rfl rfl)) (fun h => absurd h (nn rfl))))))))
  have h_89 : c_51 P 2 = n2 := (hid kn_76)
  have hA_90 : Ae n2 (c_51 (P + 3)) (c_51 49) := ae_fr hAmeshes (fun j => (hF_53 (P + 3) j (fun q => q.elim (fun h => absurd h.1 (np hP rfl rfl)) (fun q => q.elim (fun h => absurd h (np hP rfl rfl)) (fun q => q.elim (fun h => absurd h (np hP rfl rfl)) (fun q => q.elim (fun h => absurd h (np hP rfl rfl)) (fun h => absurd h (np hP rfl rfl))))))).trans ((up_c (np hP rfl rfl)).trans (hF_8 (P + 3) j (fun q => q.elim (fun h => absurd h.1 (np hP rfl rfl)) (fun q => q.elim (fun h => absurd h (pp rfl)) (fun q => q.elim (fun h => absurd h (pp rfl)) (fun h => absurd h (np hP rfl rfl)))))))) (fun j => (hF_53 49 j (fun q => q.elim (fun h => absurd h.1 (nn rfl)) (fun q => q.elim (fun h => absurd h (nn rfl)) (fun q => q.elim (fun h => absurd h (nn rfl)) (fun q => q.elim (fun h => absurd h (nn rfl)) (fun h => absurd h (nn rfl))))))).trans ((up_c (nn rfl)).trans (hF_8 49 j (fun q => q.elim (fun h => absurd h.1 (nn rfl)) (fun q => q.elim (fun h => absurd h (pn hP rfl rfl)) (fun q => q.elim (fun h => absurd h (pn hP rfl rfl)) (fun h => absurd h (nn rfl))))))))
  exact K P Q c_51 0 (by decide) hI_52 ⟨by omega, ub_fr hU (fun j => (hF_53 2 j (fun q => q.elim (fun h => absurd h.1 (nn rfl)) (fun q => q.elim (fun h => absurd h (nn rfl)) (fun q => q.elim (fun h => absurd h (nn rfl)) (fun q => q.elim (fun h => absurd h (nn rfl)) (fun h => absurd h (nn rfl))))))).trans ((up_c (nn rfl)).trans (hF_8 2 j (fun q => q.elim (fun h => absurd h.1 (nn rfl)) (fun q => q.elim (fun h => absurd h (pn hP rfl rfl)) (fun q => q.elim (fun h => absurd h (pn hP rfl rfl)) (fun h => absurd h (nn rfl)))))))) (fun j => (hF_53 43 j (fun q => q.elim (fun h => absurd h.1 (nn rfl)) (fun q => q.elim (fun h => absurd h (nn rfl)) (fun q => q.elim (fun h => absurd h (nn rfl)) (fun q => q.elim (fun h => absurd h (nn rfl)) (fun h => absurd h (nn rfl))))))).trans ((up_c (nn rfl)).trans (hF_8 43 j (fun q => q.elim (fun h => absurd h.1 (nn rfl)) (fun q => q.elim (fun h => absurd h (pn hP rfl rfl)) (fun q => q.elim (fun h => absurd h (pn hP rfl rfl)) (fun h => absurd h (nn rfl)))))))), ⟨by omega, by omega, by omega, by omega⟩, ae_le hA_88 (by omega), ae_le hA_90 (by omega)⟩

set_option maxRecDepth 100000 in
set_option maxHeartbeats 4000000 in
theorem o_28 {xs : Nat → Int32} {L i0 d nc ns P Q : Nat} {c : ME} {Z : AR → Prop} (hi : i0 + 8 ≤ L) (hL : L ≤ 100000) (hI : Iv 0 (-1) P Q c) (hR : Rq P c) (K : ∀ (P2 Q2 : Nat) (c2 : ME) (e : Nat), e ≤ 1 → Iv 0 (-1) P2 Q2 c2 → (Rq P2 c2) → Wp (a_scr L xs) (d + 90) 296 1844 [(4, vi (i0 : Int)), (3, .ref 67), (2, .ref 41), (1, .ref 0), (0, .ref a_SC)] [] (Wd P2 Q2 P2 P2 c2) (nc + e) (ns + 6 * e) Z) : Wp (a_scr L xs) (d + 90) 296 1368 [(4, vi (i0 : Int)), (3, .ref 67), (2, .ref 41), (1, .ref 0), (0, .ref a_SC)] [] (Wd P Q P P c) nc ns Z := by
  obtain ⟨x1, hx1⟩ : ∃ z, (xs (i0 + 1)).toInt = z := ⟨_, rfl⟩
  have x1r := c_rng (xs (i0 + 1))
  rw [hx1] at x1r
  obtain ⟨x2, hx2⟩ : ∃ z, (xs (i0 + 2)).toInt = z := ⟨_, rfl⟩
  have x2r := c_rng (xs (i0 + 2))
  rw [hx2] at x2r
  obtain ⟨x3, hx3⟩ : ∃ z, (xs (i0 + 3)).toInt = z := ⟨_, rfl⟩
  have x3r := c_rng (xs (i0 + 3))
  rw [hx3] at x3r
  obtain ⟨x4, hx4⟩ : ∃ z, (xs (i0 + 4)).toInt = z := ⟨_, rfl⟩
  have x4r := c_rng (xs (i0 + 4))
  rw [hx4] at x4r
  obtain ⟨x5, hx5⟩ : ∃ z, (xs (i0 + 5)).toInt = z := ⟨_, rfl⟩
  have x5r := c_rng (xs (i0 + 5))
  rw [hx5] at x5r
  obtain ⟨x6, hx6⟩ : ∃ z, (xs (i0 + 6)).toInt = z := ⟨_, rfl⟩
  have x6r := c_rng (xs (i0 + 6))
  rw [hx6] at x6r
  obtain ⟨x7, hx7⟩ : ∃ z, (xs (i0 + 7)).toInt = z := ⟨_, rfl⟩
  have x7r := c_rng (xs (i0 + 7))
  rw [hx7] at x7r
  have hT := rl_t hR
  have hU := rl_u hR
  have hP := iv_P hI
  obtain ⟨n0, hn0⟩ : ∃ z, c P 0 = z := ⟨_, rfl⟩
  have hm0 : c 41 20 = n0 := (rl_nums hR).1.symm.trans hn0
  have hr0 := ir_p0_0 hI hP
  rw [hn0] at hr0
  obtain ⟨n1, hn1⟩ : ∃ z, c P 1 = z := ⟨_, rfl⟩
  have hm1 : c 41 21 = n1 := (rl_nums hR).2.1.symm.trans hn1
  have hr1 := ir_p0_1 hI hP
  rw [hn1] at hr1
  obtain ⟨n2, hn2⟩ : ∃ z, c P 2 = z := ⟨_, rfl⟩
  have hm2 : c 41 22 = n2 := (rl_nums hR).2.2.1.symm.trans hn2
  have hr2 := ir_p0_2 hI hP
  rw [hn2] at hr2
  obtain ⟨n3, hn3⟩ : ∃ z, c P 3 = z := ⟨_, rfl⟩
  have hm3 : c 41 23 = n3 := (rl_nums hR).2.2.2.symm.trans hn3
  have hr3 := ir_p0_3 hI hP
  rw [hn3] at hr3
  have h_1 : c P 1 = n1 := (hn1)
  have hAshares : Ae (3 * n1) (c (P + 2)) (c 48) := ae_le (rl_shares hR) (by omega)
  have h_2 : c P 2 = n2 := (hn2)
  have hAmeshes : Ae n2 (c (P + 3)) (c 49) := ae_le (rl_meshes hR) (by omega)
  have hP := iv_P hI
  have hQ := iv_Q hI
  refine q_aload_n rfl rfl (v_cv rfl rfl rfl rfl (Nat.le_of_ble_eq_true rfl) ⟨⟨rfl, rfl⟩, Nat.le_of_ble_eq_true rfl, rfl⟩ (Nat.le_of_ble_eq_true rfl) (Nat.le_of_ble_eq_true rfl) (s_101 hI (fun y_3 hy_3 => (bk_inl (q_pop rfl rfl (q_aload_n rfl rfl (v_cv rfl rfl rfl rfl (Nat.le_of_ble_eq_true rfl) ⟨⟨rfl, rfl⟩, Nat.le_of_ble_eq_true rfl, rfl⟩ (Nat.le_of_ble_eq_true rfl) (Nat.le_of_ble_eq_true rfl) (s_243 hI (fun c_4 y_7 hI_5 hF_6 hy_7 => (bk_inl (q_pop rfl rfl ?_)))))))))))
  refine q_goto (t := 1844) rfl rfl (Wp_ls [(4, vi (i0 : Int)), (3, .ref 67), (2, .ref 41), (1, .ref 0), (0, .ref a_SC)] (lsub_cons rfl (lsub_cons rfl (lsub_cons rfl (lsub_cons rfl (lsub_cons rfl lsub_nil))))) ?_)
  have h_8 := ir_1_3 hI
  have kn_9 : Hid (c_4 1 3 = c 1 3) := hF_6 1 3 (fun q => q.elim (fun h => absurd h.1 (nn rfl)) (fun h => absurd h (nn rfl)))
  have h_10 : c_4 1 3 = c 1 3 := (hid kn_9)
  have h_11 := ir_41_2 hI
  have kn_12 : Hid (c_4 41 2 = c 41 2) := hF_6 41 2 (fun q => q.elim (fun h => absurd h.2 (ni rfl)) (fun h => absurd h (nn rfl)))
  have h_13 : c_4 41 2 = c 41 2 := (hid kn_12)
  have kn_14 : Hid (c_4 P 0 = n0) := (hF_6 P 0 (fun q => q.elim (fun h => absurd h.1 (np0 hP rfl)) (fun h => absurd h (np0 hP rfl)))).trans (hn0)
  have h_15 : c_4 P 0 = n0 := (hid kn_14)
  have kn_16 : Hid (c_4 41 20 = n0) := (hF_6 41 20 (fun q => q.elim (fun h => absurd h.2 (ni rfl)) (fun h => absurd h (nn rfl)))).trans (hm0)
  have h_17 : c_4 41 20 = n0 := (hid kn_16)
  have kn_18 : Hid (c_4 P 1 = n1) := (hF_6 P 1 (fun q => q.elim (fun h => absurd h.1 (np0 hP rfl)) (fun h => absurd h (np0 hP rfl)))).trans (hn1)
  have h_19 : c_4 P 1 = n1 := (hid kn_18)
  have kn_20 : Hid (c_4 41 21 = n1) := (hF_6 41 21 (fun q => q.elim (fun h => absurd h.2 (ni rfl)) (fun h => absurd h (nn rfl)))).trans (hm1)
  have h_21 : c_4 41 21 = n1 := (hid kn_20)
  have kn_22 : Hid (c_4 P 2 = n2) := (hF_6 P 2 (fun q => q.elim (fun h => absurd h.1 (np0 hP rfl)) (fun h => absurd h (np0 hP rfl)))).trans (hn2)
  have h_23 : c_4 P 2 = n2 := (hid kn_22)
  have kn_24 : Hid (c_4 41 22 = n2) := (hF_6 41 22 (fun q => q.elim (fun h => absurd h.2 (ni rfl)) (fun h => absurd h (nn rfl)))).trans (hm2)
  have h_25 : c_4 41 22 = n2 := (hid kn_24)
  have kn_26 : Hid (c_4 P 3 = n3) := (hF_6 P 3 (fun q => q.elim (fun h => absurd h.1 (np0 hP rfl)) (fun h => absurd h (np0 hP rfl)))).trans (hn3)
  have h_27 : c_4 P 3 = n3 := (hid kn_26)
  have kn_28 : Hid (c_4 41 23 = n3) := (hF_6 41 23 (fun q => q.elim (fun h => absurd h.2 (ni rfl)) (fun h => absurd h (nn rfl)))).trans (hm3)
  have h_29 : c_4 41 23 = n3 := (hid kn_28)
  have h_30 : c_4 P 1 = n1 := (hid kn_18)
  have hA_31 : Ae (3 * n1) (c_4 (P + 2)) (c_4 48) := ae_fr hAshares (fun j => hF_6 (P + 2) j (fun q => q.elim (fun h => absurd h.1 (np hP rfl rfl)) (fun h => absurd h (np hP rfl rfl)))) (fun j => hF_6 48 j (fun q => q.elim (fun h => absurd h.1 (nn rfl)) (fun h => absurd h (nn rfl))))
  have h_32 : c_4 P 2 = n2 := (hid kn_22)
  have hA_33 : Ae n2 (c_4 (P + 3)) (c_4 49) := ae_fr hAmeshes (fun j => hF_6 (P + 3) j (fun q => q.elim (fun h => absurd h.1 (np hP rfl rfl)) (fun h => absurd h (np hP rfl rfl)))) (fun j => hF_6 49 j (fun q => q.elim (fun h => absurd h.1 (nn rfl)) (fun h => absurd h (nn rfl))))
  exact K P Q c_4 0 (by decide) hI_5 ⟨by omega, ub_fr hU (fun j => hF_6 2 j (fun q => q.elim (fun h => absurd h.1 (nn rfl)) (fun h => absurd h (nn rfl)))) (fun j => hF_6 43 j (fun q => q.elim (fun h => absurd h.1 (nn rfl)) (fun h => absurd h (nn rfl)))), ⟨by omega, by omega, by omega, by omega⟩, ae_le hA_31 (by omega), ae_le hA_33 (by omega)⟩

set_option maxRecDepth 100000 in
set_option maxHeartbeats 4000000 in
theorem o_29 {xs : Nat → Int32} {L i0 d nc ns P Q : Nat} {c : ME} {Z : AR → Prop} (hi : i0 + 8 ≤ L) (hL : L ≤ 100000) (hI : Iv 0 (-1) P Q c) (hR : Rq P c) (K : ∀ (P2 Q2 : Nat) (c2 : ME) (e : Nat), e ≤ 1 → Iv 0 (-1) P2 Q2 c2 → (Rq P2 c2) → Wp (a_scr L xs) (d + 90) 296 1844 [(4, vi (i0 : Int)), (3, .ref 67), (2, .ref 41), (1, .ref 0), (0, .ref a_SC)] [] (Wd P2 Q2 P2 P2 c2) (nc + e) (ns + 6 * e) Z) : Wp (a_scr L xs) (d + 90) 296 1381 [(4, vi (i0 : Int)), (3, .ref 67), (2, .ref 41), (1, .ref 0), (0, .ref a_SC)] [] (Wd P Q P P c) nc ns Z := by
  obtain ⟨x1, hx1⟩ : ∃ z, (xs (i0 + 1)).toInt = z := ⟨_, rfl⟩
  have x1r := c_rng (xs (i0 + 1))
  rw [hx1] at x1r
  obtain ⟨x2, hx2⟩ : ∃ z, (xs (i0 + 2)).toInt = z := ⟨_, rfl⟩
  have x2r := c_rng (xs (i0 + 2))
  rw [hx2] at x2r
  obtain ⟨x3, hx3⟩ : ∃ z, (xs (i0 + 3)).toInt = z := ⟨_, rfl⟩
  have x3r := c_rng (xs (i0 + 3))
  rw [hx3] at x3r
  obtain ⟨x4, hx4⟩ : ∃ z, (xs (i0 + 4)).toInt = z := ⟨_, rfl⟩
  have x4r := c_rng (xs (i0 + 4))
  rw [hx4] at x4r
  obtain ⟨x5, hx5⟩ : ∃ z, (xs (i0 + 5)).toInt = z := ⟨_, rfl⟩
  have x5r := c_rng (xs (i0 + 5))
  rw [hx5] at x5r
  obtain ⟨x6, hx6⟩ : ∃ z, (xs (i0 + 6)).toInt = z := ⟨_, rfl⟩
  have x6r := c_rng (xs (i0 + 6))
  rw [hx6] at x6r
  obtain ⟨x7, hx7⟩ : ∃ z, (xs (i0 + 7)).toInt = z := ⟨_, rfl⟩
  have x7r := c_rng (xs (i0 + 7))
  rw [hx7] at x7r
  have hT := rl_t hR
  have hU := rl_u hR
  have hP := iv_P hI
  obtain ⟨n0, hn0⟩ : ∃ z, c P 0 = z := ⟨_, rfl⟩
  have hm0 : c 41 20 = n0 := (rl_nums hR).1.symm.trans hn0
  have hr0 := ir_p0_0 hI hP
  rw [hn0] at hr0
  obtain ⟨n1, hn1⟩ : ∃ z, c P 1 = z := ⟨_, rfl⟩
  have hm1 : c 41 21 = n1 := (rl_nums hR).2.1.symm.trans hn1
  have hr1 := ir_p0_1 hI hP
  rw [hn1] at hr1
  obtain ⟨n2, hn2⟩ : ∃ z, c P 2 = z := ⟨_, rfl⟩
  have hm2 : c 41 22 = n2 := (rl_nums hR).2.2.1.symm.trans hn2
  have hr2 := ir_p0_2 hI hP
  rw [hn2] at hr2
  obtain ⟨n3, hn3⟩ : ∃ z, c P 3 = z := ⟨_, rfl⟩
  have hm3 : c 41 23 = n3 := (rl_nums hR).2.2.2.symm.trans hn3
  have hr3 := ir_p0_3 hI hP
  rw [hn3] at hr3
  have h_1 : c P 1 = n1 := (hn1)
  have hAshares : Ae (3 * n1) (c (P + 2)) (c 48) := ae_le (rl_shares hR) (by omega)
  have h_2 : c P 2 = n2 := (hn2)
  have hAmeshes : Ae n2 (c (P + 3)) (c 49) := ae_le (rl_meshes hR) (by omega)
  have hP := iv_P hI
  have hQ := iv_Q hI
  refine q_aload_n rfl rfl (q_aload_n rfl rfl (q_iload rfl rfl (q_iconst rfl (v_iadd (v := (i0 : Int) + 1) rfl rfl (v_scr (j := i0 + 1) rfl (by omega) (by omega) hL hx1 (q_aload_n rfl rfl (q_call rfl rfl rfl rfl ?_)))))))
  refine q_aload_n rfl rfl (q_iconst rfl (q_aload_n rfl rfl (q_iload_n rfl rfl ?_)))
  refine v_cv rfl rfl rfl rfl (Nat.le_of_ble_eq_true rfl) ⟨⟨rfl, rfl⟩, Nat.le_of_ble_eq_true rfl, rfl⟩ (Nat.le_of_ble_eq_true rfl) (Nat.le_of_ble_eq_true rfl) (s_109 (a1 := x1) hI (show (-2147483648) ≤ x1 ∧ x1 ≤ 2147483647 from ⟨by omega, by omega⟩) (fun c_3 hI_4 hF_5 => ?_) (fun c_6 y_9 hI_7 hF_8 hy_9 => ?_))
  · skip
    refine bk_thr (z := Int32.ofInt 1) rfl ⟨_, _, rfl⟩ rfl (bk_inl (q_istore rfl (Nat.le_of_ble_eq_true rfl) (q_aload_n rfl rfl (q_aload_n rfl rfl (q_iload rfl rfl (q_iconst rfl (v_iadd (v := (i0 : Int) + 1) rfl rfl ?_)))))))
    refine v_scr (j := i0 + 1) rfl (by omega) (by omega) hL hx1 (v_cv rfl rfl rfl rfl (Nat.le_of_ble_eq_true rfl) ⟨⟨rfl, rfl⟩, Nat.le_of_ble_eq_true rfl, rfl⟩ (Nat.le_of_ble_eq_true rfl) (Nat.le_of_ble_eq_true rfl) (s_244 (a1 := x1) hI_4 (show (-2147483648) ≤ x1 ∧ x1 ≤ 2147483647 from ⟨by omega, by omega⟩) (fun c_10 y_13 hI_11 hF_12 hy_13 => (bk_inl (q_istore rfl (Nat.le_of_ble_eq_true rfl) (q_goto (t := 1844) rfl rfl (Wp_ls [(4, vi (i0 : Int)), (3, .ref 67), (2, .ref 41), (1, .ref 0), (0, .ref a_SC)] (lsub_cons rfl (lsub_cons rfl (lsub_cons rfl (lsub_cons rfl (lsub_cons rfl lsub_nil))))) ?_)))))))
    have h_14 := ir_1_3 hI
    have kn_15 : Hid (c_3 1 3 = c 1 3) := hF_5 1 3 (fun q => q.elim (fun h => absurd h.1 (nn rfl)) (fun q => q.elim (fun h => absurd h (pn hP rfl rfl)) (fun q => q.elim (fun h => absurd h (pn hP rfl rfl)) (fun h => absurd h (nn rfl)))))
    have kn_16 : Hid (c_10 1 3 = c 1 3) := (hF_12 1 3 (fun q => q.elim (fun h => absurd h.1 (nn rfl)) (fun q => q.elim (fun h => absurd h (nn rfl)) (fun q => q.elim (fun h => absurd h (nn rfl)) (fun q => q.elim (fun h => absurd h (nn rfl)) (fun h => absurd h (nn rfl))))))).trans (hid kn_15)
    have h_17 : c_10 1 3 = c 1 3 := (hid kn_16)
    have h_18 := ir_41_2 hI
    have kn_19 : Hid (c_3 41 2 = c 41 2) := hF_5 41 2 (fun q => q.elim (fun h => absurd h.1 (nn rfl)) (fun q => q.elim (fun h => absurd h (pn hP rfl rfl)) (fun q => q.elim (fun h => absurd h (pn hP rfl rfl)) (fun h => absurd h (nn rfl)))))
    have kn_20 : Hid (c_10 41 2 = c 41 2) := (hF_12 41 2 (fun q => q.elim (fun h => absurd h.2 (ni rfl)) (fun q => q.elim (fun h => absurd h (nn rfl)) (fun q => q.elim (fun h => absurd h (nn rfl)) (fun q => q.elim (fun h => absurd h (nn rfl)) (fun h => absurd h (nn rfl))))))).trans (hid kn_19)
    have h_21 : c_10 41 2 = c 41 2 := (hid kn_20)
    have kn_22 : Hid (c_3 P 0 = n0) := (hF_5 P 0 (fun q => q.elim (fun h => absurd h.1 (np0 hP rfl)) (fun q => q.elim (fun h => absurd h (p0p rfl)) (fun q => q.elim (fun h => absurd h (p0p rfl)) (fun h => absurd h (np0 hP rfl)))))).trans (hn0)
    have kn_23 : Hid (c_10 P 0 = n0) := (hF_12 P 0 (fun q => q.elim (fun h => absurd h.1 (np0 hP rfl)) (fun q => q.elim (fun h => absurd h (np0 hP rfl)) (fun q => q.elim (fun h => absurd h (np0 hP rfl)) (fun q => q.elim (fun h => absurd h (np0 hP rfl)) (fun h => absurd h (np0 hP rfl))))))).trans (hid kn_22)
    have h_24 : c_10 P 0 = n0 := (hid kn_23)
    have kn_25 : Hid (c_3 41 20 = n0) := (hF_5 41 20 (fun q => q.elim (fun h => absurd h.1 (nn rfl)) (fun q => q.elim (fun h => absurd h (pn hP rfl rfl)) (fun q => q.elim (fun h => absurd h (pn hP rfl rfl)) (fun h => absurd h (nn rfl)))))).trans (hm0)
    have kn_26 : Hid (c_10 41 20 = n0) := (hF_12 41 20 (fun q => q.elim (fun h => absurd h.2 (ni rfl)) (fun q => q.elim (fun h => absurd h (nn rfl)) (fun q => q.elim (fun h => absurd h (nn rfl)) (fun q => q.elim (fun h => absurd h (nn rfl)) (fun h => absurd h (nn rfl))))))).trans (hid kn_25)
    have h_27 : c_10 41 20 = n0 := (hid kn_26)
    have kn_28 : Hid (c_3 P 1 = n1) := (hF_5 P 1 (fun q => q.elim (fun h => absurd h.1 (np0 hP rfl)) (fun q => q.elim (fun h => absurd h (p0p rfl)) (fun q => q.elim (fun h => absurd h (p0p rfl)) (fun h => absurd h (np0 hP rfl)))))).trans (hn1)
    have kn_29 : Hid (c_10 P 1 = n1) := (hF_12 P 1 (fun q => q.elim (fun h => absurd h.1 (np0 hP rfl)) (fun q => q.elim (fun h => absurd h (np0 hP rfl)) (fun q => q.elim (fun h => absurd h (np0 hP rfl)) (fun q => q.elim (fun h => absurd h (np0 hP rfl)) (fun h => absurd h (np0 hP rfl))))))).trans (hid kn_28)
    have h_30 : c_10 P 1 = n1 := (hid kn_29)
    have kn_31 : Hid (c_3 41 21 = n1) := (hF_5 41 21 (fun q => q.elim (fun h => absurd h.1 (nn rfl)) (fun q => q.elim (fun h => absurd h (pn hP rfl rfl)) (fun q => q.elim (fun h => absurd h (pn hP rfl rfl)) (fun h => absurd h (nn rfl)))))).trans (hm1)
    have kn_32 : Hid (c_10 41 21 = n1) := (hF_12 41 21 (fun q => q.elim (fun h => absurd h.2 (ni rfl)) (fun q => q.elim (fun h => absurd h (nn rfl)) (fun q => q.elim (fun h => absurd h (nn rfl)) (fun q => q.elim (fun h => absurd h (nn rfl)) (fun h => absurd h (nn rfl))))))).trans (hid kn_31)
    have h_33 : c_10 41 21 = n1 := (hid kn_32)
    have kn_34 : Hid (c_3 P 2 = n2) := (hF_5 P 2 (fun q => q.elim (fun h => absurd h.1 (np0 hP rfl)) (fun q => q.elim (fun h => absurd h (p0p rfl)) (fun q => q.elim (fun h => absurd h (p0p rfl)) (fun h => absurd h (np0 hP rfl)))))).trans (hn2)
    have kn_35 : Hid (c_10 P 2 = n2) := (hF_12 P 2 (fun q => q.elim (fun h => absurd h.1 (np0 hP rfl)) (fun q => q.elim (fun h => absurd h (np0 hP rfl)) (fun q => q.elim (fun h => absurd h (np0 hP rfl)) (fun q => q.elim (fun h => absurd h (np0 hP rfl)) (fun h => absurd h (np0 hP rfl))))))).trans (hid kn_34)
    have h_36 : c_10 P 2 = n2 := (hid kn_35)
    have kn_37 : Hid (c_3 41 22 = n2) := (hF_5 41 22 (fun q => q.elim (fun h => absurd h.1 (nn rfl)) (fun q => q.elim (fun h => absurd h (pn hP rfl rfl)) (fun q => q.elim (fun h => absurd h (pn hP rfl rfl)) (fun h => absurd h (nn rfl)))))).trans (hm2)
    have kn_38 : Hid (c_10 41 22 = n2) := (hF_12 41 22 (fun q => q.elim (fun h => absurd h.2 (ni rfl)) (fun q => q.elim (fun h => absurd h (nn rfl)) (fun q => q.elim (fun h => absurd h (nn rfl)) (fun q => q.elim (fun h => absurd h (nn rfl)) (fun h => absurd h (nn rfl))))))).trans (hid kn_37)
    have h_39 : c_10 41 22 = n2 := (hid kn_38)
    have kn_40 : Hid (c_3 P 3 = n3) := (hF_5 P 3 (fun q => q.elim (fun h => absurd h.1 (np0 hP rfl)) (fun q => q.elim (fun h => absurd h (p0p rfl)) (fun q => q.elim (fun h => absurd h (p0p rfl)) (fun h => absurd h (np0 hP rfl)))))).trans (hn3)
    have kn_41 : Hid (c_10 P 3 = n3) := (hF_12 P 3 (fun q => q.elim (fun h => absurd h.1 (np0 hP rfl)) (fun q => q.elim (fun h => absurd h (np0 hP rfl)) (fun q => q.elim (fun h => absurd h (np0 hP rfl)) (fun q => q.elim (fun h => absurd h (np0 hP rfl)) (fun h => absurd h (np0 hP rfl))))))).trans (hid kn_40)
    have h_42 : c_10 P 3 = n3 := (hid kn_41)
    have kn_43 : Hid (c_3 41 23 = n3) := (hF_5 41 23 (fun q => q.elim (fun h => absurd h.1 (nn rfl)) (fun q => q.elim (fun h => absurd h (pn hP rfl rfl)) (fun q => q.elim (fun h => absurd h (pn hP rfl rfl)) (fun h => absurd h (nn rfl)))))).trans (hm3)
    have kn_44 : Hid (c_10 41 23 = n3) := (hF_12 41 23 (fun q => q.elim (fun h => absurd h.2 (ni rfl)) (fun q => q.elim (fun h => absurd h (nn rfl)) (fun q => q.elim (fun h => absurd h (nn rfl)) (fun q => q.elim (fun h => absurd h (nn rfl)) (fun h => absurd h (nn rfl))))))).trans (hid kn_43)
    have h_45 : c_10 41 23 = n3 := (hid kn_44)
    have h_46 : c_10 P 1 = n1 := (hid kn_29)
    have hA_47 : Ae (3 * n1) (c_10 (P + 2)) (c_10 48) := ae_fr hAshares (fun j => (hF_12 (P + 2) j (fun q => q.elim (fun h => absurd h.1 (np hP rfl rfl)) (fun q => q.elim (fun h => absurd h (np hP rfl rfl)) (fun q => q.elim (fun h => absurd h (np hP rfl rfl)) (fun q => q.elim (fun h => absurd h (np hP rfl rfl)) (fun h => absurd h (np hP rfl rfl))))))).trans (hF_5 (P + 2) j (fun q => q.elim (fun h => absurd h.1 (np hP rfl rfl)) (fun q => q.elim (fun h => absurd h (pp rfl)) (fun q => q.elim (fun h => absurd h (pp rfl)) (fun h => absurd h (np hP rfl rfl))))))) (fun j => (hF_12 48 j (fun q => q.elim (fun h => absurd h.1 (nn rfl)) (fun q => q.elim (fun h => absurd h (nn rfl)) (fun q => q.elim (fun h => absurd h (nn rfl)) (fun q => q.elim (fun h => absurd h (nn rfl)) (fun h => absurd h (nn rfl))))))).trans (hF_5 48 j (fun q => q.elim (fun h => absurd h.1 (nn rfl)) (fun q => q.elim (fun h => absurd h (pn hP rfl rfl)) (fun q => q.elim (fun h => absurd h (pn hP rfl rfl)) (fun h => absurd h (nn rfl)))))))
    have h_48 : c_10 P 2 = n2 := (hid kn_35)
    have hA_49 : Ae n2 (c_10 (P + 3)) (c_10 49) := ae_fr hAmeshes (fun j => (hF_12 (P + 3) j (fun q => q.elim (fun h => absurd h.1 (np hP rfl rfl)) (fun q => q.elim (fun h => absurd h (np hP rfl rfl)) (fun q => q.elim (fun h => absurd h (np hP rfl rfl)) (fun q => q.elim (fun h => absurd h (np hP rfl rfl)) (fun h => absurd h (np hP rfl rfl))))))).trans (hF_5 (P + 3) j (fun q => q.elim (fun h => absurd h.1 (np hP rfl rfl)) (fun q => q.elim (fun h => absurd h (pp rfl)) (fun q => q.elim (fun h => absurd h (pp rfl)) (fun h => absurd h (np hP rfl rfl))))))) (fun j => (hF_12 49 j (fun q => q.elim (fun h => absurd h.1 (nn rfl)) (fun q => q.elim (fun h => absurd h (nn rfl)) (fun q => q.elim (fun h => absurd h (nn rfl)) (fun q => q.elim (fun h => absurd h (nn rfl)) (fun h => absurd h (nn rfl))))))).trans (hF_5 49 j (fun q => q.elim (fun h => absurd h.1 (nn rfl)) (fun q => q.elim (fun h => absurd h (pn hP rfl rfl)) (fun q => q.elim (fun h => absurd h (pn hP rfl rfl)) (fun h => absurd h (nn rfl)))))))
    exact K P Q c_10 1 (by decide) hI_11 ⟨by omega, ub_fr hU (fun j => (hF_12 2 j (fun q => q.elim (fun h => absurd h.1 (nn rfl)) (fun q => q.elim (fun h => absurd h (nn rfl)) (fun q => q.elim (fun h => absurd h (nn rfl)) (fun q => q.elim (fun h => absurd h (nn rfl)) (fun h => absurd h (nn rfl))))))).trans (hF_5 2 j (fun q => q.elim (fun h => absurd h.1 (nn rfl)) (fun q => q.elim (fun h => absurd h (pn hP rfl rfl)) (fun q => q.elim (fun h => absurd h (pn hP rfl rfl)) (fun h => absurd h (nn rfl))))))) (fun j => (hF_12 43 j (fun q => q.elim (fun h => absurd h.1 (nn rfl)) (fun q => q.elim (fun h => absurd h (nn rfl)) (fun q => q.elim (fun h => absurd h (nn rfl)) (fun q => q.elim (fun h => absurd h (nn rfl)) (fun h => absurd h (nn rfl))))))).trans (hF_5 43 j (fun q => q.elim (fun h => absurd h.1 (nn rfl)) (fun q => q.elim (fun h => absurd h (pn hP rfl rfl)) (fun q => q.elim (fun h => absurd h (pn hP rfl rfl)) (fun h => absurd h (nn rfl))))))), ⟨by omega, by omega, by omega, by omega⟩, ae_le hA_47 (by omega), ae_le hA_49 (by omega)⟩
  refine bk_inl (v_i2l rfl (by omega) (v_ls rfl rfl (by decide) (by decide) (by decide) (q_goto (t := 15) rfl rfl (q_iconst rfl (q_iret rfl rfl (bk_inl (q_istore rfl (Nat.le_of_ble_eq_true rfl) ?_)))))))
  refine q_aload_n rfl rfl (q_aload_n rfl rfl (q_iload rfl rfl (q_iconst rfl (v_iadd (v := (i0 : Int) + 1) rfl rfl (v_scr (j := i0 + 1) rfl (by omega) (by omega) hL hx1 ?_)))))
  have hI_50 := iw_lx (a := 67) (j := 0) (v := y_9) hI_7 (by omega)
  refine v_cv rfl rfl rfl rfl (Nat.le_of_ble_eq_true rfl) ⟨⟨rfl, rfl⟩, Nat.le_of_ble_eq_true rfl, rfl⟩ (Nat.le_of_ble_eq_true rfl) (Nat.le_of_ble_eq_true rfl) (s_244 (a1 := x1) hI_50 (show (-2147483648) ≤ x1 ∧ x1 ≤ 2147483647 from ⟨by omega, by omega⟩) (fun c_51 y_54 hI_52 hF_53 hy_54 => (bk_inl (q_istore rfl (Nat.le_of_ble_eq_true rfl) (q_goto (t := 1844) rfl rfl (Wp_ls [(4, vi (i0 : Int)), (3, .ref 67), (2, .ref 41), (1, .ref 0), (0, .ref a_SC)] (lsub_cons rfl (lsub_cons rfl (lsub_cons rfl (lsub_cons rfl (lsub_cons rfl lsub_nil))))) ?_))))))
  have h_55 := ir_1_3 hI
  have kn_56 : Hid (c_6 1 3 = c 1 3) := hF_8 1 3 (fun q => q.elim (fun h => absurd h.1 (nn rfl)) (fun q => q.elim (fun h => absurd h (pn hP rfl rfl)) (fun q => q.elim (fun h => absurd h (pn hP rfl rfl)) (fun h => absurd h (nn rfl)))))
  have kn_57 : Hid (c_51 1 3 = c 1 3) := (hF_53 1 3 (fun q => q.elim (fun h => absurd h.1 (nn rfl)) (fun q => q.elim (fun h => absurd h (nn rfl)) (fun q => q.elim (fun h => absurd h (nn rfl)) (fun q => q.elim (fun h => absurd h (nn rfl)) (fun h => absurd h (nn rfl))))))).trans ((up_c (nn rfl)).trans (hid kn_56))
  have h_58 : c_51 1 3 = c 1 3 := (hid kn_57)
  have h_59 := ir_41_2 hI
  have kn_60 : Hid (c_6 41 2 = c 41 2) := hF_8 41 2 (fun q => q.elim (fun h => absurd h.1 (nn rfl)) (fun q => q.elim (fun h => absurd h (pn hP rfl rfl)) (fun q => q.elim (fun h => absurd h (pn hP rfl rfl)) (fun h => absurd h (nn rfl)))))
  have kn_61 : Hid (c_51 41 2 = c 41 2) := (hF_53 41 2 (fun q => q.elim (fun h => absurd h.2 (ni rfl)) (fun q => q.elim (fun h => absurd h (nn rfl)) (fun q => q.elim (fun h => absurd h (nn rfl)) (fun q => q.elim (fun h => absurd h (nn rfl)) (fun h => absurd h (nn rfl))))))).trans ((up_c (nn rfl)).trans (hid kn_60))
  have h_62 : c_51 41 2 = c 41 2 := (hid kn_61)
  have kn_63 : Hid (c_6 P 0 = n0) := (hF_8 P 0 (fun q => q.elim (fun h => absurd h.1 (np0 hP rfl)) (fun q => q.elim (fun h => absurd h (p0p rfl)) (fun q => q.elim (fun h => absurd h (p0p rfl)) (fun h => absurd h (np0 hP rfl)))))).trans (hn0)
  have kn_64 : Hid (c_51 P 0 = n0) := (hF_53 P 0 (fun q => q.elim (fun h => absurd h.1 (np0 hP rfl)) (fun q => q.elim (fun h => absurd h (np0 hP rfl)) (fun q => q.elim (fun h => absurd h (np0 hP rfl)) (fun q => q.elim (fun h => absurd h (np0 hP rfl)) (fun h => absurd h (np0 hP rfl))))))).trans ((up_c (np0 hP rfl)).trans (hid kn_63))
  have h_65 : c_51 P 0 = n0 := (hid kn_64)
  have kn_66 : Hid (c_6 41 20 = n0) := (hF_8 41 20 (fun q => q.elim (fun h => absurd h.1 (nn rfl)) (fun q => q.elim (fun h => absurd h (pn hP rfl rfl)) (fun q => q.elim (fun h => absurd h (pn hP rfl rfl)) (fun h => absurd h (nn rfl)))))).trans (hm0)
  have kn_67 : Hid (c_51 41 20 = n0) := (hF_53 41 20 (fun q => q.elim (fun h => absurd h.2 (ni rfl)) (fun q => q.elim (fun h => absurd h (nn rfl)) (fun q => q.elim (fun h => absurd h (nn rfl)) (fun q => q.elim (fun h => absurd h (nn rfl)) (fun h => absurd h (nn rfl))))))).trans ((up_c (nn rfl)).trans (hid kn_66))
  have h_68 : c_51 41 20 = n0 := (hid kn_67)
  have kn_69 : Hid (c_6 P 1 = n1) := (hF_8 P 1 (fun q => q.elim (fun h => absurd h.1 (np0 hP rfl)) (fun q => q.elim (fun h => absurd h (p0p rfl)) (fun q => q.elim (fun h => absurd h (p0p rfl)) (fun h => absurd h (np0 hP rfl)))))).trans (hn1)
  have kn_70 : Hid (c_51 P 1 = n1) := (hF_53 P 1 (fun q => q.elim (fun h => absurd h.1 (np0 hP rfl)) (fun q => q.elim (fun h => absurd h (np0 hP rfl)) (fun q => q.elim (fun h => absurd h (np0 hP rfl)) (fun q => q.elim (fun h => absurd h (np0 hP rfl)) (fun h => absurd h (np0 hP rfl))))))).trans ((up_c (np0 hP rfl)).trans (hid kn_69))
  have h_71 : c_51 P 1 = n1 := (hid kn_70)
  have kn_72 : Hid (c_6 41 21 = n1) := (hF_8 41 21 (fun q => q.elim (fun h => absurd h.1 (nn rfl)) (fun q => q.elim (fun h => absurd h (pn hP rfl rfl)) (fun q => q.elim (fun h => absurd h (pn hP rfl rfl)) (fun h => absurd h (nn rfl)))))).trans (hm1)
  have kn_73 : Hid (c_51 41 21 = n1) := (hF_53 41 21 (fun q => q.elim (fun h => absurd h.2 (ni rfl)) (fun q => q.elim (fun h => absurd h (nn rfl)) (fun q => q.elim (fun h => absurd h (nn rfl)) (fun q => q.elim (fun h => absurd h (nn rfl)) (fun h => absurd h (nn rfl))))))).trans ((up_c (nn rfl)).trans (hid kn_72))
  have h_74 : c_51 41 21 = n1 := (hid kn_73)
  have kn_75 : Hid (c_6 P 2 = n2) := (hF_8 P 2 (fun q => q.elim (fun h => absurd h.1 (np0 hP rfl)) (fun q => q.elim (fun h => absurd h (p0p rfl)) (fun q => q.elim (fun h => absurd h (p0p rfl)) (fun h => absurd h (np0 hP rfl)))))).trans (hn2)
  have kn_76 : Hid (c_51 P 2 = n2) := (hF_53 P 2 (fun q => q.elim (fun h => absurd h.1 (np0 hP rfl)) (fun q => q.elim (fun h => absurd h (np0 hP rfl)) (fun q => q.elim (fun h => absurd h (np0 hP rfl)) (fun q => q.elim (fun h => absurd h (np0 hP rfl)) (fun h => absurd h (np0 hP rfl))))))).trans ((up_c (np0 hP rfl)).trans (hid kn_75))
  have h_77 : c_51 P 2 = n2 := (hid kn_76)
  have kn_78 : Hid (c_6 41 22 = n2) := (hF_8 41 22 (fun q => q.elim (fun h => absurd h.1 (nn rfl)) (fun q => q.elim (fun h => absurd h (pn hP rfl rfl)) (fun q => q.elim (fun h => absurd h (pn hP rfl rfl)) (fun h => absurd h (nn rfl)))))).trans (hm2)
  have kn_79 : Hid (c_51 41 22 = n2) := (hF_53 41 22 (fun q => q.elim (fun h => absurd h.2 (ni rfl)) (fun q => q.elim (fun h => absurd h (nn rfl)) (fun q => q.elim (fun h => absurd h (nn rfl)) (fun q => q.elim (fun h => absurd h (nn rfl)) (fun h => absurd h (nn rfl))))))).trans ((up_c (nn rfl)).trans (hid kn_78))
  have h_80 : c_51 41 22 = n2 := (hid kn_79)
  have kn_81 : Hid (c_6 P 3 = n3) := (hF_8 P 3 (fun q => q.elim (fun h => absurd h.1 (np0 hP rfl)) (fun q => q.elim (fun h => absurd h (p0p rfl)) (fun q => q.elim (fun h => absurd h (p0p rfl)) (fun h => absurd h (np0 hP rfl)))))).trans (hn3)
  have kn_82 : Hid (c_51 P 3 = n3) := (hF_53 P 3 (fun q => q.elim (fun h => absurd h.1 (np0 hP rfl)) (fun q => q.elim (fun h => absurd h (np0 hP rfl)) (fun q => q.elim (fun h => absurd h (np0 hP rfl)) (fun q => q.elim (fun h => absurd h (np0 hP rfl)) (fun h => absurd h (np0 hP rfl))))))).trans ((up_c (np0 hP rfl)).trans (hid kn_81))
  have h_83 : c_51 P 3 = n3 := (hid kn_82)
  have kn_84 : Hid (c_6 41 23 = n3) := (hF_8 41 23 (fun q => q.elim (fun h => absurd h.1 (nn rfl)) (fun q => q.elim (fun h => absurd h (pn hP rfl rfl)) (fun q => q.elim (fun h => absurd h (pn hP rfl rfl)) (fun h => absurd h (nn rfl)))))).trans (hm3)
  have kn_85 : Hid (c_51 41 23 = n3) := (hF_53 41 23 (fun q => q.elim (fun h => absurd h.2 (ni rfl)) (fun q => q.elim (fun h => absurd h (nn rfl)) (fun q => q.elim (fun h => absurd h (nn rfl)) (fun q => q.elim (fun h => absurd h (nn rfl)) (fun h => absurd h (nn rfl))))))).trans ((up_c (nn rfl)).trans (hid kn_84))
  have h_86 : c_51 41 23 = n3 := (hid kn_85)
  have h_87 : c_51 P 1 = n1 := (hid kn_70)
  have hA_88 : Ae (3 * n1) (c_51 (P + 2)) (c_51 48) := ae_fr hAshares (fun j => (hF_53 (P + 2) j (fun q => q.elim (fun h => absurd h.1 (np hP rfl rfl)) (fun q => q.elim (fun h => absurd h (np hP rfl rfl)) (fun q => q.elim (fun h => absurd h (np hP rfl rfl)) (fun q => q.elim (fun h => absurd h (np hP rfl rfl)) (fun h => absurd h (np hP rfl rfl))))))).trans ((up_c (np hP rfl rfl)).trans (hF_8 (P + 2) j (fun q => q.elim (fun h => absurd h.1 (np hP rfl rfl)) (fun q => q.elim (fun h => absurd h (pp rfl)) (fun q => q.elim (fun h => absurd h (pp rfl)) (fun h => absurd h (np hP rfl rfl)))))))) (fun j => (hF_53 48 j (fun q => q.elim (fun h => absurd h.1 (nn rfl)) (fun q => q.elim (fun h => absurd h (nn rfl)) (fun q => q.elim (fun h => absurd h (nn rfl)) (fun q => q.elim (fun h => absurd h (nn rfl)) (fun h => absurd h (nn rfl))))))).trans ((up_c (nn rfl)).trans (hF_8 48 j (fun q => q.elim (fun h => absurd h.1 (nn rfl)) (fun q => q.elim (fun h => absurd h (pn hP rfl rfl)) (fun q => q.elim (fun h => absurd h (pn hP rfl rfl)) (fun h => absurd h (nn rfl))))))))
  have h_89 : c_51 P 2 = n2 := (hid kn_76)
  have hA_90 : Ae n2 (c_51 (P + 3)) (c_51 49) := ae_fr hAmeshes (fun j => (hF_53 (P + 3) j (fun q => q.elim (fun h => absurd h.1 (np hP rfl rfl)) (fun q => q.elim (fun h => absurd h (np hP rfl rfl)) (fun q => q.elim (fun h => absurd h (np hP rfl rfl)) (fun q => q.elim (fun h => absurd h (np hP rfl rfl)) (fun h => absurd h (np hP rfl rfl))))))).trans ((up_c (np hP rfl rfl)).trans (hF_8 (P + 3) j (fun q => q.elim (fun h => absurd h.1 (np hP rfl rfl)) (fun q => q.elim (fun h => absurd h (pp rfl)) (fun q => q.elim (fun h => absurd h (pp rfl)) (fun h => absurd h (np hP rfl rfl)))))))) (fun j => (hF_53 49 j (fun q => q.elim (fun h => absurd h.1 (nn rfl)) (fun q => q.elim (fun h => absurd h (nn rfl)) (fun q => q.elim (fun h => absurd h (nn rfl)) (fun q => q.elim (fun h => absurd h (nn rfl)) (fun h => absurd h (nn rfl))))))).trans ((up_c (nn rfl)).trans (hF_8 49 j (fun q => q.elim (fun h => absurd h.1 (nn rfl)) (fun q => q.elim (fun h => absurd h (pn hP rfl rfl)) (fun q => q.elim (fun h => absurd h (pn hP rfl rfl)) (fun h => absurd h (nn rfl))))))))
  exact K P Q c_51 0 (by decide) hI_52 ⟨by omega, ub_fr hU (fun j => (hF_53 2 j (fun q => q.elim (fun h => absurd h.1 (nn rfl)) (fun q => q.elim (fun h => absurd h (nn rfl)) (fun q => q.elim (fun h => absurd h (nn rfl)) (fun q => q.elim (fun h => absurd h (nn rfl)) (fun h => absurd h (nn rfl))))))).trans ((up_c (nn rfl)).trans (hF_8 2 j (fun q => q.elim (fun h => absurd h.1 (nn rfl)) (fun q => q.elim (fun h => absurd h (pn hP rfl rfl)) (fun q => q.elim (fun h => absurd h (pn hP rfl rfl)) (fun h => absurd h (nn rfl)))))))) (fun j => (hF_53 43 j (fun q => q.elim (fun h => absurd h.1 (nn rfl)) (fun q => q.elim (fun h => absurd h (nn rfl)) (fun q => q.elim (fun h => absurd h (nn rfl)) (fun q => q.elim (fun h => absurd h (nn rfl)) (fun h => absurd h (nn rfl))))))).trans ((up_c (nn rfl)).trans (hF_8 43 j (fun q => q.elim (fun h => absurd h.1 (nn rfl)) (fun q => q.elim (fun h => absurd h (pn hP rfl rfl)) (fun q => q.elim (fun h => absurd h (pn hP rfl rfl)) (fun h => absurd h (nn rfl)))))))), ⟨by omega, by omega, by omega, by omega⟩, ae_le hA_88 (by omega), ae_le hA_90 (by omega)⟩

set_option maxRecDepth 100000 in
set_option maxHeartbeats 4000000 in
theorem o_30 {xs : Nat → Int32} {L i0 d nc ns P Q : Nat} {c : ME} {Z : AR → Prop} (hi : i0 + 8 ≤ L) (hL : L ≤ 100000) (hI : Iv 0 (-1) P Q c) (hR : Rq P c) (K : ∀ (P2 Q2 : Nat) (c2 : ME) (e : Nat), e ≤ 1 → Iv 0 (-1) P2 Q2 c2 → (Rq P2 c2) → Wp (a_scr L xs) (d + 90) 296 1844 [(4, vi (i0 : Int)), (3, .ref 67), (2, .ref 41), (1, .ref 0), (0, .ref a_SC)] [] (Wd P2 Q2 P2 P2 c2) (nc + e) (ns + 6 * e) Z) : Wp (a_scr L xs) (d + 90) 296 1409 [(4, vi (i0 : Int)), (3, .ref 67), (2, .ref 41), (1, .ref 0), (0, .ref a_SC)] [] (Wd P Q P P c) nc ns Z := by
  obtain ⟨x1, hx1⟩ : ∃ z, (xs (i0 + 1)).toInt = z := ⟨_, rfl⟩
  have x1r := c_rng (xs (i0 + 1))
  rw [hx1] at x1r
  obtain ⟨x2, hx2⟩ : ∃ z, (xs (i0 + 2)).toInt = z := ⟨_, rfl⟩
  have x2r := c_rng (xs (i0 + 2))
  rw [hx2] at x2r
  obtain ⟨x3, hx3⟩ : ∃ z, (xs (i0 + 3)).toInt = z := ⟨_, rfl⟩
  have x3r := c_rng (xs (i0 + 3))
  rw [hx3] at x3r
  obtain ⟨x4, hx4⟩ : ∃ z, (xs (i0 + 4)).toInt = z := ⟨_, rfl⟩
  have x4r := c_rng (xs (i0 + 4))
  rw [hx4] at x4r
  obtain ⟨x5, hx5⟩ : ∃ z, (xs (i0 + 5)).toInt = z := ⟨_, rfl⟩
  have x5r := c_rng (xs (i0 + 5))
  rw [hx5] at x5r
  obtain ⟨x6, hx6⟩ : ∃ z, (xs (i0 + 6)).toInt = z := ⟨_, rfl⟩
  have x6r := c_rng (xs (i0 + 6))
  rw [hx6] at x6r
  obtain ⟨x7, hx7⟩ : ∃ z, (xs (i0 + 7)).toInt = z := ⟨_, rfl⟩
  have x7r := c_rng (xs (i0 + 7))
  rw [hx7] at x7r
  have hT := rl_t hR
  have hU := rl_u hR
  have hP := iv_P hI
  obtain ⟨n0, hn0⟩ : ∃ z, c P 0 = z := ⟨_, rfl⟩
  have hm0 : c 41 20 = n0 := (rl_nums hR).1.symm.trans hn0
  have hr0 := ir_p0_0 hI hP
  rw [hn0] at hr0
  obtain ⟨n1, hn1⟩ : ∃ z, c P 1 = z := ⟨_, rfl⟩
  have hm1 : c 41 21 = n1 := (rl_nums hR).2.1.symm.trans hn1
  have hr1 := ir_p0_1 hI hP
  rw [hn1] at hr1
  obtain ⟨n2, hn2⟩ : ∃ z, c P 2 = z := ⟨_, rfl⟩
  have hm2 : c 41 22 = n2 := (rl_nums hR).2.2.1.symm.trans hn2
  have hr2 := ir_p0_2 hI hP
  rw [hn2] at hr2
  obtain ⟨n3, hn3⟩ : ∃ z, c P 3 = z := ⟨_, rfl⟩
  have hm3 : c 41 23 = n3 := (rl_nums hR).2.2.2.symm.trans hn3
  have hr3 := ir_p0_3 hI hP
  rw [hn3] at hr3
  have h_1 : c P 1 = n1 := (hn1)
  have hAshares : Ae (3 * n1) (c (P + 2)) (c 48) := ae_le (rl_shares hR) (by omega)
  have h_2 : c P 2 = n2 := (hn2)
  have hAmeshes : Ae n2 (c (P + 3)) (c 49) := ae_le (rl_meshes hR) (by omega)
  have hP := iv_P hI
  have hQ := iv_Q hI
  refine q_aload_n rfl rfl (q_aload_n rfl rfl (q_iload rfl rfl (q_iconst rfl (v_iadd (v := (i0 : Int) + 1) rfl rfl (v_scr (j := i0 + 1) rfl (by omega) (by omega) hL hx1 (q_aload_n rfl rfl (q_call rfl rfl rfl rfl ?_)))))))
  refine q_aload_n rfl rfl (q_iconst rfl (q_aload_n rfl rfl (q_iload_n rfl rfl ?_)))
  refine v_cv rfl rfl rfl rfl (Nat.le_of_ble_eq_true rfl) ⟨⟨rfl, rfl⟩, Nat.le_of_ble_eq_true rfl, rfl⟩ (Nat.le_of_ble_eq_true rfl) (Nat.le_of_ble_eq_true rfl) (s_98 (a1 := x1) hI (show (-2147483648) ≤ x1 ∧ x1 ≤ 2147483647 from ⟨by omega, by omega⟩) (fun c_3 hI_4 hF_5 => ?_) (fun c_6 y_9 hI_7 hF_8 hy_9 => ?_))
  · skip
    refine bk_thr (z := Int32.ofInt 1) rfl ⟨_, _, rfl⟩ rfl (bk_inl (q_istore rfl (Nat.le_of_ble_eq_true rfl) (q_aload_n rfl rfl (q_aload_n rfl rfl (q_iload rfl rfl (q_iconst rfl (v_iadd (v := (i0 : Int) + 1) rfl rfl ?_)))))))
    refine v_scr (j := i0 + 1) rfl (by omega) (by omega) hL hx1 (v_cv rfl rfl rfl rfl (Nat.le_of_ble_eq_true rfl) ⟨⟨rfl, rfl⟩, Nat.le_of_ble_eq_true rfl, rfl⟩ (Nat.le_of_ble_eq_true rfl) (Nat.le_of_ble_eq_true rfl) (s_245 (a1 := x1) hI_4 (show (-2147483648) ≤ x1 ∧ x1 ≤ 2147483647 from ⟨by omega, by omega⟩) (fun c_10 y_13 hI_11 hF_12 hy_13 => (bk_inl (q_istore rfl (Nat.le_of_ble_eq_true rfl) (q_goto (t := 1844) rfl rfl (Wp_ls [(4, vi (i0 : Int)), (3, .ref 67), (2, .ref 41), (1, .ref 0), (0, .ref a_SC)] (lsub_cons rfl (lsub_cons rfl (lsub_cons rfl (lsub_cons rfl (lsub_cons rfl lsub_nil))))) ?_)))))))
    have h_14 := ir_1_3 hI
    have kn_15 : Hid (c_3 1 3 = c 1 3) := hF_5 1 3 (fun h => absurd h.1 (nn rfl))
    have kn_16 : Hid (c_10 1 3 = c 1 3) := (hF_12 1 3 (fun q => q.elim (fun h => absurd h.1 (nn rfl)) (fun q => q.elim (fun h => absurd h (nn rfl)) (fun h => absurd h (nn rfl))))).trans (hid kn_15)
    have h_17 : c_10 1 3 = c 1 3 := (hid kn_16)
    have h_18 := ir_41_2 hI
    have kn_19 : Hid (c_3 41 2 = c 41 2) := hF_5 41 2 (fun h => absurd h.1 (nn rfl))
    have kn_20 : Hid (c_10 41 2 = c 41 2) := (hF_12 41 2 (fun q => q.elim (fun h => absurd h.2 (ni rfl)) (fun q => q.elim (fun h => absurd h (nn rfl)) (fun h => absurd h (nn rfl))))).trans (hid kn_19)
    have h_21 : c_10 41 2 = c 41 2 := (hid kn_20)
    have kn_22 : Hid (c_3 P 0 = n0) := (hF_5 P 0 (fun h => absurd h.1 (np0 hP rfl))).trans (hn0)
    have kn_23 : Hid (c_10 P 0 = n0) := (hF_12 P 0 (fun q => q.elim (fun h => absurd h.1 (np0 hP rfl)) (fun q => q.elim (fun h => absurd h (np0 hP rfl)) (fun h => absurd h (np0 hP rfl))))).trans (hid kn_22)
    have h_24 : c_10 P 0 = n0 := (hid kn_23)
    have kn_25 : Hid (c_3 41 20 = n0) := (hF_5 41 20 (fun h => absurd h.1 (nn rfl))).trans (hm0)
    have kn_26 : Hid (c_10 41 20 = n0) := (hF_12 41 20 (fun q => q.elim (fun h => absurd h.2 (ni rfl)) (fun q => q.elim (fun h => absurd h (nn rfl)) (fun h => absurd h (nn rfl))))).trans (hid kn_25)
    have h_27 : c_10 41 20 = n0 := (hid kn_26)
    have kn_28 : Hid (c_3 P 1 = n1) := (hF_5 P 1 (fun h => absurd h.1 (np0 hP rfl))).trans (hn1)
    have kn_29 : Hid (c_10 P 1 = n1) := (hF_12 P 1 (fun q => q.elim (fun h => absurd h.1 (np0 hP rfl)) (fun q => q.elim (fun h => absurd h (np0 hP rfl)) (fun h => absurd h (np0 hP rfl))))).trans (hid kn_28)
    have h_30 : c_10 P 1 = n1 := (hid kn_29)
    have kn_31 : Hid (c_3 41 21 = n1) := (hF_5 41 21 (fun h => absurd h.1 (nn rfl))).trans (hm1)
    have kn_32 : Hid (c_10 41 21 = n1) := (hF_12 41 21 (fun q => q.elim (fun h => absurd h.2 (ni rfl)) (fun q => q.elim (fun h => absurd h (nn rfl)) (fun h => absurd h (nn rfl))))).trans (hid kn_31)
    have h_33 : c_10 41 21 = n1 := (hid kn_32)
    have kn_34 : Hid (c_3 P 2 = n2) := (hF_5 P 2 (fun h => absurd h.1 (np0 hP rfl))).trans (hn2)
    have kn_35 : Hid (c_10 P 2 = n2) := (hF_12 P 2 (fun q => q.elim (fun h => absurd h.1 (np0 hP rfl)) (fun q => q.elim (fun h => absurd h (np0 hP rfl)) (fun h => absurd h (np0 hP rfl))))).trans (hid kn_34)
    have h_36 : c_10 P 2 = n2 := (hid kn_35)
    have kn_37 : Hid (c_3 41 22 = n2) := (hF_5 41 22 (fun h => absurd h.1 (nn rfl))).trans (hm2)
    have kn_38 : Hid (c_10 41 22 = n2) := (hF_12 41 22 (fun q => q.elim (fun h => absurd h.2 (ni rfl)) (fun q => q.elim (fun h => absurd h (nn rfl)) (fun h => absurd h (nn rfl))))).trans (hid kn_37)
    have h_39 : c_10 41 22 = n2 := (hid kn_38)
    have kn_40 : Hid (c_3 P 3 = n3) := (hF_5 P 3 (fun h => absurd h.1 (np0 hP rfl))).trans (hn3)
    have kn_41 : Hid (c_10 P 3 = n3) := (hF_12 P 3 (fun q => q.elim (fun h => absurd h.1 (np0 hP rfl)) (fun q => q.elim (fun h => absurd h (np0 hP rfl)) (fun h => absurd h (np0 hP rfl))))).trans (hid kn_40)
    have h_42 : c_10 P 3 = n3 := (hid kn_41)
    have kn_43 : Hid (c_3 41 23 = n3) := (hF_5 41 23 (fun h => absurd h.1 (nn rfl))).trans (hm3)
    have kn_44 : Hid (c_10 41 23 = n3) := (hF_12 41 23 (fun q => q.elim (fun h => absurd h.2 (ni rfl)) (fun q => q.elim (fun h => absurd h (nn rfl)) (fun h => absurd h (nn rfl))))).trans (hid kn_43)
    have h_45 : c_10 41 23 = n3 := (hid kn_44)
    have h_46 : c_10 P 1 = n1 := (hid kn_29)
    have hA_47 : Ae (3 * n1) (c_10 (P + 2)) (c_10 48) := ae_fr hAshares (fun j => (hF_12 (P + 2) j (fun q => q.elim (fun h => absurd h.1 (np hP rfl rfl)) (fun q => q.elim (fun h => absurd h (np hP rfl rfl)) (fun h => absurd h (np hP rfl rfl))))).trans (hF_5 (P + 2) j (fun h => absurd h.1 (np hP rfl rfl)))) (fun j => (hF_12 48 j (fun q => q.elim (fun h => absurd h.1 (nn rfl)) (fun q => q.elim (fun h => absurd h (nn rfl)) (fun h => absurd h (nn rfl))))).trans (hF_5 48 j (fun h => absurd h.1 (nn rfl))))
    have h_48 : c_10 P 2 = n2 := (hid kn_35)
    have hA_49 : Ae n2 (c_10 (P + 3)) (c_10 49) := ae_fr hAmeshes (fun j => (hF_12 (P + 3) j (fun q => q.elim (fun h => absurd h.1 (np hP rfl rfl)) (fun q => q.elim (fun h => absurd h (np hP rfl rfl)) (fun h => absurd h (np hP rfl rfl))))).trans (hF_5 (P + 3) j (fun h => absurd h.1 (np hP rfl rfl)))) (fun j => (hF_12 49 j (fun q => q.elim (fun h => absurd h.1 (nn rfl)) (fun q => q.elim (fun h => absurd h (nn rfl)) (fun h => absurd h (nn rfl))))).trans (hF_5 49 j (fun h => absurd h.1 (nn rfl))))
    exact K P Q c_10 1 (by decide) hI_11 ⟨by omega, ub_fr hU (fun j => (hF_12 2 j (fun q => q.elim (fun h => absurd h.1 (nn rfl)) (fun q => q.elim (fun h => absurd h (nn rfl)) (fun h => absurd h (nn rfl))))).trans (hF_5 2 j (fun h => absurd h.1 (nn rfl)))) (fun j => (hF_12 43 j (fun q => q.elim (fun h => absurd h.1 (nn rfl)) (fun q => q.elim (fun h => absurd h (nn rfl)) (fun h => absurd h (nn rfl))))).trans (hF_5 43 j (fun h => absurd h.1 (nn rfl)))), ⟨by omega, by omega, by omega, by omega⟩, ae_le hA_47 (by omega), ae_le hA_49 (by omega)⟩
  refine bk_inl (v_i2l rfl (by omega) (v_ls rfl rfl (by decide) (by decide) (by decide) (q_goto (t := 15) rfl rfl (q_iconst rfl (q_iret rfl rfl (bk_inl (q_istore rfl (Nat.le_of_ble_eq_true rfl) ?_)))))))
  refine q_aload_n rfl rfl (q_aload_n rfl rfl (q_iload rfl rfl (q_iconst rfl (v_iadd (v := (i0 : Int) + 1) rfl rfl (v_scr (j := i0 + 1) rfl (by omega) (by omega) hL hx1 ?_)))))
  have hI_50 := iw_lx (a := 67) (j := 0) (v := y_9) hI_7 (by omega)
  refine v_cv rfl rfl rfl rfl (Nat.le_of_ble_eq_true rfl) ⟨⟨rfl, rfl⟩, Nat.le_of_ble_eq_true rfl, rfl⟩ (Nat.le_of_ble_eq_true rfl) (Nat.le_of_ble_eq_true rfl) (s_245 (a1 := x1) hI_50 (show (-2147483648) ≤ x1 ∧ x1 ≤ 2147483647 from ⟨by omega, by omega⟩) (fun c_51 y_54 hI_52 hF_53 hy_54 => (bk_inl (q_istore rfl (Nat.le_of_ble_eq_true rfl) (q_goto (t := 1844) rfl rfl (Wp_ls [(4, vi (i0 : Int)), (3, .ref 67), (2, .ref 41), (1, .ref 0), (0, .ref a_SC)] (lsub_cons rfl (lsub_cons rfl (lsub_cons rfl (lsub_cons rfl (lsub_cons rfl lsub_nil))))) ?_))))))
  have h_55 := ir_1_3 hI
  have kn_56 : Hid (c_6 1 3 = c 1 3) := hF_8 1 3 (fun h => absurd h.1 (nn rfl))
  have kn_57 : Hid (c_51 1 3 = c 1 3) := (hF_53 1 3 (fun q => q.elim (fun h => absurd h.1 (nn rfl)) (fun q => q.elim (fun h => absurd h (nn rfl)) (fun h => absurd h (nn rfl))))).trans ((up_c (nn rfl)).trans (hid kn_56))
  have h_58 : c_51 1 3 = c 1 3 := (hid kn_57)
  have h_59 := ir_41_2 hI
  have kn_60 : Hid (c_6 41 2 = c 41 2) := hF_8 41 2 (fun h => absurd h.1 (nn rfl))
  have kn_61 : Hid (c_51 41 2 = c 41 2) := (hF_53 41 2 (fun q => q.elim (fun h => absurd h.2 (ni rfl)) (fun q => q.elim (fun h => absurd h (nn rfl)) (fun h => absurd h (nn rfl))))).trans ((up_c (nn rfl)).trans (hid kn_60))
  have h_62 : c_51 41 2 = c 41 2 := (hid kn_61)
  have kn_63 : Hid (c_6 P 0 = n0) := (hF_8 P 0 (fun h => absurd h.1 (np0 hP rfl))).trans (hn0)
  have kn_64 : Hid (c_51 P 0 = n0) := (hF_53 P 0 (fun q => q.elim (fun h => absurd h.1 (np0 hP rfl)) (fun q => q.elim (fun h => absurd h (np0 hP rfl)) (fun h => absurd h (np0 hP rfl))))).trans ((up_c (np0 hP rfl)).trans (hid kn_63))
  have h_65 : c_51 P 0 = n0 := (hid kn_64)
  have kn_66 : Hid (c_6 41 20 = n0) := (hF_8 41 20 (fun h => absurd h.1 (nn rfl))).trans (hm0)
  have kn_67 : Hid (c_51 41 20 = n0) := (hF_53 41 20 (fun q => q.elim (fun h => absurd h.2 (ni rfl)) (fun q => q.elim (fun h => absurd h (nn rfl)) (fun h => absurd h (nn rfl))))).trans ((up_c (nn rfl)).trans (hid kn_66))
  have h_68 : c_51 41 20 = n0 := (hid kn_67)
  have kn_69 : Hid (c_6 P 1 = n1) := (hF_8 P 1 (fun h => absurd h.1 (np0 hP rfl))).trans (hn1)
  have kn_70 : Hid (c_51 P 1 = n1) := (hF_53 P 1 (fun q => q.elim (fun h => absurd h.1 (np0 hP rfl)) (fun q => q.elim (fun h => absurd h (np0 hP rfl)) (fun h => absurd h (np0 hP rfl))))).trans ((up_c (np0 hP rfl)).trans (hid kn_69))
  have h_71 : c_51 P 1 = n1 := (hid kn_70)
  have kn_72 : Hid (c_6 41 21 = n1) := (hF_8 41 21 (fun h => absurd h.1 (nn rfl))).trans (hm1)
  have kn_73 : Hid (c_51 41 21 = n1) := (hF_53 41 21 (fun q => q.elim (fun h => absurd h.2 (ni rfl)) (fun q => q.elim (fun h => absurd h (nn rfl)) (fun h => absurd h (nn rfl))))).trans ((up_c (nn rfl)).trans (hid kn_72))
  have h_74 : c_51 41 21 = n1 := (hid kn_73)
  have kn_75 : Hid (c_6 P 2 = n2) := (hF_8 P 2 (fun h => absurd h.1 (np0 hP rfl))).trans (hn2)
  have kn_76 : Hid (c_51 P 2 = n2) := (hF_53 P 2 (fun q => q.elim (fun h => absurd h.1 (np0 hP rfl)) (fun q => q.elim (fun h => absurd h (np0 hP rfl)) (fun h => absurd h (np0 hP rfl))))).trans ((up_c (np0 hP rfl)).trans (hid kn_75))
  have h_77 : c_51 P 2 = n2 := (hid kn_76)
  have kn_78 : Hid (c_6 41 22 = n2) := (hF_8 41 22 (fun h => absurd h.1 (nn rfl))).trans (hm2)
  have kn_79 : Hid (c_51 41 22 = n2) := (hF_53 41 22 (fun q => q.elim (fun h => absurd h.2 (ni rfl)) (fun q => q.elim (fun h => absurd h (nn rfl)) (fun h => absurd h (nn rfl))))).trans ((up_c (nn rfl)).trans (hid kn_78))
  have h_80 : c_51 41 22 = n2 := (hid kn_79)
  have kn_81 : Hid (c_6 P 3 = n3) := (hF_8 P 3 (fun h => absurd h.1 (np0 hP rfl))).trans (hn3)
  have kn_82 : Hid (c_51 P 3 = n3) := (hF_53 P 3 (fun q => q.elim (fun h => absurd h.1 (np0 hP rfl)) (fun q => q.elim (fun h => absurd h (np0 hP rfl)) (fun h => absurd h (np0 hP rfl))))).trans ((up_c (np0 hP rfl)).trans (hid kn_81))
  have h_83 : c_51 P 3 = n3 := (hid kn_82)
  have kn_84 : Hid (c_6 41 23 = n3) := (hF_8 41 23 (fun h => absurd h.1 (nn rfl))).trans (hm3)
  have kn_85 : Hid (c_51 41 23 = n3) := (hF_53 41 23 (fun q => q.elim (fun h => absurd h.2 (ni rfl)) (fun q => q.elim (fun h => absurd h (nn rfl)) (fun h => absurd h (nn rfl))))).trans ((up_c (nn rfl)).trans (hid kn_84))
  have h_86 : c_51 41 23 = n3 := (hid kn_85)
  have h_87 : c_51 P 1 = n1 := (hid kn_70)
  have hA_88 : Ae (3 * n1) (c_51 (P + 2)) (c_51 48) := ae_fr hAshares (fun j => (hF_53 (P + 2) j (fun q => q.elim (fun h => absurd h.1 (np hP rfl rfl)) (fun q => q.elim (fun h => absurd h (np hP rfl rfl)) (fun h => absurd h (np hP rfl rfl))))).trans ((up_c (np hP rfl rfl)).trans (hF_8 (P + 2) j (fun h => absurd h.1 (np hP rfl rfl))))) (fun j => (hF_53 48 j (fun q => q.elim (fun h => absurd h.1 (nn rfl)) (fun q => q.elim (fun h => absurd h (nn rfl)) (fun h => absurd h (nn rfl))))).trans ((up_c (nn rfl)).trans (hF_8 48 j (fun h => absurd h.1 (nn rfl)))))
  have h_89 : c_51 P 2 = n2 := (hid kn_76)
  have hA_90 : Ae n2 (c_51 (P + 3)) (c_51 49) := ae_fr hAmeshes (fun j => (hF_53 (P + 3) j (fun q => q.elim (fun h => absurd h.1 (np hP rfl rfl)) (fun q => q.elim (fun h => absurd h (np hP rfl rfl)) (fun h => absurd h (np hP rfl rfl))))).trans ((up_c (np hP rfl rfl)).trans (hF_8 (P + 3) j (fun h => absurd h.1 (np hP rfl rfl))))) (fun j => (hF_53 49 j (fun q => q.elim (fun h => absurd h.1 (nn rfl)) (fun q => q.elim (fun h => absurd h (nn rfl)) (fun h => absurd h (nn rfl))))).trans ((up_c (nn rfl)).trans (hF_8 49 j (fun h => absurd h.1 (nn rfl)))))
  exact K P Q c_51 0 (by decide) hI_52 ⟨by omega, ub_fr hU (fun j => (hF_53 2 j (fun q => q.elim (fun h => absurd h.1 (nn rfl)) (fun q => q.elim (fun h => absurd h (nn rfl)) (fun h => absurd h (nn rfl))))).trans ((up_c (nn rfl)).trans (hF_8 2 j (fun h => absurd h.1 (nn rfl))))) (fun j => (hF_53 43 j (fun q => q.elim (fun h => absurd h.1 (nn rfl)) (fun q => q.elim (fun h => absurd h (nn rfl)) (fun h => absurd h (nn rfl))))).trans ((up_c (nn rfl)).trans (hF_8 43 j (fun h => absurd h.1 (nn rfl))))), ⟨by omega, by omega, by omega, by omega⟩, ae_le hA_88 (by omega), ae_le hA_90 (by omega)⟩

set_option maxRecDepth 100000 in
set_option maxHeartbeats 4000000 in
theorem o_31 {xs : Nat → Int32} {L i0 d nc ns P Q : Nat} {c : ME} {Z : AR → Prop} (hi : i0 + 8 ≤ L) (hL : L ≤ 100000) (hI : Iv 0 (-1) P Q c) (hR : Rq P c) (K : ∀ (P2 Q2 : Nat) (c2 : ME) (e : Nat), e ≤ 1 → Iv 0 (-1) P2 Q2 c2 → (Rq P2 c2) → Wp (a_scr L xs) (d + 90) 296 1844 [(4, vi (i0 : Int)), (3, .ref 67), (2, .ref 41), (1, .ref 0), (0, .ref a_SC)] [] (Wd P2 Q2 P2 P2 c2) (nc + e) (ns + 6 * e) Z) : Wp (a_scr L xs) (d + 90) 296 1437 [(4, vi (i0 : Int)), (3, .ref 67), (2, .ref 41), (1, .ref 0), (0, .ref a_SC)] [] (Wd P Q P P c) nc ns Z := by
  obtain ⟨x1, hx1⟩ : ∃ z, (xs (i0 + 1)).toInt = z := ⟨_, rfl⟩
  have x1r := c_rng (xs (i0 + 1))
  rw [hx1] at x1r
  obtain ⟨x2, hx2⟩ : ∃ z, (xs (i0 + 2)).toInt = z := ⟨_, rfl⟩
  have x2r := c_rng (xs (i0 + 2))
  rw [hx2] at x2r
  obtain ⟨x3, hx3⟩ : ∃ z, (xs (i0 + 3)).toInt = z := ⟨_, rfl⟩
  have x3r := c_rng (xs (i0 + 3))
  rw [hx3] at x3r
  obtain ⟨x4, hx4⟩ : ∃ z, (xs (i0 + 4)).toInt = z := ⟨_, rfl⟩
  have x4r := c_rng (xs (i0 + 4))
  rw [hx4] at x4r
  obtain ⟨x5, hx5⟩ : ∃ z, (xs (i0 + 5)).toInt = z := ⟨_, rfl⟩
  have x5r := c_rng (xs (i0 + 5))
  rw [hx5] at x5r
  obtain ⟨x6, hx6⟩ : ∃ z, (xs (i0 + 6)).toInt = z := ⟨_, rfl⟩
  have x6r := c_rng (xs (i0 + 6))
  rw [hx6] at x6r
  obtain ⟨x7, hx7⟩ : ∃ z, (xs (i0 + 7)).toInt = z := ⟨_, rfl⟩
  have x7r := c_rng (xs (i0 + 7))
  rw [hx7] at x7r
  have hT := rl_t hR
  have hU := rl_u hR
  have hP := iv_P hI
  obtain ⟨n0, hn0⟩ : ∃ z, c P 0 = z := ⟨_, rfl⟩
  have hm0 : c 41 20 = n0 := (rl_nums hR).1.symm.trans hn0
  have hr0 := ir_p0_0 hI hP
  rw [hn0] at hr0
  obtain ⟨n1, hn1⟩ : ∃ z, c P 1 = z := ⟨_, rfl⟩
  have hm1 : c 41 21 = n1 := (rl_nums hR).2.1.symm.trans hn1
  have hr1 := ir_p0_1 hI hP
  rw [hn1] at hr1
  obtain ⟨n2, hn2⟩ : ∃ z, c P 2 = z := ⟨_, rfl⟩
  have hm2 : c 41 22 = n2 := (rl_nums hR).2.2.1.symm.trans hn2
  have hr2 := ir_p0_2 hI hP
  rw [hn2] at hr2
  obtain ⟨n3, hn3⟩ : ∃ z, c P 3 = z := ⟨_, rfl⟩
  have hm3 : c 41 23 = n3 := (rl_nums hR).2.2.2.symm.trans hn3
  have hr3 := ir_p0_3 hI hP
  rw [hn3] at hr3
  have h_1 : c P 1 = n1 := (hn1)
  have hAshares : Ae (3 * n1) (c (P + 2)) (c 48) := ae_le (rl_shares hR) (by omega)
  have h_2 : c P 2 = n2 := (hn2)
  have hAmeshes : Ae n2 (c (P + 3)) (c 49) := ae_le (rl_meshes hR) (by omega)
  have hP := iv_P hI
  have hQ := iv_Q hI
  refine q_aload_n rfl rfl (q_aload_n rfl rfl (q_iload rfl rfl (q_iconst rfl (v_iadd (v := (i0 : Int) + 1) rfl rfl (v_scr (j := i0 + 1) rfl (by omega) (by omega) hL hx1 (q_aload_n rfl rfl (q_call rfl rfl rfl rfl ?_)))))))
  refine q_aload_n rfl rfl (q_iconst rfl (q_aload_n rfl rfl (q_iload_n rfl rfl ?_)))
  refine v_cv rfl rfl rfl rfl (Nat.le_of_ble_eq_true rfl) ⟨⟨rfl, rfl⟩, Nat.le_of_ble_eq_true rfl, rfl⟩ (Nat.le_of_ble_eq_true rfl) (Nat.le_of_ble_eq_true rfl) (s_99 (a1 := x1) hI (show (-2147483648) ≤ x1 ∧ x1 ≤ 2147483647 from ⟨by omega, by omega⟩) (fun c_3 hI_4 hF_5 => ?_) (fun c_6 y_9 hI_7 hF_8 hy_9 => ?_))
  · skip
    refine bk_thr (z := Int32.ofInt 1) rfl ⟨_, _, rfl⟩ rfl (bk_inl (q_istore rfl (Nat.le_of_ble_eq_true rfl) (q_aload_n rfl rfl (q_aload_n rfl rfl (q_iload rfl rfl (q_iconst rfl (v_iadd (v := (i0 : Int) + 1) rfl rfl ?_)))))))
    refine v_scr (j := i0 + 1) rfl (by omega) (by omega) hL hx1 (v_cv rfl rfl rfl rfl (Nat.le_of_ble_eq_true rfl) ⟨⟨rfl, rfl⟩, Nat.le_of_ble_eq_true rfl, rfl⟩ (Nat.le_of_ble_eq_true rfl) (Nat.le_of_ble_eq_true rfl) (s_246 (a1 := x1) hI_4 (show (-2147483648) ≤ x1 ∧ x1 ≤ 2147483647 from ⟨by omega, by omega⟩) (fun c_10 y_13 hI_11 hF_12 hy_13 => (bk_inl (q_istore rfl (Nat.le_of_ble_eq_true rfl) (q_goto (t := 1844) rfl rfl (Wp_ls [(4, vi (i0 : Int)), (3, .ref 67), (2, .ref 41), (1, .ref 0), (0, .ref a_SC)] (lsub_cons rfl (lsub_cons rfl (lsub_cons rfl (lsub_cons rfl (lsub_cons rfl lsub_nil))))) ?_)))))))
    have h_14 := ir_1_3 hI
    have kn_15 : Hid (c_3 1 3 = c 1 3) := hF_5 1 3 (fun h => absurd h.1 (nn rfl))
    have kn_16 : Hid (c_10 1 3 = c 1 3) := (hF_12 1 3 (fun q => q.elim (fun h => absurd h.1 (nn rfl)) (fun q => q.elim (fun h => absurd h (nn rfl)) (fun h => absurd h (nn rfl))))).trans (hid kn_15)
    have h_17 : c_10 1 3 = c 1 3 := (hid kn_16)
    have h_18 := ir_41_2 hI
    have kn_19 : Hid (c_3 41 2 = c 41 2) := hF_5 41 2 (fun h => absurd h.1 (nn rfl))
    have kn_20 : Hid (c_10 41 2 = c 41 2) := (hF_12 41 2 (fun q => q.elim (fun h => absurd h.2 (ni rfl)) (fun q => q.elim (fun h => absurd h (nn rfl)) (fun h => absurd h (nn rfl))))).trans (hid kn_19)
    have h_21 : c_10 41 2 = c 41 2 := (hid kn_20)
    have kn_22 : Hid (c_3 P 0 = n0) := (hF_5 P 0 (fun h => absurd h.1 (np0 hP rfl))).trans (hn0)
    have kn_23 : Hid (c_10 P 0 = n0) := (hF_12 P 0 (fun q => q.elim (fun h => absurd h.1 (np0 hP rfl)) (fun q => q.elim (fun h => absurd h (np0 hP rfl)) (fun h => absurd h (np0 hP rfl))))).trans (hid kn_22)
    have h_24 : c_10 P 0 = n0 := (hid kn_23)
    have kn_25 : Hid (c_3 41 20 = n0) := (hF_5 41 20 (fun h => absurd h.1 (nn rfl))).trans (hm0)
    have kn_26 : Hid (c_10 41 20 = n0) := (hF_12 41 20 (fun q => q.elim (fun h => absurd h.2 (ni rfl)) (fun q => q.elim (fun h => absurd h (nn rfl)) (fun h => absurd h (nn rfl))))).trans (hid kn_25)
    have h_27 : c_10 41 20 = n0 := (hid kn_26)
    have kn_28 : Hid (c_3 P 1 = n1) := (hF_5 P 1 (fun h => absurd h.1 (np0 hP rfl))).trans (hn1)
    have kn_29 : Hid (c_10 P 1 = n1) := (hF_12 P 1 (fun q => q.elim (fun h => absurd h.1 (np0 hP rfl)) (fun q => q.elim (fun h => absurd h (np0 hP rfl)) (fun h => absurd h (np0 hP rfl))))).trans (hid kn_28)
    have h_30 : c_10 P 1 = n1 := (hid kn_29)
    have kn_31 : Hid (c_3 41 21 = n1) := (hF_5 41 21 (fun h => absurd h.1 (nn rfl))).trans (hm1)
    have kn_32 : Hid (c_10 41 21 = n1) := (hF_12 41 21 (fun q => q.elim (fun h => absurd h.2 (ni rfl)) (fun q => q.elim (fun h => absurd h (nn rfl)) (fun h => absurd h (nn rfl))))).trans (hid kn_31)
    have h_33 : c_10 41 21 = n1 := (hid kn_32)
    have kn_34 : Hid (c_3 P 2 = n2) := (hF_5 P 2 (fun h => absurd h.1 (np0 hP rfl))).trans (hn2)
    have kn_35 : Hid (c_10 P 2 = n2) := (hF_12 P 2 (fun q => q.elim (fun h => absurd h.1 (np0 hP rfl)) (fun q => q.elim (fun h => absurd h (np0 hP rfl)) (fun h => absurd h (np0 hP rfl))))).trans (hid kn_34)
    have h_36 : c_10 P 2 = n2 := (hid kn_35)
    have kn_37 : Hid (c_3 41 22 = n2) := (hF_5 41 22 (fun h => absurd h.1 (nn rfl))).trans (hm2)
    have kn_38 : Hid (c_10 41 22 = n2) := (hF_12 41 22 (fun q => q.elim (fun h => absurd h.2 (ni rfl)) (fun q => q.elim (fun h => absurd h (nn rfl)) (fun h => absurd h (nn rfl))))).trans (hid kn_37)
    have h_39 : c_10 41 22 = n2 := (hid kn_38)
    have kn_40 : Hid (c_3 P 3 = n3) := (hF_5 P 3 (fun h => absurd h.1 (np0 hP rfl))).trans (hn3)
    have kn_41 : Hid (c_10 P 3 = n3) := (hF_12 P 3 (fun q => q.elim (fun h => absurd h.1 (np0 hP rfl)) (fun q => q.elim (fun h => absurd h (np0 hP rfl)) (fun h => absurd h (np0 hP rfl))))).trans (hid kn_40)
    have h_42 : c_10 P 3 = n3 := (hid kn_41)
    have kn_43 : Hid (c_3 41 23 = n3) := (hF_5 41 23 (fun h => absurd h.1 (nn rfl))).trans (hm3)
    have kn_44 : Hid (c_10 41 23 = n3) := (hF_12 41 23 (fun q => q.elim (fun h => absurd h.2 (ni rfl)) (fun q => q.elim (fun h => absurd h (nn rfl)) (fun h => absurd h (nn rfl))))).trans (hid kn_43)
    have h_45 : c_10 41 23 = n3 := (hid kn_44)
    have h_46 : c_10 P 1 = n1 := (hid kn_29)
    have hA_47 : Ae (3 * n1) (c_10 (P + 2)) (c_10 48) := ae_fr hAshares (fun j => (hF_12 (P + 2) j (fun q => q.elim (fun h => absurd h.1 (np hP rfl rfl)) (fun q => q.elim (fun h => absurd h (np hP rfl rfl)) (fun h => absurd h (np hP rfl rfl))))).trans (hF_5 (P + 2) j (fun h => absurd h.1 (np hP rfl rfl)))) (fun j => (hF_12 48 j (fun q => q.elim (fun h => absurd h.1 (nn rfl)) (fun q => q.elim (fun h => absurd h (nn rfl)) (fun h => absurd h (nn rfl))))).trans (hF_5 48 j (fun h => absurd h.1 (nn rfl))))
    have h_48 : c_10 P 2 = n2 := (hid kn_35)
    have hA_49 : Ae n2 (c_10 (P + 3)) (c_10 49) := ae_fr hAmeshes (fun j => (hF_12 (P + 3) j (fun q => q.elim (fun h => absurd h.1 (np hP rfl rfl)) (fun q => q.elim (fun h => absurd h (np hP rfl rfl)) (fun h => absurd h (np hP rfl rfl))))).trans (hF_5 (P + 3) j (fun h => absurd h.1 (np hP rfl rfl)))) (fun j => (hF_12 49 j (fun q => q.elim (fun h => absurd h.1 (nn rfl)) (fun q => q.elim (fun h => absurd h (nn rfl)) (fun h => absurd h (nn rfl))))).trans (hF_5 49 j (fun h => absurd h.1 (nn rfl))))
    exact K P Q c_10 1 (by decide) hI_11 ⟨by omega, ub_fr hU (fun j => (hF_12 2 j (fun q => q.elim (fun h => absurd h.1 (nn rfl)) (fun q => q.elim (fun h => absurd h (nn rfl)) (fun h => absurd h (nn rfl))))).trans (hF_5 2 j (fun h => absurd h.1 (nn rfl)))) (fun j => (hF_12 43 j (fun q => q.elim (fun h => absurd h.1 (nn rfl)) (fun q => q.elim (fun h => absurd h (nn rfl)) (fun h => absurd h (nn rfl))))).trans (hF_5 43 j (fun h => absurd h.1 (nn rfl)))), ⟨by omega, by omega, by omega, by omega⟩, ae_le hA_47 (by omega), ae_le hA_49 (by omega)⟩
  refine bk_inl (v_i2l rfl (by omega) (v_ls rfl rfl (by decide) (by decide) (by decide) (q_goto (t := 15) rfl rfl (q_iconst rfl (q_iret rfl rfl (bk_inl (q_istore rfl (Nat.le_of_ble_eq_true rfl) ?_)))))))
  refine q_aload_n rfl rfl (q_aload_n rfl rfl (q_iload rfl rfl (q_iconst rfl (v_iadd (v := (i0 : Int) + 1) rfl rfl (v_scr (j := i0 + 1) rfl (by omega) (by omega) hL hx1 ?_)))))
  have hI_50 := iw_lx (a := 67) (j := 0) (v := y_9) hI_7 (by omega)
  refine v_cv rfl rfl rfl rfl (Nat.le_of_ble_eq_true rfl) ⟨⟨rfl, rfl⟩, Nat.le_of_ble_eq_true rfl, rfl⟩ (Nat.le_of_ble_eq_true rfl) (Nat.le_of_ble_eq_true rfl) (s_246 (a1 := x1) hI_50 (show (-2147483648) ≤ x1 ∧ x1 ≤ 2147483647 from ⟨by omega, by omega⟩) (fun c_51 y_54 hI_52 hF_53 hy_54 => (bk_inl (q_istore rfl (Nat.le_of_ble_eq_true rfl) (q_goto (t := 1844) rfl rfl (Wp_ls [(4, vi (i0 : Int)), (3, .ref 67), (2, .ref 41), (1, .ref 0), (0, .ref a_SC)] (lsub_cons rfl (lsub_cons rfl (lsub_cons rfl (lsub_cons rfl (lsub_cons rfl lsub_nil))))) ?_))))))
  have h_55 := ir_1_3 hI
  have kn_56 : Hid (c_6 1 3 = c 1 3) := hF_8 1 3 (fun h => absurd h.1 (nn rfl))
  have kn_57 : Hid (c_51 1 3 = c 1 3) := (hF_53 1 3 (fun q => q.elim (fun h => absurd h.1 (nn rfl)) (fun q => q.elim (fun h => absurd h (nn rfl)) (fun h => absurd h (nn rfl))))).trans ((up_c (nn rfl)).trans (hid kn_56))
  have h_58 : c_51 1 3 = c 1 3 := (hid kn_57)
  have h_59 := ir_41_2 hI
  have kn_60 : Hid (c_6 41 2 = c 41 2) := hF_8 41 2 (fun h => absurd h.1 (nn rfl))
  have kn_61 : Hid (c_51 41 2 = c 41 2) := (hF_53 41 2 (fun q => q.elim (fun h => absurd h.2 (ni rfl)) (fun q => q.elim (fun h => absurd h (nn rfl)) (fun h => absurd h (nn rfl))))).trans ((up_c (nn rfl)).trans (hid kn_60))
  have h_62 : c_51 41 2 = c 41 2 := (hid kn_61)
  have kn_63 : Hid (c_6 P 0 = n0) := (hF_8 P 0 (fun h => absurd h.1 (np0 hP rfl))).trans (hn0)
  have kn_64 : Hid (c_51 P 0 = n0) := (hF_53 P 0 (fun q => q.elim (fun h => absurd h.1 (np0 hP rfl)) (fun q => q.elim (fun h => absurd h (np0 hP rfl)) (fun h => absurd h (np0 hP rfl))))).trans ((up_c (np0 hP rfl)).trans (hid kn_63))
  have h_65 : c_51 P 0 = n0 := (hid kn_64)
  have kn_66 : Hid (c_6 41 20 = n0) := (hF_8 41 20 (fun h => absurd h.1 (nn rfl))).trans (hm0)
  have kn_67 : Hid (c_51 41 20 = n0) := (hF_53 41 20 (fun q => q.elim (fun h => absurd h.2 (ni rfl)) (fun q => q.elim (fun h => absurd h (nn rfl)) (fun h => absurd h (nn rfl))))).trans ((up_c (nn rfl)).trans (hid kn_66))
  have h_68 : c_51 41 20 = n0 := (hid kn_67)
  have kn_69 : Hid (c_6 P 1 = n1) := (hF_8 P 1 (fun h => absurd h.1 (np0 hP rfl))).trans (hn1)
  have kn_70 : Hid (c_51 P 1 = n1) := (hF_53 P 1 (fun q => q.elim (fun h => absurd h.1 (np0 hP rfl)) (fun q => q.elim (fun h => absurd h (np0 hP rfl)) (fun h => absurd h (np0 hP rfl))))).trans ((up_c (np0 hP rfl)).trans (hid kn_69))
  have h_71 : c_51 P 1 = n1 := (hid kn_70)
  have kn_72 : Hid (c_6 41 21 = n1) := (hF_8 41 21 (fun h => absurd h.1 (nn rfl))).trans (hm1)
  have kn_73 : Hid (c_51 41 21 = n1) := (hF_53 41 21 (fun q => q.elim (fun h => absurd h.2 (ni rfl)) (fun q => q.elim (fun h => absurd h (nn rfl)) (fun h => absurd h (nn rfl))))).trans ((up_c (nn rfl)).trans (hid kn_72))
  have h_74 : c_51 41 21 = n1 := (hid kn_73)
  have kn_75 : Hid (c_6 P 2 = n2) := (hF_8 P 2 (fun h => absurd h.1 (np0 hP rfl))).trans (hn2)
  have kn_76 : Hid (c_51 P 2 = n2) := (hF_53 P 2 (fun q => q.elim (fun h => absurd h.1 (np0 hP rfl)) (fun q => q.elim (fun h => absurd h (np0 hP rfl)) (fun h => absurd h (np0 hP rfl))))).trans ((up_c (np0 hP rfl)).trans (hid kn_75))
  have h_77 : c_51 P 2 = n2 := (hid kn_76)
  have kn_78 : Hid (c_6 41 22 = n2) := (hF_8 41 22 (fun h => absurd h.1 (nn rfl))).trans (hm2)
  have kn_79 : Hid (c_51 41 22 = n2) := (hF_53 41 22 (fun q => q.elim (fun h => absurd h.2 (ni rfl)) (fun q => q.elim (fun h => absurd h (nn rfl)) (fun h => absurd h (nn rfl))))).trans ((up_c (nn rfl)).trans (hid kn_78))
  have h_80 : c_51 41 22 = n2 := (hid kn_79)
  have kn_81 : Hid (c_6 P 3 = n3) := (hF_8 P 3 (fun h => absurd h.1 (np0 hP rfl))).trans (hn3)
  have kn_82 : Hid (c_51 P 3 = n3) := (hF_53 P 3 (fun q => q.elim (fun h => absurd h.1 (np0 hP rfl)) (fun q => q.elim (fun h => absurd h (np0 hP rfl)) (fun h => absurd h (np0 hP rfl))))).trans ((up_c (np0 hP rfl)).trans (hid kn_81))
  have h_83 : c_51 P 3 = n3 := (hid kn_82)
  have kn_84 : Hid (c_6 41 23 = n3) := (hF_8 41 23 (fun h => absurd h.1 (nn rfl))).trans (hm3)
  have kn_85 : Hid (c_51 41 23 = n3) := (hF_53 41 23 (fun q => q.elim (fun h => absurd h.2 (ni rfl)) (fun q => q.elim (fun h => absurd h (nn rfl)) (fun h => absurd h (nn rfl))))).trans ((up_c (nn rfl)).trans (hid kn_84))
  have h_86 : c_51 41 23 = n3 := (hid kn_85)
  have h_87 : c_51 P 1 = n1 := (hid kn_70)
  have hA_88 : Ae (3 * n1) (c_51 (P + 2)) (c_51 48) := ae_fr hAshares (fun j => (hF_53 (P + 2) j (fun q => q.elim (fun h => absurd h.1 (np hP rfl rfl)) (fun q => q.elim (fun h => absurd h (np hP rfl rfl)) (fun h => absurd h (np hP rfl rfl))))).trans ((up_c (np hP rfl rfl)).trans (hF_8 (P + 2) j (fun h => absurd h.1 (np hP rfl rfl))))) (fun j => (hF_53 48 j (fun q => q.elim (fun h => absurd h.1 (nn rfl)) (fun q => q.elim (fun h => absurd h (nn rfl)) (fun h => absurd h (nn rfl))))).trans ((up_c (nn rfl)).trans (hF_8 48 j (fun h => absurd h.1 (nn rfl)))))
  have h_89 : c_51 P 2 = n2 := (hid kn_76)
  have hA_90 : Ae n2 (c_51 (P + 3)) (c_51 49) := ae_fr hAmeshes (fun j => (hF_53 (P + 3) j (fun q => q.elim (fun h => absurd h.1 (np hP rfl rfl)) (fun q => q.elim (fun h => absurd h (np hP rfl rfl)) (fun h => absurd h (np hP rfl rfl))))).trans ((up_c (np hP rfl rfl)).trans (hF_8 (P + 3) j (fun h => absurd h.1 (np hP rfl rfl))))) (fun j => (hF_53 49 j (fun q => q.elim (fun h => absurd h.1 (nn rfl)) (fun q => q.elim (fun h => absurd h (nn rfl)) (fun h => absurd h (nn rfl))))).trans ((up_c (nn rfl)).trans (hF_8 49 j (fun h => absurd h.1 (nn rfl)))))
  exact K P Q c_51 0 (by decide) hI_52 ⟨by omega, ub_fr hU (fun j => (hF_53 2 j (fun q => q.elim (fun h => absurd h.1 (nn rfl)) (fun q => q.elim (fun h => absurd h (nn rfl)) (fun h => absurd h (nn rfl))))).trans ((up_c (nn rfl)).trans (hF_8 2 j (fun h => absurd h.1 (nn rfl))))) (fun j => (hF_53 43 j (fun q => q.elim (fun h => absurd h.1 (nn rfl)) (fun q => q.elim (fun h => absurd h (nn rfl)) (fun h => absurd h (nn rfl))))).trans ((up_c (nn rfl)).trans (hF_8 43 j (fun h => absurd h.1 (nn rfl))))), ⟨by omega, by omega, by omega, by omega⟩, ae_le hA_88 (by omega), ae_le hA_90 (by omega)⟩

set_option maxRecDepth 100000 in
set_option maxHeartbeats 4000000 in
theorem o_32 {xs : Nat → Int32} {L i0 d nc ns P Q : Nat} {c : ME} {Z : AR → Prop} (hi : i0 + 8 ≤ L) (hL : L ≤ 100000) (hI : Iv 0 (-1) P Q c) (hR : Rq P c) (K : ∀ (P2 Q2 : Nat) (c2 : ME) (e : Nat), e ≤ 1 → Iv 0 (-1) P2 Q2 c2 → (Rq P2 c2) → Wp (a_scr L xs) (d + 90) 296 1844 [(4, vi (i0 : Int)), (3, .ref 67), (2, .ref 41), (1, .ref 0), (0, .ref a_SC)] [] (Wd P2 Q2 P2 P2 c2) (nc + e) (ns + 6 * e) Z) : Wp (a_scr L xs) (d + 90) 296 1465 [(4, vi (i0 : Int)), (3, .ref 67), (2, .ref 41), (1, .ref 0), (0, .ref a_SC)] [] (Wd P Q P P c) nc ns Z := by
  obtain ⟨x1, hx1⟩ : ∃ z, (xs (i0 + 1)).toInt = z := ⟨_, rfl⟩
  have x1r := c_rng (xs (i0 + 1))
  rw [hx1] at x1r
  obtain ⟨x2, hx2⟩ : ∃ z, (xs (i0 + 2)).toInt = z := ⟨_, rfl⟩
  have x2r := c_rng (xs (i0 + 2))
  rw [hx2] at x2r
  obtain ⟨x3, hx3⟩ : ∃ z, (xs (i0 + 3)).toInt = z := ⟨_, rfl⟩
  have x3r := c_rng (xs (i0 + 3))
  rw [hx3] at x3r
  obtain ⟨x4, hx4⟩ : ∃ z, (xs (i0 + 4)).toInt = z := ⟨_, rfl⟩
  have x4r := c_rng (xs (i0 + 4))
  rw [hx4] at x4r
  obtain ⟨x5, hx5⟩ : ∃ z, (xs (i0 + 5)).toInt = z := ⟨_, rfl⟩
  have x5r := c_rng (xs (i0 + 5))
  rw [hx5] at x5r
  obtain ⟨x6, hx6⟩ : ∃ z, (xs (i0 + 6)).toInt = z := ⟨_, rfl⟩
  have x6r := c_rng (xs (i0 + 6))
  rw [hx6] at x6r
  obtain ⟨x7, hx7⟩ : ∃ z, (xs (i0 + 7)).toInt = z := ⟨_, rfl⟩
  have x7r := c_rng (xs (i0 + 7))
  rw [hx7] at x7r
  have hT := rl_t hR
  have hU := rl_u hR
  have hP := iv_P hI
  obtain ⟨n0, hn0⟩ : ∃ z, c P 0 = z := ⟨_, rfl⟩
  have hm0 : c 41 20 = n0 := (rl_nums hR).1.symm.trans hn0
  have hr0 := ir_p0_0 hI hP
  rw [hn0] at hr0
  obtain ⟨n1, hn1⟩ : ∃ z, c P 1 = z := ⟨_, rfl⟩
  have hm1 : c 41 21 = n1 := (rl_nums hR).2.1.symm.trans hn1
  have hr1 := ir_p0_1 hI hP
  rw [hn1] at hr1
  obtain ⟨n2, hn2⟩ : ∃ z, c P 2 = z := ⟨_, rfl⟩
  have hm2 : c 41 22 = n2 := (rl_nums hR).2.2.1.symm.trans hn2
  have hr2 := ir_p0_2 hI hP
  rw [hn2] at hr2
  obtain ⟨n3, hn3⟩ : ∃ z, c P 3 = z := ⟨_, rfl⟩
  have hm3 : c 41 23 = n3 := (rl_nums hR).2.2.2.symm.trans hn3
  have hr3 := ir_p0_3 hI hP
  rw [hn3] at hr3
  have h_1 : c P 1 = n1 := (hn1)
  have hAshares : Ae (3 * n1) (c (P + 2)) (c 48) := ae_le (rl_shares hR) (by omega)
  have h_2 : c P 2 = n2 := (hn2)
  have hAmeshes : Ae n2 (c (P + 3)) (c 49) := ae_le (rl_meshes hR) (by omega)
  have hP := iv_P hI
  have hQ := iv_Q hI
  refine q_aload_n rfl rfl (q_aload_n rfl rfl (q_iload rfl rfl (q_iconst rfl (v_iadd (v := (i0 : Int) + 1) rfl rfl (v_scr (j := i0 + 1) rfl (by omega) (by omega) hL hx1 (q_aload_n rfl rfl (q_call rfl rfl rfl rfl ?_)))))))
  refine q_aload_n rfl rfl (q_iconst rfl (q_aload_n rfl rfl (q_iload_n rfl rfl ?_)))
  refine v_cv rfl rfl rfl rfl (Nat.le_of_ble_eq_true rfl) ⟨⟨rfl, rfl⟩, Nat.le_of_ble_eq_true rfl, rfl⟩ (Nat.le_of_ble_eq_true rfl) (Nat.le_of_ble_eq_true rfl) (s_115 (a1 := x1) hI (show (-2147483648) ≤ x1 ∧ x1 ≤ 2147483647 from ⟨by omega, by omega⟩) (fun c_3 hI_4 hF_5 => ?_) (fun c_6 y_9 hI_7 hF_8 hy_9 => ?_))
  · skip
    refine bk_thr (z := Int32.ofInt 1) rfl ⟨_, _, rfl⟩ rfl (bk_inl (q_istore rfl (Nat.le_of_ble_eq_true rfl) (q_aload_n rfl rfl (q_aload_n rfl rfl (q_iload rfl rfl (q_iconst rfl (v_iadd (v := (i0 : Int) + 1) rfl rfl ?_)))))))
    refine v_scr (j := i0 + 1) rfl (by omega) (by omega) hL hx1 (v_cv rfl rfl rfl rfl (Nat.le_of_ble_eq_true rfl) ⟨⟨rfl, rfl⟩, Nat.le_of_ble_eq_true rfl, rfl⟩ (Nat.le_of_ble_eq_true rfl) (Nat.le_of_ble_eq_true rfl) (s_247 (a1 := x1) hI_4 (show (-2147483648) ≤ x1 ∧ x1 ≤ 2147483647 from ⟨by omega, by omega⟩) (fun c_10 y_13 hI_11 hF_12 hy_13 => (bk_inl (q_istore rfl (Nat.le_of_ble_eq_true rfl) (q_goto (t := 1844) rfl rfl (Wp_ls [(4, vi (i0 : Int)), (3, .ref 67), (2, .ref 41), (1, .ref 0), (0, .ref a_SC)] (lsub_cons rfl (lsub_cons rfl (lsub_cons rfl (lsub_cons rfl (lsub_cons rfl lsub_nil))))) ?_)))))))
    have h_14 := ir_1_3 hI
    have kn_15 : Hid (c_3 1 3 = c 1 3) := hF_5 1 3 (fun h => absurd h.1 (nn rfl))
    have kn_16 : Hid (c_10 1 3 = c 1 3) := (hF_12 1 3 (fun q => q.elim (fun h => absurd h.1 (nn rfl)) (fun q => q.elim (fun h => absurd h (nn rfl)) (fun h => absurd h (nn rfl))))).trans (hid kn_15)
    have h_17 : c_10 1 3 = c 1 3 := (hid kn_16)
    have h_18 := ir_41_2 hI
    have kn_19 : Hid (c_3 41 2 = c 41 2) := hF_5 41 2 (fun h => absurd h.1 (nn rfl))
    have kn_20 : Hid (c_10 41 2 = c 41 2) := (hF_12 41 2 (fun q => q.elim (fun h => absurd h.2 (ni rfl)) (fun q => q.elim (fun h => absurd h (nn rfl)) (fun h => absurd h (nn rfl))))).trans (hid kn_19)
    have h_21 : c_10 41 2 = c 41 2 := (hid kn_20)
    have kn_22 : Hid (c_3 P 0 = n0) := (hF_5 P 0 (fun h => absurd h.1 (np0 hP rfl))).trans (hn0)
    have kn_23 : Hid (c_10 P 0 = n0) := (hF_12 P 0 (fun q => q.elim (fun h => absurd h.1 (np0 hP rfl)) (fun q => q.elim (fun h => absurd h (np0 hP rfl)) (fun h => absurd h (np0 hP rfl))))).trans (hid kn_22)
    have h_24 : c_10 P 0 = n0 := (hid kn_23)
    have kn_25 : Hid (c_3 41 20 = n0) := (hF_5 41 20 (fun h => absurd h.1 (nn rfl))).trans (hm0)
    have kn_26 : Hid (c_10 41 20 = n0) := (hF_12 41 20 (fun q => q.elim (fun h => absurd h.2 (ni rfl)) (fun q => q.elim (fun h => absurd h (nn rfl)) (fun h => absurd h (nn rfl))))).trans (hid kn_25)
    have h_27 : c_10 41 20 = n0 := (hid kn_26)
    have kn_28 : Hid (c_3 P 1 = n1) := (hF_5 P 1 (fun h => absurd h.1 (np0 hP rfl))).trans (hn1)
    have kn_29 : Hid (c_10 P 1 = n1) := (hF_12 P 1 (fun q => q.elim (fun h => absurd h.1 (np0 hP rfl)) (fun q => q.elim (fun h => absurd h (np0 hP rfl)) (fun h => absurd h (np0 hP rfl))))).trans (hid kn_28)
    have h_30 : c_10 P 1 = n1 := (hid kn_29)
    have kn_31 : Hid (c_3 41 21 = n1) := (hF_5 41 21 (fun h => absurd h.1 (nn rfl))).trans (hm1)
    have kn_32 : Hid (c_10 41 21 = n1) := (hF_12 41 21 (fun q => q.elim (fun h => absurd h.2 (ni rfl)) (fun q => q.elim (fun h => absurd h (nn rfl)) (fun h => absurd h (nn rfl))))).trans (hid kn_31)
    have h_33 : c_10 41 21 = n1 := (hid kn_32)
    have kn_34 : Hid (c_3 P 2 = n2) := (hF_5 P 2 (fun h => absurd h.1 (np0 hP rfl))).trans (hn2)
    have kn_35 : Hid (c_10 P 2 = n2) := (hF_12 P 2 (fun q => q.elim (fun h => absurd h.1 (np0 hP rfl)) (fun q => q.elim (fun h => absurd h (np0 hP rfl)) (fun h => absurd h (np0 hP rfl))))).trans (hid kn_34)
    have h_36 : c_10 P 2 = n2 := (hid kn_35)
    have kn_37 : Hid (c_3 41 22 = n2) := (hF_5 41 22 (fun h => absurd h.1 (nn rfl))).trans (hm2)
    have kn_38 : Hid (c_10 41 22 = n2) := (hF_12 41 22 (fun q => q.elim (fun h => absurd h.2 (ni rfl)) (fun q => q.elim (fun h => absurd h (nn rfl)) (fun h => absurd h (nn rfl))))).trans (hid kn_37)
    have h_39 : c_10 41 22 = n2 := (hid kn_38)
    have kn_40 : Hid (c_3 P 3 = n3) := (hF_5 P 3 (fun h => absurd h.1 (np0 hP rfl))).trans (hn3)
    have kn_41 : Hid (c_10 P 3 = n3) := (hF_12 P 3 (fun q => q.elim (fun h => absurd h.1 (np0 hP rfl)) (fun q => q.elim (fun h => absurd h (np0 hP rfl)) (fun h => absurd h (np0 hP rfl))))).trans (hid kn_40)
    have h_42 : c_10 P 3 = n3 := (hid kn_41)
    have kn_43 : Hid (c_3 41 23 = n3) := (hF_5 41 23 (fun h => absurd h.1 (nn rfl))).trans (hm3)
    have kn_44 : Hid (c_10 41 23 = n3) := (hF_12 41 23 (fun q => q.elim (fun h => absurd h.2 (ni rfl)) (fun q => q.elim (fun h => absurd h (nn rfl)) (fun h => absurd h (nn rfl))))).trans (hid kn_43)
    have h_45 : c_10 41 23 = n3 := (hid kn_44)
    have h_46 : c_10 P 1 = n1 := (hid kn_29)
    have hA_47 : Ae (3 * n1) (c_10 (P + 2)) (c_10 48) := ae_fr hAshares (fun j => (hF_12 (P + 2) j (fun q => q.elim (fun h => absurd h.1 (np hP rfl rfl)) (fun q => q.elim (fun h => absurd h (np hP rfl rfl)) (fun h => absurd h (np hP rfl rfl))))).trans (hF_5 (P + 2) j (fun h => absurd h.1 (np hP rfl rfl)))) (fun j => (hF_12 48 j (fun q => q.elim (fun h => absurd h.1 (nn rfl)) (fun q => q.elim (fun h => absurd h (nn rfl)) (fun h => absurd h (nn rfl))))).trans (hF_5 48 j (fun h => absurd h.1 (nn rfl))))
    have h_48 : c_10 P 2 = n2 := (hid kn_35)
    have hA_49 : Ae n2 (c_10 (P + 3)) (c_10 49) := ae_fr hAmeshes (fun j => (hF_12 (P + 3) j (fun q => q.elim (fun h => absurd h.1 (np hP rfl rfl)) (fun q => q.elim (fun h => absurd h (np hP rfl rfl)) (fun h => absurd h (np hP rfl rfl))))).trans (hF_5 (P + 3) j (fun h => absurd h.1 (np hP rfl rfl)))) (fun j => (hF_12 49 j (fun q => q.elim (fun h => absurd h.1 (nn rfl)) (fun q => q.elim (fun h => absurd h (nn rfl)) (fun h => absurd h (nn rfl))))).trans (hF_5 49 j (fun h => absurd h.1 (nn rfl))))
    exact K P Q c_10 1 (by decide) hI_11 ⟨by omega, ub_fr hU (fun j => (hF_12 2 j (fun q => q.elim (fun h => absurd h.1 (nn rfl)) (fun q => q.elim (fun h => absurd h (nn rfl)) (fun h => absurd h (nn rfl))))).trans (hF_5 2 j (fun h => absurd h.1 (nn rfl)))) (fun j => (hF_12 43 j (fun q => q.elim (fun h => absurd h.1 (nn rfl)) (fun q => q.elim (fun h => absurd h (nn rfl)) (fun h => absurd h (nn rfl))))).trans (hF_5 43 j (fun h => absurd h.1 (nn rfl)))), ⟨by omega, by omega, by omega, by omega⟩, ae_le hA_47 (by omega), ae_le hA_49 (by omega)⟩
  refine bk_inl (v_i2l rfl (by omega) (v_ls rfl rfl (by decide) (by decide) (by decide) (q_goto (t := 15) rfl rfl (q_iconst rfl (q_iret rfl rfl (bk_inl (q_istore rfl (Nat.le_of_ble_eq_true rfl) ?_)))))))
  refine q_aload_n rfl rfl (q_aload_n rfl rfl (q_iload rfl rfl (q_iconst rfl (v_iadd (v := (i0 : Int) + 1) rfl rfl (v_scr (j := i0 + 1) rfl (by omega) (by omega) hL hx1 ?_)))))
  have hI_50 := iw_lx (a := 67) (j := 0) (v := y_9) hI_7 (by omega)
  refine v_cv rfl rfl rfl rfl (Nat.le_of_ble_eq_true rfl) ⟨⟨rfl, rfl⟩, Nat.le_of_ble_eq_true rfl, rfl⟩ (Nat.le_of_ble_eq_true rfl) (Nat.le_of_ble_eq_true rfl) (s_247 (a1 := x1) hI_50 (show (-2147483648) ≤ x1 ∧ x1 ≤ 2147483647 from ⟨by omega, by omega⟩) (fun c_51 y_54 hI_52 hF_53 hy_54 => (bk_inl (q_istore rfl (Nat.le_of_ble_eq_true rfl) (q_goto (t := 1844) rfl rfl (Wp_ls [(4, vi (i0 : Int)), (3, .ref 67), (2, .ref 41), (1, .ref 0), (0, .ref a_SC)] (lsub_cons rfl (lsub_cons rfl (lsub_cons rfl (lsub_cons rfl (lsub_cons rfl lsub_nil))))) ?_))))))
  have h_55 := ir_1_3 hI
  have kn_56 : Hid (c_6 1 3 = c 1 3) := hF_8 1 3 (fun h => absurd h.1 (nn rfl))
  have kn_57 : Hid (c_51 1 3 = c 1 3) := (hF_53 1 3 (fun q => q.elim (fun h => absurd h.1 (nn rfl)) (fun q => q.elim (fun h => absurd h (nn rfl)) (fun h => absurd h (nn rfl))))).trans ((up_c (nn rfl)).trans (hid kn_56))
  have h_58 : c_51 1 3 = c 1 3 := (hid kn_57)
  have h_59 := ir_41_2 hI
  have kn_60 : Hid (c_6 41 2 = c 41 2) := hF_8 41 2 (fun h => absurd h.1 (nn rfl))
  have kn_61 : Hid (c_51 41 2 = c 41 2) := (hF_53 41 2 (fun q => q.elim (fun h => absurd h.2 (ni rfl)) (fun q => q.elim (fun h => absurd h (nn rfl)) (fun h => absurd h (nn rfl))))).trans ((up_c (nn rfl)).trans (hid kn_60))
  have h_62 : c_51 41 2 = c 41 2 := (hid kn_61)
  have kn_63 : Hid (c_6 P 0 = n0) := (hF_8 P 0 (fun h => absurd h.1 (np0 hP rfl))).trans (hn0)
  have kn_64 : Hid (c_51 P 0 = n0) := (hF_53 P 0 (fun q => q.elim (fun h => absurd h.1 (np0 hP rfl)) (fun q => q.elim (fun h => absurd h (np0 hP rfl)) (fun h => absurd h (np0 hP rfl))))).trans ((up_c (np0 hP rfl)).trans (hid kn_63))
  have h_65 : c_51 P 0 = n0 := (hid kn_64)
  have kn_66 : Hid (c_6 41 20 = n0) := (hF_8 41 20 (fun h => absurd h.1 (nn rfl))).trans (hm0)
  have kn_67 : Hid (c_51 41 20 = n0) := (hF_53 41 20 (fun q => q.elim (fun h => absurd h.2 (ni rfl)) (fun q => q.elim (fun h => absurd h (nn rfl)) (fun h => absurd h (nn rfl))))).trans ((up_c (nn rfl)).trans (hid kn_66))
  have h_68 : c_51 41 20 = n0 := (hid kn_67)
  have kn_69 : Hid (c_6 P 1 = n1) := (hF_8 P 1 (fun h => absurd h.1 (np0 hP rfl))).trans (hn1)
  have kn_70 : Hid (c_51 P 1 = n1) := (hF_53 P 1 (fun q => q.elim (fun h => absurd h.1 (np0 hP rfl)) (fun q => q.elim (fun h => absurd h (np0 hP rfl)) (fun h => absurd h (np0 hP rfl))))).trans ((up_c (np0 hP rfl)).trans (hid kn_69))
  have h_71 : c_51 P 1 = n1 := (hid kn_70)
  have kn_72 : Hid (c_6 41 21 = n1) := (hF_8 41 21 (fun h => absurd h.1 (nn rfl))).trans (hm1)
  have kn_73 : Hid (c_51 41 21 = n1) := (hF_53 41 21 (fun q => q.elim (fun h => absurd h.2 (ni rfl)) (fun q => q.elim (fun h => absurd h (nn rfl)) (fun h => absurd h (nn rfl))))).trans ((up_c (nn rfl)).trans (hid kn_72))
  have h_74 : c_51 41 21 = n1 := (hid kn_73)
  have kn_75 : Hid (c_6 P 2 = n2) := (hF_8 P 2 (fun h => absurd h.1 (np0 hP rfl))).trans (hn2)
  have kn_76 : Hid (c_51 P 2 = n2) := (hF_53 P 2 (fun q => q.elim (fun h => absurd h.1 (np0 hP rfl)) (fun q => q.elim (fun h => absurd h (np0 hP rfl)) (fun h => absurd h (np0 hP rfl))))).trans ((up_c (np0 hP rfl)).trans (hid kn_75))
  have h_77 : c_51 P 2 = n2 := (hid kn_76)
  have kn_78 : Hid (c_6 41 22 = n2) := (hF_8 41 22 (fun h => absurd h.1 (nn rfl))).trans (hm2)
  have kn_79 : Hid (c_51 41 22 = n2) := (hF_53 41 22 (fun q => q.elim (fun h => absurd h.2 (ni rfl)) (fun q => q.elim (fun h => absurd h (nn rfl)) (fun h => absurd h (nn rfl))))).trans ((up_c (nn rfl)).trans (hid kn_78))
  have h_80 : c_51 41 22 = n2 := (hid kn_79)
  have kn_81 : Hid (c_6 P 3 = n3) := (hF_8 P 3 (fun h => absurd h.1 (np0 hP rfl))).trans (hn3)
  have kn_82 : Hid (c_51 P 3 = n3) := (hF_53 P 3 (fun q => q.elim (fun h => absurd h.1 (np0 hP rfl)) (fun q => q.elim (fun h => absurd h (np0 hP rfl)) (fun h => absurd h (np0 hP rfl))))).trans ((up_c (np0 hP rfl)).trans (hid kn_81))
  have h_83 : c_51 P 3 = n3 := (hid kn_82)
  have kn_84 : Hid (c_6 41 23 = n3) := (hF_8 41 23 (fun h => absurd h.1 (nn rfl))).trans (hm3)
  have kn_85 : Hid (c_51 41 23 = n3) := (hF_53 41 23 (fun q => q.elim (fun h => absurd h.2 (ni rfl)) (fun q => q.elim (fun h => absurd h (nn rfl)) (fun h => absurd h (nn rfl))))).trans ((up_c (nn rfl)).trans (hid kn_84))
  have h_86 : c_51 41 23 = n3 := (hid kn_85)
  have h_87 : c_51 P 1 = n1 := (hid kn_70)
  have hA_88 : Ae (3 * n1) (c_51 (P + 2)) (c_51 48) := ae_fr hAshares (fun j => (hF_53 (P + 2) j (fun q => q.elim (fun h => absurd h.1 (np hP rfl rfl)) (fun q => q.elim (fun h => absurd h (np hP rfl rfl)) (fun h => absurd h (np hP rfl rfl))))).trans ((up_c (np hP rfl rfl)).trans (hF_8 (P + 2) j (fun h => absurd h.1 (np hP rfl rfl))))) (fun j => (hF_53 48 j (fun q => q.elim (fun h => absurd h.1 (nn rfl)) (fun q => q.elim (fun h => absurd h (nn rfl)) (fun h => absurd h (nn rfl))))).trans ((up_c (nn rfl)).trans (hF_8 48 j (fun h => absurd h.1 (nn rfl)))))
  have h_89 : c_51 P 2 = n2 := (hid kn_76)
  have hA_90 : Ae n2 (c_51 (P + 3)) (c_51 49) := ae_fr hAmeshes (fun j => (hF_53 (P + 3) j (fun q => q.elim (fun h => absurd h.1 (np hP rfl rfl)) (fun q => q.elim (fun h => absurd h (np hP rfl rfl)) (fun h => absurd h (np hP rfl rfl))))).trans ((up_c (np hP rfl rfl)).trans (hF_8 (P + 3) j (fun h => absurd h.1 (np hP rfl rfl))))) (fun j => (hF_53 49 j (fun q => q.elim (fun h => absurd h.1 (nn rfl)) (fun q => q.elim (fun h => absurd h (nn rfl)) (fun h => absurd h (nn rfl))))).trans ((up_c (nn rfl)).trans (hF_8 49 j (fun h => absurd h.1 (nn rfl)))))
  exact K P Q c_51 0 (by decide) hI_52 ⟨by omega, ub_fr hU (fun j => (hF_53 2 j (fun q => q.elim (fun h => absurd h.1 (nn rfl)) (fun q => q.elim (fun h => absurd h (nn rfl)) (fun h => absurd h (nn rfl))))).trans ((up_c (nn rfl)).trans (hF_8 2 j (fun h => absurd h.1 (nn rfl))))) (fun j => (hF_53 43 j (fun q => q.elim (fun h => absurd h.1 (nn rfl)) (fun q => q.elim (fun h => absurd h (nn rfl)) (fun h => absurd h (nn rfl))))).trans ((up_c (nn rfl)).trans (hF_8 43 j (fun h => absurd h.1 (nn rfl))))), ⟨by omega, by omega, by omega, by omega⟩, ae_le hA_88 (by omega), ae_le hA_90 (by omega)⟩

set_option maxRecDepth 100000 in
set_option maxHeartbeats 4000000 in
theorem o_33 {xs : Nat → Int32} {L i0 d nc ns P Q : Nat} {c : ME} {Z : AR → Prop} (hi : i0 + 8 ≤ L) (hL : L ≤ 100000) (hI : Iv 0 (-1) P Q c) (hR : Rq P c) (K : ∀ (P2 Q2 : Nat) (c2 : ME) (e : Nat), e ≤ 1 → Iv 0 (-1) P2 Q2 c2 → (Rq P2 c2) → Wp (a_scr L xs) (d + 90) 296 1844 [(4, vi (i0 : Int)), (3, .ref 67), (2, .ref 41), (1, .ref 0), (0, .ref a_SC)] [] (Wd P2 Q2 P2 P2 c2) (nc + e) (ns + 6 * e) Z) : Wp (a_scr L xs) (d + 90) 296 1493 [(4, vi (i0 : Int)), (3, .ref 67), (2, .ref 41), (1, .ref 0), (0, .ref a_SC)] [] (Wd P Q P P c) nc ns Z := by
  obtain ⟨x1, hx1⟩ : ∃ z, (xs (i0 + 1)).toInt = z := ⟨_, rfl⟩
  have x1r := c_rng (xs (i0 + 1))
  rw [hx1] at x1r
  obtain ⟨x2, hx2⟩ : ∃ z, (xs (i0 + 2)).toInt = z := ⟨_, rfl⟩
  have x2r := c_rng (xs (i0 + 2))
  rw [hx2] at x2r
  obtain ⟨x3, hx3⟩ : ∃ z, (xs (i0 + 3)).toInt = z := ⟨_, rfl⟩
  have x3r := c_rng (xs (i0 + 3))
  rw [hx3] at x3r
  obtain ⟨x4, hx4⟩ : ∃ z, (xs (i0 + 4)).toInt = z := ⟨_, rfl⟩
  have x4r := c_rng (xs (i0 + 4))
  rw [hx4] at x4r
  obtain ⟨x5, hx5⟩ : ∃ z, (xs (i0 + 5)).toInt = z := ⟨_, rfl⟩
  have x5r := c_rng (xs (i0 + 5))
  rw [hx5] at x5r
  obtain ⟨x6, hx6⟩ : ∃ z, (xs (i0 + 6)).toInt = z := ⟨_, rfl⟩
  have x6r := c_rng (xs (i0 + 6))
  rw [hx6] at x6r
  obtain ⟨x7, hx7⟩ : ∃ z, (xs (i0 + 7)).toInt = z := ⟨_, rfl⟩
  have x7r := c_rng (xs (i0 + 7))
  rw [hx7] at x7r
  have hT := rl_t hR
  have hU := rl_u hR
  have hP := iv_P hI
  obtain ⟨n0, hn0⟩ : ∃ z, c P 0 = z := ⟨_, rfl⟩
  have hm0 : c 41 20 = n0 := (rl_nums hR).1.symm.trans hn0
  have hr0 := ir_p0_0 hI hP
  rw [hn0] at hr0
  obtain ⟨n1, hn1⟩ : ∃ z, c P 1 = z := ⟨_, rfl⟩
  have hm1 : c 41 21 = n1 := (rl_nums hR).2.1.symm.trans hn1
  have hr1 := ir_p0_1 hI hP
  rw [hn1] at hr1
  obtain ⟨n2, hn2⟩ : ∃ z, c P 2 = z := ⟨_, rfl⟩
  have hm2 : c 41 22 = n2 := (rl_nums hR).2.2.1.symm.trans hn2
  have hr2 := ir_p0_2 hI hP
  rw [hn2] at hr2
  obtain ⟨n3, hn3⟩ : ∃ z, c P 3 = z := ⟨_, rfl⟩
  have hm3 : c 41 23 = n3 := (rl_nums hR).2.2.2.symm.trans hn3
  have hr3 := ir_p0_3 hI hP
  rw [hn3] at hr3
  have h_1 : c P 1 = n1 := (hn1)
  have hAshares : Ae (3 * n1) (c (P + 2)) (c 48) := ae_le (rl_shares hR) (by omega)
  have h_2 : c P 2 = n2 := (hn2)
  have hAmeshes : Ae n2 (c (P + 3)) (c 49) := ae_le (rl_meshes hR) (by omega)
  have hP := iv_P hI
  have hQ := iv_Q hI
  refine q_aload_n rfl rfl (q_aload_n rfl rfl (q_iload rfl rfl (q_iconst rfl (v_iadd (v := (i0 : Int) + 1) rfl rfl (v_scr (j := i0 + 1) rfl (by omega) (by omega) hL hx1 (q_aload_n rfl rfl (q_iload rfl rfl ?_)))))))
  refine q_iconst rfl (v_iadd (v := (i0 : Int) + 2) rfl rfl (v_scr (j := i0 + 2) rfl (by omega) (by omega) hL hx2 (q_aload_n rfl rfl (q_call rfl rfl rfl rfl (q_aload_n rfl rfl (q_iconst rfl (q_aload_n rfl rfl ?_)))))))
  refine q_iload_n rfl rfl (q_iload_n rfl rfl ?_)
  refine v_cv rfl rfl rfl rfl (Nat.le_of_ble_eq_true rfl) ⟨⟨rfl, rfl⟩, Nat.le_of_ble_eq_true rfl, rfl⟩ (Nat.le_of_ble_eq_true rfl) (Nat.le_of_ble_eq_true rfl) (s_100 (a1 := x1) (a2 := x2) hI (show (-2147483648) ≤ x1 ∧ x1 ≤ 2147483647 from ⟨by omega, by omega⟩) (show (-2147483648) ≤ x2 ∧ x2 ≤ 2147483647 from ⟨by omega, by omega⟩) (fun c_3 hI_4 hF_5 => ?_) (fun c_6 y_9 hI_7 hF_8 hy_9 => ?_))
  · skip
    refine bk_thr (z := Int32.ofInt 1) rfl ⟨_, _, rfl⟩ rfl (bk_inl (q_istore rfl (Nat.le_of_ble_eq_true rfl) (q_aload_n rfl rfl (q_aload_n rfl rfl (q_iload rfl rfl (q_iconst rfl (v_iadd (v := (i0 : Int) + 1) rfl rfl ?_)))))))
    refine v_scr (j := i0 + 1) rfl (by omega) (by omega) hL hx1 (q_aload_n rfl rfl (q_iload rfl rfl (q_iconst rfl (v_iadd (v := (i0 : Int) + 2) rfl rfl (v_scr (j := i0 + 2) rfl (by omega) (by omega) hL hx2 (v_cv rfl rfl rfl rfl (Nat.le_of_ble_eq_true rfl) ⟨⟨rfl, rfl⟩, Nat.le_of_ble_eq_true rfl, rfl⟩ (Nat.le_of_ble_eq_true rfl) (Nat.le_of_ble_eq_true rfl) (s_248 (a1 := x1) (a2 := x2) hI_4 (show (-2147483648) ≤ x1 ∧ x1 ≤ 2147483647 from ⟨by omega, by omega⟩) (show (-2147483648) ≤ x2 ∧ x2 ≤ 2147483647 from ⟨by omega, by omega⟩) (fun c_10 y_13 hI_11 hF_12 hy_13 => (bk_inl ?_)))))))))
    refine q_istore rfl (Nat.le_of_ble_eq_true rfl) (q_goto (t := 1844) rfl rfl (Wp_ls [(4, vi (i0 : Int)), (3, .ref 67), (2, .ref 41), (1, .ref 0), (0, .ref a_SC)] (lsub_cons rfl (lsub_cons rfl (lsub_cons rfl (lsub_cons rfl (lsub_cons rfl lsub_nil))))) ?_))
    have h_14 := ir_1_3 hI
    have kn_15 : Hid (c_3 1 3 = c 1 3) := hF_5 1 3 (fun h => absurd h.1 (nn rfl))
    have kn_16 : Hid (c_10 1 3 = c 1 3) := (hF_12 1 3 (fun q => q.elim (fun h => absurd h.1 (nn rfl)) (fun h => absurd h (nn rfl)))).trans (hid kn_15)
    have h_17 : c_10 1 3 = c 1 3 := (hid kn_16)
    have h_18 := ir_41_2 hI
    have kn_19 : Hid (c_3 41 2 = c 41 2) := hF_5 41 2 (fun h => absurd h.1 (nn rfl))
    have kn_20 : Hid (c_10 41 2 = c 41 2) := (hF_12 41 2 (fun q => q.elim (fun h => absurd h.2 (ni rfl)) (fun h => absurd h (nn rfl)))).trans (hid kn_19)
    have h_21 : c_10 41 2 = c 41 2 := (hid kn_20)
    have kn_22 : Hid (c_3 P 0 = n0) := (hF_5 P 0 (fun h => absurd h.1 (np0 hP rfl))).trans (hn0)
    have kn_23 : Hid (c_10 P 0 = n0) := (hF_12 P 0 (fun q => q.elim (fun h => absurd h.1 (np0 hP rfl)) (fun h => absurd h (np0 hP rfl)))).trans (hid kn_22)
    have h_24 : c_10 P 0 = n0 := (hid kn_23)
    have kn_25 : Hid (c_3 41 20 = n0) := (hF_5 41 20 (fun h => absurd h.1 (nn rfl))).trans (hm0)
    have kn_26 : Hid (c_10 41 20 = n0) := (hF_12 41 20 (fun q => q.elim (fun h => absurd h.2 (ni rfl)) (fun h => absurd h (nn rfl)))).trans (hid kn_25)
    have h_27 : c_10 41 20 = n0 := (hid kn_26)
    have kn_28 : Hid (c_3 P 1 = n1) := (hF_5 P 1 (fun h => absurd h.1 (np0 hP rfl))).trans (hn1)
    have kn_29 : Hid (c_10 P 1 = n1) := (hF_12 P 1 (fun q => q.elim (fun h => absurd h.1 (np0 hP rfl)) (fun h => absurd h (np0 hP rfl)))).trans (hid kn_28)
    have h_30 : c_10 P 1 = n1 := (hid kn_29)
    have kn_31 : Hid (c_3 41 21 = n1) := (hF_5 41 21 (fun h => absurd h.1 (nn rfl))).trans (hm1)
    have kn_32 : Hid (c_10 41 21 = n1) := (hF_12 41 21 (fun q => q.elim (fun h => absurd h.2 (ni rfl)) (fun h => absurd h (nn rfl)))).trans (hid kn_31)
    have h_33 : c_10 41 21 = n1 := (hid kn_32)
    have kn_34 : Hid (c_3 P 2 = n2) := (hF_5 P 2 (fun h => absurd h.1 (np0 hP rfl))).trans (hn2)
    have kn_35 : Hid (c_10 P 2 = n2) := (hF_12 P 2 (fun q => q.elim (fun h => absurd h.1 (np0 hP rfl)) (fun h => absurd h (np0 hP rfl)))).trans (hid kn_34)
    have h_36 : c_10 P 2 = n2 := (hid kn_35)
    have kn_37 : Hid (c_3 41 22 = n2) := (hF_5 41 22 (fun h => absurd h.1 (nn rfl))).trans (hm2)
    have kn_38 : Hid (c_10 41 22 = n2) := (hF_12 41 22 (fun q => q.elim (fun h => absurd h.2 (ni rfl)) (fun h => absurd h (nn rfl)))).trans (hid kn_37)
    have h_39 : c_10 41 22 = n2 := (hid kn_38)
    have kn_40 : Hid (c_3 P 3 = n3) := (hF_5 P 3 (fun h => absurd h.1 (np0 hP rfl))).trans (hn3)
    have kn_41 : Hid (c_10 P 3 = n3) := (hF_12 P 3 (fun q => q.elim (fun h => absurd h.1 (np0 hP rfl)) (fun h => absurd h (np0 hP rfl)))).trans (hid kn_40)
    have h_42 : c_10 P 3 = n3 := (hid kn_41)
    have kn_43 : Hid (c_3 41 23 = n3) := (hF_5 41 23 (fun h => absurd h.1 (nn rfl))).trans (hm3)
    have kn_44 : Hid (c_10 41 23 = n3) := (hF_12 41 23 (fun q => q.elim (fun h => absurd h.2 (ni rfl)) (fun h => absurd h (nn rfl)))).trans (hid kn_43)
    have h_45 : c_10 41 23 = n3 := (hid kn_44)
    have h_46 : c_10 P 1 = n1 := (hid kn_29)
    have hA_47 : Ae (3 * n1) (c_10 (P + 2)) (c_10 48) := ae_fr hAshares (fun j => (hF_12 (P + 2) j (fun q => q.elim (fun h => absurd h.1 (np hP rfl rfl)) (fun h => absurd h (np hP rfl rfl)))).trans (hF_5 (P + 2) j (fun h => absurd h.1 (np hP rfl rfl)))) (fun j => (hF_12 48 j (fun q => q.elim (fun h => absurd h.1 (nn rfl)) (fun h => absurd h (nn rfl)))).trans (hF_5 48 j (fun h => absurd h.1 (nn rfl))))
    have h_48 : c_10 P 2 = n2 := (hid kn_35)
    have hA_49 : Ae n2 (c_10 (P + 3)) (c_10 49) := ae_fr hAmeshes (fun j => (hF_12 (P + 3) j (fun q => q.elim (fun h => absurd h.1 (np hP rfl rfl)) (fun h => absurd h (np hP rfl rfl)))).trans (hF_5 (P + 3) j (fun h => absurd h.1 (np hP rfl rfl)))) (fun j => (hF_12 49 j (fun q => q.elim (fun h => absurd h.1 (nn rfl)) (fun h => absurd h (nn rfl)))).trans (hF_5 49 j (fun h => absurd h.1 (nn rfl))))
    exact K P Q c_10 1 (by decide) hI_11 ⟨by omega, ub_fr hU (fun j => (hF_12 2 j (fun q => q.elim (fun h => absurd h.1 (nn rfl)) (fun h => absurd h (nn rfl)))).trans (hF_5 2 j (fun h => absurd h.1 (nn rfl)))) (fun j => (hF_12 43 j (fun q => q.elim (fun h => absurd h.1 (nn rfl)) (fun h => absurd h (nn rfl)))).trans (hF_5 43 j (fun h => absurd h.1 (nn rfl)))), ⟨by omega, by omega, by omega, by omega⟩, ae_le hA_47 (by omega), ae_le hA_49 (by omega)⟩
  refine bk_inl (v_i2l rfl (by omega) (v_ls rfl rfl (by decide) (by decide) (by decide) (q_goto (t := 17) rfl rfl (q_iconst rfl (q_iret rfl rfl (bk_inl (q_istore rfl (Nat.le_of_ble_eq_true rfl) ?_)))))))
  refine q_aload_n rfl rfl (q_aload_n rfl rfl (q_iload rfl rfl (q_iconst rfl (v_iadd (v := (i0 : Int) + 1) rfl rfl (v_scr (j := i0 + 1) rfl (by omega) (by omega) hL hx1 (q_aload_n rfl rfl (q_iload rfl rfl ?_)))))))
  refine q_iconst rfl (v_iadd (v := (i0 : Int) + 2) rfl rfl (v_scr (j := i0 + 2) rfl (by omega) (by omega) hL hx2 ?_))
  have hI_50 := iw_lx (a := 67) (j := 0) (v := y_9) hI_7 (by omega)
  refine v_cv rfl rfl rfl rfl (Nat.le_of_ble_eq_true rfl) ⟨⟨rfl, rfl⟩, Nat.le_of_ble_eq_true rfl, rfl⟩ (Nat.le_of_ble_eq_true rfl) (Nat.le_of_ble_eq_true rfl) (s_248 (a1 := x1) (a2 := x2) hI_50 (show (-2147483648) ≤ x1 ∧ x1 ≤ 2147483647 from ⟨by omega, by omega⟩) (show (-2147483648) ≤ x2 ∧ x2 ≤ 2147483647 from ⟨by omega, by omega⟩) (fun c_51 y_54 hI_52 hF_53 hy_54 => (bk_inl (q_istore rfl (Nat.le_of_ble_eq_true rfl) (q_goto (t := 1844) rfl rfl (Wp_ls [(4, vi (i0 : Int)), (3, .ref 67), (2, .ref 41), (1, .ref 0), (0, .ref a_SC)] (lsub_cons rfl (lsub_cons rfl (lsub_cons rfl (lsub_cons rfl (lsub_cons rfl lsub_nil))))) ?_))))))
  have h_55 := ir_1_3 hI
  have kn_56 : Hid (c_6 1 3 = c 1 3) := hF_8 1 3 (fun h => absurd h.1 (nn rfl))
  have kn_57 : Hid (c_51 1 3 = c 1 3) := (hF_53 1 3 (fun q => q.elim (fun h => absurd h.1 (nn rfl)) (fun h => absurd h (nn rfl)))).trans ((up_c (nn rfl)).trans (hid kn_56))
  have h_58 : c_51 1 3 = c 1 3 := (hid kn_57)
  have h_59 := ir_41_2 hI
  have kn_60 : Hid (c_6 41 2 = c 41 2) := hF_8 41 2 (fun h => absurd h.1 (nn rfl))
  have kn_61 : Hid (c_51 41 2 = c 41 2) := (hF_53 41 2 (fun q => q.elim (fun h => absurd h.2 (ni rfl)) (fun h => absurd h (nn rfl)))).trans ((up_c (nn rfl)).trans (hid kn_60))
  have h_62 : c_51 41 2 = c 41 2 := (hid kn_61)
  have kn_63 : Hid (c_6 P 0 = n0) := (hF_8 P 0 (fun h => absurd h.1 (np0 hP rfl))).trans (hn0)
  have kn_64 : Hid (c_51 P 0 = n0) := (hF_53 P 0 (fun q => q.elim (fun h => absurd h.1 (np0 hP rfl)) (fun h => absurd h (np0 hP rfl)))).trans ((up_c (np0 hP rfl)).trans (hid kn_63))
  have h_65 : c_51 P 0 = n0 := (hid kn_64)
  have kn_66 : Hid (c_6 41 20 = n0) := (hF_8 41 20 (fun h => absurd h.1 (nn rfl))).trans (hm0)
  have kn_67 : Hid (c_51 41 20 = n0) := (hF_53 41 20 (fun q => q.elim (fun h => absurd h.2 (ni rfl)) (fun h => absurd h (nn rfl)))).trans ((up_c (nn rfl)).trans (hid kn_66))
  have h_68 : c_51 41 20 = n0 := (hid kn_67)
  have kn_69 : Hid (c_6 P 1 = n1) := (hF_8 P 1 (fun h => absurd h.1 (np0 hP rfl))).trans (hn1)
  have kn_70 : Hid (c_51 P 1 = n1) := (hF_53 P 1 (fun q => q.elim (fun h => absurd h.1 (np0 hP rfl)) (fun h => absurd h (np0 hP rfl)))).trans ((up_c (np0 hP rfl)).trans (hid kn_69))
  have h_71 : c_51 P 1 = n1 := (hid kn_70)
  have kn_72 : Hid (c_6 41 21 = n1) := (hF_8 41 21 (fun h => absurd h.1 (nn rfl))).trans (hm1)
  have kn_73 : Hid (c_51 41 21 = n1) := (hF_53 41 21 (fun q => q.elim (fun h => absurd h.2 (ni rfl)) (fun h => absurd h (nn rfl)))).trans ((up_c (nn rfl)).trans (hid kn_72))
  have h_74 : c_51 41 21 = n1 := (hid kn_73)
  have kn_75 : Hid (c_6 P 2 = n2) := (hF_8 P 2 (fun h => absurd h.1 (np0 hP rfl))).trans (hn2)
  have kn_76 : Hid (c_51 P 2 = n2) := (hF_53 P 2 (fun q => q.elim (fun h => absurd h.1 (np0 hP rfl)) (fun h => absurd h (np0 hP rfl)))).trans ((up_c (np0 hP rfl)).trans (hid kn_75))
  have h_77 : c_51 P 2 = n2 := (hid kn_76)
  have kn_78 : Hid (c_6 41 22 = n2) := (hF_8 41 22 (fun h => absurd h.1 (nn rfl))).trans (hm2)
  have kn_79 : Hid (c_51 41 22 = n2) := (hF_53 41 22 (fun q => q.elim (fun h => absurd h.2 (ni rfl)) (fun h => absurd h (nn rfl)))).trans ((up_c (nn rfl)).trans (hid kn_78))
  have h_80 : c_51 41 22 = n2 := (hid kn_79)
  have kn_81 : Hid (c_6 P 3 = n3) := (hF_8 P 3 (fun h => absurd h.1 (np0 hP rfl))).trans (hn3)
  have kn_82 : Hid (c_51 P 3 = n3) := (hF_53 P 3 (fun q => q.elim (fun h => absurd h.1 (np0 hP rfl)) (fun h => absurd h (np0 hP rfl)))).trans ((up_c (np0 hP rfl)).trans (hid kn_81))
  have h_83 : c_51 P 3 = n3 := (hid kn_82)
  have kn_84 : Hid (c_6 41 23 = n3) := (hF_8 41 23 (fun h => absurd h.1 (nn rfl))).trans (hm3)
  have kn_85 : Hid (c_51 41 23 = n3) := (hF_53 41 23 (fun q => q.elim (fun h => absurd h.2 (ni rfl)) (fun h => absurd h (nn rfl)))).trans ((up_c (nn rfl)).trans (hid kn_84))
  have h_86 : c_51 41 23 = n3 := (hid kn_85)
  have h_87 : c_51 P 1 = n1 := (hid kn_70)
  have hA_88 : Ae (3 * n1) (c_51 (P + 2)) (c_51 48) := ae_fr hAshares (fun j => (hF_53 (P + 2) j (fun q => q.elim (fun h => absurd h.1 (np hP rfl rfl)) (fun h => absurd h (np hP rfl rfl)))).trans ((up_c (np hP rfl rfl)).trans (hF_8 (P + 2) j (fun h => absurd h.1 (np hP rfl rfl))))) (fun j => (hF_53 48 j (fun q => q.elim (fun h => absurd h.1 (nn rfl)) (fun h => absurd h (nn rfl)))).trans ((up_c (nn rfl)).trans (hF_8 48 j (fun h => absurd h.1 (nn rfl)))))
  have h_89 : c_51 P 2 = n2 := (hid kn_76)
  have hA_90 : Ae n2 (c_51 (P + 3)) (c_51 49) := ae_fr hAmeshes (fun j => (hF_53 (P + 3) j (fun q => q.elim (fun h => absurd h.1 (np hP rfl rfl)) (fun h => absurd h (np hP rfl rfl)))).trans ((up_c (np hP rfl rfl)).trans (hF_8 (P + 3) j (fun h => absurd h.1 (np hP rfl rfl))))) (fun j => (hF_53 49 j (fun q => q.elim (fun h => absurd h.1 (nn rfl)) (fun h => absurd h (nn rfl)))).trans ((up_c (nn rfl)).trans (hF_8 49 j (fun h => absurd h.1 (nn rfl)))))
  exact K P Q c_51 0 (by decide) hI_52 ⟨by omega, ub_fr hU (fun j => (hF_53 2 j (fun q => q.elim (fun h => absurd h.1 (nn rfl)) (fun h => absurd h (nn rfl)))).trans ((up_c (nn rfl)).trans (hF_8 2 j (fun h => absurd h.1 (nn rfl))))) (fun j => (hF_53 43 j (fun q => q.elim (fun h => absurd h.1 (nn rfl)) (fun h => absurd h (nn rfl)))).trans ((up_c (nn rfl)).trans (hF_8 43 j (fun h => absurd h.1 (nn rfl))))), ⟨by omega, by omega, by omega, by omega⟩, ae_le hA_88 (by omega), ae_le hA_90 (by omega)⟩

set_option maxRecDepth 100000 in
set_option maxHeartbeats 4000000 in
theorem o_34 {xs : Nat → Int32} {L i0 d nc ns P Q : Nat} {c : ME} {Z : AR → Prop} (hi : i0 + 8 ≤ L) (hL : L ≤ 100000) (hI : Iv 0 (-1) P Q c) (hR : Rq P c) (K : ∀ (P2 Q2 : Nat) (c2 : ME) (e : Nat), e ≤ 1 → Iv 0 (-1) P2 Q2 c2 → (Rq P2 c2) → Wp (a_scr L xs) (d + 90) 296 1844 [(4, vi (i0 : Int)), (3, .ref 67), (2, .ref 41), (1, .ref 0), (0, .ref a_SC)] [] (Wd P2 Q2 P2 P2 c2) (nc + e) (ns + 6 * e) Z) : Wp (a_scr L xs) (d + 90) 296 1533 [(4, vi (i0 : Int)), (3, .ref 67), (2, .ref 41), (1, .ref 0), (0, .ref a_SC)] [] (Wd P Q P P c) nc ns Z := by
  obtain ⟨x1, hx1⟩ : ∃ z, (xs (i0 + 1)).toInt = z := ⟨_, rfl⟩
  have x1r := c_rng (xs (i0 + 1))
  rw [hx1] at x1r
  obtain ⟨x2, hx2⟩ : ∃ z, (xs (i0 + 2)).toInt = z := ⟨_, rfl⟩
  have x2r := c_rng (xs (i0 + 2))
  rw [hx2] at x2r
  obtain ⟨x3, hx3⟩ : ∃ z, (xs (i0 + 3)).toInt = z := ⟨_, rfl⟩
  have x3r := c_rng (xs (i0 + 3))
  rw [hx3] at x3r
  obtain ⟨x4, hx4⟩ : ∃ z, (xs (i0 + 4)).toInt = z := ⟨_, rfl⟩
  have x4r := c_rng (xs (i0 + 4))
  rw [hx4] at x4r
  obtain ⟨x5, hx5⟩ : ∃ z, (xs (i0 + 5)).toInt = z := ⟨_, rfl⟩
  have x5r := c_rng (xs (i0 + 5))
  rw [hx5] at x5r
  obtain ⟨x6, hx6⟩ : ∃ z, (xs (i0 + 6)).toInt = z := ⟨_, rfl⟩
  have x6r := c_rng (xs (i0 + 6))
  rw [hx6] at x6r
  obtain ⟨x7, hx7⟩ : ∃ z, (xs (i0 + 7)).toInt = z := ⟨_, rfl⟩
  have x7r := c_rng (xs (i0 + 7))
  rw [hx7] at x7r
  have hT := rl_t hR
  have hU := rl_u hR
  have hP := iv_P hI
  obtain ⟨n0, hn0⟩ : ∃ z, c P 0 = z := ⟨_, rfl⟩
  have hm0 : c 41 20 = n0 := (rl_nums hR).1.symm.trans hn0
  have hr0 := ir_p0_0 hI hP
  rw [hn0] at hr0
  obtain ⟨n1, hn1⟩ : ∃ z, c P 1 = z := ⟨_, rfl⟩
  have hm1 : c 41 21 = n1 := (rl_nums hR).2.1.symm.trans hn1
  have hr1 := ir_p0_1 hI hP
  rw [hn1] at hr1
  obtain ⟨n2, hn2⟩ : ∃ z, c P 2 = z := ⟨_, rfl⟩
  have hm2 : c 41 22 = n2 := (rl_nums hR).2.2.1.symm.trans hn2
  have hr2 := ir_p0_2 hI hP
  rw [hn2] at hr2
  obtain ⟨n3, hn3⟩ : ∃ z, c P 3 = z := ⟨_, rfl⟩
  have hm3 : c 41 23 = n3 := (rl_nums hR).2.2.2.symm.trans hn3
  have hr3 := ir_p0_3 hI hP
  rw [hn3] at hr3
  have h_1 : c P 1 = n1 := (hn1)
  have hAshares : Ae (3 * n1) (c (P + 2)) (c 48) := ae_le (rl_shares hR) (by omega)
  have h_2 : c P 2 = n2 := (hn2)
  have hAmeshes : Ae n2 (c (P + 3)) (c 49) := ae_le (rl_meshes hR) (by omega)
  have hP := iv_P hI
  have hQ := iv_Q hI
  refine q_aload_n rfl rfl (v_cv rfl rfl rfl rfl (Nat.le_of_ble_eq_true rfl) ⟨⟨rfl, rfl⟩, Nat.le_of_ble_eq_true rfl, rfl⟩ (Nat.le_of_ble_eq_true rfl) (Nat.le_of_ble_eq_true rfl) (s_107 hI (fun c_3 y_6 hI_4 hF_5 hy_6 => (bk_inl (q_pop rfl rfl (q_aload_n rfl rfl (v_cv rfl rfl rfl rfl (Nat.le_of_ble_eq_true rfl) ⟨⟨rfl, rfl⟩, Nat.le_of_ble_eq_true rfl, rfl⟩ (Nat.le_of_ble_eq_true rfl) (Nat.le_of_ble_eq_true rfl) (s_249 hI_4 (fun c_7 y_10 hI_8 hF_9 hy_10 => (bk_inl (q_pop rfl rfl ?_)))))))))))
  refine q_goto (t := 1844) rfl rfl (Wp_ls [(4, vi (i0 : Int)), (3, .ref 67), (2, .ref 41), (1, .ref 0), (0, .ref a_SC)] (lsub_cons rfl (lsub_cons rfl (lsub_cons rfl (lsub_cons rfl (lsub_cons rfl lsub_nil))))) ?_)
  have h_11 := ir_1_3 hI
  have kn_12 : Hid (c_3 1 3 = c 1 3) := hF_5 1 3 (fun q => q.elim (fun h => absurd h (pn hP rfl rfl)) (fun h => absurd h (pn hP rfl rfl)))
  have kn_13 : Hid (c_7 1 3 = c 1 3) := (hF_9 1 3 (fun q => q.elim (fun h => absurd h.1 (nn rfl)) (fun q => q.elim (fun h => absurd h (nn rfl)) (fun q => q.elim (fun h => absurd h (nn rfl)) (fun h => absurd h (nn rfl)))))).trans (hid kn_12)
  have h_14 : c_7 1 3 = c 1 3 := (hid kn_13)
  have h_15 := ir_41_2 hI
  have kn_16 : Hid (c_3 41 2 = c 41 2) := hF_5 41 2 (fun q => q.elim (fun h => absurd h (pn hP rfl rfl)) (fun h => absurd h (pn hP rfl rfl)))
  have kn_17 : Hid (c_7 41 2 = c 41 2) := (hF_9 41 2 (fun q => q.elim (fun h => absurd h.2 (ni rfl)) (fun q => q.elim (fun h => absurd h (nn rfl)) (fun q => q.elim (fun h => absurd h (nn rfl)) (fun h => absurd h (nn rfl)))))).trans (hid kn_16)
  have h_18 : c_7 41 2 = c 41 2 := (hid kn_17)
  have kn_19 : Hid (c_3 P 0 = n0) := (hF_5 P 0 (fun q => q.elim (fun h => absurd h (p0p rfl)) (fun h => absurd h (p0p rfl)))).trans (hn0)
  have kn_20 : Hid (c_7 P 0 = n0) := (hF_9 P 0 (fun q => q.elim (fun h => absurd h.1 (np0 hP rfl)) (fun q => q.elim (fun h => absurd h (np0 hP rfl)) (fun q => q.elim (fun h => absurd h (np0 hP rfl)) (fun h => absurd h (np0 hP rfl)))))).trans (hid kn_19)
  have h_21 : c_7 P 0 = n0 := (hid kn_20)
  have kn_22 : Hid (c_3 41 20 = n0) := (hF_5 41 20 (fun q => q.elim (fun h => absurd h (pn hP rfl rfl)) (fun h => absurd h (pn hP rfl rfl)))).trans (hm0)
  have kn_23 : Hid (c_7 41 20 = n0) := (hF_9 41 20 (fun q => q.elim (fun h => absurd h.2 (ni rfl)) (fun q => q.elim (fun h => absurd h (nn rfl)) (fun q => q.elim (fun h => absurd h (nn rfl)) (fun h => absurd h (nn rfl)))))).trans (hid kn_22)
  have h_24 : c_7 41 20 = n0 := (hid kn_23)
  have kn_25 : Hid (c_3 P 1 = n1) := (hF_5 P 1 (fun q => q.elim (fun h => absurd h (p0p rfl)) (fun h => absurd h (p0p rfl)))).trans (hn1)
  have kn_26 : Hid (c_7 P 1 = n1) := (hF_9 P 1 (fun q => q.elim (fun h => absurd h.1 (np0 hP rfl)) (fun q => q.elim (fun h => absurd h (np0 hP rfl)) (fun q => q.elim (fun h => absurd h (np0 hP rfl)) (fun h => absurd h (np0 hP rfl)))))).trans (hid kn_25)
  have h_27 : c_7 P 1 = n1 := (hid kn_26)
  have kn_28 : Hid (c_3 41 21 = n1) := (hF_5 41 21 (fun q => q.elim (fun h => absurd h (pn hP rfl rfl)) (fun h => absurd h (pn hP rfl rfl)))).trans (hm1)
  have kn_29 : Hid (c_7 41 21 = n1) := (hF_9 41 21 (fun q => q.elim (fun h => absurd h.2 (ni rfl)) (fun q => q.elim (fun h => absurd h (nn rfl)) (fun q => q.elim (fun h => absurd h (nn rfl)) (fun h => absurd h (nn rfl)))))).trans (hid kn_28)
  have h_30 : c_7 41 21 = n1 := (hid kn_29)
  have kn_31 : Hid (c_3 P 2 = n2) := (hF_5 P 2 (fun q => q.elim (fun h => absurd h (p0p rfl)) (fun h => absurd h (p0p rfl)))).trans (hn2)
  have kn_32 : Hid (c_7 P 2 = n2) := (hF_9 P 2 (fun q => q.elim (fun h => absurd h.1 (np0 hP rfl)) (fun q => q.elim (fun h => absurd h (np0 hP rfl)) (fun q => q.elim (fun h => absurd h (np0 hP rfl)) (fun h => absurd h (np0 hP rfl)))))).trans (hid kn_31)
  have h_33 : c_7 P 2 = n2 := (hid kn_32)
  have kn_34 : Hid (c_3 41 22 = n2) := (hF_5 41 22 (fun q => q.elim (fun h => absurd h (pn hP rfl rfl)) (fun h => absurd h (pn hP rfl rfl)))).trans (hm2)
  have kn_35 : Hid (c_7 41 22 = n2) := (hF_9 41 22 (fun q => q.elim (fun h => absurd h.2 (ni rfl)) (fun q => q.elim (fun h => absurd h (nn rfl)) (fun q => q.elim (fun h => absurd h (nn rfl)) (fun h => absurd h (nn rfl)))))).trans (hid kn_34)
  have h_36 : c_7 41 22 = n2 := (hid kn_35)
  have kn_37 : Hid (c_3 P 3 = n3) := (hF_5 P 3 (fun q => q.elim (fun h => absurd h (p0p rfl)) (fun h => absurd h (p0p rfl)))).trans (hn3)
  have kn_38 : Hid (c_7 P 3 = n3) := (hF_9 P 3 (fun q => q.elim (fun h => absurd h.1 (np0 hP rfl)) (fun q => q.elim (fun h => absurd h (np0 hP rfl)) (fun q => q.elim (fun h => absurd h (np0 hP rfl)) (fun h => absurd h (np0 hP rfl)))))).trans (hid kn_37)
  have h_39 : c_7 P 3 = n3 := (hid kn_38)
  have kn_40 : Hid (c_3 41 23 = n3) := (hF_5 41 23 (fun q => q.elim (fun h => absurd h (pn hP rfl rfl)) (fun h => absurd h (pn hP rfl rfl)))).trans (hm3)
  have kn_41 : Hid (c_7 41 23 = n3) := (hF_9 41 23 (fun q => q.elim (fun h => absurd h.2 (ni rfl)) (fun q => q.elim (fun h => absurd h (nn rfl)) (fun q => q.elim (fun h => absurd h (nn rfl)) (fun h => absurd h (nn rfl)))))).trans (hid kn_40)
  have h_42 : c_7 41 23 = n3 := (hid kn_41)
  have h_43 : c_7 P 1 = n1 := (hid kn_26)
  have hA_44 : Ae (3 * n1) (c_7 (P + 2)) (c_7 48) := ae_fr hAshares (fun j => (hF_9 (P + 2) j (fun q => q.elim (fun h => absurd h.1 (np hP rfl rfl)) (fun q => q.elim (fun h => absurd h (np hP rfl rfl)) (fun q => q.elim (fun h => absurd h (np hP rfl rfl)) (fun h => absurd h (np hP rfl rfl)))))).trans (hF_5 (P + 2) j (fun q => q.elim (fun h => absurd h (pp rfl)) (fun h => absurd h (pp rfl))))) (fun j => (hF_9 48 j (fun q => q.elim (fun h => absurd h.1 (nn rfl)) (fun q => q.elim (fun h => absurd h (nn rfl)) (fun q => q.elim (fun h => absurd h (nn rfl)) (fun h => absurd h (nn rfl)))))).trans (hF_5 48 j (fun q => q.elim (fun h => absurd h (pn hP rfl rfl)) (fun h => absurd h (pn hP rfl rfl)))))
  have h_45 : c_7 P 2 = n2 := (hid kn_32)
  have hA_46 : Ae n2 (c_7 (P + 3)) (c_7 49) := ae_fr hAmeshes (fun j => (hF_9 (P + 3) j (fun q => q.elim (fun h => absurd h.1 (np hP rfl rfl)) (fun q => q.elim (fun h => absurd h (np hP rfl rfl)) (fun q => q.elim (fun h => absurd h (np hP rfl rfl)) (fun h => absurd h (np hP rfl rfl)))))).trans (hF_5 (P + 3) j (fun q => q.elim (fun h => absurd h (pp rfl)) (fun h => absurd h (pp rfl))))) (fun j => (hF_9 49 j (fun q => q.elim (fun h => absurd h.1 (nn rfl)) (fun q => q.elim (fun h => absurd h (nn rfl)) (fun q => q.elim (fun h => absurd h (nn rfl)) (fun h => absurd h (nn rfl)))))).trans (hF_5 49 j (fun q => q.elim (fun h => absurd h (pn hP rfl rfl)) (fun h => absurd h (pn hP rfl rfl)))))
  exact K P Q c_7 0 (by decide) hI_8 ⟨by omega, ub_fr hU (fun j => (hF_9 2 j (fun q => q.elim (fun h => absurd h.1 (nn rfl)) (fun q => q.elim (fun h => absurd h (nn rfl)) (fun q => q.elim (fun h => absurd h (nn rfl)) (fun h => absurd h (nn rfl)))))).trans (hF_5 2 j (fun q => q.elim (fun h => absurd h (pn hP rfl rfl)) (fun h => absurd h (pn hP rfl rfl))))) (fun j => (hF_9 43 j (fun q => q.elim (fun h => absurd h.1 (nn rfl)) (fun q => q.elim (fun h => absurd h (nn rfl)) (fun q => q.elim (fun h => absurd h (nn rfl)) (fun h => absurd h (nn rfl)))))).trans (hF_5 43 j (fun q => q.elim (fun h => absurd h (pn hP rfl rfl)) (fun h => absurd h (pn hP rfl rfl))))), ⟨by omega, by omega, by omega, by omega⟩, ae_le hA_44 (by omega), ae_le hA_46 (by omega)⟩

set_option maxRecDepth 100000 in
set_option maxHeartbeats 4000000 in
theorem o_35 {xs : Nat → Int32} {L i0 d nc ns P Q : Nat} {c : ME} {Z : AR → Prop} (hi : i0 + 8 ≤ L) (hL : L ≤ 100000) (hI : Iv 0 (-1) P Q c) (hR : Rq P c) (K : ∀ (P2 Q2 : Nat) (c2 : ME) (e : Nat), e ≤ 1 → Iv 0 (-1) P2 Q2 c2 → (Rq P2 c2) → Wp (a_scr L xs) (d + 90) 296 1844 [(4, vi (i0 : Int)), (3, .ref 67), (2, .ref 41), (1, .ref 0), (0, .ref a_SC)] [] (Wd P2 Q2 P2 P2 c2) (nc + e) (ns + 6 * e) Z) : Wp (a_scr L xs) (d + 90) 296 1546 [(4, vi (i0 : Int)), (3, .ref 67), (2, .ref 41), (1, .ref 0), (0, .ref a_SC)] [] (Wd P Q P P c) nc ns Z := by
  obtain ⟨x1, hx1⟩ : ∃ z, (xs (i0 + 1)).toInt = z := ⟨_, rfl⟩
  have x1r := c_rng (xs (i0 + 1))
  rw [hx1] at x1r
  obtain ⟨x2, hx2⟩ : ∃ z, (xs (i0 + 2)).toInt = z := ⟨_, rfl⟩
  have x2r := c_rng (xs (i0 + 2))
  rw [hx2] at x2r
  obtain ⟨x3, hx3⟩ : ∃ z, (xs (i0 + 3)).toInt = z := ⟨_, rfl⟩
  have x3r := c_rng (xs (i0 + 3))
  rw [hx3] at x3r
  obtain ⟨x4, hx4⟩ : ∃ z, (xs (i0 + 4)).toInt = z := ⟨_, rfl⟩
  have x4r := c_rng (xs (i0 + 4))
  rw [hx4] at x4r
  obtain ⟨x5, hx5⟩ : ∃ z, (xs (i0 + 5)).toInt = z := ⟨_, rfl⟩
  have x5r := c_rng (xs (i0 + 5))
  rw [hx5] at x5r
  obtain ⟨x6, hx6⟩ : ∃ z, (xs (i0 + 6)).toInt = z := ⟨_, rfl⟩
  have x6r := c_rng (xs (i0 + 6))
  rw [hx6] at x6r
  obtain ⟨x7, hx7⟩ : ∃ z, (xs (i0 + 7)).toInt = z := ⟨_, rfl⟩
  have x7r := c_rng (xs (i0 + 7))
  rw [hx7] at x7r
  have hT := rl_t hR
  have hU := rl_u hR
  have hP := iv_P hI
  obtain ⟨n0, hn0⟩ : ∃ z, c P 0 = z := ⟨_, rfl⟩
  have hm0 : c 41 20 = n0 := (rl_nums hR).1.symm.trans hn0
  have hr0 := ir_p0_0 hI hP
  rw [hn0] at hr0
  obtain ⟨n1, hn1⟩ : ∃ z, c P 1 = z := ⟨_, rfl⟩
  have hm1 : c 41 21 = n1 := (rl_nums hR).2.1.symm.trans hn1
  have hr1 := ir_p0_1 hI hP
  rw [hn1] at hr1
  obtain ⟨n2, hn2⟩ : ∃ z, c P 2 = z := ⟨_, rfl⟩
  have hm2 : c 41 22 = n2 := (rl_nums hR).2.2.1.symm.trans hn2
  have hr2 := ir_p0_2 hI hP
  rw [hn2] at hr2
  obtain ⟨n3, hn3⟩ : ∃ z, c P 3 = z := ⟨_, rfl⟩
  have hm3 : c 41 23 = n3 := (rl_nums hR).2.2.2.symm.trans hn3
  have hr3 := ir_p0_3 hI hP
  rw [hn3] at hr3
  have h_1 : c P 1 = n1 := (hn1)
  have hAshares : Ae (3 * n1) (c (P + 2)) (c 48) := ae_le (rl_shares hR) (by omega)
  have h_2 : c P 2 = n2 := (hn2)
  have hAmeshes : Ae n2 (c (P + 3)) (c 49) := ae_le (rl_meshes hR) (by omega)
  have hP := iv_P hI
  have hQ := iv_Q hI
  refine q_aload_n rfl rfl (q_aload_n rfl rfl (q_iload rfl rfl (q_iconst rfl (v_iadd (v := (i0 : Int) + 1) rfl rfl (v_scr (j := i0 + 1) rfl (by omega) (by omega) hL hx1 (q_aload_n rfl rfl (q_call rfl rfl rfl rfl ?_)))))))
  refine q_aload_n rfl rfl (q_iconst rfl (q_aload_n rfl rfl (q_iload_n rfl rfl ?_)))
  refine v_cv rfl rfl rfl rfl (Nat.le_of_ble_eq_true rfl) ⟨⟨rfl, rfl⟩, Nat.le_of_ble_eq_true rfl, rfl⟩ (Nat.le_of_ble_eq_true rfl) (Nat.le_of_ble_eq_true rfl) (s_102 (a1 := x1) hI (show (-2147483648) ≤ x1 ∧ x1 ≤ 2147483647 from ⟨by omega, by omega⟩) (fun c_3 hI_4 hF_5 => ?_) (fun c_6 y_9 hI_7 hF_8 hy_9 => ?_))
  · skip
    refine bk_thr (z := Int32.ofInt 1) rfl ⟨_, _, rfl⟩ rfl (bk_inl (q_istore rfl (Nat.le_of_ble_eq_true rfl) (q_aload_n rfl rfl (q_aload_n rfl rfl (q_iload rfl rfl (q_iconst rfl (v_iadd (v := (i0 : Int) + 1) rfl rfl ?_)))))))
    refine v_scr (j := i0 + 1) rfl (by omega) (by omega) hL hx1 (v_cv rfl rfl rfl rfl (Nat.le_of_ble_eq_true rfl) ⟨⟨rfl, rfl⟩, Nat.le_of_ble_eq_true rfl, rfl⟩ (Nat.le_of_ble_eq_true rfl) (Nat.le_of_ble_eq_true rfl) (s_250 (a1 := x1) hI_4 (show (-2147483648) ≤ x1 ∧ x1 ≤ 2147483647 from ⟨by omega, by omega⟩) (fun c_10 y_13 hI_11 hF_12 hy_13 => (bk_inl (q_istore rfl (Nat.le_of_ble_eq_true rfl) (q_goto (t := 1844) rfl rfl (Wp_ls [(4, vi (i0 : Int)), (3, .ref 67), (2, .ref 41), (1, .ref 0), (0, .ref a_SC)] (lsub_cons rfl (lsub_cons rfl (lsub_cons rfl (lsub_cons rfl (lsub_cons rfl lsub_nil))))) ?_)))))))
    have h_14 := ir_1_3 hI
    have kn_15 : Hid (c_3 1 3 = c 1 3) := hF_5 1 3 (fun h => absurd h.1 (nn rfl))
    have kn_16 : Hid (c_10 1 3 = c 1 3) := (hF_12 1 3 (fun q => q.elim (fun h => absurd h.1 (nn rfl)) (fun q => q.elim (fun h => absurd h (nn rfl)) (fun h => absurd h (nn rfl))))).trans (hid kn_15)
    have h_17 : c_10 1 3 = c 1 3 := (hid kn_16)
    have h_18 := ir_41_2 hI
    have kn_19 : Hid (c_3 41 2 = c 41 2) := hF_5 41 2 (fun h => absurd h.1 (nn rfl))
    have kn_20 : Hid (c_10 41 2 = c 41 2) := (hF_12 41 2 (fun q => q.elim (fun h => absurd h.2 (ni rfl)) (fun q => q.elim (fun h => absurd h (nn rfl)) (fun h => absurd h (nn rfl))))).trans (hid kn_19)
    have h_21 : c_10 41 2 = c 41 2 := (hid kn_20)
    have kn_22 : Hid (c_3 P 0 = n0) := (hF_5 P 0 (fun h => absurd h.1 (np0 hP rfl))).trans (hn0)
    have kn_23 : Hid (c_10 P 0 = n0) := (hF_12 P 0 (fun q => q.elim (fun h => absurd h.1 (np0 hP rfl)) (fun q => q.elim (fun h => absurd h (np0 hP rfl)) (fun h => absurd h (np0 hP rfl))))).trans (hid kn_22)
    have h_24 : c_10 P 0 = n0 := (hid kn_23)
    have kn_25 : Hid (c_3 41 20 = n0) := (hF_5 41 20 (fun h => absurd h.1 (nn rfl))).trans (hm0)
    have kn_26 : Hid (c_10 41 20 = n0) := (hF_12 41 20 (fun q => q.elim (fun h => absurd h.2 (ni rfl)) (fun q => q.elim (fun h => absurd h (nn rfl)) (fun h => absurd h (nn rfl))))).trans (hid kn_25)
    have h_27 : c_10 41 20 = n0 := (hid kn_26)
    have kn_28 : Hid (c_3 P 1 = n1) := (hF_5 P 1 (fun h => absurd h.1 (np0 hP rfl))).trans (hn1)
    have kn_29 : Hid (c_10 P 1 = n1) := (hF_12 P 1 (fun q => q.elim (fun h => absurd h.1 (np0 hP rfl)) (fun q => q.elim (fun h => absurd h (np0 hP rfl)) (fun h => absurd h (np0 hP rfl))))).trans (hid kn_28)
    have h_30 : c_10 P 1 = n1 := (hid kn_29)
    have kn_31 : Hid (c_3 41 21 = n1) := (hF_5 41 21 (fun h => absurd h.1 (nn rfl))).trans (hm1)
    have kn_32 : Hid (c_10 41 21 = n1) := (hF_12 41 21 (fun q => q.elim (fun h => absurd h.2 (ni rfl)) (fun q => q.elim (fun h => absurd h (nn rfl)) (fun h => absurd h (nn rfl))))).trans (hid kn_31)
    have h_33 : c_10 41 21 = n1 := (hid kn_32)
    have kn_34 : Hid (c_3 P 2 = n2) := (hF_5 P 2 (fun h => absurd h.1 (np0 hP rfl))).trans (hn2)
    have kn_35 : Hid (c_10 P 2 = n2) := (hF_12 P 2 (fun q => q.elim (fun h => absurd h.1 (np0 hP rfl)) (fun q => q.elim (fun h => absurd h (np0 hP rfl)) (fun h => absurd h (np0 hP rfl))))).trans (hid kn_34)
    have h_36 : c_10 P 2 = n2 := (hid kn_35)
    have kn_37 : Hid (c_3 41 22 = n2) := (hF_5 41 22 (fun h => absurd h.1 (nn rfl))).trans (hm2)
    have kn_38 : Hid (c_10 41 22 = n2) := (hF_12 41 22 (fun q => q.elim (fun h => absurd h.2 (ni rfl)) (fun q => q.elim (fun h => absurd h (nn rfl)) (fun h => absurd h (nn rfl))))).trans (hid kn_37)
    have h_39 : c_10 41 22 = n2 := (hid kn_38)
    have kn_40 : Hid (c_3 P 3 = n3) := (hF_5 P 3 (fun h => absurd h.1 (np0 hP rfl))).trans (hn3)
    have kn_41 : Hid (c_10 P 3 = n3) := (hF_12 P 3 (fun q => q.elim (fun h => absurd h.1 (np0 hP rfl)) (fun q => q.elim (fun h => absurd h (np0 hP rfl)) (fun h => absurd h (np0 hP rfl))))).trans (hid kn_40)
    have h_42 : c_10 P 3 = n3 := (hid kn_41)
    have kn_43 : Hid (c_3 41 23 = n3) := (hF_5 41 23 (fun h => absurd h.1 (nn rfl))).trans (hm3)
    have kn_44 : Hid (c_10 41 23 = n3) := (hF_12 41 23 (fun q => q.elim (fun h => absurd h.2 (ni rfl)) (fun q => q.elim (fun h => absurd h (nn rfl)) (fun h => absurd h (nn rfl))))).trans (hid kn_43)
    have h_45 : c_10 41 23 = n3 := (hid kn_44)
    have h_46 : c_10 P 1 = n1 := (hid kn_29)
    have hA_47 : Ae (3 * n1) (c_10 (P + 2)) (c_10 48) := ae_fr hAshares (fun j => (hF_12 (P + 2) j (fun q => q.elim (fun h => absurd h.1 (np hP rfl rfl)) (fun q => q.elim (fun h => absurd h (np hP rfl rfl)) (fun h => absurd h (np hP rfl rfl))))).trans (hF_5 (P + 2) j (fun h => absurd h.1 (np hP rfl rfl)))) (fun j => (hF_12 48 j (fun q => q.elim (fun h => absurd h.1 (nn rfl)) (fun q => q.elim (fun h => absurd h (nn rfl)) (fun h => absurd h (nn rfl))))).trans (hF_5 48 j (fun h => absurd h.1 (nn rfl))))
    have h_48 : c_10 P 2 = n2 := (hid kn_35)
    have hA_49 : Ae n2 (c_10 (P + 3)) (c_10 49) := ae_fr hAmeshes (fun j => (hF_12 (P + 3) j (fun q => q.elim (fun h => absurd h.1 (np hP rfl rfl)) (fun q => q.elim (fun h => absurd h (np hP rfl rfl)) (fun h => absurd h (np hP rfl rfl))))).trans (hF_5 (P + 3) j (fun h => absurd h.1 (np hP rfl rfl)))) (fun j => (hF_12 49 j (fun q => q.elim (fun h => absurd h.1 (nn rfl)) (fun q => q.elim (fun h => absurd h (nn rfl)) (fun h => absurd h (nn rfl))))).trans (hF_5 49 j (fun h => absurd h.1 (nn rfl))))
    exact K P Q c_10 1 (by decide) hI_11 ⟨by omega, ub_fr hU (fun j => (hF_12 2 j (fun q => q.elim (fun h => absurd h.1 (nn rfl)) (fun q => q.elim (fun h => absurd h (nn rfl)) (fun h => absurd h (nn rfl))))).trans (hF_5 2 j (fun h => absurd h.1 (nn rfl)))) (fun j => (hF_12 43 j (fun q => q.elim (fun h => absurd h.1 (nn rfl)) (fun q => q.elim (fun h => absurd h (nn rfl)) (fun h => absurd h (nn rfl))))).trans (hF_5 43 j (fun h => absurd h.1 (nn rfl)))), ⟨by omega, by omega, by omega, by omega⟩, ae_le hA_47 (by omega), ae_le hA_49 (by omega)⟩
  refine bk_inl (v_i2l rfl (by omega) (v_ls rfl rfl (by decide) (by decide) (by decide) (q_goto (t := 15) rfl rfl (q_iconst rfl (q_iret rfl rfl (bk_inl (q_istore rfl (Nat.le_of_ble_eq_true rfl) ?_)))))))
  refine q_aload_n rfl rfl (q_aload_n rfl rfl (q_iload rfl rfl (q_iconst rfl (v_iadd (v := (i0 : Int) + 1) rfl rfl (v_scr (j := i0 + 1) rfl (by omega) (by omega) hL hx1 ?_)))))
  have hI_50 := iw_lx (a := 67) (j := 0) (v := y_9) hI_7 (by omega)
  refine v_cv rfl rfl rfl rfl (Nat.le_of_ble_eq_true rfl) ⟨⟨rfl, rfl⟩, Nat.le_of_ble_eq_true rfl, rfl⟩ (Nat.le_of_ble_eq_true rfl) (Nat.le_of_ble_eq_true rfl) (s_250 (a1 := x1) hI_50 (show (-2147483648) ≤ x1 ∧ x1 ≤ 2147483647 from ⟨by omega, by omega⟩) (fun c_51 y_54 hI_52 hF_53 hy_54 => (bk_inl (q_istore rfl (Nat.le_of_ble_eq_true rfl) (q_goto (t := 1844) rfl rfl (Wp_ls [(4, vi (i0 : Int)), (3, .ref 67), (2, .ref 41), (1, .ref 0), (0, .ref a_SC)] (lsub_cons rfl (lsub_cons rfl (lsub_cons rfl (lsub_cons rfl (lsub_cons rfl lsub_nil))))) ?_))))))
  have h_55 := ir_1_3 hI
  have kn_56 : Hid (c_6 1 3 = c 1 3) := hF_8 1 3 (fun h => absurd h.1 (nn rfl))
  have kn_57 : Hid (c_51 1 3 = c 1 3) := (hF_53 1 3 (fun q => q.elim (fun h => absurd h.1 (nn rfl)) (fun q => q.elim (fun h => absurd h (nn rfl)) (fun h => absurd h (nn rfl))))).trans ((up_c (nn rfl)).trans (hid kn_56))
  have h_58 : c_51 1 3 = c 1 3 := (hid kn_57)
  have h_59 := ir_41_2 hI
  have kn_60 : Hid (c_6 41 2 = c 41 2) := hF_8 41 2 (fun h => absurd h.1 (nn rfl))
  have kn_61 : Hid (c_51 41 2 = c 41 2) := (hF_53 41 2 (fun q => q.elim (fun h => absurd h.2 (ni rfl)) (fun q => q.elim (fun h => absurd h (nn rfl)) (fun h => absurd h (nn rfl))))).trans ((up_c (nn rfl)).trans (hid kn_60))
  have h_62 : c_51 41 2 = c 41 2 := (hid kn_61)
  have kn_63 : Hid (c_6 P 0 = n0) := (hF_8 P 0 (fun h => absurd h.1 (np0 hP rfl))).trans (hn0)
  have kn_64 : Hid (c_51 P 0 = n0) := (hF_53 P 0 (fun q => q.elim (fun h => absurd h.1 (np0 hP rfl)) (fun q => q.elim (fun h => absurd h (np0 hP rfl)) (fun h => absurd h (np0 hP rfl))))).trans ((up_c (np0 hP rfl)).trans (hid kn_63))
  have h_65 : c_51 P 0 = n0 := (hid kn_64)
  have kn_66 : Hid (c_6 41 20 = n0) := (hF_8 41 20 (fun h => absurd h.1 (nn rfl))).trans (hm0)
  have kn_67 : Hid (c_51 41 20 = n0) := (hF_53 41 20 (fun q => q.elim (fun h => absurd h.2 (ni rfl)) (fun q => q.elim (fun h => absurd h (nn rfl)) (fun h => absurd h (nn rfl))))).trans ((up_c (nn rfl)).trans (hid kn_66))
  have h_68 : c_51 41 20 = n0 := (hid kn_67)
  have kn_69 : Hid (c_6 P 1 = n1) := (hF_8 P 1 (fun h => absurd h.1 (np0 hP rfl))).trans (hn1)
  have kn_70 : Hid (c_51 P 1 = n1) := (hF_53 P 1 (fun q => q.elim (fun h => absurd h.1 (np0 hP rfl)) (fun q => q.elim (fun h => absurd h (np0 hP rfl)) (fun h => absurd h (np0 hP rfl))))).trans ((up_c (np0 hP rfl)).trans (hid kn_69))
  have h_71 : c_51 P 1 = n1 := (hid kn_70)
  have kn_72 : Hid (c_6 41 21 = n1) := (hF_8 41 21 (fun h => absurd h.1 (nn rfl))).trans (hm1)
  have kn_73 : Hid (c_51 41 21 = n1) := (hF_53 41 21 (fun q => q.elim (fun h => absurd h.2 (ni rfl)) (fun q => q.elim (fun h => absurd h (nn rfl)) (fun h => absurd h (nn rfl))))).trans ((up_c (nn rfl)).trans (hid kn_72))
  have h_74 : c_51 41 21 = n1 := (hid kn_73)
  have kn_75 : Hid (c_6 P 2 = n2) := (hF_8 P 2 (fun h => absurd h.1 (np0 hP rfl))).trans (hn2)
  have kn_76 : Hid (c_51 P 2 = n2) := (hF_53 P 2 (fun q => q.elim (fun h => absurd h.1 (np0 hP rfl)) (fun q => q.elim (fun h => absurd h (np0 hP rfl)) (fun h => absurd h (np0 hP rfl))))).trans ((up_c (np0 hP rfl)).trans (hid kn_75))
  have h_77 : c_51 P 2 = n2 := (hid kn_76)
  have kn_78 : Hid (c_6 41 22 = n2) := (hF_8 41 22 (fun h => absurd h.1 (nn rfl))).trans (hm2)
  have kn_79 : Hid (c_51 41 22 = n2) := (hF_53 41 22 (fun q => q.elim (fun h => absurd h.2 (ni rfl)) (fun q => q.elim (fun h => absurd h (nn rfl)) (fun h => absurd h (nn rfl))))).trans ((up_c (nn rfl)).trans (hid kn_78))
  have h_80 : c_51 41 22 = n2 := (hid kn_79)
  have kn_81 : Hid (c_6 P 3 = n3) := (hF_8 P 3 (fun h => absurd h.1 (np0 hP rfl))).trans (hn3)
  have kn_82 : Hid (c_51 P 3 = n3) := (hF_53 P 3 (fun q => q.elim (fun h => absurd h.1 (np0 hP rfl)) (fun q => q.elim (fun h => absurd h (np0 hP rfl)) (fun h => absurd h (np0 hP rfl))))).trans ((up_c (np0 hP rfl)).trans (hid kn_81))
  have h_83 : c_51 P 3 = n3 := (hid kn_82)
  have kn_84 : Hid (c_6 41 23 = n3) := (hF_8 41 23 (fun h => absurd h.1 (nn rfl))).trans (hm3)
  have kn_85 : Hid (c_51 41 23 = n3) := (hF_53 41 23 (fun q => q.elim (fun h => absurd h.2 (ni rfl)) (fun q => q.elim (fun h => absurd h (nn rfl)) (fun h => absurd h (nn rfl))))).trans ((up_c (nn rfl)).trans (hid kn_84))
  have h_86 : c_51 41 23 = n3 := (hid kn_85)
  have h_87 : c_51 P 1 = n1 := (hid kn_70)
  have hA_88 : Ae (3 * n1) (c_51 (P + 2)) (c_51 48) := ae_fr hAshares (fun j => (hF_53 (P + 2) j (fun q => q.elim (fun h => absurd h.1 (np hP rfl rfl)) (fun q => q.elim (fun h => absurd h (np hP rfl rfl)) (fun h => absurd h (np hP rfl rfl))))).trans ((up_c (np hP rfl rfl)).trans (hF_8 (P + 2) j (fun h => absurd h.1 (np hP rfl rfl))))) (fun j => (hF_53 48 j (fun q => q.elim (fun h => absurd h.1 (nn rfl)) (fun q => q.elim (fun h => absurd h (nn rfl)) (fun h => absurd h (nn rfl))))).trans ((up_c (nn rfl)).trans (hF_8 48 j (fun h => absurd h.1 (nn rfl)))))
  have h_89 : c_51 P 2 = n2 := (hid kn_76)
  have hA_90 : Ae n2 (c_51 (P + 3)) (c_51 49) := ae_fr hAmeshes (fun j => (hF_53 (P + 3) j (fun q => q.elim (fun h => absurd h.1 (np hP rfl rfl)) (fun q => q.elim (fun h => absurd h (np hP rfl rfl)) (fun h => absurd h (np hP rfl rfl))))).trans ((up_c (np hP rfl rfl)).trans (hF_8 (P + 3) j (fun h => absurd h.1 (np hP rfl rfl))))) (fun j => (hF_53 49 j (fun q => q.elim (fun h => absurd h.1 (nn rfl)) (fun q => q.elim (fun h => absurd h (nn rfl)) (fun h => absurd h (nn rfl))))).trans ((up_c (nn rfl)).trans (hF_8 49 j (fun h => absurd h.1 (nn rfl)))))
  exact K P Q c_51 0 (by decide) hI_52 ⟨by omega, ub_fr hU (fun j => (hF_53 2 j (fun q => q.elim (fun h => absurd h.1 (nn rfl)) (fun q => q.elim (fun h => absurd h (nn rfl)) (fun h => absurd h (nn rfl))))).trans ((up_c (nn rfl)).trans (hF_8 2 j (fun h => absurd h.1 (nn rfl))))) (fun j => (hF_53 43 j (fun q => q.elim (fun h => absurd h.1 (nn rfl)) (fun q => q.elim (fun h => absurd h (nn rfl)) (fun h => absurd h (nn rfl))))).trans ((up_c (nn rfl)).trans (hF_8 43 j (fun h => absurd h.1 (nn rfl))))), ⟨by omega, by omega, by omega, by omega⟩, ae_le hA_88 (by omega), ae_le hA_90 (by omega)⟩

