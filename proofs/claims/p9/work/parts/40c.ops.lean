/-! ===== the calls of the law 3 ===== -/
set_option maxRecDepth 100000 in
set_option maxHeartbeats 4000000 in
theorem o_20 {xs : Nat → Int32} {L i0 d nc ns P Q : Nat} {c : ME} {Z : AR → Prop} (hi : i0 + 8 ≤ L) (hL : L ≤ 100000) (hI : Iv 0 (-1) P Q c) (hR : Rq P c) (K : ∀ (P2 Q2 : Nat) (c2 : ME) (e : Nat), e ≤ 1 → Iv 0 (-1) P2 Q2 c2 → (Rq P2 c2) → Wp (a_scr L xs) (d + 90) 296 1816 [(4, vi (i0 : Int)), (3, .ref 67), (2, .ref 41), (1, .ref 0), (0, .ref a_SC)] [] (Wd P2 Q2 P2 P2 c2) (nc + e) (ns + 6 * e) Z) : Wp (a_scr L xs) (d + 90) 296 1035 [(4, vi (i0 : Int)), (3, .ref 67), (2, .ref 41), (1, .ref 0), (0, .ref a_SC)] [] (Wd P Q P P c) nc ns Z := by
  obtain ⟨x1, hx1⟩ : ∃ z, (xs (i0 + 1)).toInt = z := ⟨_, rfl⟩
  have x1r := c_rng (xs (i0 + 1))
  rw [hx1] at x1r
  obtain ⟨x2, hx2⟩ : ∃ z, (xs (i0 + 2)).toInt = z := ⟨_, rfl⟩
  have x2r := c_rng (xs (i0 + 2))
  rw [hx2] at x2r
  obtain ⟨x3, hx3⟩ : ∃ z, (xs (i0 + 3)).toInt = z := ⟨_, rfl⟩
  have x3r := c_rng (xs (i0 + 3))
  rw [hx3] at x3r
  obtain ⟨x4, hx4⟩ : ∃ z, (xs (i0 + 4)).toInt = z := ⟨_, rfl⟩
  have x4r := c_rng (xs (i0 + 4))
  rw [hx4] at x4r
  obtain ⟨x5, hx5⟩ : ∃ z, (xs (i0 + 5)).toInt = z := ⟨_, rfl⟩
  have x5r := c_rng (xs (i0 + 5))
  rw [hx5] at x5r
  obtain ⟨x6, hx6⟩ : ∃ z, (xs (i0 + 6)).toInt = z := ⟨_, rfl⟩
  have x6r := c_rng (xs (i0 + 6))
  rw [hx6] at x6r
  obtain ⟨x7, hx7⟩ : ∃ z, (xs (i0 + 7)).toInt = z := ⟨_, rfl⟩
  have x7r := c_rng (xs (i0 + 7))
  rw [hx7] at x7r
  have hT := rl_t hR
  have hU := rl_u hR
  have hP := iv_P hI
  obtain ⟨n0, hn0⟩ : ∃ z, c P 0 = z := ⟨_, rfl⟩
  have hm0 : c 41 20 = n0 := (rl_nums hR).1.symm.trans hn0
  have hr0 := ir_p0_0 hI hP
  rw [hn0] at hr0
  obtain ⟨n1, hn1⟩ : ∃ z, c P 1 = z := ⟨_, rfl⟩
  have hm1 : c 41 21 = n1 := (rl_nums hR).2.1.symm.trans hn1
  have hr1 := ir_p0_1 hI hP
  rw [hn1] at hr1
  obtain ⟨n2, hn2⟩ : ∃ z, c P 2 = z := ⟨_, rfl⟩
  have hm2 : c 41 22 = n2 := (rl_nums hR).2.2.1.symm.trans hn2
  have hr2 := ir_p0_2 hI hP
  rw [hn2] at hr2
  obtain ⟨n3, hn3⟩ : ∃ z, c P 3 = z := ⟨_, rfl⟩
  have hm3 : c 41 23 = n3 := (rl_nums hR).2.2.2.symm.trans hn3
  have hr3 := ir_p0_3 hI hP
  rw [hn3] at hr3
  have hNimg := rl_img hR
  have hNwk := rl_wk hR
  have h_1 := ir_3_4 hI
  have hIw := rl_iw hR
  have hP := iv_P hI
  have hQ := iv_Q hI
  refine q_aload_n rfl rfl (q_aload_n rfl rfl (q_iload rfl rfl (q_iconst rfl (v_iadd (v := (i0 : Int) + 1) rfl rfl (v_scr (j := i0 + 1) rfl (by omega) (by omega) hL hx1 (q_aload_n rfl rfl (q_call rfl rfl rfl rfl ?_)))))))
  refine q_aload_n rfl rfl (q_iconst rfl (q_aload_n rfl rfl (q_iload_n rfl rfl ?_)))
  refine v_cv rfl rfl rfl rfl (Nat.le_of_ble_eq_true rfl) ⟨⟨rfl, rfl⟩, Nat.le_of_ble_eq_true rfl, rfl⟩ (Nat.le_of_ble_eq_true rfl) (Nat.le_of_ble_eq_true rfl) (s_128 (a1 := x1) hI (show (-2147483648) ≤ x1 ∧ x1 ≤ 2147483647 from ⟨by omega, by omega⟩) (fun c_2 hI_3 hF_4 => ?_) (fun c_5 y_8 hI_6 hF_7 hy_8 => ?_))
  · skip
    refine bk_thr (z := Int32.ofInt 1) rfl ⟨_, _, rfl⟩ rfl (bk_inl (q_istore rfl (Nat.le_of_ble_eq_true rfl) (q_aload_n rfl rfl (q_aload_n rfl rfl (q_iload rfl rfl (q_iconst rfl (v_iadd (v := (i0 : Int) + 1) rfl rfl ?_)))))))
    refine v_scr (j := i0 + 1) rfl (by omega) (by omega) hL hx1 (v_cv rfl rfl rfl rfl (Nat.le_of_ble_eq_true rfl) ⟨⟨rfl, rfl⟩, Nat.le_of_ble_eq_true rfl, rfl⟩ (Nat.le_of_ble_eq_true rfl) (Nat.le_of_ble_eq_true rfl) (s_230 (a1 := x1) hI_3 (show (-2147483648) ≤ x1 ∧ x1 ≤ 2147483647 from ⟨by omega, by omega⟩) (fun c_9 y_12 hI_10 hF_11 hy_12 => (bk_inl (q_istore rfl (Nat.le_of_ble_eq_true rfl) (q_goto (t := 1816) rfl rfl (Wp_ls [(4, vi (i0 : Int)), (3, .ref 67), (2, .ref 41), (1, .ref 0), (0, .ref a_SC)] (lsub_cons rfl (lsub_cons rfl (lsub_cons rfl (lsub_cons rfl (lsub_cons rfl lsub_nil))))) ?_)))))))
    have h_13 := ir_1_3 hI
    have kn_14 : Hid (c_2 1 3 = c 1 3) := hF_4 1 3 (fun q => q.elim (fun h => absurd h.1 (nn rfl)) (fun h => absurd h (nn rfl)))
    have kn_15 : Hid (c_9 1 3 = c 1 3) := (hF_11 1 3 (fun q => q.elim (fun h => absurd h.1 (nn rfl)) (fun q => q.elim (fun h => absurd h (nn rfl)) (fun h => absurd h (nn rfl))))).trans (hid kn_14)
    have h_16 : c_9 1 3 = c 1 3 := (hid kn_15)
    have h_17 := ir_41_2 hI
    have kn_18 : Hid (c_2 41 2 = c 41 2) := hF_4 41 2 (fun q => q.elim (fun h => absurd h.1 (nn rfl)) (fun h => absurd h (nn rfl)))
    have kn_19 : Hid (c_9 41 2 = c 41 2) := (hF_11 41 2 (fun q => q.elim (fun h => absurd h.2 (ni rfl)) (fun q => q.elim (fun h => absurd h (nn rfl)) (fun h => absurd h (nn rfl))))).trans (hid kn_18)
    have h_20 : c_9 41 2 = c 41 2 := (hid kn_19)
    have kn_21 : Hid (c_2 P 0 = n0) := (hF_4 P 0 (fun q => q.elim (fun h => absurd h.1 (np0 hP rfl)) (fun h => absurd h (np0 hP rfl)))).trans (hn0)
    have kn_22 : Hid (c_9 P 0 = n0) := (hF_11 P 0 (fun q => q.elim (fun h => absurd h.1 (np0 hP rfl)) (fun q => q.elim (fun h => absurd h (np0 hP rfl)) (fun h => absurd h (np0 hP rfl))))).trans (hid kn_21)
    have h_23 : c_9 P 0 = n0 := (hid kn_22)
    have kn_24 : Hid (c_2 41 20 = n0) := (hF_4 41 20 (fun q => q.elim (fun h => absurd h.1 (nn rfl)) (fun h => absurd h (nn rfl)))).trans (hm0)
    have kn_25 : Hid (c_9 41 20 = n0) := (hF_11 41 20 (fun q => q.elim (fun h => absurd h.2 (ni rfl)) (fun q => q.elim (fun h => absurd h (nn rfl)) (fun h => absurd h (nn rfl))))).trans (hid kn_24)
    have h_26 : c_9 41 20 = n0 := (hid kn_25)
    have kn_27 : Hid (c_2 P 1 = n1) := (hF_4 P 1 (fun q => q.elim (fun h => absurd h.1 (np0 hP rfl)) (fun h => absurd h (np0 hP rfl)))).trans (hn1)
    have kn_28 : Hid (c_9 P 1 = n1) := (hF_11 P 1 (fun q => q.elim (fun h => absurd h.1 (np0 hP rfl)) (fun q => q.elim (fun h => absurd h (np0 hP rfl)) (fun h => absurd h (np0 hP rfl))))).trans (hid kn_27)
    have h_29 : c_9 P 1 = n1 := (hid kn_28)
    have kn_30 : Hid (c_2 41 21 = n1) := (hF_4 41 21 (fun q => q.elim (fun h => absurd h.1 (nn rfl)) (fun h => absurd h (nn rfl)))).trans (hm1)
    have kn_31 : Hid (c_9 41 21 = n1) := (hF_11 41 21 (fun q => q.elim (fun h => absurd h.2 (ni rfl)) (fun q => q.elim (fun h => absurd h (nn rfl)) (fun h => absurd h (nn rfl))))).trans (hid kn_30)
    have h_32 : c_9 41 21 = n1 := (hid kn_31)
    have kn_33 : Hid (c_2 P 2 = n2) := (hF_4 P 2 (fun q => q.elim (fun h => absurd h.1 (np0 hP rfl)) (fun h => absurd h (np0 hP rfl)))).trans (hn2)
    have kn_34 : Hid (c_9 P 2 = n2) := (hF_11 P 2 (fun q => q.elim (fun h => absurd h.1 (np0 hP rfl)) (fun q => q.elim (fun h => absurd h (np0 hP rfl)) (fun h => absurd h (np0 hP rfl))))).trans (hid kn_33)
    have h_35 : c_9 P 2 = n2 := (hid kn_34)
    have kn_36 : Hid (c_2 41 22 = n2) := (hF_4 41 22 (fun q => q.elim (fun h => absurd h.1 (nn rfl)) (fun h => absurd h (nn rfl)))).trans (hm2)
    have kn_37 : Hid (c_9 41 22 = n2) := (hF_11 41 22 (fun q => q.elim (fun h => absurd h.2 (ni rfl)) (fun q => q.elim (fun h => absurd h (nn rfl)) (fun h => absurd h (nn rfl))))).trans (hid kn_36)
    have h_38 : c_9 41 22 = n2 := (hid kn_37)
    have kn_39 : Hid (c_2 P 3 = n3) := (hF_4 P 3 (fun q => q.elim (fun h => absurd h.1 (np0 hP rfl)) (fun h => absurd h (np0 hP rfl)))).trans (hn3)
    have kn_40 : Hid (c_9 P 3 = n3) := (hF_11 P 3 (fun q => q.elim (fun h => absurd h.1 (np0 hP rfl)) (fun q => q.elim (fun h => absurd h (np0 hP rfl)) (fun h => absurd h (np0 hP rfl))))).trans (hid kn_39)
    have h_41 : c_9 P 3 = n3 := (hid kn_40)
    have kn_42 : Hid (c_2 41 23 = n3) := (hF_4 41 23 (fun q => q.elim (fun h => absurd h.1 (nn rfl)) (fun h => absurd h (nn rfl)))).trans (hm3)
    have kn_43 : Hid (c_9 41 23 = n3) := (hF_11 41 23 (fun q => q.elim (fun h => absurd h.2 (ni rfl)) (fun q => q.elim (fun h => absurd h (nn rfl)) (fun h => absurd h (nn rfl))))).trans (hid kn_42)
    have h_44 : c_9 41 23 = n3 := (hid kn_43)
    have kn_45 : Hid (c_2 3 4 = c 3 4) := hF_4 3 4 (fun q => q.elim (fun h => absurd h.1 (nn rfl)) (fun h => absurd h (nn rfl)))
    have kn_46 : Hid (c_9 3 4 = c 3 4) := (hF_11 3 4 (fun q => q.elim (fun h => absurd h.1 (nn rfl)) (fun q => q.elim (fun h => absurd h (nn rfl)) (fun h => absurd h (nn rfl))))).trans (hid kn_45)
    have h_47 : c_9 3 4 = c 3 4 := (hid kn_46)
    have h_48 := ir_41_52 hI
    have kn_49 : Hid (c_2 41 52 = c 41 52) := hF_4 41 52 (fun q => q.elim (fun h => absurd h.1 (nn rfl)) (fun h => absurd h (nn rfl)))
    have kn_50 : Hid (c_9 41 52 = c 41 52) := (hF_11 41 52 (fun q => q.elim (fun h => absurd h.2 (ni rfl)) (fun q => q.elim (fun h => absurd h (nn rfl)) (fun h => absurd h (nn rfl))))).trans (hid kn_49)
    have h_51 : c_9 41 52 = c 41 52 := (hid kn_50)
    have h_52 := ir_3_3 hI
    have kn_53 : Hid (c_2 3 3 = c 3 3) := hF_4 3 3 (fun q => q.elim (fun h => absurd h.1 (nn rfl)) (fun h => absurd h (nn rfl)))
    have kn_54 : Hid (c_9 3 3 = c 3 3) := (hF_11 3 3 (fun q => q.elim (fun h => absurd h.1 (nn rfl)) (fun q => q.elim (fun h => absurd h (nn rfl)) (fun h => absurd h (nn rfl))))).trans (hid kn_53)
    have h_55 : c_9 3 3 = c 3 3 := (hid kn_54)
    have h_56 := ir_41_35 hI
    have kn_57 : Hid (c_2 41 35 = c 41 35) := hF_4 41 35 (fun q => q.elim (fun h => absurd h.1 (nn rfl)) (fun h => absurd h (nn rfl)))
    have kn_58 : Hid (c_9 41 35 = c 41 35) := (hF_11 41 35 (fun q => q.elim (fun h => absurd h.2 (ni rfl)) (fun q => q.elim (fun h => absurd h (nn rfl)) (fun h => absurd h (nn rfl))))).trans (hid kn_57)
    have h_59 : c_9 41 35 = c 41 35 := (hid kn_58)
    have h_60 : c_9 3 4 = c 3 4 := (hid kn_46)
    exact K P Q c_9 1 (by decide) hI_10 ⟨by omega, ub_fr hU (fun j => (hF_11 2 j (fun q => q.elim (fun h => absurd h.1 (nn rfl)) (fun q => q.elim (fun h => absurd h (nn rfl)) (fun h => absurd h (nn rfl))))).trans (hF_4 2 j (fun q => q.elim (fun h => absurd h.1 (nn rfl)) (fun h => absurd h (nn rfl))))) (fun j => (hF_11 43 j (fun q => q.elim (fun h => absurd h.1 (nn rfl)) (fun q => q.elim (fun h => absurd h (nn rfl)) (fun h => absurd h (nn rfl))))).trans (hF_4 43 j (fun q => q.elim (fun h => absurd h.1 (nn rfl)) (fun h => absurd h (nn rfl))))), ⟨by omega, by omega, by omega, by omega⟩, by omega, by omega, iw_fr2 hIw (by omega) (fun j => (hF_11 6 j (fun q => q.elim (fun h => absurd h.1 (nn rfl)) (fun q => q.elim (fun h => absurd h (nn rfl)) (fun h => absurd h (nn rfl))))).trans (hF_4 6 j (fun q => q.elim (fun h => absurd h.1 (nn rfl)) (fun h => absurd h (nn rfl))))) (fun j => (hF_11 66 j (fun q => q.elim (fun h => absurd h.1 (nn rfl)) (fun q => q.elim (fun h => absurd h (nn rfl)) (fun h => absurd h (nn rfl))))).trans (hF_4 66 j (fun q => q.elim (fun h => absurd h.1 (nn rfl)) (fun h => absurd h (nn rfl)))))⟩
  refine bk_inl (v_i2l rfl (by omega) (v_ls rfl rfl (by decide) (by decide) (by decide) (q_goto (t := 15) rfl rfl (q_iconst rfl (q_iret rfl rfl (bk_inl (q_istore rfl (Nat.le_of_ble_eq_true rfl) ?_)))))))
  refine q_aload_n rfl rfl (q_aload_n rfl rfl (q_iload rfl rfl (q_iconst rfl (v_iadd (v := (i0 : Int) + 1) rfl rfl (v_scr (j := i0 + 1) rfl (by omega) (by omega) hL hx1 ?_)))))
  have hI_61 := iw_lx (a := 67) (j := 0) (v := y_8) hI_6 (by omega)
  refine v_cv rfl rfl rfl rfl (Nat.le_of_ble_eq_true rfl) ⟨⟨rfl, rfl⟩, Nat.le_of_ble_eq_true rfl, rfl⟩ (Nat.le_of_ble_eq_true rfl) (Nat.le_of_ble_eq_true rfl) (s_230 (a1 := x1) hI_61 (show (-2147483648) ≤ x1 ∧ x1 ≤ 2147483647 from ⟨by omega, by omega⟩) (fun c_62 y_65 hI_63 hF_64 hy_65 => (bk_inl (q_istore rfl (Nat.le_of_ble_eq_true rfl) (q_goto (t := 1816) rfl rfl (Wp_ls [(4, vi (i0 : Int)), (3, .ref 67), (2, .ref 41), (1, .ref 0), (0, .ref a_SC)] (lsub_cons rfl (lsub_cons rfl (lsub_cons rfl (lsub_cons rfl (lsub_cons rfl lsub_nil))))) ?_))))))
  have h_66 := ir_1_3 hI
  have kn_67 : Hid (c_5 1 3 = c 1 3) := hF_7 1 3 (fun q => q.elim (fun h => absurd h.1 (nn rfl)) (fun h => absurd h (nn rfl)))
  have kn_68 : Hid (c_62 1 3 = c 1 3) := (hF_64 1 3 (fun q => q.elim (fun h => absurd h.1 (nn rfl)) (fun q => q.elim (fun h => absurd h (nn rfl)) (fun h => absurd h (nn rfl))))).trans ((up_c (nn rfl)).trans (hid kn_67))
  have h_69 : c_62 1 3 = c 1 3 := (hid kn_68)
  have h_70 := ir_41_2 hI
  have kn_71 : Hid (c_5 41 2 = c 41 2) := hF_7 41 2 (fun q => q.elim (fun h => absurd h.1 (nn rfl)) (fun h => absurd h (nn rfl)))
  have kn_72 : Hid (c_62 41 2 = c 41 2) := (hF_64 41 2 (fun q => q.elim (fun h => absurd h.2 (ni rfl)) (fun q => q.elim (fun h => absurd h (nn rfl)) (fun h => absurd h (nn rfl))))).trans ((up_c (nn rfl)).trans (hid kn_71))
  have h_73 : c_62 41 2 = c 41 2 := (hid kn_72)
  have kn_74 : Hid (c_5 P 0 = n0) := (hF_7 P 0 (fun q => q.elim (fun h => absurd h.1 (np0 hP rfl)) (fun h => absurd h (np0 hP rfl)))).trans (hn0)
  have kn_75 : Hid (c_62 P 0 = n0) := (hF_64 P 0 (fun q => q.elim (fun h => absurd h.1 (np0 hP rfl)) (fun q => q.elim (fun h => absurd h (np0 hP rfl)) (fun h => absurd h (np0 hP rfl))))).trans ((up_c (np0 hP rfl)).trans (hid kn_74))
  have h_76 : c_62 P 0 = n0 := (hid kn_75)
  have kn_77 : Hid (c_5 41 20 = n0) := (hF_7 41 20 (fun q => q.elim (fun h => absurd h.1 (nn rfl)) (fun h => absurd h (nn rfl)))).trans (hm0)
  have kn_78 : Hid (c_62 41 20 = n0) := (hF_64 41 20 (fun q => q.elim (fun h => absurd h.2 (ni rfl)) (fun q => q.elim (fun h => absurd h (nn rfl)) (fun h => absurd h (nn rfl))))).trans ((up_c (nn rfl)).trans (hid kn_77))
  have h_79 : c_62 41 20 = n0 := (hid kn_78)
  have kn_80 : Hid (c_5 P 1 = n1) := (hF_7 P 1 (fun q => q.elim (fun h => absurd h.1 (np0 hP rfl)) (fun h => absurd h (np0 hP rfl)))).trans (hn1)
  have kn_81 : Hid (c_62 P 1 = n1) := (hF_64 P 1 (fun q => q.elim (fun h => absurd h.1 (np0 hP rfl)) (fun q => q.elim (fun h => absurd h (np0 hP rfl)) (fun h => absurd h (np0 hP rfl))))).trans ((up_c (np0 hP rfl)).trans (hid kn_80))
  have h_82 : c_62 P 1 = n1 := (hid kn_81)
  have kn_83 : Hid (c_5 41 21 = n1) := (hF_7 41 21 (fun q => q.elim (fun h => absurd h.1 (nn rfl)) (fun h => absurd h (nn rfl)))).trans (hm1)
  have kn_84 : Hid (c_62 41 21 = n1) := (hF_64 41 21 (fun q => q.elim (fun h => absurd h.2 (ni rfl)) (fun q => q.elim (fun h => absurd h (nn rfl)) (fun h => absurd h (nn rfl))))).trans ((up_c (nn rfl)).trans (hid kn_83))
  have h_85 : c_62 41 21 = n1 := (hid kn_84)
  have kn_86 : Hid (c_5 P 2 = n2) := (hF_7 P 2 (fun q => q.elim (fun h => absurd h.1 (np0 hP rfl)) (fun h => absurd h (np0 hP rfl)))).trans (hn2)
  have kn_87 : Hid (c_62 P 2 = n2) := (hF_64 P 2 (fun q => q.elim (fun h => absurd h.1 (np0 hP rfl)) (fun q => q.elim (fun h => absurd h (np0 hP rfl)) (fun h => absurd h (np0 hP rfl))))).trans ((up_c (np0 hP rfl)).trans (hid kn_86))
  have h_88 : c_62 P 2 = n2 := (hid kn_87)
  have kn_89 : Hid (c_5 41 22 = n2) := (hF_7 41 22 (fun q => q.elim (fun h => absurd h.1 (nn rfl)) (fun h => absurd h (nn rfl)))).trans (hm2)
  have kn_90 : Hid (c_62 41 22 = n2) := (hF_64 41 22 (fun q => q.elim (fun h => absurd h.2 (ni rfl)) (fun q => q.elim (fun h => absurd h (nn rfl)) (fun h => absurd h (nn rfl))))).trans ((up_c (nn rfl)).trans (hid kn_89))
  have h_91 : c_62 41 22 = n2 := (hid kn_90)
  have kn_92 : Hid (c_5 P 3 = n3) := (hF_7 P 3 (fun q => q.elim (fun h => absurd h.1 (np0 hP rfl)) (fun h => absurd h (np0 hP rfl)))).trans (hn3)
  have kn_93 : Hid (c_62 P 3 = n3) := (hF_64 P 3 (fun q => q.elim (fun h => absurd h.1 (np0 hP rfl)) (fun q => q.elim (fun h => absurd h (np0 hP rfl)) (fun h => absurd h (np0 hP rfl))))).trans ((up_c (np0 hP rfl)).trans (hid kn_92))
  have h_94 : c_62 P 3 = n3 := (hid kn_93)
  have kn_95 : Hid (c_5 41 23 = n3) := (hF_7 41 23 (fun q => q.elim (fun h => absurd h.1 (nn rfl)) (fun h => absurd h (nn rfl)))).trans (hm3)
  have kn_96 : Hid (c_62 41 23 = n3) := (hF_64 41 23 (fun q => q.elim (fun h => absurd h.2 (ni rfl)) (fun q => q.elim (fun h => absurd h (nn rfl)) (fun h => absurd h (nn rfl))))).trans ((up_c (nn rfl)).trans (hid kn_95))
  have h_97 : c_62 41 23 = n3 := (hid kn_96)
  have kn_98 : Hid (c_5 3 4 = c 3 4) := hF_7 3 4 (fun q => q.elim (fun h => absurd h.1 (nn rfl)) (fun h => absurd h (nn rfl)))
  have kn_99 : Hid (c_62 3 4 = c 3 4) := (hF_64 3 4 (fun q => q.elim (fun h => absurd h.1 (nn rfl)) (fun q => q.elim (fun h => absurd h (nn rfl)) (fun h => absurd h (nn rfl))))).trans ((up_c (nn rfl)).trans (hid kn_98))
  have h_100 : c_62 3 4 = c 3 4 := (hid kn_99)
  have h_101 := ir_41_52 hI
  have kn_102 : Hid (c_5 41 52 = c 41 52) := hF_7 41 52 (fun q => q.elim (fun h => absurd h.1 (nn rfl)) (fun h => absurd h (nn rfl)))
  have kn_103 : Hid (c_62 41 52 = c 41 52) := (hF_64 41 52 (fun q => q.elim (fun h => absurd h.2 (ni rfl)) (fun q => q.elim (fun h => absurd h (nn rfl)) (fun h => absurd h (nn rfl))))).trans ((up_c (nn rfl)).trans (hid kn_102))
  have h_104 : c_62 41 52 = c 41 52 := (hid kn_103)
  have h_105 := ir_3_3 hI
  have kn_106 : Hid (c_5 3 3 = c 3 3) := hF_7 3 3 (fun q => q.elim (fun h => absurd h.1 (nn rfl)) (fun h => absurd h (nn rfl)))
  have kn_107 : Hid (c_62 3 3 = c 3 3) := (hF_64 3 3 (fun q => q.elim (fun h => absurd h.1 (nn rfl)) (fun q => q.elim (fun h => absurd h (nn rfl)) (fun h => absurd h (nn rfl))))).trans ((up_c (nn rfl)).trans (hid kn_106))
  have h_108 : c_62 3 3 = c 3 3 := (hid kn_107)
  have h_109 := ir_41_35 hI
  have kn_110 : Hid (c_5 41 35 = c 41 35) := hF_7 41 35 (fun q => q.elim (fun h => absurd h.1 (nn rfl)) (fun h => absurd h (nn rfl)))
  have kn_111 : Hid (c_62 41 35 = c 41 35) := (hF_64 41 35 (fun q => q.elim (fun h => absurd h.2 (ni rfl)) (fun q => q.elim (fun h => absurd h (nn rfl)) (fun h => absurd h (nn rfl))))).trans ((up_c (nn rfl)).trans (hid kn_110))
  have h_112 : c_62 41 35 = c 41 35 := (hid kn_111)
  have h_113 : c_62 3 4 = c 3 4 := (hid kn_99)
  exact K P Q c_62 0 (by decide) hI_63 ⟨by omega, ub_fr hU (fun j => (hF_64 2 j (fun q => q.elim (fun h => absurd h.1 (nn rfl)) (fun q => q.elim (fun h => absurd h (nn rfl)) (fun h => absurd h (nn rfl))))).trans ((up_c (nn rfl)).trans (hF_7 2 j (fun q => q.elim (fun h => absurd h.1 (nn rfl)) (fun h => absurd h (nn rfl)))))) (fun j => (hF_64 43 j (fun q => q.elim (fun h => absurd h.1 (nn rfl)) (fun q => q.elim (fun h => absurd h (nn rfl)) (fun h => absurd h (nn rfl))))).trans ((up_c (nn rfl)).trans (hF_7 43 j (fun q => q.elim (fun h => absurd h.1 (nn rfl)) (fun h => absurd h (nn rfl)))))), ⟨by omega, by omega, by omega, by omega⟩, by omega, by omega, iw_fr2 hIw (by omega) (fun j => (hF_64 6 j (fun q => q.elim (fun h => absurd h.1 (nn rfl)) (fun q => q.elim (fun h => absurd h (nn rfl)) (fun h => absurd h (nn rfl))))).trans ((up_c (nn rfl)).trans (hF_7 6 j (fun q => q.elim (fun h => absurd h.1 (nn rfl)) (fun h => absurd h (nn rfl)))))) (fun j => (hF_64 66 j (fun q => q.elim (fun h => absurd h.1 (nn rfl)) (fun q => q.elim (fun h => absurd h (nn rfl)) (fun h => absurd h (nn rfl))))).trans ((up_c (nn rfl)).trans (hF_7 66 j (fun q => q.elim (fun h => absurd h.1 (nn rfl)) (fun h => absurd h (nn rfl))))))⟩

set_option maxRecDepth 100000 in
set_option maxHeartbeats 4000000 in
theorem o_21 {xs : Nat → Int32} {L i0 d nc ns P Q : Nat} {c : ME} {Z : AR → Prop} (hi : i0 + 8 ≤ L) (hL : L ≤ 100000) (hI : Iv 0 (-1) P Q c) (hR : Rq P c) (K : ∀ (P2 Q2 : Nat) (c2 : ME) (e : Nat), e ≤ 1 → Iv 0 (-1) P2 Q2 c2 → (Rq P2 c2) → Wp (a_scr L xs) (d + 90) 296 1816 [(4, vi (i0 : Int)), (3, .ref 67), (2, .ref 41), (1, .ref 0), (0, .ref a_SC)] [] (Wd P2 Q2 P2 P2 c2) (nc + e) (ns + 6 * e) Z) : Wp (a_scr L xs) (d + 90) 296 1063 [(4, vi (i0 : Int)), (3, .ref 67), (2, .ref 41), (1, .ref 0), (0, .ref a_SC)] [] (Wd P Q P P c) nc ns Z := by
  obtain ⟨x1, hx1⟩ : ∃ z, (xs (i0 + 1)).toInt = z := ⟨_, rfl⟩
  have x1r := c_rng (xs (i0 + 1))
  rw [hx1] at x1r
  obtain ⟨x2, hx2⟩ : ∃ z, (xs (i0 + 2)).toInt = z := ⟨_, rfl⟩
  have x2r := c_rng (xs (i0 + 2))
  rw [hx2] at x2r
  obtain ⟨x3, hx3⟩ : ∃ z, (xs (i0 + 3)).toInt = z := ⟨_, rfl⟩
  have x3r := c_rng (xs (i0 + 3))
  rw [hx3] at x3r
  obtain ⟨x4, hx4⟩ : ∃ z, (xs (i0 + 4)).toInt = z := ⟨_, rfl⟩
  have x4r := c_rng (xs (i0 + 4))
  rw [hx4] at x4r
  obtain ⟨x5, hx5⟩ : ∃ z, (xs (i0 + 5)).toInt = z := ⟨_, rfl⟩
  have x5r := c_rng (xs (i0 + 5))
  rw [hx5] at x5r
  obtain ⟨x6, hx6⟩ : ∃ z, (xs (i0 + 6)).toInt = z := ⟨_, rfl⟩
  have x6r := c_rng (xs (i0 + 6))
  rw [hx6] at x6r
  obtain ⟨x7, hx7⟩ : ∃ z, (xs (i0 + 7)).toInt = z := ⟨_, rfl⟩
  have x7r := c_rng (xs (i0 + 7))
  rw [hx7] at x7r
  have hT := rl_t hR
  have hU := rl_u hR
  have hP := iv_P hI
  obtain ⟨n0, hn0⟩ : ∃ z, c P 0 = z := ⟨_, rfl⟩
  have hm0 : c 41 20 = n0 := (rl_nums hR).1.symm.trans hn0
  have hr0 := ir_p0_0 hI hP
  rw [hn0] at hr0
  obtain ⟨n1, hn1⟩ : ∃ z, c P 1 = z := ⟨_, rfl⟩
  have hm1 : c 41 21 = n1 := (rl_nums hR).2.1.symm.trans hn1
  have hr1 := ir_p0_1 hI hP
  rw [hn1] at hr1
  obtain ⟨n2, hn2⟩ : ∃ z, c P 2 = z := ⟨_, rfl⟩
  have hm2 : c 41 22 = n2 := (rl_nums hR).2.2.1.symm.trans hn2
  have hr2 := ir_p0_2 hI hP
  rw [hn2] at hr2
  obtain ⟨n3, hn3⟩ : ∃ z, c P 3 = z := ⟨_, rfl⟩
  have hm3 : c 41 23 = n3 := (rl_nums hR).2.2.2.symm.trans hn3
  have hr3 := ir_p0_3 hI hP
  rw [hn3] at hr3
  have hNimg := rl_img hR
  have hNwk := rl_wk hR
  have h_1 := ir_3_4 hI
  have hIw := rl_iw hR
  have hP := iv_P hI
  have hQ := iv_Q hI
  refine q_aload_n rfl rfl (q_aload_n rfl rfl (q_iload rfl rfl (q_iconst rfl (v_iadd (v := (i0 : Int) + 1) rfl rfl (v_scr (j := i0 + 1) rfl (by omega) (by omega) hL hx1 (q_aload_n rfl rfl (q_call rfl rfl rfl rfl ?_)))))))
  refine q_aload_n rfl rfl (q_iconst rfl (q_aload_n rfl rfl (q_iload_n rfl rfl ?_)))
  refine v_cv rfl rfl rfl rfl (Nat.le_of_ble_eq_true rfl) ⟨⟨rfl, rfl⟩, Nat.le_of_ble_eq_true rfl, rfl⟩ (Nat.le_of_ble_eq_true rfl) (Nat.le_of_ble_eq_true rfl) (s_131 (a1 := x1) hI (show (-2147483648) ≤ x1 ∧ x1 ≤ 2147483647 from ⟨by omega, by omega⟩) (fun c_2 hI_3 hF_4 => ?_) (fun c_5 y_8 hI_6 hF_7 hy_8 => ?_))
  · skip
    refine bk_thr (z := Int32.ofInt 1) rfl ⟨_, _, rfl⟩ rfl (bk_inl (q_istore rfl (Nat.le_of_ble_eq_true rfl) (q_aload_n rfl rfl (q_aload_n rfl rfl (q_iload rfl rfl (q_iconst rfl (v_iadd (v := (i0 : Int) + 1) rfl rfl ?_)))))))
    refine v_scr (j := i0 + 1) rfl (by omega) (by omega) hL hx1 (v_cv rfl rfl rfl rfl (Nat.le_of_ble_eq_true rfl) ⟨⟨rfl, rfl⟩, Nat.le_of_ble_eq_true rfl, rfl⟩ (Nat.le_of_ble_eq_true rfl) (Nat.le_of_ble_eq_true rfl) (s_232 (a1 := x1) hI_3 (show (-2147483648) ≤ x1 ∧ x1 ≤ 2147483647 from ⟨by omega, by omega⟩) (fun c_9 y_12 hI_10 hF_11 hy_12 => (bk_inl (q_istore rfl (Nat.le_of_ble_eq_true rfl) (q_goto (t := 1816) rfl rfl (Wp_ls [(4, vi (i0 : Int)), (3, .ref 67), (2, .ref 41), (1, .ref 0), (0, .ref a_SC)] (lsub_cons rfl (lsub_cons rfl (lsub_cons rfl (lsub_cons rfl (lsub_cons rfl lsub_nil))))) ?_)))))))
    have h_13 := ir_1_3 hI
    have kn_14 : Hid (c_2 1 3 = c 1 3) := hF_4 1 3 (fun q => q.elim (fun h => absurd h.1 (nn rfl)) (fun h => absurd h (nn rfl)))
    have kn_15 : Hid (c_9 1 3 = c 1 3) := (hF_11 1 3 (fun q => q.elim (fun h => absurd h.1 (nn rfl)) (fun q => q.elim (fun h => absurd h (nn rfl)) (fun h => absurd h (nn rfl))))).trans (hid kn_14)
    have h_16 : c_9 1 3 = c 1 3 := (hid kn_15)
    have h_17 := ir_41_2 hI
    have kn_18 : Hid (c_2 41 2 = c 41 2) := hF_4 41 2 (fun q => q.elim (fun h => absurd h.1 (nn rfl)) (fun h => absurd h (nn rfl)))
    have kn_19 : Hid (c_9 41 2 = c 41 2) := (hF_11 41 2 (fun q => q.elim (fun h => absurd h.2 (ni rfl)) (fun q => q.elim (fun h => absurd h (nn rfl)) (fun h => absurd h (nn rfl))))).trans (hid kn_18)
    have h_20 : c_9 41 2 = c 41 2 := (hid kn_19)
    have kn_21 : Hid (c_2 P 0 = n0) := (hF_4 P 0 (fun q => q.elim (fun h => absurd h.1 (np0 hP rfl)) (fun h => absurd h (np0 hP rfl)))).trans (hn0)
    have kn_22 : Hid (c_9 P 0 = n0) := (hF_11 P 0 (fun q => q.elim (fun h => absurd h.1 (np0 hP rfl)) (fun q => q.elim (fun h => absurd h (np0 hP rfl)) (fun h => absurd h (np0 hP rfl))))).trans (hid kn_21)
    have h_23 : c_9 P 0 = n0 := (hid kn_22)
    have kn_24 : Hid (c_2 41 20 = n0) := (hF_4 41 20 (fun q => q.elim (fun h => absurd h.1 (nn rfl)) (fun h => absurd h (nn rfl)))).trans (hm0)
    have kn_25 : Hid (c_9 41 20 = n0) := (hF_11 41 20 (fun q => q.elim (fun h => absurd h.2 (ni rfl)) (fun q => q.elim (fun h => absurd h (nn rfl)) (fun h => absurd h (nn rfl))))).trans (hid kn_24)
    have h_26 : c_9 41 20 = n0 := (hid kn_25)
    have kn_27 : Hid (c_2 P 1 = n1) := (hF_4 P 1 (fun q => q.elim (fun h => absurd h.1 (np0 hP rfl)) (fun h => absurd h (np0 hP rfl)))).trans (hn1)
    have kn_28 : Hid (c_9 P 1 = n1) := (hF_11 P 1 (fun q => q.elim (fun h => absurd h.1 (np0 hP rfl)) (fun q => q.elim (fun h => absurd h (np0 hP rfl)) (fun h => absurd h (np0 hP rfl))))).trans (hid kn_27)
    have h_29 : c_9 P 1 = n1 := (hid kn_28)
    have kn_30 : Hid (c_2 41 21 = n1) := (hF_4 41 21 (fun q => q.elim (fun h => absurd h.1 (nn rfl)) (fun h => absurd h (nn rfl)))).trans (hm1)
    have kn_31 : Hid (c_9 41 21 = n1) := (hF_11 41 21 (fun q => q.elim (fun h => absurd h.2 (ni rfl)) (fun q => q.elim (fun h => absurd h (nn rfl)) (fun h => absurd h (nn rfl))))).trans (hid kn_30)
    have h_32 : c_9 41 21 = n1 := (hid kn_31)
    have kn_33 : Hid (c_2 P 2 = n2) := (hF_4 P 2 (fun q => q.elim (fun h => absurd h.1 (np0 hP rfl)) (fun h => absurd h (np0 hP rfl)))).trans (hn2)
    have kn_34 : Hid (c_9 P 2 = n2) := (hF_11 P 2 (fun q => q.elim (fun h => absurd h.1 (np0 hP rfl)) (fun q => q.elim (fun h => absurd h (np0 hP rfl)) (fun h => absurd h (np0 hP rfl))))).trans (hid kn_33)
    have h_35 : c_9 P 2 = n2 := (hid kn_34)
    have kn_36 : Hid (c_2 41 22 = n2) := (hF_4 41 22 (fun q => q.elim (fun h => absurd h.1 (nn rfl)) (fun h => absurd h (nn rfl)))).trans (hm2)
    have kn_37 : Hid (c_9 41 22 = n2) := (hF_11 41 22 (fun q => q.elim (fun h => absurd h.2 (ni rfl)) (fun q => q.elim (fun h => absurd h (nn rfl)) (fun h => absurd h (nn rfl))))).trans (hid kn_36)
    have h_38 : c_9 41 22 = n2 := (hid kn_37)
    have kn_39 : Hid (c_2 P 3 = n3) := (hF_4 P 3 (fun q => q.elim (fun h => absurd h.1 (np0 hP rfl)) (fun h => absurd h (np0 hP rfl)))).trans (hn3)
    have kn_40 : Hid (c_9 P 3 = n3) := (hF_11 P 3 (fun q => q.elim (fun h => absurd h.1 (np0 hP rfl)) (fun q => q.elim (fun h => absurd h (np0 hP rfl)) (fun h => absurd h (np0 hP rfl))))).trans (hid kn_39)
    have h_41 : c_9 P 3 = n3 := (hid kn_40)
    have kn_42 : Hid (c_2 41 23 = n3) := (hF_4 41 23 (fun q => q.elim (fun h => absurd h.1 (nn rfl)) (fun h => absurd h (nn rfl)))).trans (hm3)
    have kn_43 : Hid (c_9 41 23 = n3) := (hF_11 41 23 (fun q => q.elim (fun h => absurd h.2 (ni rfl)) (fun q => q.elim (fun h => absurd h (nn rfl)) (fun h => absurd h (nn rfl))))).trans (hid kn_42)
    have h_44 : c_9 41 23 = n3 := (hid kn_43)
    have kn_45 : Hid (c_2 3 4 = c 3 4) := hF_4 3 4 (fun q => q.elim (fun h => absurd h.1 (nn rfl)) (fun h => absurd h (nn rfl)))
    have kn_46 : Hid (c_9 3 4 = c 3 4) := (hF_11 3 4 (fun q => q.elim (fun h => absurd h.1 (nn rfl)) (fun q => q.elim (fun h => absurd h (nn rfl)) (fun h => absurd h (nn rfl))))).trans (hid kn_45)
    have h_47 : c_9 3 4 = c 3 4 := (hid kn_46)
    have h_48 := ir_41_52 hI
    have kn_49 : Hid (c_2 41 52 = c 41 52) := hF_4 41 52 (fun q => q.elim (fun h => absurd h.1 (nn rfl)) (fun h => absurd h (nn rfl)))
    have kn_50 : Hid (c_9 41 52 = c 41 52) := (hF_11 41 52 (fun q => q.elim (fun h => absurd h.2 (ni rfl)) (fun q => q.elim (fun h => absurd h (nn rfl)) (fun h => absurd h (nn rfl))))).trans (hid kn_49)
    have h_51 : c_9 41 52 = c 41 52 := (hid kn_50)
    have h_52 := ir_3_3 hI
    have kn_53 : Hid (c_2 3 3 = c 3 3) := hF_4 3 3 (fun q => q.elim (fun h => absurd h.1 (nn rfl)) (fun h => absurd h (nn rfl)))
    have kn_54 : Hid (c_9 3 3 = c 3 3) := (hF_11 3 3 (fun q => q.elim (fun h => absurd h.1 (nn rfl)) (fun q => q.elim (fun h => absurd h (nn rfl)) (fun h => absurd h (nn rfl))))).trans (hid kn_53)
    have h_55 : c_9 3 3 = c 3 3 := (hid kn_54)
    have h_56 := ir_41_35 hI
    have kn_57 : Hid (c_2 41 35 = c 41 35) := hF_4 41 35 (fun q => q.elim (fun h => absurd h.1 (nn rfl)) (fun h => absurd h (nn rfl)))
    have kn_58 : Hid (c_9 41 35 = c 41 35) := (hF_11 41 35 (fun q => q.elim (fun h => absurd h.2 (ni rfl)) (fun q => q.elim (fun h => absurd h (nn rfl)) (fun h => absurd h (nn rfl))))).trans (hid kn_57)
    have h_59 : c_9 41 35 = c 41 35 := (hid kn_58)
    have h_60 : c_9 3 4 = c 3 4 := (hid kn_46)
    exact K P Q c_9 1 (by decide) hI_10 ⟨by omega, ub_fr hU (fun j => (hF_11 2 j (fun q => q.elim (fun h => absurd h.1 (nn rfl)) (fun q => q.elim (fun h => absurd h (nn rfl)) (fun h => absurd h (nn rfl))))).trans (hF_4 2 j (fun q => q.elim (fun h => absurd h.1 (nn rfl)) (fun h => absurd h (nn rfl))))) (fun j => (hF_11 43 j (fun q => q.elim (fun h => absurd h.1 (nn rfl)) (fun q => q.elim (fun h => absurd h (nn rfl)) (fun h => absurd h (nn rfl))))).trans (hF_4 43 j (fun q => q.elim (fun h => absurd h.1 (nn rfl)) (fun h => absurd h (nn rfl))))), ⟨by omega, by omega, by omega, by omega⟩, by omega, by omega, iw_fr2 hIw (by omega) (fun j => (hF_11 6 j (fun q => q.elim (fun h => absurd h.1 (nn rfl)) (fun q => q.elim (fun h => absurd h (nn rfl)) (fun h => absurd h (nn rfl))))).trans (hF_4 6 j (fun q => q.elim (fun h => absurd h.1 (nn rfl)) (fun h => absurd h (nn rfl))))) (fun j => (hF_11 66 j (fun q => q.elim (fun h => absurd h.1 (nn rfl)) (fun q => q.elim (fun h => absurd h (nn rfl)) (fun h => absurd h (nn rfl))))).trans (hF_4 66 j (fun q => q.elim (fun h => absurd h.1 (nn rfl)) (fun h => absurd h (nn rfl)))))⟩
  refine bk_inl (v_i2l rfl (by omega) (v_ls rfl rfl (by decide) (by decide) (by decide) (q_goto (t := 15) rfl rfl (q_iconst rfl (q_iret rfl rfl (bk_inl (q_istore rfl (Nat.le_of_ble_eq_true rfl) ?_)))))))
  refine q_aload_n rfl rfl (q_aload_n rfl rfl (q_iload rfl rfl (q_iconst rfl (v_iadd (v := (i0 : Int) + 1) rfl rfl (v_scr (j := i0 + 1) rfl (by omega) (by omega) hL hx1 ?_)))))
  have hI_61 := iw_lx (a := 67) (j := 0) (v := y_8) hI_6 (by omega)
  refine v_cv rfl rfl rfl rfl (Nat.le_of_ble_eq_true rfl) ⟨⟨rfl, rfl⟩, Nat.le_of_ble_eq_true rfl, rfl⟩ (Nat.le_of_ble_eq_true rfl) (Nat.le_of_ble_eq_true rfl) (s_232 (a1 := x1) hI_61 (show (-2147483648) ≤ x1 ∧ x1 ≤ 2147483647 from ⟨by omega, by omega⟩) (fun c_62 y_65 hI_63 hF_64 hy_65 => (bk_inl (q_istore rfl (Nat.le_of_ble_eq_true rfl) (q_goto (t := 1816) rfl rfl (Wp_ls [(4, vi (i0 : Int)), (3, .ref 67), (2, .ref 41), (1, .ref 0), (0, .ref a_SC)] (lsub_cons rfl (lsub_cons rfl (lsub_cons rfl (lsub_cons rfl (lsub_cons rfl lsub_nil))))) ?_))))))
  have h_66 := ir_1_3 hI
  have kn_67 : Hid (c_5 1 3 = c 1 3) := hF_7 1 3 (fun q => q.elim (fun h => absurd h.1 (nn rfl)) (fun h => absurd h (nn rfl)))
  have kn_68 : Hid (c_62 1 3 = c 1 3) := (hF_64 1 3 (fun q => q.elim (fun h => absurd h.1 (nn rfl)) (fun q => q.elim (fun h => absurd h (nn rfl)) (fun h => absurd h (nn rfl))))).trans ((up_c (nn rfl)).trans (hid kn_67))
  have h_69 : c_62 1 3 = c 1 3 := (hid kn_68)
  have h_70 := ir_41_2 hI
  have kn_71 : Hid (c_5 41 2 = c 41 2) := hF_7 41 2 (fun q => q.elim (fun h => absurd h.1 (nn rfl)) (fun h => absurd h (nn rfl)))
  have kn_72 : Hid (c_62 41 2 = c 41 2) := (hF_64 41 2 (fun q => q.elim (fun h => absurd h.2 (ni rfl)) (fun q => q.elim (fun h => absurd h (nn rfl)) (fun h => absurd h (nn rfl))))).trans ((up_c (nn rfl)).trans (hid kn_71))
  have h_73 : c_62 41 2 = c 41 2 := (hid kn_72)
  have kn_74 : Hid (c_5 P 0 = n0) := (hF_7 P 0 (fun q => q.elim (fun h => absurd h.1 (np0 hP rfl)) (fun h => absurd h (np0 hP rfl)))).trans (hn0)
  have kn_75 : Hid (c_62 P 0 = n0) := (hF_64 P 0 (fun q => q.elim (fun h => absurd h.1 (np0 hP rfl)) (fun q => q.elim (fun h => absurd h (np0 hP rfl)) (fun h => absurd h (np0 hP rfl))))).trans ((up_c (np0 hP rfl)).trans (hid kn_74))
  have h_76 : c_62 P 0 = n0 := (hid kn_75)
  have kn_77 : Hid (c_5 41 20 = n0) := (hF_7 41 20 (fun q => q.elim (fun h => absurd h.1 (nn rfl)) (fun h => absurd h (nn rfl)))).trans (hm0)
  have kn_78 : Hid (c_62 41 20 = n0) := (hF_64 41 20 (fun q => q.elim (fun h => absurd h.2 (ni rfl)) (fun q => q.elim (fun h => absurd h (nn rfl)) (fun h => absurd h (nn rfl))))).trans ((up_c (nn rfl)).trans (hid kn_77))
  have h_79 : c_62 41 20 = n0 := (hid kn_78)
  have kn_80 : Hid (c_5 P 1 = n1) := (hF_7 P 1 (fun q => q.elim (fun h => absurd h.1 (np0 hP rfl)) (fun h => absurd h (np0 hP rfl)))).trans (hn1)
  have kn_81 : Hid (c_62 P 1 = n1) := (hF_64 P 1 (fun q => q.elim (fun h => absurd h.1 (np0 hP rfl)) (fun q => q.elim (fun h => absurd h (np0 hP rfl)) (fun h => absurd h (np0 hP rfl))))).trans ((up_c (np0 hP rfl)).trans (hid kn_80))
  have h_82 : c_62 P 1 = n1 := (hid kn_81)
  have kn_83 : Hid (c_5 41 21 = n1) := (hF_7 41 21 (fun q => q.elim (fun h => absurd h.1 (nn rfl)) (fun h => absurd h (nn rfl)))).trans (hm1)
  have kn_84 : Hid (c_62 41 21 = n1) := (hF_64 41 21 (fun q => q.elim (fun h => absurd h.2 (ni rfl)) (fun q => q.elim (fun h => absurd h (nn rfl)) (fun h => absurd h (nn rfl))))).trans ((up_c (nn rfl)).trans (hid kn_83))
  have h_85 : c_62 41 21 = n1 := (hid kn_84)
  have kn_86 : Hid (c_5 P 2 = n2) := (hF_7 P 2 (fun q => q.elim (fun h => absurd h.1 (np0 hP rfl)) (fun h => absurd h (np0 hP rfl)))).trans (hn2)
  have kn_87 : Hid (c_62 P 2 = n2) := (hF_64 P 2 (fun q => q.elim (fun h => absurd h.1 (np0 hP rfl)) (fun q => q.elim (fun h => absurd h (np0 hP rfl)) (fun h => absurd h (np0 hP rfl))))).trans ((up_c (np0 hP rfl)).trans (hid kn_86))
  have h_88 : c_62 P 2 = n2 := (hid kn_87)
  have kn_89 : Hid (c_5 41 22 = n2) := (hF_7 41 22 (fun q => q.elim (fun h => absurd h.1 (nn rfl)) (fun h => absurd h (nn rfl)))).trans (hm2)
  have kn_90 : Hid (c_62 41 22 = n2) := (hF_64 41 22 (fun q => q.elim (fun h => absurd h.2 (ni rfl)) (fun q => q.elim (fun h => absurd h (nn rfl)) (fun h => absurd h (nn rfl))))).trans ((up_c (nn rfl)).trans (hid kn_89))
  have h_91 : c_62 41 22 = n2 := (hid kn_90)
  have kn_92 : Hid (c_5 P 3 = n3) := (hF_7 P 3 (fun q => q.elim (fun h => absurd h.1 (np0 hP rfl)) (fun h => absurd h (np0 hP rfl)))).trans (hn3)
  have kn_93 : Hid (c_62 P 3 = n3) := (hF_64 P 3 (fun q => q.elim (fun h => absurd h.1 (np0 hP rfl)) (fun q => q.elim (fun h => absurd h (np0 hP rfl)) (fun h => absurd h (np0 hP rfl))))).trans ((up_c (np0 hP rfl)).trans (hid kn_92))
  have h_94 : c_62 P 3 = n3 := (hid kn_93)
  have kn_95 : Hid (c_5 41 23 = n3) := (hF_7 41 23 (fun q => q.elim (fun h => absurd h.1 (nn rfl)) (fun h => absurd h (nn rfl)))).trans (hm3)
  have kn_96 : Hid (c_62 41 23 = n3) := (hF_64 41 23 (fun q => q.elim (fun h => absurd h.2 (ni rfl)) (fun q => q.elim (fun h => absurd h (nn rfl)) (fun h => absurd h (nn rfl))))).trans ((up_c (nn rfl)).trans (hid kn_95))
  have h_97 : c_62 41 23 = n3 := (hid kn_96)
  have kn_98 : Hid (c_5 3 4 = c 3 4) := hF_7 3 4 (fun q => q.elim (fun h => absurd h.1 (nn rfl)) (fun h => absurd h (nn rfl)))
  have kn_99 : Hid (c_62 3 4 = c 3 4) := (hF_64 3 4 (fun q => q.elim (fun h => absurd h.1 (nn rfl)) (fun q => q.elim (fun h => absurd h (nn rfl)) (fun h => absurd h (nn rfl))))).trans ((up_c (nn rfl)).trans (hid kn_98))
  have h_100 : c_62 3 4 = c 3 4 := (hid kn_99)
  have h_101 := ir_41_52 hI
  have kn_102 : Hid (c_5 41 52 = c 41 52) := hF_7 41 52 (fun q => q.elim (fun h => absurd h.1 (nn rfl)) (fun h => absurd h (nn rfl)))
  have kn_103 : Hid (c_62 41 52 = c 41 52) := (hF_64 41 52 (fun q => q.elim (fun h => absurd h.2 (ni rfl)) (fun q => q.elim (fun h => absurd h (nn rfl)) (fun h => absurd h (nn rfl))))).trans ((up_c (nn rfl)).trans (hid kn_102))
  have h_104 : c_62 41 52 = c 41 52 := (hid kn_103)
  have h_105 := ir_3_3 hI
  have kn_106 : Hid (c_5 3 3 = c 3 3) := hF_7 3 3 (fun q => q.elim (fun h => absurd h.1 (nn rfl)) (fun h => absurd h (nn rfl)))
  have kn_107 : Hid (c_62 3 3 = c 3 3) := (hF_64 3 3 (fun q => q.elim (fun h => absurd h.1 (nn rfl)) (fun q => q.elim (fun h => absurd h (nn rfl)) (fun h => absurd h (nn rfl))))).trans ((up_c (nn rfl)).trans (hid kn_106))
  have h_108 : c_62 3 3 = c 3 3 := (hid kn_107)
  have h_109 := ir_41_35 hI
  have kn_110 : Hid (c_5 41 35 = c 41 35) := hF_7 41 35 (fun q => q.elim (fun h => absurd h.1 (nn rfl)) (fun h => absurd h (nn rfl)))
  have kn_111 : Hid (c_62 41 35 = c 41 35) := (hF_64 41 35 (fun q => q.elim (fun h => absurd h.2 (ni rfl)) (fun q => q.elim (fun h => absurd h (nn rfl)) (fun h => absurd h (nn rfl))))).trans ((up_c (nn rfl)).trans (hid kn_110))
  have h_112 : c_62 41 35 = c 41 35 := (hid kn_111)
  have h_113 : c_62 3 4 = c 3 4 := (hid kn_99)
  exact K P Q c_62 0 (by decide) hI_63 ⟨by omega, ub_fr hU (fun j => (hF_64 2 j (fun q => q.elim (fun h => absurd h.1 (nn rfl)) (fun q => q.elim (fun h => absurd h (nn rfl)) (fun h => absurd h (nn rfl))))).trans ((up_c (nn rfl)).trans (hF_7 2 j (fun q => q.elim (fun h => absurd h.1 (nn rfl)) (fun h => absurd h (nn rfl)))))) (fun j => (hF_64 43 j (fun q => q.elim (fun h => absurd h.1 (nn rfl)) (fun q => q.elim (fun h => absurd h (nn rfl)) (fun h => absurd h (nn rfl))))).trans ((up_c (nn rfl)).trans (hF_7 43 j (fun q => q.elim (fun h => absurd h.1 (nn rfl)) (fun h => absurd h (nn rfl)))))), ⟨by omega, by omega, by omega, by omega⟩, by omega, by omega, iw_fr2 hIw (by omega) (fun j => (hF_64 6 j (fun q => q.elim (fun h => absurd h.1 (nn rfl)) (fun q => q.elim (fun h => absurd h (nn rfl)) (fun h => absurd h (nn rfl))))).trans ((up_c (nn rfl)).trans (hF_7 6 j (fun q => q.elim (fun h => absurd h.1 (nn rfl)) (fun h => absurd h (nn rfl)))))) (fun j => (hF_64 66 j (fun q => q.elim (fun h => absurd h.1 (nn rfl)) (fun q => q.elim (fun h => absurd h (nn rfl)) (fun h => absurd h (nn rfl))))).trans ((up_c (nn rfl)).trans (hF_7 66 j (fun q => q.elim (fun h => absurd h.1 (nn rfl)) (fun h => absurd h (nn rfl))))))⟩

set_option maxRecDepth 100000 in
set_option maxHeartbeats 4000000 in
theorem o_22 {xs : Nat → Int32} {L i0 d nc ns P Q : Nat} {c : ME} {Z : AR → Prop} (hi : i0 + 8 ≤ L) (hL : L ≤ 100000) (hI : Iv 0 (-1) P Q c) (hR : Rq P c) (K : ∀ (P2 Q2 : Nat) (c2 : ME) (e : Nat), e ≤ 1 → Iv 0 (-1) P2 Q2 c2 → (Rq P2 c2) → Wp (a_scr L xs) (d + 90) 296 1816 [(4, vi (i0 : Int)), (3, .ref 67), (2, .ref 41), (1, .ref 0), (0, .ref a_SC)] [] (Wd P2 Q2 P2 P2 c2) (nc + e) (ns + 6 * e) Z) : Wp (a_scr L xs) (d + 90) 296 1091 [(4, vi (i0 : Int)), (3, .ref 67), (2, .ref 41), (1, .ref 0), (0, .ref a_SC)] [] (Wd P Q P P c) nc ns Z := by
  obtain ⟨x1, hx1⟩ : ∃ z, (xs (i0 + 1)).toInt = z := ⟨_, rfl⟩
  have x1r := c_rng (xs (i0 + 1))
  rw [hx1] at x1r
  obtain ⟨x2, hx2⟩ : ∃ z, (xs (i0 + 2)).toInt = z := ⟨_, rfl⟩
  have x2r := c_rng (xs (i0 + 2))
  rw [hx2] at x2r
  obtain ⟨x3, hx3⟩ : ∃ z, (xs (i0 + 3)).toInt = z := ⟨_, rfl⟩
  have x3r := c_rng (xs (i0 + 3))
  rw [hx3] at x3r
  obtain ⟨x4, hx4⟩ : ∃ z, (xs (i0 + 4)).toInt = z := ⟨_, rfl⟩
  have x4r := c_rng (xs (i0 + 4))
  rw [hx4] at x4r
  obtain ⟨x5, hx5⟩ : ∃ z, (xs (i0 + 5)).toInt = z := ⟨_, rfl⟩
  have x5r := c_rng (xs (i0 + 5))
  rw [hx5] at x5r
  obtain ⟨x6, hx6⟩ : ∃ z, (xs (i0 + 6)).toInt = z := ⟨_, rfl⟩
  have x6r := c_rng (xs (i0 + 6))
  rw [hx6] at x6r
  obtain ⟨x7, hx7⟩ : ∃ z, (xs (i0 + 7)).toInt = z := ⟨_, rfl⟩
  have x7r := c_rng (xs (i0 + 7))
  rw [hx7] at x7r
  have hT := rl_t hR
  have hU := rl_u hR
  have hP := iv_P hI
  obtain ⟨n0, hn0⟩ : ∃ z, c P 0 = z := ⟨_, rfl⟩
  have hm0 : c 41 20 = n0 := (rl_nums hR).1.symm.trans hn0
  have hr0 := ir_p0_0 hI hP
  rw [hn0] at hr0
  obtain ⟨n1, hn1⟩ : ∃ z, c P 1 = z := ⟨_, rfl⟩
  have hm1 : c 41 21 = n1 := (rl_nums hR).2.1.symm.trans hn1
  have hr1 := ir_p0_1 hI hP
  rw [hn1] at hr1
  obtain ⟨n2, hn2⟩ : ∃ z, c P 2 = z := ⟨_, rfl⟩
  have hm2 : c 41 22 = n2 := (rl_nums hR).2.2.1.symm.trans hn2
  have hr2 := ir_p0_2 hI hP
  rw [hn2] at hr2
  obtain ⟨n3, hn3⟩ : ∃ z, c P 3 = z := ⟨_, rfl⟩
  have hm3 : c 41 23 = n3 := (rl_nums hR).2.2.2.symm.trans hn3
  have hr3 := ir_p0_3 hI hP
  rw [hn3] at hr3
  have hNimg := rl_img hR
  have hNwk := rl_wk hR
  have h_1 := ir_3_4 hI
  have hIw := rl_iw hR
  have hP := iv_P hI
  have hQ := iv_Q hI
  refine q_aload_n rfl rfl (q_aload_n rfl rfl (q_iload rfl rfl (q_iconst rfl (v_iadd (v := (i0 : Int) + 1) rfl rfl (v_scr (j := i0 + 1) rfl (by omega) (by omega) hL hx1 (q_aload_n rfl rfl (q_iload rfl rfl ?_)))))))
  refine q_iconst rfl (v_iadd (v := (i0 : Int) + 2) rfl rfl (v_scr (j := i0 + 2) rfl (by omega) (by omega) hL hx2 (q_aload_n rfl rfl (q_iload rfl rfl (q_iconst rfl (v_iadd (v := (i0 : Int) + 3) rfl rfl (v_scr (j := i0 + 3) rfl (by omega) (by omega) hL hx3 ?_)))))))
  refine q_aload_n rfl rfl (q_iload rfl rfl (q_iconst rfl (v_iadd (v := (i0 : Int) + 4) rfl rfl (v_scr (j := i0 + 4) rfl (by omega) (by omega) hL hx4 (q_aload_n rfl rfl (q_call rfl rfl rfl rfl (q_aload rfl rfl ?_)))))))
  refine q_iconst rfl (q_aload_n rfl rfl (q_iload_n rfl rfl (q_iload_n rfl rfl (q_iload_n rfl rfl (q_iload rfl rfl ?_)))))
  refine v_cv rfl rfl rfl rfl (Nat.le_of_ble_eq_true rfl) ⟨⟨rfl, rfl⟩, Nat.le_of_ble_eq_true rfl, rfl⟩ (Nat.le_of_ble_eq_true rfl) (Nat.le_of_ble_eq_true rfl) (s_134 (a1 := x1) (a2 := x2) (a3 := x3) (a4 := x4) hI (show (-2147483648) ≤ x1 ∧ x1 ≤ 2147483647 from ⟨by omega, by omega⟩) (show (-2147483648) ≤ x2 ∧ x2 ≤ 2147483647 from ⟨by omega, by omega⟩) (show (-2147483648) ≤ x3 ∧ x3 ≤ 2147483647 from ⟨by omega, by omega⟩) (show (-2147483648) ≤ x4 ∧ x4 ≤ 2147483647 from ⟨by omega, by omega⟩) (fun c_2 hI_3 hF_4 => ?_) (fun c_5 y_8 hI_6 hF_7 => ?_))
  · skip
    refine bk_thr (z := Int32.ofInt 1) rfl ⟨_, _, rfl⟩ rfl (bk_inl (q_istore rfl (Nat.le_of_ble_eq_true rfl) (q_aload_n rfl rfl (q_aload_n rfl rfl (q_iload rfl rfl (q_iconst rfl (v_iadd (v := (i0 : Int) + 1) rfl rfl ?_)))))))
    refine v_scr (j := i0 + 1) rfl (by omega) (by omega) hL hx1 (q_aload_n rfl rfl (q_iload rfl rfl (q_iconst rfl (v_iadd (v := (i0 : Int) + 2) rfl rfl (v_scr (j := i0 + 2) rfl (by omega) (by omega) hL hx2 (q_aload_n rfl rfl (q_iload rfl rfl ?_)))))))
    refine q_iconst rfl (v_iadd (v := (i0 : Int) + 3) rfl rfl (v_scr (j := i0 + 3) rfl (by omega) (by omega) hL hx3 (q_aload_n rfl rfl (q_iload rfl rfl (q_iconst rfl (v_iadd (v := (i0 : Int) + 4) rfl rfl (v_scr (j := i0 + 4) rfl (by omega) (by omega) hL hx4 ?_)))))))
    refine v_cv rfl rfl rfl rfl (Nat.le_of_ble_eq_true rfl) ⟨⟨rfl, rfl⟩, Nat.le_of_ble_eq_true rfl, rfl⟩ (Nat.le_of_ble_eq_true rfl) (Nat.le_of_ble_eq_true rfl) (s_234 (a1 := x1) (a2 := x2) (a3 := x3) (a4 := x4) hI_3 (show (-2147483648) ≤ x1 ∧ x1 ≤ 2147483647 from ⟨by omega, by omega⟩) (show (-2147483648) ≤ x2 ∧ x2 ≤ 2147483647 from ⟨by omega, by omega⟩) (show (-2147483648) ≤ x3 ∧ x3 ≤ 2147483647 from ⟨by omega, by omega⟩) (show (-2147483648) ≤ x4 ∧ x4 ≤ 2147483647 from ⟨by omega, by omega⟩) (fun c_9 y_12 hI_10 hF_11 => (bk_inl (q_lstore rfl (by decide) (q_goto (t := 1816) rfl rfl (Wp_ls [(4, vi (i0 : Int)), (3, .ref 67), (2, .ref 41), (1, .ref 0), (0, .ref a_SC)] (lsub_cons rfl (lsub_cons rfl (lsub_cons rfl (lsub_cons rfl (lsub_cons rfl lsub_nil))))) ?_))))))
    have h_13 := ir_1_3 hI
    have kn_14 : Hid (c_2 1 3 = c 1 3) := hF_4 1 3 (fun h => absurd h.1 (nn rfl))
    have kn_15 : Hid (c_9 1 3 = c 1 3) := (hF_11 1 3 (fun q => q.elim (fun h => absurd h.1 (nn rfl)) (fun q => q.elim (fun h => absurd h (nn rfl)) (fun h => absurd h (nn rfl))))).trans (hid kn_14)
    have h_16 : c_9 1 3 = c 1 3 := (hid kn_15)
    have h_17 := ir_41_2 hI
    have kn_18 : Hid (c_2 41 2 = c 41 2) := hF_4 41 2 (fun h => absurd h.1 (nn rfl))
    have kn_19 : Hid (c_9 41 2 = c 41 2) := (hF_11 41 2 (fun q => q.elim (fun h => absurd h.2 (ni rfl)) (fun q => q.elim (fun h => absurd h (nn rfl)) (fun h => absurd h (nn rfl))))).trans (hid kn_18)
    have h_20 : c_9 41 2 = c 41 2 := (hid kn_19)
    have kn_21 : Hid (c_2 P 0 = n0) := (hF_4 P 0 (fun h => absurd h.1 (np0 hP rfl))).trans (hn0)
    have kn_22 : Hid (c_9 P 0 = n0) := (hF_11 P 0 (fun q => q.elim (fun h => absurd h.1 (np0 hP rfl)) (fun q => q.elim (fun h => absurd h (np0 hP rfl)) (fun h => absurd h (np0 hP rfl))))).trans (hid kn_21)
    have h_23 : c_9 P 0 = n0 := (hid kn_22)
    have kn_24 : Hid (c_2 41 20 = n0) := (hF_4 41 20 (fun h => absurd h.1 (nn rfl))).trans (hm0)
    have kn_25 : Hid (c_9 41 20 = n0) := (hF_11 41 20 (fun q => q.elim (fun h => absurd h.2 (ni rfl)) (fun q => q.elim (fun h => absurd h (nn rfl)) (fun h => absurd h (nn rfl))))).trans (hid kn_24)
    have h_26 : c_9 41 20 = n0 := (hid kn_25)
    have kn_27 : Hid (c_2 P 1 = n1) := (hF_4 P 1 (fun h => absurd h.1 (np0 hP rfl))).trans (hn1)
    have kn_28 : Hid (c_9 P 1 = n1) := (hF_11 P 1 (fun q => q.elim (fun h => absurd h.1 (np0 hP rfl)) (fun q => q.elim (fun h => absurd h (np0 hP rfl)) (fun h => absurd h (np0 hP rfl))))).trans (hid kn_27)
    have h_29 : c_9 P 1 = n1 := (hid kn_28)
    have kn_30 : Hid (c_2 41 21 = n1) := (hF_4 41 21 (fun h => absurd h.1 (nn rfl))).trans (hm1)
    have kn_31 : Hid (c_9 41 21 = n1) := (hF_11 41 21 (fun q => q.elim (fun h => absurd h.2 (ni rfl)) (fun q => q.elim (fun h => absurd h (nn rfl)) (fun h => absurd h (nn rfl))))).trans (hid kn_30)
    have h_32 : c_9 41 21 = n1 := (hid kn_31)
    have kn_33 : Hid (c_2 P 2 = n2) := (hF_4 P 2 (fun h => absurd h.1 (np0 hP rfl))).trans (hn2)
    have kn_34 : Hid (c_9 P 2 = n2) := (hF_11 P 2 (fun q => q.elim (fun h => absurd h.1 (np0 hP rfl)) (fun q => q.elim (fun h => absurd h (np0 hP rfl)) (fun h => absurd h (np0 hP rfl))))).trans (hid kn_33)
    have h_35 : c_9 P 2 = n2 := (hid kn_34)
    have kn_36 : Hid (c_2 41 22 = n2) := (hF_4 41 22 (fun h => absurd h.1 (nn rfl))).trans (hm2)
    have kn_37 : Hid (c_9 41 22 = n2) := (hF_11 41 22 (fun q => q.elim (fun h => absurd h.2 (ni rfl)) (fun q => q.elim (fun h => absurd h (nn rfl)) (fun h => absurd h (nn rfl))))).trans (hid kn_36)
    have h_38 : c_9 41 22 = n2 := (hid kn_37)
    have kn_39 : Hid (c_2 P 3 = n3) := (hF_4 P 3 (fun h => absurd h.1 (np0 hP rfl))).trans (hn3)
    have kn_40 : Hid (c_9 P 3 = n3) := (hF_11 P 3 (fun q => q.elim (fun h => absurd h.1 (np0 hP rfl)) (fun q => q.elim (fun h => absurd h (np0 hP rfl)) (fun h => absurd h (np0 hP rfl))))).trans (hid kn_39)
    have h_41 : c_9 P 3 = n3 := (hid kn_40)
    have kn_42 : Hid (c_2 41 23 = n3) := (hF_4 41 23 (fun h => absurd h.1 (nn rfl))).trans (hm3)
    have kn_43 : Hid (c_9 41 23 = n3) := (hF_11 41 23 (fun q => q.elim (fun h => absurd h.2 (ni rfl)) (fun q => q.elim (fun h => absurd h (nn rfl)) (fun h => absurd h (nn rfl))))).trans (hid kn_42)
    have h_44 : c_9 41 23 = n3 := (hid kn_43)
    have kn_45 : Hid (c_2 3 4 = c 3 4) := hF_4 3 4 (fun h => absurd h.1 (nn rfl))
    have kn_46 : Hid (c_9 3 4 = c 3 4) := (hF_11 3 4 (fun q => q.elim (fun h => absurd h.1 (nn rfl)) (fun q => q.elim (fun h => absurd h (nn rfl)) (fun h => absurd h (nn rfl))))).trans (hid kn_45)
    have h_47 : c_9 3 4 = c 3 4 := (hid kn_46)
    have h_48 := ir_41_52 hI
    have kn_49 : Hid (c_2 41 52 = c 41 52) := hF_4 41 52 (fun h => absurd h.1 (nn rfl))
    have kn_50 : Hid (c_9 41 52 = c 41 52) := (hF_11 41 52 (fun q => q.elim (fun h => absurd h.2 (ni rfl)) (fun q => q.elim (fun h => absurd h (nn rfl)) (fun h => absurd h (nn rfl))))).trans (hid kn_49)
    have h_51 : c_9 41 52 = c 41 52 := (hid kn_50)
    have h_52 := ir_3_3 hI
    have kn_53 : Hid (c_2 3 3 = c 3 3) := hF_4 3 3 (fun h => absurd h.1 (nn rfl))
    have kn_54 : Hid (c_9 3 3 = c 3 3) := (hF_11 3 3 (fun q => q.elim (fun h => absurd h.1 (nn rfl)) (fun q => q.elim (fun h => absurd h (nn rfl)) (fun h => absurd h (nn rfl))))).trans (hid kn_53)
    have h_55 : c_9 3 3 = c 3 3 := (hid kn_54)
    have h_56 := ir_41_35 hI
    have kn_57 : Hid (c_2 41 35 = c 41 35) := hF_4 41 35 (fun h => absurd h.1 (nn rfl))
    have kn_58 : Hid (c_9 41 35 = c 41 35) := (hF_11 41 35 (fun q => q.elim (fun h => absurd h.2 (ni rfl)) (fun q => q.elim (fun h => absurd h (nn rfl)) (fun h => absurd h (nn rfl))))).trans (hid kn_57)
    have h_59 : c_9 41 35 = c 41 35 := (hid kn_58)
    have h_60 : c_9 3 4 = c 3 4 := (hid kn_46)
    exact K P Q c_9 1 (by decide) hI_10 ⟨by omega, ub_fr hU (fun j => (hF_11 2 j (fun q => q.elim (fun h => absurd h.1 (nn rfl)) (fun q => q.elim (fun h => absurd h (nn rfl)) (fun h => absurd h (nn rfl))))).trans (hF_4 2 j (fun h => absurd h.1 (nn rfl)))) (fun j => (hF_11 43 j (fun q => q.elim (fun h => absurd h.1 (nn rfl)) (fun q => q.elim (fun h => absurd h (nn rfl)) (fun h => absurd h (nn rfl))))).trans (hF_4 43 j (fun h => absurd h.1 (nn rfl)))), ⟨by omega, by omega, by omega, by omega⟩, by omega, by omega, iw_fr2 hIw (by omega) (fun j => (hF_11 6 j (fun q => q.elim (fun h => absurd h.1 (nn rfl)) (fun q => q.elim (fun h => absurd h (nn rfl)) (fun h => absurd h (nn rfl))))).trans (hF_4 6 j (fun h => absurd h.1 (nn rfl)))) (fun j => (hF_11 66 j (fun q => q.elim (fun h => absurd h.1 (nn rfl)) (fun q => q.elim (fun h => absurd h (nn rfl)) (fun h => absurd h (nn rfl))))).trans (hF_4 66 j (fun h => absurd h.1 (nn rfl))))⟩
  refine bk_inl (v_ls rfl rfl (by decide) (by decide) (by decide) (q_goto (t := 20) rfl rfl (q_iconst rfl (q_iret rfl rfl (bk_inl (q_istore rfl (Nat.le_of_ble_eq_true rfl) (q_aload_n rfl rfl ?_)))))))
  refine q_aload_n rfl rfl (q_iload rfl rfl (q_iconst rfl (v_iadd (v := (i0 : Int) + 1) rfl rfl (v_scr (j := i0 + 1) rfl (by omega) (by omega) hL hx1 (q_aload_n rfl rfl (q_iload rfl rfl (q_iconst rfl ?_)))))))
  refine v_iadd (v := (i0 : Int) + 2) rfl rfl (v_scr (j := i0 + 2) rfl (by omega) (by omega) hL hx2 (q_aload_n rfl rfl (q_iload rfl rfl (q_iconst rfl (v_iadd (v := (i0 : Int) + 3) rfl rfl (v_scr (j := i0 + 3) rfl (by omega) (by omega) hL hx3 (q_aload_n rfl rfl ?_)))))))
  refine q_iload rfl rfl (q_iconst rfl (v_iadd (v := (i0 : Int) + 4) rfl rfl (v_scr (j := i0 + 4) rfl (by omega) (by omega) hL hx4 ?_)))
  have hI_61 := iw_lx (a := 67) (j := 0) (v := y_8) hI_6 (by omega)
  refine v_cv rfl rfl rfl rfl (Nat.le_of_ble_eq_true rfl) ⟨⟨rfl, rfl⟩, Nat.le_of_ble_eq_true rfl, rfl⟩ (Nat.le_of_ble_eq_true rfl) (Nat.le_of_ble_eq_true rfl) (s_234 (a1 := x1) (a2 := x2) (a3 := x3) (a4 := x4) hI_61 (show (-2147483648) ≤ x1 ∧ x1 ≤ 2147483647 from ⟨by omega, by omega⟩) (show (-2147483648) ≤ x2 ∧ x2 ≤ 2147483647 from ⟨by omega, by omega⟩) (show (-2147483648) ≤ x3 ∧ x3 ≤ 2147483647 from ⟨by omega, by omega⟩) (show (-2147483648) ≤ x4 ∧ x4 ≤ 2147483647 from ⟨by omega, by omega⟩) (fun c_62 y_65 hI_63 hF_64 => (bk_inl (q_lstore rfl (by decide) (q_goto (t := 1816) rfl rfl (Wp_ls [(4, vi (i0 : Int)), (3, .ref 67), (2, .ref 41), (1, .ref 0), (0, .ref a_SC)] (lsub_cons rfl (lsub_cons rfl (lsub_cons rfl (lsub_cons rfl (lsub_cons rfl lsub_nil))))) ?_))))))
  have h_66 := ir_1_3 hI
  have kn_67 : Hid (c_5 1 3 = c 1 3) := hF_7 1 3 (fun h => absurd h.1 (nn rfl))
  have kn_68 : Hid (c_62 1 3 = c 1 3) := (hF_64 1 3 (fun q => q.elim (fun h => absurd h.1 (nn rfl)) (fun q => q.elim (fun h => absurd h (nn rfl)) (fun h => absurd h (nn rfl))))).trans ((up_c (nn rfl)).trans (hid kn_67))
  have h_69 : c_62 1 3 = c 1 3 := (hid kn_68)
  have h_70 := ir_41_2 hI
  have kn_71 : Hid (c_5 41 2 = c 41 2) := hF_7 41 2 (fun h => absurd h.1 (nn rfl))
  have kn_72 : Hid (c_62 41 2 = c 41 2) := (hF_64 41 2 (fun q => q.elim (fun h => absurd h.2 (ni rfl)) (fun q => q.elim (fun h => absurd h (nn rfl)) (fun h => absurd h (nn rfl))))).trans ((up_c (nn rfl)).trans (hid kn_71))
  have h_73 : c_62 41 2 = c 41 2 := (hid kn_72)
  have kn_74 : Hid (c_5 P 0 = n0) := (hF_7 P 0 (fun h => absurd h.1 (np0 hP rfl))).trans (hn0)
  have kn_75 : Hid (c_62 P 0 = n0) := (hF_64 P 0 (fun q => q.elim (fun h => absurd h.1 (np0 hP rfl)) (fun q => q.elim (fun h => absurd h (np0 hP rfl)) (fun h => absurd h (np0 hP rfl))))).trans ((up_c (np0 hP rfl)).trans (hid kn_74))
  have h_76 : c_62 P 0 = n0 := (hid kn_75)
  have kn_77 : Hid (c_5 41 20 = n0) := (hF_7 41 20 (fun h => absurd h.1 (nn rfl))).trans (hm0)
  have kn_78 : Hid (c_62 41 20 = n0) := (hF_64 41 20 (fun q => q.elim (fun h => absurd h.2 (ni rfl)) (fun q => q.elim (fun h => absurd h (nn rfl)) (fun h => absurd h (nn rfl))))).trans ((up_c (nn rfl)).trans (hid kn_77))
  have h_79 : c_62 41 20 = n0 := (hid kn_78)
  have kn_80 : Hid (c_5 P 1 = n1) := (hF_7 P 1 (fun h => absurd h.1 (np0 hP rfl))).trans (hn1)
  have kn_81 : Hid (c_62 P 1 = n1) := (hF_64 P 1 (fun q => q.elim (fun h => absurd h.1 (np0 hP rfl)) (fun q => q.elim (fun h => absurd h (np0 hP rfl)) (fun h => absurd h (np0 hP rfl))))).trans ((up_c (np0 hP rfl)).trans (hid kn_80))
  have h_82 : c_62 P 1 = n1 := (hid kn_81)
  have kn_83 : Hid (c_5 41 21 = n1) := (hF_7 41 21 (fun h => absurd h.1 (nn rfl))).trans (hm1)
  have kn_84 : Hid (c_62 41 21 = n1) := (hF_64 41 21 (fun q => q.elim (fun h => absurd h.2 (ni rfl)) (fun q => q.elim (fun h => absurd h (nn rfl)) (fun h => absurd h (nn rfl))))).trans ((up_c (nn rfl)).trans (hid kn_83))
  have h_85 : c_62 41 21 = n1 := (hid kn_84)
  have kn_86 : Hid (c_5 P 2 = n2) := (hF_7 P 2 (fun h => absurd h.1 (np0 hP rfl))).trans (hn2)
  have kn_87 : Hid (c_62 P 2 = n2) := (hF_64 P 2 (fun q => q.elim (fun h => absurd h.1 (np0 hP rfl)) (fun q => q.elim (fun h => absurd h (np0 hP rfl)) (fun h => absurd h (np0 hP rfl))))).trans ((up_c (np0 hP rfl)).trans (hid kn_86))
  have h_88 : c_62 P 2 = n2 := (hid kn_87)
  have kn_89 : Hid (c_5 41 22 = n2) := (hF_7 41 22 (fun h => absurd h.1 (nn rfl))).trans (hm2)
  have kn_90 : Hid (c_62 41 22 = n2) := (hF_64 41 22 (fun q => q.elim (fun h => absurd h.2 (ni rfl)) (fun q => q.elim (fun h => absurd h (nn rfl)) (fun h => absurd h (nn rfl))))).trans ((up_c (nn rfl)).trans (hid kn_89))
  have h_91 : c_62 41 22 = n2 := (hid kn_90)
  have kn_92 : Hid (c_5 P 3 = n3) := (hF_7 P 3 (fun h => absurd h.1 (np0 hP rfl))).trans (hn3)
  have kn_93 : Hid (c_62 P 3 = n3) := (hF_64 P 3 (fun q => q.elim (fun h => absurd h.1 (np0 hP rfl)) (fun q => q.elim (fun h => absurd h (np0 hP rfl)) (fun h => absurd h (np0 hP rfl))))).trans ((up_c (np0 hP rfl)).trans (hid kn_92))
  have h_94 : c_62 P 3 = n3 := (hid kn_93)
  have kn_95 : Hid (c_5 41 23 = n3) := (hF_7 41 23 (fun h => absurd h.1 (nn rfl))).trans (hm3)
  have kn_96 : Hid (c_62 41 23 = n3) := (hF_64 41 23 (fun q => q.elim (fun h => absurd h.2 (ni rfl)) (fun q => q.elim (fun h => absurd h (nn rfl)) (fun h => absurd h (nn rfl))))).trans ((up_c (nn rfl)).trans (hid kn_95))
  have h_97 : c_62 41 23 = n3 := (hid kn_96)
  have kn_98 : Hid (c_5 3 4 = c 3 4) := hF_7 3 4 (fun h => absurd h.1 (nn rfl))
  have kn_99 : Hid (c_62 3 4 = c 3 4) := (hF_64 3 4 (fun q => q.elim (fun h => absurd h.1 (nn rfl)) (fun q => q.elim (fun h => absurd h (nn rfl)) (fun h => absurd h (nn rfl))))).trans ((up_c (nn rfl)).trans (hid kn_98))
  have h_100 : c_62 3 4 = c 3 4 := (hid kn_99)
  have h_101 := ir_41_52 hI
  have kn_102 : Hid (c_5 41 52 = c 41 52) := hF_7 41 52 (fun h => absurd h.1 (nn rfl))
  have kn_103 : Hid (c_62 41 52 = c 41 52) := (hF_64 41 52 (fun q => q.elim (fun h => absurd h.2 (ni rfl)) (fun q => q.elim (fun h => absurd h (nn rfl)) (fun h => absurd h (nn rfl))))).trans ((up_c (nn rfl)).trans (hid kn_102))
  have h_104 : c_62 41 52 = c 41 52 := (hid kn_103)
  have h_105 := ir_3_3 hI
  have kn_106 : Hid (c_5 3 3 = c 3 3) := hF_7 3 3 (fun h => absurd h.1 (nn rfl))
  have kn_107 : Hid (c_62 3 3 = c 3 3) := (hF_64 3 3 (fun q => q.elim (fun h => absurd h.1 (nn rfl)) (fun q => q.elim (fun h => absurd h (nn rfl)) (fun h => absurd h (nn rfl))))).trans ((up_c (nn rfl)).trans (hid kn_106))
  have h_108 : c_62 3 3 = c 3 3 := (hid kn_107)
  have h_109 := ir_41_35 hI
  have kn_110 : Hid (c_5 41 35 = c 41 35) := hF_7 41 35 (fun h => absurd h.1 (nn rfl))
  have kn_111 : Hid (c_62 41 35 = c 41 35) := (hF_64 41 35 (fun q => q.elim (fun h => absurd h.2 (ni rfl)) (fun q => q.elim (fun h => absurd h (nn rfl)) (fun h => absurd h (nn rfl))))).trans ((up_c (nn rfl)).trans (hid kn_110))
  have h_112 : c_62 41 35 = c 41 35 := (hid kn_111)
  have h_113 : c_62 3 4 = c 3 4 := (hid kn_99)
  exact K P Q c_62 0 (by decide) hI_63 ⟨by omega, ub_fr hU (fun j => (hF_64 2 j (fun q => q.elim (fun h => absurd h.1 (nn rfl)) (fun q => q.elim (fun h => absurd h (nn rfl)) (fun h => absurd h (nn rfl))))).trans ((up_c (nn rfl)).trans (hF_7 2 j (fun h => absurd h.1 (nn rfl))))) (fun j => (hF_64 43 j (fun q => q.elim (fun h => absurd h.1 (nn rfl)) (fun q => q.elim (fun h => absurd h (nn rfl)) (fun h => absurd h (nn rfl))))).trans ((up_c (nn rfl)).trans (hF_7 43 j (fun h => absurd h.1 (nn rfl))))), ⟨by omega, by omega, by omega, by omega⟩, by omega, by omega, iw_fr2 hIw (by omega) (fun j => (hF_64 6 j (fun q => q.elim (fun h => absurd h.1 (nn rfl)) (fun q => q.elim (fun h => absurd h (nn rfl)) (fun h => absurd h (nn rfl))))).trans ((up_c (nn rfl)).trans (hF_7 6 j (fun h => absurd h.1 (nn rfl))))) (fun j => (hF_64 66 j (fun q => q.elim (fun h => absurd h.1 (nn rfl)) (fun q => q.elim (fun h => absurd h (nn rfl)) (fun h => absurd h (nn rfl))))).trans ((up_c (nn rfl)).trans (hF_7 66 j (fun h => absurd h.1 (nn rfl)))))⟩

set_option maxRecDepth 100000 in
set_option maxHeartbeats 4000000 in
theorem o_23 {xs : Nat → Int32} {L i0 d nc ns P Q : Nat} {c : ME} {Z : AR → Prop} (hi : i0 + 8 ≤ L) (hL : L ≤ 100000) (hI : Iv 0 (-1) P Q c) (hR : Rq P c) (K : ∀ (P2 Q2 : Nat) (c2 : ME) (e : Nat), e ≤ 1 → Iv 0 (-1) P2 Q2 c2 → (Rq P2 c2) → Wp (a_scr L xs) (d + 90) 296 1816 [(4, vi (i0 : Int)), (3, .ref 67), (2, .ref 41), (1, .ref 0), (0, .ref a_SC)] [] (Wd P2 Q2 P2 P2 c2) (nc + e) (ns + 6 * e) Z) : Wp (a_scr L xs) (d + 90) 296 1155 [(4, vi (i0 : Int)), (3, .ref 67), (2, .ref 41), (1, .ref 0), (0, .ref a_SC)] [] (Wd P Q P P c) nc ns Z := by
  obtain ⟨x1, hx1⟩ : ∃ z, (xs (i0 + 1)).toInt = z := ⟨_, rfl⟩
  have x1r := c_rng (xs (i0 + 1))
  rw [hx1] at x1r
  obtain ⟨x2, hx2⟩ : ∃ z, (xs (i0 + 2)).toInt = z := ⟨_, rfl⟩
  have x2r := c_rng (xs (i0 + 2))
  rw [hx2] at x2r
  obtain ⟨x3, hx3⟩ : ∃ z, (xs (i0 + 3)).toInt = z := ⟨_, rfl⟩
  have x3r := c_rng (xs (i0 + 3))
  rw [hx3] at x3r
  obtain ⟨x4, hx4⟩ : ∃ z, (xs (i0 + 4)).toInt = z := ⟨_, rfl⟩
  have x4r := c_rng (xs (i0 + 4))
  rw [hx4] at x4r
  obtain ⟨x5, hx5⟩ : ∃ z, (xs (i0 + 5)).toInt = z := ⟨_, rfl⟩
  have x5r := c_rng (xs (i0 + 5))
  rw [hx5] at x5r
  obtain ⟨x6, hx6⟩ : ∃ z, (xs (i0 + 6)).toInt = z := ⟨_, rfl⟩
  have x6r := c_rng (xs (i0 + 6))
  rw [hx6] at x6r
  obtain ⟨x7, hx7⟩ : ∃ z, (xs (i0 + 7)).toInt = z := ⟨_, rfl⟩
  have x7r := c_rng (xs (i0 + 7))
  rw [hx7] at x7r
  have hT := rl_t hR
  have hU := rl_u hR
  have hP := iv_P hI
  obtain ⟨n0, hn0⟩ : ∃ z, c P 0 = z := ⟨_, rfl⟩
  have hm0 : c 41 20 = n0 := (rl_nums hR).1.symm.trans hn0
  have hr0 := ir_p0_0 hI hP
  rw [hn0] at hr0
  obtain ⟨n1, hn1⟩ : ∃ z, c P 1 = z := ⟨_, rfl⟩
  have hm1 : c 41 21 = n1 := (rl_nums hR).2.1.symm.trans hn1
  have hr1 := ir_p0_1 hI hP
  rw [hn1] at hr1
  obtain ⟨n2, hn2⟩ : ∃ z, c P 2 = z := ⟨_, rfl⟩
  have hm2 : c 41 22 = n2 := (rl_nums hR).2.2.1.symm.trans hn2
  have hr2 := ir_p0_2 hI hP
  rw [hn2] at hr2
  obtain ⟨n3, hn3⟩ : ∃ z, c P 3 = z := ⟨_, rfl⟩
  have hm3 : c 41 23 = n3 := (rl_nums hR).2.2.2.symm.trans hn3
  have hr3 := ir_p0_3 hI hP
  rw [hn3] at hr3
  have hNimg := rl_img hR
  have hNwk := rl_wk hR
  have h_1 := ir_3_4 hI
  have hIw := rl_iw hR
  have hP := iv_P hI
  have hQ := iv_Q hI
  refine q_aload_n rfl rfl (q_aload_n rfl rfl (q_iload rfl rfl (q_iconst rfl (v_iadd (v := (i0 : Int) + 1) rfl rfl (v_scr (j := i0 + 1) rfl (by omega) (by omega) hL hx1 (q_aload_n rfl rfl (q_iload rfl rfl ?_)))))))
  refine q_iconst rfl (v_iadd (v := (i0 : Int) + 2) rfl rfl (v_scr (j := i0 + 2) rfl (by omega) (by omega) hL hx2 (q_aload_n rfl rfl (q_iload rfl rfl (q_iconst rfl (v_iadd (v := (i0 : Int) + 3) rfl rfl (v_scr (j := i0 + 3) rfl (by omega) (by omega) hL hx3 ?_)))))))
  refine q_aload_n rfl rfl (q_call rfl rfl rfl rfl (q_aload rfl rfl (q_iconst rfl (q_aload_n rfl rfl (q_iload_n rfl rfl (q_iload_n rfl rfl (q_iload_n rfl rfl ?_)))))))
  refine v_cv rfl rfl rfl rfl (Nat.le_of_ble_eq_true rfl) ⟨⟨rfl, rfl⟩, Nat.le_of_ble_eq_true rfl, rfl⟩ (Nat.le_of_ble_eq_true rfl) (Nat.le_of_ble_eq_true rfl) (s_136 (a1 := x1) (a2 := x2) (a3 := x3) hI (show (-2147483648) ≤ x1 ∧ x1 ≤ 2147483647 from ⟨by omega, by omega⟩) (show (-2147483648) ≤ x2 ∧ x2 ≤ 2147483647 from ⟨by omega, by omega⟩) (show (-2147483648) ≤ x3 ∧ x3 ≤ 2147483647 from ⟨by omega, by omega⟩) (fun c_2 hI_3 hF_4 => ?_) (fun c_5 y_8 hI_6 hF_7 hy_8 => ?_))
  · skip
    refine bk_thr (z := Int32.ofInt 1) rfl ⟨_, _, rfl⟩ rfl (bk_inl (q_istore rfl (Nat.le_of_ble_eq_true rfl) (q_aload_n rfl rfl (q_aload_n rfl rfl (q_iload rfl rfl (q_iconst rfl (v_iadd (v := (i0 : Int) + 1) rfl rfl ?_)))))))
    refine v_scr (j := i0 + 1) rfl (by omega) (by omega) hL hx1 (q_aload_n rfl rfl (q_iload rfl rfl (q_iconst rfl (v_iadd (v := (i0 : Int) + 2) rfl rfl (v_scr (j := i0 + 2) rfl (by omega) (by omega) hL hx2 (q_aload_n rfl rfl (q_iload rfl rfl ?_)))))))
    refine q_iconst rfl (v_iadd (v := (i0 : Int) + 3) rfl rfl (v_scr (j := i0 + 3) rfl (by omega) (by omega) hL hx3 (v_cv rfl rfl rfl rfl (Nat.le_of_ble_eq_true rfl) ⟨⟨rfl, rfl⟩, Nat.le_of_ble_eq_true rfl, rfl⟩ (Nat.le_of_ble_eq_true rfl) (Nat.le_of_ble_eq_true rfl) (s_236 (a1 := x1) (a2 := x2) (a3 := x3) hI_3 (show (-2147483648) ≤ x1 ∧ x1 ≤ 2147483647 from ⟨by omega, by omega⟩) (show (-2147483648) ≤ x2 ∧ x2 ≤ 2147483647 from ⟨by omega, by omega⟩) (show (-2147483648) ≤ x3 ∧ x3 ≤ 2147483647 from ⟨by omega, by omega⟩) (fun c_9 y_12 hI_10 hF_11 hy_12 => (bk_inl (q_istore rfl (Nat.le_of_ble_eq_true rfl) (q_goto (t := 1816) rfl rfl (Wp_ls [(4, vi (i0 : Int)), (3, .ref 67), (2, .ref 41), (1, .ref 0), (0, .ref a_SC)] (lsub_cons rfl (lsub_cons rfl (lsub_cons rfl (lsub_cons rfl (lsub_cons rfl lsub_nil))))) ?_)))))))))
    have h_13 := ir_1_3 hI
    have kn_14 : Hid (c_2 1 3 = c 1 3) := hF_4 1 3 (fun h => absurd h.1 (nn rfl))
    have kn_15 : Hid (c_9 1 3 = c 1 3) := (hF_11 1 3 (fun q => q.elim (fun h => absurd h.1 (nn rfl)) (fun h => absurd h (nn rfl)))).trans (hid kn_14)
    have h_16 : c_9 1 3 = c 1 3 := (hid kn_15)
    have h_17 := ir_41_2 hI
    have kn_18 : Hid (c_2 41 2 = c 41 2) := hF_4 41 2 (fun h => absurd h.1 (nn rfl))
    have kn_19 : Hid (c_9 41 2 = c 41 2) := (hF_11 41 2 (fun q => q.elim (fun h => absurd h.2 (ni rfl)) (fun h => absurd h (nn rfl)))).trans (hid kn_18)
    have h_20 : c_9 41 2 = c 41 2 := (hid kn_19)
    have kn_21 : Hid (c_2 P 0 = n0) := (hF_4 P 0 (fun h => absurd h.1 (np0 hP rfl))).trans (hn0)
    have kn_22 : Hid (c_9 P 0 = n0) := (hF_11 P 0 (fun q => q.elim (fun h => absurd h.1 (np0 hP rfl)) (fun h => absurd h (np0 hP rfl)))).trans (hid kn_21)
    have h_23 : c_9 P 0 = n0 := (hid kn_22)
    have kn_24 : Hid (c_2 41 20 = n0) := (hF_4 41 20 (fun h => absurd h.1 (nn rfl))).trans (hm0)
    have kn_25 : Hid (c_9 41 20 = n0) := (hF_11 41 20 (fun q => q.elim (fun h => absurd h.2 (ni rfl)) (fun h => absurd h (nn rfl)))).trans (hid kn_24)
    have h_26 : c_9 41 20 = n0 := (hid kn_25)
    have kn_27 : Hid (c_2 P 1 = n1) := (hF_4 P 1 (fun h => absurd h.1 (np0 hP rfl))).trans (hn1)
    have kn_28 : Hid (c_9 P 1 = n1) := (hF_11 P 1 (fun q => q.elim (fun h => absurd h.1 (np0 hP rfl)) (fun h => absurd h (np0 hP rfl)))).trans (hid kn_27)
    have h_29 : c_9 P 1 = n1 := (hid kn_28)
    have kn_30 : Hid (c_2 41 21 = n1) := (hF_4 41 21 (fun h => absurd h.1 (nn rfl))).trans (hm1)
    have kn_31 : Hid (c_9 41 21 = n1) := (hF_11 41 21 (fun q => q.elim (fun h => absurd h.2 (ni rfl)) (fun h => absurd h (nn rfl)))).trans (hid kn_30)
    have h_32 : c_9 41 21 = n1 := (hid kn_31)
    have kn_33 : Hid (c_2 P 2 = n2) := (hF_4 P 2 (fun h => absurd h.1 (np0 hP rfl))).trans (hn2)
    have kn_34 : Hid (c_9 P 2 = n2) := (hF_11 P 2 (fun q => q.elim (fun h => absurd h.1 (np0 hP rfl)) (fun h => absurd h (np0 hP rfl)))).trans (hid kn_33)
    have h_35 : c_9 P 2 = n2 := (hid kn_34)
    have kn_36 : Hid (c_2 41 22 = n2) := (hF_4 41 22 (fun h => absurd h.1 (nn rfl))).trans (hm2)
    have kn_37 : Hid (c_9 41 22 = n2) := (hF_11 41 22 (fun q => q.elim (fun h => absurd h.2 (ni rfl)) (fun h => absurd h (nn rfl)))).trans (hid kn_36)
    have h_38 : c_9 41 22 = n2 := (hid kn_37)
    have kn_39 : Hid (c_2 P 3 = n3) := (hF_4 P 3 (fun h => absurd h.1 (np0 hP rfl))).trans (hn3)
    have kn_40 : Hid (c_9 P 3 = n3) := (hF_11 P 3 (fun q => q.elim (fun h => absurd h.1 (np0 hP rfl)) (fun h => absurd h (np0 hP rfl)))).trans (hid kn_39)
    have h_41 : c_9 P 3 = n3 := (hid kn_40)
    have kn_42 : Hid (c_2 41 23 = n3) := (hF_4 41 23 (fun h => absurd h.1 (nn rfl))).trans (hm3)
    have kn_43 : Hid (c_9 41 23 = n3) := (hF_11 41 23 (fun q => q.elim (fun h => absurd h.2 (ni rfl)) (fun h => absurd h (nn rfl)))).trans (hid kn_42)
    have h_44 : c_9 41 23 = n3 := (hid kn_43)
    have kn_45 : Hid (c_2 3 4 = c 3 4) := hF_4 3 4 (fun h => absurd h.1 (nn rfl))
    have kn_46 : Hid (c_9 3 4 = c 3 4) := (hF_11 3 4 (fun q => q.elim (fun h => absurd h.1 (nn rfl)) (fun h => absurd h (nn rfl)))).trans (hid kn_45)
    have h_47 : c_9 3 4 = c 3 4 := (hid kn_46)
    have h_48 := ir_41_52 hI
    have kn_49 : Hid (c_2 41 52 = c 41 52) := hF_4 41 52 (fun h => absurd h.1 (nn rfl))
    have kn_50 : Hid (c_9 41 52 = c 41 52) := (hF_11 41 52 (fun q => q.elim (fun h => absurd h.2 (ni rfl)) (fun h => absurd h (nn rfl)))).trans (hid kn_49)
    have h_51 : c_9 41 52 = c 41 52 := (hid kn_50)
    have h_52 := ir_3_3 hI
    have kn_53 : Hid (c_2 3 3 = c 3 3) := hF_4 3 3 (fun h => absurd h.1 (nn rfl))
    have kn_54 : Hid (c_9 3 3 = c 3 3) := (hF_11 3 3 (fun q => q.elim (fun h => absurd h.1 (nn rfl)) (fun h => absurd h (nn rfl)))).trans (hid kn_53)
    have h_55 : c_9 3 3 = c 3 3 := (hid kn_54)
    have h_56 := ir_41_35 hI
    have kn_57 : Hid (c_2 41 35 = c 41 35) := hF_4 41 35 (fun h => absurd h.1 (nn rfl))
    have kn_58 : Hid (c_9 41 35 = c 41 35) := (hF_11 41 35 (fun q => q.elim (fun h => absurd h.2 (ni rfl)) (fun h => absurd h (nn rfl)))).trans (hid kn_57)
    have h_59 : c_9 41 35 = c 41 35 := (hid kn_58)
    have h_60 : c_9 3 4 = c 3 4 := (hid kn_46)
    exact K P Q c_9 1 (by decide) hI_10 ⟨by omega, ub_fr hU (fun j => (hF_11 2 j (fun q => q.elim (fun h => absurd h.1 (nn rfl)) (fun h => absurd h (nn rfl)))).trans (hF_4 2 j (fun h => absurd h.1 (nn rfl)))) (fun j => (hF_11 43 j (fun q => q.elim (fun h => absurd h.1 (nn rfl)) (fun h => absurd h (nn rfl)))).trans (hF_4 43 j (fun h => absurd h.1 (nn rfl)))), ⟨by omega, by omega, by omega, by omega⟩, by omega, by omega, iw_fr2 hIw (by omega) (fun j => (hF_11 6 j (fun q => q.elim (fun h => absurd h.1 (nn rfl)) (fun h => absurd h (nn rfl)))).trans (hF_4 6 j (fun h => absurd h.1 (nn rfl)))) (fun j => (hF_11 66 j (fun q => q.elim (fun h => absurd h.1 (nn rfl)) (fun h => absurd h (nn rfl)))).trans (hF_4 66 j (fun h => absurd h.1 (nn rfl))))⟩
  refine bk_inl (v_i2l rfl (by omega) (v_ls rfl rfl (by decide) (by decide) (by decide) (q_goto (t := 19) rfl rfl (q_iconst rfl (q_iret rfl rfl (bk_inl (q_istore rfl (Nat.le_of_ble_eq_true rfl) ?_)))))))
  refine q_aload_n rfl rfl (q_aload_n rfl rfl (q_iload rfl rfl (q_iconst rfl (v_iadd (v := (i0 : Int) + 1) rfl rfl (v_scr (j := i0 + 1) rfl (by omega) (by omega) hL hx1 (q_aload_n rfl rfl (q_iload rfl rfl ?_)))))))
  refine q_iconst rfl (v_iadd (v := (i0 : Int) + 2) rfl rfl (v_scr (j := i0 + 2) rfl (by omega) (by omega) hL hx2 (q_aload_n rfl rfl (q_iload rfl rfl (q_iconst rfl (v_iadd (v := (i0 : Int) + 3) rfl rfl (v_scr (j := i0 + 3) rfl (by omega) (by omega) hL hx3 ?_)))))))
  have hI_61 := iw_lx (a := 67) (j := 0) (v := y_8) hI_6 (by omega)
  refine v_cv rfl rfl rfl rfl (Nat.le_of_ble_eq_true rfl) ⟨⟨rfl, rfl⟩, Nat.le_of_ble_eq_true rfl, rfl⟩ (Nat.le_of_ble_eq_true rfl) (Nat.le_of_ble_eq_true rfl) (s_236 (a1 := x1) (a2 := x2) (a3 := x3) hI_61 (show (-2147483648) ≤ x1 ∧ x1 ≤ 2147483647 from ⟨by omega, by omega⟩) (show (-2147483648) ≤ x2 ∧ x2 ≤ 2147483647 from ⟨by omega, by omega⟩) (show (-2147483648) ≤ x3 ∧ x3 ≤ 2147483647 from ⟨by omega, by omega⟩) (fun c_62 y_65 hI_63 hF_64 hy_65 => (bk_inl (q_istore rfl (Nat.le_of_ble_eq_true rfl) (q_goto (t := 1816) rfl rfl (Wp_ls [(4, vi (i0 : Int)), (3, .ref 67), (2, .ref 41), (1, .ref 0), (0, .ref a_SC)] (lsub_cons rfl (lsub_cons rfl (lsub_cons rfl (lsub_cons rfl (lsub_cons rfl lsub_nil))))) ?_))))))
  have h_66 := ir_1_3 hI
  have kn_67 : Hid (c_5 1 3 = c 1 3) := hF_7 1 3 (fun h => absurd h.1 (nn rfl))
  have kn_68 : Hid (c_62 1 3 = c 1 3) := (hF_64 1 3 (fun q => q.elim (fun h => absurd h.1 (nn rfl)) (fun h => absurd h (nn rfl)))).trans ((up_c (nn rfl)).trans (hid kn_67))
  have h_69 : c_62 1 3 = c 1 3 := (hid kn_68)
  have h_70 := ir_41_2 hI
  have kn_71 : Hid (c_5 41 2 = c 41 2) := hF_7 41 2 (fun h => absurd h.1 (nn rfl))
  have kn_72 : Hid (c_62 41 2 = c 41 2) := (hF_64 41 2 (fun q => q.elim (fun h => absurd h.2 (ni rfl)) (fun h => absurd h (nn rfl)))).trans ((up_c (nn rfl)).trans (hid kn_71))
  have h_73 : c_62 41 2 = c 41 2 := (hid kn_72)
  have kn_74 : Hid (c_5 P 0 = n0) := (hF_7 P 0 (fun h => absurd h.1 (np0 hP rfl))).trans (hn0)
  have kn_75 : Hid (c_62 P 0 = n0) := (hF_64 P 0 (fun q => q.elim (fun h => absurd h.1 (np0 hP rfl)) (fun h => absurd h (np0 hP rfl)))).trans ((up_c (np0 hP rfl)).trans (hid kn_74))
  have h_76 : c_62 P 0 = n0 := (hid kn_75)
  have kn_77 : Hid (c_5 41 20 = n0) := (hF_7 41 20 (fun h => absurd h.1 (nn rfl))).trans (hm0)
  have kn_78 : Hid (c_62 41 20 = n0) := (hF_64 41 20 (fun q => q.elim (fun h => absurd h.2 (ni rfl)) (fun h => absurd h (nn rfl)))).trans ((up_c (nn rfl)).trans (hid kn_77))
  have h_79 : c_62 41 20 = n0 := (hid kn_78)
  have kn_80 : Hid (c_5 P 1 = n1) := (hF_7 P 1 (fun h => absurd h.1 (np0 hP rfl))).trans (hn1)
  have kn_81 : Hid (c_62 P 1 = n1) := (hF_64 P 1 (fun q => q.elim (fun h => absurd h.1 (np0 hP rfl)) (fun h => absurd h (np0 hP rfl)))).trans ((up_c (np0 hP rfl)).trans (hid kn_80))
  have h_82 : c_62 P 1 = n1 := (hid kn_81)
  have kn_83 : Hid (c_5 41 21 = n1) := (hF_7 41 21 (fun h => absurd h.1 (nn rfl))).trans (hm1)
  have kn_84 : Hid (c_62 41 21 = n1) := (hF_64 41 21 (fun q => q.elim (fun h => absurd h.2 (ni rfl)) (fun h => absurd h (nn rfl)))).trans ((up_c (nn rfl)).trans (hid kn_83))
  have h_85 : c_62 41 21 = n1 := (hid kn_84)
  have kn_86 : Hid (c_5 P 2 = n2) := (hF_7 P 2 (fun h => absurd h.1 (np0 hP rfl))).trans (hn2)
  have kn_87 : Hid (c_62 P 2 = n2) := (hF_64 P 2 (fun q => q.elim (fun h => absurd h.1 (np0 hP rfl)) (fun h => absurd h (np0 hP rfl)))).trans ((up_c (np0 hP rfl)).trans (hid kn_86))
  have h_88 : c_62 P 2 = n2 := (hid kn_87)
  have kn_89 : Hid (c_5 41 22 = n2) := (hF_7 41 22 (fun h => absurd h.1 (nn rfl))).trans (hm2)
  have kn_90 : Hid (c_62 41 22 = n2) := (hF_64 41 22 (fun q => q.elim (fun h => absurd h.2 (ni rfl)) (fun h => absurd h (nn rfl)))).trans ((up_c (nn rfl)).trans (hid kn_89))
  have h_91 : c_62 41 22 = n2 := (hid kn_90)
  have kn_92 : Hid (c_5 P 3 = n3) := (hF_7 P 3 (fun h => absurd h.1 (np0 hP rfl))).trans (hn3)
  have kn_93 : Hid (c_62 P 3 = n3) := (hF_64 P 3 (fun q => q.elim (fun h => absurd h.1 (np0 hP rfl)) (fun h => absurd h (np0 hP rfl)))).trans ((up_c (np0 hP rfl)).trans (hid kn_92))
  have h_94 : c_62 P 3 = n3 := (hid kn_93)
  have kn_95 : Hid (c_5 41 23 = n3) := (hF_7 41 23 (fun h => absurd h.1 (nn rfl))).trans (hm3)
  have kn_96 : Hid (c_62 41 23 = n3) := (hF_64 41 23 (fun q => q.elim (fun h => absurd h.2 (ni rfl)) (fun h => absurd h (nn rfl)))).trans ((up_c (nn rfl)).trans (hid kn_95))
  have h_97 : c_62 41 23 = n3 := (hid kn_96)
  have kn_98 : Hid (c_5 3 4 = c 3 4) := hF_7 3 4 (fun h => absurd h.1 (nn rfl))
  have kn_99 : Hid (c_62 3 4 = c 3 4) := (hF_64 3 4 (fun q => q.elim (fun h => absurd h.1 (nn rfl)) (fun h => absurd h (nn rfl)))).trans ((up_c (nn rfl)).trans (hid kn_98))
  have h_100 : c_62 3 4 = c 3 4 := (hid kn_99)
  have h_101 := ir_41_52 hI
  have kn_102 : Hid (c_5 41 52 = c 41 52) := hF_7 41 52 (fun h => absurd h.1 (nn rfl))
  have kn_103 : Hid (c_62 41 52 = c 41 52) := (hF_64 41 52 (fun q => q.elim (fun h => absurd h.2 (ni rfl)) (fun h => absurd h (nn rfl)))).trans ((up_c (nn rfl)).trans (hid kn_102))
  have h_104 : c_62 41 52 = c 41 52 := (hid kn_103)
  have h_105 := ir_3_3 hI
  have kn_106 : Hid (c_5 3 3 = c 3 3) := hF_7 3 3 (fun h => absurd h.1 (nn rfl))
  have kn_107 : Hid (c_62 3 3 = c 3 3) := (hF_64 3 3 (fun q => q.elim (fun h => absurd h.1 (nn rfl)) (fun h => absurd h (nn rfl)))).trans ((up_c (nn rfl)).trans (hid kn_106))
  have h_108 : c_62 3 3 = c 3 3 := (hid kn_107)
  have h_109 := ir_41_35 hI
  have kn_110 : Hid (c_5 41 35 = c 41 35) := hF_7 41 35 (fun h => absurd h.1 (nn rfl))
  have kn_111 : Hid (c_62 41 35 = c 41 35) := (hF_64 41 35 (fun q => q.elim (fun h => absurd h.2 (ni rfl)) (fun h => absurd h (nn rfl)))).trans ((up_c (nn rfl)).trans (hid kn_110))
  have h_112 : c_62 41 35 = c 41 35 := (hid kn_111)
  have h_113 : c_62 3 4 = c 3 4 := (hid kn_99)
  exact K P Q c_62 0 (by decide) hI_63 ⟨by omega, ub_fr hU (fun j => (hF_64 2 j (fun q => q.elim (fun h => absurd h.1 (nn rfl)) (fun h => absurd h (nn rfl)))).trans ((up_c (nn rfl)).trans (hF_7 2 j (fun h => absurd h.1 (nn rfl))))) (fun j => (hF_64 43 j (fun q => q.elim (fun h => absurd h.1 (nn rfl)) (fun h => absurd h (nn rfl)))).trans ((up_c (nn rfl)).trans (hF_7 43 j (fun h => absurd h.1 (nn rfl))))), ⟨by omega, by omega, by omega, by omega⟩, by omega, by omega, iw_fr2 hIw (by omega) (fun j => (hF_64 6 j (fun q => q.elim (fun h => absurd h.1 (nn rfl)) (fun h => absurd h (nn rfl)))).trans ((up_c (nn rfl)).trans (hF_7 6 j (fun h => absurd h.1 (nn rfl))))) (fun j => (hF_64 66 j (fun q => q.elim (fun h => absurd h.1 (nn rfl)) (fun h => absurd h (nn rfl)))).trans ((up_c (nn rfl)).trans (hF_7 66 j (fun h => absurd h.1 (nn rfl)))))⟩

set_option maxRecDepth 100000 in
set_option maxHeartbeats 4000000 in
theorem o_24 {xs : Nat → Int32} {L i0 d nc ns P Q : Nat} {c : ME} {Z : AR → Prop} (hi : i0 + 8 ≤ L) (hL : L ≤ 100000) (hI : Iv 0 (-1) P Q c) (hR : Rq P c) (K : ∀ (P2 Q2 : Nat) (c2 : ME) (e : Nat), e ≤ 1 → Iv 0 (-1) P2 Q2 c2 → (Rq P2 c2) → Wp (a_scr L xs) (d + 90) 296 1816 [(4, vi (i0 : Int)), (3, .ref 67), (2, .ref 41), (1, .ref 0), (0, .ref a_SC)] [] (Wd P2 Q2 P2 P2 c2) (nc + e) (ns + 6 * e) Z) : Wp (a_scr L xs) (d + 90) 296 1207 [(4, vi (i0 : Int)), (3, .ref 67), (2, .ref 41), (1, .ref 0), (0, .ref a_SC)] [] (Wd P Q P P c) nc ns Z := by
  obtain ⟨x1, hx1⟩ : ∃ z, (xs (i0 + 1)).toInt = z := ⟨_, rfl⟩
  have x1r := c_rng (xs (i0 + 1))
  rw [hx1] at x1r
  obtain ⟨x2, hx2⟩ : ∃ z, (xs (i0 + 2)).toInt = z := ⟨_, rfl⟩
  have x2r := c_rng (xs (i0 + 2))
  rw [hx2] at x2r
  obtain ⟨x3, hx3⟩ : ∃ z, (xs (i0 + 3)).toInt = z := ⟨_, rfl⟩
  have x3r := c_rng (xs (i0 + 3))
  rw [hx3] at x3r
  obtain ⟨x4, hx4⟩ : ∃ z, (xs (i0 + 4)).toInt = z := ⟨_, rfl⟩
  have x4r := c_rng (xs (i0 + 4))
  rw [hx4] at x4r
  obtain ⟨x5, hx5⟩ : ∃ z, (xs (i0 + 5)).toInt = z := ⟨_, rfl⟩
  have x5r := c_rng (xs (i0 + 5))
  rw [hx5] at x5r
  obtain ⟨x6, hx6⟩ : ∃ z, (xs (i0 + 6)).toInt = z := ⟨_, rfl⟩
  have x6r := c_rng (xs (i0 + 6))
  rw [hx6] at x6r
  obtain ⟨x7, hx7⟩ : ∃ z, (xs (i0 + 7)).toInt = z := ⟨_, rfl⟩
  have x7r := c_rng (xs (i0 + 7))
  rw [hx7] at x7r
  have hT := rl_t hR
  have hU := rl_u hR
  have hP := iv_P hI
  obtain ⟨n0, hn0⟩ : ∃ z, c P 0 = z := ⟨_, rfl⟩
  have hm0 : c 41 20 = n0 := (rl_nums hR).1.symm.trans hn0
  have hr0 := ir_p0_0 hI hP
  rw [hn0] at hr0
  obtain ⟨n1, hn1⟩ : ∃ z, c P 1 = z := ⟨_, rfl⟩
  have hm1 : c 41 21 = n1 := (rl_nums hR).2.1.symm.trans hn1
  have hr1 := ir_p0_1 hI hP
  rw [hn1] at hr1
  obtain ⟨n2, hn2⟩ : ∃ z, c P 2 = z := ⟨_, rfl⟩
  have hm2 : c 41 22 = n2 := (rl_nums hR).2.2.1.symm.trans hn2
  have hr2 := ir_p0_2 hI hP
  rw [hn2] at hr2
  obtain ⟨n3, hn3⟩ : ∃ z, c P 3 = z := ⟨_, rfl⟩
  have hm3 : c 41 23 = n3 := (rl_nums hR).2.2.2.symm.trans hn3
  have hr3 := ir_p0_3 hI hP
  rw [hn3] at hr3
  have hNimg := rl_img hR
  have hNwk := rl_wk hR
  have h_1 := ir_3_4 hI
  have hIw := rl_iw hR
  have hP := iv_P hI
  have hQ := iv_Q hI
  refine q_aload_n rfl rfl (q_aload_n rfl rfl (q_iload rfl rfl (q_iconst rfl (v_iadd (v := (i0 : Int) + 1) rfl rfl (v_scr (j := i0 + 1) rfl (by omega) (by omega) hL hx1 (q_aload_n rfl rfl (q_iload rfl rfl ?_)))))))
  refine q_iconst rfl (v_iadd (v := (i0 : Int) + 2) rfl rfl (v_scr (j := i0 + 2) rfl (by omega) (by omega) hL hx2 (q_aload_n rfl rfl (q_iload rfl rfl (q_iconst rfl (v_iadd (v := (i0 : Int) + 3) rfl rfl (v_scr (j := i0 + 3) rfl (by omega) (by omega) hL hx3 ?_)))))))
  refine q_aload_n rfl rfl (q_call rfl rfl rfl rfl (q_aload rfl rfl (q_iconst rfl (q_aload_n rfl rfl (q_iload_n rfl rfl (q_iload_n rfl rfl (q_iload_n rfl rfl ?_)))))))
  refine v_cv rfl rfl rfl rfl (Nat.le_of_ble_eq_true rfl) ⟨⟨rfl, rfl⟩, Nat.le_of_ble_eq_true rfl, rfl⟩ (Nat.le_of_ble_eq_true rfl) (Nat.le_of_ble_eq_true rfl) (s_125 (a1 := x1) (a2 := x2) (a3 := x3) hI (show (-2147483648) ≤ x1 ∧ x1 ≤ 2147483647 from ⟨by omega, by omega⟩) (show (-2147483648) ≤ x2 ∧ x2 ≤ 2147483647 from ⟨by omega, by omega⟩) (show (-2147483648) ≤ x3 ∧ x3 ≤ 2147483647 from ⟨by omega, by omega⟩) (fun c_2 hI_3 hF_4 => ?_) (fun c_5 hI_6 hF_7 => ?_) (fun c_8 y_11 hI_9 hF_10 hy_11 => ?_))
  · skip
    refine bk_thr (z := Int32.ofInt 1) rfl ⟨_, _, rfl⟩ rfl (bk_inl (q_istore rfl (Nat.le_of_ble_eq_true rfl) (q_aload_n rfl rfl (q_aload_n rfl rfl (q_iload rfl rfl (q_iconst rfl (v_iadd (v := (i0 : Int) + 1) rfl rfl ?_)))))))
    refine v_scr (j := i0 + 1) rfl (by omega) (by omega) hL hx1 (q_aload_n rfl rfl (q_iload rfl rfl (q_iconst rfl (v_iadd (v := (i0 : Int) + 2) rfl rfl (v_scr (j := i0 + 2) rfl (by omega) (by omega) hL hx2 (q_aload_n rfl rfl (q_iload rfl rfl ?_)))))))
    refine q_iconst rfl (v_iadd (v := (i0 : Int) + 3) rfl rfl (v_scr (j := i0 + 3) rfl (by omega) (by omega) hL hx3 (v_cv rfl rfl rfl rfl (Nat.le_of_ble_eq_true rfl) ⟨⟨rfl, rfl⟩, Nat.le_of_ble_eq_true rfl, rfl⟩ (Nat.le_of_ble_eq_true rfl) (Nat.le_of_ble_eq_true rfl) (s_239 (a1 := x1) (a2 := x2) (a3 := x3) hI_3 (show (-2147483648) ≤ x1 ∧ x1 ≤ 2147483647 from ⟨by omega, by omega⟩) (show (-2147483648) ≤ x2 ∧ x2 ≤ 2147483647 from ⟨by omega, by omega⟩) (show (-2147483648) ≤ x3 ∧ x3 ≤ 2147483647 from ⟨by omega, by omega⟩) (fun c_12 y_15 hI_13 hF_14 hy_15 => (bk_inl (q_istore rfl (Nat.le_of_ble_eq_true rfl) (q_goto (t := 1816) rfl rfl (Wp_ls [(4, vi (i0 : Int)), (3, .ref 67), (2, .ref 41), (1, .ref 0), (0, .ref a_SC)] (lsub_cons rfl (lsub_cons rfl (lsub_cons rfl (lsub_cons rfl (lsub_cons rfl lsub_nil))))) ?_)))))))))
    have h_16 := ir_1_3 hI
    have kn_17 : Hid (c_2 1 3 = c 1 3) := hF_4 1 3 (fun q => q.elim (fun h => absurd h.1 (nn rfl)) (fun h => absurd h.1 (nn rfl)))
    have kn_18 : Hid (c_12 1 3 = c 1 3) := (hF_14 1 3 (fun q => q.elim (fun h => absurd h.1 (nn rfl)) (fun q => q.elim (fun h => absurd h (nn rfl)) (fun h => absurd h (nn rfl))))).trans (hid kn_17)
    have h_19 : c_12 1 3 = c 1 3 := (hid kn_18)
    have h_20 := ir_41_2 hI
    have kn_21 : Hid (c_2 41 2 = c 41 2) := hF_4 41 2 (fun q => q.elim (fun h => absurd h.1 (nn rfl)) (fun h => absurd h.1 (nn rfl)))
    have kn_22 : Hid (c_12 41 2 = c 41 2) := (hF_14 41 2 (fun q => q.elim (fun h => absurd h.2 (ni rfl)) (fun q => q.elim (fun h => absurd h (nn rfl)) (fun h => absurd h (nn rfl))))).trans (hid kn_21)
    have h_23 : c_12 41 2 = c 41 2 := (hid kn_22)
    have kn_24 : Hid (c_2 P 0 = n0) := (hF_4 P 0 (fun q => q.elim (fun h => absurd h.1 (np0 hP rfl)) (fun h => absurd h.1 (np0 hP rfl)))).trans (hn0)
    have kn_25 : Hid (c_12 P 0 = n0) := (hF_14 P 0 (fun q => q.elim (fun h => absurd h.1 (np0 hP rfl)) (fun q => q.elim (fun h => absurd h (np0 hP rfl)) (fun h => absurd h (np0 hP rfl))))).trans (hid kn_24)
    have h_26 : c_12 P 0 = n0 := (hid kn_25)
    have kn_27 : Hid (c_2 41 20 = n0) := (hF_4 41 20 (fun q => q.elim (fun h => absurd h.1 (nn rfl)) (fun h => absurd h.1 (nn rfl)))).trans (hm0)
    have kn_28 : Hid (c_12 41 20 = n0) := (hF_14 41 20 (fun q => q.elim (fun h => absurd h.2 (ni rfl)) (fun q => q.elim (fun h => absurd h (nn rfl)) (fun h => absurd h (nn rfl))))).trans (hid kn_27)
    have h_29 : c_12 41 20 = n0 := (hid kn_28)
    have kn_30 : Hid (c_2 P 1 = n1) := (hF_4 P 1 (fun q => q.elim (fun h => absurd h.1 (np0 hP rfl)) (fun h => absurd h.1 (np0 hP rfl)))).trans (hn1)
    have kn_31 : Hid (c_12 P 1 = n1) := (hF_14 P 1 (fun q => q.elim (fun h => absurd h.1 (np0 hP rfl)) (fun q => q.elim (fun h => absurd h (np0 hP rfl)) (fun h => absurd h (np0 hP rfl))))).trans (hid kn_30)
    have h_32 : c_12 P 1 = n1 := (hid kn_31)
    have kn_33 : Hid (c_2 41 21 = n1) := (hF_4 41 21 (fun q => q.elim (fun h => absurd h.1 (nn rfl)) (fun h => absurd h.1 (nn rfl)))).trans (hm1)
    have kn_34 : Hid (c_12 41 21 = n1) := (hF_14 41 21 (fun q => q.elim (fun h => absurd h.2 (ni rfl)) (fun q => q.elim (fun h => absurd h (nn rfl)) (fun h => absurd h (nn rfl))))).trans (hid kn_33)
    have h_35 : c_12 41 21 = n1 := (hid kn_34)
    have kn_36 : Hid (c_2 P 2 = n2) := (hF_4 P 2 (fun q => q.elim (fun h => absurd h.1 (np0 hP rfl)) (fun h => absurd h.1 (np0 hP rfl)))).trans (hn2)
    have kn_37 : Hid (c_12 P 2 = n2) := (hF_14 P 2 (fun q => q.elim (fun h => absurd h.1 (np0 hP rfl)) (fun q => q.elim (fun h => absurd h (np0 hP rfl)) (fun h => absurd h (np0 hP rfl))))).trans (hid kn_36)
    have h_38 : c_12 P 2 = n2 := (hid kn_37)
    have kn_39 : Hid (c_2 41 22 = n2) := (hF_4 41 22 (fun q => q.elim (fun h => absurd h.1 (nn rfl)) (fun h => absurd h.1 (nn rfl)))).trans (hm2)
    have kn_40 : Hid (c_12 41 22 = n2) := (hF_14 41 22 (fun q => q.elim (fun h => absurd h.2 (ni rfl)) (fun q => q.elim (fun h => absurd h (nn rfl)) (fun h => absurd h (nn rfl))))).trans (hid kn_39)
    have h_41 : c_12 41 22 = n2 := (hid kn_40)
    have kn_42 : Hid (c_2 P 3 = n3) := (hF_4 P 3 (fun q => q.elim (fun h => absurd h.1 (np0 hP rfl)) (fun h => absurd h.1 (np0 hP rfl)))).trans (hn3)
    have kn_43 : Hid (c_12 P 3 = n3) := (hF_14 P 3 (fun q => q.elim (fun h => absurd h.1 (np0 hP rfl)) (fun q => q.elim (fun h => absurd h (np0 hP rfl)) (fun h => absurd h (np0 hP rfl))))).trans (hid kn_42)
    have h_44 : c_12 P 3 = n3 := (hid kn_43)
    have kn_45 : Hid (c_2 41 23 = n3) := (hF_4 41 23 (fun q => q.elim (fun h => absurd h.1 (nn rfl)) (fun h => absurd h.1 (nn rfl)))).trans (hm3)
    have kn_46 : Hid (c_12 41 23 = n3) := (hF_14 41 23 (fun q => q.elim (fun h => absurd h.2 (ni rfl)) (fun q => q.elim (fun h => absurd h (nn rfl)) (fun h => absurd h (nn rfl))))).trans (hid kn_45)
    have h_47 : c_12 41 23 = n3 := (hid kn_46)
    have kn_48 : Hid (c_2 3 4 = c 3 4) := hF_4 3 4 (fun q => q.elim (fun h => absurd h.1 (nn rfl)) (fun h => absurd h.1 (nn rfl)))
    have kn_49 : Hid (c_12 3 4 = c 3 4) := (hF_14 3 4 (fun q => q.elim (fun h => absurd h.1 (nn rfl)) (fun q => q.elim (fun h => absurd h (nn rfl)) (fun h => absurd h (nn rfl))))).trans (hid kn_48)
    have h_50 : c_12 3 4 = c 3 4 := (hid kn_49)
    have h_51 := ir_41_52 hI
    have kn_52 : Hid (c_2 41 52 = c 41 52) := hF_4 41 52 (fun q => q.elim (fun h => absurd h.1 (nn rfl)) (fun h => absurd h.1 (nn rfl)))
    have kn_53 : Hid (c_12 41 52 = c 41 52) := (hF_14 41 52 (fun q => q.elim (fun h => absurd h.2 (ni rfl)) (fun q => q.elim (fun h => absurd h (nn rfl)) (fun h => absurd h (nn rfl))))).trans (hid kn_52)
    have h_54 : c_12 41 52 = c 41 52 := (hid kn_53)
    have h_55 := ir_3_3 hI
    have kn_56 : Hid (c_2 3 3 = c 3 3) := hF_4 3 3 (fun q => q.elim (fun h => absurd h.1 (nn rfl)) (fun h => absurd h.1 (nn rfl)))
    have kn_57 : Hid (c_12 3 3 = c 3 3) := (hF_14 3 3 (fun q => q.elim (fun h => absurd h.1 (nn rfl)) (fun q => q.elim (fun h => absurd h (nn rfl)) (fun h => absurd h (nn rfl))))).trans (hid kn_56)
    have h_58 : c_12 3 3 = c 3 3 := (hid kn_57)
    have h_59 := ir_41_35 hI
    have kn_60 : Hid (c_2 41 35 = c 41 35) := hF_4 41 35 (fun q => q.elim (fun h => absurd h.1 (nn rfl)) (fun h => absurd h.1 (nn rfl)))
    have kn_61 : Hid (c_12 41 35 = c 41 35) := (hF_14 41 35 (fun q => q.elim (fun h => absurd h.2 (ni rfl)) (fun q => q.elim (fun h => absurd h (nn rfl)) (fun h => absurd h (nn rfl))))).trans (hid kn_60)
    have h_62 : c_12 41 35 = c 41 35 := (hid kn_61)
    have h_63 : c_12 3 4 = c 3 4 := (hid kn_49)
    exact K P Q c_12 1 (by decide) hI_13 ⟨by omega, ub_fr hU (fun j => (hF_14 2 j (fun q => q.elim (fun h => absurd h.1 (nn rfl)) (fun q => q.elim (fun h => absurd h (nn rfl)) (fun h => absurd h (nn rfl))))).trans (hF_4 2 j (fun q => q.elim (fun h => absurd h.1 (nn rfl)) (fun h => absurd h.1 (nn rfl))))) (fun j => (hF_14 43 j (fun q => q.elim (fun h => absurd h.1 (nn rfl)) (fun q => q.elim (fun h => absurd h (nn rfl)) (fun h => absurd h (nn rfl))))).trans (hF_4 43 j (fun q => q.elim (fun h => absurd h.1 (nn rfl)) (fun h => absurd h.1 (nn rfl))))), ⟨by omega, by omega, by omega, by omega⟩, by omega, by omega, iw_fr2 hIw (by omega) (fun j => (hF_14 6 j (fun q => q.elim (fun h => absurd h.1 (nn rfl)) (fun q => q.elim (fun h => absurd h (nn rfl)) (fun h => absurd h (nn rfl))))).trans (hF_4 6 j (fun q => q.elim (fun h => absurd h.1 (nn rfl)) (fun h => absurd h.1 (nn rfl))))) (fun j => (hF_14 66 j (fun q => q.elim (fun h => absurd h.1 (nn rfl)) (fun q => q.elim (fun h => absurd h (nn rfl)) (fun h => absurd h (nn rfl))))).trans (hF_4 66 j (fun q => q.elim (fun h => absurd h.1 (nn rfl)) (fun h => absurd h.1 (nn rfl)))))⟩
  · skip
    refine bk_thr (z := Int32.ofInt 2) rfl ⟨_, _, rfl⟩ rfl (bk_inl (q_istore rfl (Nat.le_of_ble_eq_true rfl) (q_aload_n rfl rfl (q_aload_n rfl rfl (q_iload rfl rfl (q_iconst rfl (v_iadd (v := (i0 : Int) + 1) rfl rfl ?_)))))))
    refine v_scr (j := i0 + 1) rfl (by omega) (by omega) hL hx1 (q_aload_n rfl rfl (q_iload rfl rfl (q_iconst rfl (v_iadd (v := (i0 : Int) + 2) rfl rfl (v_scr (j := i0 + 2) rfl (by omega) (by omega) hL hx2 (q_aload_n rfl rfl (q_iload rfl rfl ?_)))))))
    refine q_iconst rfl (v_iadd (v := (i0 : Int) + 3) rfl rfl (v_scr (j := i0 + 3) rfl (by omega) (by omega) hL hx3 (v_cv rfl rfl rfl rfl (Nat.le_of_ble_eq_true rfl) ⟨⟨rfl, rfl⟩, Nat.le_of_ble_eq_true rfl, rfl⟩ (Nat.le_of_ble_eq_true rfl) (Nat.le_of_ble_eq_true rfl) (s_239 (a1 := x1) (a2 := x2) (a3 := x3) hI_6 (show (-2147483648) ≤ x1 ∧ x1 ≤ 2147483647 from ⟨by omega, by omega⟩) (show (-2147483648) ≤ x2 ∧ x2 ≤ 2147483647 from ⟨by omega, by omega⟩) (show (-2147483648) ≤ x3 ∧ x3 ≤ 2147483647 from ⟨by omega, by omega⟩) (fun c_64 y_67 hI_65 hF_66 hy_67 => (bk_inl (q_istore rfl (Nat.le_of_ble_eq_true rfl) (q_goto (t := 1816) rfl rfl (Wp_ls [(4, vi (i0 : Int)), (3, .ref 67), (2, .ref 41), (1, .ref 0), (0, .ref a_SC)] (lsub_cons rfl (lsub_cons rfl (lsub_cons rfl (lsub_cons rfl (lsub_cons rfl lsub_nil))))) ?_)))))))))
    have h_68 := ir_1_3 hI
    have kn_69 : Hid (c_5 1 3 = c 1 3) := hF_7 1 3 (fun q => q.elim (fun h => absurd h.1 (nn rfl)) (fun h => absurd h.1 (nn rfl)))
    have kn_70 : Hid (c_64 1 3 = c 1 3) := (hF_66 1 3 (fun q => q.elim (fun h => absurd h.1 (nn rfl)) (fun q => q.elim (fun h => absurd h (nn rfl)) (fun h => absurd h (nn rfl))))).trans (hid kn_69)
    have h_71 : c_64 1 3 = c 1 3 := (hid kn_70)
    have h_72 := ir_41_2 hI
    have kn_73 : Hid (c_5 41 2 = c 41 2) := hF_7 41 2 (fun q => q.elim (fun h => absurd h.1 (nn rfl)) (fun h => absurd h.1 (nn rfl)))
    have kn_74 : Hid (c_64 41 2 = c 41 2) := (hF_66 41 2 (fun q => q.elim (fun h => absurd h.2 (ni rfl)) (fun q => q.elim (fun h => absurd h (nn rfl)) (fun h => absurd h (nn rfl))))).trans (hid kn_73)
    have h_75 : c_64 41 2 = c 41 2 := (hid kn_74)
    have kn_76 : Hid (c_5 P 0 = n0) := (hF_7 P 0 (fun q => q.elim (fun h => absurd h.1 (np0 hP rfl)) (fun h => absurd h.1 (np0 hP rfl)))).trans (hn0)
    have kn_77 : Hid (c_64 P 0 = n0) := (hF_66 P 0 (fun q => q.elim (fun h => absurd h.1 (np0 hP rfl)) (fun q => q.elim (fun h => absurd h (np0 hP rfl)) (fun h => absurd h (np0 hP rfl))))).trans (hid kn_76)
    have h_78 : c_64 P 0 = n0 := (hid kn_77)
    have kn_79 : Hid (c_5 41 20 = n0) := (hF_7 41 20 (fun q => q.elim (fun h => absurd h.1 (nn rfl)) (fun h => absurd h.1 (nn rfl)))).trans (hm0)
    have kn_80 : Hid (c_64 41 20 = n0) := (hF_66 41 20 (fun q => q.elim (fun h => absurd h.2 (ni rfl)) (fun q => q.elim (fun h => absurd h (nn rfl)) (fun h => absurd h (nn rfl))))).trans (hid kn_79)
    have h_81 : c_64 41 20 = n0 := (hid kn_80)
    have kn_82 : Hid (c_5 P 1 = n1) := (hF_7 P 1 (fun q => q.elim (fun h => absurd h.1 (np0 hP rfl)) (fun h => absurd h.1 (np0 hP rfl)))).trans (hn1)
    have kn_83 : Hid (c_64 P 1 = n1) := (hF_66 P 1 (fun q => q.elim (fun h => absurd h.1 (np0 hP rfl)) (fun q => q.elim (fun h => absurd h (np0 hP rfl)) (fun h => absurd h (np0 hP rfl))))).trans (hid kn_82)
    have h_84 : c_64 P 1 = n1 := (hid kn_83)
    have kn_85 : Hid (c_5 41 21 = n1) := (hF_7 41 21 (fun q => q.elim (fun h => absurd h.1 (nn rfl)) (fun h => absurd h.1 (nn rfl)))).trans (hm1)
    have kn_86 : Hid (c_64 41 21 = n1) := (hF_66 41 21 (fun q => q.elim (fun h => absurd h.2 (ni rfl)) (fun q => q.elim (fun h => absurd h (nn rfl)) (fun h => absurd h (nn rfl))))).trans (hid kn_85)
    have h_87 : c_64 41 21 = n1 := (hid kn_86)
    have kn_88 : Hid (c_5 P 2 = n2) := (hF_7 P 2 (fun q => q.elim (fun h => absurd h.1 (np0 hP rfl)) (fun h => absurd h.1 (np0 hP rfl)))).trans (hn2)
    have kn_89 : Hid (c_64 P 2 = n2) := (hF_66 P 2 (fun q => q.elim (fun h => absurd h.1 (np0 hP rfl)) (fun q => q.elim (fun h => absurd h (np0 hP rfl)) (fun h => absurd h (np0 hP rfl))))).trans (hid kn_88)
    have h_90 : c_64 P 2 = n2 := (hid kn_89)
    have kn_91 : Hid (c_5 41 22 = n2) := (hF_7 41 22 (fun q => q.elim (fun h => absurd h.1 (nn rfl)) (fun h => absurd h.1 (nn rfl)))).trans (hm2)
    have kn_92 : Hid (c_64 41 22 = n2) := (hF_66 41 22 (fun q => q.elim (fun h => absurd h.2 (ni rfl)) (fun q => q.elim (fun h => absurd h (nn rfl)) (fun h => absurd h (nn rfl))))).trans (hid kn_91)
    have h_93 : c_64 41 22 = n2 := (hid kn_92)
    have kn_94 : Hid (c_5 P 3 = n3) := (hF_7 P 3 (fun q => q.elim (fun h => absurd h.1 (np0 hP rfl)) (fun h => absurd h.1 (np0 hP rfl)))).trans (hn3)
    have kn_95 : Hid (c_64 P 3 = n3) := (hF_66 P 3 (fun q => q.elim (fun h => absurd h.1 (np0 hP rfl)) (fun q => q.elim (fun h => absurd h (np0 hP rfl)) (fun h => absurd h (np0 hP rfl))))).trans (hid kn_94)
    have h_96 : c_64 P 3 = n3 := (hid kn_95)
    have kn_97 : Hid (c_5 41 23 = n3) := (hF_7 41 23 (fun q => q.elim (fun h => absurd h.1 (nn rfl)) (fun h => absurd h.1 (nn rfl)))).trans (hm3)
    have kn_98 : Hid (c_64 41 23 = n3) := (hF_66 41 23 (fun q => q.elim (fun h => absurd h.2 (ni rfl)) (fun q => q.elim (fun h => absurd h (nn rfl)) (fun h => absurd h (nn rfl))))).trans (hid kn_97)
    have h_99 : c_64 41 23 = n3 := (hid kn_98)
    have kn_100 : Hid (c_5 3 4 = c 3 4) := hF_7 3 4 (fun q => q.elim (fun h => absurd h.1 (nn rfl)) (fun h => absurd h.1 (nn rfl)))
    have kn_101 : Hid (c_64 3 4 = c 3 4) := (hF_66 3 4 (fun q => q.elim (fun h => absurd h.1 (nn rfl)) (fun q => q.elim (fun h => absurd h (nn rfl)) (fun h => absurd h (nn rfl))))).trans (hid kn_100)
    have h_102 : c_64 3 4 = c 3 4 := (hid kn_101)
    have h_103 := ir_41_52 hI
    have kn_104 : Hid (c_5 41 52 = c 41 52) := hF_7 41 52 (fun q => q.elim (fun h => absurd h.1 (nn rfl)) (fun h => absurd h.1 (nn rfl)))
    have kn_105 : Hid (c_64 41 52 = c 41 52) := (hF_66 41 52 (fun q => q.elim (fun h => absurd h.2 (ni rfl)) (fun q => q.elim (fun h => absurd h (nn rfl)) (fun h => absurd h (nn rfl))))).trans (hid kn_104)
    have h_106 : c_64 41 52 = c 41 52 := (hid kn_105)
    have h_107 := ir_3_3 hI
    have kn_108 : Hid (c_5 3 3 = c 3 3) := hF_7 3 3 (fun q => q.elim (fun h => absurd h.1 (nn rfl)) (fun h => absurd h.1 (nn rfl)))
    have kn_109 : Hid (c_64 3 3 = c 3 3) := (hF_66 3 3 (fun q => q.elim (fun h => absurd h.1 (nn rfl)) (fun q => q.elim (fun h => absurd h (nn rfl)) (fun h => absurd h (nn rfl))))).trans (hid kn_108)
    have h_110 : c_64 3 3 = c 3 3 := (hid kn_109)
    have h_111 := ir_41_35 hI
    have kn_112 : Hid (c_5 41 35 = c 41 35) := hF_7 41 35 (fun q => q.elim (fun h => absurd h.1 (nn rfl)) (fun h => absurd h.1 (nn rfl)))
    have kn_113 : Hid (c_64 41 35 = c 41 35) := (hF_66 41 35 (fun q => q.elim (fun h => absurd h.2 (ni rfl)) (fun q => q.elim (fun h => absurd h (nn rfl)) (fun h => absurd h (nn rfl))))).trans (hid kn_112)
    have h_114 : c_64 41 35 = c 41 35 := (hid kn_113)
    have h_115 : c_64 3 4 = c 3 4 := (hid kn_101)
    exact K P Q c_64 1 (by decide) hI_65 ⟨by omega, ub_fr hU (fun j => (hF_66 2 j (fun q => q.elim (fun h => absurd h.1 (nn rfl)) (fun q => q.elim (fun h => absurd h (nn rfl)) (fun h => absurd h (nn rfl))))).trans (hF_7 2 j (fun q => q.elim (fun h => absurd h.1 (nn rfl)) (fun h => absurd h.1 (nn rfl))))) (fun j => (hF_66 43 j (fun q => q.elim (fun h => absurd h.1 (nn rfl)) (fun q => q.elim (fun h => absurd h (nn rfl)) (fun h => absurd h (nn rfl))))).trans (hF_7 43 j (fun q => q.elim (fun h => absurd h.1 (nn rfl)) (fun h => absurd h.1 (nn rfl))))), ⟨by omega, by omega, by omega, by omega⟩, by omega, by omega, iw_fr2 hIw (by omega) (fun j => (hF_66 6 j (fun q => q.elim (fun h => absurd h.1 (nn rfl)) (fun q => q.elim (fun h => absurd h (nn rfl)) (fun h => absurd h (nn rfl))))).trans (hF_7 6 j (fun q => q.elim (fun h => absurd h.1 (nn rfl)) (fun h => absurd h.1 (nn rfl))))) (fun j => (hF_66 66 j (fun q => q.elim (fun h => absurd h.1 (nn rfl)) (fun q => q.elim (fun h => absurd h (nn rfl)) (fun h => absurd h (nn rfl))))).trans (hF_7 66 j (fun q => q.elim (fun h => absurd h.1 (nn rfl)) (fun h => absurd h.1 (nn rfl)))))⟩
  refine bk_inl (v_i2l rfl (by omega) (v_ls rfl rfl (by decide) (by decide) (by decide) (q_goto (t := 23) rfl rfl (q_iconst rfl (q_iret rfl rfl (bk_inl (q_istore rfl (Nat.le_of_ble_eq_true rfl) ?_)))))))
  refine q_aload_n rfl rfl (q_aload_n rfl rfl (q_iload rfl rfl (q_iconst rfl (v_iadd (v := (i0 : Int) + 1) rfl rfl (v_scr (j := i0 + 1) rfl (by omega) (by omega) hL hx1 (q_aload_n rfl rfl (q_iload rfl rfl ?_)))))))
  refine q_iconst rfl (v_iadd (v := (i0 : Int) + 2) rfl rfl (v_scr (j := i0 + 2) rfl (by omega) (by omega) hL hx2 (q_aload_n rfl rfl (q_iload rfl rfl (q_iconst rfl (v_iadd (v := (i0 : Int) + 3) rfl rfl (v_scr (j := i0 + 3) rfl (by omega) (by omega) hL hx3 ?_)))))))
  have hI_116 := iw_lx (a := 67) (j := 0) (v := y_11) hI_9 (by omega)
  refine v_cv rfl rfl rfl rfl (Nat.le_of_ble_eq_true rfl) ⟨⟨rfl, rfl⟩, Nat.le_of_ble_eq_true rfl, rfl⟩ (Nat.le_of_ble_eq_true rfl) (Nat.le_of_ble_eq_true rfl) (s_239 (a1 := x1) (a2 := x2) (a3 := x3) hI_116 (show (-2147483648) ≤ x1 ∧ x1 ≤ 2147483647 from ⟨by omega, by omega⟩) (show (-2147483648) ≤ x2 ∧ x2 ≤ 2147483647 from ⟨by omega, by omega⟩) (show (-2147483648) ≤ x3 ∧ x3 ≤ 2147483647 from ⟨by omega, by omega⟩) (fun c_117 y_120 hI_118 hF_119 hy_120 => (bk_inl (q_istore rfl (Nat.le_of_ble_eq_true rfl) (q_goto (t := 1816) rfl rfl (Wp_ls [(4, vi (i0 : Int)), (3, .ref 67), (2, .ref 41), (1, .ref 0), (0, .ref a_SC)] (lsub_cons rfl (lsub_cons rfl (lsub_cons rfl (lsub_cons rfl (lsub_cons rfl lsub_nil))))) ?_))))))
  have h_121 := ir_1_3 hI
  have kn_122 : Hid (c_8 1 3 = c 1 3) := hF_10 1 3 (fun q => q.elim (fun h => absurd h.1 (nn rfl)) (fun h => absurd h.1 (nn rfl)))
  have kn_123 : Hid (c_117 1 3 = c 1 3) := (hF_119 1 3 (fun q => q.elim (fun h => absurd h.1 (nn rfl)) (fun q => q.elim (fun h => absurd h (nn rfl)) (fun h => absurd h (nn rfl))))).trans ((up_c (nn rfl)).trans (hid kn_122))
  have h_124 : c_117 1 3 = c 1 3 := (hid kn_123)
  have h_125 := ir_41_2 hI
  have kn_126 : Hid (c_8 41 2 = c 41 2) := hF_10 41 2 (fun q => q.elim (fun h => absurd h.1 (nn rfl)) (fun h => absurd h.1 (nn rfl)))
  have kn_127 : Hid (c_117 41 2 = c 41 2) := (hF_119 41 2 (fun q => q.elim (fun h => absurd h.2 (ni rfl)) (fun q => q.elim (fun h => absurd h (nn rfl)) (fun h => absurd h (nn rfl))))).trans ((up_c (nn rfl)).trans (hid kn_126))
  have h_128 : c_117 41 2 = c 41 2 := (hid kn_127)
  have kn_129 : Hid (c_8 P 0 = n0) := (hF_10 P 0 (fun q => q.elim (fun h => absurd h.1 (np0 hP rfl)) (fun h => absurd h.1 (np0 hP rfl)))).trans (hn0)
  have kn_130 : Hid (c_117 P 0 = n0) := (hF_119 P 0 (fun q => q.elim (fun h => absurd h.1 (np0 hP rfl)) (fun q => q.elim (fun h => absurd h (np0 hP rfl)) (fun h => absurd h (np0 hP rfl))))).trans ((up_c (np0 hP rfl)).trans (hid kn_129))
  have h_131 : c_117 P 0 = n0 := (hid kn_130)
  have kn_132 : Hid (c_8 41 20 = n0) := (hF_10 41 20 (fun q => q.elim (fun h => absurd h.1 (nn rfl)) (fun h => absurd h.1 (nn rfl)))).trans (hm0)
  have kn_133 : Hid (c_117 41 20 = n0) := (hF_119 41 20 (fun q => q.elim (fun h => absurd h.2 (ni rfl)) (fun q => q.elim (fun h => absurd h (nn rfl)) (fun h => absurd h (nn rfl))))).trans ((up_c (nn rfl)).trans (hid kn_132))
  have h_134 : c_117 41 20 = n0 := (hid kn_133)
  have kn_135 : Hid (c_8 P 1 = n1) := (hF_10 P 1 (fun q => q.elim (fun h => absurd h.1 (np0 hP rfl)) (fun h => absurd h.1 (np0 hP rfl)))).trans (hn1)
  have kn_136 : Hid (c_117 P 1 = n1) := (hF_119 P 1 (fun q => q.elim (fun h => absurd h.1 (np0 hP rfl)) (fun q => q.elim (fun h => absurd h (np0 hP rfl)) (fun h => absurd h (np0 hP rfl))))).trans ((up_c (np0 hP rfl)).trans (hid kn_135))
  have h_137 : c_117 P 1 = n1 := (hid kn_136)
  have kn_138 : Hid (c_8 41 21 = n1) := (hF_10 41 21 (fun q => q.elim (fun h => absurd h.1 (nn rfl)) (fun h => absurd h.1 (nn rfl)))).trans (hm1)
  have kn_139 : Hid (c_117 41 21 = n1) := (hF_119 41 21 (fun q => q.elim (fun h => absurd h.2 (ni rfl)) (fun q => q.elim (fun h => absurd h (nn rfl)) (fun h => absurd h (nn rfl))))).trans ((up_c (nn rfl)).trans (hid kn_138))
  have h_140 : c_117 41 21 = n1 := (hid kn_139)
  have kn_141 : Hid (c_8 P 2 = n2) := (hF_10 P 2 (fun q => q.elim (fun h => absurd h.1 (np0 hP rfl)) (fun h => absurd h.1 (np0 hP rfl)))).trans (hn2)
  have kn_142 : Hid (c_117 P 2 = n2) := (hF_119 P 2 (fun q => q.elim (fun h => absurd h.1 (np0 hP rfl)) (fun q => q.elim (fun h => absurd h (np0 hP rfl)) (fun h => absurd h (np0 hP rfl))))).trans ((up_c (np0 hP rfl)).trans (hid kn_141))
  have h_143 : c_117 P 2 = n2 := (hid kn_142)
  have kn_144 : Hid (c_8 41 22 = n2) := (hF_10 41 22 (fun q => q.elim (fun h => absurd h.1 (nn rfl)) (fun h => absurd h.1 (nn rfl)))).trans (hm2)
  have kn_145 : Hid (c_117 41 22 = n2) := (hF_119 41 22 (fun q => q.elim (fun h => absurd h.2 (ni rfl)) (fun q => q.elim (fun h => absurd h (nn rfl)) (fun h => absurd h (nn rfl))))).trans ((up_c (nn rfl)).trans (hid kn_144))
  have h_146 : c_117 41 22 = n2 := (hid kn_145)
  have kn_147 : Hid (c_8 P 3 = n3) := (hF_10 P 3 (fun q => q.elim (fun h => absurd h.1 (np0 hP rfl)) (fun h => absurd h.1 (np0 hP rfl)))).trans (hn3)
  have kn_148 : Hid (c_117 P 3 = n3) := (hF_119 P 3 (fun q => q.elim (fun h => absurd h.1 (np0 hP rfl)) (fun q => q.elim (fun h => absurd h (np0 hP rfl)) (fun h => absurd h (np0 hP rfl))))).trans ((up_c (np0 hP rfl)).trans (hid kn_147))
  have h_149 : c_117 P 3 = n3 := (hid kn_148)
  have kn_150 : Hid (c_8 41 23 = n3) := (hF_10 41 23 (fun q => q.elim (fun h => absurd h.1 (nn rfl)) (fun h => absurd h.1 (nn rfl)))).trans (hm3)
  have kn_151 : Hid (c_117 41 23 = n3) := (hF_119 41 23 (fun q => q.elim (fun h => absurd h.2 (ni rfl)) (fun q => q.elim (fun h => absurd h (nn rfl)) (fun h => absurd h (nn rfl))))).trans ((up_c (nn rfl)).trans (hid kn_150))
  have h_152 : c_117 41 23 = n3 := (hid kn_151)
  have kn_153 : Hid (c_8 3 4 = c 3 4) := hF_10 3 4 (fun q => q.elim (fun h => absurd h.1 (nn rfl)) (fun h => absurd h.1 (nn rfl)))
  have kn_154 : Hid (c_117 3 4 = c 3 4) := (hF_119 3 4 (fun q => q.elim (fun h => absurd h.1 (nn rfl)) (fun q => q.elim (fun h => absurd h (nn rfl)) (fun h => absurd h (nn rfl))))).trans ((up_c (nn rfl)).trans (hid kn_153))
  have h_155 : c_117 3 4 = c 3 4 := (hid kn_154)
  have h_156 := ir_41_52 hI
  have kn_157 : Hid (c_8 41 52 = c 41 52) := hF_10 41 52 (fun q => q.elim (fun h => absurd h.1 (nn rfl)) (fun h => absurd h.1 (nn rfl)))
  have kn_158 : Hid (c_117 41 52 = c 41 52) := (hF_119 41 52 (fun q => q.elim (fun h => absurd h.2 (ni rfl)) (fun q => q.elim (fun h => absurd h (nn rfl)) (fun h => absurd h (nn rfl))))).trans ((up_c (nn rfl)).trans (hid kn_157))
  have h_159 : c_117 41 52 = c 41 52 := (hid kn_158)
  have h_160 := ir_3_3 hI
  have kn_161 : Hid (c_8 3 3 = c 3 3) := hF_10 3 3 (fun q => q.elim (fun h => absurd h.1 (nn rfl)) (fun h => absurd h.1 (nn rfl)))
  have kn_162 : Hid (c_117 3 3 = c 3 3) := (hF_119 3 3 (fun q => q.elim (fun h => absurd h.1 (nn rfl)) (fun q => q.elim (fun h => absurd h (nn rfl)) (fun h => absurd h (nn rfl))))).trans ((up_c (nn rfl)).trans (hid kn_161))
  have h_163 : c_117 3 3 = c 3 3 := (hid kn_162)
  have h_164 := ir_41_35 hI
  have kn_165 : Hid (c_8 41 35 = c 41 35) := hF_10 41 35 (fun q => q.elim (fun h => absurd h.1 (nn rfl)) (fun h => absurd h.1 (nn rfl)))
  have kn_166 : Hid (c_117 41 35 = c 41 35) := (hF_119 41 35 (fun q => q.elim (fun h => absurd h.2 (ni rfl)) (fun q => q.elim (fun h => absurd h (nn rfl)) (fun h => absurd h (nn rfl))))).trans ((up_c (nn rfl)).trans (hid kn_165))
  have h_167 : c_117 41 35 = c 41 35 := (hid kn_166)
  have h_168 : c_117 3 4 = c 3 4 := (hid kn_154)
  exact K P Q c_117 0 (by decide) hI_118 ⟨by omega, ub_fr hU (fun j => (hF_119 2 j (fun q => q.elim (fun h => absurd h.1 (nn rfl)) (fun q => q.elim (fun h => absurd h (nn rfl)) (fun h => absurd h (nn rfl))))).trans ((up_c (nn rfl)).trans (hF_10 2 j (fun q => q.elim (fun h => absurd h.1 (nn rfl)) (fun h => absurd h.1 (nn rfl)))))) (fun j => (hF_119 43 j (fun q => q.elim (fun h => absurd h.1 (nn rfl)) (fun q => q.elim (fun h => absurd h (nn rfl)) (fun h => absurd h (nn rfl))))).trans ((up_c (nn rfl)).trans (hF_10 43 j (fun q => q.elim (fun h => absurd h.1 (nn rfl)) (fun h => absurd h.1 (nn rfl)))))), ⟨by omega, by omega, by omega, by omega⟩, by omega, by omega, iw_fr2 hIw (by omega) (fun j => (hF_119 6 j (fun q => q.elim (fun h => absurd h.1 (nn rfl)) (fun q => q.elim (fun h => absurd h (nn rfl)) (fun h => absurd h (nn rfl))))).trans ((up_c (nn rfl)).trans (hF_10 6 j (fun q => q.elim (fun h => absurd h.1 (nn rfl)) (fun h => absurd h.1 (nn rfl)))))) (fun j => (hF_119 66 j (fun q => q.elim (fun h => absurd h.1 (nn rfl)) (fun q => q.elim (fun h => absurd h (nn rfl)) (fun h => absurd h (nn rfl))))).trans ((up_c (nn rfl)).trans (hF_10 66 j (fun q => q.elim (fun h => absurd h.1 (nn rfl)) (fun h => absurd h.1 (nn rfl))))))⟩

set_option maxRecDepth 100000 in
set_option maxHeartbeats 4000000 in
theorem o_25 {xs : Nat → Int32} {L i0 d nc ns P Q : Nat} {c : ME} {Z : AR → Prop} (hi : i0 + 8 ≤ L) (hL : L ≤ 100000) (hI : Iv 0 (-1) P Q c) (hR : Rq P c) (K : ∀ (P2 Q2 : Nat) (c2 : ME) (e : Nat), e ≤ 1 → Iv 0 (-1) P2 Q2 c2 → (Rq P2 c2) → Wp (a_scr L xs) (d + 90) 296 1816 [(4, vi (i0 : Int)), (3, .ref 67), (2, .ref 41), (1, .ref 0), (0, .ref a_SC)] [] (Wd P2 Q2 P2 P2 c2) (nc + e) (ns + 6 * e) Z) : Wp (a_scr L xs) (d + 90) 296 1259 [(4, vi (i0 : Int)), (3, .ref 67), (2, .ref 41), (1, .ref 0), (0, .ref a_SC)] [] (Wd P Q P P c) nc ns Z := by
  obtain ⟨x1, hx1⟩ : ∃ z, (xs (i0 + 1)).toInt = z := ⟨_, rfl⟩
  have x1r := c_rng (xs (i0 + 1))
  rw [hx1] at x1r
  obtain ⟨x2, hx2⟩ : ∃ z, (xs (i0 + 2)).toInt = z := ⟨_, rfl⟩
  have x2r := c_rng (xs (i0 + 2))
  rw [hx2] at x2r
  obtain ⟨x3, hx3⟩ : ∃ z, (xs (i0 + 3)).toInt = z := ⟨_, rfl⟩
  have x3r := c_rng (xs (i0 + 3))
  rw [hx3] at x3r
  obtain ⟨x4, hx4⟩ : ∃ z, (xs (i0 + 4)).toInt = z := ⟨_, rfl⟩
  have x4r := c_rng (xs (i0 + 4))
  rw [hx4] at x4r
  obtain ⟨x5, hx5⟩ : ∃ z, (xs (i0 + 5)).toInt = z := ⟨_, rfl⟩
  have x5r := c_rng (xs (i0 + 5))
  rw [hx5] at x5r
  obtain ⟨x6, hx6⟩ : ∃ z, (xs (i0 + 6)).toInt = z := ⟨_, rfl⟩
  have x6r := c_rng (xs (i0 + 6))
  rw [hx6] at x6r
  obtain ⟨x7, hx7⟩ : ∃ z, (xs (i0 + 7)).toInt = z := ⟨_, rfl⟩
  have x7r := c_rng (xs (i0 + 7))
  rw [hx7] at x7r
  have hT := rl_t hR
  have hU := rl_u hR
  have hP := iv_P hI
  obtain ⟨n0, hn0⟩ : ∃ z, c P 0 = z := ⟨_, rfl⟩
  have hm0 : c 41 20 = n0 := (rl_nums hR).1.symm.trans hn0
  have hr0 := ir_p0_0 hI hP
  rw [hn0] at hr0
  obtain ⟨n1, hn1⟩ : ∃ z, c P 1 = z := ⟨_, rfl⟩
  have hm1 : c 41 21 = n1 := (rl_nums hR).2.1.symm.trans hn1
  have hr1 := ir_p0_1 hI hP
  rw [hn1] at hr1
  obtain ⟨n2, hn2⟩ : ∃ z, c P 2 = z := ⟨_, rfl⟩
  have hm2 : c 41 22 = n2 := (rl_nums hR).2.2.1.symm.trans hn2
  have hr2 := ir_p0_2 hI hP
  rw [hn2] at hr2
  obtain ⟨n3, hn3⟩ : ∃ z, c P 3 = z := ⟨_, rfl⟩
  have hm3 : c 41 23 = n3 := (rl_nums hR).2.2.2.symm.trans hn3
  have hr3 := ir_p0_3 hI hP
  rw [hn3] at hr3
  have hNimg := rl_img hR
  have hNwk := rl_wk hR
  have h_1 := ir_3_4 hI
  have hIw := rl_iw hR
  have hP := iv_P hI
  have hQ := iv_Q hI
  refine q_aload_n rfl rfl (q_aload_n rfl rfl (q_iload rfl rfl (q_iconst rfl (v_iadd (v := (i0 : Int) + 1) rfl rfl (v_scr (j := i0 + 1) rfl (by omega) (by omega) hL hx1 (q_aload_n rfl rfl (q_call rfl rfl rfl rfl ?_)))))))
  refine q_aload_n rfl rfl (q_iconst rfl (q_aload_n rfl rfl (q_iload_n rfl rfl ?_)))
  refine v_cv rfl rfl rfl rfl (Nat.le_of_ble_eq_true rfl) ⟨⟨rfl, rfl⟩, Nat.le_of_ble_eq_true rfl, rfl⟩ (Nat.le_of_ble_eq_true rfl) (Nat.le_of_ble_eq_true rfl) (s_105 (a1 := x1) hI (show (-2147483648) ≤ x1 ∧ x1 ≤ 2147483647 from ⟨by omega, by omega⟩) (fun c_2 hI_3 hF_4 => ?_) (fun c_5 y_8 hI_6 hF_7 hy_8 => ?_))
  · skip
    refine bk_thr (z := Int32.ofInt 1) rfl ⟨_, _, rfl⟩ rfl (bk_inl (q_istore rfl (Nat.le_of_ble_eq_true rfl) (q_aload_n rfl rfl (q_aload_n rfl rfl (q_iload rfl rfl (q_iconst rfl (v_iadd (v := (i0 : Int) + 1) rfl rfl ?_)))))))
    refine v_scr (j := i0 + 1) rfl (by omega) (by omega) hL hx1 (v_cv rfl rfl rfl rfl (Nat.le_of_ble_eq_true rfl) ⟨⟨rfl, rfl⟩, Nat.le_of_ble_eq_true rfl, rfl⟩ (Nat.le_of_ble_eq_true rfl) (Nat.le_of_ble_eq_true rfl) (s_240 (a1 := x1) hI_3 (show (-2147483648) ≤ x1 ∧ x1 ≤ 2147483647 from ⟨by omega, by omega⟩) (fun c_9 y_12 hI_10 hF_11 hy_12 => (bk_inl (q_istore rfl (Nat.le_of_ble_eq_true rfl) (q_goto (t := 1816) rfl rfl (Wp_ls [(4, vi (i0 : Int)), (3, .ref 67), (2, .ref 41), (1, .ref 0), (0, .ref a_SC)] (lsub_cons rfl (lsub_cons rfl (lsub_cons rfl (lsub_cons rfl (lsub_cons rfl lsub_nil))))) ?_)))))))
    have h_13 := ir_1_3 hI
    have kn_14 : Hid (c_2 1 3 = c 1 3) := hF_4 1 3 (fun q => q.elim (fun h => absurd h.1 (nn rfl)) (fun q => q.elim (fun h => absurd h (pn hP rfl rfl)) (fun h => absurd h (pn hP rfl rfl))))
    have kn_15 : Hid (c_9 1 3 = c 1 3) := (hF_11 1 3 (fun q => q.elim (fun h => absurd h.1 (nn rfl)) (fun q => q.elim (fun h => absurd h (nn rfl)) (fun q => q.elim (fun h => absurd h (nn rfl)) (fun q => q.elim (fun h => absurd h (nn rfl)) (fun h => absurd h (nn rfl))))))).trans (hid kn_14)
    have h_16 : c_9 1 3 = c 1 3 := (hid kn_15)
    have h_17 := ir_41_2 hI
    have kn_18 : Hid (c_2 41 2 = c 41 2) := hF_4 41 2 (fun q => q.elim (fun h => absurd h.1 (nn rfl)) (fun q => q.elim (fun h => absurd h (pn hP rfl rfl)) (fun h => absurd h (pn hP rfl rfl))))
    have kn_19 : Hid (c_9 41 2 = c 41 2) := (hF_11 41 2 (fun q => q.elim (fun h => absurd h.2 (ni rfl)) (fun q => q.elim (fun h => absurd h (nn rfl)) (fun q => q.elim (fun h => absurd h (nn rfl)) (fun q => q.elim (fun h => absurd h (nn rfl)) (fun h => absurd h (nn rfl))))))).trans (hid kn_18)
    have h_20 : c_9 41 2 = c 41 2 := (hid kn_19)
    have kn_21 : Hid (c_2 P 0 = n0) := (hF_4 P 0 (fun q => q.elim (fun h => absurd h.1 (np0 hP rfl)) (fun q => q.elim (fun h => absurd h (p0p rfl)) (fun h => absurd h (p0p rfl))))).trans (hn0)
    have kn_22 : Hid (c_9 P 0 = n0) := (hF_11 P 0 (fun q => q.elim (fun h => absurd h.1 (np0 hP rfl)) (fun q => q.elim (fun h => absurd h (np0 hP rfl)) (fun q => q.elim (fun h => absurd h (np0 hP rfl)) (fun q => q.elim (fun h => absurd h (np0 hP rfl)) (fun h => absurd h (np0 hP rfl))))))).trans (hid kn_21)
    have h_23 : c_9 P 0 = n0 := (hid kn_22)
    have kn_24 : Hid (c_2 41 20 = n0) := (hF_4 41 20 (fun q => q.elim (fun h => absurd h.1 (nn rfl)) (fun q => q.elim (fun h => absurd h (pn hP rfl rfl)) (fun h => absurd h (pn hP rfl rfl))))).trans (hm0)
    have kn_25 : Hid (c_9 41 20 = n0) := (hF_11 41 20 (fun q => q.elim (fun h => absurd h.2 (ni rfl)) (fun q => q.elim (fun h => absurd h (nn rfl)) (fun q => q.elim (fun h => absurd h (nn rfl)) (fun q => q.elim (fun h => absurd h (nn rfl)) (fun h => absurd h (nn rfl))))))).trans (hid kn_24)
    have h_26 : c_9 41 20 = n0 := (hid kn_25)
    have kn_27 : Hid (c_2 P 1 = n1) := (hF_4 P 1 (fun q => q.elim (fun h => absurd h.1 (np0 hP rfl)) (fun q => q.elim (fun h => absurd h (p0p rfl)) (fun h => absurd h (p0p rfl))))).trans (hn1)
    have kn_28 : Hid (c_9 P 1 = n1) := (hF_11 P 1 (fun q => q.elim (fun h => absurd h.1 (np0 hP rfl)) (fun q => q.elim (fun h => absurd h (np0 hP rfl)) (fun q => q.elim (fun h => absurd h (np0 hP rfl)) (fun q => q.elim (fun h => absurd h (np0 hP rfl)) (fun h => absurd h (np0 hP rfl))))))).trans (hid kn_27)
    have h_29 : c_9 P 1 = n1 := (hid kn_28)
    have kn_30 : Hid (c_2 41 21 = n1) := (hF_4 41 21 (fun q => q.elim (fun h => absurd h.1 (nn rfl)) (fun q => q.elim (fun h => absurd h (pn hP rfl rfl)) (fun h => absurd h (pn hP rfl rfl))))).trans (hm1)
    have kn_31 : Hid (c_9 41 21 = n1) := (hF_11 41 21 (fun q => q.elim (fun h => absurd h.2 (ni rfl)) (fun q => q.elim (fun h => absurd h (nn rfl)) (fun q => q.elim (fun h => absurd h (nn rfl)) (fun q => q.elim (fun h => absurd h (nn rfl)) (fun h => absurd h (nn rfl))))))).trans (hid kn_30)
    have h_32 : c_9 41 21 = n1 := (hid kn_31)
    have kn_33 : Hid (c_2 P 2 = n2) := (hF_4 P 2 (fun q => q.elim (fun h => absurd h.1 (np0 hP rfl)) (fun q => q.elim (fun h => absurd h (p0p rfl)) (fun h => absurd h (p0p rfl))))).trans (hn2)
    have kn_34 : Hid (c_9 P 2 = n2) := (hF_11 P 2 (fun q => q.elim (fun h => absurd h.1 (np0 hP rfl)) (fun q => q.elim (fun h => absurd h (np0 hP rfl)) (fun q => q.elim (fun h => absurd h (np0 hP rfl)) (fun q => q.elim (fun h => absurd h (np0 hP rfl)) (fun h => absurd h (np0 hP rfl))))))).trans (hid kn_33)
    have h_35 : c_9 P 2 = n2 := (hid kn_34)
    have kn_36 : Hid (c_2 41 22 = n2) := (hF_4 41 22 (fun q => q.elim (fun h => absurd h.1 (nn rfl)) (fun q => q.elim (fun h => absurd h (pn hP rfl rfl)) (fun h => absurd h (pn hP rfl rfl))))).trans (hm2)
    have kn_37 : Hid (c_9 41 22 = n2) := (hF_11 41 22 (fun q => q.elim (fun h => absurd h.2 (ni rfl)) (fun q => q.elim (fun h => absurd h (nn rfl)) (fun q => q.elim (fun h => absurd h (nn rfl)) (fun q => q.elim (fun h => absurd h (nn rfl)) (fun h => absurd h (nn rfl))))))).trans (hid kn_36)
    have h_38 : c_9 41 22 = n2 := (hid kn_37)
    have kn_39 : Hid (c_2 P 3 = n3) := (hF_4 P 3 (fun q => q.elim (fun h => absurd h.1 (np0 hP rfl)) (fun q => q.elim (fun h => absurd h (p0p rfl)) (fun h => absurd h (p0p rfl))))).trans (hn3)
    have kn_40 : Hid (c_9 P 3 = n3) := (hF_11 P 3 (fun q => q.elim (fun h => absurd h.1 (np0 hP rfl)) (fun q => q.elim (fun h => absurd h (np0 hP rfl)) (fun q => q.elim (fun h => absurd h (np0 hP rfl)) (fun q => q.elim (fun h => absurd h (np0 hP rfl)) (fun h => absurd h (np0 hP rfl))))))).trans (hid kn_39)
    have h_41 : c_9 P 3 = n3 := (hid kn_40)
    have kn_42 : Hid (c_2 41 23 = n3) := (hF_4 41 23 (fun q => q.elim (fun h => absurd h.1 (nn rfl)) (fun q => q.elim (fun h => absurd h (pn hP rfl rfl)) (fun h => absurd h (pn hP rfl rfl))))).trans (hm3)
    have kn_43 : Hid (c_9 41 23 = n3) := (hF_11 41 23 (fun q => q.elim (fun h => absurd h.2 (ni rfl)) (fun q => q.elim (fun h => absurd h (nn rfl)) (fun q => q.elim (fun h => absurd h (nn rfl)) (fun q => q.elim (fun h => absurd h (nn rfl)) (fun h => absurd h (nn rfl))))))).trans (hid kn_42)
    have h_44 : c_9 41 23 = n3 := (hid kn_43)
    have kn_45 : Hid (c_2 3 4 = c 3 4) := hF_4 3 4 (fun q => q.elim (fun h => absurd h.1 (nn rfl)) (fun q => q.elim (fun h => absurd h (pn hP rfl rfl)) (fun h => absurd h (pn hP rfl rfl))))
    have kn_46 : Hid (c_9 3 4 = c 3 4) := (hF_11 3 4 (fun q => q.elim (fun h => absurd h.1 (nn rfl)) (fun q => q.elim (fun h => absurd h (nn rfl)) (fun q => q.elim (fun h => absurd h (nn rfl)) (fun q => q.elim (fun h => absurd h (nn rfl)) (fun h => absurd h (nn rfl))))))).trans (hid kn_45)
    have h_47 : c_9 3 4 = c 3 4 := (hid kn_46)
    have h_48 := ir_41_52 hI
    have kn_49 : Hid (c_2 41 52 = c 41 52) := hF_4 41 52 (fun q => q.elim (fun h => absurd h.1 (nn rfl)) (fun q => q.elim (fun h => absurd h (pn hP rfl rfl)) (fun h => absurd h (pn hP rfl rfl))))
    have kn_50 : Hid (c_9 41 52 = c 41 52) := (hF_11 41 52 (fun q => q.elim (fun h => absurd h.2 (ni rfl)) (fun q => q.elim (fun h => absurd h (nn rfl)) (fun q => q.elim (fun h => absurd h (nn rfl)) (fun q => q.elim (fun h => absurd h (nn rfl)) (fun h => absurd h (nn rfl))))))).trans (hid kn_49)
    have h_51 : c_9 41 52 = c 41 52 := (hid kn_50)
    have h_52 := ir_3_3 hI
    have kn_53 : Hid (c_2 3 3 = c 3 3) := hF_4 3 3 (fun q => q.elim (fun h => absurd h.1 (nn rfl)) (fun q => q.elim (fun h => absurd h (pn hP rfl rfl)) (fun h => absurd h (pn hP rfl rfl))))
    have kn_54 : Hid (c_9 3 3 = c 3 3) := (hF_11 3 3 (fun q => q.elim (fun h => absurd h.1 (nn rfl)) (fun q => q.elim (fun h => absurd h (nn rfl)) (fun q => q.elim (fun h => absurd h (nn rfl)) (fun q => q.elim (fun h => absurd h (nn rfl)) (fun h => absurd h (nn rfl))))))).trans (hid kn_53)
    have h_55 : c_9 3 3 = c 3 3 := (hid kn_54)
    have h_56 := ir_41_35 hI
    have kn_57 : Hid (c_2 41 35 = c 41 35) := hF_4 41 35 (fun q => q.elim (fun h => absurd h.1 (nn rfl)) (fun q => q.elim (fun h => absurd h (pn hP rfl rfl)) (fun h => absurd h (pn hP rfl rfl))))
    have kn_58 : Hid (c_9 41 35 = c 41 35) := (hF_11 41 35 (fun q => q.elim (fun h => absurd h.2 (ni rfl)) (fun q => q.elim (fun h => absurd h (nn rfl)) (fun q => q.elim (fun h => absurd h (nn rfl)) (fun q => q.elim (fun h => absurd h (nn rfl)) (fun h => absurd h (nn rfl))))))).trans (hid kn_57)
    have h_59 : c_9 41 35 = c 41 35 := (hid kn_58)
    have h_60 : c_9 3 4 = c 3 4 := (hid kn_46)
    exact K P Q c_9 1 (by decide) hI_10 ⟨by omega, ub_fr hU (fun j => (hF_11 2 j (fun q => q.elim (fun h => absurd h.1 (nn rfl)) (fun q => q.elim (fun h => absurd h (nn rfl)) (fun q => q.elim (fun h => absurd h (nn rfl)) (fun q => q.elim (fun h => absurd h (nn rfl)) (fun h => absurd h (nn rfl))))))).trans (hF_4 2 j (fun q => q.elim (fun h => absurd h.1 (nn rfl)) (fun q => q.elim (fun h => absurd h (pn hP rfl rfl)) (fun h => absurd h (pn hP rfl rfl)))))) (fun j => (hF_11 43 j (fun q => q.elim (fun h => absurd h.1 (nn rfl)) (fun q => q.elim (fun h => absurd h (nn rfl)) (fun q => q.elim (fun h => absurd h (nn rfl)) (fun q => q.elim (fun h => absurd h (nn rfl)) (fun h => absurd h (nn rfl))))))).trans (hF_4 43 j (fun q => q.elim (fun h => absurd h.1 (nn rfl)) (fun q => q.elim (fun h => absurd h (pn hP rfl rfl)) (fun h => absurd h (pn hP rfl rfl)))))), ⟨by omega, by omega, by omega, by omega⟩, by omega, by omega, iw_fr2 hIw (by omega) (fun j => (hF_11 6 j (fun q => q.elim (fun h => absurd h.1 (nn rfl)) (fun q => q.elim (fun h => absurd h (nn rfl)) (fun q => q.elim (fun h => absurd h (nn rfl)) (fun q => q.elim (fun h => absurd h (nn rfl)) (fun h => absurd h (nn rfl))))))).trans (hF_4 6 j (fun q => q.elim (fun h => absurd h.1 (nn rfl)) (fun q => q.elim (fun h => absurd h (pn hP rfl rfl)) (fun h => absurd h (pn hP rfl rfl)))))) (fun j => (hF_11 66 j (fun q => q.elim (fun h => absurd h.1 (nn rfl)) (fun q => q.elim (fun h => absurd h (nn rfl)) (fun q => q.elim (fun h => absurd h (nn rfl)) (fun q => q.elim (fun h => absurd h (nn rfl)) (fun h => absurd h (nn rfl))))))).trans (hF_4 66 j (fun q => q.elim (fun h => absurd h.1 (nn rfl)) (fun q => q.elim (fun h => absurd h (pn hP rfl rfl)) (fun h => absurd h (pn hP rfl rfl))))))⟩
  refine bk_inl (v_i2l rfl (by omega) (v_ls rfl rfl (by decide) (by decide) (by decide) (q_goto (t := 15) rfl rfl (q_iconst rfl (q_iret rfl rfl (bk_inl (q_istore rfl (Nat.le_of_ble_eq_true rfl) ?_)))))))
  refine q_aload_n rfl rfl (q_aload_n rfl rfl (q_iload rfl rfl (q_iconst rfl (v_iadd (v := (i0 : Int) + 1) rfl rfl (v_scr (j := i0 + 1) rfl (by omega) (by omega) hL hx1 ?_)))))
  have hI_61 := iw_lx (a := 67) (j := 0) (v := y_8) hI_6 (by omega)
  refine v_cv rfl rfl rfl rfl (Nat.le_of_ble_eq_true rfl) ⟨⟨rfl, rfl⟩, Nat.le_of_ble_eq_true rfl, rfl⟩ (Nat.le_of_ble_eq_true rfl) (Nat.le_of_ble_eq_true rfl) (s_240 (a1 := x1) hI_61 (show (-2147483648) ≤ x1 ∧ x1 ≤ 2147483647 from ⟨by omega, by omega⟩) (fun c_62 y_65 hI_63 hF_64 hy_65 => (bk_inl (q_istore rfl (Nat.le_of_ble_eq_true rfl) (q_goto (t := 1816) rfl rfl (Wp_ls [(4, vi (i0 : Int)), (3, .ref 67), (2, .ref 41), (1, .ref 0), (0, .ref a_SC)] (lsub_cons rfl (lsub_cons rfl (lsub_cons rfl (lsub_cons rfl (lsub_cons rfl lsub_nil))))) ?_))))))
  have h_66 := ir_1_3 hI
  have kn_67 : Hid (c_5 1 3 = c 1 3) := hF_7 1 3 (fun q => q.elim (fun h => absurd h.1 (nn rfl)) (fun q => q.elim (fun h => absurd h (pn hP rfl rfl)) (fun h => absurd h (pn hP rfl rfl))))
  have kn_68 : Hid (c_62 1 3 = c 1 3) := (hF_64 1 3 (fun q => q.elim (fun h => absurd h.1 (nn rfl)) (fun q => q.elim (fun h => absurd h (nn rfl)) (fun q => q.elim (fun h => absurd h (nn rfl)) (fun q => q.elim (fun h => absurd h (nn rfl)) (fun h => absurd h (nn rfl))))))).trans ((up_c (nn rfl)).trans (hid kn_67))
  have h_69 : c_62 1 3 = c 1 3 := (hid kn_68)
  have h_70 := ir_41_2 hI
  have kn_71 : Hid (c_5 41 2 = c 41 2) := hF_7 41 2 (fun q => q.elim (fun h => absurd h.1 (nn rfl)) (fun q => q.elim (fun h => absurd h (pn hP rfl rfl)) (fun h => absurd h (pn hP rfl rfl))))
  have kn_72 : Hid (c_62 41 2 = c 41 2) := (hF_64 41 2 (fun q => q.elim (fun h => absurd h.2 (ni rfl)) (fun q => q.elim (fun h => absurd h (nn rfl)) (fun q => q.elim (fun h => absurd h (nn rfl)) (fun q => q.elim (fun h => absurd h (nn rfl)) (fun h => absurd h (nn rfl))))))).trans ((up_c (nn rfl)).trans (hid kn_71))
  have h_73 : c_62 41 2 = c 41 2 := (hid kn_72)
  have kn_74 : Hid (c_5 P 0 = n0) := (hF_7 P 0 (fun q => q.elim (fun h => absurd h.1 (np0 hP rfl)) (fun q => q.elim (fun h => absurd h (p0p rfl)) (fun h => absurd h (p0p rfl))))).trans (hn0)
  have kn_75 : Hid (c_62 P 0 = n0) := (hF_64 P 0 (fun q => q.elim (fun h => absurd h.1 (np0 hP rfl)) (fun q => q.elim (fun h => absurd h (np0 hP rfl)) (fun q => q.elim (fun h => absurd h (np0 hP rfl)) (fun q => q.elim (fun h => absurd h (np0 hP rfl)) (fun h => absurd h (np0 hP rfl))))))).trans ((up_c (np0 hP rfl)).trans (hid kn_74))
  have h_76 : c_62 P 0 = n0 := (hid kn_75)
  have kn_77 : Hid (c_5 41 20 = n0) := (hF_7 41 20 (fun q => q.elim (fun h => absurd h.1 (nn rfl)) (fun q => q.elim (fun h => absurd h (pn hP rfl rfl)) (fun h => absurd h (pn hP rfl rfl))))).trans (hm0)
  have kn_78 : Hid (c_62 41 20 = n0) := (hF_64 41 20 (fun q => q.elim (fun h => absurd h.2 (ni rfl)) (fun q => q.elim (fun h => absurd h (nn rfl)) (fun q => q.elim (fun h => absurd h (nn rfl)) (fun q => q.elim (fun h => absurd h (nn rfl)) (fun h => absurd h (nn rfl))))))).trans ((up_c (nn rfl)).trans (hid kn_77))
  have h_79 : c_62 41 20 = n0 := (hid kn_78)
  have kn_80 : Hid (c_5 P 1 = n1) := (hF_7 P 1 (fun q => q.elim (fun h => absurd h.1 (np0 hP rfl)) (fun q => q.elim (fun h => absurd h (p0p rfl)) (fun h => absurd h (p0p rfl))))).trans (hn1)
  have kn_81 : Hid (c_62 P 1 = n1) := (hF_64 P 1 (fun q => q.elim (fun h => absurd h.1 (np0 hP rfl)) (fun q => q.elim (fun h => absurd h (np0 hP rfl)) (fun q => q.elim (fun h => absurd h (np0 hP rfl)) (fun q => q.elim (fun h => absurd h (np0 hP rfl)) (fun h => absurd h (np0 hP rfl))))))).trans ((up_c (np0 hP rfl)).trans (hid kn_80))
  have h_82 : c_62 P 1 = n1 := (hid kn_81)
  have kn_83 : Hid (c_5 41 21 = n1) := (hF_7 41 21 (fun q => q.elim (fun h => absurd h.1 (nn rfl)) (fun q => q.elim (fun h => absurd h (pn hP rfl rfl)) (fun h => absurd h (pn hP rfl rfl))))).trans (hm1)
  have kn_84 : Hid (c_62 41 21 = n1) := (hF_64 41 21 (fun q => q.elim (fun h => absurd h.2 (ni rfl)) (fun q => q.elim (fun h => absurd h (nn rfl)) (fun q => q.elim (fun h => absurd h (nn rfl)) (fun q => q.elim (fun h => absurd h (nn rfl)) (fun h => absurd h (nn rfl))))))).trans ((up_c (nn rfl)).trans (hid kn_83))
  have h_85 : c_62 41 21 = n1 := (hid kn_84)
  have kn_86 : Hid (c_5 P 2 = n2) := (hF_7 P 2 (fun q => q.elim (fun h => absurd h.1 (np0 hP rfl)) (fun q => q.elim (fun h => absurd h (p0p rfl)) (fun h => absurd h (p0p rfl))))).trans (hn2)
  have kn_87 : Hid (c_62 P 2 = n2) := (hF_64 P 2 (fun q => q.elim (fun h => absurd h.1 (np0 hP rfl)) (fun q => q.elim (fun h => absurd h (np0 hP rfl)) (fun q => q.elim (fun h => absurd h (np0 hP rfl)) (fun q => q.elim (fun h => absurd h (np0 hP rfl)) (fun h => absurd h (np0 hP rfl))))))).trans ((up_c (np0 hP rfl)).trans (hid kn_86))
  have h_88 : c_62 P 2 = n2 := (hid kn_87)
  have kn_89 : Hid (c_5 41 22 = n2) := (hF_7 41 22 (fun q => q.elim (fun h => absurd h.1 (nn rfl)) (fun q => q.elim (fun h => absurd h (pn hP rfl rfl)) (fun h => absurd h (pn hP rfl rfl))))).trans (hm2)
  have kn_90 : Hid (c_62 41 22 = n2) := (hF_64 41 22 (fun q => q.elim (fun h => absurd h.2 (ni rfl)) (fun q => q.elim (fun h => absurd h (nn rfl)) (fun q => q.elim (fun h => absurd h (nn rfl)) (fun q => q.elim (fun h => absurd h (nn rfl)) (fun h => absurd h (nn rfl))))))).trans ((up_c (nn rfl)).trans (hid kn_89))
  have h_91 : c_62 41 22 = n2 := (hid kn_90)
  have kn_92 : Hid (c_5 P 3 = n3) := (hF_7 P 3 (fun q => q.elim (fun h => absurd h.1 (np0 hP rfl)) (fun q => q.elim (fun h => absurd h (p0p rfl)) (fun h => absurd h (p0p rfl))))).trans (hn3)
  have kn_93 : Hid (c_62 P 3 = n3) := (hF_64 P 3 (fun q => q.elim (fun h => absurd h.1 (np0 hP rfl)) (fun q => q.elim (fun h => absurd h (np0 hP rfl)) (fun q => q.elim (fun h => absurd h (np0 hP rfl)) (fun q => q.elim (fun h => absurd h (np0 hP rfl)) (fun h => absurd h (np0 hP rfl))))))).trans ((up_c (np0 hP rfl)).trans (hid kn_92))
  have h_94 : c_62 P 3 = n3 := (hid kn_93)
  have kn_95 : Hid (c_5 41 23 = n3) := (hF_7 41 23 (fun q => q.elim (fun h => absurd h.1 (nn rfl)) (fun q => q.elim (fun h => absurd h (pn hP rfl rfl)) (fun h => absurd h (pn hP rfl rfl))))).trans (hm3)
  have kn_96 : Hid (c_62 41 23 = n3) := (hF_64 41 23 (fun q => q.elim (fun h => absurd h.2 (ni rfl)) (fun q => q.elim (fun h => absurd h (nn rfl)) (fun q => q.elim (fun h => absurd h (nn rfl)) (fun q => q.elim (fun h => absurd h (nn rfl)) (fun h => absurd h (nn rfl))))))).trans ((up_c (nn rfl)).trans (hid kn_95))
  have h_97 : c_62 41 23 = n3 := (hid kn_96)
  have kn_98 : Hid (c_5 3 4 = c 3 4) := hF_7 3 4 (fun q => q.elim (fun h => absurd h.1 (nn rfl)) (fun q => q.elim (fun h => absurd h (pn hP rfl rfl)) (fun h => absurd h (pn hP rfl rfl))))
  have kn_99 : Hid (c_62 3 4 = c 3 4) := (hF_64 3 4 (fun q => q.elim (fun h => absurd h.1 (nn rfl)) (fun q => q.elim (fun h => absurd h (nn rfl)) (fun q => q.elim (fun h => absurd h (nn rfl)) (fun q => q.elim (fun h => absurd h (nn rfl)) (fun h => absurd h (nn rfl))))))).trans ((up_c (nn rfl)).trans (hid kn_98))
  have h_100 : c_62 3 4 = c 3 4 := (hid kn_99)
  have h_101 := ir_41_52 hI
  have kn_102 : Hid (c_5 41 52 = c 41 52) := hF_7 41 52 (fun q => q.elim (fun h => absurd h.1 (nn rfl)) (fun q => q.elim (fun h => absurd h (pn hP rfl rfl)) (fun h => absurd h (pn hP rfl rfl))))
  have kn_103 : Hid (c_62 41 52 = c 41 52) := (hF_64 41 52 (fun q => q.elim (fun h => absurd h.2 (ni rfl)) (fun q => q.elim (fun h => absurd h (nn rfl)) (fun q => q.elim (fun h => absurd h (nn rfl)) (fun q => q.elim (fun h => absurd h (nn rfl)) (fun h => absurd h (nn rfl))))))).trans ((up_c (nn rfl)).trans (hid kn_102))
  have h_104 : c_62 41 52 = c 41 52 := (hid kn_103)
  have h_105 := ir_3_3 hI
  have kn_106 : Hid (c_5 3 3 = c 3 3) := hF_7 3 3 (fun q => q.elim (fun h => absurd h.1 (nn rfl)) (fun q => q.elim (fun h => absurd h (pn hP rfl rfl)) (fun h => absurd h (pn hP rfl rfl))))
  have kn_107 : Hid (c_62 3 3 = c 3 3) := (hF_64 3 3 (fun q => q.elim (fun h => absurd h.1 (nn rfl)) (fun q => q.elim (fun h => absurd h (nn rfl)) (fun q => q.elim (fun h => absurd h (nn rfl)) (fun q => q.elim (fun h => absurd h (nn rfl)) (fun h => absurd h (nn rfl))))))).trans ((up_c (nn rfl)).trans (hid kn_106))
  have h_108 : c_62 3 3 = c 3 3 := (hid kn_107)
  have h_109 := ir_41_35 hI
  have kn_110 : Hid (c_5 41 35 = c 41 35) := hF_7 41 35 (fun q => q.elim (fun h => absurd h.1 (nn rfl)) (fun q => q.elim (fun h => absurd h (pn hP rfl rfl)) (fun h => absurd h (pn hP rfl rfl))))
  have kn_111 : Hid (c_62 41 35 = c 41 35) := (hF_64 41 35 (fun q => q.elim (fun h => absurd h.2 (ni rfl)) (fun q => q.elim (fun h => absurd h (nn rfl)) (fun q => q.elim (fun h => absurd h (nn rfl)) (fun q => q.elim (fun h => absurd h (nn rfl)) (fun h => absurd h (nn rfl))))))).trans ((up_c (nn rfl)).trans (hid kn_110))
  have h_112 : c_62 41 35 = c 41 35 := (hid kn_111)
  have h_113 : c_62 3 4 = c 3 4 := (hid kn_99)
  exact K P Q c_62 0 (by decide) hI_63 ⟨by omega, ub_fr hU (fun j => (hF_64 2 j (fun q => q.elim (fun h => absurd h.1 (nn rfl)) (fun q => q.elim (fun h => absurd h (nn rfl)) (fun q => q.elim (fun h => absurd h (nn rfl)) (fun q => q.elim (fun h => absurd h (nn rfl)) (fun h => absurd h (nn rfl))))))).trans ((up_c (nn rfl)).trans (hF_7 2 j (fun q => q.elim (fun h => absurd h.1 (nn rfl)) (fun q => q.elim (fun h => absurd h (pn hP rfl rfl)) (fun h => absurd h (pn hP rfl rfl))))))) (fun j => (hF_64 43 j (fun q => q.elim (fun h => absurd h.1 (nn rfl)) (fun q => q.elim (fun h => absurd h (nn rfl)) (fun q => q.elim (fun h => absurd h (nn rfl)) (fun q => q.elim (fun h => absurd h (nn rfl)) (fun h => absurd h (nn rfl))))))).trans ((up_c (nn rfl)).trans (hF_7 43 j (fun q => q.elim (fun h => absurd h.1 (nn rfl)) (fun q => q.elim (fun h => absurd h (pn hP rfl rfl)) (fun h => absurd h (pn hP rfl rfl))))))), ⟨by omega, by omega, by omega, by omega⟩, by omega, by omega, iw_fr2 hIw (by omega) (fun j => (hF_64 6 j (fun q => q.elim (fun h => absurd h.1 (nn rfl)) (fun q => q.elim (fun h => absurd h (nn rfl)) (fun q => q.elim (fun h => absurd h (nn rfl)) (fun q => q.elim (fun h => absurd h (nn rfl)) (fun h => absurd h (nn rfl))))))).trans ((up_c (nn rfl)).trans (hF_7 6 j (fun q => q.elim (fun h => absurd h.1 (nn rfl)) (fun q => q.elim (fun h => absurd h (pn hP rfl rfl)) (fun h => absurd h (pn hP rfl rfl))))))) (fun j => (hF_64 66 j (fun q => q.elim (fun h => absurd h.1 (nn rfl)) (fun q => q.elim (fun h => absurd h (nn rfl)) (fun q => q.elim (fun h => absurd h (nn rfl)) (fun q => q.elim (fun h => absurd h (nn rfl)) (fun h => absurd h (nn rfl))))))).trans ((up_c (nn rfl)).trans (hF_7 66 j (fun q => q.elim (fun h => absurd h.1 (nn rfl)) (fun q => q.elim (fun h => absurd h (pn hP rfl rfl)) (fun h => absurd h (pn hP rfl rfl)))))))⟩

set_option maxRecDepth 100000 in
set_option maxHeartbeats 4000000 in
theorem o_26 {xs : Nat → Int32} {L i0 d nc ns P Q : Nat} {c : ME} {Z : AR → Prop} (hi : i0 + 8 ≤ L) (hL : L ≤ 100000) (hI : Iv 0 (-1) P Q c) (hR : Rq P c) (K : ∀ (P2 Q2 : Nat) (c2 : ME) (e : Nat), e ≤ 1 → Iv 0 (-1) P2 Q2 c2 → (Rq P2 c2) → Wp (a_scr L xs) (d + 90) 296 1816 [(4, vi (i0 : Int)), (3, .ref 67), (2, .ref 41), (1, .ref 0), (0, .ref a_SC)] [] (Wd P2 Q2 P2 P2 c2) (nc + e) (ns + 6 * e) Z) : Wp (a_scr L xs) (d + 90) 296 1287 [(4, vi (i0 : Int)), (3, .ref 67), (2, .ref 41), (1, .ref 0), (0, .ref a_SC)] [] (Wd P Q P P c) nc ns Z := by
  obtain ⟨x1, hx1⟩ : ∃ z, (xs (i0 + 1)).toInt = z := ⟨_, rfl⟩
  have x1r := c_rng (xs (i0 + 1))
  rw [hx1] at x1r
  obtain ⟨x2, hx2⟩ : ∃ z, (xs (i0 + 2)).toInt = z := ⟨_, rfl⟩
  have x2r := c_rng (xs (i0 + 2))
  rw [hx2] at x2r
  obtain ⟨x3, hx3⟩ : ∃ z, (xs (i0 + 3)).toInt = z := ⟨_, rfl⟩
  have x3r := c_rng (xs (i0 + 3))
  rw [hx3] at x3r
  obtain ⟨x4, hx4⟩ : ∃ z, (xs (i0 + 4)).toInt = z := ⟨_, rfl⟩
  have x4r := c_rng (xs (i0 + 4))
  rw [hx4] at x4r
  obtain ⟨x5, hx5⟩ : ∃ z, (xs (i0 + 5)).toInt = z := ⟨_, rfl⟩
  have x5r := c_rng (xs (i0 + 5))
  rw [hx5] at x5r
  obtain ⟨x6, hx6⟩ : ∃ z, (xs (i0 + 6)).toInt = z := ⟨_, rfl⟩
  have x6r := c_rng (xs (i0 + 6))
  rw [hx6] at x6r
  obtain ⟨x7, hx7⟩ : ∃ z, (xs (i0 + 7)).toInt = z := ⟨_, rfl⟩
  have x7r := c_rng (xs (i0 + 7))
  rw [hx7] at x7r
  have hT := rl_t hR
  have hU := rl_u hR
  have hP := iv_P hI
  obtain ⟨n0, hn0⟩ : ∃ z, c P 0 = z := ⟨_, rfl⟩
  have hm0 : c 41 20 = n0 := (rl_nums hR).1.symm.trans hn0
  have hr0 := ir_p0_0 hI hP
  rw [hn0] at hr0
  obtain ⟨n1, hn1⟩ : ∃ z, c P 1 = z := ⟨_, rfl⟩
  have hm1 : c 41 21 = n1 := (rl_nums hR).2.1.symm.trans hn1
  have hr1 := ir_p0_1 hI hP
  rw [hn1] at hr1
  obtain ⟨n2, hn2⟩ : ∃ z, c P 2 = z := ⟨_, rfl⟩
  have hm2 : c 41 22 = n2 := (rl_nums hR).2.2.1.symm.trans hn2
  have hr2 := ir_p0_2 hI hP
  rw [hn2] at hr2
  obtain ⟨n3, hn3⟩ : ∃ z, c P 3 = z := ⟨_, rfl⟩
  have hm3 : c 41 23 = n3 := (rl_nums hR).2.2.2.symm.trans hn3
  have hr3 := ir_p0_3 hI hP
  rw [hn3] at hr3
  have hNimg := rl_img hR
  have hNwk := rl_wk hR
  have h_1 := ir_3_4 hI
  have hIw := rl_iw hR
  have hP := iv_P hI
  have hQ := iv_Q hI
  refine q_aload_n rfl rfl (v_cv rfl rfl rfl rfl (Nat.le_of_ble_eq_true rfl) ⟨⟨rfl, rfl⟩, Nat.le_of_ble_eq_true rfl, rfl⟩ (Nat.le_of_ble_eq_true rfl) (Nat.le_of_ble_eq_true rfl) (s_106 hI (fun c_2 y_5 hI_3 hF_4 hy_5 => (bk_inl (q_pop rfl rfl (q_aload_n rfl rfl (v_cv rfl rfl rfl rfl (Nat.le_of_ble_eq_true rfl) ⟨⟨rfl, rfl⟩, Nat.le_of_ble_eq_true rfl, rfl⟩ (Nat.le_of_ble_eq_true rfl) (Nat.le_of_ble_eq_true rfl) (s_241 hI_3 (fun c_6 y_9 hI_7 hF_8 hy_9 => (bk_inl (q_pop rfl rfl ?_)))))))))))
  refine q_goto (t := 1816) rfl rfl (Wp_ls [(4, vi (i0 : Int)), (3, .ref 67), (2, .ref 41), (1, .ref 0), (0, .ref a_SC)] (lsub_cons rfl (lsub_cons rfl (lsub_cons rfl (lsub_cons rfl (lsub_cons rfl lsub_nil))))) ?_)
  have h_10 := ir_1_3 hI
  have kn_11 : Hid (c_2 1 3 = c 1 3) := hF_4 1 3 (fun q => q.elim (fun h => absurd h (pn hP rfl rfl)) (fun h => absurd h (pn hP rfl rfl)))
  have kn_12 : Hid (c_6 1 3 = c 1 3) := (hF_8 1 3 (fun q => q.elim (fun h => absurd h.1 (nn rfl)) (fun q => q.elim (fun h => absurd h (nn rfl)) (fun q => q.elim (fun h => absurd h (nn rfl)) (fun h => absurd h (nn rfl)))))).trans (hid kn_11)
  have h_13 : c_6 1 3 = c 1 3 := (hid kn_12)
  have h_14 := ir_41_2 hI
  have kn_15 : Hid (c_2 41 2 = c 41 2) := hF_4 41 2 (fun q => q.elim (fun h => absurd h (pn hP rfl rfl)) (fun h => absurd h (pn hP rfl rfl)))
  have kn_16 : Hid (c_6 41 2 = c 41 2) := (hF_8 41 2 (fun q => q.elim (fun h => absurd h.2 (ni rfl)) (fun q => q.elim (fun h => absurd h (nn rfl)) (fun q => q.elim (fun h => absurd h (nn rfl)) (fun h => absurd h (nn rfl)))))).trans (hid kn_15)
  have h_17 : c_6 41 2 = c 41 2 := (hid kn_16)
  have kn_18 : Hid (c_2 P 0 = n0) := (hF_4 P 0 (fun q => q.elim (fun h => absurd h (p0p rfl)) (fun h => absurd h (p0p rfl)))).trans (hn0)
  have kn_19 : Hid (c_6 P 0 = n0) := (hF_8 P 0 (fun q => q.elim (fun h => absurd h.1 (np0 hP rfl)) (fun q => q.elim (fun h => absurd h (np0 hP rfl)) (fun q => q.elim (fun h => absurd h (np0 hP rfl)) (fun h => absurd h (np0 hP rfl)))))).trans (hid kn_18)
  have h_20 : c_6 P 0 = n0 := (hid kn_19)
  have kn_21 : Hid (c_2 41 20 = n0) := (hF_4 41 20 (fun q => q.elim (fun h => absurd h (pn hP rfl rfl)) (fun h => absurd h (pn hP rfl rfl)))).trans (hm0)
  have kn_22 : Hid (c_6 41 20 = n0) := (hF_8 41 20 (fun q => q.elim (fun h => absurd h.2 (ni rfl)) (fun q => q.elim (fun h => absurd h (nn rfl)) (fun q => q.elim (fun h => absurd h (nn rfl)) (fun h => absurd h (nn rfl)))))).trans (hid kn_21)
  have h_23 : c_6 41 20 = n0 := (hid kn_22)
  have kn_24 : Hid (c_2 P 1 = n1) := (hF_4 P 1 (fun q => q.elim (fun h => absurd h (p0p rfl)) (fun h => absurd h (p0p rfl)))).trans (hn1)
  have kn_25 : Hid (c_6 P 1 = n1) := (hF_8 P 1 (fun q => q.elim (fun h => absurd h.1 (np0 hP rfl)) (fun q => q.elim (fun h => absurd h (np0 hP rfl)) (fun q => q.elim (fun h => absurd h (np0 hP rfl)) (fun h => absurd h (np0 hP rfl)))))).trans (hid kn_24)
  have h_26 : c_6 P 1 = n1 := (hid kn_25)
  have kn_27 : Hid (c_2 41 21 = n1) := (hF_4 41 21 (fun q => q.elim (fun h => absurd h (pn hP rfl rfl)) (fun h => absurd h (pn hP rfl rfl)))).trans (hm1)
  have kn_28 : Hid (c_6 41 21 = n1) := (hF_8 41 21 (fun q => q.elim (fun h => absurd h.2 (ni rfl)) (fun q => q.elim (fun h => absurd h (nn rfl)) (fun q => q.elim (fun h => absurd h (nn rfl)) (fun h => absurd h (nn rfl)))))).trans (hid kn_27)
  have h_29 : c_6 41 21 = n1 := (hid kn_28)
  have kn_30 : Hid (c_2 P 2 = n2) := (hF_4 P 2 (fun q => q.elim (fun h => absurd h (p0p rfl)) (fun h => absurd h (p0p rfl)))).trans (hn2)
  have kn_31 : Hid (c_6 P 2 = n2) := (hF_8 P 2 (fun q => q.elim (fun h => absurd h.1 (np0 hP rfl)) (fun q => q.elim (fun h => absurd h (np0 hP rfl)) (fun q => q.elim (fun h => absurd h (np0 hP rfl)) (fun h => absurd h (np0 hP rfl)))))).trans (hid kn_30)
  have h_32 : c_6 P 2 = n2 := (hid kn_31)
  have kn_33 : Hid (c_2 41 22 = n2) := (hF_4 41 22 (fun q => q.elim (fun h => absurd h (pn hP rfl rfl)) (fun h => absurd h (pn hP rfl rfl)))).trans (hm2)
  have kn_34 : Hid (c_6 41 22 = n2) := (hF_8 41 22 (fun q => q.elim (fun h => absurd h.2 (ni rfl)) (fun q => q.elim (fun h => absurd h (nn rfl)) (fun q => q.elim (fun h => absurd h (nn rfl)) (fun h => absurd h (nn rfl)))))).trans (hid kn_33)
  have h_35 : c_6 41 22 = n2 := (hid kn_34)
  have kn_36 : Hid (c_2 P 3 = n3) := (hF_4 P 3 (fun q => q.elim (fun h => absurd h (p0p rfl)) (fun h => absurd h (p0p rfl)))).trans (hn3)
  have kn_37 : Hid (c_6 P 3 = n3) := (hF_8 P 3 (fun q => q.elim (fun h => absurd h.1 (np0 hP rfl)) (fun q => q.elim (fun h => absurd h (np0 hP rfl)) (fun q => q.elim (fun h => absurd h (np0 hP rfl)) (fun h => absurd h (np0 hP rfl)))))).trans (hid kn_36)
  have h_38 : c_6 P 3 = n3 := (hid kn_37)
  have kn_39 : Hid (c_2 41 23 = n3) := (hF_4 41 23 (fun q => q.elim (fun h => absurd h (pn hP rfl rfl)) (fun h => absurd h (pn hP rfl rfl)))).trans (hm3)
  have kn_40 : Hid (c_6 41 23 = n3) := (hF_8 41 23 (fun q => q.elim (fun h => absurd h.2 (ni rfl)) (fun q => q.elim (fun h => absurd h (nn rfl)) (fun q => q.elim (fun h => absurd h (nn rfl)) (fun h => absurd h (nn rfl)))))).trans (hid kn_39)
  have h_41 : c_6 41 23 = n3 := (hid kn_40)
  have kn_42 : Hid (c_2 3 4 = c 3 4) := hF_4 3 4 (fun q => q.elim (fun h => absurd h (pn hP rfl rfl)) (fun h => absurd h (pn hP rfl rfl)))
  have kn_43 : Hid (c_6 3 4 = c 3 4) := (hF_8 3 4 (fun q => q.elim (fun h => absurd h.1 (nn rfl)) (fun q => q.elim (fun h => absurd h (nn rfl)) (fun q => q.elim (fun h => absurd h (nn rfl)) (fun h => absurd h (nn rfl)))))).trans (hid kn_42)
  have h_44 : c_6 3 4 = c 3 4 := (hid kn_43)
  have h_45 := ir_41_52 hI
  have kn_46 : Hid (c_2 41 52 = c 41 52) := hF_4 41 52 (fun q => q.elim (fun h => absurd h (pn hP rfl rfl)) (fun h => absurd h (pn hP rfl rfl)))
  have kn_47 : Hid (c_6 41 52 = c 41 52) := (hF_8 41 52 (fun q => q.elim (fun h => absurd h.2 (ni rfl)) (fun q => q.elim (fun h => absurd h (nn rfl)) (fun q => q.elim (fun h => absurd h (nn rfl)) (fun h => absurd h (nn rfl)))))).trans (hid kn_46)
  have h_48 : c_6 41 52 = c 41 52 := (hid kn_47)
  have h_49 := ir_3_3 hI
  have kn_50 : Hid (c_2 3 3 = c 3 3) := hF_4 3 3 (fun q => q.elim (fun h => absurd h (pn hP rfl rfl)) (fun h => absurd h (pn hP rfl rfl)))
  have kn_51 : Hid (c_6 3 3 = c 3 3) := (hF_8 3 3 (fun q => q.elim (fun h => absurd h.1 (nn rfl)) (fun q => q.elim (fun h => absurd h (nn rfl)) (fun q => q.elim (fun h => absurd h (nn rfl)) (fun h => absurd h (nn rfl)))))).trans (hid kn_50)
  have h_52 : c_6 3 3 = c 3 3 := (hid kn_51)
  have h_53 := ir_41_35 hI
  have kn_54 : Hid (c_2 41 35 = c 41 35) := hF_4 41 35 (fun q => q.elim (fun h => absurd h (pn hP rfl rfl)) (fun h => absurd h (pn hP rfl rfl)))
  have kn_55 : Hid (c_6 41 35 = c 41 35) := (hF_8 41 35 (fun q => q.elim (fun h => absurd h.2 (ni rfl)) (fun q => q.elim (fun h => absurd h (nn rfl)) (fun q => q.elim (fun h => absurd h (nn rfl)) (fun h => absurd h (nn rfl)))))).trans (hid kn_54)
  have h_56 : c_6 41 35 = c 41 35 := (hid kn_55)
  have h_57 : c_6 3 4 = c 3 4 := (hid kn_43)
  exact K P Q c_6 0 (by decide) hI_7 ⟨by omega, ub_fr hU (fun j => (hF_8 2 j (fun q => q.elim (fun h => absurd h.1 (nn rfl)) (fun q => q.elim (fun h => absurd h (nn rfl)) (fun q => q.elim (fun h => absurd h (nn rfl)) (fun h => absurd h (nn rfl)))))).trans (hF_4 2 j (fun q => q.elim (fun h => absurd h (pn hP rfl rfl)) (fun h => absurd h (pn hP rfl rfl))))) (fun j => (hF_8 43 j (fun q => q.elim (fun h => absurd h.1 (nn rfl)) (fun q => q.elim (fun h => absurd h (nn rfl)) (fun q => q.elim (fun h => absurd h (nn rfl)) (fun h => absurd h (nn rfl)))))).trans (hF_4 43 j (fun q => q.elim (fun h => absurd h (pn hP rfl rfl)) (fun h => absurd h (pn hP rfl rfl))))), ⟨by omega, by omega, by omega, by omega⟩, by omega, by omega, iw_fr2 hIw (by omega) (fun j => (hF_8 6 j (fun q => q.elim (fun h => absurd h.1 (nn rfl)) (fun q => q.elim (fun h => absurd h (nn rfl)) (fun q => q.elim (fun h => absurd h (nn rfl)) (fun h => absurd h (nn rfl)))))).trans (hF_4 6 j (fun q => q.elim (fun h => absurd h (pn hP rfl rfl)) (fun h => absurd h (pn hP rfl rfl))))) (fun j => (hF_8 66 j (fun q => q.elim (fun h => absurd h.1 (nn rfl)) (fun q => q.elim (fun h => absurd h (nn rfl)) (fun q => q.elim (fun h => absurd h (nn rfl)) (fun h => absurd h (nn rfl)))))).trans (hF_4 66 j (fun q => q.elim (fun h => absurd h (pn hP rfl rfl)) (fun h => absurd h (pn hP rfl rfl)))))⟩

set_option maxRecDepth 100000 in
set_option maxHeartbeats 4000000 in
theorem o_27 {xs : Nat → Int32} {L i0 d nc ns P Q : Nat} {c : ME} {Z : AR → Prop} (hi : i0 + 8 ≤ L) (hL : L ≤ 100000) (hI : Iv 0 (-1) P Q c) (hR : Rq P c) (K : ∀ (P2 Q2 : Nat) (c2 : ME) (e : Nat), e ≤ 1 → Iv 0 (-1) P2 Q2 c2 → (Rq P2 c2) → Wp (a_scr L xs) (d + 90) 296 1816 [(4, vi (i0 : Int)), (3, .ref 67), (2, .ref 41), (1, .ref 0), (0, .ref a_SC)] [] (Wd P2 Q2 P2 P2 c2) (nc + e) (ns + 6 * e) Z) : Wp (a_scr L xs) (d + 90) 296 1300 [(4, vi (i0 : Int)), (3, .ref 67), (2, .ref 41), (1, .ref 0), (0, .ref a_SC)] [] (Wd P Q P P c) nc ns Z := by
  obtain ⟨x1, hx1⟩ : ∃ z, (xs (i0 + 1)).toInt = z := ⟨_, rfl⟩
  have x1r := c_rng (xs (i0 + 1))
  rw [hx1] at x1r
  obtain ⟨x2, hx2⟩ : ∃ z, (xs (i0 + 2)).toInt = z := ⟨_, rfl⟩
  have x2r := c_rng (xs (i0 + 2))
  rw [hx2] at x2r
  obtain ⟨x3, hx3⟩ : ∃ z, (xs (i0 + 3)).toInt = z := ⟨_, rfl⟩
  have x3r := c_rng (xs (i0 + 3))
  rw [hx3] at x3r
  obtain ⟨x4, hx4⟩ : ∃ z, (xs (i0 + 4)).toInt = z := ⟨_, rfl⟩
  have x4r := c_rng (xs (i0 + 4))
  rw [hx4] at x4r
  obtain ⟨x5, hx5⟩ : ∃ z, (xs (i0 + 5)).toInt = z := ⟨_, rfl⟩
  have x5r := c_rng (xs (i0 + 5))
  rw [hx5] at x5r
  obtain ⟨x6, hx6⟩ : ∃ z, (xs (i0 + 6)).toInt = z := ⟨_, rfl⟩
  have x6r := c_rng (xs (i0 + 6))
  rw [hx6] at x6r
  obtain ⟨x7, hx7⟩ : ∃ z, (xs (i0 + 7)).toInt = z := ⟨_, rfl⟩
  have x7r := c_rng (xs (i0 + 7))
  rw [hx7] at x7r
  have hT := rl_t hR
  have hU := rl_u hR
  have hP := iv_P hI
  obtain ⟨n0, hn0⟩ : ∃ z, c P 0 = z := ⟨_, rfl⟩
  have hm0 : c 41 20 = n0 := (rl_nums hR).1.symm.trans hn0
  have hr0 := ir_p0_0 hI hP
  rw [hn0] at hr0
  obtain ⟨n1, hn1⟩ : ∃ z, c P 1 = z := ⟨_, rfl⟩
  have hm1 : c 41 21 = n1 := (rl_nums hR).2.1.symm.trans hn1
  have hr1 := ir_p0_1 hI hP
  rw [hn1] at hr1
  obtain ⟨n2, hn2⟩ : ∃ z, c P 2 = z := ⟨_, rfl⟩
  have hm2 : c 41 22 = n2 := (rl_nums hR).2.2.1.symm.trans hn2
  have hr2 := ir_p0_2 hI hP
  rw [hn2] at hr2
  obtain ⟨n3, hn3⟩ : ∃ z, c P 3 = z := ⟨_, rfl⟩
  have hm3 : c 41 23 = n3 := (rl_nums hR).2.2.2.symm.trans hn3
  have hr3 := ir_p0_3 hI hP
  rw [hn3] at hr3
  have hNimg := rl_img hR
  have hNwk := rl_wk hR
  have h_1 := ir_3_4 hI
  have hIw := rl_iw hR
  have hP := iv_P hI
  have hQ := iv_Q hI
  refine q_aload_n rfl rfl (q_aload_n rfl rfl (q_iload rfl rfl (q_iconst rfl (v_iadd (v := (i0 : Int) + 1) rfl rfl (v_scr (j := i0 + 1) rfl (by omega) (by omega) hL hx1 (q_aload_n rfl rfl (q_iload rfl rfl ?_)))))))
  refine q_iconst rfl (v_iadd (v := (i0 : Int) + 2) rfl rfl (v_scr (j := i0 + 2) rfl (by omega) (by omega) hL hx2 (q_aload_n rfl rfl (q_call rfl rfl rfl rfl (q_aload_n rfl rfl (q_iconst rfl (q_aload_n rfl rfl ?_)))))))
  refine q_iload_n rfl rfl (q_iload_n rfl rfl ?_)
  refine v_cv rfl rfl rfl rfl (Nat.le_of_ble_eq_true rfl) ⟨⟨rfl, rfl⟩, Nat.le_of_ble_eq_true rfl, rfl⟩ (Nat.le_of_ble_eq_true rfl) (Nat.le_of_ble_eq_true rfl) (s_108 (a1 := x1) (a2 := x2) hI (show (-2147483648) ≤ x1 ∧ x1 ≤ 2147483647 from ⟨by omega, by omega⟩) (show (-2147483648) ≤ x2 ∧ x2 ≤ 2147483647 from ⟨by omega, by omega⟩) (fun c_2 hI_3 hF_4 => ?_) (fun c_5 y_8 hI_6 hF_7 hy_8 => ?_))
  · skip
    refine bk_thr (z := Int32.ofInt 1) rfl ⟨_, _, rfl⟩ rfl (bk_inl (q_istore rfl (Nat.le_of_ble_eq_true rfl) (q_aload_n rfl rfl (q_aload_n rfl rfl (q_iload rfl rfl (q_iconst rfl (v_iadd (v := (i0 : Int) + 1) rfl rfl ?_)))))))
    refine v_scr (j := i0 + 1) rfl (by omega) (by omega) hL hx1 (q_aload_n rfl rfl (q_iload rfl rfl (q_iconst rfl (v_iadd (v := (i0 : Int) + 2) rfl rfl (v_scr (j := i0 + 2) rfl (by omega) (by omega) hL hx2 (v_cv rfl rfl rfl rfl (Nat.le_of_ble_eq_true rfl) ⟨⟨rfl, rfl⟩, Nat.le_of_ble_eq_true rfl, rfl⟩ (Nat.le_of_ble_eq_true rfl) (Nat.le_of_ble_eq_true rfl) (s_242 (a1 := x1) (a2 := x2) hI_3 (show (-2147483648) ≤ x1 ∧ x1 ≤ 2147483647 from ⟨by omega, by omega⟩) (show (-2147483648) ≤ x2 ∧ x2 ≤ 2147483647 from ⟨by omega, by omega⟩) (fun c_9 y_12 hI_10 hF_11 hy_12 => (bk_inl ?_)))))))))
    refine q_istore rfl (Nat.le_of_ble_eq_true rfl) (q_goto (t := 1816) rfl rfl (Wp_ls [(4, vi (i0 : Int)), (3, .ref 67), (2, .ref 41), (1, .ref 0), (0, .ref a_SC)] (lsub_cons rfl (lsub_cons rfl (lsub_cons rfl (lsub_cons rfl (lsub_cons rfl lsub_nil))))) ?_))
    have h_13 := ir_1_3 hI
    have kn_14 : Hid (c_2 1 3 = c 1 3) := hF_4 1 3 (fun q => q.elim (fun h => absurd h.1 (nn rfl)) (fun q => q.elim (fun h => absurd h (pn hP rfl rfl)) (fun q => q.elim (fun h => absurd h (pn hP rfl rfl)) (fun h => absurd h (nn rfl)))))
    have kn_15 : Hid (c_9 1 3 = c 1 3) := (hF_11 1 3 (fun q => q.elim (fun h => absurd h.1 (nn rfl)) (fun q => q.elim (fun h => absurd h (nn rfl)) (fun q => q.elim (fun h => absurd h (nn rfl)) (fun q => q.elim (fun h => absurd h (nn rfl)) (fun h => absurd h (nn rfl))))))).trans (hid kn_14)
    have h_16 : c_9 1 3 = c 1 3 := (hid kn_15)
    have h_17 := ir_41_2 hI
    have kn_18 : Hid (c_2 41 2 = c 41 2) := hF_4 41 2 (fun q => q.elim (fun h => absurd h.1 (nn rfl)) (fun q => q.elim (fun h => absurd h (pn hP rfl rfl)) (fun q => q.elim (fun h => absurd h (pn hP rfl rfl)) (fun h => absurd h (nn rfl)))))
    have kn_19 : Hid (c_9 41 2 = c 41 2) := (hF_11 41 2 (fun q => q.elim (fun h => absurd h.2 (ni rfl)) (fun q => q.elim (fun h => absurd h (nn rfl)) (fun q => q.elim (fun h => absurd h (nn rfl)) (fun q => q.elim (fun h => absurd h (nn rfl)) (fun h => absurd h (nn rfl))))))).trans (hid kn_18)
    have h_20 : c_9 41 2 = c 41 2 := (hid kn_19)
    have kn_21 : Hid (c_2 P 0 = n0) := (hF_4 P 0 (fun q => q.elim (fun h => absurd h.1 (np0 hP rfl)) (fun q => q.elim (fun h => absurd h (p0p rfl)) (fun q => q.elim (fun h => absurd h (p0p rfl)) (fun h => absurd h (np0 hP rfl)))))).trans (hn0)
    have kn_22 : Hid (c_9 P 0 = n0) := (hF_11 P 0 (fun q => q.elim (fun h => absurd h.1 (np0 hP rfl)) (fun q => q.elim (fun h => absurd h (np0 hP rfl)) (fun q => q.elim (fun h => absurd h (np0 hP rfl)) (fun q => q.elim (fun h => absurd h (np0 hP rfl)) (fun h => absurd h (np0 hP rfl))))))).trans (hid kn_21)
    have h_23 : c_9 P 0 = n0 := (hid kn_22)
    have kn_24 : Hid (c_2 41 20 = n0) := (hF_4 41 20 (fun q => q.elim (fun h => absurd h.1 (nn rfl)) (fun q => q.elim (fun h => absurd h (pn hP rfl rfl)) (fun q => q.elim (fun h => absurd h (pn hP rfl rfl)) (fun h => absurd h (nn rfl)))))).trans (hm0)
    have kn_25 : Hid (c_9 41 20 = n0) := (hF_11 41 20 (fun q => q.elim (fun h => absurd h.2 (ni rfl)) (fun q => q.elim (fun h => absurd h (nn rfl)) (fun q => q.elim (fun h => absurd h (nn rfl)) (fun q => q.elim (fun h => absurd h (nn rfl)) (fun h => absurd h (nn rfl))))))).trans (hid kn_24)
    have h_26 : c_9 41 20 = n0 := (hid kn_25)
    have kn_27 : Hid (c_2 P 1 = n1) := (hF_4 P 1 (fun q => q.elim (fun h => absurd h.1 (np0 hP rfl)) (fun q => q.elim (fun h => absurd h (p0p rfl)) (fun q => q.elim (fun h => absurd h (p0p rfl)) (fun h => absurd h (np0 hP rfl)))))).trans (hn1)
    have kn_28 : Hid (c_9 P 1 = n1) := (hF_11 P 1 (fun q => q.elim (fun h => absurd h.1 (np0 hP rfl)) (fun q => q.elim (fun h => absurd h (np0 hP rfl)) (fun q => q.elim (fun h => absurd h (np0 hP rfl)) (fun q => q.elim (fun h => absurd h (np0 hP rfl)) (fun h => absurd h (np0 hP rfl))))))).trans (hid kn_27)
    have h_29 : c_9 P 1 = n1 := (hid kn_28)
    have kn_30 : Hid (c_2 41 21 = n1) := (hF_4 41 21 (fun q => q.elim (fun h => absurd h.1 (nn rfl)) (fun q => q.elim (fun h => absurd h (pn hP rfl rfl)) (fun q => q.elim (fun h => absurd h (pn hP rfl rfl)) (fun h => absurd h (nn rfl)))))).trans (hm1)
    have kn_31 : Hid (c_9 41 21 = n1) := (hF_11 41 21 (fun q => q.elim (fun h => absurd h.2 (ni rfl)) (fun q => q.elim (fun h => absurd h (nn rfl)) (fun q => q.elim (fun h => absurd h (nn rfl)) (fun q => q.elim (fun h => absurd h (nn rfl)) (fun h => absurd h (nn rfl))))))).trans (hid kn_30)
    have h_32 : c_9 41 21 = n1 := (hid kn_31)
    have kn_33 : Hid (c_2 P 2 = n2) := (hF_4 P 2 (fun q => q.elim (fun h => absurd h.1 (np0 hP rfl)) (fun q => q.elim (fun h => absurd h (p0p rfl)) (fun q => q.elim (fun h => absurd h (p0p rfl)) (fun h => absurd h (np0 hP rfl)))))).trans (hn2)
    have kn_34 : Hid (c_9 P 2 = n2) := (hF_11 P 2 (fun q => q.elim (fun h => absurd h.1 (np0 hP rfl)) (fun q => q.elim (fun h => absurd h (np0 hP rfl)) (fun q => q.elim (fun h => absurd h (np0 hP rfl)) (fun q => q.elim (fun h => absurd h (np0 hP rfl)) (fun h => absurd h (np0 hP rfl))))))).trans (hid kn_33)
    have h_35 : c_9 P 2 = n2 := (hid kn_34)
    have kn_36 : Hid (c_2 41 22 = n2) := (hF_4 41 22 (fun q => q.elim (fun h => absurd h.1 (nn rfl)) (fun q => q.elim (fun h => absurd h (pn hP rfl rfl)) (fun q => q.elim (fun h => absurd h (pn hP rfl rfl)) (fun h => absurd h (nn rfl)))))).trans (hm2)
    have kn_37 : Hid (c_9 41 22 = n2) := (hF_11 41 22 (fun q => q.elim (fun h => absurd h.2 (ni rfl)) (fun q => q.elim (fun h => absurd h (nn rfl)) (fun q => q.elim (fun h => absurd h (nn rfl)) (fun q => q.elim (fun h => absurd h (nn rfl)) (fun h => absurd h (nn rfl))))))).trans (hid kn_36)
    have h_38 : c_9 41 22 = n2 := (hid kn_37)
    have kn_39 : Hid (c_2 P 3 = n3) := (hF_4 P 3 (fun q => q.elim (fun h => absurd h.1 (np0 hP rfl)) (fun q => q.elim (fun h => absurd h (p0p rfl)) (fun q => q.elim (fun h => absurd h (p0p rfl)) (fun h => absurd h (np0 hP rfl)))))).trans (hn3)
    have kn_40 : Hid (c_9 P 3 = n3) := (hF_11 P 3 (fun q => q.elim (fun h => absurd h.1 (np0 hP rfl)) (fun q => q.elim (fun h => absurd h (np0 hP rfl)) (fun q => q.elim (fun h => absurd h (np0 hP rfl)) (fun q => q.elim (fun h => absurd h (np0 hP rfl)) (fun h => absurd h (np0 hP rfl))))))).trans (hid kn_39)
    have h_41 : c_9 P 3 = n3 := (hid kn_40)
    have kn_42 : Hid (c_2 41 23 = n3) := (hF_4 41 23 (fun q => q.elim (fun h => absurd h.1 (nn rfl)) (fun q => q.elim (fun h => absurd h (pn hP rfl rfl)) (fun q => q.elim (fun h => absurd h (pn hP rfl rfl)) (fun h => absurd h (nn rfl)))))).trans (hm3)
    have kn_43 : Hid (c_9 41 23 = n3) := (hF_11 41 23 (fun q => q.elim (fun h => absurd h.2 (ni rfl)) (fun q => q.elim (fun h => absurd h (nn rfl)) (fun q => q.elim (fun h => absurd h (nn rfl)) (fun q => q.elim (fun h => absurd h (nn rfl)) (fun h => absurd h (nn rfl))))))).trans (hid kn_42)
    have h_44 : c_9 41 23 = n3 := (hid kn_43)
    have kn_45 : Hid (c_2 3 4 = c 3 4) := hF_4 3 4 (fun q => q.elim (fun h => absurd h.1 (nn rfl)) (fun q => q.elim (fun h => absurd h (pn hP rfl rfl)) (fun q => q.elim (fun h => absurd h (pn hP rfl rfl)) (fun h => absurd h (nn rfl)))))
    have kn_46 : Hid (c_9 3 4 = c 3 4) := (hF_11 3 4 (fun q => q.elim (fun h => absurd h.1 (nn rfl)) (fun q => q.elim (fun h => absurd h (nn rfl)) (fun q => q.elim (fun h => absurd h (nn rfl)) (fun q => q.elim (fun h => absurd h (nn rfl)) (fun h => absurd h (nn rfl))))))).trans (hid kn_45)
    have h_47 : c_9 3 4 = c 3 4 := (hid kn_46)
    have h_48 := ir_41_52 hI
    have kn_49 : Hid (c_2 41 52 = c 41 52) := hF_4 41 52 (fun q => q.elim (fun h => absurd h.1 (nn rfl)) (fun q => q.elim (fun h => absurd h (pn hP rfl rfl)) (fun q => q.elim (fun h => absurd h (pn hP rfl rfl)) (fun h => absurd h (nn rfl)))))
    have kn_50 : Hid (c_9 41 52 = c 41 52) := (hF_11 41 52 (fun q => q.elim (fun h => absurd h.2 (ni rfl)) (fun q => q.elim (fun h => absurd h (nn rfl)) (fun q => q.elim (fun h => absurd h (nn rfl)) (fun q => q.elim (fun h => absurd h (nn rfl)) (fun h => absurd h (nn rfl))))))).trans (hid kn_49)
    have h_51 : c_9 41 52 = c 41 52 := (hid kn_50)
    have h_52 := ir_3_3 hI
    have kn_53 : Hid (c_2 3 3 = c 3 3) := hF_4 3 3 (fun q => q.elim (fun h => absurd h.1 (nn rfl)) (fun q => q.elim (fun h => absurd h (pn hP rfl rfl)) (fun q => q.elim (fun h => absurd h (pn hP rfl rfl)) (fun h => absurd h (nn rfl)))))
    have kn_54 : Hid (c_9 3 3 = c 3 3) := (hF_11 3 3 (fun q => q.elim (fun h => absurd h.1 (nn rfl)) (fun q => q.elim (fun h => absurd h (nn rfl)) (fun q => q.elim (fun h => absurd h (nn rfl)) (fun q => q.elim (fun h => absurd h (nn rfl)) (fun h => absurd h (nn rfl))))))).trans (hid kn_53)
    have h_55 : c_9 3 3 = c 3 3 := (hid kn_54)
    have h_56 := ir_41_35 hI
    have kn_57 : Hid (c_2 41 35 = c 41 35) := hF_4 41 35 (fun q => q.elim (fun h => absurd h.1 (nn rfl)) (fun q => q.elim (fun h => absurd h (pn hP rfl rfl)) (fun q => q.elim (fun h => absurd h (pn hP rfl rfl)) (fun h => absurd h (nn rfl)))))
    have kn_58 : Hid (c_9 41 35 = c 41 35) := (hF_11 41 35 (fun q => q.elim (fun h => absurd h.2 (ni rfl)) (fun q => q.elim (fun h => absurd h (nn rfl)) (fun q => q.elim (fun h => absurd h (nn rfl)) (fun q => q.elim (fun h => absurd h (nn rfl)) (fun h => absurd h (nn rfl))))))).trans (hid kn_57)
    have h_59 : c_9 41 35 = c 41 35 := (hid kn_58)
    have h_60 : c_9 3 4 = c 3 4 := (hid kn_46)
    exact K P Q c_9 1 (by decide) hI_10 ⟨by omega, ub_fr hU (fun j => (hF_11 2 j (fun q => q.elim (fun h => absurd h.1 (nn rfl)) (fun q => q.elim (fun h => absurd h (nn rfl)) (fun q => q.elim (fun h => absurd h (nn rfl)) (fun q => q.elim (fun h => absurd h (nn rfl)) (fun h => absurd h (nn rfl))))))).trans (hF_4 2 j (fun q => q.elim (fun h => absurd h.1 (nn rfl)) (fun q => q.elim (fun h => absurd h (pn hP rfl rfl)) (fun q => q.elim (fun h => absurd h (pn hP rfl rfl)) (fun h => absurd h (nn rfl))))))) (fun j => (hF_11 43 j (fun q => q.elim (fun h => absurd h.1 (nn rfl)) (fun q => q.elim (fun h => absurd h (nn rfl)) (fun q => q.elim (fun h => absurd h (nn rfl)) (fun q => q.elim (fun h => absurd h (nn rfl)) (fun h => absurd h (nn rfl))))))).trans (hF_4 43 j (fun q => q.elim (fun h => absurd h.1 (nn rfl)) (fun q => q.elim (fun h => absurd h (pn hP rfl rfl)) (fun q => q.elim (fun h => absurd h (pn hP rfl rfl)) (fun h => absurd h (nn rfl))))))), ⟨by omega, by omega, by omega, by omega⟩, by omega, by omega, iw_fr2 hIw (by omega) (fun j => (hF_11 6 j (fun q => q.elim (fun h => absurd h.1 (nn rfl)) (fun q => q.elim (fun h => absurd h (nn rfl)) (fun q => q.elim (fun h => absurd h (nn rfl)) (fun q => q.elim (fun h => absurd h (nn rfl)) (fun h => absurd h (nn rfl))))))).trans (hF_4 6 j (fun q => q.elim (fun h => absurd h.1 (nn rfl)) (fun q => q.elim (fun h => absurd h (pn hP rfl rfl)) (fun q => q.elim (fun h => absurd h (pn hP rfl rfl)) (fun h => absurd h (nn rfl))))))) (fun j => (hF_11 66 j (fun q => q.elim (fun h => absurd h.1 (nn rfl)) (fun q => q.elim (fun h => absurd h (nn rfl)) (fun q => q.elim (fun h => absurd h (nn rfl)) (fun q => q.elim (fun h => absurd h (nn rfl)) (fun h => absurd h (nn rfl))))))).trans (hF_4 66 j (fun q => q.elim (fun h => absurd h.1 (nn rfl)) (fun q => q.elim (fun h => absurd h (pn hP rfl rfl)) (fun q => q.elim (fun h => absurd h (pn hP rfl rfl)) (fun h => absurd h (nn rfl)))))))⟩
  refine bk_inl (v_i2l rfl (by omega) (v_ls rfl rfl (by decide) (by decide) (by decide) (q_goto (t := 17) rfl rfl (q_iconst rfl (q_iret rfl rfl (bk_inl (q_istore rfl (Nat.le_of_ble_eq_true rfl) ?_)))))))
  refine q_aload_n rfl rfl (q_aload_n rfl rfl (q_iload rfl rfl (q_iconst rfl (v_iadd (v := (i0 : Int) + 1) rfl rfl (v_scr (j := i0 + 1) rfl (by omega) (by omega) hL hx1 (q_aload_n rfl rfl (q_iload rfl rfl ?_)))))))
  refine q_iconst rfl (v_iadd (v := (i0 : Int) + 2) rfl rfl (v_scr (j := i0 + 2) rfl (by omega) (by omega) hL hx2 ?_))
  have hI_61 := iw_lx (a := 67) (j := 0) (v := y_8) hI_6 (by omega)
  refine v_cv rfl rfl rfl rfl (Nat.le_of_ble_eq_true rfl) ⟨⟨rfl, rfl⟩, Nat.le_of_ble_eq_true rfl, rfl⟩ (Nat.le_of_ble_eq_true rfl) (Nat.le_of_ble_eq_true rfl) (s_242 (a1 := x1) (a2 := x2) hI_61 (show (-2147483648) ≤ x1 ∧ x1 ≤ 2147483647 from ⟨by omega, by omega⟩) (show (-2147483648) ≤ x2 ∧ x2 ≤ 2147483647 from ⟨by omega, by omega⟩) (fun c_62 y_65 hI_63 hF_64 hy_65 => (bk_inl (q_istore rfl (Nat.le_of_ble_eq_true rfl) (q_goto (t := 1816) rfl rfl (Wp_ls [(4, vi (i0 : Int)), (3, .ref 67), (2, .ref 41), (1, .ref 0), (0, .ref a_SC)] (lsub_cons rfl (lsub_cons rfl (lsub_cons rfl (lsub_cons rfl (lsub_cons rfl lsub_nil))))) ?_))))))
  have h_66 := ir_1_3 hI
  have kn_67 : Hid (c_5 1 3 = c 1 3) := hF_7 1 3 (fun q => q.elim (fun h => absurd h.1 (nn rfl)) (fun q => q.elim (fun h => absurd h (pn hP rfl rfl)) (fun q => q.elim (fun h => absurd h (pn hP rfl rfl)) (fun h => absurd h (nn rfl)))))
  have kn_68 : Hid (c_62 1 3 = c 1 3) := (hF_64 1 3 (fun q => q.elim (fun h => absurd h.1 (nn rfl)) (fun q => q.elim (fun h => absurd h (nn rfl)) (fun q => q.elim (fun h => absurd h (nn rfl)) (fun q => q.elim (fun h => absurd h (nn rfl)) (fun h => absurd h (nn rfl))))))).trans ((up_c (nn rfl)).trans (hid kn_67))
  have h_69 : c_62 1 3 = c 1 3 := (hid kn_68)
  have h_70 := ir_41_2 hI
  have kn_71 : Hid (c_5 41 2 = c 41 2) := hF_7 41 2 (fun q => q.elim (fun h => absurd h.1 (nn rfl)) (fun q => q.elim (fun h => absurd h (pn hP rfl rfl)) (fun q => q.elim (fun h => absurd h (pn hP rfl rfl)) (fun h => absurd h (nn rfl)))))
  have kn_72 : Hid (c_62 41 2 = c 41 2) := (hF_64 41 2 (fun q => q.elim (fun h => absurd h.2 (ni rfl)) (fun q => q.elim (fun h => absurd h (nn rfl)) (fun q => q.elim (fun h => absurd h (nn rfl)) (fun q => q.elim (fun h => absurd h (nn rfl)) (fun h => absurd h (nn rfl))))))).trans ((up_c (nn rfl)).trans (hid kn_71))
  have h_73 : c_62 41 2 = c 41 2 := (hid kn_72)
  have kn_74 : Hid (c_5 P 0 = n0) := (hF_7 P 0 (fun q => q.elim (fun h => absurd h.1 (np0 hP rfl)) (fun q => q.elim (fun h => absurd h (p0p rfl)) (fun q => q.elim (fun h => absurd h (p0p rfl)) (fun h => absurd h (np0 hP rfl)))))).trans (hn0)
  have kn_75 : Hid (c_62 P 0 = n0) := (hF_64 P 0 (fun q => q.elim (fun h => absurd h.1 (np0 hP rfl)) (fun q => q.elim (fun h => absurd h (np0 hP rfl)) (fun q => q.elim (fun h => absurd h (np0 hP rfl)) (fun q => q.elim (fun h => absurd h (np0 hP rfl)) (fun h => absurd h (np0 hP rfl))))))).trans ((up_c (np0 hP rfl)).trans (hid kn_74))
  have h_76 : c_62 P 0 = n0 := (hid kn_75)
  have kn_77 : Hid (c_5 41 20 = n0) := (hF_7 41 20 (fun q => q.elim (fun h => absurd h.1 (nn rfl)) (fun q => q.elim (fun h => absurd h (pn hP rfl rfl)) (fun q => q.elim (fun h => absurd h (pn hP rfl rfl)) (fun h => absurd h (nn rfl)))))).trans (hm0)
  have kn_78 : Hid (c_62 41 20 = n0) := (hF_64 41 20 (fun q => q.elim (fun h => absurd h.2 (ni rfl)) (fun q => q.elim (fun h => absurd h (nn rfl)) (fun q => q.elim (fun h => absurd h (nn rfl)) (fun q => q.elim (fun h => absurd h (nn rfl)) (fun h => absurd h (nn rfl))))))).trans ((up_c (nn rfl)).trans (hid kn_77))
  have h_79 : c_62 41 20 = n0 := (hid kn_78)
  have kn_80 : Hid (c_5 P 1 = n1) := (hF_7 P 1 (fun q => q.elim (fun h => absurd h.1 (np0 hP rfl)) (fun q => q.elim (fun h => absurd h (p0p rfl)) (fun q => q.elim (fun h => absurd h (p0p rfl)) (fun h => absurd h (np0 hP rfl)))))).trans (hn1)
  have kn_81 : Hid (c_62 P 1 = n1) := (hF_64 P 1 (fun q => q.elim (fun h => absurd h.1 (np0 hP rfl)) (fun q => q.elim (fun h => absurd h (np0 hP rfl)) (fun q => q.elim (fun h => absurd h (np0 hP rfl)) (fun q => q.elim (fun h => absurd h (np0 hP rfl)) (fun h => absurd h (np0 hP rfl))))))).trans ((up_c (np0 hP rfl)).trans (hid kn_80))
  have h_82 : c_62 P 1 = n1 := (hid kn_81)
  have kn_83 : Hid (c_5 41 21 = n1) := (hF_7 41 21 (fun q => q.elim (fun h => absurd h.1 (nn rfl)) (fun q => q.elim (fun h => absurd h (pn hP rfl rfl)) (fun q => q.elim (fun h => absurd h (pn hP rfl rfl)) (fun h => absurd h (nn rfl)))))).trans (hm1)
  have kn_84 : Hid (c_62 41 21 = n1) := (hF_64 41 21 (fun q => q.elim (fun h => absurd h.2 (ni rfl)) (fun q => q.elim (fun h => absurd h (nn rfl)) (fun q => q.elim (fun h => absurd h (nn rfl)) (fun q => q.elim (fun h => absurd h (nn rfl)) (fun h => absurd h (nn rfl))))))).trans ((up_c (nn rfl)).trans (hid kn_83))
  have h_85 : c_62 41 21 = n1 := (hid kn_84)
  have kn_86 : Hid (c_5 P 2 = n2) := (hF_7 P 2 (fun q => q.elim (fun h => absurd h.1 (np0 hP rfl)) (fun q => q.elim (fun h => absurd h (p0p rfl)) (fun q => q.elim (fun h => absurd h (p0p rfl)) (fun h => absurd h (np0 hP rfl)))))).trans (hn2)
  have kn_87 : Hid (c_62 P 2 = n2) := (hF_64 P 2 (fun q => q.elim (fun h => absurd h.1 (np0 hP rfl)) (fun q => q.elim (fun h => absurd h (np0 hP rfl)) (fun q => q.elim (fun h => absurd h (np0 hP rfl)) (fun q => q.elim (fun h => absurd h (np0 hP rfl)) (fun h => absurd h (np0 hP rfl))))))).trans ((up_c (np0 hP rfl)).trans (hid kn_86))
  have h_88 : c_62 P 2 = n2 := (hid kn_87)
  have kn_89 : Hid (c_5 41 22 = n2) := (hF_7 41 22 (fun q => q.elim (fun h => absurd h.1 (nn rfl)) (fun q => q.elim (fun h => absurd h (pn hP rfl rfl)) (fun q => q.elim (fun h => absurd h (pn hP rfl rfl)) (fun h => absurd h (nn rfl)))))).trans (hm2)
  have kn_90 : Hid (c_62 41 22 = n2) := (hF_64 41 22 (fun q => q.elim (fun h => absurd h.2 (ni rfl)) (fun q => q.elim (fun h => absurd h (nn rfl)) (fun q => q.elim (fun h => absurd h (nn rfl)) (fun q => q.elim (fun h => absurd h (nn rfl)) (fun h => absurd h (nn rfl))))))).trans ((up_c (nn rfl)).trans (hid kn_89))
  have h_91 : c_62 41 22 = n2 := (hid kn_90)
  have kn_92 : Hid (c_5 P 3 = n3) := (hF_7 P 3 (fun q => q.elim (fun h => absurd h.1 (np0 hP rfl)) (fun q => q.elim (fun h => absurd h (p0p rfl)) (fun q => q.elim (fun h => absurd h (p0p rfl)) (fun h => absurd h (np0 hP rfl)))))).trans (hn3)
  have kn_93 : Hid (c_62 P 3 = n3) := (hF_64 P 3 (fun q => q.elim (fun h => absurd h.1 (np0 hP rfl)) (fun q => q.elim (fun h => absurd h (np0 hP rfl)) (fun q => q.elim (fun h => absurd h (np0 hP rfl)) (fun q => q.elim (fun h => absurd h (np0 hP rfl)) (fun h => absurd h (np0 hP rfl))))))).trans ((up_c (np0 hP rfl)).trans (hid kn_92))
  have h_94 : c_62 P 3 = n3 := (hid kn_93)
  have kn_95 : Hid (c_5 41 23 = n3) := (hF_7 41 23 (fun q => q.elim (fun h => absurd h.1 (nn rfl)) (fun q => q.elim (fun h => absurd h (pn hP rfl rfl)) (fun q => q.elim (fun h => absurd h (pn hP rfl rfl)) (fun h => absurd h (nn rfl)))))).trans (hm3)
  have kn_96 : Hid (c_62 41 23 = n3) := (hF_64 41 23 (fun q => q.elim (fun h => absurd h.2 (ni rfl)) (fun q => q.elim (fun h => absurd h (nn rfl)) (fun q => q.elim (fun h => absurd h (nn rfl)) (fun q => q.elim (fun h => absurd h (nn rfl)) (fun h => absurd h (nn rfl))))))).trans ((up_c (nn rfl)).trans (hid kn_95))
  have h_97 : c_62 41 23 = n3 := (hid kn_96)
  have kn_98 : Hid (c_5 3 4 = c 3 4) := hF_7 3 4 (fun q => q.elim (fun h => absurd h.1 (nn rfl)) (fun q => q.elim (fun h => absurd h (pn hP rfl rfl)) (fun q => q.elim (fun h => absurd h (pn hP rfl rfl)) (fun h => absurd h (nn rfl)))))
  have kn_99 : Hid (c_62 3 4 = c 3 4) := (hF_64 3 4 (fun q => q.elim (fun h => absurd h.1 (nn rfl)) (fun q => q.elim (fun h => absurd h (nn rfl)) (fun q => q.elim (fun h => absurd h (nn rfl)) (fun q => q.elim (fun h => absurd h (nn rfl)) (fun h => absurd h (nn rfl))))))).trans ((up_c (nn rfl)).trans (hid kn_98))
  have h_100 : c_62 3 4 = c 3 4 := (hid kn_99)
  have h_101 := ir_41_52 hI
  have kn_102 : Hid (c_5 41 52 = c 41 52) := hF_7 41 52 (fun q => q.elim (fun h => absurd h.1 (nn rfl)) (fun q => q.elim (fun h => absurd h (pn hP rfl rfl)) (fun q => q.elim (fun h => absurd h (pn hP rfl rfl)) (fun h => absurd h (nn rfl)))))
  have kn_103 : Hid (c_62 41 52 = c 41 52) := (hF_64 41 52 (fun q => q.elim (fun h => absurd h.2 (ni rfl)) (fun q => q.elim (fun h => absurd h (nn rfl)) (fun q => q.elim (fun h => absurd h (nn rfl)) (fun q => q.elim (fun h => absurd h (nn rfl)) (fun h => absurd h (nn rfl))))))).trans ((up_c (nn rfl)).trans (hid kn_102))
  have h_104 : c_62 41 52 = c 41 52 := (hid kn_103)
  have h_105 := ir_3_3 hI
  have kn_106 : Hid (c_5 3 3 = c 3 3) := hF_7 3 3 (fun q => q.elim (fun h => absurd h.1 (nn rfl)) (fun q => q.elim (fun h => absurd h (pn hP rfl rfl)) (fun q => q.elim (fun h => absurd h (pn hP rfl rfl)) (fun h => absurd h (nn rfl)))))
  have kn_107 : Hid (c_62 3 3 = c 3 3) := (hF_64 3 3 (fun q => q.elim (fun h => absurd h.1 (nn rfl)) (fun q => q.elim (fun h => absurd h (nn rfl)) (fun q => q.elim (fun h => absurd h (nn rfl)) (fun q => q.elim (fun h => absurd h (nn rfl)) (fun h => absurd h (nn rfl))))))).trans ((up_c (nn rfl)).trans (hid kn_106))
  have h_108 : c_62 3 3 = c 3 3 := (hid kn_107)
  have h_109 := ir_41_35 hI
  have kn_110 : Hid (c_5 41 35 = c 41 35) := hF_7 41 35 (fun q => q.elim (fun h => absurd h.1 (nn rfl)) (fun q => q.elim (fun h => absurd h (pn hP rfl rfl)) (fun q => q.elim (fun h => absurd h (pn hP rfl rfl)) (fun h => absurd h (nn rfl)))))
  have kn_111 : Hid (c_62 41 35 = c 41 35) := (hF_64 41 35 (fun q => q.elim (fun h => absurd h.2 (ni rfl)) (fun q => q.elim (fun h => absurd h (nn rfl)) (fun q => q.elim (fun h => absurd h (nn rfl)) (fun q => q.elim (fun h => absurd h (nn rfl)) (fun h => absurd h (nn rfl))))))).trans ((up_c (nn rfl)).trans (hid kn_110))
  have h_112 : c_62 41 35 = c 41 35 := (hid kn_111)
  have h_113 : c_62 3 4 = c 3 4 := (hid kn_99)
  exact K P Q c_62 0 (by decide) hI_63 ⟨by omega, ub_fr hU (fun j => (hF_64 2 j (fun q => q.elim (fun h => absurd h.1 (nn rfl)) (fun q => q.elim (fun h => absurd h (nn rfl)) (fun q => q.elim (fun h => absurd h (nn rfl)) (fun q => q.elim (fun h => absurd h (nn rfl)) (fun h => absurd h (nn rfl))))))).trans ((up_c (nn rfl)).trans (hF_7 2 j (fun q => q.elim (fun h => absurd h.1 (nn rfl)) (fun q => q.elim (fun h => absurd h (pn hP rfl rfl)) (fun q => q.elim (fun h => absurd h (pn hP rfl rfl)) (fun h => absurd h (nn rfl)))))))) (fun j => (hF_64 43 j (fun q => q.elim (fun h => absurd h.1 (nn rfl)) (fun q => q.elim (fun h => absurd h (nn rfl)) (fun q => q.elim (fun h => absurd h (nn rfl)) (fun q => q.elim (fun h => absurd h (nn rfl)) (fun h => absurd h (nn rfl))))))).trans ((up_c (nn rfl)).trans (hF_7 43 j (fun q => q.elim (fun h => absurd h.1 (nn rfl)) (fun q => q.elim (fun h => absurd h (pn hP rfl rfl)) (fun q => q.elim (fun h => absurd h (pn hP rfl rfl)) (fun h => absurd h (nn rfl)))))))), ⟨by omega, by omega, by omega, by omega⟩, by omega, by omega, iw_fr2 hIw (by omega) (fun j => (hF_64 6 j (fun q => q.elim (fun h => absurd h.1 (nn rfl)) (fun q => q.elim (fun h => absurd h (nn rfl)) (fun q => q.elim (fun h => absurd h (nn rfl)) (fun q => q.elim (fun h => absurd h (nn rfl)) (fun h => absurd h (nn rfl))))))).trans ((up_c (nn rfl)).trans (hF_7 6 j (fun q => q.elim (fun h => absurd h.1 (nn rfl)) (fun q => q.elim (fun h => absurd h (pn hP rfl rfl)) (fun q => q.elim (fun h => absurd h (pn hP rfl rfl)) (fun h => absurd h (nn rfl)))))))) (fun j => (hF_64 66 j (fun q => q.elim (fun h => absurd h.1 (nn rfl)) (fun q => q.elim (fun h => absurd h (nn rfl)) (fun q => q.elim (fun h => absurd h (nn rfl)) (fun q => q.elim (fun h => absurd h (nn rfl)) (fun h => absurd h (nn rfl))))))).trans ((up_c (nn rfl)).trans (hF_7 66 j (fun q => q.elim (fun h => absurd h.1 (nn rfl)) (fun q => q.elim (fun h => absurd h (pn hP rfl rfl)) (fun q => q.elim (fun h => absurd h (pn hP rfl rfl)) (fun h => absurd h (nn rfl))))))))⟩

set_option maxRecDepth 100000 in
set_option maxHeartbeats 4000000 in
theorem o_28 {xs : Nat → Int32} {L i0 d nc ns P Q : Nat} {c : ME} {Z : AR → Prop} (hi : i0 + 8 ≤ L) (hL : L ≤ 100000) (hI : Iv 0 (-1) P Q c) (hR : Rq P c) (K : ∀ (P2 Q2 : Nat) (c2 : ME) (e : Nat), e ≤ 1 → Iv 0 (-1) P2 Q2 c2 → (Rq P2 c2) → Wp (a_scr L xs) (d + 90) 296 1816 [(4, vi (i0 : Int)), (3, .ref 67), (2, .ref 41), (1, .ref 0), (0, .ref a_SC)] [] (Wd P2 Q2 P2 P2 c2) (nc + e) (ns + 6 * e) Z) : Wp (a_scr L xs) (d + 90) 296 1340 [(4, vi (i0 : Int)), (3, .ref 67), (2, .ref 41), (1, .ref 0), (0, .ref a_SC)] [] (Wd P Q P P c) nc ns Z := by
  obtain ⟨x1, hx1⟩ : ∃ z, (xs (i0 + 1)).toInt = z := ⟨_, rfl⟩
  have x1r := c_rng (xs (i0 + 1))
  rw [hx1] at x1r
  obtain ⟨x2, hx2⟩ : ∃ z, (xs (i0 + 2)).toInt = z := ⟨_, rfl⟩
  have x2r := c_rng (xs (i0 + 2))
  rw [hx2] at x2r
  obtain ⟨x3, hx3⟩ : ∃ z, (xs (i0 + 3)).toInt = z := ⟨_, rfl⟩
  have x3r := c_rng (xs (i0 + 3))
  rw [hx3] at x3r
  obtain ⟨x4, hx4⟩ : ∃ z, (xs (i0 + 4)).toInt = z := ⟨_, rfl⟩
  have x4r := c_rng (xs (i0 + 4))
  rw [hx4] at x4r
  obtain ⟨x5, hx5⟩ : ∃ z, (xs (i0 + 5)).toInt = z := ⟨_, rfl⟩
  have x5r := c_rng (xs (i0 + 5))
  rw [hx5] at x5r
  obtain ⟨x6, hx6⟩ : ∃ z, (xs (i0 + 6)).toInt = z := ⟨_, rfl⟩
  have x6r := c_rng (xs (i0 + 6))
  rw [hx6] at x6r
  obtain ⟨x7, hx7⟩ : ∃ z, (xs (i0 + 7)).toInt = z := ⟨_, rfl⟩
  have x7r := c_rng (xs (i0 + 7))
  rw [hx7] at x7r
  have hT := rl_t hR
  have hU := rl_u hR
  have hP := iv_P hI
  obtain ⟨n0, hn0⟩ : ∃ z, c P 0 = z := ⟨_, rfl⟩
  have hm0 : c 41 20 = n0 := (rl_nums hR).1.symm.trans hn0
  have hr0 := ir_p0_0 hI hP
  rw [hn0] at hr0
  obtain ⟨n1, hn1⟩ : ∃ z, c P 1 = z := ⟨_, rfl⟩
  have hm1 : c 41 21 = n1 := (rl_nums hR).2.1.symm.trans hn1
  have hr1 := ir_p0_1 hI hP
  rw [hn1] at hr1
  obtain ⟨n2, hn2⟩ : ∃ z, c P 2 = z := ⟨_, rfl⟩
  have hm2 : c 41 22 = n2 := (rl_nums hR).2.2.1.symm.trans hn2
  have hr2 := ir_p0_2 hI hP
  rw [hn2] at hr2
  obtain ⟨n3, hn3⟩ : ∃ z, c P 3 = z := ⟨_, rfl⟩
  have hm3 : c 41 23 = n3 := (rl_nums hR).2.2.2.symm.trans hn3
  have hr3 := ir_p0_3 hI hP
  rw [hn3] at hr3
  have hNimg := rl_img hR
  have hNwk := rl_wk hR
  have h_1 := ir_3_4 hI
  have hIw := rl_iw hR
  have hP := iv_P hI
  have hQ := iv_Q hI
  refine q_aload_n rfl rfl (v_cv rfl rfl rfl rfl (Nat.le_of_ble_eq_true rfl) ⟨⟨rfl, rfl⟩, Nat.le_of_ble_eq_true rfl, rfl⟩ (Nat.le_of_ble_eq_true rfl) (Nat.le_of_ble_eq_true rfl) (s_101 hI (fun y_2 hy_2 => (bk_inl (q_pop rfl rfl (q_aload_n rfl rfl (v_cv rfl rfl rfl rfl (Nat.le_of_ble_eq_true rfl) ⟨⟨rfl, rfl⟩, Nat.le_of_ble_eq_true rfl, rfl⟩ (Nat.le_of_ble_eq_true rfl) (Nat.le_of_ble_eq_true rfl) (s_243 hI (fun c_3 y_6 hI_4 hF_5 hy_6 => (bk_inl (q_pop rfl rfl ?_)))))))))))
  refine q_goto (t := 1816) rfl rfl (Wp_ls [(4, vi (i0 : Int)), (3, .ref 67), (2, .ref 41), (1, .ref 0), (0, .ref a_SC)] (lsub_cons rfl (lsub_cons rfl (lsub_cons rfl (lsub_cons rfl (lsub_cons rfl lsub_nil))))) ?_)
  have h_7 := ir_1_3 hI
  have kn_8 : Hid (c_3 1 3 = c 1 3) := hF_5 1 3 (fun q => q.elim (fun h => absurd h.1 (nn rfl)) (fun h => absurd h (nn rfl)))
  have h_9 : c_3 1 3 = c 1 3 := (hid kn_8)
  have h_10 := ir_41_2 hI
  have kn_11 : Hid (c_3 41 2 = c 41 2) := hF_5 41 2 (fun q => q.elim (fun h => absurd h.2 (ni rfl)) (fun h => absurd h (nn rfl)))
  have h_12 : c_3 41 2 = c 41 2 := (hid kn_11)
  have kn_13 : Hid (c_3 P 0 = n0) := (hF_5 P 0 (fun q => q.elim (fun h => absurd h.1 (np0 hP rfl)) (fun h => absurd h (np0 hP rfl)))).trans (hn0)
  have h_14 : c_3 P 0 = n0 := (hid kn_13)
  have kn_15 : Hid (c_3 41 20 = n0) := (hF_5 41 20 (fun q => q.elim (fun h => absurd h.2 (ni rfl)) (fun h => absurd h (nn rfl)))).trans (hm0)
  have h_16 : c_3 41 20 = n0 := (hid kn_15)
  have kn_17 : Hid (c_3 P 1 = n1) := (hF_5 P 1 (fun q => q.elim (fun h => absurd h.1 (np0 hP rfl)) (fun h => absurd h (np0 hP rfl)))).trans (hn1)
  have h_18 : c_3 P 1 = n1 := (hid kn_17)
  have kn_19 : Hid (c_3 41 21 = n1) := (hF_5 41 21 (fun q => q.elim (fun h => absurd h.2 (ni rfl)) (fun h => absurd h (nn rfl)))).trans (hm1)
  have h_20 : c_3 41 21 = n1 := (hid kn_19)
  have kn_21 : Hid (c_3 P 2 = n2) := (hF_5 P 2 (fun q => q.elim (fun h => absurd h.1 (np0 hP rfl)) (fun h => absurd h (np0 hP rfl)))).trans (hn2)
  have h_22 : c_3 P 2 = n2 := (hid kn_21)
  have kn_23 : Hid (c_3 41 22 = n2) := (hF_5 41 22 (fun q => q.elim (fun h => absurd h.2 (ni rfl)) (fun h => absurd h (nn rfl)))).trans (hm2)
  have h_24 : c_3 41 22 = n2 := (hid kn_23)
  have kn_25 : Hid (c_3 P 3 = n3) := (hF_5 P 3 (fun q => q.elim (fun h => absurd h.1 (np0 hP rfl)) (fun h => absurd h (np0 hP rfl)))).trans (hn3)
  have h_26 : c_3 P 3 = n3 := (hid kn_25)
  have kn_27 : Hid (c_3 41 23 = n3) := (hF_5 41 23 (fun q => q.elim (fun h => absurd h.2 (ni rfl)) (fun h => absurd h (nn rfl)))).trans (hm3)
  have h_28 : c_3 41 23 = n3 := (hid kn_27)
  have kn_29 : Hid (c_3 3 4 = c 3 4) := hF_5 3 4 (fun q => q.elim (fun h => absurd h.1 (nn rfl)) (fun h => absurd h (nn rfl)))
  have h_30 : c_3 3 4 = c 3 4 := (hid kn_29)
  have h_31 := ir_41_52 hI
  have kn_32 : Hid (c_3 41 52 = c 41 52) := hF_5 41 52 (fun q => q.elim (fun h => absurd h.2 (ni rfl)) (fun h => absurd h (nn rfl)))
  have h_33 : c_3 41 52 = c 41 52 := (hid kn_32)
  have h_34 := ir_3_3 hI
  have kn_35 : Hid (c_3 3 3 = c 3 3) := hF_5 3 3 (fun q => q.elim (fun h => absurd h.1 (nn rfl)) (fun h => absurd h (nn rfl)))
  have h_36 : c_3 3 3 = c 3 3 := (hid kn_35)
  have h_37 := ir_41_35 hI
  have kn_38 : Hid (c_3 41 35 = c 41 35) := hF_5 41 35 (fun q => q.elim (fun h => absurd h.2 (ni rfl)) (fun h => absurd h (nn rfl)))
  have h_39 : c_3 41 35 = c 41 35 := (hid kn_38)
  have h_40 : c_3 3 4 = c 3 4 := (hid kn_29)
  exact K P Q c_3 0 (by decide) hI_4 ⟨by omega, ub_fr hU (fun j => hF_5 2 j (fun q => q.elim (fun h => absurd h.1 (nn rfl)) (fun h => absurd h (nn rfl)))) (fun j => hF_5 43 j (fun q => q.elim (fun h => absurd h.1 (nn rfl)) (fun h => absurd h (nn rfl)))), ⟨by omega, by omega, by omega, by omega⟩, by omega, by omega, iw_fr2 hIw (by omega) (fun j => hF_5 6 j (fun q => q.elim (fun h => absurd h.1 (nn rfl)) (fun h => absurd h (nn rfl)))) (fun j => hF_5 66 j (fun q => q.elim (fun h => absurd h.1 (nn rfl)) (fun h => absurd h (nn rfl))))⟩

set_option maxRecDepth 100000 in
set_option maxHeartbeats 4000000 in
theorem o_29 {xs : Nat → Int32} {L i0 d nc ns P Q : Nat} {c : ME} {Z : AR → Prop} (hi : i0 + 8 ≤ L) (hL : L ≤ 100000) (hI : Iv 0 (-1) P Q c) (hR : Rq P c) (K : ∀ (P2 Q2 : Nat) (c2 : ME) (e : Nat), e ≤ 1 → Iv 0 (-1) P2 Q2 c2 → (Rq P2 c2) → Wp (a_scr L xs) (d + 90) 296 1816 [(4, vi (i0 : Int)), (3, .ref 67), (2, .ref 41), (1, .ref 0), (0, .ref a_SC)] [] (Wd P2 Q2 P2 P2 c2) (nc + e) (ns + 6 * e) Z) : Wp (a_scr L xs) (d + 90) 296 1353 [(4, vi (i0 : Int)), (3, .ref 67), (2, .ref 41), (1, .ref 0), (0, .ref a_SC)] [] (Wd P Q P P c) nc ns Z := by
  obtain ⟨x1, hx1⟩ : ∃ z, (xs (i0 + 1)).toInt = z := ⟨_, rfl⟩
  have x1r := c_rng (xs (i0 + 1))
  rw [hx1] at x1r
  obtain ⟨x2, hx2⟩ : ∃ z, (xs (i0 + 2)).toInt = z := ⟨_, rfl⟩
  have x2r := c_rng (xs (i0 + 2))
  rw [hx2] at x2r
  obtain ⟨x3, hx3⟩ : ∃ z, (xs (i0 + 3)).toInt = z := ⟨_, rfl⟩
  have x3r := c_rng (xs (i0 + 3))
  rw [hx3] at x3r
  obtain ⟨x4, hx4⟩ : ∃ z, (xs (i0 + 4)).toInt = z := ⟨_, rfl⟩
  have x4r := c_rng (xs (i0 + 4))
  rw [hx4] at x4r
  obtain ⟨x5, hx5⟩ : ∃ z, (xs (i0 + 5)).toInt = z := ⟨_, rfl⟩
  have x5r := c_rng (xs (i0 + 5))
  rw [hx5] at x5r
  obtain ⟨x6, hx6⟩ : ∃ z, (xs (i0 + 6)).toInt = z := ⟨_, rfl⟩
  have x6r := c_rng (xs (i0 + 6))
  rw [hx6] at x6r
  obtain ⟨x7, hx7⟩ : ∃ z, (xs (i0 + 7)).toInt = z := ⟨_, rfl⟩
  have x7r := c_rng (xs (i0 + 7))
  rw [hx7] at x7r
  have hT := rl_t hR
  have hU := rl_u hR
  have hP := iv_P hI
  obtain ⟨n0, hn0⟩ : ∃ z, c P 0 = z := ⟨_, rfl⟩
  have hm0 : c 41 20 = n0 := (rl_nums hR).1.symm.trans hn0
  have hr0 := ir_p0_0 hI hP
  rw [hn0] at hr0
  obtain ⟨n1, hn1⟩ : ∃ z, c P 1 = z := ⟨_, rfl⟩
  have hm1 : c 41 21 = n1 := (rl_nums hR).2.1.symm.trans hn1
  have hr1 := ir_p0_1 hI hP
  rw [hn1] at hr1
  obtain ⟨n2, hn2⟩ : ∃ z, c P 2 = z := ⟨_, rfl⟩
  have hm2 : c 41 22 = n2 := (rl_nums hR).2.2.1.symm.trans hn2
  have hr2 := ir_p0_2 hI hP
  rw [hn2] at hr2
  obtain ⟨n3, hn3⟩ : ∃ z, c P 3 = z := ⟨_, rfl⟩
  have hm3 : c 41 23 = n3 := (rl_nums hR).2.2.2.symm.trans hn3
  have hr3 := ir_p0_3 hI hP
  rw [hn3] at hr3
  have hNimg := rl_img hR
  have hNwk := rl_wk hR
  have h_1 := ir_3_4 hI
  have hIw := rl_iw hR
  have hP := iv_P hI
  have hQ := iv_Q hI
  refine q_aload_n rfl rfl (q_aload_n rfl rfl (q_iload rfl rfl (q_iconst rfl (v_iadd (v := (i0 : Int) + 1) rfl rfl (v_scr (j := i0 + 1) rfl (by omega) (by omega) hL hx1 (q_aload_n rfl rfl (q_call rfl rfl rfl rfl ?_)))))))
  refine q_aload_n rfl rfl (q_iconst rfl (q_aload_n rfl rfl (q_iload_n rfl rfl ?_)))
  refine v_cv rfl rfl rfl rfl (Nat.le_of_ble_eq_true rfl) ⟨⟨rfl, rfl⟩, Nat.le_of_ble_eq_true rfl, rfl⟩ (Nat.le_of_ble_eq_true rfl) (Nat.le_of_ble_eq_true rfl) (s_109 (a1 := x1) hI (show (-2147483648) ≤ x1 ∧ x1 ≤ 2147483647 from ⟨by omega, by omega⟩) (fun c_2 hI_3 hF_4 => ?_) (fun c_5 y_8 hI_6 hF_7 hy_8 => ?_))
  · skip
    refine bk_thr (z := Int32.ofInt 1) rfl ⟨_, _, rfl⟩ rfl (bk_inl (q_istore rfl (Nat.le_of_ble_eq_true rfl) (q_aload_n rfl rfl (q_aload_n rfl rfl (q_iload rfl rfl (q_iconst rfl (v_iadd (v := (i0 : Int) + 1) rfl rfl ?_)))))))
    refine v_scr (j := i0 + 1) rfl (by omega) (by omega) hL hx1 (v_cv rfl rfl rfl rfl (Nat.le_of_ble_eq_true rfl) ⟨⟨rfl, rfl⟩, Nat.le_of_ble_eq_true rfl, rfl⟩ (Nat.le_of_ble_eq_true rfl) (Nat.le_of_ble_eq_true rfl) (s_244 (a1 := x1) hI_3 (show (-2147483648) ≤ x1 ∧ x1 ≤ 2147483647 from ⟨by omega, by omega⟩) (fun c_9 y_12 hI_10 hF_11 hy_12 => (bk_inl (q_istore rfl (Nat.le_of_ble_eq_true rfl) (q_goto (t := 1816) rfl rfl (Wp_ls [(4, vi (i0 : Int)), (3, .ref 67), (2, .ref 41), (1, .ref 0), (0, .ref a_SC)] (lsub_cons rfl (lsub_cons rfl (lsub_cons rfl (lsub_cons rfl (lsub_cons rfl lsub_nil))))) ?_)))))))
    have h_13 := ir_1_3 hI
    have kn_14 : Hid (c_2 1 3 = c 1 3) := hF_4 1 3 (fun q => q.elim (fun h => absurd h.1 (nn rfl)) (fun q => q.elim (fun h => absurd h (pn hP rfl rfl)) (fun q => q.elim (fun h => absurd h (pn hP rfl rfl)) (fun h => absurd h (nn rfl)))))
    have kn_15 : Hid (c_9 1 3 = c 1 3) := (hF_11 1 3 (fun q => q.elim (fun h => absurd h.1 (nn rfl)) (fun q => q.elim (fun h => absurd h (nn rfl)) (fun q => q.elim (fun h => absurd h (nn rfl)) (fun q => q.elim (fun h => absurd h (nn rfl)) (fun h => absurd h (nn rfl))))))).trans (hid kn_14)
    have h_16 : c_9 1 3 = c 1 3 := (hid kn_15)
    have h_17 := ir_41_2 hI
    have kn_18 : Hid (c_2 41 2 = c 41 2) := hF_4 41 2 (fun q => q.elim (fun h => absurd h.1 (nn rfl)) (fun q => q.elim (fun h => absurd h (pn hP rfl rfl)) (fun q => q.elim (fun h => absurd h (pn hP rfl rfl)) (fun h => absurd h (nn rfl)))))
    have kn_19 : Hid (c_9 41 2 = c 41 2) := (hF_11 41 2 (fun q => q.elim (fun h => absurd h.2 (ni rfl)) (fun q => q.elim (fun h => absurd h (nn rfl)) (fun q => q.elim (fun h => absurd h (nn rfl)) (fun q => q.elim (fun h => absurd h (nn rfl)) (fun h => absurd h (nn rfl))))))).trans (hid kn_18)
    have h_20 : c_9 41 2 = c 41 2 := (hid kn_19)
    have kn_21 : Hid (c_2 P 0 = n0) := (hF_4 P 0 (fun q => q.elim (fun h => absurd h.1 (np0 hP rfl)) (fun q => q.elim (fun h => absurd h (p0p rfl)) (fun q => q.elim (fun h => absurd h (p0p rfl)) (fun h => absurd h (np0 hP rfl)))))).trans (hn0)
    have kn_22 : Hid (c_9 P 0 = n0) := (hF_11 P 0 (fun q => q.elim (fun h => absurd h.1 (np0 hP rfl)) (fun q => q.elim (fun h => absurd h (np0 hP rfl)) (fun q => q.elim (fun h => absurd h (np0 hP rfl)) (fun q => q.elim (fun h => absurd h (np0 hP rfl)) (fun h => absurd h (np0 hP rfl))))))).trans (hid kn_21)
    have h_23 : c_9 P 0 = n0 := (hid kn_22)
    have kn_24 : Hid (c_2 41 20 = n0) := (hF_4 41 20 (fun q => q.elim (fun h => absurd h.1 (nn rfl)) (fun q => q.elim (fun h => absurd h (pn hP rfl rfl)) (fun q => q.elim (fun h => absurd h (pn hP rfl rfl)) (fun h => absurd h (nn rfl)))))).trans (hm0)
    have kn_25 : Hid (c_9 41 20 = n0) := (hF_11 41 20 (fun q => q.elim (fun h => absurd h.2 (ni rfl)) (fun q => q.elim (fun h => absurd h (nn rfl)) (fun q => q.elim (fun h => absurd h (nn rfl)) (fun q => q.elim (fun h => absurd h (nn rfl)) (fun h => absurd h (nn rfl))))))).trans (hid kn_24)
    have h_26 : c_9 41 20 = n0 := (hid kn_25)
    have kn_27 : Hid (c_2 P 1 = n1) := (hF_4 P 1 (fun q => q.elim (fun h => absurd h.1 (np0 hP rfl)) (fun q => q.elim (fun h => absurd h (p0p rfl)) (fun q => q.elim (fun h => absurd h (p0p rfl)) (fun h => absurd h (np0 hP rfl)))))).trans (hn1)
    have kn_28 : Hid (c_9 P 1 = n1) := (hF_11 P 1 (fun q => q.elim (fun h => absurd h.1 (np0 hP rfl)) (fun q => q.elim (fun h => absurd h (np0 hP rfl)) (fun q => q.elim (fun h => absurd h (np0 hP rfl)) (fun q => q.elim (fun h => absurd h (np0 hP rfl)) (fun h => absurd h (np0 hP rfl))))))).trans (hid kn_27)
    have h_29 : c_9 P 1 = n1 := (hid kn_28)
    have kn_30 : Hid (c_2 41 21 = n1) := (hF_4 41 21 (fun q => q.elim (fun h => absurd h.1 (nn rfl)) (fun q => q.elim (fun h => absurd h (pn hP rfl rfl)) (fun q => q.elim (fun h => absurd h (pn hP rfl rfl)) (fun h => absurd h (nn rfl)))))).trans (hm1)
    have kn_31 : Hid (c_9 41 21 = n1) := (hF_11 41 21 (fun q => q.elim (fun h => absurd h.2 (ni rfl)) (fun q => q.elim (fun h => absurd h (nn rfl)) (fun q => q.elim (fun h => absurd h (nn rfl)) (fun q => q.elim (fun h => absurd h (nn rfl)) (fun h => absurd h (nn rfl))))))).trans (hid kn_30)
    have h_32 : c_9 41 21 = n1 := (hid kn_31)
    have kn_33 : Hid (c_2 P 2 = n2) := (hF_4 P 2 (fun q => q.elim (fun h => absurd h.1 (np0 hP rfl)) (fun q => q.elim (fun h => absurd h (p0p rfl)) (fun q => q.elim (fun h => absurd h (p0p rfl)) (fun h => absurd h (np0 hP rfl)))))).trans (hn2)
    have kn_34 : Hid (c_9 P 2 = n2) := (hF_11 P 2 (fun q => q.elim (fun h => absurd h.1 (np0 hP rfl)) (fun q => q.elim (fun h => absurd h (np0 hP rfl)) (fun q => q.elim (fun h => absurd h (np0 hP rfl)) (fun q => q.elim (fun h => absurd h (np0 hP rfl)) (fun h => absurd h (np0 hP rfl))))))).trans (hid kn_33)
    have h_35 : c_9 P 2 = n2 := (hid kn_34)
    have kn_36 : Hid (c_2 41 22 = n2) := (hF_4 41 22 (fun q => q.elim (fun h => absurd h.1 (nn rfl)) (fun q => q.elim (fun h => absurd h (pn hP rfl rfl)) (fun q => q.elim (fun h => absurd h (pn hP rfl rfl)) (fun h => absurd h (nn rfl)))))).trans (hm2)
    have kn_37 : Hid (c_9 41 22 = n2) := (hF_11 41 22 (fun q => q.elim (fun h => absurd h.2 (ni rfl)) (fun q => q.elim (fun h => absurd h (nn rfl)) (fun q => q.elim (fun h => absurd h (nn rfl)) (fun q => q.elim (fun h => absurd h (nn rfl)) (fun h => absurd h (nn rfl))))))).trans (hid kn_36)
    have h_38 : c_9 41 22 = n2 := (hid kn_37)
    have kn_39 : Hid (c_2 P 3 = n3) := (hF_4 P 3 (fun q => q.elim (fun h => absurd h.1 (np0 hP rfl)) (fun q => q.elim (fun h => absurd h (p0p rfl)) (fun q => q.elim (fun h => absurd h (p0p rfl)) (fun h => absurd h (np0 hP rfl)))))).trans (hn3)
    have kn_40 : Hid (c_9 P 3 = n3) := (hF_11 P 3 (fun q => q.elim (fun h => absurd h.1 (np0 hP rfl)) (fun q => q.elim (fun h => absurd h (np0 hP rfl)) (fun q => q.elim (fun h => absurd h (np0 hP rfl)) (fun q => q.elim (fun h => absurd h (np0 hP rfl)) (fun h => absurd h (np0 hP rfl))))))).trans (hid kn_39)
    have h_41 : c_9 P 3 = n3 := (hid kn_40)
    have kn_42 : Hid (c_2 41 23 = n3) := (hF_4 41 23 (fun q => q.elim (fun h => absurd h.1 (nn rfl)) (fun q => q.elim (fun h => absurd h (pn hP rfl rfl)) (fun q => q.elim (fun h => absurd h (pn hP rfl rfl)) (fun h => absurd h (nn rfl)))))).trans (hm3)
    have kn_43 : Hid (c_9 41 23 = n3) := (hF_11 41 23 (fun q => q.elim (fun h => absurd h.2 (ni rfl)) (fun q => q.elim (fun h => absurd h (nn rfl)) (fun q => q.elim (fun h => absurd h (nn rfl)) (fun q => q.elim (fun h => absurd h (nn rfl)) (fun h => absurd h (nn rfl))))))).trans (hid kn_42)
    have h_44 : c_9 41 23 = n3 := (hid kn_43)
    have kn_45 : Hid (c_2 3 4 = c 3 4) := hF_4 3 4 (fun q => q.elim (fun h => absurd h.1 (nn rfl)) (fun q => q.elim (fun h => absurd h (pn hP rfl rfl)) (fun q => q.elim (fun h => absurd h (pn hP rfl rfl)) (fun h => absurd h (nn rfl)))))
    have kn_46 : Hid (c_9 3 4 = c 3 4) := (hF_11 3 4 (fun q => q.elim (fun h => absurd h.1 (nn rfl)) (fun q => q.elim (fun h => absurd h (nn rfl)) (fun q => q.elim (fun h => absurd h (nn rfl)) (fun q => q.elim (fun h => absurd h (nn rfl)) (fun h => absurd h (nn rfl))))))).trans (hid kn_45)
    have h_47 : c_9 3 4 = c 3 4 := (hid kn_46)
    have h_48 := ir_41_52 hI
    have kn_49 : Hid (c_2 41 52 = c 41 52) := hF_4 41 52 (fun q => q.elim (fun h => absurd h.1 (nn rfl)) (fun q => q.elim (fun h => absurd h (pn hP rfl rfl)) (fun q => q.elim (fun h => absurd h (pn hP rfl rfl)) (fun h => absurd h (nn rfl)))))
    have kn_50 : Hid (c_9 41 52 = c 41 52) := (hF_11 41 52 (fun q => q.elim (fun h => absurd h.2 (ni rfl)) (fun q => q.elim (fun h => absurd h (nn rfl)) (fun q => q.elim (fun h => absurd h (nn rfl)) (fun q => q.elim (fun h => absurd h (nn rfl)) (fun h => absurd h (nn rfl))))))).trans (hid kn_49)
    have h_51 : c_9 41 52 = c 41 52 := (hid kn_50)
    have h_52 := ir_3_3 hI
    have kn_53 : Hid (c_2 3 3 = c 3 3) := hF_4 3 3 (fun q => q.elim (fun h => absurd h.1 (nn rfl)) (fun q => q.elim (fun h => absurd h (pn hP rfl rfl)) (fun q => q.elim (fun h => absurd h (pn hP rfl rfl)) (fun h => absurd h (nn rfl)))))
    have kn_54 : Hid (c_9 3 3 = c 3 3) := (hF_11 3 3 (fun q => q.elim (fun h => absurd h.1 (nn rfl)) (fun q => q.elim (fun h => absurd h (nn rfl)) (fun q => q.elim (fun h => absurd h (nn rfl)) (fun q => q.elim (fun h => absurd h (nn rfl)) (fun h => absurd h (nn rfl))))))).trans (hid kn_53)
    have h_55 : c_9 3 3 = c 3 3 := (hid kn_54)
    have h_56 := ir_41_35 hI
    have kn_57 : Hid (c_2 41 35 = c 41 35) := hF_4 41 35 (fun q => q.elim (fun h => absurd h.1 (nn rfl)) (fun q => q.elim (fun h => absurd h (pn hP rfl rfl)) (fun q => q.elim (fun h => absurd h (pn hP rfl rfl)) (fun h => absurd h (nn rfl)))))
    have kn_58 : Hid (c_9 41 35 = c 41 35) := (hF_11 41 35 (fun q => q.elim (fun h => absurd h.2 (ni rfl)) (fun q => q.elim (fun h => absurd h (nn rfl)) (fun q => q.elim (fun h => absurd h (nn rfl)) (fun q => q.elim (fun h => absurd h (nn rfl)) (fun h => absurd h (nn rfl))))))).trans (hid kn_57)
    have h_59 : c_9 41 35 = c 41 35 := (hid kn_58)
    have h_60 : c_9 3 4 = c 3 4 := (hid kn_46)
    exact K P Q c_9 1 (by decide) hI_10 ⟨by omega, ub_fr hU (fun j => (hF_11 2 j (fun q => q.elim (fun h => absurd h.1 (nn rfl)) (fun q => q.elim (fun h => absurd h (nn rfl)) (fun q => q.elim (fun h => absurd h (nn rfl)) (fun q => q.elim (fun h => absurd h (nn rfl)) (fun h => absurd h (nn rfl))))))).trans (hF_4 2 j (fun q => q.elim (fun h => absurd h.1 (nn rfl)) (fun q => q.elim (fun h => absurd h (pn hP rfl rfl)) (fun q => q.elim (fun h => absurd h (pn hP rfl rfl)) (fun h => absurd h (nn rfl))))))) (fun j => (hF_11 43 j (fun q => q.elim (fun h => absurd h.1 (nn rfl)) (fun q => q.elim (fun h => absurd h (nn rfl)) (fun q => q.elim (fun h => absurd h (nn rfl)) (fun q => q.elim (fun h => absurd h (nn rfl)) (fun h => absurd h (nn rfl))))))).trans (hF_4 43 j (fun q => q.elim (fun h => absurd h.1 (nn rfl)) (fun q => q.elim (fun h => absurd h (pn hP rfl rfl)) (fun q => q.elim (fun h => absurd h (pn hP rfl rfl)) (fun h => absurd h (nn rfl))))))), ⟨by omega, by omega, by omega, by omega⟩, by omega, by omega, iw_fr2 hIw (by omega) (fun j => (hF_11 6 j (fun q => q.elim (fun h => absurd h.1 (nn rfl)) (fun q => q.elim (fun h => absurd h (nn rfl)) (fun q => q.elim (fun h => absurd h (nn rfl)) (fun q => q.elim (fun h => absurd h (nn rfl)) (fun h => absurd h (nn rfl))))))).trans (hF_4 6 j (fun q => q.elim (fun h => absurd h.1 (nn rfl)) (fun q => q.elim (fun h => absurd h (pn hP rfl rfl)) (fun q => q.elim (fun h => absurd h (pn hP rfl rfl)) (fun h => absurd h (nn rfl))))))) (fun j => (hF_11 66 j (fun q => q.elim (fun h => absurd h.1 (nn rfl)) (fun q => q.elim (fun h => absurd h (nn rfl)) (fun q => q.elim (fun h => absurd h (nn rfl)) (fun q => q.elim (fun h => absurd h (nn rfl)) (fun h => absurd h (nn rfl))))))).trans (hF_4 66 j (fun q => q.elim (fun h => absurd h.1 (nn rfl)) (fun q => q.elim (fun h => absurd h (pn hP rfl rfl)) (fun q => q.elim (fun h => absurd h (pn hP rfl rfl)) (fun h => absurd h (nn rfl)))))))⟩
  refine bk_inl (v_i2l rfl (by omega) (v_ls rfl rfl (by decide) (by decide) (by decide) (q_goto (t := 15) rfl rfl (q_iconst rfl (q_iret rfl rfl (bk_inl (q_istore rfl (Nat.le_of_ble_eq_true rfl) ?_)))))))
  refine q_aload_n rfl rfl (q_aload_n rfl rfl (q_iload rfl rfl (q_iconst rfl (v_iadd (v := (i0 : Int) + 1) rfl rfl (v_scr (j := i0 + 1) rfl (by omega) (by omega) hL hx1 ?_)))))
  have hI_61 := iw_lx (a := 67) (j := 0) (v := y_8) hI_6 (by omega)
  refine v_cv rfl rfl rfl rfl (Nat.le_of_ble_eq_true rfl) ⟨⟨rfl, rfl⟩, Nat.le_of_ble_eq_true rfl, rfl⟩ (Nat.le_of_ble_eq_true rfl) (Nat.le_of_ble_eq_true rfl) (s_244 (a1 := x1) hI_61 (show (-2147483648) ≤ x1 ∧ x1 ≤ 2147483647 from ⟨by omega, by omega⟩) (fun c_62 y_65 hI_63 hF_64 hy_65 => (bk_inl (q_istore rfl (Nat.le_of_ble_eq_true rfl) (q_goto (t := 1816) rfl rfl (Wp_ls [(4, vi (i0 : Int)), (3, .ref 67), (2, .ref 41), (1, .ref 0), (0, .ref a_SC)] (lsub_cons rfl (lsub_cons rfl (lsub_cons rfl (lsub_cons rfl (lsub_cons rfl lsub_nil))))) ?_))))))
  have h_66 := ir_1_3 hI
  have kn_67 : Hid (c_5 1 3 = c 1 3) := hF_7 1 3 (fun q => q.elim (fun h => absurd h.1 (nn rfl)) (fun q => q.elim (fun h => absurd h (pn hP rfl rfl)) (fun q => q.elim (fun h => absurd h (pn hP rfl rfl)) (fun h => absurd h (nn rfl)))))
  have kn_68 : Hid (c_62 1 3 = c 1 3) := (hF_64 1 3 (fun q => q.elim (fun h => absurd h.1 (nn rfl)) (fun q => q.elim (fun h => absurd h (nn rfl)) (fun q => q.elim (fun h => absurd h (nn rfl)) (fun q => q.elim (fun h => absurd h (nn rfl)) (fun h => absurd h (nn rfl))))))).trans ((up_c (nn rfl)).trans (hid kn_67))
  have h_69 : c_62 1 3 = c 1 3 := (hid kn_68)
  have h_70 := ir_41_2 hI
  have kn_71 : Hid (c_5 41 2 = c 41 2) := hF_7 41 2 (fun q => q.elim (fun h => absurd h.1 (nn rfl)) (fun q => q.elim (fun h => absurd h (pn hP rfl rfl)) (fun q => q.elim (fun h => absurd h (pn hP rfl rfl)) (fun h => absurd h (nn rfl)))))
  have kn_72 : Hid (c_62 41 2 = c 41 2) := (hF_64 41 2 (fun q => q.elim (fun h => absurd h.2 (ni rfl)) (fun q => q.elim (fun h => absurd h (nn rfl)) (fun q => q.elim (fun h => absurd h (nn rfl)) (fun q => q.elim (fun h => absurd h (nn rfl)) (fun h => absurd h (nn rfl))))))).trans ((up_c (nn rfl)).trans (hid kn_71))
  have h_73 : c_62 41 2 = c 41 2 := (hid kn_72)
  have kn_74 : Hid (c_5 P 0 = n0) := (hF_7 P 0 (fun q => q.elim (fun h => absurd h.1 (np0 hP rfl)) (fun q => q.elim (fun h => absurd h (p0p rfl)) (fun q => q.elim (fun h => absurd h (p0p rfl)) (fun h => absurd h (np0 hP rfl)))))).trans (hn0)
  have kn_75 : Hid (c_62 P 0 = n0) := (hF_64 P 0 (fun q => q.elim (fun h => absurd h.1 (np0 hP rfl)) (fun q => q.elim (fun h => absurd h (np0 hP rfl)) (fun q => q.elim (fun h => absurd h (np0 hP rfl)) (fun q => q.elim (fun h => absurd h (np0 hP rfl)) (fun h => absurd h (np0 hP rfl))))))).trans ((up_c (np0 hP rfl)).trans (hid kn_74))
  have h_76 : c_62 P 0 = n0 := (hid kn_75)
  have kn_77 : Hid (c_5 41 20 = n0) := (hF_7 41 20 (fun q => q.elim (fun h => absurd h.1 (nn rfl)) (fun q => q.elim (fun h => absurd h (pn hP rfl rfl)) (fun q => q.elim (fun h => absurd h (pn hP rfl rfl)) (fun h => absurd h (nn rfl)))))).trans (hm0)
  have kn_78 : Hid (c_62 41 20 = n0) := (hF_64 41 20 (fun q => q.elim (fun h => absurd h.2 (ni rfl)) (fun q => q.elim (fun h => absurd h (nn rfl)) (fun q => q.elim (fun h => absurd h (nn rfl)) (fun q => q.elim (fun h => absurd h (nn rfl)) (fun h => absurd h (nn rfl))))))).trans ((up_c (nn rfl)).trans (hid kn_77))
  have h_79 : c_62 41 20 = n0 := (hid kn_78)
  have kn_80 : Hid (c_5 P 1 = n1) := (hF_7 P 1 (fun q => q.elim (fun h => absurd h.1 (np0 hP rfl)) (fun q => q.elim (fun h => absurd h (p0p rfl)) (fun q => q.elim (fun h => absurd h (p0p rfl)) (fun h => absurd h (np0 hP rfl)))))).trans (hn1)
  have kn_81 : Hid (c_62 P 1 = n1) := (hF_64 P 1 (fun q => q.elim (fun h => absurd h.1 (np0 hP rfl)) (fun q => q.elim (fun h => absurd h (np0 hP rfl)) (fun q => q.elim (fun h => absurd h (np0 hP rfl)) (fun q => q.elim (fun h => absurd h (np0 hP rfl)) (fun h => absurd h (np0 hP rfl))))))).trans ((up_c (np0 hP rfl)).trans (hid kn_80))
  have h_82 : c_62 P 1 = n1 := (hid kn_81)
  have kn_83 : Hid (c_5 41 21 = n1) := (hF_7 41 21 (fun q => q.elim (fun h => absurd h.1 (nn rfl)) (fun q => q.elim (fun h => absurd h (pn hP rfl rfl)) (fun q => q.elim (fun h => absurd h (pn hP rfl rfl)) (fun h => absurd h (nn rfl)))))).trans (hm1)
  have kn_84 : Hid (c_62 41 21 = n1) := (hF_64 41 21 (fun q => q.elim (fun h => absurd h.2 (ni rfl)) (fun q => q.elim (fun h => absurd h (nn rfl)) (fun q => q.elim (fun h => absurd h (nn rfl)) (fun q => q.elim (fun h => absurd h (nn rfl)) (fun h => absurd h (nn rfl))))))).trans ((up_c (nn rfl)).trans (hid kn_83))
  have h_85 : c_62 41 21 = n1 := (hid kn_84)
  have kn_86 : Hid (c_5 P 2 = n2) := (hF_7 P 2 (fun q => q.elim (fun h => absurd h.1 (np0 hP rfl)) (fun q => q.elim (fun h => absurd h (p0p rfl)) (fun q => q.elim (fun h => absurd h (p0p rfl)) (fun h => absurd h (np0 hP rfl)))))).trans (hn2)
  have kn_87 : Hid (c_62 P 2 = n2) := (hF_64 P 2 (fun q => q.elim (fun h => absurd h.1 (np0 hP rfl)) (fun q => q.elim (fun h => absurd h (np0 hP rfl)) (fun q => q.elim (fun h => absurd h (np0 hP rfl)) (fun q => q.elim (fun h => absurd h (np0 hP rfl)) (fun h => absurd h (np0 hP rfl))))))).trans ((up_c (np0 hP rfl)).trans (hid kn_86))
  have h_88 : c_62 P 2 = n2 := (hid kn_87)
  have kn_89 : Hid (c_5 41 22 = n2) := (hF_7 41 22 (fun q => q.elim (fun h => absurd h.1 (nn rfl)) (fun q => q.elim (fun h => absurd h (pn hP rfl rfl)) (fun q => q.elim (fun h => absurd h (pn hP rfl rfl)) (fun h => absurd h (nn rfl)))))).trans (hm2)
  have kn_90 : Hid (c_62 41 22 = n2) := (hF_64 41 22 (fun q => q.elim (fun h => absurd h.2 (ni rfl)) (fun q => q.elim (fun h => absurd h (nn rfl)) (fun q => q.elim (fun h => absurd h (nn rfl)) (fun q => q.elim (fun h => absurd h (nn rfl)) (fun h => absurd h (nn rfl))))))).trans ((up_c (nn rfl)).trans (hid kn_89))
  have h_91 : c_62 41 22 = n2 := (hid kn_90)
  have kn_92 : Hid (c_5 P 3 = n3) := (hF_7 P 3 (fun q => q.elim (fun h => absurd h.1 (np0 hP rfl)) (fun q => q.elim (fun h => absurd h (p0p rfl)) (fun q => q.elim (fun h => absurd h (p0p rfl)) (fun h => absurd h (np0 hP rfl)))))).trans (hn3)
  have kn_93 : Hid (c_62 P 3 = n3) := (hF_64 P 3 (fun q => q.elim (fun h => absurd h.1 (np0 hP rfl)) (fun q => q.elim (fun h => absurd h (np0 hP rfl)) (fun q => q.elim (fun h => absurd h (np0 hP rfl)) (fun q => q.elim (fun h => absurd h (np0 hP rfl)) (fun h => absurd h (np0 hP rfl))))))).trans ((up_c (np0 hP rfl)).trans (hid kn_92))
  have h_94 : c_62 P 3 = n3 := (hid kn_93)
  have kn_95 : Hid (c_5 41 23 = n3) := (hF_7 41 23 (fun q => q.elim (fun h => absurd h.1 (nn rfl)) (fun q => q.elim (fun h => absurd h (pn hP rfl rfl)) (fun q => q.elim (fun h => absurd h (pn hP rfl rfl)) (fun h => absurd h (nn rfl)))))).trans (hm3)
  have kn_96 : Hid (c_62 41 23 = n3) := (hF_64 41 23 (fun q => q.elim (fun h => absurd h.2 (ni rfl)) (fun q => q.elim (fun h => absurd h (nn rfl)) (fun q => q.elim (fun h => absurd h (nn rfl)) (fun q => q.elim (fun h => absurd h (nn rfl)) (fun h => absurd h (nn rfl))))))).trans ((up_c (nn rfl)).trans (hid kn_95))
  have h_97 : c_62 41 23 = n3 := (hid kn_96)
  have kn_98 : Hid (c_5 3 4 = c 3 4) := hF_7 3 4 (fun q => q.elim (fun h => absurd h.1 (nn rfl)) (fun q => q.elim (fun h => absurd h (pn hP rfl rfl)) (fun q => q.elim (fun h => absurd h (pn hP rfl rfl)) (fun h => absurd h (nn rfl)))))
  have kn_99 : Hid (c_62 3 4 = c 3 4) := (hF_64 3 4 (fun q => q.elim (fun h => absurd h.1 (nn rfl)) (fun q => q.elim (fun h => absurd h (nn rfl)) (fun q => q.elim (fun h => absurd h (nn rfl)) (fun q => q.elim (fun h => absurd h (nn rfl)) (fun h => absurd h (nn rfl))))))).trans ((up_c (nn rfl)).trans (hid kn_98))
  have h_100 : c_62 3 4 = c 3 4 := (hid kn_99)
  have h_101 := ir_41_52 hI
  have kn_102 : Hid (c_5 41 52 = c 41 52) := hF_7 41 52 (fun q => q.elim (fun h => absurd h.1 (nn rfl)) (fun q => q.elim (fun h => absurd h (pn hP rfl rfl)) (fun q => q.elim (fun h => absurd h (pn hP rfl rfl)) (fun h => absurd h (nn rfl)))))
  have kn_103 : Hid (c_62 41 52 = c 41 52) := (hF_64 41 52 (fun q => q.elim (fun h => absurd h.2 (ni rfl)) (fun q => q.elim (fun h => absurd h (nn rfl)) (fun q => q.elim (fun h => absurd h (nn rfl)) (fun q => q.elim (fun h => absurd h (nn rfl)) (fun h => absurd h (nn rfl))))))).trans ((up_c (nn rfl)).trans (hid kn_102))
  have h_104 : c_62 41 52 = c 41 52 := (hid kn_103)
  have h_105 := ir_3_3 hI
  have kn_106 : Hid (c_5 3 3 = c 3 3) := hF_7 3 3 (fun q => q.elim (fun h => absurd h.1 (nn rfl)) (fun q => q.elim (fun h => absurd h (pn hP rfl rfl)) (fun q => q.elim (fun h => absurd h (pn hP rfl rfl)) (fun h => absurd h (nn rfl)))))
  have kn_107 : Hid (c_62 3 3 = c 3 3) := (hF_64 3 3 (fun q => q.elim (fun h => absurd h.1 (nn rfl)) (fun q => q.elim (fun h => absurd h (nn rfl)) (fun q => q.elim (fun h => absurd h (nn rfl)) (fun q => q.elim (fun h => absurd h (nn rfl)) (fun h => absurd h (nn rfl))))))).trans ((up_c (nn rfl)).trans (hid kn_106))
  have h_108 : c_62 3 3 = c 3 3 := (hid kn_107)
  have h_109 := ir_41_35 hI
  have kn_110 : Hid (c_5 41 35 = c 41 35) := hF_7 41 35 (fun q => q.elim (fun h => absurd h.1 (nn rfl)) (fun q => q.elim (fun h => absurd h (pn hP rfl rfl)) (fun q => q.elim (fun h => absurd h (pn hP rfl rfl)) (fun h => absurd h (nn rfl)))))
  have kn_111 : Hid (c_62 41 35 = c 41 35) := (hF_64 41 35 (fun q => q.elim (fun h => absurd h.2 (ni rfl)) (fun q => q.elim (fun h => absurd h (nn rfl)) (fun q => q.elim (fun h => absurd h (nn rfl)) (fun q => q.elim (fun h => absurd h (nn rfl)) (fun h => absurd h (nn rfl))))))).trans ((up_c (nn rfl)).trans (hid kn_110))
  have h_112 : c_62 41 35 = c 41 35 := (hid kn_111)
  have h_113 : c_62 3 4 = c 3 4 := (hid kn_99)
  exact K P Q c_62 0 (by decide) hI_63 ⟨by omega, ub_fr hU (fun j => (hF_64 2 j (fun q => q.elim (fun h => absurd h.1 (nn rfl)) (fun q => q.elim (fun h => absurd h (nn rfl)) (fun q => q.elim (fun h => absurd h (nn rfl)) (fun q => q.elim (fun h => absurd h (nn rfl)) (fun h => absurd h (nn rfl))))))).trans ((up_c (nn rfl)).trans (hF_7 2 j (fun q => q.elim (fun h => absurd h.1 (nn rfl)) (fun q => q.elim (fun h => absurd h (pn hP rfl rfl)) (fun q => q.elim (fun h => absurd h (pn hP rfl rfl)) (fun h => absurd h (nn rfl)))))))) (fun j => (hF_64 43 j (fun q => q.elim (fun h => absurd h.1 (nn rfl)) (fun q => q.elim (fun h => absurd h (nn rfl)) (fun q => q.elim (fun h => absurd h (nn rfl)) (fun q => q.elim (fun h => absurd h (nn rfl)) (fun h => absurd h (nn rfl))))))).trans ((up_c (nn rfl)).trans (hF_7 43 j (fun q => q.elim (fun h => absurd h.1 (nn rfl)) (fun q => q.elim (fun h => absurd h (pn hP rfl rfl)) (fun q => q.elim (fun h => absurd h (pn hP rfl rfl)) (fun h => absurd h (nn rfl)))))))), ⟨by omega, by omega, by omega, by omega⟩, by omega, by omega, iw_fr2 hIw (by omega) (fun j => (hF_64 6 j (fun q => q.elim (fun h => absurd h.1 (nn rfl)) (fun q => q.elim (fun h => absurd h (nn rfl)) (fun q => q.elim (fun h => absurd h (nn rfl)) (fun q => q.elim (fun h => absurd h (nn rfl)) (fun h => absurd h (nn rfl))))))).trans ((up_c (nn rfl)).trans (hF_7 6 j (fun q => q.elim (fun h => absurd h.1 (nn rfl)) (fun q => q.elim (fun h => absurd h (pn hP rfl rfl)) (fun q => q.elim (fun h => absurd h (pn hP rfl rfl)) (fun h => absurd h (nn rfl)))))))) (fun j => (hF_64 66 j (fun q => q.elim (fun h => absurd h.1 (nn rfl)) (fun q => q.elim (fun h => absurd h (nn rfl)) (fun q => q.elim (fun h => absurd h (nn rfl)) (fun q => q.elim (fun h => absurd h (nn rfl)) (fun h => absurd h (nn rfl))))))).trans ((up_c (nn rfl)).trans (hF_7 66 j (fun q => q.elim (fun h => absurd h.1 (nn rfl)) (fun q => q.elim (fun h => absurd h (pn hP rfl rfl)) (fun q => q.elim (fun h => absurd h (pn hP rfl rfl)) (fun h => absurd h (nn rfl))))))))⟩

set_option maxRecDepth 100000 in
set_option maxHeartbeats 4000000 in
theorem o_30 {xs : Nat → Int32} {L i0 d nc ns P Q : Nat} {c : ME} {Z : AR → Prop} (hi : i0 + 8 ≤ L) (hL : L ≤ 100000) (hI : Iv 0 (-1) P Q c) (hR : Rq P c) (K : ∀ (P2 Q2 : Nat) (c2 : ME) (e : Nat), e ≤ 1 → Iv 0 (-1) P2 Q2 c2 → (Rq P2 c2) → Wp (a_scr L xs) (d + 90) 296 1816 [(4, vi (i0 : Int)), (3, .ref 67), (2, .ref 41), (1, .ref 0), (0, .ref a_SC)] [] (Wd P2 Q2 P2 P2 c2) (nc + e) (ns + 6 * e) Z) : Wp (a_scr L xs) (d + 90) 296 1381 [(4, vi (i0 : Int)), (3, .ref 67), (2, .ref 41), (1, .ref 0), (0, .ref a_SC)] [] (Wd P Q P P c) nc ns Z := by
  obtain ⟨x1, hx1⟩ : ∃ z, (xs (i0 + 1)).toInt = z := ⟨_, rfl⟩
  have x1r := c_rng (xs (i0 + 1))
  rw [hx1] at x1r
  obtain ⟨x2, hx2⟩ : ∃ z, (xs (i0 + 2)).toInt = z := ⟨_, rfl⟩
  have x2r := c_rng (xs (i0 + 2))
  rw [hx2] at x2r
  obtain ⟨x3, hx3⟩ : ∃ z, (xs (i0 + 3)).toInt = z := ⟨_, rfl⟩
  have x3r := c_rng (xs (i0 + 3))
  rw [hx3] at x3r
  obtain ⟨x4, hx4⟩ : ∃ z, (xs (i0 + 4)).toInt = z := ⟨_, rfl⟩
  have x4r := c_rng (xs (i0 + 4))
  rw [hx4] at x4r
  obtain ⟨x5, hx5⟩ : ∃ z, (xs (i0 + 5)).toInt = z := ⟨_, rfl⟩
  have x5r := c_rng (xs (i0 + 5))
  rw [hx5] at x5r
  obtain ⟨x6, hx6⟩ : ∃ z, (xs (i0 + 6)).toInt = z := ⟨_, rfl⟩
  have x6r := c_rng (xs (i0 + 6))
  rw [hx6] at x6r
  obtain ⟨x7, hx7⟩ : ∃ z, (xs (i0 + 7)).toInt = z := ⟨_, rfl⟩
  have x7r := c_rng (xs (i0 + 7))
  rw [hx7] at x7r
  have hT := rl_t hR
  have hU := rl_u hR
  have hP := iv_P hI
  obtain ⟨n0, hn0⟩ : ∃ z, c P 0 = z := ⟨_, rfl⟩
  have hm0 : c 41 20 = n0 := (rl_nums hR).1.symm.trans hn0
  have hr0 := ir_p0_0 hI hP
  rw [hn0] at hr0
  obtain ⟨n1, hn1⟩ : ∃ z, c P 1 = z := ⟨_, rfl⟩
  have hm1 : c 41 21 = n1 := (rl_nums hR).2.1.symm.trans hn1
  have hr1 := ir_p0_1 hI hP
  rw [hn1] at hr1
  obtain ⟨n2, hn2⟩ : ∃ z, c P 2 = z := ⟨_, rfl⟩
  have hm2 : c 41 22 = n2 := (rl_nums hR).2.2.1.symm.trans hn2
  have hr2 := ir_p0_2 hI hP
  rw [hn2] at hr2
  obtain ⟨n3, hn3⟩ : ∃ z, c P 3 = z := ⟨_, rfl⟩
  have hm3 : c 41 23 = n3 := (rl_nums hR).2.2.2.symm.trans hn3
  have hr3 := ir_p0_3 hI hP
  rw [hn3] at hr3
  have hNimg := rl_img hR
  have hNwk := rl_wk hR
  have h_1 := ir_3_4 hI
  have hIw := rl_iw hR
  have hP := iv_P hI
  have hQ := iv_Q hI
  refine q_aload_n rfl rfl (q_aload_n rfl rfl (q_iload rfl rfl (q_iconst rfl (v_iadd (v := (i0 : Int) + 1) rfl rfl (v_scr (j := i0 + 1) rfl (by omega) (by omega) hL hx1 (q_aload_n rfl rfl (q_call rfl rfl rfl rfl ?_)))))))
  refine q_aload_n rfl rfl (q_iconst rfl (q_aload_n rfl rfl (q_iload_n rfl rfl ?_)))
  refine v_cv rfl rfl rfl rfl (Nat.le_of_ble_eq_true rfl) ⟨⟨rfl, rfl⟩, Nat.le_of_ble_eq_true rfl, rfl⟩ (Nat.le_of_ble_eq_true rfl) (Nat.le_of_ble_eq_true rfl) (s_98 (a1 := x1) hI (show (-2147483648) ≤ x1 ∧ x1 ≤ 2147483647 from ⟨by omega, by omega⟩) (fun c_2 hI_3 hF_4 => ?_) (fun c_5 y_8 hI_6 hF_7 hy_8 => ?_))
  · skip
    refine bk_thr (z := Int32.ofInt 1) rfl ⟨_, _, rfl⟩ rfl (bk_inl (q_istore rfl (Nat.le_of_ble_eq_true rfl) (q_aload_n rfl rfl (q_aload_n rfl rfl (q_iload rfl rfl (q_iconst rfl (v_iadd (v := (i0 : Int) + 1) rfl rfl ?_)))))))
    refine v_scr (j := i0 + 1) rfl (by omega) (by omega) hL hx1 (v_cv rfl rfl rfl rfl (Nat.le_of_ble_eq_true rfl) ⟨⟨rfl, rfl⟩, Nat.le_of_ble_eq_true rfl, rfl⟩ (Nat.le_of_ble_eq_true rfl) (Nat.le_of_ble_eq_true rfl) (s_245 (a1 := x1) hI_3 (show (-2147483648) ≤ x1 ∧ x1 ≤ 2147483647 from ⟨by omega, by omega⟩) (fun c_9 y_12 hI_10 hF_11 hy_12 => (bk_inl (q_istore rfl (Nat.le_of_ble_eq_true rfl) (q_goto (t := 1816) rfl rfl (Wp_ls [(4, vi (i0 : Int)), (3, .ref 67), (2, .ref 41), (1, .ref 0), (0, .ref a_SC)] (lsub_cons rfl (lsub_cons rfl (lsub_cons rfl (lsub_cons rfl (lsub_cons rfl lsub_nil))))) ?_)))))))
    have h_13 := ir_1_3 hI
    have kn_14 : Hid (c_2 1 3 = c 1 3) := hF_4 1 3 (fun h => absurd h.1 (nn rfl))
    have kn_15 : Hid (c_9 1 3 = c 1 3) := (hF_11 1 3 (fun q => q.elim (fun h => absurd h.1 (nn rfl)) (fun q => q.elim (fun h => absurd h (nn rfl)) (fun h => absurd h (nn rfl))))).trans (hid kn_14)
    have h_16 : c_9 1 3 = c 1 3 := (hid kn_15)
    have h_17 := ir_41_2 hI
    have kn_18 : Hid (c_2 41 2 = c 41 2) := hF_4 41 2 (fun h => absurd h.1 (nn rfl))
    have kn_19 : Hid (c_9 41 2 = c 41 2) := (hF_11 41 2 (fun q => q.elim (fun h => absurd h.2 (ni rfl)) (fun q => q.elim (fun h => absurd h (nn rfl)) (fun h => absurd h (nn rfl))))).trans (hid kn_18)
    have h_20 : c_9 41 2 = c 41 2 := (hid kn_19)
    have kn_21 : Hid (c_2 P 0 = n0) := (hF_4 P 0 (fun h => absurd h.1 (np0 hP rfl))).trans (hn0)
    have kn_22 : Hid (c_9 P 0 = n0) := (hF_11 P 0 (fun q => q.elim (fun h => absurd h.1 (np0 hP rfl)) (fun q => q.elim (fun h => absurd h (np0 hP rfl)) (fun h => absurd h (np0 hP rfl))))).trans (hid kn_21)
    have h_23 : c_9 P 0 = n0 := (hid kn_22)
    have kn_24 : Hid (c_2 41 20 = n0) := (hF_4 41 20 (fun h => absurd h.1 (nn rfl))).trans (hm0)
    have kn_25 : Hid (c_9 41 20 = n0) := (hF_11 41 20 (fun q => q.elim (fun h => absurd h.2 (ni rfl)) (fun q => q.elim (fun h => absurd h (nn rfl)) (fun h => absurd h (nn rfl))))).trans (hid kn_24)
    have h_26 : c_9 41 20 = n0 := (hid kn_25)
    have kn_27 : Hid (c_2 P 1 = n1) := (hF_4 P 1 (fun h => absurd h.1 (np0 hP rfl))).trans (hn1)
    have kn_28 : Hid (c_9 P 1 = n1) := (hF_11 P 1 (fun q => q.elim (fun h => absurd h.1 (np0 hP rfl)) (fun q => q.elim (fun h => absurd h (np0 hP rfl)) (fun h => absurd h (np0 hP rfl))))).trans (hid kn_27)
    have h_29 : c_9 P 1 = n1 := (hid kn_28)
    have kn_30 : Hid (c_2 41 21 = n1) := (hF_4 41 21 (fun h => absurd h.1 (nn rfl))).trans (hm1)
    have kn_31 : Hid (c_9 41 21 = n1) := (hF_11 41 21 (fun q => q.elim (fun h => absurd h.2 (ni rfl)) (fun q => q.elim (fun h => absurd h (nn rfl)) (fun h => absurd h (nn rfl))))).trans (hid kn_30)
    have h_32 : c_9 41 21 = n1 := (hid kn_31)
    have kn_33 : Hid (c_2 P 2 = n2) := (hF_4 P 2 (fun h => absurd h.1 (np0 hP rfl))).trans (hn2)
    have kn_34 : Hid (c_9 P 2 = n2) := (hF_11 P 2 (fun q => q.elim (fun h => absurd h.1 (np0 hP rfl)) (fun q => q.elim (fun h => absurd h (np0 hP rfl)) (fun h => absurd h (np0 hP rfl))))).trans (hid kn_33)
    have h_35 : c_9 P 2 = n2 := (hid kn_34)
    have kn_36 : Hid (c_2 41 22 = n2) := (hF_4 41 22 (fun h => absurd h.1 (nn rfl))).trans (hm2)
    have kn_37 : Hid (c_9 41 22 = n2) := (hF_11 41 22 (fun q => q.elim (fun h => absurd h.2 (ni rfl)) (fun q => q.elim (fun h => absurd h (nn rfl)) (fun h => absurd h (nn rfl))))).trans (hid kn_36)
    have h_38 : c_9 41 22 = n2 := (hid kn_37)
    have kn_39 : Hid (c_2 P 3 = n3) := (hF_4 P 3 (fun h => absurd h.1 (np0 hP rfl))).trans (hn3)
    have kn_40 : Hid (c_9 P 3 = n3) := (hF_11 P 3 (fun q => q.elim (fun h => absurd h.1 (np0 hP rfl)) (fun q => q.elim (fun h => absurd h (np0 hP rfl)) (fun h => absurd h (np0 hP rfl))))).trans (hid kn_39)
    have h_41 : c_9 P 3 = n3 := (hid kn_40)
    have kn_42 : Hid (c_2 41 23 = n3) := (hF_4 41 23 (fun h => absurd h.1 (nn rfl))).trans (hm3)
    have kn_43 : Hid (c_9 41 23 = n3) := (hF_11 41 23 (fun q => q.elim (fun h => absurd h.2 (ni rfl)) (fun q => q.elim (fun h => absurd h (nn rfl)) (fun h => absurd h (nn rfl))))).trans (hid kn_42)
    have h_44 : c_9 41 23 = n3 := (hid kn_43)
    have kn_45 : Hid (c_2 3 4 = c 3 4) := hF_4 3 4 (fun h => absurd h.1 (nn rfl))
    have kn_46 : Hid (c_9 3 4 = c 3 4) := (hF_11 3 4 (fun q => q.elim (fun h => absurd h.1 (nn rfl)) (fun q => q.elim (fun h => absurd h (nn rfl)) (fun h => absurd h (nn rfl))))).trans (hid kn_45)
    have h_47 : c_9 3 4 = c 3 4 := (hid kn_46)
    have h_48 := ir_41_52 hI
    have kn_49 : Hid (c_2 41 52 = c 41 52) := hF_4 41 52 (fun h => absurd h.1 (nn rfl))
    have kn_50 : Hid (c_9 41 52 = c 41 52) := (hF_11 41 52 (fun q => q.elim (fun h => absurd h.2 (ni rfl)) (fun q => q.elim (fun h => absurd h (nn rfl)) (fun h => absurd h (nn rfl))))).trans (hid kn_49)
    have h_51 : c_9 41 52 = c 41 52 := (hid kn_50)
    have h_52 := ir_3_3 hI
    have kn_53 : Hid (c_2 3 3 = c 3 3) := hF_4 3 3 (fun h => absurd h.1 (nn rfl))
    have kn_54 : Hid (c_9 3 3 = c 3 3) := (hF_11 3 3 (fun q => q.elim (fun h => absurd h.1 (nn rfl)) (fun q => q.elim (fun h => absurd h (nn rfl)) (fun h => absurd h (nn rfl))))).trans (hid kn_53)
    have h_55 : c_9 3 3 = c 3 3 := (hid kn_54)
    have h_56 := ir_41_35 hI
    have kn_57 : Hid (c_2 41 35 = c 41 35) := hF_4 41 35 (fun h => absurd h.1 (nn rfl))
    have kn_58 : Hid (c_9 41 35 = c 41 35) := (hF_11 41 35 (fun q => q.elim (fun h => absurd h.2 (ni rfl)) (fun q => q.elim (fun h => absurd h (nn rfl)) (fun h => absurd h (nn rfl))))).trans (hid kn_57)
    have h_59 : c_9 41 35 = c 41 35 := (hid kn_58)
    have h_60 : c_9 3 4 = c 3 4 := (hid kn_46)
    exact K P Q c_9 1 (by decide) hI_10 ⟨by omega, ub_fr hU (fun j => (hF_11 2 j (fun q => q.elim (fun h => absurd h.1 (nn rfl)) (fun q => q.elim (fun h => absurd h (nn rfl)) (fun h => absurd h (nn rfl))))).trans (hF_4 2 j (fun h => absurd h.1 (nn rfl)))) (fun j => (hF_11 43 j (fun q => q.elim (fun h => absurd h.1 (nn rfl)) (fun q => q.elim (fun h => absurd h (nn rfl)) (fun h => absurd h (nn rfl))))).trans (hF_4 43 j (fun h => absurd h.1 (nn rfl)))), ⟨by omega, by omega, by omega, by omega⟩, by omega, by omega, iw_fr2 hIw (by omega) (fun j => (hF_11 6 j (fun q => q.elim (fun h => absurd h.1 (nn rfl)) (fun q => q.elim (fun h => absurd h (nn rfl)) (fun h => absurd h (nn rfl))))).trans (hF_4 6 j (fun h => absurd h.1 (nn rfl)))) (fun j => (hF_11 66 j (fun q => q.elim (fun h => absurd h.1 (nn rfl)) (fun q => q.elim (fun h => absurd h (nn rfl)) (fun h => absurd h (nn rfl))))).trans (hF_4 66 j (fun h => absurd h.1 (nn rfl))))⟩
  refine bk_inl (v_i2l rfl (by omega) (v_ls rfl rfl (by decide) (by decide) (by decide) (q_goto (t := 15) rfl rfl (q_iconst rfl (q_iret rfl rfl (bk_inl (q_istore rfl (Nat.le_of_ble_eq_true rfl) ?_)))))))
  refine q_aload_n rfl rfl (q_aload_n rfl rfl (q_iload rfl rfl (q_iconst rfl (v_iadd (v := (i0 : Int) + 1) rfl rfl (v_scr (j := i0 + 1) rfl (by omega) (by omega) hL hx1 ?_)))))
  have hI_61 := iw_lx (a := 67) (j := 0) (v := y_8) hI_6 (by omega)
  refine v_cv rfl rfl rfl rfl (Nat.le_of_ble_eq_true rfl) ⟨⟨rfl, rfl⟩, Nat.le_of_ble_eq_true rfl, rfl⟩ (Nat.le_of_ble_eq_true rfl) (Nat.le_of_ble_eq_true rfl) (s_245 (a1 := x1) hI_61 (show (-2147483648) ≤ x1 ∧ x1 ≤ 2147483647 from ⟨by omega, by omega⟩) (fun c_62 y_65 hI_63 hF_64 hy_65 => (bk_inl (q_istore rfl (Nat.le_of_ble_eq_true rfl) (q_goto (t := 1816) rfl rfl (Wp_ls [(4, vi (i0 : Int)), (3, .ref 67), (2, .ref 41), (1, .ref 0), (0, .ref a_SC)] (lsub_cons rfl (lsub_cons rfl (lsub_cons rfl (lsub_cons rfl (lsub_cons rfl lsub_nil))))) ?_))))))
  have h_66 := ir_1_3 hI
  have kn_67 : Hid (c_5 1 3 = c 1 3) := hF_7 1 3 (fun h => absurd h.1 (nn rfl))
  have kn_68 : Hid (c_62 1 3 = c 1 3) := (hF_64 1 3 (fun q => q.elim (fun h => absurd h.1 (nn rfl)) (fun q => q.elim (fun h => absurd h (nn rfl)) (fun h => absurd h (nn rfl))))).trans ((up_c (nn rfl)).trans (hid kn_67))
  have h_69 : c_62 1 3 = c 1 3 := (hid kn_68)
  have h_70 := ir_41_2 hI
  have kn_71 : Hid (c_5 41 2 = c 41 2) := hF_7 41 2 (fun h => absurd h.1 (nn rfl))
  have kn_72 : Hid (c_62 41 2 = c 41 2) := (hF_64 41 2 (fun q => q.elim (fun h => absurd h.2 (ni rfl)) (fun q => q.elim (fun h => absurd h (nn rfl)) (fun h => absurd h (nn rfl))))).trans ((up_c (nn rfl)).trans (hid kn_71))
  have h_73 : c_62 41 2 = c 41 2 := (hid kn_72)
  have kn_74 : Hid (c_5 P 0 = n0) := (hF_7 P 0 (fun h => absurd h.1 (np0 hP rfl))).trans (hn0)
  have kn_75 : Hid (c_62 P 0 = n0) := (hF_64 P 0 (fun q => q.elim (fun h => absurd h.1 (np0 hP rfl)) (fun q => q.elim (fun h => absurd h (np0 hP rfl)) (fun h => absurd h (np0 hP rfl))))).trans ((up_c (np0 hP rfl)).trans (hid kn_74))
  have h_76 : c_62 P 0 = n0 := (hid kn_75)
  have kn_77 : Hid (c_5 41 20 = n0) := (hF_7 41 20 (fun h => absurd h.1 (nn rfl))).trans (hm0)
  have kn_78 : Hid (c_62 41 20 = n0) := (hF_64 41 20 (fun q => q.elim (fun h => absurd h.2 (ni rfl)) (fun q => q.elim (fun h => absurd h (nn rfl)) (fun h => absurd h (nn rfl))))).trans ((up_c (nn rfl)).trans (hid kn_77))
  have h_79 : c_62 41 20 = n0 := (hid kn_78)
  have kn_80 : Hid (c_5 P 1 = n1) := (hF_7 P 1 (fun h => absurd h.1 (np0 hP rfl))).trans (hn1)
  have kn_81 : Hid (c_62 P 1 = n1) := (hF_64 P 1 (fun q => q.elim (fun h => absurd h.1 (np0 hP rfl)) (fun q => q.elim (fun h => absurd h (np0 hP rfl)) (fun h => absurd h (np0 hP rfl))))).trans ((up_c (np0 hP rfl)).trans (hid kn_80))
  have h_82 : c_62 P 1 = n1 := (hid kn_81)
  have kn_83 : Hid (c_5 41 21 = n1) := (hF_7 41 21 (fun h => absurd h.1 (nn rfl))).trans (hm1)
  have kn_84 : Hid (c_62 41 21 = n1) := (hF_64 41 21 (fun q => q.elim (fun h => absurd h.2 (ni rfl)) (fun q => q.elim (fun h => absurd h (nn rfl)) (fun h => absurd h (nn rfl))))).trans ((up_c (nn rfl)).trans (hid kn_83))
  have h_85 : c_62 41 21 = n1 := (hid kn_84)
  have kn_86 : Hid (c_5 P 2 = n2) := (hF_7 P 2 (fun h => absurd h.1 (np0 hP rfl))).trans (hn2)
  have kn_87 : Hid (c_62 P 2 = n2) := (hF_64 P 2 (fun q => q.elim (fun h => absurd h.1 (np0 hP rfl)) (fun q => q.elim (fun h => absurd h (np0 hP rfl)) (fun h => absurd h (np0 hP rfl))))).trans ((up_c (np0 hP rfl)).trans (hid kn_86))
  have h_88 : c_62 P 2 = n2 := (hid kn_87)
  have kn_89 : Hid (c_5 41 22 = n2) := (hF_7 41 22 (fun h => absurd h.1 (nn rfl))).trans (hm2)
  have kn_90 : Hid (c_62 41 22 = n2) := (hF_64 41 22 (fun q => q.elim (fun h => absurd h.2 (ni rfl)) (fun q => q.elim (fun h => absurd h (nn rfl)) (fun h => absurd h (nn rfl))))).trans ((up_c (nn rfl)).trans (hid kn_89))
  have h_91 : c_62 41 22 = n2 := (hid kn_90)
  have kn_92 : Hid (c_5 P 3 = n3) := (hF_7 P 3 (fun h => absurd h.1 (np0 hP rfl))).trans (hn3)
  have kn_93 : Hid (c_62 P 3 = n3) := (hF_64 P 3 (fun q => q.elim (fun h => absurd h.1 (np0 hP rfl)) (fun q => q.elim (fun h => absurd h (np0 hP rfl)) (fun h => absurd h (np0 hP rfl))))).trans ((up_c (np0 hP rfl)).trans (hid kn_92))
  have h_94 : c_62 P 3 = n3 := (hid kn_93)
  have kn_95 : Hid (c_5 41 23 = n3) := (hF_7 41 23 (fun h => absurd h.1 (nn rfl))).trans (hm3)
  have kn_96 : Hid (c_62 41 23 = n3) := (hF_64 41 23 (fun q => q.elim (fun h => absurd h.2 (ni rfl)) (fun q => q.elim (fun h => absurd h (nn rfl)) (fun h => absurd h (nn rfl))))).trans ((up_c (nn rfl)).trans (hid kn_95))
  have h_97 : c_62 41 23 = n3 := (hid kn_96)
  have kn_98 : Hid (c_5 3 4 = c 3 4) := hF_7 3 4 (fun h => absurd h.1 (nn rfl))
  have kn_99 : Hid (c_62 3 4 = c 3 4) := (hF_64 3 4 (fun q => q.elim (fun h => absurd h.1 (nn rfl)) (fun q => q.elim (fun h => absurd h (nn rfl)) (fun h => absurd h (nn rfl))))).trans ((up_c (nn rfl)).trans (hid kn_98))
  have h_100 : c_62 3 4 = c 3 4 := (hid kn_99)
  have h_101 := ir_41_52 hI
  have kn_102 : Hid (c_5 41 52 = c 41 52) := hF_7 41 52 (fun h => absurd h.1 (nn rfl))
  have kn_103 : Hid (c_62 41 52 = c 41 52) := (hF_64 41 52 (fun q => q.elim (fun h => absurd h.2 (ni rfl)) (fun q => q.elim (fun h => absurd h (nn rfl)) (fun h => absurd h (nn rfl))))).trans ((up_c (nn rfl)).trans (hid kn_102))
  have h_104 : c_62 41 52 = c 41 52 := (hid kn_103)
  have h_105 := ir_3_3 hI
  have kn_106 : Hid (c_5 3 3 = c 3 3) := hF_7 3 3 (fun h => absurd h.1 (nn rfl))
  have kn_107 : Hid (c_62 3 3 = c 3 3) := (hF_64 3 3 (fun q => q.elim (fun h => absurd h.1 (nn rfl)) (fun q => q.elim (fun h => absurd h (nn rfl)) (fun h => absurd h (nn rfl))))).trans ((up_c (nn rfl)).trans (hid kn_106))
  have h_108 : c_62 3 3 = c 3 3 := (hid kn_107)
  have h_109 := ir_41_35 hI
  have kn_110 : Hid (c_5 41 35 = c 41 35) := hF_7 41 35 (fun h => absurd h.1 (nn rfl))
  have kn_111 : Hid (c_62 41 35 = c 41 35) := (hF_64 41 35 (fun q => q.elim (fun h => absurd h.2 (ni rfl)) (fun q => q.elim (fun h => absurd h (nn rfl)) (fun h => absurd h (nn rfl))))).trans ((up_c (nn rfl)).trans (hid kn_110))
  have h_112 : c_62 41 35 = c 41 35 := (hid kn_111)
  have h_113 : c_62 3 4 = c 3 4 := (hid kn_99)
  exact K P Q c_62 0 (by decide) hI_63 ⟨by omega, ub_fr hU (fun j => (hF_64 2 j (fun q => q.elim (fun h => absurd h.1 (nn rfl)) (fun q => q.elim (fun h => absurd h (nn rfl)) (fun h => absurd h (nn rfl))))).trans ((up_c (nn rfl)).trans (hF_7 2 j (fun h => absurd h.1 (nn rfl))))) (fun j => (hF_64 43 j (fun q => q.elim (fun h => absurd h.1 (nn rfl)) (fun q => q.elim (fun h => absurd h (nn rfl)) (fun h => absurd h (nn rfl))))).trans ((up_c (nn rfl)).trans (hF_7 43 j (fun h => absurd h.1 (nn rfl))))), ⟨by omega, by omega, by omega, by omega⟩, by omega, by omega, iw_fr2 hIw (by omega) (fun j => (hF_64 6 j (fun q => q.elim (fun h => absurd h.1 (nn rfl)) (fun q => q.elim (fun h => absurd h (nn rfl)) (fun h => absurd h (nn rfl))))).trans ((up_c (nn rfl)).trans (hF_7 6 j (fun h => absurd h.1 (nn rfl))))) (fun j => (hF_64 66 j (fun q => q.elim (fun h => absurd h.1 (nn rfl)) (fun q => q.elim (fun h => absurd h (nn rfl)) (fun h => absurd h (nn rfl))))).trans ((up_c (nn rfl)).trans (hF_7 66 j (fun h => absurd h.1 (nn rfl)))))⟩

set_option maxRecDepth 100000 in
set_option maxHeartbeats 4000000 in
theorem o_31 {xs : Nat → Int32} {L i0 d nc ns P Q : Nat} {c : ME} {Z : AR → Prop} (hi : i0 + 8 ≤ L) (hL : L ≤ 100000) (hI : Iv 0 (-1) P Q c) (hR : Rq P c) (K : ∀ (P2 Q2 : Nat) (c2 : ME) (e : Nat), e ≤ 1 → Iv 0 (-1) P2 Q2 c2 → (Rq P2 c2) → Wp (a_scr L xs) (d + 90) 296 1816 [(4, vi (i0 : Int)), (3, .ref 67), (2, .ref 41), (1, .ref 0), (0, .ref a_SC)] [] (Wd P2 Q2 P2 P2 c2) (nc + e) (ns + 6 * e) Z) : Wp (a_scr L xs) (d + 90) 296 1409 [(4, vi (i0 : Int)), (3, .ref 67), (2, .ref 41), (1, .ref 0), (0, .ref a_SC)] [] (Wd P Q P P c) nc ns Z := by
  obtain ⟨x1, hx1⟩ : ∃ z, (xs (i0 + 1)).toInt = z := ⟨_, rfl⟩
  have x1r := c_rng (xs (i0 + 1))
  rw [hx1] at x1r
  obtain ⟨x2, hx2⟩ : ∃ z, (xs (i0 + 2)).toInt = z := ⟨_, rfl⟩
  have x2r := c_rng (xs (i0 + 2))
  rw [hx2] at x2r
  obtain ⟨x3, hx3⟩ : ∃ z, (xs (i0 + 3)).toInt = z := ⟨_, rfl⟩
  have x3r := c_rng (xs (i0 + 3))
  rw [hx3] at x3r
  obtain ⟨x4, hx4⟩ : ∃ z, (xs (i0 + 4)).toInt = z := ⟨_, rfl⟩
  have x4r := c_rng (xs (i0 + 4))
  rw [hx4] at x4r
  obtain ⟨x5, hx5⟩ : ∃ z, (xs (i0 + 5)).toInt = z := ⟨_, rfl⟩
  have x5r := c_rng (xs (i0 + 5))
  rw [hx5] at x5r
  obtain ⟨x6, hx6⟩ : ∃ z, (xs (i0 + 6)).toInt = z := ⟨_, rfl⟩
  have x6r := c_rng (xs (i0 + 6))
  rw [hx6] at x6r
  obtain ⟨x7, hx7⟩ : ∃ z, (xs (i0 + 7)).toInt = z := ⟨_, rfl⟩
  have x7r := c_rng (xs (i0 + 7))
  rw [hx7] at x7r
  have hT := rl_t hR
  have hU := rl_u hR
  have hP := iv_P hI
  obtain ⟨n0, hn0⟩ : ∃ z, c P 0 = z := ⟨_, rfl⟩
  have hm0 : c 41 20 = n0 := (rl_nums hR).1.symm.trans hn0
  have hr0 := ir_p0_0 hI hP
  rw [hn0] at hr0
  obtain ⟨n1, hn1⟩ : ∃ z, c P 1 = z := ⟨_, rfl⟩
  have hm1 : c 41 21 = n1 := (rl_nums hR).2.1.symm.trans hn1
  have hr1 := ir_p0_1 hI hP
  rw [hn1] at hr1
  obtain ⟨n2, hn2⟩ : ∃ z, c P 2 = z := ⟨_, rfl⟩
  have hm2 : c 41 22 = n2 := (rl_nums hR).2.2.1.symm.trans hn2
  have hr2 := ir_p0_2 hI hP
  rw [hn2] at hr2
  obtain ⟨n3, hn3⟩ : ∃ z, c P 3 = z := ⟨_, rfl⟩
  have hm3 : c 41 23 = n3 := (rl_nums hR).2.2.2.symm.trans hn3
  have hr3 := ir_p0_3 hI hP
  rw [hn3] at hr3
  have hNimg := rl_img hR
  have hNwk := rl_wk hR
  have h_1 := ir_3_4 hI
  have hIw := rl_iw hR
  have hP := iv_P hI
  have hQ := iv_Q hI
  refine q_aload_n rfl rfl (q_aload_n rfl rfl (q_iload rfl rfl (q_iconst rfl (v_iadd (v := (i0 : Int) + 1) rfl rfl (v_scr (j := i0 + 1) rfl (by omega) (by omega) hL hx1 (q_aload_n rfl rfl (q_call rfl rfl rfl rfl ?_)))))))
  refine q_aload_n rfl rfl (q_iconst rfl (q_aload_n rfl rfl (q_iload_n rfl rfl ?_)))
  refine v_cv rfl rfl rfl rfl (Nat.le_of_ble_eq_true rfl) ⟨⟨rfl, rfl⟩, Nat.le_of_ble_eq_true rfl, rfl⟩ (Nat.le_of_ble_eq_true rfl) (Nat.le_of_ble_eq_true rfl) (s_99 (a1 := x1) hI (show (-2147483648) ≤ x1 ∧ x1 ≤ 2147483647 from ⟨by omega, by omega⟩) (fun c_2 hI_3 hF_4 => ?_) (fun c_5 y_8 hI_6 hF_7 hy_8 => ?_))
  · skip
    refine bk_thr (z := Int32.ofInt 1) rfl ⟨_, _, rfl⟩ rfl (bk_inl (q_istore rfl (Nat.le_of_ble_eq_true rfl) (q_aload_n rfl rfl (q_aload_n rfl rfl (q_iload rfl rfl (q_iconst rfl (v_iadd (v := (i0 : Int) + 1) rfl rfl ?_)))))))
    refine v_scr (j := i0 + 1) rfl (by omega) (by omega) hL hx1 (v_cv rfl rfl rfl rfl (Nat.le_of_ble_eq_true rfl) ⟨⟨rfl, rfl⟩, Nat.le_of_ble_eq_true rfl, rfl⟩ (Nat.le_of_ble_eq_true rfl) (Nat.le_of_ble_eq_true rfl) (s_246 (a1 := x1) hI_3 (show (-2147483648) ≤ x1 ∧ x1 ≤ 2147483647 from ⟨by omega, by omega⟩) (fun c_9 y_12 hI_10 hF_11 hy_12 => (bk_inl (q_istore rfl (Nat.le_of_ble_eq_true rfl) (q_goto (t := 1816) rfl rfl (Wp_ls [(4, vi (i0 : Int)), (3, .ref 67), (2, .ref 41), (1, .ref 0), (0, .ref a_SC)] (lsub_cons rfl (lsub_cons rfl (lsub_cons rfl (lsub_cons rfl (lsub_cons rfl lsub_nil))))) ?_)))))))
    have h_13 := ir_1_3 hI
    have kn_14 : Hid (c_2 1 3 = c 1 3) := hF_4 1 3 (fun h => absurd h.1 (nn rfl))
    have kn_15 : Hid (c_9 1 3 = c 1 3) := (hF_11 1 3 (fun q => q.elim (fun h => absurd h.1 (nn rfl)) (fun q => q.elim (fun h => absurd h (nn rfl)) (fun h => absurd h (nn rfl))))).trans (hid kn_14)
    have h_16 : c_9 1 3 = c 1 3 := (hid kn_15)
    have h_17 := ir_41_2 hI
    have kn_18 : Hid (c_2 41 2 = c 41 2) := hF_4 41 2 (fun h => absurd h.1 (nn rfl))
    have kn_19 : Hid (c_9 41 2 = c 41 2) := (hF_11 41 2 (fun q => q.elim (fun h => absurd h.2 (ni rfl)) (fun q => q.elim (fun h => absurd h (nn rfl)) (fun h => absurd h (nn rfl))))).trans (hid kn_18)
    have h_20 : c_9 41 2 = c 41 2 := (hid kn_19)
    have kn_21 : Hid (c_2 P 0 = n0) := (hF_4 P 0 (fun h => absurd h.1 (np0 hP rfl))).trans (hn0)
    have kn_22 : Hid (c_9 P 0 = n0) := (hF_11 P 0 (fun q => q.elim (fun h => absurd h.1 (np0 hP rfl)) (fun q => q.elim (fun h => absurd h (np0 hP rfl)) (fun h => absurd h (np0 hP rfl))))).trans (hid kn_21)
    have h_23 : c_9 P 0 = n0 := (hid kn_22)
    have kn_24 : Hid (c_2 41 20 = n0) := (hF_4 41 20 (fun h => absurd h.1 (nn rfl))).trans (hm0)
    have kn_25 : Hid (c_9 41 20 = n0) := (hF_11 41 20 (fun q => q.elim (fun h => absurd h.2 (ni rfl)) (fun q => q.elim (fun h => absurd h (nn rfl)) (fun h => absurd h (nn rfl))))).trans (hid kn_24)
    have h_26 : c_9 41 20 = n0 := (hid kn_25)
    have kn_27 : Hid (c_2 P 1 = n1) := (hF_4 P 1 (fun h => absurd h.1 (np0 hP rfl))).trans (hn1)
    have kn_28 : Hid (c_9 P 1 = n1) := (hF_11 P 1 (fun q => q.elim (fun h => absurd h.1 (np0 hP rfl)) (fun q => q.elim (fun h => absurd h (np0 hP rfl)) (fun h => absurd h (np0 hP rfl))))).trans (hid kn_27)
    have h_29 : c_9 P 1 = n1 := (hid kn_28)
    have kn_30 : Hid (c_2 41 21 = n1) := (hF_4 41 21 (fun h => absurd h.1 (nn rfl))).trans (hm1)
    have kn_31 : Hid (c_9 41 21 = n1) := (hF_11 41 21 (fun q => q.elim (fun h => absurd h.2 (ni rfl)) (fun q => q.elim (fun h => absurd h (nn rfl)) (fun h => absurd h (nn rfl))))).trans (hid kn_30)
    have h_32 : c_9 41 21 = n1 := (hid kn_31)
    have kn_33 : Hid (c_2 P 2 = n2) := (hF_4 P 2 (fun h => absurd h.1 (np0 hP rfl))).trans (hn2)
    have kn_34 : Hid (c_9 P 2 = n2) := (hF_11 P 2 (fun q => q.elim (fun h => absurd h.1 (np0 hP rfl)) (fun q => q.elim (fun h => absurd h (np0 hP rfl)) (fun h => absurd h (np0 hP rfl))))).trans (hid kn_33)
    have h_35 : c_9 P 2 = n2 := (hid kn_34)
    have kn_36 : Hid (c_2 41 22 = n2) := (hF_4 41 22 (fun h => absurd h.1 (nn rfl))).trans (hm2)
    have kn_37 : Hid (c_9 41 22 = n2) := (hF_11 41 22 (fun q => q.elim (fun h => absurd h.2 (ni rfl)) (fun q => q.elim (fun h => absurd h (nn rfl)) (fun h => absurd h (nn rfl))))).trans (hid kn_36)
    have h_38 : c_9 41 22 = n2 := (hid kn_37)
    have kn_39 : Hid (c_2 P 3 = n3) := (hF_4 P 3 (fun h => absurd h.1 (np0 hP rfl))).trans (hn3)
    have kn_40 : Hid (c_9 P 3 = n3) := (hF_11 P 3 (fun q => q.elim (fun h => absurd h.1 (np0 hP rfl)) (fun q => q.elim (fun h => absurd h (np0 hP rfl)) (fun h => absurd h (np0 hP rfl))))).trans (hid kn_39)
    have h_41 : c_9 P 3 = n3 := (hid kn_40)
    have kn_42 : Hid (c_2 41 23 = n3) := (hF_4 41 23 (fun h => absurd h.1 (nn rfl))).trans (hm3)
    have kn_43 : Hid (c_9 41 23 = n3) := (hF_11 41 23 (fun q => q.elim (fun h => absurd h.2 (ni rfl)) (fun q => q.elim (fun h => absurd h (nn rfl)) (fun h => absurd h (nn rfl))))).trans (hid kn_42)
    have h_44 : c_9 41 23 = n3 := (hid kn_43)
    have kn_45 : Hid (c_2 3 4 = c 3 4) := hF_4 3 4 (fun h => absurd h.1 (nn rfl))
    have kn_46 : Hid (c_9 3 4 = c 3 4) := (hF_11 3 4 (fun q => q.elim (fun h => absurd h.1 (nn rfl)) (fun q => q.elim (fun h => absurd h (nn rfl)) (fun h => absurd h (nn rfl))))).trans (hid kn_45)
    have h_47 : c_9 3 4 = c 3 4 := (hid kn_46)
    have h_48 := ir_41_52 hI
    have kn_49 : Hid (c_2 41 52 = c 41 52) := hF_4 41 52 (fun h => absurd h.1 (nn rfl))
    have kn_50 : Hid (c_9 41 52 = c 41 52) := (hF_11 41 52 (fun q => q.elim (fun h => absurd h.2 (ni rfl)) (fun q => q.elim (fun h => absurd h (nn rfl)) (fun h => absurd h (nn rfl))))).trans (hid kn_49)
    have h_51 : c_9 41 52 = c 41 52 := (hid kn_50)
    have h_52 := ir_3_3 hI
    have kn_53 : Hid (c_2 3 3 = c 3 3) := hF_4 3 3 (fun h => absurd h.1 (nn rfl))
    have kn_54 : Hid (c_9 3 3 = c 3 3) := (hF_11 3 3 (fun q => q.elim (fun h => absurd h.1 (nn rfl)) (fun q => q.elim (fun h => absurd h (nn rfl)) (fun h => absurd h (nn rfl))))).trans (hid kn_53)
    have h_55 : c_9 3 3 = c 3 3 := (hid kn_54)
    have h_56 := ir_41_35 hI
    have kn_57 : Hid (c_2 41 35 = c 41 35) := hF_4 41 35 (fun h => absurd h.1 (nn rfl))
    have kn_58 : Hid (c_9 41 35 = c 41 35) := (hF_11 41 35 (fun q => q.elim (fun h => absurd h.2 (ni rfl)) (fun q => q.elim (fun h => absurd h (nn rfl)) (fun h => absurd h (nn rfl))))).trans (hid kn_57)
    have h_59 : c_9 41 35 = c 41 35 := (hid kn_58)
    have h_60 : c_9 3 4 = c 3 4 := (hid kn_46)
    exact K P Q c_9 1 (by decide) hI_10 ⟨by omega, ub_fr hU (fun j => (hF_11 2 j (fun q => q.elim (fun h => absurd h.1 (nn rfl)) (fun q => q.elim (fun h => absurd h (nn rfl)) (fun h => absurd h (nn rfl))))).trans (hF_4 2 j (fun h => absurd h.1 (nn rfl)))) (fun j => (hF_11 43 j (fun q => q.elim (fun h => absurd h.1 (nn rfl)) (fun q => q.elim (fun h => absurd h (nn rfl)) (fun h => absurd h (nn rfl))))).trans (hF_4 43 j (fun h => absurd h.1 (nn rfl)))), ⟨by omega, by omega, by omega, by omega⟩, by omega, by omega, iw_fr2 hIw (by omega) (fun j => (hF_11 6 j (fun q => q.elim (fun h => absurd h.1 (nn rfl)) (fun q => q.elim (fun h => absurd h (nn rfl)) (fun h => absurd h (nn rfl))))).trans (hF_4 6 j (fun h => absurd h.1 (nn rfl)))) (fun j => (hF_11 66 j (fun q => q.elim (fun h => absurd h.1 (nn rfl)) (fun q => q.elim (fun h => absurd h (nn rfl)) (fun h => absurd h (nn rfl))))).trans (hF_4 66 j (fun h => absurd h.1 (nn rfl))))⟩
  refine bk_inl (v_i2l rfl (by omega) (v_ls rfl rfl (by decide) (by decide) (by decide) (q_goto (t := 15) rfl rfl (q_iconst rfl (q_iret rfl rfl (bk_inl (q_istore rfl (Nat.le_of_ble_eq_true rfl) ?_)))))))
  refine q_aload_n rfl rfl (q_aload_n rfl rfl (q_iload rfl rfl (q_iconst rfl (v_iadd (v := (i0 : Int) + 1) rfl rfl (v_scr (j := i0 + 1) rfl (by omega) (by omega) hL hx1 ?_)))))
  have hI_61 := iw_lx (a := 67) (j := 0) (v := y_8) hI_6 (by omega)
  refine v_cv rfl rfl rfl rfl (Nat.le_of_ble_eq_true rfl) ⟨⟨rfl, rfl⟩, Nat.le_of_ble_eq_true rfl, rfl⟩ (Nat.le_of_ble_eq_true rfl) (Nat.le_of_ble_eq_true rfl) (s_246 (a1 := x1) hI_61 (show (-2147483648) ≤ x1 ∧ x1 ≤ 2147483647 from ⟨by omega, by omega⟩) (fun c_62 y_65 hI_63 hF_64 hy_65 => (bk_inl (q_istore rfl (Nat.le_of_ble_eq_true rfl) (q_goto (t := 1816) rfl rfl (Wp_ls [(4, vi (i0 : Int)), (3, .ref 67), (2, .ref 41), (1, .ref 0), (0, .ref a_SC)] (lsub_cons rfl (lsub_cons rfl (lsub_cons rfl (lsub_cons rfl (lsub_cons rfl lsub_nil))))) ?_))))))
  have h_66 := ir_1_3 hI
  have kn_67 : Hid (c_5 1 3 = c 1 3) := hF_7 1 3 (fun h => absurd h.1 (nn rfl))
  have kn_68 : Hid (c_62 1 3 = c 1 3) := (hF_64 1 3 (fun q => q.elim (fun h => absurd h.1 (nn rfl)) (fun q => q.elim (fun h => absurd h (nn rfl)) (fun h => absurd h (nn rfl))))).trans ((up_c (nn rfl)).trans (hid kn_67))
  have h_69 : c_62 1 3 = c 1 3 := (hid kn_68)
  have h_70 := ir_41_2 hI
  have kn_71 : Hid (c_5 41 2 = c 41 2) := hF_7 41 2 (fun h => absurd h.1 (nn rfl))
  have kn_72 : Hid (c_62 41 2 = c 41 2) := (hF_64 41 2 (fun q => q.elim (fun h => absurd h.2 (ni rfl)) (fun q => q.elim (fun h => absurd h (nn rfl)) (fun h => absurd h (nn rfl))))).trans ((up_c (nn rfl)).trans (hid kn_71))
  have h_73 : c_62 41 2 = c 41 2 := (hid kn_72)
  have kn_74 : Hid (c_5 P 0 = n0) := (hF_7 P 0 (fun h => absurd h.1 (np0 hP rfl))).trans (hn0)
  have kn_75 : Hid (c_62 P 0 = n0) := (hF_64 P 0 (fun q => q.elim (fun h => absurd h.1 (np0 hP rfl)) (fun q => q.elim (fun h => absurd h (np0 hP rfl)) (fun h => absurd h (np0 hP rfl))))).trans ((up_c (np0 hP rfl)).trans (hid kn_74))
  have h_76 : c_62 P 0 = n0 := (hid kn_75)
  have kn_77 : Hid (c_5 41 20 = n0) := (hF_7 41 20 (fun h => absurd h.1 (nn rfl))).trans (hm0)
  have kn_78 : Hid (c_62 41 20 = n0) := (hF_64 41 20 (fun q => q.elim (fun h => absurd h.2 (ni rfl)) (fun q => q.elim (fun h => absurd h (nn rfl)) (fun h => absurd h (nn rfl))))).trans ((up_c (nn rfl)).trans (hid kn_77))
  have h_79 : c_62 41 20 = n0 := (hid kn_78)
  have kn_80 : Hid (c_5 P 1 = n1) := (hF_7 P 1 (fun h => absurd h.1 (np0 hP rfl))).trans (hn1)
  have kn_81 : Hid (c_62 P 1 = n1) := (hF_64 P 1 (fun q => q.elim (fun h => absurd h.1 (np0 hP rfl)) (fun q => q.elim (fun h => absurd h (np0 hP rfl)) (fun h => absurd h (np0 hP rfl))))).trans ((up_c (np0 hP rfl)).trans (hid kn_80))
  have h_82 : c_62 P 1 = n1 := (hid kn_81)
  have kn_83 : Hid (c_5 41 21 = n1) := (hF_7 41 21 (fun h => absurd h.1 (nn rfl))).trans (hm1)
  have kn_84 : Hid (c_62 41 21 = n1) := (hF_64 41 21 (fun q => q.elim (fun h => absurd h.2 (ni rfl)) (fun q => q.elim (fun h => absurd h (nn rfl)) (fun h => absurd h (nn rfl))))).trans ((up_c (nn rfl)).trans (hid kn_83))
  have h_85 : c_62 41 21 = n1 := (hid kn_84)
  have kn_86 : Hid (c_5 P 2 = n2) := (hF_7 P 2 (fun h => absurd h.1 (np0 hP rfl))).trans (hn2)
  have kn_87 : Hid (c_62 P 2 = n2) := (hF_64 P 2 (fun q => q.elim (fun h => absurd h.1 (np0 hP rfl)) (fun q => q.elim (fun h => absurd h (np0 hP rfl)) (fun h => absurd h (np0 hP rfl))))).trans ((up_c (np0 hP rfl)).trans (hid kn_86))
  have h_88 : c_62 P 2 = n2 := (hid kn_87)
  have kn_89 : Hid (c_5 41 22 = n2) := (hF_7 41 22 (fun h => absurd h.1 (nn rfl))).trans (hm2)
  have kn_90 : Hid (c_62 41 22 = n2) := (hF_64 41 22 (fun q => q.elim (fun h => absurd h.2 (ni rfl)) (fun q => q.elim (fun h => absurd h (nn rfl)) (fun h => absurd h (nn rfl))))).trans ((up_c (nn rfl)).trans (hid kn_89))
  have h_91 : c_62 41 22 = n2 := (hid kn_90)
  have kn_92 : Hid (c_5 P 3 = n3) := (hF_7 P 3 (fun h => absurd h.1 (np0 hP rfl))).trans (hn3)
  have kn_93 : Hid (c_62 P 3 = n3) := (hF_64 P 3 (fun q => q.elim (fun h => absurd h.1 (np0 hP rfl)) (fun q => q.elim (fun h => absurd h (np0 hP rfl)) (fun h => absurd h (np0 hP rfl))))).trans ((up_c (np0 hP rfl)).trans (hid kn_92))
  have h_94 : c_62 P 3 = n3 := (hid kn_93)
  have kn_95 : Hid (c_5 41 23 = n3) := (hF_7 41 23 (fun h => absurd h.1 (nn rfl))).trans (hm3)
  have kn_96 : Hid (c_62 41 23 = n3) := (hF_64 41 23 (fun q => q.elim (fun h => absurd h.2 (ni rfl)) (fun q => q.elim (fun h => absurd h (nn rfl)) (fun h => absurd h (nn rfl))))).trans ((up_c (nn rfl)).trans (hid kn_95))
  have h_97 : c_62 41 23 = n3 := (hid kn_96)
  have kn_98 : Hid (c_5 3 4 = c 3 4) := hF_7 3 4 (fun h => absurd h.1 (nn rfl))
  have kn_99 : Hid (c_62 3 4 = c 3 4) := (hF_64 3 4 (fun q => q.elim (fun h => absurd h.1 (nn rfl)) (fun q => q.elim (fun h => absurd h (nn rfl)) (fun h => absurd h (nn rfl))))).trans ((up_c (nn rfl)).trans (hid kn_98))
  have h_100 : c_62 3 4 = c 3 4 := (hid kn_99)
  have h_101 := ir_41_52 hI
  have kn_102 : Hid (c_5 41 52 = c 41 52) := hF_7 41 52 (fun h => absurd h.1 (nn rfl))
  have kn_103 : Hid (c_62 41 52 = c 41 52) := (hF_64 41 52 (fun q => q.elim (fun h => absurd h.2 (ni rfl)) (fun q => q.elim (fun h => absurd h (nn rfl)) (fun h => absurd h (nn rfl))))).trans ((up_c (nn rfl)).trans (hid kn_102))
  have h_104 : c_62 41 52 = c 41 52 := (hid kn_103)
  have h_105 := ir_3_3 hI
  have kn_106 : Hid (c_5 3 3 = c 3 3) := hF_7 3 3 (fun h => absurd h.1 (nn rfl))
  have kn_107 : Hid (c_62 3 3 = c 3 3) := (hF_64 3 3 (fun q => q.elim (fun h => absurd h.1 (nn rfl)) (fun q => q.elim (fun h => absurd h (nn rfl)) (fun h => absurd h (nn rfl))))).trans ((up_c (nn rfl)).trans (hid kn_106))
  have h_108 : c_62 3 3 = c 3 3 := (hid kn_107)
  have h_109 := ir_41_35 hI
  have kn_110 : Hid (c_5 41 35 = c 41 35) := hF_7 41 35 (fun h => absurd h.1 (nn rfl))
  have kn_111 : Hid (c_62 41 35 = c 41 35) := (hF_64 41 35 (fun q => q.elim (fun h => absurd h.2 (ni rfl)) (fun q => q.elim (fun h => absurd h (nn rfl)) (fun h => absurd h (nn rfl))))).trans ((up_c (nn rfl)).trans (hid kn_110))
  have h_112 : c_62 41 35 = c 41 35 := (hid kn_111)
  have h_113 : c_62 3 4 = c 3 4 := (hid kn_99)
  exact K P Q c_62 0 (by decide) hI_63 ⟨by omega, ub_fr hU (fun j => (hF_64 2 j (fun q => q.elim (fun h => absurd h.1 (nn rfl)) (fun q => q.elim (fun h => absurd h (nn rfl)) (fun h => absurd h (nn rfl))))).trans ((up_c (nn rfl)).trans (hF_7 2 j (fun h => absurd h.1 (nn rfl))))) (fun j => (hF_64 43 j (fun q => q.elim (fun h => absurd h.1 (nn rfl)) (fun q => q.elim (fun h => absurd h (nn rfl)) (fun h => absurd h (nn rfl))))).trans ((up_c (nn rfl)).trans (hF_7 43 j (fun h => absurd h.1 (nn rfl))))), ⟨by omega, by omega, by omega, by omega⟩, by omega, by omega, iw_fr2 hIw (by omega) (fun j => (hF_64 6 j (fun q => q.elim (fun h => absurd h.1 (nn rfl)) (fun q => q.elim (fun h => absurd h (nn rfl)) (fun h => absurd h (nn rfl))))).trans ((up_c (nn rfl)).trans (hF_7 6 j (fun h => absurd h.1 (nn rfl))))) (fun j => (hF_64 66 j (fun q => q.elim (fun h => absurd h.1 (nn rfl)) (fun q => q.elim (fun h => absurd h (nn rfl)) (fun h => absurd h (nn rfl))))).trans ((up_c (nn rfl)).trans (hF_7 66 j (fun h => absurd h.1 (nn rfl)))))⟩

