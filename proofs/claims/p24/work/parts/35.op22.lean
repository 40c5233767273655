/-! ===== fit in the law, over any memory ===== -/
set_option maxRecDepth 100000 in
set_option maxHeartbeats 4000000 in
theorem op_22g {xs : Nat → Int32} {L i0 d nc ns P Q N T : Nat} {c : ME} {Z : AR → Prop} (hi : i0 + 8 ≤ L) (hL : L ≤ 100000) (K : ∀ (c2 : ME) (e : Nat), e ≤ 1 → (∀ (a : Nat) (j : Int), ¬ (a = 65 ∨ a = 67 ∨ (a = 0 ∧ j = 13) ∨ (a = 41 ∧ j = 0) ∨ (a = 42 ∧ j = 1)) → c2 a j = c a j) → c2 0 13 = c 0 13 + e → c2 42 1 = c 42 1 + e → Wp (a_scr L xs) (d + 20) 296 1843 [(4, vi (i0 : Int)), (3, .ref 67), (2, .ref 41), (1, .ref 0), (0, .ref a_SC)] [] (Wd P Q N T c2) (nc + e) (ns + 6 * e) Z) : Wp (a_scr L xs) (d + 20) 296 1091 [(4, vi (i0 : Int)), (3, .ref 67), (2, .ref 41), (1, .ref 0), (0, .ref a_SC)] [] (Wd P Q N T c) nc ns Z := by
  obtain ⟨x1, hx1⟩ : ∃ z, (xs (i0 + 1)).toInt = z := ⟨_, rfl⟩
  have x1r := c_rng (xs (i0 + 1))
  rw [hx1] at x1r
  obtain ⟨x2, hx2⟩ : ∃ z, (xs (i0 + 2)).toInt = z := ⟨_, rfl⟩
  have x2r := c_rng (xs (i0 + 2))
  rw [hx2] at x2r
  obtain ⟨x3, hx3⟩ : ∃ z, (xs (i0 + 3)).toInt = z := ⟨_, rfl⟩
  have x3r := c_rng (xs (i0 + 3))
  rw [hx3] at x3r
  obtain ⟨x4, hx4⟩ : ∃ z, (xs (i0 + 4)).toInt = z := ⟨_, rfl⟩
  have x4r := c_rng (xs (i0 + 4))
  rw [hx4] at x4r
  by_cases hg : ((0 ≤ x1 ∧ x1 ≤ 12) ∧ (0 ≤ x2 ∧ x2 ≤ 13)) ∧ (0 ≤ x3 ∧ x3 ≤ 16) ∧ (0 ≤ x4 ∧ x4 ≤ 1)
  · skip
    obtain ⟨n, hx1n⟩ := Int.eq_ofNat_of_zero_le (show 0 ≤ x1 by omega)
    obtain ⟨k, hx2n⟩ := Int.eq_ofNat_of_zero_le (show 0 ≤ x2 by omega)
    obtain ⟨q, hx3n⟩ := Int.eq_ofNat_of_zero_le (show 0 ≤ x3 by omega)
    obtain ⟨half, hx4n⟩ := Int.eq_ofNat_of_zero_le (show 0 ≤ x4 by omega)
    have hn : n ≤ 12 := by omega
    have hk : k ≤ 13 := by omega
    have hq : q ≤ 16 := by omega
    have hh : half ≤ 1 := by omega
    have hfe := f_eq (half := half) hn hk hq
    refine q_aload_n rfl rfl ?_
    refine q_aload_n rfl rfl ?_
    refine q_iload rfl rfl ?_
    refine q_iconst rfl ?_
    refine v_iadd (v := (i0 : Int) + 1) rfl (by omega) ?_
    refine v_scr (j := i0 + 1) rfl (by omega) (by omega) hL hx1 ?_
    refine q_aload_n rfl rfl ?_
    refine q_iload rfl rfl ?_
    refine q_iconst rfl ?_
    refine v_iadd (v := (i0 : Int) + 2) rfl (by omega) ?_
    refine v_scr (j := i0 + 2) rfl (by omega) (by omega) hL hx2 ?_
    refine q_aload_n rfl rfl ?_
    refine q_iload rfl rfl ?_
    refine q_iconst rfl ?_
    refine v_iadd (v := (i0 : Int) + 3) rfl (by omega) ?_
    refine v_scr (j := i0 + 3) rfl (by omega) (by omega) hL hx3 ?_
    refine q_aload_n rfl rfl ?_
    refine q_iload rfl rfl ?_
    refine q_iconst rfl ?_
    refine v_iadd (v := (i0 : Int) + 4) rfl (by omega) ?_
    refine v_scr (j := i0 + 4) rfl (by omega) (by omega) hL hx4 ?_
    refine q_aload_n rfl rfl ?_
    refine q_call rfl rfl rfl rfl ?_
    refine q_aload rfl rfl ?_
    refine q_iconst rfl ?_
    refine q_aload_n rfl rfl ?_
    refine q_iload_n rfl rfl ?_
    refine q_iload_n rfl rfl ?_
    refine q_iload_n rfl rfl ?_
    refine q_iload rfl rfl ?_
    refine v_cv rfl rfl rfl rfl (by decide) ⟨⟨rfl, rfl⟩, by decide, rfl⟩ (Nat.le_of_ble_eq_true rfl) (Nat.le_of_ble_eq_true rfl) (m_134 n k q half hx1n hx2n hx3n hx4n hn hk hq hh ?_)
    refine bk_inl ?_
    refine v_ls rfl rfl (by decide) (by decide) (by decide) ?_
    refine q_goto (t := 20) rfl (by decide) ?_
    refine q_iconst rfl ?_
    refine q_iret rfl rfl ?_
    refine bk_inl ?_
    refine q_istore rfl (by decide) ?_
    refine q_aload_n rfl rfl ?_
    refine q_aload_n rfl rfl ?_
    refine q_iload rfl rfl ?_
    refine q_iconst rfl ?_
    refine v_iadd (v := (i0 : Int) + 1) rfl (by omega) ?_
    refine v_scr (j := i0 + 1) rfl (by omega) (by omega) hL hx1 ?_
    refine q_aload_n rfl rfl ?_
    refine q_iload rfl rfl ?_
    refine q_iconst rfl ?_
    refine v_iadd (v := (i0 : Int) + 2) rfl (by omega) ?_
    refine v_scr (j := i0 + 2) rfl (by omega) (by omega) hL hx2 ?_
    refine q_aload_n rfl rfl ?_
    refine q_iload rfl rfl ?_
    refine q_iconst rfl ?_
    refine v_iadd (v := (i0 : Int) + 3) rfl (by omega) ?_
    refine v_scr (j := i0 + 3) rfl (by omega) (by omega) hL hx3 ?_
    refine q_aload_n rfl rfl ?_
    refine q_iload rfl rfl ?_
    refine q_iconst rfl ?_
    refine v_iadd (v := (i0 : Int) + 4) rfl (by omega) ?_
    refine v_scr (j := i0 + 4) rfl (by omega) (by omega) hL hx4 ?_
    refine v_cv rfl rfl rfl rfl (by decide) ⟨⟨rfl, rfl⟩, by decide, rfl⟩ (Nat.le_of_ble_eq_true rfl) (Nat.le_of_ble_eq_true rfl) (m_234 n k q half hx1n hx2n hx3n hx4n hn hk hq hh (fun c2 hc2 => ?_))
    refine bk_inl ?_
    refine q_lstore rfl (by decide) ?_
    refine q_aload_n rfl rfl ?_
    refine v_cv rfl rfl rfl rfl (by decide) ⟨⟨rfl, rfl⟩, by decide, rfl⟩ (Nat.le_of_ble_eq_true rfl) (Nat.le_of_ble_eq_true rfl) ?_
    refine q_aload_n rfl rfl ?_
    refine v_gi (z := 0) (v := 0) rfl rfl rfl (by decide) rfl rfl ((congrFun (hc2 41 (by decide)) 0).trans (up_e rfl)) ?_
    refine q_iret rfl rfl ?_
    refine bk_inl ?_
    refine q_iload rfl rfl ?_
    refine v_ic_eq_t (t := 1163) rfl (by decide) (by decide) ?_
    refine q_iload rfl rfl ?_
    refine v_if_ne_f (t := 1179) rfl (by decide) (by decide) ?_
    refine q_aload_n rfl rfl ?_
    refine q_iconst rfl ?_
    refine v_la (v := (fcls n k q half)) rfl rfl (by decide) (by decide) (by decide) ((congrFun (hc2 67 (by decide)) 0).trans ((up_c (by decide)).trans (up_e rfl))) ?_
    refine q_lload rfl rfl ?_
    refine v_lcmp0 rfl (by omega) ?_
    refine v_if_eq_t (t := 1179) rfl (by decide) (by decide) ?_
    refine q_goto (t := 1843) rfl (by decide) ?_
    refine Wp_ls [(4, vi (i0 : Int)), (3, .ref 67), (2, .ref 41), (1, .ref 0), (0, .ref a_SC)] (lsub_cons rfl (lsub_cons rfl (lsub_cons rfl (lsub_cons rfl (lsub_cons rfl lsub_nil))))) ?_
    refine K (c2) 0 (by decide) ?_ ?_ ?_
    · intro a j h
      rw [hc2 a (fun q => h (Or.inl q))]
      exact (up_b (by omega)).trans (up_b (by omega))
    · refine Eq.trans (b := c 0 13) ((congrFun (hc2 0 (by decide)) 13).trans ((up_c (by decide)).trans (up_c (by decide)))) ?_
      show _ = c 0 13 + 0
      omega
    · refine Eq.trans (b := c 42 1) ((congrFun (hc2 42 (by decide)) 1).trans ((up_c (by decide)).trans (up_c (by decide)))) ?_
      show _ = c 42 1 + 0
      omega
  · skip
    have hb : x1 < 0 ∨ 12 < x1 ∨ x2 < 0 ∨ 13 < x2 ∨ x3 < 0 ∨ 16 < x3 ∨ x4 < 0 ∨ 1 < x4 := by omega
    refine q_aload_n rfl rfl ?_
    refine q_aload_n rfl rfl ?_
    refine q_iload rfl rfl ?_
    refine q_iconst rfl ?_
    refine v_iadd (v := (i0 : Int) + 1) rfl (by omega) ?_
    refine v_scr (j := i0 + 1) rfl (by omega) (by omega) hL hx1 ?_
    refine q_aload_n rfl rfl ?_
    refine q_iload rfl rfl ?_
    refine q_iconst rfl ?_
    refine v_iadd (v := (i0 : Int) + 2) rfl (by omega) ?_
    refine v_scr (j := i0 + 2) rfl (by omega) (by omega) hL hx2 ?_
    refine q_aload_n rfl rfl ?_
    refine q_iload rfl rfl ?_
    refine q_iconst rfl ?_
    refine v_iadd (v := (i0 : Int) + 3) rfl (by omega) ?_
    refine v_scr (j := i0 + 3) rfl (by omega) (by omega) hL hx3 ?_
    refine q_aload_n rfl rfl ?_
    refine q_iload rfl rfl ?_
    refine q_iconst rfl ?_
    refine v_iadd (v := (i0 : Int) + 4) rfl (by omega) ?_
    refine v_scr (j := i0 + 4) rfl (by omega) (by omega) hL hx4 ?_
    refine q_aload_n rfl rfl ?_
    refine q_call rfl rfl rfl rfl ?_
    refine q_aload rfl rfl ?_
    refine q_iconst rfl ?_
    refine q_aload_n rfl rfl ?_
    refine q_iload_n rfl rfl ?_
    refine q_iload_n rfl rfl ?_
    refine q_iload_n rfl rfl ?_
    refine q_iload rfl rfl ?_
    refine v_cv rfl rfl rfl rfl (by decide) ⟨⟨rfl, rfl⟩, by decide, rfl⟩ (Nat.le_of_ble_eq_true rfl) (Nat.le_of_ble_eq_true rfl) (m_134_t x1r x2r x3r x4r hb ?_)
    refine bk_thr (z := Int32.ofInt 1) rfl ⟨_, _, rfl⟩ rfl ?_
    refine bk_inl ?_
    refine q_istore rfl (by decide) ?_
    refine q_aload_n rfl rfl ?_
    refine q_aload_n rfl rfl ?_
    refine q_iload rfl rfl ?_
    refine q_iconst rfl ?_
    refine v_iadd (v := (i0 : Int) + 1) rfl (by omega) ?_
    refine v_scr (j := i0 + 1) rfl (by omega) (by omega) hL hx1 ?_
    refine q_aload_n rfl rfl ?_
    refine q_iload rfl rfl ?_
    refine q_iconst rfl ?_
    refine v_iadd (v := (i0 : Int) + 2) rfl (by omega) ?_
    refine v_scr (j := i0 + 2) rfl (by omega) (by omega) hL hx2 ?_
    refine q_aload_n rfl rfl ?_
    refine q_iload rfl rfl ?_
    refine q_iconst rfl ?_
    refine v_iadd (v := (i0 : Int) + 3) rfl (by omega) ?_
    refine v_scr (j := i0 + 3) rfl (by omega) (by omega) hL hx3 ?_
    refine q_aload_n rfl rfl ?_
    refine q_iload rfl rfl ?_
    refine q_iconst rfl ?_
    refine v_iadd (v := (i0 : Int) + 4) rfl (by omega) ?_
    refine v_scr (j := i0 + 4) rfl (by omega) (by omega) hL hx4 ?_
    have e42 : up c 0 13 (c 0 13 + 1) 42 1 = c 42 1 := up_c (by decide)
    refine v_cv rfl rfl rfl rfl (by decide) ⟨⟨rfl, rfl⟩, by decide, rfl⟩ (Nat.le_of_ble_eq_true rfl) (Nat.le_of_ble_eq_true rfl) (m_234_t x1r x2r x3r x4r hb ?_)
    refine bk_inl ?_
    refine q_lstore rfl (by decide) ?_
    refine q_aload_n rfl rfl ?_
    refine v_cv rfl rfl rfl rfl (by decide) ⟨⟨rfl, rfl⟩, by decide, rfl⟩ (Nat.le_of_ble_eq_true rfl) (Nat.le_of_ble_eq_true rfl) ?_
    refine q_aload_n rfl rfl ?_
    refine v_gi (z := 0) (v := 1) rfl rfl rfl (by decide) rfl rfl ((up_c (by decide)).trans (up_e rfl)) ?_
    refine q_iret rfl rfl ?_
    refine bk_inl ?_
    refine q_iload rfl rfl ?_
    refine v_ic_eq_t (t := 1163) rfl (by decide) (by decide) ?_
    refine q_iload rfl rfl ?_
    refine v_if_ne_t (t := 1179) rfl (by decide) (by decide) ?_
    refine q_goto (t := 1843) rfl (by decide) ?_
    refine Wp_ls [(4, vi (i0 : Int)), (3, .ref 67), (2, .ref 41), (1, .ref 0), (0, .ref a_SC)] (lsub_cons rfl (lsub_cons rfl (lsub_cons rfl (lsub_cons rfl (lsub_cons rfl lsub_nil))))) ?_
    refine K (up (up (up (up c 0 13 (c 0 13 + 1)) 41 0 0) 41 0 1) 42 1 (up c 0 13 (c 0 13 + 1) 42 1 + 1)) 1 (by decide) ?_ ?_ ?_
    · intro a j h
      exact ((up_b (by omega)).trans ((up_b (by omega)).trans ((up_b (by omega)).trans (up_b (by omega)))))
    · refine Eq.trans (b := c 0 13 + 1) ((up_c (by decide)).trans ((up_c (by decide)).trans ((up_c (by decide)).trans (up_e rfl)))) ?_
      show _ = c 0 13 + 1
      omega
    · refine Eq.trans (b := up c 0 13 (c 0 13 + 1) 42 1 + 1) (up_e rfl) ?_
      show _ = c 42 1 + 1
      rw [e42]
theorem o_22 {xs : Nat → Int32} {L i0 d nc ns P Q : Nat} {c : ME} {Z : AR → Prop} (hi : i0 + 8 ≤ L) (hL : L ≤ 100000) (hI : Iv 0 (-1) P Q c) (K : ∀ (P2 Q2 : Nat) (c2 : ME) (e : Nat), e ≤ 1 → Iv 0 (-1) P2 Q2 c2 → Wp (a_scr L xs) (d + 90) 296 1843 [(4, vi (i0 : Int)), (3, .ref 67), (2, .ref 41), (1, .ref 0), (0, .ref a_SC)] [] (Wd P2 Q2 P2 P2 c2) (nc + e) (ns + 6 * e) Z) : Wp (a_scr L xs) (d + 90) 296 1091 [(4, vi (i0 : Int)), (3, .ref 67), (2, .ref 41), (1, .ref 0), (0, .ref a_SC)] [] (Wd P Q P P c) nc ns Z := by
  refine op_22g (d := d + 70) hi hL (fun c2 e he hF h1 h2 => ?_)
  rw [wd_nrm (c := c2) (a := 0) (j := 13) (fun n h => by cases (show (Sum.inr _ : CK) = Sum.inl (2, n) from h)), wd_nrm (c := up c2 0 13 (wr (c2 0 13))) (a := 42) (j := 1) (fun n h => by cases (show (Sum.inl (0, 2) : CK) = Sum.inl (2, n) from h)), wd_nrm (c := up (up c2 0 13 (wr (c2 0 13))) 42 1 (wr (up c2 0 13 (wr (c2 0 13)) 42 1))) (a := 41) (j := 0) (fun n h => by cases (show (Sum.inr _ : CK) = Sum.inl (2, n) from h))]
  exact K P Q _ e he (iv_fit hI hF _ _ _)
