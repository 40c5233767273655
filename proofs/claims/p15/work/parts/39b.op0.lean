/-! ===== feed in the law, over any memory ===== -/
set_option maxRecDepth 100000 in
set_option maxHeartbeats 4000000 in
theorem op_0g {xs : Nat → Int32} {L i0 d nc ns P Q N T : Nat} {c : ME} {Z : AR → Prop} (hi : i0 + 8 ≤ L) (hL : L ≤ 100000) (hr : c 1 3 = c 41 2 ∧ 0 ≤ c 1 3 ∧ c 1 3 ≤ 600) (hU : Ub (c 2) (c 43)) (K : ∀ c2 : ME, (∀ (a : Nat) (j : Int), ¬ (a = 2 ∨ a = 43 ∨ (a = 1 ∧ j = 3) ∨ (a = 41 ∧ (j = 0 ∨ j = 2))) → c2 a j = c a j) → c2 1 3 = c2 41 2 ∧ 0 ≤ c2 1 3 ∧ c2 1 3 ≤ 600 → Ub (c2 2) (c2 43) → Wp (a_scr L xs) (d + 9) 296 1844 [(4, vi (i0 : Int)), (3, .ref 67), (2, .ref 41), (1, .ref 0), (0, .ref a_SC)] [] (Wd P Q N T c2) nc ns Z) : Wp (a_scr L xs) (d + 9) 296 228 [(4, vi (i0 : Int)), (3, .ref 67), (2, .ref 41), (1, .ref 0), (0, .ref a_SC)] [] (Wd P Q N T c) nc ns Z := by
  obtain ⟨x1, hx1⟩ : ∃ z, (xs (i0 + 1)).toInt = z := ⟨_, rfl⟩
  have x1r := c_rng (xs (i0 + 1))
  rw [hx1] at x1r
  obtain ⟨x2, hx2⟩ : ∃ z, (xs (i0 + 2)).toInt = z := ⟨_, rfl⟩
  have x2r := c_rng (xs (i0 + 2))
  rw [hx2] at x2r
  obtain ⟨x3, hx3⟩ : ∃ z, (xs (i0 + 3)).toInt = z := ⟨_, rfl⟩
  have x3r := c_rng (xs (i0 + 3))
  rw [hx3] at x3r
  obtain ⟨x4, hx4⟩ : ∃ z, (xs (i0 + 4)).toInt = z := ⟨_, rfl⟩
  have x4r := c_rng (xs (i0 + 4))
  rw [hx4] at x4r
  obtain ⟨x5, hx5⟩ : ∃ z, (xs (i0 + 5)).toInt = z := ⟨_, rfl⟩
  have x5r := c_rng (xs (i0 + 5))
  rw [hx5] at x5r
  refine q_aload_n rfl rfl ?_
  refine q_aload_n rfl rfl ?_
  refine q_iload rfl rfl ?_
  refine q_iconst rfl ?_
  refine v_iadd (v := (i0 : Int) + 1) rfl rfl ?_
  refine v_scr (j := i0 + 1) rfl (by omega) (by omega) hL hx1 ?_
  refine q_aload_n rfl rfl ?_
  refine q_iload rfl rfl ?_
  refine q_iconst rfl ?_
  refine v_iadd (v := (i0 : Int) + 2) rfl rfl ?_
  refine v_scr (j := i0 + 2) rfl (by omega) (by omega) hL hx2 ?_
  refine q_aload_n rfl rfl ?_
  refine q_iload rfl rfl ?_
  refine q_iconst rfl ?_
  refine v_iadd (v := (i0 : Int) + 3) rfl rfl ?_
  refine v_scr (j := i0 + 3) rfl (by omega) (by omega) hL hx3 ?_
  refine q_aload_n rfl rfl ?_
  refine q_iload rfl rfl ?_
  refine q_iconst rfl ?_
  refine v_iadd (v := (i0 : Int) + 4) rfl rfl ?_
  refine v_scr (j := i0 + 4) rfl (by omega) (by omega) hL hx4 ?_
  refine q_aload_n rfl rfl ?_
  refine q_iload rfl rfl ?_
  refine q_iconst rfl ?_
  refine v_iadd (v := (i0 : Int) + 5) rfl rfl ?_
  refine v_scr (j := i0 + 5) rfl (by omega) (by omega) hL hx5 ?_
  refine v_cv rfl rfl rfl rfl (by decide) ⟨⟨rfl, rfl⟩, by decide, rfl⟩ (Nat.le_of_ble_eq_true rfl) (Nat.le_of_ble_eq_true rfl) ?_
  refine q_aload_n rfl rfl ?_
  refine v_gr (t := 1) rfl rfl rfl (by decide) rfl ?_
  refine v_bip rfl (by decide) ?_
  refine v_cv rfl rfl rfl rfl (by decide) ⟨⟨rfl, rfl⟩, by decide, rfl⟩ (Nat.le_of_ble_eq_true rfl) (Nat.le_of_ble_eq_true rfl) ?_
  refine q_aload_n rfl rfl ?_
  refine v_gi (z := 3) (v := c 1 3) rfl rfl rfl (by decide) rfl rfl rfl ?_
  refine q_iload_n rfl rfl ?_
  refine v_iadd (v := c 1 3 + 20) rfl rfl ?_
  refine q_aload_n rfl rfl ?_
  refine v_gr (t := 2) rfl rfl rfl (by decide) rfl ?_
  refine v_al rfl rfl (by decide) (by decide) ?_
  by_cases h_1 : c 1 3 + 20 > 600
  · refine v_ic_gt_t (t := 18) rfl (by decide) ⟨by decide, h_1, by omega⟩ ?_
    refine q_iconst rfl ?_
    refine v_zret rfl rfl (by decide) ?_
    refine bk_inl ?_
    refine v_if_ne_f (t := 14) rfl (by decide) (by decide) ?_
    refine q_iconst rfl ?_
    refine q_iret rfl rfl ?_
    refine bk_inl ?_
    refine q_pop rfl rfl ?_
    refine q_aload_n rfl rfl ?_
    refine q_aload_n rfl rfl ?_
    refine q_iload rfl rfl ?_
    refine q_iconst rfl ?_
    refine v_iadd (v := (i0 : Int) + 1) rfl rfl ?_
    refine v_scr (j := i0 + 1) rfl (by omega) (by omega) hL hx1 ?_
    refine q_aload_n rfl rfl ?_
    refine q_iload rfl rfl ?_
    refine q_iconst rfl ?_
    refine v_iadd (v := (i0 : Int) + 2) rfl rfl ?_
    refine v_scr (j := i0 + 2) rfl (by omega) (by omega) hL hx2 ?_
    refine q_aload_n rfl rfl ?_
    refine q_iload rfl rfl ?_
    refine q_iconst rfl ?_
    refine v_iadd (v := (i0 : Int) + 3) rfl rfl ?_
    refine v_scr (j := i0 + 3) rfl (by omega) (by omega) hL hx3 ?_
    refine q_aload_n rfl rfl ?_
    refine q_iload rfl rfl ?_
    refine q_iconst rfl ?_
    refine v_iadd (v := (i0 : Int) + 4) rfl rfl ?_
    refine v_scr (j := i0 + 4) rfl (by omega) (by omega) hL hx4 ?_
    refine q_aload_n rfl rfl ?_
    refine q_iload rfl rfl ?_
    refine q_iconst rfl ?_
    refine v_iadd (v := (i0 : Int) + 5) rfl rfl ?_
    refine v_scr (j := i0 + 5) rfl (by omega) (by omega) hL hx5 ?_
    refine v_cv rfl rfl rfl rfl (by decide) ⟨⟨rfl, rfl⟩, by decide, rfl⟩ (Nat.le_of_ble_eq_true rfl) (Nat.le_of_ble_eq_true rfl) ?_
    refine q_aload_n rfl rfl ?_
    refine q_iconst rfl ?_
    refine v_pi (z := 0) rfl rfl rfl (by decide) rfl rfl rfl (by decide) ?_
    refine q_aload_n rfl rfl ?_
    refine v_gi (z := 2) (v := c 41 2) rfl rfl rfl (by decide) rfl rfl (up_n (by decide)) ?_
    refine v_bip rfl (by decide) ?_
    refine v_iadd (v := c 41 2 + 20) rfl rfl ?_
    refine v_sip rfl (by decide) ?_
    refine v_ic_le_f (t := 20) rfl (by decide) (by omega) ?_
    refine q_iconst rfl ?_
    refine q_iret rfl rfl ?_
    refine bk_inl ?_
    refine q_pop rfl rfl ?_
    refine q_goto (t := 1844) rfl (by decide) ?_
    refine Wp_ls [(4, vi (i0 : Int)), (3, .ref 67), (2, .ref 41), (1, .ref 0), (0, .ref a_SC)] (lsub_cons rfl (lsub_cons rfl (lsub_cons rfl (lsub_cons rfl (lsub_cons rfl lsub_nil))))) ?_
    refine K (up c 41 0 0) ?_ ?_ ?_
    · intro a j h
      exact (up_b (by omega))
    · rw [show (up c 41 0 0) 1 3 = c 1 3 from (up_c (by decide)), show (up c 41 0 0) 41 2 = c 41 2 from (up_n (by decide))]
      omega
    · intro j h1 h2
      rw [show (up c 41 0 0) 2 j = c 2 j from (up_c (by decide)), show (up c 41 0 0) 43 j = c 43 j from (up_c (by decide))]; exact hU j h1 h2
  · refine v_ic_gt_f (t := 18) rfl (by decide) ⟨by omega, (Int.not_lt.mp h_1), by decide⟩ ?_
    refine q_iconst rfl ?_
    refine q_goto (t := 19) rfl (by decide) ?_
    refine v_zret rfl rfl (by decide) ?_
    refine bk_inl ?_
    refine v_if_ne_t (t := 14) rfl (by decide) (by decide) ?_
    refine q_aload_n rfl rfl ?_
    refine v_gr (t := 1) rfl rfl rfl (by decide) rfl ?_
    refine q_iload_n rfl rfl ?_
    refine v_cv rfl rfl rfl rfl (by decide) ⟨⟨rfl, rfl⟩, by decide, rfl⟩ (Nat.le_of_ble_eq_true rfl) (Nat.le_of_ble_eq_true rfl) ?_
    refine v_bip rfl (by decide) ?_
    refine q_istore_n rfl (by decide) ?_
    refine q_iload_n rfl rfl ?_
    refine v_if_lt_f (t := 44) rfl (by decide) (by decide) ?_
    refine q_aload_n rfl rfl ?_
    refine q_iconst rfl ?_
    refine v_cv rfl rfl rfl rfl (by decide) ⟨⟨rfl, rfl⟩, by decide, rfl⟩ (Nat.le_of_ble_eq_true rfl) (Nat.le_of_ble_eq_true rfl) ?_
    refine q_aload_n rfl rfl ?_
    refine v_gi (z := 3) (v := c 1 3) rfl rfl rfl (by decide) rfl rfl rfl ?_
    refine q_iload_n rfl rfl ?_
    refine v_iadd (v := c 1 3 + 1) rfl rfl ?_
    refine q_aload_n rfl rfl ?_
    refine v_gr (t := 2) rfl rfl rfl (by decide) rfl ?_
    refine v_al rfl rfl (by decide) (by decide) ?_
    refine v_ic_gt_f (t := 18) rfl (by decide) (by omega) ?_
    refine q_iconst rfl ?_
    refine q_goto (t := 19) rfl (by decide) ?_
    refine v_zret rfl rfl (by decide) ?_
    refine bk_inl ?_
    refine v_if_eq_f (t := 44) rfl (by decide) (by decide) ?_
    refine q_aload_n rfl rfl ?_
    refine v_gr (t := 2) rfl rfl rfl (by decide) rfl ?_
    refine q_aload_n rfl rfl ?_
    refine v_gi (z := 3) (v := c 1 3) rfl rfl rfl (by decide) rfl rfl rfl ?_
    refine q_iload_n rfl rfl ?_
    refine q_iload_n rfl rfl ?_
    refine v_ishr (m := 16777216) (v := (x1 / 16777216)) 24 rfl (by omega) rfl (by decide) (by decide) rfl ?_
    refine v_i2b rfl ?_
    refine v_bs rfl rfl (by decide) (by decide) (by omega) ?_
    refine q_aload_n rfl rfl ?_
    refine q_dup rfl rfl ?_
    refine v_gi (z := 3) (v := c 1 3) rfl rfl rfl (by decide) rfl rfl (up_c (by decide)) ?_
    refine q_iconst rfl ?_
    refine v_iadd (v := c 1 3 + 1) rfl rfl ?_
    refine v_pi (z := 3) rfl rfl rfl (by decide) rfl rfl rfl (by decide) ?_
    refine v_iinc (v := 16) rfl rfl (by decide) (by decide) ?_
    refine q_goto (t := 3) rfl (by decide) ?_
    refine q_iload_n rfl rfl ?_
    refine v_if_lt_f (t := 44) rfl (by decide) (by decide) ?_
    refine q_aload_n rfl rfl ?_
    refine q_iconst rfl ?_
    refine v_cv rfl rfl rfl rfl (by decide) ⟨⟨rfl, rfl⟩, by decide, rfl⟩ (Nat.le_of_ble_eq_true rfl) (Nat.le_of_ble_eq_true rfl) ?_
    refine q_aload_n rfl rfl ?_
    refine v_gi (z := 3) (v := c 1 3 + 1) rfl rfl rfl (by decide) rfl rfl (up_e rfl) ?_
    refine q_iload_n rfl rfl ?_
    refine v_iadd (v := c 1 3 + 2) rfl (by omega) ?_
    refine q_aload_n rfl rfl ?_
    refine v_gr (t := 2) rfl rfl rfl (by decide) rfl ?_
    refine v_al rfl rfl (by decide) (by decide) ?_
    refine v_ic_gt_f (t := 18) rfl (by decide) (by omega) ?_
    refine q_iconst rfl ?_
    refine q_goto (t := 19) rfl (by decide) ?_
    refine v_zret rfl rfl (by decide) ?_
    refine bk_inl ?_
    refine v_if_eq_f (t := 44) rfl (by decide) (by decide) ?_
    refine q_aload_n rfl rfl ?_
    refine v_gr (t := 2) rfl rfl rfl (by decide) rfl ?_
    refine q_aload_n rfl rfl ?_
    refine v_gi (z := 3) (v := c 1 3 + 1) rfl rfl rfl (by decide) rfl rfl (up_e rfl) ?_
    refine q_iload_n rfl rfl ?_
    refine q_iload_n rfl rfl ?_
    refine v_ishr (m := 65536) (v := (x1 / 65536)) 16 rfl (by omega) rfl (by decide) (by decide) rfl ?_
    refine v_i2b rfl ?_
    refine v_bs rfl rfl (by decide) (by decide) (by omega) ?_
    refine q_aload_n rfl rfl ?_
    refine q_dup rfl rfl ?_
    refine v_gi (z := 3) (v := c 1 3 + 1) rfl rfl rfl (by decide) rfl rfl ((up_c (by decide)).trans (up_e rfl)) ?_
    refine q_iconst rfl ?_
    refine v_iadd (v := c 1 3 + 2) rfl (by omega) ?_
    refine v_pi (z := 3) rfl rfl rfl (by decide) rfl rfl rfl (by decide) ?_
    refine v_iinc (v := 8) rfl rfl (by decide) (by decide) ?_
    refine q_goto (t := 3) rfl (by decide) ?_
    refine q_iload_n rfl rfl ?_
    refine v_if_lt_f (t := 44) rfl (by decide) (by decide) ?_
    refine q_aload_n rfl rfl ?_
    refine q_iconst rfl ?_
    refine v_cv rfl rfl rfl rfl (by decide) ⟨⟨rfl, rfl⟩, by decide, rfl⟩ (Nat.le_of_ble_eq_true rfl) (Nat.le_of_ble_eq_true rfl) ?_
    refine q_aload_n rfl rfl ?_
    refine v_gi (z := 3) (v := c 1 3 + 2) rfl rfl rfl (by decide) rfl rfl (up_e rfl) ?_
    refine q_iload_n rfl rfl ?_
    refine v_iadd (v := c 1 3 + 3) rfl (by omega) ?_
    refine q_aload_n rfl rfl ?_
    refine v_gr (t := 2) rfl rfl rfl (by decide) rfl ?_
    refine v_al rfl rfl (by decide) (by decide) ?_
    refine v_ic_gt_f (t := 18) rfl (by decide) (by omega) ?_
    refine q_iconst rfl ?_
    refine q_goto (t := 19) rfl (by decide) ?_
    refine v_zret rfl rfl (by decide) ?_
    refine bk_inl ?_
    refine v_if_eq_f (t := 44) rfl (by decide) (by decide) ?_
    refine q_aload_n rfl rfl ?_
    refine v_gr (t := 2) rfl rfl rfl (by decide) rfl ?_
    refine q_aload_n rfl rfl ?_
    refine v_gi (z := 3) (v := c 1 3 + 2) rfl rfl rfl (by decide) rfl rfl (up_e rfl) ?_
    refine q_iload_n rfl rfl ?_
    refine q_iload_n rfl rfl ?_
    refine v_ishr (m := 256) (v := (x1 / 256)) 8 rfl (by omega) rfl (by decide) (by decide) rfl ?_
    refine v_i2b rfl ?_
    refine v_bs rfl rfl (by decide) (by decide) (by omega) ?_
    refine q_aload_n rfl rfl ?_
    refine q_dup rfl rfl ?_
    refine v_gi (z := 3) (v := c 1 3 + 2) rfl rfl rfl (by decide) rfl rfl ((up_c (by decide)).trans (up_e rfl)) ?_
    refine q_iconst rfl ?_
    refine v_iadd (v := c 1 3 + 3) rfl (by omega) ?_
    refine v_pi (z := 3) rfl rfl rfl (by decide) rfl rfl rfl (by decide) ?_
    refine v_iinc (v := 0) rfl rfl (by decide) (by decide) ?_
    refine q_goto (t := 3) rfl (by decide) ?_
    refine q_iload_n rfl rfl ?_
    refine v_if_lt_f (t := 44) rfl (by decide) (by decide) ?_
    refine q_aload_n rfl rfl ?_
    refine q_iconst rfl ?_
    refine v_cv rfl rfl rfl rfl (by decide) ⟨⟨rfl, rfl⟩, by decide, rfl⟩ (Nat.le_of_ble_eq_true rfl) (Nat.le_of_ble_eq_true rfl) ?_
    refine q_aload_n rfl rfl ?_
    refine v_gi (z := 3) (v := c 1 3 + 3) rfl rfl rfl (by decide) rfl rfl (up_e rfl) ?_
    refine q_iload_n rfl rfl ?_
    refine v_iadd (v := c 1 3 + 4) rfl (by omega) ?_
    refine q_aload_n rfl rfl ?_
    refine v_gr (t := 2) rfl rfl rfl (by decide) rfl ?_
    refine v_al rfl rfl (by decide) (by decide) ?_
    refine v_ic_gt_f (t := 18) rfl (by decide) (by omega) ?_
    refine q_iconst rfl ?_
    refine q_goto (t := 19) rfl (by decide) ?_
    refine v_zret rfl rfl (by decide) ?_
    refine bk_inl ?_
    refine v_if_eq_f (t := 44) rfl (by decide) (by decide) ?_
    refine q_aload_n rfl rfl ?_
    refine v_gr (t := 2) rfl rfl rfl (by decide) rfl ?_
    refine q_aload_n rfl rfl ?_
    refine v_gi (z := 3) (v := c 1 3 + 3) rfl rfl rfl (by decide) rfl rfl (up_e rfl) ?_
    refine q_iload_n rfl rfl ?_
    refine q_iload_n rfl rfl ?_
    refine v_ishr (m := 1) (v := x1) 0 rfl (by omega) rfl (by decide) (by decide) (by omega) ?_
    refine v_i2b rfl ?_
    refine v_bs rfl rfl (by decide) (by decide) (by omega) ?_
    refine q_aload_n rfl rfl ?_
    refine q_dup rfl rfl ?_
    refine v_gi (z := 3) (v := c 1 3 + 3) rfl rfl rfl (by decide) rfl rfl ((up_c (by decide)).trans (up_e rfl)) ?_
    refine q_iconst rfl ?_
    refine v_iadd (v := c 1 3 + 4) rfl (by omega) ?_
    refine v_pi (z := 3) rfl rfl rfl (by decide) rfl rfl rfl (by decide) ?_
    refine v_iinc (v := (-8)) rfl rfl (by decide) (by decide) ?_
    refine Wp_ls [(2, vi (-8)), (0, .ref 1), (1, vi x1)] (lsub_cons rfl (lsub_cons rfl (lsub_cons rfl lsub_nil))) ?_
    refine q_goto (t := 3) rfl (by decide) ?_
    refine q_iload_n rfl rfl ?_
    refine v_if_lt_t (t := 44) rfl (by decide) (by decide) ?_
    refine q_vret rfl rfl ?_
    refine bk_inl ?_
    refine q_aload_n rfl rfl ?_
    refine v_gr (t := 1) rfl rfl rfl (by decide) rfl ?_
    refine q_iload_n rfl rfl ?_
    refine v_cv rfl rfl rfl rfl (by decide) ⟨⟨rfl, rfl⟩, by decide, rfl⟩ (Nat.le_of_ble_eq_true rfl) (Nat.le_of_ble_eq_true rfl) ?_
    refine v_bip rfl (by decide) ?_
    refine q_istore_n rfl (by decide) ?_
    refine q_iload_n rfl rfl ?_
    refine v_if_lt_f (t := 44) rfl (by decide) (by decide) ?_
    refine q_aload_n rfl rfl ?_
    refine q_iconst rfl ?_
    refine v_cv rfl rfl rfl rfl (by decide) ⟨⟨rfl, rfl⟩, by decide, rfl⟩ (Nat.le_of_ble_eq_true rfl) (Nat.le_of_ble_eq_true rfl) ?_
    refine q_aload_n rfl rfl ?_
    refine v_gi (z := 3) (v := c 1 3 + 4) rfl rfl rfl (by decide) rfl rfl (up_e rfl) ?_
    refine q_iload_n rfl rfl ?_
    refine v_iadd (v := c 1 3 + 5) rfl (by omega) ?_
    refine q_aload_n rfl rfl ?_
    refine v_gr (t := 2) rfl rfl rfl (by decide) rfl ?_
    refine v_al rfl rfl (by decide) (by decide) ?_
    refine v_ic_gt_f (t := 18) rfl (by decide) (by omega) ?_
    refine q_iconst rfl ?_
    refine q_goto (t := 19) rfl (by decide) ?_
    refine v_zret rfl rfl (by decide) ?_
    refine bk_inl ?_
    refine v_if_eq_f (t := 44) rfl (by decide) (by decide) ?_
    refine q_aload_n rfl rfl ?_
    refine v_gr (t := 2) rfl rfl rfl (by decide) rfl ?_
    refine q_aload_n rfl rfl ?_
    refine v_gi (z := 3) (v := c 1 3 + 4) rfl rfl rfl (by decide) rfl rfl (up_e rfl) ?_
    refine q_iload_n rfl rfl ?_
    refine q_iload_n rfl rfl ?_
    refine v_ishr (m := 16777216) (v := (x2 / 16777216)) 24 rfl (by omega) rfl (by decide) (by decide) rfl ?_
    refine v_i2b rfl ?_
    refine v_bs rfl rfl (by decide) (by decide) (by omega) ?_
    refine q_aload_n rfl rfl ?_
    refine q_dup rfl rfl ?_
    refine v_gi (z := 3) (v := c 1 3 + 4) rfl rfl rfl (by decide) rfl rfl ((up_c (by decide)).trans (up_e rfl)) ?_
    refine q_iconst rfl ?_
    refine v_iadd (v := c 1 3 + 5) rfl (by omega) ?_
    refine v_pi (z := 3) rfl rfl rfl (by decide) rfl rfl rfl (by decide) ?_
    refine v_iinc (v := 16) rfl rfl (by decide) (by decide) ?_
    refine q_goto (t := 3) rfl (by decide) ?_
    refine q_iload_n rfl rfl ?_
    refine v_if_lt_f (t := 44) rfl (by decide) (by decide) ?_
    refine q_aload_n rfl rfl ?_
    refine q_iconst rfl ?_
    refine v_cv rfl rfl rfl rfl (by decide) ⟨⟨rfl, rfl⟩, by decide, rfl⟩ (Nat.le_of_ble_eq_true rfl) (Nat.le_of_ble_eq_true rfl) ?_
    refine q_aload_n rfl rfl ?_
    refine v_gi (z := 3) (v := c 1 3 + 5) rfl rfl rfl (by decide) rfl rfl (up_e rfl) ?_
    refine q_iload_n rfl rfl ?_
    refine v_iadd (v := c 1 3 + 6) rfl (by omega) ?_
    refine q_aload_n rfl rfl ?_
    refine v_gr (t := 2) rfl rfl rfl (by decide) rfl ?_
    refine v_al rfl rfl (by decide) (by decide) ?_
    refine v_ic_gt_f (t := 18) rfl (by decide) (by omega) ?_
    refine q_iconst rfl ?_
    refine q_goto (t := 19) rfl (by decide) ?_
    refine v_zret rfl rfl (by decide) ?_
    refine bk_inl ?_
    refine v_if_eq_f (t := 44) rfl (by decide) (by decide) ?_
    refine q_aload_n rfl rfl ?_
    refine v_gr (t := 2) rfl rfl rfl (by decide) rfl ?_
    refine q_aload_n rfl rfl ?_
    refine v_gi (z := 3) (v := c 1 3 + 5) rfl rfl rfl (by decide) rfl rfl (up_e rfl) ?_
    refine q_iload_n rfl rfl ?_
    refine q_iload_n rfl rfl ?_
    refine v_ishr (m := 65536) (v := (x2 / 65536)) 16 rfl (by omega) rfl (by decide) (by decide) rfl ?_
    refine v_i2b rfl ?_
    refine v_bs rfl rfl (by decide) (by decide) (by omega) ?_
    refine q_aload_n rfl rfl ?_
    refine q_dup rfl rfl ?_
    refine v_gi (z := 3) (v := c 1 3 + 5) rfl rfl rfl (by decide) rfl rfl ((up_c (by decide)).trans (up_e rfl)) ?_
    refine q_iconst rfl ?_
    refine v_iadd (v := c 1 3 + 6) rfl (by omega) ?_
    refine v_pi (z := 3) rfl rfl rfl (by decide) rfl rfl rfl (by decide) ?_
    refine v_iinc (v := 8) rfl rfl (by decide) (by decide) ?_
    refine q_goto (t := 3) rfl (by decide) ?_
    refine q_iload_n rfl rfl ?_
    refine v_if_lt_f (t := 44) rfl (by decide) (by decide) ?_
    refine q_aload_n rfl rfl ?_
    refine q_iconst rfl ?_
    refine v_cv rfl rfl rfl rfl (by decide) ⟨⟨rfl, rfl⟩, by decide, rfl⟩ (Nat.le_of_ble_eq_true rfl) (Nat.le_of_ble_eq_true rfl) ?_
    refine q_aload_n rfl rfl ?_
    refine v_gi (z := 3) (v := c 1 3 + 6) rfl rfl rfl (by decide) rfl rfl (up_e rfl) ?_
    refine q_iload_n rfl rfl ?_
    refine v_iadd (v := c 1 3 + 7) rfl (by omega) ?_
    refine q_aload_n rfl rfl ?_
    refine v_gr (t := 2) rfl rfl rfl (by decide) rfl ?_
    refine v_al rfl rfl (by decide) (by decide) ?_
    refine v_ic_gt_f (t := 18) rfl (by decide) (by omega) ?_
    refine q_iconst rfl ?_
    refine q_goto (t := 19) rfl (by decide) ?_
    refine v_zret rfl rfl (by decide) ?_
    refine bk_inl ?_
    refine v_if_eq_f (t := 44) rfl (by decide) (by decide) ?_
    refine q_aload_n rfl rfl ?_
    refine v_gr (t := 2) rfl rfl rfl (by decide) rfl ?_
    refine q_aload_n rfl rfl ?_
    refine v_gi (z := 3) (v := c 1 3 + 6) rfl rfl rfl (by decide) rfl rfl (up_e rfl) ?_
    refine q_iload_n rfl rfl ?_
    refine q_iload_n rfl rfl ?_
    refine v_ishr (m := 256) (v := (x2 / 256)) 8 rfl (by omega) rfl (by decide) (by decide) rfl ?_
    refine v_i2b rfl ?_
    refine v_bs rfl rfl (by decide) (by decide) (by omega) ?_
    refine q_aload_n rfl rfl ?_
    refine q_dup rfl rfl ?_
    refine v_gi (z := 3) (v := c 1 3 + 6) rfl rfl rfl (by decide) rfl rfl ((up_c (by decide)).trans (up_e rfl)) ?_
    refine q_iconst rfl ?_
    refine v_iadd (v := c 1 3 + 7) rfl (by omega) ?_
    refine v_pi (z := 3) rfl rfl rfl (by decide) rfl rfl rfl (by decide) ?_
    refine v_iinc (v := 0) rfl rfl (by decide) (by decide) ?_
    refine q_goto (t := 3) rfl (by decide) ?_
    refine q_iload_n rfl rfl ?_
    refine v_if_lt_f (t := 44) rfl (by decide) (by decide) ?_
    refine q_aload_n rfl rfl ?_
    refine q_iconst rfl ?_
    refine v_cv rfl rfl rfl rfl (by decide) ⟨⟨rfl, rfl⟩, by decide, rfl⟩ (Nat.le_of_ble_eq_true rfl) (Nat.le_of_ble_eq_true rfl) ?_
    refine q_aload_n rfl rfl ?_
    refine v_gi (z := 3) (v := c 1 3 + 7) rfl rfl rfl (by decide) rfl rfl (up_e rfl) ?_
    refine q_iload_n rfl rfl ?_
    refine v_iadd (v := c 1 3 + 8) rfl (by omega) ?_
    refine q_aload_n rfl rfl ?_
    refine v_gr (t := 2) rfl rfl rfl (by decide) rfl ?_
    refine v_al rfl rfl (by decide) (by decide) ?_
    refine v_ic_gt_f (t := 18) rfl (by decide) (by omega) ?_
    refine q_iconst rfl ?_
    refine q_goto (t := 19) rfl (by decide) ?_
    refine v_zret rfl rfl (by decide) ?_
    refine bk_inl ?_
    refine v_if_eq_f (t := 44) rfl (by decide) (by decide) ?_
    refine q_aload_n rfl rfl ?_
    refine v_gr (t := 2) rfl rfl rfl (by decide) rfl ?_
    refine q_aload_n rfl rfl ?_
    refine v_gi (z := 3) (v := c 1 3 + 7) rfl rfl rfl (by decide) rfl rfl (up_e rfl) ?_
    refine q_iload_n rfl rfl ?_
    refine q_iload_n rfl rfl ?_
    refine v_ishr (m := 1) (v := x2) 0 rfl (by omega) rfl (by decide) (by decide) (by omega) ?_
    refine v_i2b rfl ?_
    refine v_bs rfl rfl (by decide) (by decide) (by omega) ?_
    refine q_aload_n rfl rfl ?_
    refine q_dup rfl rfl ?_
    refine v_gi (z := 3) (v := c 1 3 + 7) rfl rfl rfl (by decide) rfl rfl ((up_c (by decide)).trans (up_e rfl)) ?_
    refine q_iconst rfl ?_
    refine v_iadd (v := c 1 3 + 8) rfl (by omega) ?_
    refine v_pi (z := 3) rfl rfl rfl (by decide) rfl rfl rfl (by decide) ?_
    refine v_iinc (v := (-8)) rfl rfl (by decide) (by decide) ?_
    refine Wp_ls [(2, vi (-8)), (0, .ref 1), (1, vi x2)] (lsub_cons rfl (lsub_cons rfl (lsub_cons rfl lsub_nil))) ?_
    refine q_goto (t := 3) rfl (by decide) ?_
    refine q_iload_n rfl rfl ?_
    refine v_if_lt_t (t := 44) rfl (by decide) (by decide) ?_
    refine q_vret rfl rfl ?_
    refine bk_inl ?_
    refine q_aload_n rfl rfl ?_
    refine v_gr (t := 1) rfl rfl rfl (by decide) rfl ?_
    refine q_iload_n rfl rfl ?_
    refine v_cv rfl rfl rfl rfl (by decide) ⟨⟨rfl, rfl⟩, by decide, rfl⟩ (Nat.le_of_ble_eq_true rfl) (Nat.le_of_ble_eq_true rfl) ?_
    refine v_bip rfl (by decide) ?_
    refine q_istore_n rfl (by decide) ?_
    refine q_iload_n rfl rfl ?_
    refine v_if_lt_f (t := 44) rfl (by decide) (by decide) ?_
    refine q_aload_n rfl rfl ?_
    refine q_iconst rfl ?_
    refine v_cv rfl rfl rfl rfl (by decide) ⟨⟨rfl, rfl⟩, by decide, rfl⟩ (Nat.le_of_ble_eq_true rfl) (Nat.le_of_ble_eq_true rfl) ?_
    refine q_aload_n rfl rfl ?_
    refine v_gi (z := 3) (v := c 1 3 + 8) rfl rfl rfl (by decide) rfl rfl (up_e rfl) ?_
    refine q_iload_n rfl rfl ?_
    refine v_iadd (v := c 1 3 + 9) rfl (by omega) ?_
    refine q_aload_n rfl rfl ?_
    refine v_gr (t := 2) rfl rfl rfl (by decide) rfl ?_
    refine v_al rfl rfl (by decide) (by decide) ?_
    refine v_ic_gt_f (t := 18) rfl (by decide) (by omega) ?_
    refine q_iconst rfl ?_
    refine q_goto (t := 19) rfl (by decide) ?_
    refine v_zret rfl rfl (by decide) ?_
    refine bk_inl ?_
    refine v_if_eq_f (t := 44) rfl (by decide) (by decide) ?_
    refine q_aload_n rfl rfl ?_
    refine v_gr (t := 2) rfl rfl rfl (by decide) rfl ?_
    refine q_aload_n rfl rfl ?_
    refine v_gi (z := 3) (v := c 1 3 + 8) rfl rfl rfl (by decide) rfl rfl (up_e rfl) ?_
    refine q_iload_n rfl rfl ?_
    refine q_iload_n rfl rfl ?_
    refine v_ishr (m := 16777216) (v := (x3 / 16777216)) 24 rfl (by omega) rfl (by decide) (by decide) rfl ?_
    refine v_i2b rfl ?_
    refine v_bs rfl rfl (by decide) (by decide) (by omega) ?_
    refine q_aload_n rfl rfl ?_
    refine q_dup rfl rfl ?_
    refine v_gi (z := 3) (v := c 1 3 + 8) rfl rfl rfl (by decide) rfl rfl ((up_c (by decide)).trans (up_e rfl)) ?_
    refine q_iconst rfl ?_
    refine v_iadd (v := c 1 3 + 9) rfl (by omega) ?_
    refine v_pi (z := 3) rfl rfl rfl (by decide) rfl rfl rfl (by decide) ?_
    refine v_iinc (v := 16) rfl rfl (by decide) (by decide) ?_
    refine q_goto (t := 3) rfl (by decide) ?_
    refine q_iload_n rfl rfl ?_
    refine v_if_lt_f (t := 44) rfl (by decide) (by decide) ?_
    refine q_aload_n rfl rfl ?_
    refine q_iconst rfl ?_
    refine v_cv rfl rfl rfl rfl (by decide) ⟨⟨rfl, rfl⟩, by decide, rfl⟩ (Nat.le_of_ble_eq_true rfl) (Nat.le_of_ble_eq_true rfl) ?_
    refine q_aload_n rfl rfl ?_
    refine v_gi (z := 3) (v := c 1 3 + 9) rfl rfl rfl (by decide) rfl rfl (up_e rfl) ?_
    refine q_iload_n rfl rfl ?_
    refine v_iadd (v := c 1 3 + 10) rfl (by omega) ?_
    refine q_aload_n rfl rfl ?_
    refine v_gr (t := 2) rfl rfl rfl (by decide) rfl ?_
    refine v_al rfl rfl (by decide) (by decide) ?_
    refine v_ic_gt_f (t := 18) rfl (by decide) (by omega) ?_
    refine q_iconst rfl ?_
    refine q_goto (t := 19) rfl (by decide) ?_
    refine v_zret rfl rfl (by decide) ?_
    refine bk_inl ?_
    refine v_if_eq_f (t := 44) rfl (by decide) (by decide) ?_
    refine q_aload_n rfl rfl ?_
    refine v_gr (t := 2) rfl rfl rfl (by decide) rfl ?_
    refine q_aload_n rfl rfl ?_
    refine v_gi (z := 3) (v := c 1 3 + 9) rfl rfl rfl (by decide) rfl rfl (up_e rfl) ?_
    refine q_iload_n rfl rfl ?_
    refine q_iload_n rfl rfl ?_
    refine v_ishr (m := 65536) (v := (x3 / 65536)) 16 rfl (by omega) rfl (by decide) (by decide) rfl ?_
    refine v_i2b rfl ?_
    refine v_bs rfl rfl (by decide) (by decide) (by omega) ?_
    refine q_aload_n rfl rfl ?_
    refine q_dup rfl rfl ?_
    refine v_gi (z := 3) (v := c 1 3 + 9) rfl rfl rfl (by decide) rfl rfl ((up_c (by decide)).trans (up_e rfl)) ?_
    refine q_iconst rfl ?_
    refine v_iadd (v := c 1 3 + 10) rfl (by omega) ?_
    refine v_pi (z := 3) rfl rfl rfl (by decide) rfl rfl rfl (by decide) ?_
    refine v_iinc (v := 8) rfl rfl (by decide) (by decide) ?_
    refine q_goto (t := 3) rfl (by decide) ?_
    refine q_iload_n rfl rfl ?_
    refine v_if_lt_f (t := 44) rfl (by decide) (by decide) ?_
    refine q_aload_n rfl rfl ?_
    refine q_iconst rfl ?_
    refine v_cv rfl rfl rfl rfl (by decide) ⟨⟨rfl, rfl⟩, by decide, rfl⟩ (Nat.le_of_ble_eq_true rfl) (Nat.le_of_ble_eq_true rfl) ?_
    refine q_aload_n rfl rfl ?_
    refine v_gi (z := 3) (v := c 1 3 + 10) rfl rfl rfl (by decide) rfl rfl (up_e rfl) ?_
    refine q_iload_n rfl rfl ?_
    refine v_iadd (v := c 1 3 + 11) rfl (by omega) ?_
    refine q_aload_n rfl rfl ?_
    refine v_gr (t := 2) rfl rfl rfl (by decide) rfl ?_
    refine v_al rfl rfl (by decide) (by decide) ?_
    refine v_ic_gt_f (t := 18) rfl (by decide) (by omega) ?_
    refine q_iconst rfl ?_
    refine q_goto (t := 19) rfl (by decide) ?_
    refine v_zret rfl rfl (by decide) ?_
    refine bk_inl ?_
    refine v_if_eq_f (t := 44) rfl (by decide) (by decide) ?_
    refine q_aload_n rfl rfl ?_
    refine v_gr (t := 2) rfl rfl rfl (by decide) rfl ?_
    refine q_aload_n rfl rfl ?_
    refine v_gi (z := 3) (v := c 1 3 + 10) rfl rfl rfl (by decide) rfl rfl (up_e rfl) ?_
    refine q_iload_n rfl rfl ?_
    refine q_iload_n rfl rfl ?_
    refine v_ishr (m := 256) (v := (x3 / 256)) 8 rfl (by omega) rfl (by decide) (by decide) rfl ?_
    refine v_i2b rfl ?_
    refine v_bs rfl rfl (by decide) (by decide) (by omega) ?_
    refine q_aload_n rfl rfl ?_
    refine q_dup rfl rfl ?_
    refine v_gi (z := 3) (v := c 1 3 + 10) rfl rfl rfl (by decide) rfl rfl ((up_c (by decide)).trans (up_e rfl)) ?_
    refine q_iconst rfl ?_
    refine v_iadd (v := c 1 3 + 11) rfl (by omega) ?_
    refine v_pi (z := 3) rfl rfl rfl (by decide) rfl rfl rfl (by decide) ?_
    refine v_iinc (v := 0) rfl rfl (by decide) (by decide) ?_
    refine q_goto (t := 3) rfl (by decide) ?_
    refine q_iload_n rfl rfl ?_
    refine v_if_lt_f (t := 44) rfl (by decide) (by decide) ?_
    refine q_aload_n rfl rfl ?_
    refine q_iconst rfl ?_
    refine v_cv rfl rfl rfl rfl (by decide) ⟨⟨rfl, rfl⟩, by decide, rfl⟩ (Nat.le_of_ble_eq_true rfl) (Nat.le_of_ble_eq_true rfl) ?_
    refine q_aload_n rfl rfl ?_
    refine v_gi (z := 3) (v := c 1 3 + 11) rfl rfl rfl (by decide) rfl rfl (up_e rfl) ?_
    refine q_iload_n rfl rfl ?_
    refine v_iadd (v := c 1 3 + 12) rfl (by omega) ?_
    refine q_aload_n rfl rfl ?_
    refine v_gr (t := 2) rfl rfl rfl (by decide) rfl ?_
    refine v_al rfl rfl (by decide) (by decide) ?_
    refine v_ic_gt_f (t := 18) rfl (by decide) (by omega) ?_
    refine q_iconst rfl ?_
    refine q_goto (t := 19) rfl (by decide) ?_
    refine v_zret rfl rfl (by decide) ?_
    refine bk_inl ?_
    refine v_if_eq_f (t := 44) rfl (by decide) (by decide) ?_
    refine q_aload_n rfl rfl ?_
    refine v_gr (t := 2) rfl rfl rfl (by decide) rfl ?_
    refine q_aload_n rfl rfl ?_
    refine v_gi (z := 3) (v := c 1 3 + 11) rfl rfl rfl (by decide) rfl rfl (up_e rfl) ?_
    refine q_iload_n rfl rfl ?_
    refine q_iload_n rfl rfl ?_
    refine v_ishr (m := 1) (v := x3) 0 rfl (by omega) rfl (by decide) (by decide) (by omega) ?_
    refine v_i2b rfl ?_
    refine v_bs rfl rfl (by decide) (by decide) (by omega) ?_
    refine q_aload_n rfl rfl ?_
    refine q_dup rfl rfl ?_
    refine v_gi (z := 3) (v := c 1 3 + 11) rfl rfl rfl (by decide) rfl rfl ((up_c (by decide)).trans (up_e rfl)) ?_
    refine q_iconst rfl ?_
    refine v_iadd (v := c 1 3 + 12) rfl (by omega) ?_
    refine v_pi (z := 3) rfl rfl rfl (by decide) rfl rfl rfl (by decide) ?_
    refine v_iinc (v := (-8)) rfl rfl (by decide) (by decide) ?_
    refine Wp_ls [(2, vi (-8)), (0, .ref 1), (1, vi x3)] (lsub_cons rfl (lsub_cons rfl (lsub_cons rfl lsub_nil))) ?_
    refine q_goto (t := 3) rfl (by decide) ?_
    refine q_iload_n rfl rfl ?_
    refine v_if_lt_t (t := 44) rfl (by decide) (by decide) ?_
    refine q_vret rfl rfl ?_
    refine bk_inl ?_
    refine q_aload_n rfl rfl ?_
    refine v_gr (t := 1) rfl rfl rfl (by decide) rfl ?_
    refine q_iload rfl rfl ?_
    refine v_cv rfl rfl rfl rfl (by decide) ⟨⟨rfl, rfl⟩, by decide, rfl⟩ (Nat.le_of_ble_eq_true rfl) (Nat.le_of_ble_eq_true rfl) ?_
    refine v_bip rfl (by decide) ?_
    refine q_istore_n rfl (by decide) ?_
    refine q_iload_n rfl rfl ?_
    refine v_if_lt_f (t := 44) rfl (by decide) (by decide) ?_
    refine q_aload_n rfl rfl ?_
    refine q_iconst rfl ?_
    refine v_cv rfl rfl rfl rfl (by decide) ⟨⟨rfl, rfl⟩, by decide, rfl⟩ (Nat.le_of_ble_eq_true rfl) (Nat.le_of_ble_eq_true rfl) ?_
    refine q_aload_n rfl rfl ?_
    refine v_gi (z := 3) (v := c 1 3 + 12) rfl rfl rfl (by decide) rfl rfl (up_e rfl) ?_
    refine q_iload_n rfl rfl ?_
    refine v_iadd (v := c 1 3 + 13) rfl (by omega) ?_
    refine q_aload_n rfl rfl ?_
    refine v_gr (t := 2) rfl rfl rfl (by decide) rfl ?_
    refine v_al rfl rfl (by decide) (by decide) ?_
    refine v_ic_gt_f (t := 18) rfl (by decide) (by omega) ?_
    refine q_iconst rfl ?_
    refine q_goto (t := 19) rfl (by decide) ?_
    refine v_zret rfl rfl (by decide) ?_
    refine bk_inl ?_
    refine v_if_eq_f (t := 44) rfl (by decide) (by decide) ?_
    refine q_aload_n rfl rfl ?_
    refine v_gr (t := 2) rfl rfl rfl (by decide) rfl ?_
    refine q_aload_n rfl rfl ?_
    refine v_gi (z := 3) (v := c 1 3 + 12) rfl rfl rfl (by decide) rfl rfl (up_e rfl) ?_
    refine q_iload_n rfl rfl ?_
    refine q_iload_n rfl rfl ?_
    refine v_ishr (m := 16777216) (v := (x4 / 16777216)) 24 rfl (by omega) rfl (by decide) (by decide) rfl ?_
    refine v_i2b rfl ?_
    refine v_bs rfl rfl (by decide) (by decide) (by omega) ?_
    refine q_aload_n rfl rfl ?_
    refine q_dup rfl rfl ?_
    refine v_gi (z := 3) (v := c 1 3 + 12) rfl rfl rfl (by decide) rfl rfl ((up_c (by decide)).trans (up_e rfl)) ?_
    refine q_iconst rfl ?_
    refine v_iadd (v := c 1 3 + 13) rfl (by omega) ?_
    refine v_pi (z := 3) rfl rfl rfl (by decide) rfl rfl rfl (by decide) ?_
    refine v_iinc (v := 16) rfl rfl (by decide) (by decide) ?_
    refine q_goto (t := 3) rfl (by decide) ?_
    refine q_iload_n rfl rfl ?_
    refine v_if_lt_f (t := 44) rfl (by decide) (by decide) ?_
    refine q_aload_n rfl rfl ?_
    refine q_iconst rfl ?_
    refine v_cv rfl rfl rfl rfl (by decide) ⟨⟨rfl, rfl⟩, by decide, rfl⟩ (Nat.le_of_ble_eq_true rfl) (Nat.le_of_ble_eq_true rfl) ?_
    refine q_aload_n rfl rfl ?_
    refine v_gi (z := 3) (v := c 1 3 + 13) rfl rfl rfl (by decide) rfl rfl (up_e rfl) ?_
    refine q_iload_n rfl rfl ?_
    refine v_iadd (v := c 1 3 + 14) rfl (by omega) ?_
    refine q_aload_n rfl rfl ?_
    refine v_gr (t := 2) rfl rfl rfl (by decide) rfl ?_
    refine v_al rfl rfl (by decide) (by decide) ?_
    refine v_ic_gt_f (t := 18) rfl (by decide) (by omega) ?_
    refine q_iconst rfl ?_
    refine q_goto (t := 19) rfl (by decide) ?_
    refine v_zret rfl rfl (by decide) ?_
    refine bk_inl ?_
    refine v_if_eq_f (t := 44) rfl (by decide) (by decide) ?_
    refine q_aload_n rfl rfl ?_
    refine v_gr (t := 2) rfl rfl rfl (by decide) rfl ?_
    refine q_aload_n rfl rfl ?_
    refine v_gi (z := 3) (v := c 1 3 + 13) rfl rfl rfl (by decide) rfl rfl (up_e rfl) ?_
    refine q_iload_n rfl rfl ?_
    refine q_iload_n rfl rfl ?_
    refine v_ishr (m := 65536) (v := (x4 / 65536)) 16 rfl (by omega) rfl (by decide) (by decide) rfl ?_
    refine v_i2b rfl ?_
    refine v_bs rfl rfl (by decide) (by decide) (by omega) ?_
    refine q_aload_n rfl rfl ?_
    refine q_dup rfl rfl ?_
    refine v_gi (z := 3) (v := c 1 3 + 13) rfl rfl rfl (by decide) rfl rfl ((up_c (by decide)).trans (up_e rfl)) ?_
    refine q_iconst rfl ?_
    refine v_iadd (v := c 1 3 + 14) rfl (by omega) ?_
    refine v_pi (z := 3) rfl rfl rfl (by decide) rfl rfl rfl (by decide) ?_
    refine v_iinc (v := 8) rfl rfl (by decide) (by decide) ?_
    refine q_goto (t := 3) rfl (by decide) ?_
    refine q_iload_n rfl rfl ?_
    refine v_if_lt_f (t := 44) rfl (by decide) (by decide) ?_
    refine q_aload_n rfl rfl ?_
    refine q_iconst rfl ?_
    refine v_cv rfl rfl rfl rfl (by decide) ⟨⟨rfl, rfl⟩, by decide, rfl⟩ (Nat.le_of_ble_eq_true rfl) (Nat.le_of_ble_eq_true rfl) ?_
    refine q_aload_n rfl rfl ?_
    refine v_gi (z := 3) (v := c 1 3 + 14) rfl rfl rfl (by decide) rfl rfl (up_e rfl) ?_
    refine q_iload_n rfl rfl ?_
    refine v_iadd (v := c 1 3 + 15) rfl (by omega) ?_
    refine q_aload_n rfl rfl ?_
    refine v_gr (t := 2) rfl rfl rfl (by decide) rfl ?_
    refine v_al rfl rfl (by decide) (by decide) ?_
    refine v_ic_gt_f (t := 18) rfl (by decide) (by omega) ?_
    refine q_iconst rfl ?_
    refine q_goto (t := 19) rfl (by decide) ?_
    refine v_zret rfl rfl (by decide) ?_
    refine bk_inl ?_
    refine v_if_eq_f (t := 44) rfl (by decide) (by decide) ?_
    refine q_aload_n rfl rfl ?_
    refine v_gr (t := 2) rfl rfl rfl (by decide) rfl ?_
    refine q_aload_n rfl rfl ?_
    refine v_gi (z := 3) (v := c 1 3 + 14) rfl rfl rfl (by decide) rfl rfl (up_e rfl) ?_
    refine q_iload_n rfl rfl ?_
    refine q_iload_n rfl rfl ?_
    refine v_ishr (m := 256) (v := (x4 / 256)) 8 rfl (by omega) rfl (by decide) (by decide) rfl ?_
    refine v_i2b rfl ?_
    refine v_bs rfl rfl (by decide) (by decide) (by omega) ?_
    refine q_aload_n rfl rfl ?_
    refine q_dup rfl rfl ?_
    refine v_gi (z := 3) (v := c 1 3 + 14) rfl rfl rfl (by decide) rfl rfl ((up_c (by decide)).trans (up_e rfl)) ?_
    refine q_iconst rfl ?_
    refine v_iadd (v := c 1 3 + 15) rfl (by omega) ?_
    refine v_pi (z := 3) rfl rfl rfl (by decide) rfl rfl rfl (by decide) ?_
    refine v_iinc (v := 0) rfl rfl (by decide) (by decide) ?_
    refine q_goto (t := 3) rfl (by decide) ?_
    refine q_iload_n rfl rfl ?_
    refine v_if_lt_f (t := 44) rfl (by decide) (by decide) ?_
    refine q_aload_n rfl rfl ?_
    refine q_iconst rfl ?_
    refine v_cv rfl rfl rfl rfl (by decide) ⟨⟨rfl, rfl⟩, by decide, rfl⟩ (Nat.le_of_ble_eq_true rfl) (Nat.le_of_ble_eq_true rfl) ?_
    refine q_aload_n rfl rfl ?_
    refine v_gi (z := 3) (v := c 1 3 + 15) rfl rfl rfl (by decide) rfl rfl (up_e rfl) ?_
    refine q_iload_n rfl rfl ?_
    refine v_iadd (v := c 1 3 + 16) rfl (by omega) ?_
    refine q_aload_n rfl rfl ?_
    refine v_gr (t := 2) rfl rfl rfl (by decide) rfl ?_
    refine v_al rfl rfl (by decide) (by decide) ?_
    refine v_ic_gt_f (t := 18) rfl (by decide) (by omega) ?_
    refine q_iconst rfl ?_
    refine q_goto (t := 19) rfl (by decide) ?_
    refine v_zret rfl rfl (by decide) ?_
    refine bk_inl ?_
    refine v_if_eq_f (t := 44) rfl (by decide) (by decide) ?_
    refine q_aload_n rfl rfl ?_
    refine v_gr (t := 2) rfl rfl rfl (by decide) rfl ?_
    refine q_aload_n rfl rfl ?_
    refine v_gi (z := 3) (v := c 1 3 + 15) rfl rfl rfl (by decide) rfl rfl (up_e rfl) ?_
    refine q_iload_n rfl rfl ?_
    refine q_iload_n rfl rfl ?_
    refine v_ishr (m := 1) (v := x4) 0 rfl (by omega) rfl (by decide) (by decide) (by omega) ?_
    refine v_i2b rfl ?_
    refine v_bs rfl rfl (by decide) (by decide) (by omega) ?_
    refine q_aload_n rfl rfl ?_
    refine q_dup rfl rfl ?_
    refine v_gi (z := 3) (v := c 1 3 + 15) rfl rfl rfl (by decide) rfl rfl ((up_c (by decide)).trans (up_e rfl)) ?_
    refine q_iconst rfl ?_
    refine v_iadd (v := c 1 3 + 16) rfl (by omega) ?_
    refine v_pi (z := 3) rfl rfl rfl (by decide) rfl rfl rfl (by decide) ?_
    refine v_iinc (v := (-8)) rfl rfl (by decide) (by decide) ?_
    refine Wp_ls [(2, vi (-8)), (0, .ref 1), (1, vi x4)] (lsub_cons rfl (lsub_cons rfl (lsub_cons rfl lsub_nil))) ?_
    refine q_goto (t := 3) rfl (by decide) ?_
    refine q_iload_n rfl rfl ?_
    refine v_if_lt_t (t := 44) rfl (by decide) (by decide) ?_
    refine q_vret rfl rfl ?_
    refine bk_inl ?_
    refine q_aload_n rfl rfl ?_
    refine v_gr (t := 1) rfl rfl rfl (by decide) rfl ?_
    refine q_iload rfl rfl ?_
    refine v_cv rfl rfl rfl rfl (by decide) ⟨⟨rfl, rfl⟩, by decide, rfl⟩ (Nat.le_of_ble_eq_true rfl) (Nat.le_of_ble_eq_true rfl) ?_
    refine v_bip rfl (by decide) ?_
    refine q_istore_n rfl (by decide) ?_
    refine q_iload_n rfl rfl ?_
    refine v_if_lt_f (t := 44) rfl (by decide) (by decide) ?_
    refine q_aload_n rfl rfl ?_
    refine q_iconst rfl ?_
    refine v_cv rfl rfl rfl rfl (by decide) ⟨⟨rfl, rfl⟩, by decide, rfl⟩ (Nat.le_of_ble_eq_true rfl) (Nat.le_of_ble_eq_true rfl) ?_
    refine q_aload_n rfl rfl ?_
    refine v_gi (z := 3) (v := c 1 3 + 16) rfl rfl rfl (by decide) rfl rfl (up_e rfl) ?_
    refine q_iload_n rfl rfl ?_
    refine v_iadd (v := c 1 3 + 17) rfl (by omega) ?_
    refine q_aload_n rfl rfl ?_
    refine v_gr (t := 2) rfl rfl rfl (by decide) rfl ?_
    refine v_al rfl rfl (by decide) (by decide) ?_
    refine v_ic_gt_f (t := 18) rfl (by decide) (by omega) ?_
    refine q_iconst rfl ?_
    refine q_goto (t := 19) rfl (by decide) ?_
    refine v_zret rfl rfl (by decide) ?_
    refine bk_inl ?_
    refine v_if_eq_f (t := 44) rfl (by decide) (by decide) ?_
    refine q_aload_n rfl rfl ?_
    refine v_gr (t := 2) rfl rfl rfl (by decide) rfl ?_
    refine q_aload_n rfl rfl ?_
    refine v_gi (z := 3) (v := c 1 3 + 16) rfl rfl rfl (by decide) rfl rfl (up_e rfl) ?_
    refine q_iload_n rfl rfl ?_
    refine q_iload_n rfl rfl ?_
    refine v_ishr (m := 16777216) (v := (x5 / 16777216)) 24 rfl (by omega) rfl (by decide) (by decide) rfl ?_
    refine v_i2b rfl ?_
    refine v_bs rfl rfl (by decide) (by decide) (by omega) ?_
    refine q_aload_n rfl rfl ?_
    refine q_dup rfl rfl ?_
    refine v_gi (z := 3) (v := c 1 3 + 16) rfl rfl rfl (by decide) rfl rfl ((up_c (by decide)).trans (up_e rfl)) ?_
    refine q_iconst rfl ?_
    refine v_iadd (v := c 1 3 + 17) rfl (by omega) ?_
    refine v_pi (z := 3) rfl rfl rfl (by decide) rfl rfl rfl (by decide) ?_
    refine v_iinc (v := 16) rfl rfl (by decide) (by decide) ?_
    refine q_goto (t := 3) rfl (by decide) ?_
    refine q_iload_n rfl rfl ?_
    refine v_if_lt_f (t := 44) rfl (by decide) (by decide) ?_
    refine q_aload_n rfl rfl ?_
    refine q_iconst rfl ?_
    refine v_cv rfl rfl rfl rfl (by decide) ⟨⟨rfl, rfl⟩, by decide, rfl⟩ (Nat.le_of_ble_eq_true rfl) (Nat.le_of_ble_eq_true rfl) ?_
    refine q_aload_n rfl rfl ?_
    refine v_gi (z := 3) (v := c 1 3 + 17) rfl rfl rfl (by decide) rfl rfl (up_e rfl) ?_
    refine q_iload_n rfl rfl ?_
    refine v_iadd (v := c 1 3 + 18) rfl (by omega) ?_
    refine q_aload_n rfl rfl ?_
    refine v_gr (t := 2) rfl rfl rfl (by decide) rfl ?_
    refine v_al rfl rfl (by decide) (by decide) ?_
    refine v_ic_gt_f (t := 18) rfl (by decide) (by omega) ?_
    refine q_iconst rfl ?_
    refine q_goto (t := 19) rfl (by decide) ?_
    refine v_zret rfl rfl (by decide) ?_
    refine bk_inl ?_
    refine v_if_eq_f (t := 44) rfl (by decide) (by decide) ?_
    refine q_aload_n rfl rfl ?_
    refine v_gr (t := 2) rfl rfl rfl (by decide) rfl ?_
    refine q_aload_n rfl rfl ?_
    refine v_gi (z := 3) (v := c 1 3 + 17) rfl rfl rfl (by decide) rfl rfl (up_e rfl) ?_
    refine q_iload_n rfl rfl ?_
    refine q_iload_n rfl rfl ?_
    refine v_ishr (m := 65536) (v := (x5 / 65536)) 16 rfl (by omega) rfl (by decide) (by decide) rfl ?_
    refine v_i2b rfl ?_
    refine v_bs rfl rfl (by decide) (by decide) (by omega) ?_
    refine q_aload_n rfl rfl ?_
    refine q_dup rfl rfl ?_
    refine v_gi (z := 3) (v := c 1 3 + 17) rfl rfl rfl (by decide) rfl rfl ((up_c (by decide)).trans (up_e rfl)) ?_
    refine q_iconst rfl ?_
    refine v_iadd (v := c 1 3 + 18) rfl (by omega) ?_
    refine v_pi (z := 3) rfl rfl rfl (by decide) rfl rfl rfl (by decide) ?_
    refine v_iinc (v := 8) rfl rfl (by decide) (by decide) ?_
    refine q_goto (t := 3) rfl (by decide) ?_
    refine q_iload_n rfl rfl ?_
    refine v_if_lt_f (t := 44) rfl (by decide) (by decide) ?_
    refine q_aload_n rfl rfl ?_
    refine q_iconst rfl ?_
    refine v_cv rfl rfl rfl rfl (by decide) ⟨⟨rfl, rfl⟩, by decide, rfl⟩ (Nat.le_of_ble_eq_true rfl) (Nat.le_of_ble_eq_true rfl) ?_
    refine q_aload_n rfl rfl ?_
    refine v_gi (z := 3) (v := c 1 3 + 18) rfl rfl rfl (by decide) rfl rfl (up_e rfl) ?_
    refine q_iload_n rfl rfl ?_
    refine v_iadd (v := c 1 3 + 19) rfl (by omega) ?_
    refine q_aload_n rfl rfl ?_
    refine v_gr (t := 2) rfl rfl rfl (by decide) rfl ?_
    refine v_al rfl rfl (by decide) (by decide) ?_
    refine v_ic_gt_f (t := 18) rfl (by decide) (by omega) ?_
    refine q_iconst rfl ?_
    refine q_goto (t := 19) rfl (by decide) ?_
    refine v_zret rfl rfl (by decide) ?_
    refine bk_inl ?_
    refine v_if_eq_f (t := 44) rfl (by decide) (by decide) ?_
    refine q_aload_n rfl rfl ?_
    refine v_gr (t := 2) rfl rfl rfl (by decide) rfl ?_
    refine q_aload_n rfl rfl ?_
    refine v_gi (z := 3) (v := c 1 3 + 18) rfl rfl rfl (by decide) rfl rfl (up_e rfl) ?_
    refine q_iload_n rfl rfl ?_
    refine q_iload_n rfl rfl ?_
    refine v_ishr (m := 256) (v := (x5 / 256)) 8 rfl (by omega) rfl (by decide) (by decide) rfl ?_
    refine v_i2b rfl ?_
    refine v_bs rfl rfl (by decide) (by decide) (by omega) ?_
    refine q_aload_n rfl rfl ?_
    refine q_dup rfl rfl ?_
    refine v_gi (z := 3) (v := c 1 3 + 18) rfl rfl rfl (by decide) rfl rfl ((up_c (by decide)).trans (up_e rfl)) ?_
    refine q_iconst rfl ?_
    refine v_iadd (v := c 1 3 + 19) rfl (by omega) ?_
    refine v_pi (z := 3) rfl rfl rfl (by decide) rfl rfl rfl (by decide) ?_
    refine v_iinc (v := 0) rfl rfl (by decide) (by decide) ?_
    refine q_goto (t := 3) rfl (by decide) ?_
    refine q_iload_n rfl rfl ?_
    refine v_if_lt_f (t := 44) rfl (by decide) (by decide) ?_
    refine q_aload_n rfl rfl ?_
    refine q_iconst rfl ?_
    refine v_cv rfl rfl rfl rfl (by decide) ⟨⟨rfl, rfl⟩, by decide, rfl⟩ (Nat.le_of_ble_eq_true rfl) (Nat.le_of_ble_eq_true rfl) ?_
    refine q_aload_n rfl rfl ?_
    refine v_gi (z := 3) (v := c 1 3 + 19) rfl rfl rfl (by decide) rfl rfl (up_e rfl) ?_
    refine q_iload_n rfl rfl ?_
    refine v_iadd (v := c 1 3 + 20) rfl (by omega) ?_
    refine q_aload_n rfl rfl ?_
    refine v_gr (t := 2) rfl rfl rfl (by decide) rfl ?_
    refine v_al rfl rfl (by decide) (by decide) ?_
    refine v_ic_gt_f (t := 18) rfl (by decide) (by omega) ?_
    refine q_iconst rfl ?_
    refine q_goto (t := 19) rfl (by decide) ?_
    refine v_zret rfl rfl (by decide) ?_
    refine bk_inl ?_
    refine v_if_eq_f (t := 44) rfl (by decide) (by decide) ?_
    refine q_aload_n rfl rfl ?_
    refine v_gr (t := 2) rfl rfl rfl (by decide) rfl ?_
    refine q_aload_n rfl rfl ?_
    refine v_gi (z := 3) (v := c 1 3 + 19) rfl rfl rfl (by decide) rfl rfl (up_e rfl) ?_
    refine q_iload_n rfl rfl ?_
    refine q_iload_n rfl rfl ?_
    refine v_ishr (m := 1) (v := x5) 0 rfl (by omega) rfl (by decide) (by decide) (by omega) ?_
    refine v_i2b rfl ?_
    refine v_bs rfl rfl (by decide) (by decide) (by omega) ?_
    refine q_aload_n rfl rfl ?_
    refine q_dup rfl rfl ?_
    refine v_gi (z := 3) (v := c 1 3 + 19) rfl rfl rfl (by decide) rfl rfl ((up_c (by decide)).trans (up_e rfl)) ?_
    refine q_iconst rfl ?_
    refine v_iadd (v := c 1 3 + 20) rfl (by omega) ?_
    refine v_pi (z := 3) rfl rfl rfl (by decide) rfl rfl rfl (by decide) ?_
    refine v_iinc (v := (-8)) rfl rfl (by decide) (by decide) ?_
    refine Wp_ls [(2, vi (-8)), (0, .ref 1), (1, vi x5)] (lsub_cons rfl (lsub_cons rfl (lsub_cons rfl lsub_nil))) ?_
    refine q_goto (t := 3) rfl (by decide) ?_
    refine q_iload_n rfl rfl ?_
    refine v_if_lt_t (t := 44) rfl (by decide) (by decide) ?_
    refine q_vret rfl rfl ?_
    refine bk_inl ?_
    refine q_aload_n rfl rfl ?_
    refine v_gr (t := 1) rfl rfl rfl (by decide) rfl ?_
    refine v_gi (z := 3) (v := c 1 3 + 20) rfl rfl rfl (by decide) rfl rfl (up_e rfl) ?_
    refine q_iret rfl rfl ?_
    refine bk_inl ?_
    refine q_pop rfl rfl ?_
    refine q_aload_n rfl rfl ?_
    refine q_aload_n rfl rfl ?_
    refine q_iload rfl rfl ?_
    refine q_iconst rfl ?_
    refine v_iadd (v := (i0 : Int) + 1) rfl rfl ?_
    refine v_scr (j := i0 + 1) rfl (by omega) (by omega) hL hx1 ?_
    refine q_aload_n rfl rfl ?_
    refine q_iload rfl rfl ?_
    refine q_iconst rfl ?_
    refine v_iadd (v := (i0 : Int) + 2) rfl rfl ?_
    refine v_scr (j := i0 + 2) rfl (by omega) (by omega) hL hx2 ?_
    refine q_aload_n rfl rfl ?_
    refine q_iload rfl rfl ?_
    refine q_iconst rfl ?_
    refine v_iadd (v := (i0 : Int) + 3) rfl rfl ?_
    refine v_scr (j := i0 + 3) rfl (by omega) (by omega) hL hx3 ?_
    refine q_aload_n rfl rfl ?_
    refine q_iload rfl rfl ?_
    refine q_iconst rfl ?_
    refine v_iadd (v := (i0 : Int) + 4) rfl rfl ?_
    refine v_scr (j := i0 + 4) rfl (by omega) (by omega) hL hx4 ?_
    refine q_aload_n rfl rfl ?_
    refine q_iload rfl rfl ?_
    refine q_iconst rfl ?_
    refine v_iadd (v := (i0 : Int) + 5) rfl rfl ?_
    refine v_scr (j := i0 + 5) rfl (by omega) (by omega) hL hx5 ?_
    refine v_cv rfl rfl rfl rfl (by decide) ⟨⟨rfl, rfl⟩, by decide, rfl⟩ (Nat.le_of_ble_eq_true rfl) (Nat.le_of_ble_eq_true rfl) ?_
    refine q_aload_n rfl rfl ?_
    refine q_iconst rfl ?_
    refine v_pi (z := 0) rfl rfl rfl (by decide) rfl rfl rfl (by decide) ?_
    refine q_aload_n rfl rfl ?_
    refine v_gi (z := 2) (v := c 41 2) rfl rfl rfl (by decide) rfl rfl ((up_n (by decide)).trans ((up_c (by decide)).trans ((up_c (by decide)).trans ((up_c (by decide)).trans ((up_c (by decide)).trans ((up_c (by decide)).trans ((up_c (by decide)).trans ((up_c (by decide)).trans ((up_c (by decide)).trans ((up_c (by decide)).trans ((up_c (by decide)).trans ((up_c (by decide)).trans ((up_c (by decide)).trans ((up_c (by decide)).trans ((up_c (by decide)).trans ((up_c (by decide)).trans ((up_c (by decide)).trans ((up_c (by decide)).trans ((up_c (by decide)).trans ((up_c (by decide)).trans ((up_c (by decide)).trans ((up_c (by decide)).trans ((up_c (by decide)).trans ((up_c (by decide)).trans ((up_c (by decide)).trans ((up_c (by decide)).trans ((up_c (by decide)).trans ((up_c (by decide)).trans ((up_c (by decide)).trans ((up_c (by decide)).trans ((up_c (by decide)).trans ((up_c (by decide)).trans ((up_c (by decide)).trans ((up_c (by decide)).trans ((up_c (by decide)).trans ((up_c (by decide)).trans ((up_c (by decide)).trans ((up_c (by decide)).trans ((up_c (by decide)).trans ((up_c (by decide)).trans (up_c (by decide)))))))))))))))))))))))))))))))))))))))))) ?_
    refine v_bip rfl (by decide) ?_
    refine v_iadd (v := c 41 2 + 20) rfl rfl ?_
    refine v_sip rfl (by decide) ?_
    refine v_ic_le_t (t := 20) rfl (by decide) (by omega) ?_
    refine q_iconst rfl ?_
    refine q_istore rfl (by decide) ?_
    refine q_iload rfl rfl ?_
    refine v_bip rfl (by decide) ?_
    refine v_ic_ge_f (t := 120) rfl (by decide) (by decide) ?_
    refine q_iload rfl rfl ?_
    refine q_iconst rfl ?_
    refine v_ic_ge_f (t := 40) rfl (by decide) (by decide) ?_
    refine q_iload_n rfl rfl ?_
    refine q_goto (t := 76) rfl (by decide) ?_
    refine q_istore rfl (by decide) ?_
    refine q_aload_n rfl rfl ?_
    refine v_gr (t := 43) rfl rfl rfl (by decide) rfl ?_
    refine q_aload_n rfl rfl ?_
    refine v_gi (z := 2) (v := c 41 2) rfl rfl rfl (by decide) rfl rfl ((up_n (by decide)).trans ((up_c (by decide)).trans ((up_c (by decide)).trans ((up_c (by decide)).trans ((up_c (by decide)).trans ((up_c (by decide)).trans ((up_c (by decide)).trans ((up_c (by decide)).trans ((up_c (by decide)).trans ((up_c (by decide)).trans ((up_c (by decide)).trans ((up_c (by decide)).trans ((up_c (by decide)).trans ((up_c (by decide)).trans ((up_c (by decide)).trans ((up_c (by decide)).trans ((up_c (by decide)).trans ((up_c (by decide)).trans ((up_c (by decide)).trans ((up_c (by decide)).trans ((up_c (by decide)).trans ((up_c (by decide)).trans ((up_c (by decide)).trans ((up_c (by decide)).trans ((up_c (by decide)).trans ((up_c (by decide)).trans ((up_c (by decide)).trans ((up_c (by decide)).trans ((up_c (by decide)).trans ((up_c (by decide)).trans ((up_c (by decide)).trans ((up_c (by decide)).trans ((up_c (by decide)).trans ((up_c (by decide)).trans ((up_c (by decide)).trans ((up_c (by decide)).trans ((up_c (by decide)).trans ((up_c (by decide)).trans ((up_c (by decide)).trans ((up_c (by decide)).trans (up_c (by decide)))))))))))))))))))))))))))))))))))))))))) ?_
    refine q_iload rfl rfl ?_
    refine v_bip rfl (by decide) ?_
    refine v_bip rfl (by decide) ?_
    refine q_iload rfl rfl ?_
    refine q_iconst rfl ?_
    refine v_irem (v := 0) rfl (by omega) (by decide) ?_
    refine v_imul (v := 0) rfl (by decide) ?_
    refine v_isub (v := 24) rfl (by decide) ?_
    refine v_ishr (m := 16777216) (v := (x1 / 16777216)) 24 rfl (by omega) rfl (by decide) (by decide) rfl ?_
    refine v_sip rfl (by decide) ?_
    refine v_and8 (v := ((x1 / 16777216) % 256)) rfl rfl ?_
    refine v_is rfl rfl (by decide) (by decide) (by omega) ?_
    refine q_aload_n rfl rfl ?_
    refine q_dup rfl rfl ?_
    refine v_gi (z := 2) (v := c 41 2) rfl rfl rfl (by decide) rfl rfl ((up_c (by decide)).trans ((up_n (by decide)).trans ((up_c (by decide)).trans ((up_c (by decide)).trans ((up_c (by decide)).trans ((up_c (by decide)).trans ((up_c (by decide)).trans ((up_c (by decide)).trans ((up_c (by decide)).trans ((up_c (by decide)).trans ((up_c (by decide)).trans ((up_c (by decide)).trans ((up_c (by decide)).trans ((up_c (by decide)).trans ((up_c (by decide)).trans ((up_c (by decide)).trans ((up_c (by decide)).trans ((up_c (by decide)).trans ((up_c (by decide)).trans ((up_c (by decide)).trans ((up_c (by decide)).trans ((up_c (by decide)).trans ((up_c (by decide)).trans ((up_c (by decide)).trans ((up_c (by decide)).trans ((up_c (by decide)).trans ((up_c (by decide)).trans ((up_c (by decide)).trans ((up_c (by decide)).trans ((up_c (by decide)).trans ((up_c (by decide)).trans ((up_c (by decide)).trans ((up_c (by decide)).trans ((up_c (by decide)).trans ((up_c (by decide)).trans ((up_c (by decide)).trans ((up_c (by decide)).trans ((up_c (by decide)).trans ((up_c (by decide)).trans ((up_c (by decide)).trans ((up_c (by decide)).trans (up_c (by decide))))))))))))))))))))))))))))))))))))))))))) ?_
    refine q_iconst rfl ?_
    refine v_iadd (v := c 41 2 + 1) rfl rfl ?_
    refine v_pi (z := 2) rfl rfl rfl (by decide) rfl rfl rfl (by decide) ?_
    refine v_iinc (v := 1) rfl rfl (by decide) (by decide) ?_
    refine q_goto (t := 23) rfl (by decide) ?_
    refine q_iload rfl rfl ?_
    refine v_bip rfl (by decide) ?_
    refine v_ic_ge_f (t := 120) rfl (by decide) (by decide) ?_
    refine q_iload rfl rfl ?_
    refine q_iconst rfl ?_
    refine v_ic_ge_f (t := 40) rfl (by decide) (by decide) ?_
    refine q_iload_n rfl rfl ?_
    refine q_goto (t := 76) rfl (by decide) ?_
    refine q_istore rfl (by decide) ?_
    refine q_aload_n rfl rfl ?_
    refine v_gr (t := 43) rfl rfl rfl (by decide) rfl ?_
    refine q_aload_n rfl rfl ?_
    refine v_gi (z := 2) (v := c 41 2 + 1) rfl rfl rfl (by decide) rfl rfl (up_e rfl) ?_
    refine q_iload rfl rfl ?_
    refine v_bip rfl (by decide) ?_
    refine v_bip rfl (by decide) ?_
    refine q_iload rfl rfl ?_
    refine q_iconst rfl ?_
    refine v_irem (v := 1) rfl (by omega) (by decide) ?_
    refine v_imul (v := 8) rfl (by decide) ?_
    refine v_isub (v := 16) rfl (by decide) ?_
    refine v_ishr (m := 65536) (v := (x1 / 65536)) 16 rfl (by omega) rfl (by decide) (by decide) rfl ?_
    refine v_sip rfl (by decide) ?_
    refine v_and8 (v := ((x1 / 65536) % 256)) rfl rfl ?_
    refine v_is rfl rfl (by decide) (by decide) (by omega) ?_
    refine q_aload_n rfl rfl ?_
    refine q_dup rfl rfl ?_
    refine v_gi (z := 2) (v := c 41 2 + 1) rfl rfl rfl (by decide) rfl rfl ((up_c (by decide)).trans (up_e rfl)) ?_
    refine q_iconst rfl ?_
    refine v_iadd (v := c 41 2 + 2) rfl (by omega) ?_
    refine v_pi (z := 2) rfl rfl rfl (by decide) rfl rfl rfl (by decide) ?_
    refine v_iinc (v := 2) rfl rfl (by decide) (by decide) ?_
    refine Wp_ls [(6, vi 2), (7, vi x1), (0, .ref 41), (1, vi x1), (2, vi x2), (3, vi x3), (4, vi x4), (5, vi x5)] (lsub_cons rfl (lsub_cons rfl (lsub_cons rfl (lsub_cons rfl (lsub_cons rfl (lsub_cons rfl (lsub_cons rfl (lsub_cons rfl lsub_nil)))))))) ?_
    refine q_goto (t := 23) rfl (by decide) ?_
    refine q_iload rfl rfl ?_
    refine v_bip rfl (by decide) ?_
    refine v_ic_ge_f (t := 120) rfl (by decide) (by decide) ?_
    refine q_iload rfl rfl ?_
    refine q_iconst rfl ?_
    refine v_ic_ge_f (t := 40) rfl (by decide) (by decide) ?_
    refine q_iload_n rfl rfl ?_
    refine q_goto (t := 76) rfl (by decide) ?_
    refine q_istore rfl (by decide) ?_
    refine q_aload_n rfl rfl ?_
    refine v_gr (t := 43) rfl rfl rfl (by decide) rfl ?_
    refine q_aload_n rfl rfl ?_
    refine v_gi (z := 2) (v := c 41 2 + 2) rfl rfl rfl (by decide) rfl rfl (up_e rfl) ?_
    refine q_iload rfl rfl ?_
    refine v_bip rfl (by decide) ?_
    refine v_bip rfl (by decide) ?_
    refine q_iload rfl rfl ?_
    refine q_iconst rfl ?_
    refine v_irem (v := 2) rfl (by omega) (by decide) ?_
    refine v_imul (v := 16) rfl (by decide) ?_
    refine v_isub (v := 8) rfl (by decide) ?_
    refine v_ishr (m := 256) (v := (x1 / 256)) 8 rfl (by omega) rfl (by decide) (by decide) rfl ?_
    refine v_sip rfl (by decide) ?_
    refine v_and8 (v := ((x1 / 256) % 256)) rfl rfl ?_
    refine v_is rfl rfl (by decide) (by decide) (by omega) ?_
    refine q_aload_n rfl rfl ?_
    refine q_dup rfl rfl ?_
    refine v_gi (z := 2) (v := c 41 2 + 2) rfl rfl rfl (by decide) rfl rfl ((up_c (by decide)).trans (up_e rfl)) ?_
    refine q_iconst rfl ?_
    refine v_iadd (v := c 41 2 + 3) rfl (by omega) ?_
    refine v_pi (z := 2) rfl rfl rfl (by decide) rfl rfl rfl (by decide) ?_
    refine v_iinc (v := 3) rfl rfl (by decide) (by decide) ?_
    refine q_goto (t := 23) rfl (by decide) ?_
    refine q_iload rfl rfl ?_
    refine v_bip rfl (by decide) ?_
    refine v_ic_ge_f (t := 120) rfl (by decide) (by decide) ?_
    refine q_iload rfl rfl ?_
    refine q_iconst rfl ?_
    refine v_ic_ge_f (t := 40) rfl (by decide) (by decide) ?_
    refine q_iload_n rfl rfl ?_
    refine q_goto (t := 76) rfl (by decide) ?_
    refine q_istore rfl (by decide) ?_
    refine q_aload_n rfl rfl ?_
    refine v_gr (t := 43) rfl rfl rfl (by decide) rfl ?_
    refine q_aload_n rfl rfl ?_
    refine v_gi (z := 2) (v := c 41 2 + 3) rfl rfl rfl (by decide) rfl rfl (up_e rfl) ?_
    refine q_iload rfl rfl ?_
    refine v_bip rfl (by decide) ?_
    refine v_bip rfl (by decide) ?_
    refine q_iload rfl rfl ?_
    refine q_iconst rfl ?_
    refine v_irem (v := 3) rfl (by omega) (by decide) ?_
    refine v_imul (v := 24) rfl (by decide) ?_
    refine v_isub (v := 0) rfl (by decide) ?_
    refine v_ishr (m := 1) (v := x1) 0 rfl (by omega) rfl (by decide) (by decide) (by omega) ?_
    refine v_sip rfl (by decide) ?_
    refine v_and8 (v := (x1 % 256)) rfl rfl ?_
    refine v_is rfl rfl (by decide) (by decide) (by omega) ?_
    refine q_aload_n rfl rfl ?_
    refine q_dup rfl rfl ?_
    refine v_gi (z := 2) (v := c 41 2 + 3) rfl rfl rfl (by decide) rfl rfl ((up_c (by decide)).trans (up_e rfl)) ?_
    refine q_iconst rfl ?_
    refine v_iadd (v := c 41 2 + 4) rfl (by omega) ?_
    refine v_pi (z := 2) rfl rfl rfl (by decide) rfl rfl rfl (by decide) ?_
    refine v_iinc (v := 4) rfl rfl (by decide) (by decide) ?_
    refine q_goto (t := 23) rfl (by decide) ?_
    refine q_iload rfl rfl ?_
    refine v_bip rfl (by decide) ?_
    refine v_ic_ge_f (t := 120) rfl (by decide) (by decide) ?_
    refine q_iload rfl rfl ?_
    refine q_iconst rfl ?_
    refine v_ic_ge_t (t := 40) rfl (by decide) (by decide) ?_
    refine q_iload rfl rfl ?_
    refine v_bip rfl (by decide) ?_
    refine v_ic_ge_f (t := 51) rfl (by decide) (by decide) ?_
    refine q_iload_n rfl rfl ?_
    refine q_goto (t := 76) rfl (by decide) ?_
    refine q_istore rfl (by decide) ?_
    refine Wp_ls [(7, vi x2), (6, vi 4), (0, .ref 41), (1, vi x1), (2, vi x2), (3, vi x3), (4, vi x4), (5, vi x5)] (lsub_cons rfl (lsub_cons rfl (lsub_cons rfl (lsub_cons rfl (lsub_cons rfl (lsub_cons rfl (lsub_cons rfl (lsub_cons rfl lsub_nil)))))))) ?_
    refine q_aload_n rfl rfl ?_
    refine v_gr (t := 43) rfl rfl rfl (by decide) rfl ?_
    refine q_aload_n rfl rfl ?_
    refine v_gi (z := 2) (v := c 41 2 + 4) rfl rfl rfl (by decide) rfl rfl (up_e rfl) ?_
    refine q_iload rfl rfl ?_
    refine v_bip rfl (by decide) ?_
    refine v_bip rfl (by decide) ?_
    refine q_iload rfl rfl ?_
    refine q_iconst rfl ?_
    refine v_irem (v := 0) rfl (by omega) (by decide) ?_
    refine v_imul (v := 0) rfl (by decide) ?_
    refine v_isub (v := 24) rfl (by decide) ?_
    refine v_ishr (m := 16777216) (v := (x2 / 16777216)) 24 rfl (by omega) rfl (by decide) (by decide) rfl ?_
    refine v_sip rfl (by decide) ?_
    refine v_and8 (v := ((x2 / 16777216) % 256)) rfl rfl ?_
    refine v_is rfl rfl (by decide) (by decide) (by omega) ?_
    refine q_aload_n rfl rfl ?_
    refine q_dup rfl rfl ?_
    refine v_gi (z := 2) (v := c 41 2 + 4) rfl rfl rfl (by decide) rfl rfl ((up_c (by decide)).trans (up_e rfl)) ?_
    refine q_iconst rfl ?_
    refine v_iadd (v := c 41 2 + 5) rfl (by omega) ?_
    refine v_pi (z := 2) rfl rfl rfl (by decide) rfl rfl rfl (by decide) ?_
    refine v_iinc (v := 5) rfl rfl (by decide) (by decide) ?_
    refine q_goto (t := 23) rfl (by decide) ?_
    refine q_iload rfl rfl ?_
    refine v_bip rfl (by decide) ?_
    refine v_ic_ge_f (t := 120) rfl (by decide) (by decide) ?_
    refine q_iload rfl rfl ?_
    refine q_iconst rfl ?_
    refine v_ic_ge_t (t := 40) rfl (by decide) (by decide) ?_
    refine q_iload rfl rfl ?_
    refine v_bip rfl (by decide) ?_
    refine v_ic_ge_f (t := 51) rfl (by decide) (by decide) ?_
    refine q_iload_n rfl rfl ?_
    refine q_goto (t := 76) rfl (by decide) ?_
    refine q_istore rfl (by decide) ?_
    refine q_aload_n rfl rfl ?_
    refine v_gr (t := 43) rfl rfl rfl (by decide) rfl ?_
    refine q_aload_n rfl rfl ?_
    refine v_gi (z := 2) (v := c 41 2 + 5) rfl rfl rfl (by decide) rfl rfl (up_e rfl) ?_
    refine q_iload rfl rfl ?_
    refine v_bip rfl (by decide) ?_
    refine v_bip rfl (by decide) ?_
    refine q_iload rfl rfl ?_
    refine q_iconst rfl ?_
    refine v_irem (v := 1) rfl (by omega) (by decide) ?_
    refine v_imul (v := 8) rfl (by decide) ?_
    refine v_isub (v := 16) rfl (by decide) ?_
    refine v_ishr (m := 65536) (v := (x2 / 65536)) 16 rfl (by omega) rfl (by decide) (by decide) rfl ?_
    refine v_sip rfl (by decide) ?_
    refine v_and8 (v := ((x2 / 65536) % 256)) rfl rfl ?_
    refine v_is rfl rfl (by decide) (by decide) (by omega) ?_
    refine q_aload_n rfl rfl ?_
    refine q_dup rfl rfl ?_
    refine v_gi (z := 2) (v := c 41 2 + 5) rfl rfl rfl (by decide) rfl rfl ((up_c (by decide)).trans (up_e rfl)) ?_
    refine q_iconst rfl ?_
    refine v_iadd (v := c 41 2 + 6) rfl (by omega) ?_
    refine v_pi (z := 2) rfl rfl rfl (by decide) rfl rfl rfl (by decide) ?_
    refine v_iinc (v := 6) rfl rfl (by decide) (by decide) ?_
    refine q_goto (t := 23) rfl (by decide) ?_
    refine q_iload rfl rfl ?_
    refine v_bip rfl (by decide) ?_
    refine v_ic_ge_f (t := 120) rfl (by decide) (by decide) ?_
    refine q_iload rfl rfl ?_
    refine q_iconst rfl ?_
    refine v_ic_ge_t (t := 40) rfl (by decide) (by decide) ?_
    refine q_iload rfl rfl ?_
    refine v_bip rfl (by decide) ?_
    refine v_ic_ge_f (t := 51) rfl (by decide) (by decide) ?_
    refine q_iload_n rfl rfl ?_
    refine q_goto (t := 76) rfl (by decide) ?_
    refine q_istore rfl (by decide) ?_
    refine q_aload_n rfl rfl ?_
    refine v_gr (t := 43) rfl rfl rfl (by decide) rfl ?_
    refine q_aload_n rfl rfl ?_
    refine v_gi (z := 2) (v := c 41 2 + 6) rfl rfl rfl (by decide) rfl rfl (up_e rfl) ?_
    refine q_iload rfl rfl ?_
    refine v_bip rfl (by decide) ?_
    refine v_bip rfl (by decide) ?_
    refine q_iload rfl rfl ?_
    refine q_iconst rfl ?_
    refine v_irem (v := 2) rfl (by omega) (by decide) ?_
    refine v_imul (v := 16) rfl (by decide) ?_
    refine v_isub (v := 8) rfl (by decide) ?_
    refine v_ishr (m := 256) (v := (x2 / 256)) 8 rfl (by omega) rfl (by decide) (by decide) rfl ?_
    refine v_sip rfl (by decide) ?_
    refine v_and8 (v := ((x2 / 256) % 256)) rfl rfl ?_
    refine v_is rfl rfl (by decide) (by decide) (by omega) ?_
    refine q_aload_n rfl rfl ?_
    refine q_dup rfl rfl ?_
    refine v_gi (z := 2) (v := c 41 2 + 6) rfl rfl rfl (by decide) rfl rfl ((up_c (by decide)).trans (up_e rfl)) ?_
    refine q_iconst rfl ?_
    refine v_iadd (v := c 41 2 + 7) rfl (by omega) ?_
    refine v_pi (z := 2) rfl rfl rfl (by decide) rfl rfl rfl (by decide) ?_
    refine v_iinc (v := 7) rfl rfl (by decide) (by decide) ?_
    refine Wp_ls [(6, vi 7), (7, vi x2), (0, .ref 41), (1, vi x1), (2, vi x2), (3, vi x3), (4, vi x4), (5, vi x5)] (lsub_cons rfl (lsub_cons rfl (lsub_cons rfl (lsub_cons rfl (lsub_cons rfl (lsub_cons rfl (lsub_cons rfl (lsub_cons rfl lsub_nil)))))))) ?_
    refine q_goto (t := 23) rfl (by decide) ?_
    refine q_iload rfl rfl ?_
    refine v_bip rfl (by decide) ?_
    refine v_ic_ge_f (t := 120) rfl (by decide) (by decide) ?_
    refine q_iload rfl rfl ?_
    refine q_iconst rfl ?_
    refine v_ic_ge_t (t := 40) rfl (by decide) (by decide) ?_
    refine q_iload rfl rfl ?_
    refine v_bip rfl (by decide) ?_
    refine v_ic_ge_f (t := 51) rfl (by decide) (by decide) ?_
    refine q_iload_n rfl rfl ?_
    refine q_goto (t := 76) rfl (by decide) ?_
    refine q_istore rfl (by decide) ?_
    refine q_aload_n rfl rfl ?_
    refine v_gr (t := 43) rfl rfl rfl (by decide) rfl ?_
    refine q_aload_n rfl rfl ?_
    refine v_gi (z := 2) (v := c 41 2 + 7) rfl rfl rfl (by decide) rfl rfl (up_e rfl) ?_
    refine q_iload rfl rfl ?_
    refine v_bip rfl (by decide) ?_
    refine v_bip rfl (by decide) ?_
    refine q_iload rfl rfl ?_
    refine q_iconst rfl ?_
    refine v_irem (v := 3) rfl (by omega) (by decide) ?_
    refine v_imul (v := 24) rfl (by decide) ?_
    refine v_isub (v := 0) rfl (by decide) ?_
    refine v_ishr (m := 1) (v := x2) 0 rfl (by omega) rfl (by decide) (by decide) (by omega) ?_
    refine v_sip rfl (by decide) ?_
    refine v_and8 (v := (x2 % 256)) rfl rfl ?_
    refine v_is rfl rfl (by decide) (by decide) (by omega) ?_
    refine q_aload_n rfl rfl ?_
    refine q_dup rfl rfl ?_
    refine v_gi (z := 2) (v := c 41 2 + 7) rfl rfl rfl (by decide) rfl rfl ((up_c (by decide)).trans (up_e rfl)) ?_
    refine q_iconst rfl ?_
    refine v_iadd (v := c 41 2 + 8) rfl (by omega) ?_
    refine v_pi (z := 2) rfl rfl rfl (by decide) rfl rfl rfl (by decide) ?_
    refine v_iinc (v := 8) rfl rfl (by decide) (by decide) ?_
    refine q_goto (t := 23) rfl (by decide) ?_
    refine q_iload rfl rfl ?_
    refine v_bip rfl (by decide) ?_
    refine v_ic_ge_f (t := 120) rfl (by decide) (by decide) ?_
    refine q_iload rfl rfl ?_
    refine q_iconst rfl ?_
    refine v_ic_ge_t (t := 40) rfl (by decide) (by decide) ?_
    refine q_iload rfl rfl ?_
    refine v_bip rfl (by decide) ?_
    refine v_ic_ge_t (t := 51) rfl (by decide) (by decide) ?_
    refine q_iload rfl rfl ?_
    refine v_bip rfl (by decide) ?_
    refine v_ic_ge_f (t := 62) rfl (by decide) (by decide) ?_
    refine q_iload_n rfl rfl ?_
    refine q_goto (t := 76) rfl (by decide) ?_
    refine q_istore rfl (by decide) ?_
    refine q_aload_n rfl rfl ?_
    refine v_gr (t := 43) rfl rfl rfl (by decide) rfl ?_
    refine q_aload_n rfl rfl ?_
    refine v_gi (z := 2) (v := c 41 2 + 8) rfl rfl rfl (by decide) rfl rfl (up_e rfl) ?_
    refine q_iload rfl rfl ?_
    refine v_bip rfl (by decide) ?_
    refine v_bip rfl (by decide) ?_
    refine q_iload rfl rfl ?_
    refine q_iconst rfl ?_
    refine v_irem (v := 0) rfl (by omega) (by decide) ?_
    refine v_imul (v := 0) rfl (by decide) ?_
    refine v_isub (v := 24) rfl (by decide) ?_
    refine v_ishr (m := 16777216) (v := (x3 / 16777216)) 24 rfl (by omega) rfl (by decide) (by decide) rfl ?_
    refine v_sip rfl (by decide) ?_
    refine v_and8 (v := ((x3 / 16777216) % 256)) rfl rfl ?_
    refine v_is rfl rfl (by decide) (by decide) (by omega) ?_
    refine q_aload_n rfl rfl ?_
    refine q_dup rfl rfl ?_
    refine v_gi (z := 2) (v := c 41 2 + 8) rfl rfl rfl (by decide) rfl rfl ((up_c (by decide)).trans (up_e rfl)) ?_
    refine q_iconst rfl ?_
    refine v_iadd (v := c 41 2 + 9) rfl (by omega) ?_
    refine v_pi (z := 2) rfl rfl rfl (by decide) rfl rfl rfl (by decide) ?_
    refine v_iinc (v := 9) rfl rfl (by decide) (by decide) ?_
    refine q_goto (t := 23) rfl (by decide) ?_
    refine q_iload rfl rfl ?_
    refine v_bip rfl (by decide) ?_
    refine v_ic_ge_f (t := 120) rfl (by decide) (by decide) ?_
    refine q_iload rfl rfl ?_
    refine q_iconst rfl ?_
    refine v_ic_ge_t (t := 40) rfl (by decide) (by decide) ?_
    refine q_iload rfl rfl ?_
    refine v_bip rfl (by decide) ?_
    refine v_ic_ge_t (t := 51) rfl (by decide) (by decide) ?_
    refine q_iload rfl rfl ?_
    refine v_bip rfl (by decide) ?_
    refine v_ic_ge_f (t := 62) rfl (by decide) (by decide) ?_
    refine q_iload_n rfl rfl ?_
    refine q_goto (t := 76) rfl (by decide) ?_
    refine q_istore rfl (by decide) ?_
    refine Wp_ls [(7, vi x3), (6, vi 9), (0, .ref 41), (1, vi x1), (2, vi x2), (3, vi x3), (4, vi x4), (5, vi x5)] (lsub_cons rfl (lsub_cons rfl (lsub_cons rfl (lsub_cons rfl (lsub_cons rfl (lsub_cons rfl (lsub_cons rfl (lsub_cons rfl lsub_nil)))))))) ?_
    refine q_aload_n rfl rfl ?_
    refine v_gr (t := 43) rfl rfl rfl (by decide) rfl ?_
    refine q_aload_n rfl rfl ?_
    refine v_gi (z := 2) (v := c 41 2 + 9) rfl rfl rfl (by decide) rfl rfl (up_e rfl) ?_
    refine q_iload rfl rfl ?_
    refine v_bip rfl (by decide) ?_
    refine v_bip rfl (by decide) ?_
    refine q_iload rfl rfl ?_
    refine q_iconst rfl ?_
    refine v_irem (v := 1) rfl (by omega) (by decide) ?_
    refine v_imul (v := 8) rfl (by decide) ?_
    refine v_isub (v := 16) rfl (by decide) ?_
    refine v_ishr (m := 65536) (v := (x3 / 65536)) 16 rfl (by omega) rfl (by decide) (by decide) rfl ?_
    refine v_sip rfl (by decide) ?_
    refine v_and8 (v := ((x3 / 65536) % 256)) rfl rfl ?_
    refine v_is rfl rfl (by decide) (by decide) (by omega) ?_
    refine q_aload_n rfl rfl ?_
    refine q_dup rfl rfl ?_
    refine v_gi (z := 2) (v := c 41 2 + 9) rfl rfl rfl (by decide) rfl rfl ((up_c (by decide)).trans (up_e rfl)) ?_
    refine q_iconst rfl ?_
    refine v_iadd (v := c 41 2 + 10) rfl (by omega) ?_
    refine v_pi (z := 2) rfl rfl rfl (by decide) rfl rfl rfl (by decide) ?_
    refine v_iinc (v := 10) rfl rfl (by decide) (by decide) ?_
    refine q_goto (t := 23) rfl (by decide) ?_
    refine q_iload rfl rfl ?_
    refine v_bip rfl (by decide) ?_
    refine v_ic_ge_f (t := 120) rfl (by decide) (by decide) ?_
    refine q_iload rfl rfl ?_
    refine q_iconst rfl ?_
    refine v_ic_ge_t (t := 40) rfl (by decide) (by decide) ?_
    refine q_iload rfl rfl ?_
    refine v_bip rfl (by decide) ?_
    refine v_ic_ge_t (t := 51) rfl (by decide) (by decide) ?_
    refine q_iload rfl rfl ?_
    refine v_bip rfl (by decide) ?_
    refine v_ic_ge_f (t := 62) rfl (by decide) (by decide) ?_
    refine q_iload_n rfl rfl ?_
    refine q_goto (t := 76) rfl (by decide) ?_
    refine q_istore rfl (by decide) ?_
    refine q_aload_n rfl rfl ?_
    refine v_gr (t := 43) rfl rfl rfl (by decide) rfl ?_
    refine q_aload_n rfl rfl ?_
    refine v_gi (z := 2) (v := c 41 2 + 10) rfl rfl rfl (by decide) rfl rfl (up_e rfl) ?_
    refine q_iload rfl rfl ?_
    refine v_bip rfl (by decide) ?_
    refine v_bip rfl (by decide) ?_
    refine q_iload rfl rfl ?_
    refine q_iconst rfl ?_
    refine v_irem (v := 2) rfl (by omega) (by decide) ?_
    refine v_imul (v := 16) rfl (by decide) ?_
    refine v_isub (v := 8) rfl (by decide) ?_
    refine v_ishr (m := 256) (v := (x3 / 256)) 8 rfl (by omega) rfl (by decide) (by decide) rfl ?_
    refine v_sip rfl (by decide) ?_
    refine v_and8 (v := ((x3 / 256) % 256)) rfl rfl ?_
    refine v_is rfl rfl (by decide) (by decide) (by omega) ?_
    refine q_aload_n rfl rfl ?_
    refine q_dup rfl rfl ?_
    refine v_gi (z := 2) (v := c 41 2 + 10) rfl rfl rfl (by decide) rfl rfl ((up_c (by decide)).trans (up_e rfl)) ?_
    refine q_iconst rfl ?_
    refine v_iadd (v := c 41 2 + 11) rfl (by omega) ?_
    refine v_pi (z := 2) rfl rfl rfl (by decide) rfl rfl rfl (by decide) ?_
    refine v_iinc (v := 11) rfl rfl (by decide) (by decide) ?_
    refine q_goto (t := 23) rfl (by decide) ?_
    refine q_iload rfl rfl ?_
    refine v_bip rfl (by decide) ?_
    refine v_ic_ge_f (t := 120) rfl (by decide) (by decide) ?_
    refine q_iload rfl rfl ?_
    refine q_iconst rfl ?_
    refine v_ic_ge_t (t := 40) rfl (by decide) (by decide) ?_
    refine q_iload rfl rfl ?_
    refine v_bip rfl (by decide) ?_
    refine v_ic_ge_t (t := 51) rfl (by decide) (by decide) ?_
    refine q_iload rfl rfl ?_
    refine v_bip rfl (by decide) ?_
    refine v_ic_ge_f (t := 62) rfl (by decide) (by decide) ?_
    refine q_iload_n rfl rfl ?_
    refine q_goto (t := 76) rfl (by decide) ?_
    refine q_istore rfl (by decide) ?_
    refine q_aload_n rfl rfl ?_
    refine v_gr (t := 43) rfl rfl rfl (by decide) rfl ?_
    refine q_aload_n rfl rfl ?_
    refine v_gi (z := 2) (v := c 41 2 + 11) rfl rfl rfl (by decide) rfl rfl (up_e rfl) ?_
    refine q_iload rfl rfl ?_
    refine v_bip rfl (by decide) ?_
    refine v_bip rfl (by decide) ?_
    refine q_iload rfl rfl ?_
    refine q_iconst rfl ?_
    refine v_irem (v := 3) rfl (by omega) (by decide) ?_
    refine v_imul (v := 24) rfl (by decide) ?_
    refine v_isub (v := 0) rfl (by decide) ?_
    refine v_ishr (m := 1) (v := x3) 0 rfl (by omega) rfl (by decide) (by decide) (by omega) ?_
    refine v_sip rfl (by decide) ?_
    refine v_and8 (v := (x3 % 256)) rfl rfl ?_
    refine v_is rfl rfl (by decide) (by decide) (by omega) ?_
    refine q_aload_n rfl rfl ?_
    refine q_dup rfl rfl ?_
    refine v_gi (z := 2) (v := c 41 2 + 11) rfl rfl rfl (by decide) rfl rfl ((up_c (by decide)).trans (up_e rfl)) ?_
    refine q_iconst rfl ?_
    refine v_iadd (v := c 41 2 + 12) rfl (by omega) ?_
    refine v_pi (z := 2) rfl rfl rfl (by decide) rfl rfl rfl (by decide) ?_
    refine v_iinc (v := 12) rfl rfl (by decide) (by decide) ?_
    refine Wp_ls [(6, vi 12), (7, vi x3), (0, .ref 41), (1, vi x1), (2, vi x2), (3, vi x3), (4, vi x4), (5, vi x5)] (lsub_cons rfl (lsub_cons rfl (lsub_cons rfl (lsub_cons rfl (lsub_cons rfl (lsub_cons rfl (lsub_cons rfl (lsub_cons rfl lsub_nil)))))))) ?_
    refine q_goto (t := 23) rfl (by decide) ?_
    refine q_iload rfl rfl ?_
    refine v_bip rfl (by decide) ?_
    refine v_ic_ge_f (t := 120) rfl (by decide) (by decide) ?_
    refine q_iload rfl rfl ?_
    refine q_iconst rfl ?_
    refine v_ic_ge_t (t := 40) rfl (by decide) (by decide) ?_
    refine q_iload rfl rfl ?_
    refine v_bip rfl (by decide) ?_
    refine v_ic_ge_t (t := 51) rfl (by decide) (by decide) ?_
    refine q_iload rfl rfl ?_
    refine v_bip rfl (by decide) ?_
    refine v_ic_ge_t (t := 62) rfl (by decide) (by decide) ?_
    refine q_iload rfl rfl ?_
    refine v_bip rfl (by decide) ?_
    refine v_ic_ge_f (t := 74) rfl (by decide) (by decide) ?_
    refine q_iload rfl rfl ?_
    refine q_goto (t := 76) rfl (by decide) ?_
    refine q_istore rfl (by decide) ?_
    refine q_aload_n rfl rfl ?_
    refine v_gr (t := 43) rfl rfl rfl (by decide) rfl ?_
    refine q_aload_n rfl rfl ?_
    refine v_gi (z := 2) (v := c 41 2 + 12) rfl rfl rfl (by decide) rfl rfl (up_e rfl) ?_
    refine q_iload rfl rfl ?_
    refine v_bip rfl (by decide) ?_
    refine v_bip rfl (by decide) ?_
    refine q_iload rfl rfl ?_
    refine q_iconst rfl ?_
    refine v_irem (v := 0) rfl (by omega) (by decide) ?_
    refine v_imul (v := 0) rfl (by decide) ?_
    refine v_isub (v := 24) rfl (by decide) ?_
    refine v_ishr (m := 16777216) (v := (x4 / 16777216)) 24 rfl (by omega) rfl (by decide) (by decide) rfl ?_
    refine v_sip rfl (by decide) ?_
    refine v_and8 (v := ((x4 / 16777216) % 256)) rfl rfl ?_
    refine v_is rfl rfl (by decide) (by decide) (by omega) ?_
    refine q_aload_n rfl rfl ?_
    refine q_dup rfl rfl ?_
    refine v_gi (z := 2) (v := c 41 2 + 12) rfl rfl rfl (by decide) rfl rfl ((up_c (by decide)).trans (up_e rfl)) ?_
    refine q_iconst rfl ?_
    refine v_iadd (v := c 41 2 + 13) rfl (by omega) ?_
    refine v_pi (z := 2) rfl rfl rfl (by decide) rfl rfl rfl (by decide) ?_
    refine v_iinc (v := 13) rfl rfl (by decide) (by decide) ?_
    refine q_goto (t := 23) rfl (by decide) ?_
    refine q_iload rfl rfl ?_
    refine v_bip rfl (by decide) ?_
    refine v_ic_ge_f (t := 120) rfl (by decide) (by decide) ?_
    refine q_iload rfl rfl ?_
    refine q_iconst rfl ?_
    refine v_ic_ge_t (t := 40) rfl (by decide) (by decide) ?_
    refine q_iload rfl rfl ?_
    refine v_bip rfl (by decide) ?_
    refine v_ic_ge_t (t := 51) rfl (by decide) (by decide) ?_
    refine q_iload rfl rfl ?_
    refine v_bip rfl (by decide) ?_
    refine v_ic_ge_t (t := 62) rfl (by decide) (by decide) ?_
    refine q_iload rfl rfl ?_
    refine v_bip rfl (by decide) ?_
    refine v_ic_ge_f (t := 74) rfl (by decide) (by decide) ?_
    refine q_iload rfl rfl ?_
    refine q_goto (t := 76) rfl (by decide) ?_
    refine q_istore rfl (by decide) ?_
    refine q_aload_n rfl rfl ?_
    refine v_gr (t := 43) rfl rfl rfl (by decide) rfl ?_
    refine q_aload_n rfl rfl ?_
    refine v_gi (z := 2) (v := c 41 2 + 13) rfl rfl rfl (by decide) rfl rfl (up_e rfl) ?_
    refine q_iload rfl rfl ?_
    refine v_bip rfl (by decide) ?_
    refine v_bip rfl (by decide) ?_
    refine q_iload rfl rfl ?_
    refine q_iconst rfl ?_
    refine v_irem (v := 1) rfl (by omega) (by decide) ?_
    refine v_imul (v := 8) rfl (by decide) ?_
    refine v_isub (v := 16) rfl (by decide) ?_
    refine v_ishr (m := 65536) (v := (x4 / 65536)) 16 rfl (by omega) rfl (by decide) (by decide) rfl ?_
    refine v_sip rfl (by decide) ?_
    refine v_and8 (v := ((x4 / 65536) % 256)) rfl rfl ?_
    refine v_is rfl rfl (by decide) (by decide) (by omega) ?_
    refine q_aload_n rfl rfl ?_
    refine q_dup rfl rfl ?_
    refine v_gi (z := 2) (v := c 41 2 + 13) rfl rfl rfl (by decide) rfl rfl ((up_c (by decide)).trans (up_e rfl)) ?_
    refine q_iconst rfl ?_
    refine v_iadd (v := c 41 2 + 14) rfl (by omega) ?_
    refine v_pi (z := 2) rfl rfl rfl (by decide) rfl rfl rfl (by decide) ?_
    refine v_iinc (v := 14) rfl rfl (by decide) (by decide) ?_
    refine q_goto (t := 23) rfl (by decide) ?_
    refine q_iload rfl rfl ?_
    refine v_bip rfl (by decide) ?_
    refine v_ic_ge_f (t := 120) rfl (by decide) (by decide) ?_
    refine q_iload rfl rfl ?_
    refine q_iconst rfl ?_
    refine v_ic_ge_t (t := 40) rfl (by decide) (by decide) ?_
    refine q_iload rfl rfl ?_
    refine v_bip rfl (by decide) ?_
    refine v_ic_ge_t (t := 51) rfl (by decide) (by decide) ?_
    refine q_iload rfl rfl ?_
    refine v_bip rfl (by decide) ?_
    refine v_ic_ge_t (t := 62) rfl (by decide) (by decide) ?_
    refine q_iload rfl rfl ?_
    refine v_bip rfl (by decide) ?_
    refine v_ic_ge_f (t := 74) rfl (by decide) (by decide) ?_
    refine q_iload rfl rfl ?_
    refine q_goto (t := 76) rfl (by decide) ?_
    refine q_istore rfl (by decide) ?_
    refine Wp_ls [(7, vi x4), (6, vi 14), (0, .ref 41), (1, vi x1), (2, vi x2), (3, vi x3), (4, vi x4), (5, vi x5)] (lsub_cons rfl (lsub_cons rfl (lsub_cons rfl (lsub_cons rfl (lsub_cons rfl (lsub_cons rfl (lsub_cons rfl (lsub_cons rfl lsub_nil)))))))) ?_
    refine q_aload_n rfl rfl ?_
    refine v_gr (t := 43) rfl rfl rfl (by decide) rfl ?_
    refine q_aload_n rfl rfl ?_
    refine v_gi (z := 2) (v := c 41 2 + 14) rfl rfl rfl (by decide) rfl rfl (up_e rfl) ?_
    refine q_iload rfl rfl ?_
    refine v_bip rfl (by decide) ?_
    refine v_bip rfl (by decide) ?_
    refine q_iload rfl rfl ?_
    refine q_iconst rfl ?_
    refine v_irem (v := 2) rfl (by omega) (by decide) ?_
    refine v_imul (v := 16) rfl (by decide) ?_
    refine v_isub (v := 8) rfl (by decide) ?_
    refine v_ishr (m := 256) (v := (x4 / 256)) 8 rfl (by omega) rfl (by decide) (by decide) rfl ?_
    refine v_sip rfl (by decide) ?_
    refine v_and8 (v := ((x4 / 256) % 256)) rfl rfl ?_
    refine v_is rfl rfl (by decide) (by decide) (by omega) ?_
    refine q_aload_n rfl rfl ?_
    refine q_dup rfl rfl ?_
    refine v_gi (z := 2) (v := c 41 2 + 14) rfl rfl rfl (by decide) rfl rfl ((up_c (by decide)).trans (up_e rfl)) ?_
    refine q_iconst rfl ?_
    refine v_iadd (v := c 41 2 + 15) rfl (by omega) ?_
    refine v_pi (z := 2) rfl rfl rfl (by decide) rfl rfl rfl (by decide) ?_
    refine v_iinc (v := 15) rfl rfl (by decide) (by decide) ?_
    refine q_goto (t := 23) rfl (by decide) ?_
    refine q_iload rfl rfl ?_
    refine v_bip rfl (by decide) ?_
    refine v_ic_ge_f (t := 120) rfl (by decide) (by decide) ?_
    refine q_iload rfl rfl ?_
    refine q_iconst rfl ?_
    refine v_ic_ge_t (t := 40) rfl (by decide) (by decide) ?_
    refine q_iload rfl rfl ?_
    refine v_bip rfl (by decide) ?_
    refine v_ic_ge_t (t := 51) rfl (by decide) (by decide) ?_
    refine q_iload rfl rfl ?_
    refine v_bip rfl (by decide) ?_
    refine v_ic_ge_t (t := 62) rfl (by decide) (by decide) ?_
    refine q_iload rfl rfl ?_
    refine v_bip rfl (by decide) ?_
    refine v_ic_ge_f (t := 74) rfl (by decide) (by decide) ?_
    refine q_iload rfl rfl ?_
    refine q_goto (t := 76) rfl (by decide) ?_
    refine q_istore rfl (by decide) ?_
    refine q_aload_n rfl rfl ?_
    refine v_gr (t := 43) rfl rfl rfl (by decide) rfl ?_
    refine q_aload_n rfl rfl ?_
    refine v_gi (z := 2) (v := c 41 2 + 15) rfl rfl rfl (by decide) rfl rfl (up_e rfl) ?_
    refine q_iload rfl rfl ?_
    refine v_bip rfl (by decide) ?_
    refine v_bip rfl (by decide) ?_
    refine q_iload rfl rfl ?_
    refine q_iconst rfl ?_
    refine v_irem (v := 3) rfl (by omega) (by decide) ?_
    refine v_imul (v := 24) rfl (by decide) ?_
    refine v_isub (v := 0) rfl (by decide) ?_
    refine v_ishr (m := 1) (v := x4) 0 rfl (by omega) rfl (by decide) (by decide) (by omega) ?_
    refine v_sip rfl (by decide) ?_
    refine v_and8 (v := (x4 % 256)) rfl rfl ?_
    refine v_is rfl rfl (by decide) (by decide) (by omega) ?_
    refine q_aload_n rfl rfl ?_
    refine q_dup rfl rfl ?_
    refine v_gi (z := 2) (v := c 41 2 + 15) rfl rfl rfl (by decide) rfl rfl ((up_c (by decide)).trans (up_e rfl)) ?_
    refine q_iconst rfl ?_
    refine v_iadd (v := c 41 2 + 16) rfl (by omega) ?_
    refine v_pi (z := 2) rfl rfl rfl (by decide) rfl rfl rfl (by decide) ?_
    refine v_iinc (v := 16) rfl rfl (by decide) (by decide) ?_
    refine q_goto (t := 23) rfl (by decide) ?_
    refine q_iload rfl rfl ?_
    refine v_bip rfl (by decide) ?_
    refine v_ic_ge_f (t := 120) rfl (by decide) (by decide) ?_
    refine q_iload rfl rfl ?_
    refine q_iconst rfl ?_
    refine v_ic_ge_t (t := 40) rfl (by decide) (by decide) ?_
    refine q_iload rfl rfl ?_
    refine v_bip rfl (by decide) ?_
    refine v_ic_ge_t (t := 51) rfl (by decide) (by decide) ?_
    refine q_iload rfl rfl ?_
    refine v_bip rfl (by decide) ?_
    refine v_ic_ge_t (t := 62) rfl (by decide) (by decide) ?_
    refine q_iload rfl rfl ?_
    refine v_bip rfl (by decide) ?_
    refine v_ic_ge_t (t := 74) rfl (by decide) (by decide) ?_
    refine q_iload rfl rfl ?_
    refine q_istore rfl (by decide) ?_
    refine q_aload_n rfl rfl ?_
    refine v_gr (t := 43) rfl rfl rfl (by decide) rfl ?_
    refine q_aload_n rfl rfl ?_
    refine v_gi (z := 2) (v := c 41 2 + 16) rfl rfl rfl (by decide) rfl rfl (up_e rfl) ?_
    refine q_iload rfl rfl ?_
    refine v_bip rfl (by decide) ?_
    refine v_bip rfl (by decide) ?_
    refine q_iload rfl rfl ?_
    refine q_iconst rfl ?_
    refine v_irem (v := 0) rfl (by omega) (by decide) ?_
    refine v_imul (v := 0) rfl (by decide) ?_
    refine v_isub (v := 24) rfl (by decide) ?_
    refine v_ishr (m := 16777216) (v := (x5 / 16777216)) 24 rfl (by omega) rfl (by decide) (by decide) rfl ?_
    refine v_sip rfl (by decide) ?_
    refine v_and8 (v := ((x5 / 16777216) % 256)) rfl rfl ?_
    refine v_is rfl rfl (by decide) (by decide) (by omega) ?_
    refine q_aload_n rfl rfl ?_
    refine q_dup rfl rfl ?_
    refine v_gi (z := 2) (v := c 41 2 + 16) rfl rfl rfl (by decide) rfl rfl ((up_c (by decide)).trans (up_e rfl)) ?_
    refine q_iconst rfl ?_
    refine v_iadd (v := c 41 2 + 17) rfl (by omega) ?_
    refine v_pi (z := 2) rfl rfl rfl (by decide) rfl rfl rfl (by decide) ?_
    refine v_iinc (v := 17) rfl rfl (by decide) (by decide) ?_
    refine Wp_ls [(6, vi 17), (7, vi x5), (0, .ref 41), (1, vi x1), (2, vi x2), (3, vi x3), (4, vi x4), (5, vi x5)] (lsub_cons rfl (lsub_cons rfl (lsub_cons rfl (lsub_cons rfl (lsub_cons rfl (lsub_cons rfl (lsub_cons rfl (lsub_cons rfl lsub_nil)))))))) ?_
    refine q_goto (t := 23) rfl (by decide) ?_
    refine q_iload rfl rfl ?_
    refine v_bip rfl (by decide) ?_
    refine v_ic_ge_f (t := 120) rfl (by decide) (by decide) ?_
    refine q_iload rfl rfl ?_
    refine q_iconst rfl ?_
    refine v_ic_ge_t (t := 40) rfl (by decide) (by decide) ?_
    refine q_iload rfl rfl ?_
    refine v_bip rfl (by decide) ?_
    refine v_ic_ge_t (t := 51) rfl (by decide) (by decide) ?_
    refine q_iload rfl rfl ?_
    refine v_bip rfl (by decide) ?_
    refine v_ic_ge_t (t := 62) rfl (by decide) (by decide) ?_
    refine q_iload rfl rfl ?_
    refine v_bip rfl (by decide) ?_
    refine v_ic_ge_t (t := 74) rfl (by decide) (by decide) ?_
    refine q_iload rfl rfl ?_
    refine q_istore rfl (by decide) ?_
    refine q_aload_n rfl rfl ?_
    refine v_gr (t := 43) rfl rfl rfl (by decide) rfl ?_
    refine q_aload_n rfl rfl ?_
    refine v_gi (z := 2) (v := c 41 2 + 17) rfl rfl rfl (by decide) rfl rfl (up_e rfl) ?_
    refine q_iload rfl rfl ?_
    refine v_bip rfl (by decide) ?_
    refine v_bip rfl (by decide) ?_
    refine q_iload rfl rfl ?_
    refine q_iconst rfl ?_
    refine v_irem (v := 1) rfl (by omega) (by decide) ?_
    refine v_imul (v := 8) rfl (by decide) ?_
    refine v_isub (v := 16) rfl (by decide) ?_
    refine v_ishr (m := 65536) (v := (x5 / 65536)) 16 rfl (by omega) rfl (by decide) (by decide) rfl ?_
    refine v_sip rfl (by decide) ?_
    refine v_and8 (v := ((x5 / 65536) % 256)) rfl rfl ?_
    refine v_is rfl rfl (by decide) (by decide) (by omega) ?_
    refine q_aload_n rfl rfl ?_
    refine q_dup rfl rfl ?_
    refine v_gi (z := 2) (v := c 41 2 + 17) rfl rfl rfl (by decide) rfl rfl ((up_c (by decide)).trans (up_e rfl)) ?_
    refine q_iconst rfl ?_
    refine v_iadd (v := c 41 2 + 18) rfl (by omega) ?_
    refine v_pi (z := 2) rfl rfl rfl (by decide) rfl rfl rfl (by decide) ?_
    refine v_iinc (v := 18) rfl rfl (by decide) (by decide) ?_
    refine q_goto (t := 23) rfl (by decide) ?_
    refine q_iload rfl rfl ?_
    refine v_bip rfl (by decide) ?_
    refine v_ic_ge_f (t := 120) rfl (by decide) (by decide) ?_
    refine q_iload rfl rfl ?_
    refine q_iconst rfl ?_
    refine v_ic_ge_t (t := 40) rfl (by decide) (by decide) ?_
    refine q_iload rfl rfl ?_
    refine v_bip rfl (by decide) ?_
    refine v_ic_ge_t (t := 51) rfl (by decide) (by decide) ?_
    refine q_iload rfl rfl ?_
    refine v_bip rfl (by decide) ?_
    refine v_ic_ge_t (t := 62) rfl (by decide) (by decide) ?_
    refine q_iload rfl rfl ?_
    refine v_bip rfl (by decide) ?_
    refine v_ic_ge_t (t := 74) rfl (by decide) (by decide) ?_
    refine q_iload rfl rfl ?_
    refine q_istore rfl (by decide) ?_
    refine q_aload_n rfl rfl ?_
    refine v_gr (t := 43) rfl rfl rfl (by decide) rfl ?_
    refine q_aload_n rfl rfl ?_
    refine v_gi (z := 2) (v := c 41 2 + 18) rfl rfl rfl (by decide) rfl rfl (up_e rfl) ?_
    refine q_iload rfl rfl ?_
    refine v_bip rfl (by decide) ?_
    refine v_bip rfl (by decide) ?_
    refine q_iload rfl rfl ?_
    refine q_iconst rfl ?_
    refine v_irem (v := 2) rfl (by omega) (by decide) ?_
    refine v_imul (v := 16) rfl (by decide) ?_
    refine v_isub (v := 8) rfl (by decide) ?_
    refine v_ishr (m := 256) (v := (x5 / 256)) 8 rfl (by omega) rfl (by decide) (by decide) rfl ?_
    refine v_sip rfl (by decide) ?_
    refine v_and8 (v := ((x5 / 256) % 256)) rfl rfl ?_
    refine v_is rfl rfl (by decide) (by decide) (by omega) ?_
    refine q_aload_n rfl rfl ?_
    refine q_dup rfl rfl ?_
    refine v_gi (z := 2) (v := c 41 2 + 18) rfl rfl rfl (by decide) rfl rfl ((up_c (by decide)).trans (up_e rfl)) ?_
    refine q_iconst rfl ?_
    refine v_iadd (v := c 41 2 + 19) rfl (by omega) ?_
    refine v_pi (z := 2) rfl rfl rfl (by decide) rfl rfl rfl (by decide) ?_
    refine v_iinc (v := 19) rfl rfl (by decide) (by decide) ?_
    refine q_goto (t := 23) rfl (by decide) ?_
    refine q_iload rfl rfl ?_
    refine v_bip rfl (by decide) ?_
    refine v_ic_ge_f (t := 120) rfl (by decide) (by decide) ?_
    refine q_iload rfl rfl ?_
    refine q_iconst rfl ?_
    refine v_ic_ge_t (t := 40) rfl (by decide) (by decide) ?_
    refine q_iload rfl rfl ?_
    refine v_bip rfl (by decide) ?_
    refine v_ic_ge_t (t := 51) rfl (by decide) (by decide) ?_
    refine q_iload rfl rfl ?_
    refine v_bip rfl (by decide) ?_
    refine v_ic_ge_t (t := 62) rfl (by decide) (by decide) ?_
    refine q_iload rfl rfl ?_
    refine v_bip rfl (by decide) ?_
    refine v_ic_ge_t (t := 74) rfl (by decide) (by decide) ?_
    refine q_iload rfl rfl ?_
    refine q_istore rfl (by decide) ?_
    refine Wp_ls [(7, vi x5), (6, vi 19), (0, .ref 41), (1, vi x1), (2, vi x2), (3, vi x3), (4, vi x4), (5, vi x5)] (lsub_cons rfl (lsub_cons rfl (lsub_cons rfl (lsub_cons rfl (lsub_cons rfl (lsub_cons rfl (lsub_cons rfl (lsub_cons rfl lsub_nil)))))))) ?_
    refine q_aload_n rfl rfl ?_
    refine v_gr (t := 43) rfl rfl rfl (by decide) rfl ?_
    refine q_aload_n rfl rfl ?_
    refine v_gi (z := 2) (v := c 41 2 + 19) rfl rfl rfl (by decide) rfl rfl (up_e rfl) ?_
    refine q_iload rfl rfl ?_
    refine v_bip rfl (by decide) ?_
    refine v_bip rfl (by decide) ?_
    refine q_iload rfl rfl ?_
    refine q_iconst rfl ?_
    refine v_irem (v := 3) rfl (by omega) (by decide) ?_
    refine v_imul (v := 24) rfl (by decide) ?_
    refine v_isub (v := 0) rfl (by decide) ?_
    refine v_ishr (m := 1) (v := x5) 0 rfl (by omega) rfl (by decide) (by decide) (by omega) ?_
    refine v_sip rfl (by decide) ?_
    refine v_and8 (v := (x5 % 256)) rfl rfl ?_
    refine v_is rfl rfl (by decide) (by decide) (by omega) ?_
    refine q_aload_n rfl rfl ?_
    refine q_dup rfl rfl ?_
    refine v_gi (z := 2) (v := c 41 2 + 19) rfl rfl rfl (by decide) rfl rfl ((up_c (by decide)).trans (up_e rfl)) ?_
    refine q_iconst rfl ?_
    refine v_iadd (v := c 41 2 + 20) rfl (by omega) ?_
    refine v_pi (z := 2) rfl rfl rfl (by decide) rfl rfl rfl (by decide) ?_
    refine v_iinc (v := 20) rfl rfl (by decide) (by decide) ?_
    refine q_goto (t := 23) rfl (by decide) ?_
    refine q_iload rfl rfl ?_
    refine v_bip rfl (by decide) ?_
    refine v_ic_ge_t (t := 120) rfl (by decide) (by decide) ?_
    refine q_aload_n rfl rfl ?_
    refine v_gi (z := 2) (v := c 41 2 + 20) rfl rfl rfl (by decide) rfl rfl (up_e rfl) ?_
    refine q_iret rfl rfl ?_
    refine bk_inl ?_
    refine q_pop rfl rfl ?_
    refine q_goto (t := 1844) rfl (by decide) ?_
    refine Wp_ls [(4, vi (i0 : Int)), (3, .ref 67), (2, .ref 41), (1, .ref 0), (0, .ref a_SC)] (lsub_cons rfl (lsub_cons rfl (lsub_cons rfl (lsub_cons rfl (lsub_cons rfl lsub_nil))))) ?_
    refine K (up (up (up (up (up (up (up (up (up (up (up (up (up (up (up (up (up (up (up (up (up (up (up (up (up (up (up (up (up (up (up (up (up (up (up (up (up (up (up (up (up (up (up (up (up (up (up (up (up (up (up (up (up (up (up (up (up (up (up (up (up (up (up (up (up (up (up (up (up (up (up (up (up (up (up (up (up (up (up (up (up c 2 (c 1 3) (sb (sb (x1 / 16777216)))) 1 3 (c 1 3 + 1)) 2 (c 1 3 + 1) (sb (sb (x1 / 65536)))) 1 3 (c 1 3 + 2)) 2 (c 1 3 + 2) (sb (sb (x1 / 256)))) 1 3 (c 1 3 + 3)) 2 (c 1 3 + 3) (sb (sb x1))) 1 3 (c 1 3 + 4)) 2 (c 1 3 + 4) (sb (sb (x2 / 16777216)))) 1 3 (c 1 3 + 5)) 2 (c 1 3 + 5) (sb (sb (x2 / 65536)))) 1 3 (c 1 3 + 6)) 2 (c 1 3 + 6) (sb (sb (x2 / 256)))) 1 3 (c 1 3 + 7)) 2 (c 1 3 + 7) (sb (sb x2))) 1 3 (c 1 3 + 8)) 2 (c 1 3 + 8) (sb (sb (x3 / 16777216)))) 1 3 (c 1 3 + 9)) 2 (c 1 3 + 9) (sb (sb (x3 / 65536)))) 1 3 (c 1 3 + 10)) 2 (c 1 3 + 10) (sb (sb (x3 / 256)))) 1 3 (c 1 3 + 11)) 2 (c 1 3 + 11) (sb (sb x3))) 1 3 (c 1 3 + 12)) 2 (c 1 3 + 12) (sb (sb (x4 / 16777216)))) 1 3 (c 1 3 + 13)) 2 (c 1 3 + 13) (sb (sb (x4 / 65536)))) 1 3 (c 1 3 + 14)) 2 (c 1 3 + 14) (sb (sb (x4 / 256)))) 1 3 (c 1 3 + 15)) 2 (c 1 3 + 15) (sb (sb x4))) 1 3 (c 1 3 + 16)) 2 (c 1 3 + 16) (sb (sb (x5 / 16777216)))) 1 3 (c 1 3 + 17)) 2 (c 1 3 + 17) (sb (sb (x5 / 65536)))) 1 3 (c 1 3 + 18)) 2 (c 1 3 + 18) (sb (sb (x5 / 256)))) 1 3 (c 1 3 + 19)) 2 (c 1 3 + 19) (sb (sb x5))) 1 3 (c 1 3 + 20)) 41 0 0) 43 (c 41 2) ((x1 / 16777216) % 256)) 41 2 (c 41 2 + 1)) 43 (c 41 2 + 1) ((x1 / 65536) % 256)) 41 2 (c 41 2 + 2)) 43 (c 41 2 + 2) ((x1 / 256) % 256)) 41 2 (c 41 2 + 3)) 43 (c 41 2 + 3) (x1 % 256)) 41 2 (c 41 2 + 4)) 43 (c 41 2 + 4) ((x2 / 16777216) % 256)) 41 2 (c 41 2 + 5)) 43 (c 41 2 + 5) ((x2 / 65536) % 256)) 41 2 (c 41 2 + 6)) 43 (c 41 2 + 6) ((x2 / 256) % 256)) 41 2 (c 41 2 + 7)) 43 (c 41 2 + 7) (x2 % 256)) 41 2 (c 41 2 + 8)) 43 (c 41 2 + 8) ((x3 / 16777216) % 256)) 41 2 (c 41 2 + 9)) 43 (c 41 2 + 9) ((x3 / 65536) % 256)) 41 2 (c 41 2 + 10)) 43 (c 41 2 + 10) ((x3 / 256) % 256)) 41 2 (c 41 2 + 11)) 43 (c 41 2 + 11) (x3 % 256)) 41 2 (c 41 2 + 12)) 43 (c 41 2 + 12) ((x4 / 16777216) % 256)) 41 2 (c 41 2 + 13)) 43 (c 41 2 + 13) ((x4 / 65536) % 256)) 41 2 (c 41 2 + 14)) 43 (c 41 2 + 14) ((x4 / 256) % 256)) 41 2 (c 41 2 + 15)) 43 (c 41 2 + 15) (x4 % 256)) 41 2 (c 41 2 + 16)) 43 (c 41 2 + 16) ((x5 / 16777216) % 256)) 41 2 (c 41 2 + 17)) 43 (c 41 2 + 17) ((x5 / 65536) % 256)) 41 2 (c 41 2 + 18)) 43 (c 41 2 + 18) ((x5 / 256) % 256)) 41 2 (c 41 2 + 19)) 43 (c 41 2 + 19) (x5 % 256)) 41 2 (c 41 2 + 20)) ?_ ?_ ?_
    · intro a j h
      exact ((up_b (by omega)).trans ((up_b (by omega)).trans ((up_b (by omega)).trans ((up_b (by omega)).trans ((up_b (by omega)).trans ((up_b (by omega)).trans ((up_b (by omega)).trans ((up_b (by omega)).trans ((up_b (by omega)).trans ((up_b (by omega)).trans ((up_b (by omega)).trans ((up_b (by omega)).trans ((up_b (by omega)).trans ((up_b (by omega)).trans ((up_b (by omega)).trans ((up_b (by omega)).trans ((up_b (by omega)).trans ((up_b (by omega)).trans ((up_b (by omega)).trans ((up_b (by omega)).trans ((up_b (by omega)).trans ((up_b (by omega)).trans ((up_b (by omega)).trans ((up_b (by omega)).trans ((up_b (by omega)).trans ((up_b (by omega)).trans ((up_b (by omega)).trans ((up_b (by omega)).trans ((up_b (by omega)).trans ((up_b (by omega)).trans ((up_b (by omega)).trans ((up_b (by omega)).trans ((up_b (by omega)).trans ((up_b (by omega)).trans ((up_b (by omega)).trans ((up_b (by omega)).trans ((up_b (by omega)).trans ((up_b (by omega)).trans ((up_b (by omega)).trans ((up_b (by omega)).trans ((up_b (by omega)).trans ((up_b (by omega)).trans ((up_b (by omega)).trans ((up_b (by omega)).trans ((up_b (by omega)).trans ((up_b (by omega)).trans ((up_b (by omega)).trans ((up_b (by omega)).trans ((up_b (by omega)).trans ((up_b (by omega)).trans ((up_b (by omega)).trans ((up_b (by omega)).trans ((up_b (by omega)).trans ((up_b (by omega)).trans ((up_b (by omega)).trans ((up_b (by omega)).trans ((up_b (by omega)).trans ((up_b (by omega)).trans ((up_b (by omega)).trans ((up_b (by omega)).trans ((up_b (by omega)).trans ((up_b (by omega)).trans ((up_b (by omega)).trans ((up_b (by omega)).trans ((up_b (by omega)).trans ((up_b (by omega)).trans ((up_b (by omega)).trans ((up_b (by omega)).trans ((up_b (by omega)).trans ((up_b (by omega)).trans ((up_b (by omega)).trans ((up_b (by omega)).trans ((up_b (by omega)).trans ((up_b (by omega)).trans ((up_b (by omega)).trans ((up_b (by omega)).trans ((up_b (by omega)).trans ((up_b (by omega)).trans ((up_b (by omega)).trans ((up_b (by omega)).trans (up_b (by omega))))))))))))))))))))))))))))))))))))))))))))))))))))))))))))))))))))))))))))))))))
    · rw [show (up (up (up (up (up (up (up (up (up (up (up (up (up (up (up (up (up (up (up (up (up (up (up (up (up (up (up (up (up (up (up (up (up (up (up (up (up (up (up (up (up (up (up (up (up (up (up (up (up (up (up (up (up (up (up (up (up (up (up (up (up (up (up (up (up (up (up (up (up (up (up (up (up (up (up (up (up (up (up (up (up c 2 (c 1 3) (sb (sb (x1 / 16777216)))) 1 3 (c 1 3 + 1)) 2 (c 1 3 + 1) (sb (sb (x1 / 65536)))) 1 3 (c 1 3 + 2)) 2 (c 1 3 + 2) (sb (sb (x1 / 256)))) 1 3 (c 1 3 + 3)) 2 (c 1 3 + 3) (sb (sb x1))) 1 3 (c 1 3 + 4)) 2 (c 1 3 + 4) (sb (sb (x2 / 16777216)))) 1 3 (c 1 3 + 5)) 2 (c 1 3 + 5) (sb (sb (x2 / 65536)))) 1 3 (c 1 3 + 6)) 2 (c 1 3 + 6) (sb (sb (x2 / 256)))) 1 3 (c 1 3 + 7)) 2 (c 1 3 + 7) (sb (sb x2))) 1 3 (c 1 3 + 8)) 2 (c 1 3 + 8) (sb (sb (x3 / 16777216)))) 1 3 (c 1 3 + 9)) 2 (c 1 3 + 9) (sb (sb (x3 / 65536)))) 1 3 (c 1 3 + 10)) 2 (c 1 3 + 10) (sb (sb (x3 / 256)))) 1 3 (c 1 3 + 11)) 2 (c 1 3 + 11) (sb (sb x3))) 1 3 (c 1 3 + 12)) 2 (c 1 3 + 12) (sb (sb (x4 / 16777216)))) 1 3 (c 1 3 + 13)) 2 (c 1 3 + 13) (sb (sb (x4 / 65536)))) 1 3 (c 1 3 + 14)) 2 (c 1 3 + 14) (sb (sb (x4 / 256)))) 1 3 (c 1 3 + 15)) 2 (c 1 3 + 15) (sb (sb x4))) 1 3 (c 1 3 + 16)) 2 (c 1 3 + 16) (sb (sb (x5 / 16777216)))) 1 3 (c 1 3 + 17)) 2 (c 1 3 + 17) (sb (sb (x5 / 65536)))) 1 3 (c 1 3 + 18)) 2 (c 1 3 + 18) (sb (sb (x5 / 256)))) 1 3 (c 1 3 + 19)) 2 (c 1 3 + 19) (sb (sb x5))) 1 3 (c 1 3 + 20)) 41 0 0) 43 (c 41 2) ((x1 / 16777216) % 256)) 41 2 (c 41 2 + 1)) 43 (c 41 2 + 1) ((x1 / 65536) % 256)) 41 2 (c 41 2 + 2)) 43 (c 41 2 + 2) ((x1 / 256) % 256)) 41 2 (c 41 2 + 3)) 43 (c 41 2 + 3) (x1 % 256)) 41 2 (c 41 2 + 4)) 43 (c 41 2 + 4) ((x2 / 16777216) % 256)) 41 2 (c 41 2 + 5)) 43 (c 41 2 + 5) ((x2 / 65536) % 256)) 41 2 (c 41 2 + 6)) 43 (c 41 2 + 6) ((x2 / 256) % 256)) 41 2 (c 41 2 + 7)) 43 (c 41 2 + 7) (x2 % 256)) 41 2 (c 41 2 + 8)) 43 (c 41 2 + 8) ((x3 / 16777216) % 256)) 41 2 (c 41 2 + 9)) 43 (c 41 2 + 9) ((x3 / 65536) % 256)) 41 2 (c 41 2 + 10)) 43 (c 41 2 + 10) ((x3 / 256) % 256)) 41 2 (c 41 2 + 11)) 43 (c 41 2 + 11) (x3 % 256)) 41 2 (c 41 2 + 12)) 43 (c 41 2 + 12) ((x4 / 16777216) % 256)) 41 2 (c 41 2 + 13)) 43 (c 41 2 + 13) ((x4 / 65536) % 256)) 41 2 (c 41 2 + 14)) 43 (c 41 2 + 14) ((x4 / 256) % 256)) 41 2 (c 41 2 + 15)) 43 (c 41 2 + 15) (x4 % 256)) 41 2 (c 41 2 + 16)) 43 (c 41 2 + 16) ((x5 / 16777216) % 256)) 41 2 (c 41 2 + 17)) 43 (c 41 2 + 17) ((x5 / 65536) % 256)) 41 2 (c 41 2 + 18)) 43 (c 41 2 + 18) ((x5 / 256) % 256)) 41 2 (c 41 2 + 19)) 43 (c 41 2 + 19) (x5 % 256)) 41 2 (c 41 2 + 20)) 1 3 = c 1 3 + 20 from ((up_c (by decide)).trans ((up_c (by decide)).trans ((up_c (by decide)).trans ((up_c (by decide)).trans ((up_c (by decide)).trans ((up_c (by decide)).trans ((up_c (by decide)).trans ((up_c (by decide)).trans ((up_c (by decide)).trans ((up_c (by decide)).trans ((up_c (by decide)).trans ((up_c (by decide)).trans ((up_c (by decide)).trans ((up_c (by decide)).trans ((up_c (by decide)).trans ((up_c (by decide)).trans ((up_c (by decide)).trans ((up_c (by decide)).trans ((up_c (by decide)).trans ((up_c (by decide)).trans ((up_c (by decide)).trans ((up_c (by decide)).trans ((up_c (by decide)).trans ((up_c (by decide)).trans ((up_c (by decide)).trans ((up_c (by decide)).trans ((up_c (by decide)).trans ((up_c (by decide)).trans ((up_c (by decide)).trans ((up_c (by decide)).trans ((up_c (by decide)).trans ((up_c (by decide)).trans ((up_c (by decide)).trans ((up_c (by decide)).trans ((up_c (by decide)).trans ((up_c (by decide)).trans ((up_c (by decide)).trans ((up_c (by decide)).trans ((up_c (by decide)).trans ((up_c (by decide)).trans ((up_c (by decide)).trans (up_e rfl)))))))))))))))))))))))))))))))))))))))))), show (up (up (up (up (up (up (up (up (up (up (up (up (up (up (up (up (up (up (up (up (up (up (up (up (up (up (up (up (up (up (up (up (up (up (up (up (up (up (up (up (up (up (up (up (up (up (up (up (up (up (up (up (up (up (up (up (up (up (up (up (up (up (up (up (up (up (up (up (up (up (up (up (up (up (up (up (up (up (up (up (up c 2 (c 1 3) (sb (sb (x1 / 16777216)))) 1 3 (c 1 3 + 1)) 2 (c 1 3 + 1) (sb (sb (x1 / 65536)))) 1 3 (c 1 3 + 2)) 2 (c 1 3 + 2) (sb (sb (x1 / 256)))) 1 3 (c 1 3 + 3)) 2 (c 1 3 + 3) (sb (sb x1))) 1 3 (c 1 3 + 4)) 2 (c 1 3 + 4) (sb (sb (x2 / 16777216)))) 1 3 (c 1 3 + 5)) 2 (c 1 3 + 5) (sb (sb (x2 / 65536)))) 1 3 (c 1 3 + 6)) 2 (c 1 3 + 6) (sb (sb (x2 / 256)))) 1 3 (c 1 3 + 7)) 2 (c 1 3 + 7) (sb (sb x2))) 1 3 (c 1 3 + 8)) 2 (c 1 3 + 8) (sb (sb (x3 / 16777216)))) 1 3 (c 1 3 + 9)) 2 (c 1 3 + 9) (sb (sb (x3 / 65536)))) 1 3 (c 1 3 + 10)) 2 (c 1 3 + 10) (sb (sb (x3 / 256)))) 1 3 (c 1 3 + 11)) 2 (c 1 3 + 11) (sb (sb x3))) 1 3 (c 1 3 + 12)) 2 (c 1 3 + 12) (sb (sb (x4 / 16777216)))) 1 3 (c 1 3 + 13)) 2 (c 1 3 + 13) (sb (sb (x4 / 65536)))) 1 3 (c 1 3 + 14)) 2 (c 1 3 + 14) (sb (sb (x4 / 256)))) 1 3 (c 1 3 + 15)) 2 (c 1 3 + 15) (sb (sb x4))) 1 3 (c 1 3 + 16)) 2 (c 1 3 + 16) (sb (sb (x5 / 16777216)))) 1 3 (c 1 3 + 17)) 2 (c 1 3 + 17) (sb (sb (x5 / 65536)))) 1 3 (c 1 3 + 18)) 2 (c 1 3 + 18) (sb (sb (x5 / 256)))) 1 3 (c 1 3 + 19)) 2 (c 1 3 + 19) (sb (sb x5))) 1 3 (c 1 3 + 20)) 41 0 0) 43 (c 41 2) ((x1 / 16777216) % 256)) 41 2 (c 41 2 + 1)) 43 (c 41 2 + 1) ((x1 / 65536) % 256)) 41 2 (c 41 2 + 2)) 43 (c 41 2 + 2) ((x1 / 256) % 256)) 41 2 (c 41 2 + 3)) 43 (c 41 2 + 3) (x1 % 256)) 41 2 (c 41 2 + 4)) 43 (c 41 2 + 4) ((x2 / 16777216) % 256)) 41 2 (c 41 2 + 5)) 43 (c 41 2 + 5) ((x2 / 65536) % 256)) 41 2 (c 41 2 + 6)) 43 (c 41 2 + 6) ((x2 / 256) % 256)) 41 2 (c 41 2 + 7)) 43 (c 41 2 + 7) (x2 % 256)) 41 2 (c 41 2 + 8)) 43 (c 41 2 + 8) ((x3 / 16777216) % 256)) 41 2 (c 41 2 + 9)) 43 (c 41 2 + 9) ((x3 / 65536) % 256)) 41 2 (c 41 2 + 10)) 43 (c 41 2 + 10) ((x3 / 256) % 256)) 41 2 (c 41 2 + 11)) 43 (c 41 2 + 11) (x3 % 256)) 41 2 (c 41 2 + 12)) 43 (c 41 2 + 12) ((x4 / 16777216) % 256)) 41 2 (c 41 2 + 13)) 43 (c 41 2 + 13) ((x4 / 65536) % 256)) 41 2 (c 41 2 + 14)) 43 (c 41 2 + 14) ((x4 / 256) % 256)) 41 2 (c 41 2 + 15)) 43 (c 41 2 + 15) (x4 % 256)) 41 2 (c 41 2 + 16)) 43 (c 41 2 + 16) ((x5 / 16777216) % 256)) 41 2 (c 41 2 + 17)) 43 (c 41 2 + 17) ((x5 / 65536) % 256)) 41 2 (c 41 2 + 18)) 43 (c 41 2 + 18) ((x5 / 256) % 256)) 41 2 (c 41 2 + 19)) 43 (c 41 2 + 19) (x5 % 256)) 41 2 (c 41 2 + 20)) 41 2 = c 41 2 + 20 from (up_e rfl)]
      omega
    · intro j h1 h2
      by_cases e0 : j = c 1 3
      · rw [e0, show (up (up (up (up (up (up (up (up (up (up (up (up (up (up (up (up (up (up (up (up (up (up (up (up (up (up (up (up (up (up (up (up (up (up (up (up (up (up (up (up (up (up (up (up (up (up (up (up (up (up (up (up (up (up (up (up (up (up (up (up (up (up (up (up (up (up (up (up (up (up (up (up (up (up (up (up (up (up (up (up (up c 2 (c 1 3) (sb (sb (x1 / 16777216)))) 1 3 (c 1 3 + 1)) 2 (c 1 3 + 1) (sb (sb (x1 / 65536)))) 1 3 (c 1 3 + 2)) 2 (c 1 3 + 2) (sb (sb (x1 / 256)))) 1 3 (c 1 3 + 3)) 2 (c 1 3 + 3) (sb (sb x1))) 1 3 (c 1 3 + 4)) 2 (c 1 3 + 4) (sb (sb (x2 / 16777216)))) 1 3 (c 1 3 + 5)) 2 (c 1 3 + 5) (sb (sb (x2 / 65536)))) 1 3 (c 1 3 + 6)) 2 (c 1 3 + 6) (sb (sb (x2 / 256)))) 1 3 (c 1 3 + 7)) 2 (c 1 3 + 7) (sb (sb x2))) 1 3 (c 1 3 + 8)) 2 (c 1 3 + 8) (sb (sb (x3 / 16777216)))) 1 3 (c 1 3 + 9)) 2 (c 1 3 + 9) (sb (sb (x3 / 65536)))) 1 3 (c 1 3 + 10)) 2 (c 1 3 + 10) (sb (sb (x3 / 256)))) 1 3 (c 1 3 + 11)) 2 (c 1 3 + 11) (sb (sb x3))) 1 3 (c 1 3 + 12)) 2 (c 1 3 + 12) (sb (sb (x4 / 16777216)))) 1 3 (c 1 3 + 13)) 2 (c 1 3 + 13) (sb (sb (x4 / 65536)))) 1 3 (c 1 3 + 14)) 2 (c 1 3 + 14) (sb (sb (x4 / 256)))) 1 3 (c 1 3 + 15)) 2 (c 1 3 + 15) (sb (sb x4))) 1 3 (c 1 3 + 16)) 2 (c 1 3 + 16) (sb (sb (x5 / 16777216)))) 1 3 (c 1 3 + 17)) 2 (c 1 3 + 17) (sb (sb (x5 / 65536)))) 1 3 (c 1 3 + 18)) 2 (c 1 3 + 18) (sb (sb (x5 / 256)))) 1 3 (c 1 3 + 19)) 2 (c 1 3 + 19) (sb (sb x5))) 1 3 (c 1 3 + 20)) 41 0 0) 43 (c 41 2) ((x1 / 16777216) % 256)) 41 2 (c 41 2 + 1)) 43 (c 41 2 + 1) ((x1 / 65536) % 256)) 41 2 (c 41 2 + 2)) 43 (c 41 2 + 2) ((x1 / 256) % 256)) 41 2 (c 41 2 + 3)) 43 (c 41 2 + 3) (x1 % 256)) 41 2 (c 41 2 + 4)) 43 (c 41 2 + 4) ((x2 / 16777216) % 256)) 41 2 (c 41 2 + 5)) 43 (c 41 2 + 5) ((x2 / 65536) % 256)) 41 2 (c 41 2 + 6)) 43 (c 41 2 + 6) ((x2 / 256) % 256)) 41 2 (c 41 2 + 7)) 43 (c 41 2 + 7) (x2 % 256)) 41 2 (c 41 2 + 8)) 43 (c 41 2 + 8) ((x3 / 16777216) % 256)) 41 2 (c 41 2 + 9)) 43 (c 41 2 + 9) ((x3 / 65536) % 256)) 41 2 (c 41 2 + 10)) 43 (c 41 2 + 10) ((x3 / 256) % 256)) 41 2 (c 41 2 + 11)) 43 (c 41 2 + 11) (x3 % 256)) 41 2 (c 41 2 + 12)) 43 (c 41 2 + 12) ((x4 / 16777216) % 256)) 41 2 (c 41 2 + 13)) 43 (c 41 2 + 13) ((x4 / 65536) % 256)) 41 2 (c 41 2 + 14)) 43 (c 41 2 + 14) ((x4 / 256) % 256)) 41 2 (c 41 2 + 15)) 43 (c 41 2 + 15) (x4 % 256)) 41 2 (c 41 2 + 16)) 43 (c 41 2 + 16) ((x5 / 16777216) % 256)) 41 2 (c 41 2 + 17)) 43 (c 41 2 + 17) ((x5 / 65536) % 256)) 41 2 (c 41 2 + 18)) 43 (c 41 2 + 18) ((x5 / 256) % 256)) 41 2 (c 41 2 + 19)) 43 (c 41 2 + 19) (x5 % 256)) 41 2 (c 41 2 + 20)) 2 (c 1 3) = (sb (sb (x1 / 16777216))) from ((up_c (by decide)).trans ((up_c (by decide)).trans ((up_c (by decide)).trans ((up_c (by decide)).trans ((up_c (by decide)).trans ((up_c (by decide)).trans ((up_c (by decide)).trans ((up_c (by decide)).trans ((up_c (by decide)).trans ((up_c (by decide)).trans ((up_c (by decide)).trans ((up_c (by decide)).trans ((up_c (by decide)).trans ((up_c (by decide)).trans ((up_c (by decide)).trans ((up_c (by decide)).trans ((up_c (by decide)).trans ((up_c (by decide)).trans ((up_c (by decide)).trans ((up_c (by decide)).trans ((up_c (by decide)).trans ((up_c (by decide)).trans ((up_c (by decide)).trans ((up_c (by decide)).trans ((up_c (by decide)).trans ((up_c (by decide)).trans ((up_c (by decide)).trans ((up_c (by decide)).trans ((up_c (by decide)).trans ((up_c (by decide)).trans ((up_c (by decide)).trans ((up_c (by decide)).trans ((up_c (by decide)).trans ((up_c (by decide)).trans ((up_c (by decide)).trans ((up_c (by decide)).trans ((up_c (by decide)).trans ((up_c (by decide)).trans ((up_c (by decide)).trans ((up_c (by decide)).trans ((up_c (by decide)).trans ((up_c (by decide)).trans ((up_n (by omega)).trans ((up_c (by decide)).trans ((up_n (by omega)).trans ((up_c (by decide)).trans ((up_n (by omega)).trans ((up_c (by decide)).trans ((up_n (by omega)).trans ((up_c (by decide)).trans ((up_n (by omega)).trans ((up_c (by decide)).trans ((up_n (by omega)).trans ((up_c (by decide)).trans ((up_n (by omega)).trans ((up_c (by decide)).trans ((up_n (by omega)).trans ((up_c (by decide)).trans ((up_n (by omega)).trans ((up_c (by decide)).trans ((up_n (by omega)).trans ((up_c (by decide)).trans ((up_n (by omega)).trans ((up_c (by decide)).trans ((up_n (by omega)).trans ((up_c (by decide)).trans ((up_n (by omega)).trans ((up_c (by decide)).trans ((up_n (by omega)).trans ((up_c (by decide)).trans ((up_n (by omega)).trans ((up_c (by decide)).trans ((up_n (by omega)).trans ((up_c (by decide)).trans ((up_n (by omega)).trans ((up_c (by decide)).trans ((up_n (by omega)).trans ((up_c (by decide)).trans ((up_n (by omega)).trans ((up_c (by decide)).trans (up_e rfl))))))))))))))))))))))))))))))))))))))))))))))))))))))))))))))))))))))))))))))))), show (up (up (up (up (up (up (up (up (up (up (up (up (up (up (up (up (up (up (up (up (up (up (up (up (up (up (up (up (up (up (up (up (up (up (up (up (up (up (up (up (up (up (up (up (up (up (up (up (up (up (up (up (up (up (up (up (up (up (up (up (up (up (up (up (up (up (up (up (up (up (up (up (up (up (up (up (up (up (up (up (up c 2 (c 1 3) (sb (sb (x1 / 16777216)))) 1 3 (c 1 3 + 1)) 2 (c 1 3 + 1) (sb (sb (x1 / 65536)))) 1 3 (c 1 3 + 2)) 2 (c 1 3 + 2) (sb (sb (x1 / 256)))) 1 3 (c 1 3 + 3)) 2 (c 1 3 + 3) (sb (sb x1))) 1 3 (c 1 3 + 4)) 2 (c 1 3 + 4) (sb (sb (x2 / 16777216)))) 1 3 (c 1 3 + 5)) 2 (c 1 3 + 5) (sb (sb (x2 / 65536)))) 1 3 (c 1 3 + 6)) 2 (c 1 3 + 6) (sb (sb (x2 / 256)))) 1 3 (c 1 3 + 7)) 2 (c 1 3 + 7) (sb (sb x2))) 1 3 (c 1 3 + 8)) 2 (c 1 3 + 8) (sb (sb (x3 / 16777216)))) 1 3 (c 1 3 + 9)) 2 (c 1 3 + 9) (sb (sb (x3 / 65536)))) 1 3 (c 1 3 + 10)) 2 (c 1 3 + 10) (sb (sb (x3 / 256)))) 1 3 (c 1 3 + 11)) 2 (c 1 3 + 11) (sb (sb x3))) 1 3 (c 1 3 + 12)) 2 (c 1 3 + 12) (sb (sb (x4 / 16777216)))) 1 3 (c 1 3 + 13)) 2 (c 1 3 + 13) (sb (sb (x4 / 65536)))) 1 3 (c 1 3 + 14)) 2 (c 1 3 + 14) (sb (sb (x4 / 256)))) 1 3 (c 1 3 + 15)) 2 (c 1 3 + 15) (sb (sb x4))) 1 3 (c 1 3 + 16)) 2 (c 1 3 + 16) (sb (sb (x5 / 16777216)))) 1 3 (c 1 3 + 17)) 2 (c 1 3 + 17) (sb (sb (x5 / 65536)))) 1 3 (c 1 3 + 18)) 2 (c 1 3 + 18) (sb (sb (x5 / 256)))) 1 3 (c 1 3 + 19)) 2 (c 1 3 + 19) (sb (sb x5))) 1 3 (c 1 3 + 20)) 41 0 0) 43 (c 41 2) ((x1 / 16777216) % 256)) 41 2 (c 41 2 + 1)) 43 (c 41 2 + 1) ((x1 / 65536) % 256)) 41 2 (c 41 2 + 2)) 43 (c 41 2 + 2) ((x1 / 256) % 256)) 41 2 (c 41 2 + 3)) 43 (c 41 2 + 3) (x1 % 256)) 41 2 (c 41 2 + 4)) 43 (c 41 2 + 4) ((x2 / 16777216) % 256)) 41 2 (c 41 2 + 5)) 43 (c 41 2 + 5) ((x2 / 65536) % 256)) 41 2 (c 41 2 + 6)) 43 (c 41 2 + 6) ((x2 / 256) % 256)) 41 2 (c 41 2 + 7)) 43 (c 41 2 + 7) (x2 % 256)) 41 2 (c 41 2 + 8)) 43 (c 41 2 + 8) ((x3 / 16777216) % 256)) 41 2 (c 41 2 + 9)) 43 (c 41 2 + 9) ((x3 / 65536) % 256)) 41 2 (c 41 2 + 10)) 43 (c 41 2 + 10) ((x3 / 256) % 256)) 41 2 (c 41 2 + 11)) 43 (c 41 2 + 11) (x3 % 256)) 41 2 (c 41 2 + 12)) 43 (c 41 2 + 12) ((x4 / 16777216) % 256)) 41 2 (c 41 2 + 13)) 43 (c 41 2 + 13) ((x4 / 65536) % 256)) 41 2 (c 41 2 + 14)) 43 (c 41 2 + 14) ((x4 / 256) % 256)) 41 2 (c 41 2 + 15)) 43 (c 41 2 + 15) (x4 % 256)) 41 2 (c 41 2 + 16)) 43 (c 41 2 + 16) ((x5 / 16777216) % 256)) 41 2 (c 41 2 + 17)) 43 (c 41 2 + 17) ((x5 / 65536) % 256)) 41 2 (c 41 2 + 18)) 43 (c 41 2 + 18) ((x5 / 256) % 256)) 41 2 (c 41 2 + 19)) 43 (c 41 2 + 19) (x5 % 256)) 41 2 (c 41 2 + 20)) 43 (c 1 3) = ((x1 / 16777216) % 256) from ((up_c (by decide)).trans ((up_n (by omega)).trans ((up_c (by decide)).trans ((up_n (by omega)).trans ((up_c (by decide)).trans ((up_n (by omega)).trans ((up_c (by decide)).trans ((up_n (by omega)).trans ((up_c (by decide)).trans ((up_n (by omega)).trans ((up_c (by decide)).trans ((up_n (by omega)).trans ((up_c (by decide)).trans ((up_n (by omega)).trans ((up_c (by decide)).trans ((up_n (by omega)).trans ((up_c (by decide)).trans ((up_n (by omega)).trans ((up_c (by decide)).trans ((up_n (by omega)).trans ((up_c (by decide)).trans ((up_n (by omega)).trans ((up_c (by decide)).trans ((up_n (by omega)).trans ((up_c (by decide)).trans ((up_n (by omega)).trans ((up_c (by decide)).trans ((up_n (by omega)).trans ((up_c (by decide)).trans ((up_n (by omega)).trans ((up_c (by decide)).trans ((up_n (by omega)).trans ((up_c (by decide)).trans ((up_n (by omega)).trans ((up_c (by decide)).trans ((up_n (by omega)).trans ((up_c (by decide)).trans ((up_n (by omega)).trans ((up_c (by decide)).trans (up_e (by omega)))))))))))))))))))))))))))))))))))))))))]
        exact ⟨((sb_mod (x1 / 16777216)).symm.trans (sb_mod (sb (x1 / 16777216))).symm), sb_rng (sb (x1 / 16777216))⟩
      by_cases e1 : j = c 1 3 + 1
      · rw [e1, show (up (up (up (up (up (up (up (up (up (up (up (up (up (up (up (up (up (up (up (up (up (up (up (up (up (up (up (up (up (up (up (up (up (up (up (up (up (up (up (up (up (up (up (up (up (up (up (up (up (up (up (up (up (up (up (up (up (up (up (up (up (up (up (up (up (up (up (up (up (up (up (up (up (up (up (up (up (up (up (up (up c 2 (c 1 3) (sb (sb (x1 / 16777216)))) 1 3 (c 1 3 + 1)) 2 (c 1 3 + 1) (sb (sb (x1 / 65536)))) 1 3 (c 1 3 + 2)) 2 (c 1 3 + 2) (sb (sb (x1 / 256)))) 1 3 (c 1 3 + 3)) 2 (c 1 3 + 3) (sb (sb x1))) 1 3 (c 1 3 + 4)) 2 (c 1 3 + 4) (sb (sb (x2 / 16777216)))) 1 3 (c 1 3 + 5)) 2 (c 1 3 + 5) (sb (sb (x2 / 65536)))) 1 3 (c 1 3 + 6)) 2 (c 1 3 + 6) (sb (sb (x2 / 256)))) 1 3 (c 1 3 + 7)) 2 (c 1 3 + 7) (sb (sb x2))) 1 3 (c 1 3 + 8)) 2 (c 1 3 + 8) (sb (sb (x3 / 16777216)))) 1 3 (c 1 3 + 9)) 2 (c 1 3 + 9) (sb (sb (x3 / 65536)))) 1 3 (c 1 3 + 10)) 2 (c 1 3 + 10) (sb (sb (x3 / 256)))) 1 3 (c 1 3 + 11)) 2 (c 1 3 + 11) (sb (sb x3))) 1 3 (c 1 3 + 12)) 2 (c 1 3 + 12) (sb (sb (x4 / 16777216)))) 1 3 (c 1 3 + 13)) 2 (c 1 3 + 13) (sb (sb (x4 / 65536)))) 1 3 (c 1 3 + 14)) 2 (c 1 3 + 14) (sb (sb (x4 / 256)))) 1 3 (c 1 3 + 15)) 2 (c 1 3 + 15) (sb (sb x4))) 1 3 (c 1 3 + 16)) 2 (c 1 3 + 16) (sb (sb (x5 / 16777216)))) 1 3 (c 1 3 + 17)) 2 (c 1 3 + 17) (sb (sb (x5 / 65536)))) 1 3 (c 1 3 + 18)) 2 (c 1 3 + 18) (sb (sb (x5 / 256)))) 1 3 (c 1 3 + 19)) 2 (c 1 3 + 19) (sb (sb x5))) 1 3 (c 1 3 + 20)) 41 0 0) 43 (c 41 2) ((x1 / 16777216) % 256)) 41 2 (c 41 2 + 1)) 43 (c 41 2 + 1) ((x1 / 65536) % 256)) 41 2 (c 41 2 + 2)) 43 (c 41 2 + 2) ((x1 / 256) % 256)) 41 2 (c 41 2 + 3)) 43 (c 41 2 + 3) (x1 % 256)) 41 2 (c 41 2 + 4)) 43 (c 41 2 + 4) ((x2 / 16777216) % 256)) 41 2 (c 41 2 + 5)) 43 (c 41 2 + 5) ((x2 / 65536) % 256)) 41 2 (c 41 2 + 6)) 43 (c 41 2 + 6) ((x2 / 256) % 256)) 41 2 (c 41 2 + 7)) 43 (c 41 2 + 7) (x2 % 256)) 41 2 (c 41 2 + 8)) 43 (c 41 2 + 8) ((x3 / 16777216) % 256)) 41 2 (c 41 2 + 9)) 43 (c 41 2 + 9) ((x3 / 65536) % 256)) 41 2 (c 41 2 + 10)) 43 (c 41 2 + 10) ((x3 / 256) % 256)) 41 2 (c 41 2 + 11)) 43 (c 41 2 + 11) (x3 % 256)) 41 2 (c 41 2 + 12)) 43 (c 41 2 + 12) ((x4 / 16777216) % 256)) 41 2 (c 41 2 + 13)) 43 (c 41 2 + 13) ((x4 / 65536) % 256)) 41 2 (c 41 2 + 14)) 43 (c 41 2 + 14) ((x4 / 256) % 256)) 41 2 (c 41 2 + 15)) 43 (c 41 2 + 15) (x4 % 256)) 41 2 (c 41 2 + 16)) 43 (c 41 2 + 16) ((x5 / 16777216) % 256)) 41 2 (c 41 2 + 17)) 43 (c 41 2 + 17) ((x5 / 65536) % 256)) 41 2 (c 41 2 + 18)) 43 (c 41 2 + 18) ((x5 / 256) % 256)) 41 2 (c 41 2 + 19)) 43 (c 41 2 + 19) (x5 % 256)) 41 2 (c 41 2 + 20)) 2 (c 1 3 + 1) = (sb (sb (x1 / 65536))) from ((up_c (by decide)).trans ((up_c (by decide)).trans ((up_c (by decide)).trans ((up_c (by decide)).trans ((up_c (by decide)).trans ((up_c (by decide)).trans ((up_c (by decide)).trans ((up_c (by decide)).trans ((up_c (by decide)).trans ((up_c (by decide)).trans ((up_c (by decide)).trans ((up_c (by decide)).trans ((up_c (by decide)).trans ((up_c (by decide)).trans ((up_c (by decide)).trans ((up_c (by decide)).trans ((up_c (by decide)).trans ((up_c (by decide)).trans ((up_c (by decide)).trans ((up_c (by decide)).trans ((up_c (by decide)).trans ((up_c (by decide)).trans ((up_c (by decide)).trans ((up_c (by decide)).trans ((up_c (by decide)).trans ((up_c (by decide)).trans ((up_c (by decide)).trans ((up_c (by decide)).trans ((up_c (by decide)).trans ((up_c (by decide)).trans ((up_c (by decide)).trans ((up_c (by decide)).trans ((up_c (by decide)).trans ((up_c (by decide)).trans ((up_c (by decide)).trans ((up_c (by decide)).trans ((up_c (by decide)).trans ((up_c (by decide)).trans ((up_c (by decide)).trans ((up_c (by decide)).trans ((up_c (by decide)).trans ((up_c (by decide)).trans ((up_n (by omega)).trans ((up_c (by decide)).trans ((up_n (by omega)).trans ((up_c (by decide)).trans ((up_n (by omega)).trans ((up_c (by decide)).trans ((up_n (by omega)).trans ((up_c (by decide)).trans ((up_n (by omega)).trans ((up_c (by decide)).trans ((up_n (by omega)).trans ((up_c (by decide)).trans ((up_n (by omega)).trans ((up_c (by decide)).trans ((up_n (by omega)).trans ((up_c (by decide)).trans ((up_n (by omega)).trans ((up_c (by decide)).trans ((up_n (by omega)).trans ((up_c (by decide)).trans ((up_n (by omega)).trans ((up_c (by decide)).trans ((up_n (by omega)).trans ((up_c (by decide)).trans ((up_n (by omega)).trans ((up_c (by decide)).trans ((up_n (by omega)).trans ((up_c (by decide)).trans ((up_n (by omega)).trans ((up_c (by decide)).trans ((up_n (by omega)).trans ((up_c (by decide)).trans ((up_n (by omega)).trans ((up_c (by decide)).trans ((up_n (by omega)).trans ((up_c (by decide)).trans (up_e rfl))))))))))))))))))))))))))))))))))))))))))))))))))))))))))))))))))))))))))))))), show (up (up (up (up (up (up (up (up (up (up (up (up (up (up (up (up (up (up (up (up (up (up (up (up (up (up (up (up (up (up (up (up (up (up (up (up (up (up (up (up (up (up (up (up (up (up (up (up (up (up (up (up (up (up (up (up (up (up (up (up (up (up (up (up (up (up (up (up (up (up (up (up (up (up (up (up (up (up (up (up (up c 2 (c 1 3) (sb (sb (x1 / 16777216)))) 1 3 (c 1 3 + 1)) 2 (c 1 3 + 1) (sb (sb (x1 / 65536)))) 1 3 (c 1 3 + 2)) 2 (c 1 3 + 2) (sb (sb (x1 / 256)))) 1 3 (c 1 3 + 3)) 2 (c 1 3 + 3) (sb (sb x1))) 1 3 (c 1 3 + 4)) 2 (c 1 3 + 4) (sb (sb (x2 / 16777216)))) 1 3 (c 1 3 + 5)) 2 (c 1 3 + 5) (sb (sb (x2 / 65536)))) 1 3 (c 1 3 + 6)) 2 (c 1 3 + 6) (sb (sb (x2 / 256)))) 1 3 (c 1 3 + 7)) 2 (c 1 3 + 7) (sb (sb x2))) 1 3 (c 1 3 + 8)) 2 (c 1 3 + 8) (sb (sb (x3 / 16777216)))) 1 3 (c 1 3 + 9)) 2 (c 1 3 + 9) (sb (sb (x3 / 65536)))) 1 3 (c 1 3 + 10)) 2 (c 1 3 + 10) (sb (sb (x3 / 256)))) 1 3 (c 1 3 + 11)) 2 (c 1 3 + 11) (sb (sb x3))) 1 3 (c 1 3 + 12)) 2 (c 1 3 + 12) (sb (sb (x4 / 16777216)))) 1 3 (c 1 3 + 13)) 2 (c 1 3 + 13) (sb (sb (x4 / 65536)))) 1 3 (c 1 3 + 14)) 2 (c 1 3 + 14) (sb (sb (x4 / 256)))) 1 3 (c 1 3 + 15)) 2 (c 1 3 + 15) (sb (sb x4))) 1 3 (c 1 3 + 16)) 2 (c 1 3 + 16) (sb (sb (x5 / 16777216)))) 1 3 (c 1 3 + 17)) 2 (c 1 3 + 17) (sb (sb (x5 / 65536)))) 1 3 (c 1 3 + 18)) 2 (c 1 3 + 18) (sb (sb (x5 / 256)))) 1 3 (c 1 3 + 19)) 2 (c 1 3 + 19) (sb (sb x5))) 1 3 (c 1 3 + 20)) 41 0 0) 43 (c 41 2) ((x1 / 16777216) % 256)) 41 2 (c 41 2 + 1)) 43 (c 41 2 + 1) ((x1 / 65536) % 256)) 41 2 (c 41 2 + 2)) 43 (c 41 2 + 2) ((x1 / 256) % 256)) 41 2 (c 41 2 + 3)) 43 (c 41 2 + 3) (x1 % 256)) 41 2 (c 41 2 + 4)) 43 (c 41 2 + 4) ((x2 / 16777216) % 256)) 41 2 (c 41 2 + 5)) 43 (c 41 2 + 5) ((x2 / 65536) % 256)) 41 2 (c 41 2 + 6)) 43 (c 41 2 + 6) ((x2 / 256) % 256)) 41 2 (c 41 2 + 7)) 43 (c 41 2 + 7) (x2 % 256)) 41 2 (c 41 2 + 8)) 43 (c 41 2 + 8) ((x3 / 16777216) % 256)) 41 2 (c 41 2 + 9)) 43 (c 41 2 + 9) ((x3 / 65536) % 256)) 41 2 (c 41 2 + 10)) 43 (c 41 2 + 10) ((x3 / 256) % 256)) 41 2 (c 41 2 + 11)) 43 (c 41 2 + 11) (x3 % 256)) 41 2 (c 41 2 + 12)) 43 (c 41 2 + 12) ((x4 / 16777216) % 256)) 41 2 (c 41 2 + 13)) 43 (c 41 2 + 13) ((x4 / 65536) % 256)) 41 2 (c 41 2 + 14)) 43 (c 41 2 + 14) ((x4 / 256) % 256)) 41 2 (c 41 2 + 15)) 43 (c 41 2 + 15) (x4 % 256)) 41 2 (c 41 2 + 16)) 43 (c 41 2 + 16) ((x5 / 16777216) % 256)) 41 2 (c 41 2 + 17)) 43 (c 41 2 + 17) ((x5 / 65536) % 256)) 41 2 (c 41 2 + 18)) 43 (c 41 2 + 18) ((x5 / 256) % 256)) 41 2 (c 41 2 + 19)) 43 (c 41 2 + 19) (x5 % 256)) 41 2 (c 41 2 + 20)) 43 (c 1 3 + 1) = ((x1 / 65536) % 256) from ((up_c (by decide)).trans ((up_n (by omega)).trans ((up_c (by decide)).trans ((up_n (by omega)).trans ((up_c (by decide)).trans ((up_n (by omega)).trans ((up_c (by decide)).trans ((up_n (by omega)).trans ((up_c (by decide)).trans ((up_n (by omega)).trans ((up_c (by decide)).trans ((up_n (by omega)).trans ((up_c (by decide)).trans ((up_n (by omega)).trans ((up_c (by decide)).trans ((up_n (by omega)).trans ((up_c (by decide)).trans ((up_n (by omega)).trans ((up_c (by decide)).trans ((up_n (by omega)).trans ((up_c (by decide)).trans ((up_n (by omega)).trans ((up_c (by decide)).trans ((up_n (by omega)).trans ((up_c (by decide)).trans ((up_n (by omega)).trans ((up_c (by decide)).trans ((up_n (by omega)).trans ((up_c (by decide)).trans ((up_n (by omega)).trans ((up_c (by decide)).trans ((up_n (by omega)).trans ((up_c (by decide)).trans ((up_n (by omega)).trans ((up_c (by decide)).trans ((up_n (by omega)).trans ((up_c (by decide)).trans (up_e (by omega)))))))))))))))))))))))))))))))))))))))]
        exact ⟨((sb_mod (x1 / 65536)).symm.trans (sb_mod (sb (x1 / 65536))).symm), sb_rng (sb (x1 / 65536))⟩
      by_cases e2 : j = c 1 3 + 2
      · rw [e2, show (up (up (up (up (up (up (up (up (up (up (up (up (up (up (up (up (up (up (up (up (up (up (up (up (up (up (up (up (up (up (up (up (up (up (up (up (up (up (up (up (up (up (up (up (up (up (up (up (up (up (up (up (up (up (up (up (up (up (up (up (up (up (up (up (up (up (up (up (up (up (up (up (up (up (up (up (up (up (up (up (up c 2 (c 1 3) (sb (sb (x1 / 16777216)))) 1 3 (c 1 3 + 1)) 2 (c 1 3 + 1) (sb (sb (x1 / 65536)))) 1 3 (c 1 3 + 2)) 2 (c 1 3 + 2) (sb (sb (x1 / 256)))) 1 3 (c 1 3 + 3)) 2 (c 1 3 + 3) (sb (sb x1))) 1 3 (c 1 3 + 4)) 2 (c 1 3 + 4) (sb (sb (x2 / 16777216)))) 1 3 (c 1 3 + 5)) 2 (c 1 3 + 5) (sb (sb (x2 / 65536)))) 1 3 (c 1 3 + 6)) 2 (c 1 3 + 6) (sb (sb (x2 / 256)))) 1 3 (c 1 3 + 7)) 2 (c 1 3 + 7) (sb (sb x2))) 1 3 (c 1 3 + 8)) 2 (c 1 3 + 8) (sb (sb (x3 / 16777216)))) 1 3 (c 1 3 + 9)) 2 (c 1 3 + 9) (sb (sb (x3 / 65536)))) 1 3 (c 1 3 + 10)) 2 (c 1 3 + 10) (sb (sb (x3 / 256)))) 1 3 (c 1 3 + 11)) 2 (c 1 3 + 11) (sb (sb x3))) 1 3 (c 1 3 + 12)) 2 (c 1 3 + 12) (sb (sb (x4 / 16777216)))) 1 3 (c 1 3 + 13)) 2 (c 1 3 + 13) (sb (sb (x4 / 65536)))) 1 3 (c 1 3 + 14)) 2 (c 1 3 + 14) (sb (sb (x4 / 256)))) 1 3 (c 1 3 + 15)) 2 (c 1 3 + 15) (sb (sb x4))) 1 3 (c 1 3 + 16)) 2 (c 1 3 + 16) (sb (sb (x5 / 16777216)))) 1 3 (c 1 3 + 17)) 2 (c 1 3 + 17) (sb (sb (x5 / 65536)))) 1 3 (c 1 3 + 18)) 2 (c 1 3 + 18) (sb (sb (x5 / 256)))) 1 3 (c 1 3 + 19)) 2 (c 1 3 + 19) (sb (sb x5))) 1 3 (c 1 3 + 20)) 41 0 0) 43 (c 41 2) ((x1 / 16777216) % 256)) 41 2 (c 41 2 + 1)) 43 (c 41 2 + 1) ((x1 / 65536) % 256)) 41 2 (c 41 2 + 2)) 43 (c 41 2 + 2) ((x1 / 256) % 256)) 41 2 (c 41 2 + 3)) 43 (c 41 2 + 3) (x1 % 256)) 41 2 (c 41 2 + 4)) 43 (c 41 2 + 4) ((x2 / 16777216) % 256)) 41 2 (c 41 2 + 5)) 43 (c 41 2 + 5) ((x2 / 65536) % 256)) 41 2 (c 41 2 + 6)) 43 (c 41 2 + 6) ((x2 / 256) % 256)) 41 2 (c 41 2 + 7)) 43 (c 41 2 + 7) (x2 % 256)) 41 2 (c 41 2 + 8)) 43 (c 41 2 + 8) ((x3 / 16777216) % 256)) 41 2 (c 41 2 + 9)) 43 (c 41 2 + 9) ((x3 / 65536) % 256)) 41 2 (c 41 2 + 10)) 43 (c 41 2 + 10) ((x3 / 256) % 256)) 41 2 (c 41 2 + 11)) 43 (c 41 2 + 11) (x3 % 256)) 41 2 (c 41 2 + 12)) 43 (c 41 2 + 12) ((x4 / 16777216) % 256)) 41 2 (c 41 2 + 13)) 43 (c 41 2 + 13) ((x4 / 65536) % 256)) 41 2 (c 41 2 + 14)) 43 (c 41 2 + 14) ((x4 / 256) % 256)) 41 2 (c 41 2 + 15)) 43 (c 41 2 + 15) (x4 % 256)) 41 2 (c 41 2 + 16)) 43 (c 41 2 + 16) ((x5 / 16777216) % 256)) 41 2 (c 41 2 + 17)) 43 (c 41 2 + 17) ((x5 / 65536) % 256)) 41 2 (c 41 2 + 18)) 43 (c 41 2 + 18) ((x5 / 256) % 256)) 41 2 (c 41 2 + 19)) 43 (c 41 2 + 19) (x5 % 256)) 41 2 (c 41 2 + 20)) 2 (c 1 3 + 2) = (sb (sb (x1 / 256))) from ((up_c (by decide)).trans ((up_c (by decide)).trans ((up_c (by decide)).trans ((up_c (by decide)).trans ((up_c (by decide)).trans ((up_c (by decide)).trans ((up_c (by decide)).trans ((up_c (by decide)).trans ((up_c (by decide)).trans ((up_c (by decide)).trans ((up_c (by decide)).trans ((up_c (by decide)).trans ((up_c (by decide)).trans ((up_c (by decide)).trans ((up_c (by decide)).trans ((up_c (by decide)).trans ((up_c (by decide)).trans ((up_c (by decide)).trans ((up_c (by decide)).trans ((up_c (by decide)).trans ((up_c (by decide)).trans ((up_c (by decide)).trans ((up_c (by decide)).trans ((up_c (by decide)).trans ((up_c (by decide)).trans ((up_c (by decide)).trans ((up_c (by decide)).trans ((up_c (by decide)).trans ((up_c (by decide)).trans ((up_c (by decide)).trans ((up_c (by decide)).trans ((up_c (by decide)).trans ((up_c (by decide)).trans ((up_c (by decide)).trans ((up_c (by decide)).trans ((up_c (by decide)).trans ((up_c (by decide)).trans ((up_c (by decide)).trans ((up_c (by decide)).trans ((up_c (by decide)).trans ((up_c (by decide)).trans ((up_c (by decide)).trans ((up_n (by omega)).trans ((up_c (by decide)).trans ((up_n (by omega)).trans ((up_c (by decide)).trans ((up_n (by omega)).trans ((up_c (by decide)).trans ((up_n (by omega)).trans ((up_c (by decide)).trans ((up_n (by omega)).trans ((up_c (by decide)).trans ((up_n (by omega)).trans ((up_c (by decide)).trans ((up_n (by omega)).trans ((up_c (by decide)).trans ((up_n (by omega)).trans ((up_c (by decide)).trans ((up_n (by omega)).trans ((up_c (by decide)).trans ((up_n (by omega)).trans ((up_c (by decide)).trans ((up_n (by omega)).trans ((up_c (by decide)).trans ((up_n (by omega)).trans ((up_c (by decide)).trans ((up_n (by omega)).trans ((up_c (by decide)).trans ((up_n (by omega)).trans ((up_c (by decide)).trans ((up_n (by omega)).trans ((up_c (by decide)).trans ((up_n (by omega)).trans ((up_c (by decide)).trans ((up_n (by omega)).trans ((up_c (by decide)).trans (up_e rfl))))))))))))))))))))))))))))))))))))))))))))))))))))))))))))))))))))))))))))), show (up (up (up (up (up (up (up (up (up (up (up (up (up (up (up (up (up (up (up (up (up (up (up (up (up (up (up (up (up (up (up (up (up (up (up (up (up (up (up (up (up (up (up (up (up (up (up (up (up (up (up (up (up (up (up (up (up (up (up (up (up (up (up (up (up (up (up (up (up (up (up (up (up (up (up (up (up (up (up (up (up c 2 (c 1 3) (sb (sb (x1 / 16777216)))) 1 3 (c 1 3 + 1)) 2 (c 1 3 + 1) (sb (sb (x1 / 65536)))) 1 3 (c 1 3 + 2)) 2 (c 1 3 + 2) (sb (sb (x1 / 256)))) 1 3 (c 1 3 + 3)) 2 (c 1 3 + 3) (sb (sb x1))) 1 3 (c 1 3 + 4)) 2 (c 1 3 + 4) (sb (sb (x2 / 16777216)))) 1 3 (c 1 3 + 5)) 2 (c 1 3 + 5) (sb (sb (x2 / 65536)))) 1 3 (c 1 3 + 6)) 2 (c 1 3 + 6) (sb (sb (x2 / 256)))) 1 3 (c 1 3 + 7)) 2 (c 1 3 + 7) (sb (sb x2))) 1 3 (c 1 3 + 8)) 2 (c 1 3 + 8) (sb (sb (x3 / 16777216)))) 1 3 (c 1 3 + 9)) 2 (c 1 3 + 9) (sb (sb (x3 / 65536)))) 1 3 (c 1 3 + 10)) 2 (c 1 3 + 10) (sb (sb (x3 / 256)))) 1 3 (c 1 3 + 11)) 2 (c 1 3 + 11) (sb (sb x3))) 1 3 (c 1 3 + 12)) 2 (c 1 3 + 12) (sb (sb (x4 / 16777216)))) 1 3 (c 1 3 + 13)) 2 (c 1 3 + 13) (sb (sb (x4 / 65536)))) 1 3 (c 1 3 + 14)) 2 (c 1 3 + 14) (sb (sb (x4 / 256)))) 1 3 (c 1 3 + 15)) 2 (c 1 3 + 15) (sb (sb x4))) 1 3 (c 1 3 + 16)) 2 (c 1 3 + 16) (sb (sb (x5 / 16777216)))) 1 3 (c 1 3 + 17)) 2 (c 1 3 + 17) (sb (sb (x5 / 65536)))) 1 3 (c 1 3 + 18)) 2 (c 1 3 + 18) (sb (sb (x5 / 256)))) 1 3 (c 1 3 + 19)) 2 (c 1 3 + 19) (sb (sb x5))) 1 3 (c 1 3 + 20)) 41 0 0) 43 (c 41 2) ((x1 / 16777216) % 256)) 41 2 (c 41 2 + 1)) 43 (c 41 2 + 1) ((x1 / 65536) % 256)) 41 2 (c 41 2 + 2)) 43 (c 41 2 + 2) ((x1 / 256) % 256)) 41 2 (c 41 2 + 3)) 43 (c 41 2 + 3) (x1 % 256)) 41 2 (c 41 2 + 4)) 43 (c 41 2 + 4) ((x2 / 16777216) % 256)) 41 2 (c 41 2 + 5)) 43 (c 41 2 + 5) ((x2 / 65536) % 256)) 41 2 (c 41 2 + 6)) 43 (c 41 2 + 6) ((x2 / 256) % 256)) 41 2 (c 41 2 + 7)) 43 (c 41 2 + 7) (x2 % 256)) 41 2 (c 41 2 + 8)) 43 (c 41 2 + 8) ((x3 / 16777216) % 256)) 41 2 (c 41 2 + 9)) 43 (c 41 2 + 9) ((x3 / 65536) % 256)) 41 2 (c 41 2 + 10)) 43 (c 41 2 + 10) ((x3 / 256) % 256)) 41 2 (c 41 2 + 11)) 43 (c 41 2 + 11) (x3 % 256)) 41 2 (c 41 2 + 12)) 43 (c 41 2 + 12) ((x4 / 16777216) % 256)) 41 2 (c 41 2 + 13)) 43 (c 41 2 + 13) ((x4 / 65536) % 256)) 41 2 (c 41 2 + 14)) 43 (c 41 2 + 14) ((x4 / 256) % 256)) 41 2 (c 41 2 + 15)) 43 (c 41 2 + 15) (x4 % 256)) 41 2 (c 41 2 + 16)) 43 (c 41 2 + 16) ((x5 / 16777216) % 256)) 41 2 (c 41 2 + 17)) 43 (c 41 2 + 17) ((x5 / 65536) % 256)) 41 2 (c 41 2 + 18)) 43 (c 41 2 + 18) ((x5 / 256) % 256)) 41 2 (c 41 2 + 19)) 43 (c 41 2 + 19) (x5 % 256)) 41 2 (c 41 2 + 20)) 43 (c 1 3 + 2) = ((x1 / 256) % 256) from ((up_c (by decide)).trans ((up_n (by omega)).trans ((up_c (by decide)).trans ((up_n (by omega)).trans ((up_c (by decide)).trans ((up_n (by omega)).trans ((up_c (by decide)).trans ((up_n (by omega)).trans ((up_c (by decide)).trans ((up_n (by omega)).trans ((up_c (by decide)).trans ((up_n (by omega)).trans ((up_c (by decide)).trans ((up_n (by omega)).trans ((up_c (by decide)).trans ((up_n (by omega)).trans ((up_c (by decide)).trans ((up_n (by omega)).trans ((up_c (by decide)).trans ((up_n (by omega)).trans ((up_c (by decide)).trans ((up_n (by omega)).trans ((up_c (by decide)).trans ((up_n (by omega)).trans ((up_c (by decide)).trans ((up_n (by omega)).trans ((up_c (by decide)).trans ((up_n (by omega)).trans ((up_c (by decide)).trans ((up_n (by omega)).trans ((up_c (by decide)).trans ((up_n (by omega)).trans ((up_c (by decide)).trans ((up_n (by omega)).trans ((up_c (by decide)).trans (up_e (by omega)))))))))))))))))))))))))))))))))))))]
        exact ⟨((sb_mod (x1 / 256)).symm.trans (sb_mod (sb (x1 / 256))).symm), sb_rng (sb (x1 / 256))⟩
      by_cases e3 : j = c 1 3 + 3
      · rw [e3, show (up (up (up (up (up (up (up (up (up (up (up (up (up (up (up (up (up (up (up (up (up (up (up (up (up (up (up (up (up (up (up (up (up (up (up (up (up (up (up (up (up (up (up (up (up (up (up (up (up (up (up (up (up (up (up (up (up (up (up (up (up (up (up (up (up (up (up (up (up (up (up (up (up (up (up (up (up (up (up (up (up c 2 (c 1 3) (sb (sb (x1 / 16777216)))) 1 3 (c 1 3 + 1)) 2 (c 1 3 + 1) (sb (sb (x1 / 65536)))) 1 3 (c 1 3 + 2)) 2 (c 1 3 + 2) (sb (sb (x1 / 256)))) 1 3 (c 1 3 + 3)) 2 (c 1 3 + 3) (sb (sb x1))) 1 3 (c 1 3 + 4)) 2 (c 1 3 + 4) (sb (sb (x2 / 16777216)))) 1 3 (c 1 3 + 5)) 2 (c 1 3 + 5) (sb (sb (x2 / 65536)))) 1 3 (c 1 3 + 6)) 2 (c 1 3 + 6) (sb (sb (x2 / 256)))) 1 3 (c 1 3 + 7)) 2 (c 1 3 + 7) (sb (sb x2))) 1 3 (c 1 3 + 8)) 2 (c 1 3 + 8) (sb (sb (x3 / 16777216)))) 1 3 (c 1 3 + 9)) 2 (c 1 3 + 9) (sb (sb (x3 / 65536)))) 1 3 (c 1 3 + 10)) 2 (c 1 3 + 10) (sb (sb (x3 / 256)))) 1 3 (c 1 3 + 11)) 2 (c 1 3 + 11) (sb (sb x3))) 1 3 (c 1 3 + 12)) 2 (c 1 3 + 12) (sb (sb (x4 / 16777216)))) 1 3 (c 1 3 + 13)) 2 (c 1 3 + 13) (sb (sb (x4 / 65536)))) 1 3 (c 1 3 + 14)) 2 (c 1 3 + 14) (sb (sb (x4 / 256)))) 1 3 (c 1 3 + 15)) 2 (c 1 3 + 15) (sb (sb x4))) 1 3 (c 1 3 + 16)) 2 (c 1 3 + 16) (sb (sb (x5 / 16777216)))) 1 3 (c 1 3 + 17)) 2 (c 1 3 + 17) (sb (sb (x5 / 65536)))) 1 3 (c 1 3 + 18)) 2 (c 1 3 + 18) (sb (sb (x5 / 256)))) 1 3 (c 1 3 + 19)) 2 (c 1 3 + 19) (sb (sb x5))) 1 3 (c 1 3 + 20)) 41 0 0) 43 (c 41 2) ((x1 / 16777216) % 256)) 41 2 (c 41 2 + 1)) 43 (c 41 2 + 1) ((x1 / 65536) % 256)) 41 2 (c 41 2 + 2)) 43 (c 41 2 + 2) ((x1 / 256) % 256)) 41 2 (c 41 2 + 3)) 43 (c 41 2 + 3) (x1 % 256)) 41 2 (c 41 2 + 4)) 43 (c 41 2 + 4) ((x2 / 16777216) % 256)) 41 2 (c 41 2 + 5)) 43 (c 41 2 + 5) ((x2 / 65536) % 256)) 41 2 (c 41 2 + 6)) 43 (c 41 2 + 6) ((x2 / 256) % 256)) 41 2 (c 41 2 + 7)) 43 (c 41 2 + 7) (x2 % 256)) 41 2 (c 41 2 + 8)) 43 (c 41 2 + 8) ((x3 / 16777216) % 256)) 41 2 (c 41 2 + 9)) 43 (c 41 2 + 9) ((x3 / 65536) % 256)) 41 2 (c 41 2 + 10)) 43 (c 41 2 + 10) ((x3 / 256) % 256)) 41 2 (c 41 2 + 11)) 43 (c 41 2 + 11) (x3 % 256)) 41 2 (c 41 2 + 12)) 43 (c 41 2 + 12) ((x4 / 16777216) % 256)) 41 2 (c 41 2 + 13)) 43 (c 41 2 + 13) ((x4 / 65536) % 256)) 41 2 (c 41 2 + 14)) 43 (c 41 2 + 14) ((x4 / 256) % 256)) 41 2 (c 41 2 + 15)) 43 (c 41 2 + 15) (x4 % 256)) 41 2 (c 41 2 + 16)) 43 (c 41 2 + 16) ((x5 / 16777216) % 256)) 41 2 (c 41 2 + 17)) 43 (c 41 2 + 17) ((x5 / 65536) % 256)) 41 2 (c 41 2 + 18)) 43 (c 41 2 + 18) ((x5 / 256) % 256)) 41 2 (c 41 2 + 19)) 43 (c 41 2 + 19) (x5 % 256)) 41 2 (c 41 2 + 20)) 2 (c 1 3 + 3) = (sb (sb x1)) from ((up_c (by decide)).trans ((up_c (by decide)).trans ((up_c (by decide)).trans ((up_c (by decide)).trans ((up_c (by decide)).trans ((up_c (by decide)).trans ((up_c (by decide)).trans ((up_c (by decide)).trans ((up_c (by decide)).trans ((up_c (by decide)).trans ((up_c (by decide)).trans ((up_c (by decide)).trans ((up_c (by decide)).trans ((up_c (by decide)).trans ((up_c (by decide)).trans ((up_c (by decide)).trans ((up_c (by decide)).trans ((up_c (by decide)).trans ((up_c (by decide)).trans ((up_c (by decide)).trans ((up_c (by decide)).trans ((up_c (by decide)).trans ((up_c (by decide)).trans ((up_c (by decide)).trans ((up_c (by decide)).trans ((up_c (by decide)).trans ((up_c (by decide)).trans ((up_c (by decide)).trans ((up_c (by decide)).trans ((up_c (by decide)).trans ((up_c (by decide)).trans ((up_c (by decide)).trans ((up_c (by decide)).trans ((up_c (by decide)).trans ((up_c (by decide)).trans ((up_c (by decide)).trans ((up_c (by decide)).trans ((up_c (by decide)).trans ((up_c (by decide)).trans ((up_c (by decide)).trans ((up_c (by decide)).trans ((up_c (by decide)).trans ((up_n (by omega)).trans ((up_c (by decide)).trans ((up_n (by omega)).trans ((up_c (by decide)).trans ((up_n (by omega)).trans ((up_c (by decide)).trans ((up_n (by omega)).trans ((up_c (by decide)).trans ((up_n (by omega)).trans ((up_c (by decide)).trans ((up_n (by omega)).trans ((up_c (by decide)).trans ((up_n (by omega)).trans ((up_c (by decide)).trans ((up_n (by omega)).trans ((up_c (by decide)).trans ((up_n (by omega)).trans ((up_c (by decide)).trans ((up_n (by omega)).trans ((up_c (by decide)).trans ((up_n (by omega)).trans ((up_c (by decide)).trans ((up_n (by omega)).trans ((up_c (by decide)).trans ((up_n (by omega)).trans ((up_c (by decide)).trans ((up_n (by omega)).trans ((up_c (by decide)).trans ((up_n (by omega)).trans ((up_c (by decide)).trans ((up_n (by omega)).trans ((up_c (by decide)).trans (up_e rfl))))))))))))))))))))))))))))))))))))))))))))))))))))))))))))))))))))))))))), show (up (up (up (up (up (up (up (up (up (up (up (up (up (up (up (up (up (up (up (up (up (up (up (up (up (up (up (up (up (up (up (up (up (up (up (up (up (up (up (up (up (up (up (up (up (up (up (up (up (up (up (up (up (up (up (up (up (up (up (up (up (up (up (up (up (up (up (up (up (up (up (up (up (up (up (up (up (up (up (up (up c 2 (c 1 3) (sb (sb (x1 / 16777216)))) 1 3 (c 1 3 + 1)) 2 (c 1 3 + 1) (sb (sb (x1 / 65536)))) 1 3 (c 1 3 + 2)) 2 (c 1 3 + 2) (sb (sb (x1 / 256)))) 1 3 (c 1 3 + 3)) 2 (c 1 3 + 3) (sb (sb x1))) 1 3 (c 1 3 + 4)) 2 (c 1 3 + 4) (sb (sb (x2 / 16777216)))) 1 3 (c 1 3 + 5)) 2 (c 1 3 + 5) (sb (sb (x2 / 65536)))) 1 3 (c 1 3 + 6)) 2 (c 1 3 + 6) (sb (sb (x2 / 256)))) 1 3 (c 1 3 + 7)) 2 (c 1 3 + 7) (sb (sb x2))) 1 3 (c 1 3 + 8)) 2 (c 1 3 + 8) (sb (sb (x3 / 16777216)))) 1 3 (c 1 3 + 9)) 2 (c 1 3 + 9) (sb (sb (x3 / 65536)))) 1 3 (c 1 3 + 10)) 2 (c 1 3 + 10) (sb (sb (x3 / 256)))) 1 3 (c 1 3 + 11)) 2 (c 1 3 + 11) (sb (sb x3))) 1 3 (c 1 3 + 12)) 2 (c 1 3 + 12) (sb (sb (x4 / 16777216)))) 1 3 (c 1 3 + 13)) 2 (c 1 3 + 13) (sb (sb (x4 / 65536)))) 1 3 (c 1 3 + 14)) 2 (c 1 3 + 14) (sb (sb (x4 / 256)))) 1 3 (c 1 3 + 15)) 2 (c 1 3 + 15) (sb (sb x4))) 1 3 (c 1 3 + 16)) 2 (c 1 3 + 16) (sb (sb (x5 / 16777216)))) 1 3 (c 1 3 + 17)) 2 (c 1 3 + 17) (sb (sb (x5 / 65536)))) 1 3 (c 1 3 + 18)) 2 (c 1 3 + 18) (sb (sb (x5 / 256)))) 1 3 (c 1 3 + 19)) 2 (c 1 3 + 19) (sb (sb x5))) 1 3 (c 1 3 + 20)) 41 0 0) 43 (c 41 2) ((x1 / 16777216) % 256)) 41 2 (c 41 2 + 1)) 43 (c 41 2 + 1) ((x1 / 65536) % 256)) 41 2 (c 41 2 + 2)) 43 (c 41 2 + 2) ((x1 / 256) % 256)) 41 2 (c 41 2 + 3)) 43 (c 41 2 + 3) (x1 % 256)) 41 2 (c 41 2 + 4)) 43 (c 41 2 + 4) ((x2 / 16777216) % 256)) 41 2 (c 41 2 + 5)) 43 (c 41 2 + 5) ((x2 / 65536) % 256)) 41 2 (c 41 2 + 6)) 43 (c 41 2 + 6) ((x2 / 256) % 256)) 41 2 (c 41 2 + 7)) 43 (c 41 2 + 7) (x2 % 256)) 41 2 (c 41 2 + 8)) 43 (c 41 2 + 8) ((x3 / 16777216) % 256)) 41 2 (c 41 2 + 9)) 43 (c 41 2 + 9) ((x3 / 65536) % 256)) 41 2 (c 41 2 + 10)) 43 (c 41 2 + 10) ((x3 / 256) % 256)) 41 2 (c 41 2 + 11)) 43 (c 41 2 + 11) (x3 % 256)) 41 2 (c 41 2 + 12)) 43 (c 41 2 + 12) ((x4 / 16777216) % 256)) 41 2 (c 41 2 + 13)) 43 (c 41 2 + 13) ((x4 / 65536) % 256)) 41 2 (c 41 2 + 14)) 43 (c 41 2 + 14) ((x4 / 256) % 256)) 41 2 (c 41 2 + 15)) 43 (c 41 2 + 15) (x4 % 256)) 41 2 (c 41 2 + 16)) 43 (c 41 2 + 16) ((x5 / 16777216) % 256)) 41 2 (c 41 2 + 17)) 43 (c 41 2 + 17) ((x5 / 65536) % 256)) 41 2 (c 41 2 + 18)) 43 (c 41 2 + 18) ((x5 / 256) % 256)) 41 2 (c 41 2 + 19)) 43 (c 41 2 + 19) (x5 % 256)) 41 2 (c 41 2 + 20)) 43 (c 1 3 + 3) = (x1 % 256) from ((up_c (by decide)).trans ((up_n (by omega)).trans ((up_c (by decide)).trans ((up_n (by omega)).trans ((up_c (by decide)).trans ((up_n (by omega)).trans ((up_c (by decide)).trans ((up_n (by omega)).trans ((up_c (by decide)).trans ((up_n (by omega)).trans ((up_c (by decide)).trans ((up_n (by omega)).trans ((up_c (by decide)).trans ((up_n (by omega)).trans ((up_c (by decide)).trans ((up_n (by omega)).trans ((up_c (by decide)).trans ((up_n (by omega)).trans ((up_c (by decide)).trans ((up_n (by omega)).trans ((up_c (by decide)).trans ((up_n (by omega)).trans ((up_c (by decide)).trans ((up_n (by omega)).trans ((up_c (by decide)).trans ((up_n (by omega)).trans ((up_c (by decide)).trans ((up_n (by omega)).trans ((up_c (by decide)).trans ((up_n (by omega)).trans ((up_c (by decide)).trans ((up_n (by omega)).trans ((up_c (by decide)).trans (up_e (by omega)))))))))))))))))))))))))))))))))))]
        exact ⟨((sb_mod x1).symm.trans (sb_mod (sb x1)).symm), sb_rng (sb x1)⟩
      by_cases e4 : j = c 1 3 + 4
      · rw [e4, show (up (up (up (up (up (up (up (up (up (up (up (up (up (up (up (up (up (up (up (up (up (up (up (up (up (up (up (up (up (up (up (up (up (up (up (up (up (up (up (up (up (up (up (up (up (up (up (up (up (up (up (up (up (up (up (up (up (up (up (up (up (up (up (up (up (up (up (up (up (up (up (up (up (up (up (up (up (up (up (up (up c 2 (c 1 3) (sb (sb (x1 / 16777216)))) 1 3 (c 1 3 + 1)) 2 (c 1 3 + 1) (sb (sb (x1 / 65536)))) 1 3 (c 1 3 + 2)) 2 (c 1 3 + 2) (sb (sb (x1 / 256)))) 1 3 (c 1 3 + 3)) 2 (c 1 3 + 3) (sb (sb x1))) 1 3 (c 1 3 + 4)) 2 (c 1 3 + 4) (sb (sb (x2 / 16777216)))) 1 3 (c 1 3 + 5)) 2 (c 1 3 + 5) (sb (sb (x2 / 65536)))) 1 3 (c 1 3 + 6)) 2 (c 1 3 + 6) (sb (sb (x2 / 256)))) 1 3 (c 1 3 + 7)) 2 (c 1 3 + 7) (sb (sb x2))) 1 3 (c 1 3 + 8)) 2 (c 1 3 + 8) (sb (sb (x3 / 16777216)))) 1 3 (c 1 3 + 9)) 2 (c 1 3 + 9) (sb (sb (x3 / 65536)))) 1 3 (c 1 3 + 10)) 2 (c 1 3 + 10) (sb (sb (x3 / 256)))) 1 3 (c 1 3 + 11)) 2 (c 1 3 + 11) (sb (sb x3))) 1 3 (c 1 3 + 12)) 2 (c 1 3 + 12) (sb (sb (x4 / 16777216)))) 1 3 (c 1 3 + 13)) 2 (c 1 3 + 13) (sb (sb (x4 / 65536)))) 1 3 (c 1 3 + 14)) 2 (c 1 3 + 14) (sb (sb (x4 / 256)))) 1 3 (c 1 3 + 15)) 2 (c 1 3 + 15) (sb (sb x4))) 1 3 (c 1 3 + 16)) 2 (c 1 3 + 16) (sb (sb (x5 / 16777216)))) 1 3 (c 1 3 + 17)) 2 (c 1 3 + 17) (sb (sb (x5 / 65536)))) 1 3 (c 1 3 + 18)) 2 (c 1 3 + 18) (sb (sb (x5 / 256)))) 1 3 (c 1 3 + 19)) 2 (c 1 3 + 19) (sb (sb x5))) 1 3 (c 1 3 + 20)) 41 0 0) 43 (c 41 2) ((x1 / 16777216) % 256)) 41 2 (c 41 2 + 1)) 43 (c 41 2 + 1) ((x1 / 65536) % 256)) 41 2 (c 41 2 + 2)) 43 (c 41 2 + 2) ((x1 / 256) % 256)) 41 2 (c 41 2 + 3)) 43 (c 41 2 + 3) (x1 % 256)) 41 2 (c 41 2 + 4)) 43 (c 41 2 + 4) ((x2 / 16777216) % 256)) 41 2 (c 41 2 + 5)) 43 (c 41 2 + 5) ((x2 / 65536) % 256)) 41 2 (c 41 2 + 6)) 43 (c 41 2 + 6) ((x2 / 256) % 256)) 41 2 (c 41 2 + 7)) 43 (c 41 2 + 7) (x2 % 256)) 41 2 (c 41 2 + 8)) 43 (c 41 2 + 8) ((x3 / 16777216) % 256)) 41 2 (c 41 2 + 9)) 43 (c 41 2 + 9) ((x3 / 65536) % 256)) 41 2 (c 41 2 + 10)) 43 (c 41 2 + 10) ((x3 / 256) % 256)) 41 2 (c 41 2 + 11)) 43 (c 41 2 + 11) (x3 % 256)) 41 2 (c 41 2 + 12)) 43 (c 41 2 + 12) ((x4 / 16777216) % 256)) 41 2 (c 41 2 + 13)) 43 (c 41 2 + 13) ((x4 / 65536) % 256)) 41 2 (c 41 2 + 14)) 43 (c 41 2 + 14) ((x4 / 256) % 256)) 41 2 (c 41 2 + 15)) 43 (c 41 2 + 15) (x4 % 256)) 41 2 (c 41 2 + 16)) 43 (c 41 2 + 16) ((x5 / 16777216) % 256)) 41 2 (c 41 2 + 17)) 43 (c 41 2 + 17) ((x5 / 65536) % 256)) 41 2 (c 41 2 + 18)) 43 (c 41 2 + 18) ((x5 / 256) % 256)) 41 2 (c 41 2 + 19)) 43 (c 41 2 + 19) (x5 % 256)) 41 2 (c 41 2 + 20)) 2 (c 1 3 + 4) = (sb (sb (x2 / 16777216))) from ((up_c (by decide)).trans ((up_c (by decide)).trans ((up_c (by decide)).trans ((up_c (by decide)).trans ((up_c (by decide)).trans ((up_c (by decide)).trans ((up_c (by decide)).trans ((up_c (by decide)).trans ((up_c (by decide)).trans ((up_c (by decide)).trans ((up_c (by decide)).trans ((up_c (by decide)).trans ((up_c (by decide)).trans ((up_c (by decide)).trans ((up_c (by decide)).trans ((up_c (by decide)).trans ((up_c (by decide)).trans ((up_c (by decide)).trans ((up_c (by decide)).trans ((up_c (by decide)).trans ((up_c (by decide)).trans ((up_c (by decide)).trans ((up_c (by decide)).trans ((up_c (by decide)).trans ((up_c (by decide)).trans ((up_c (by decide)).trans ((up_c (by decide)).trans ((up_c (by decide)).trans ((up_c (by decide)).trans ((up_c (by decide)).trans ((up_c (by decide)).trans ((up_c (by decide)).trans ((up_c (by decide)).trans ((up_c (by decide)).trans ((up_c (by decide)).trans ((up_c (by decide)).trans ((up_c (by decide)).trans ((up_c (by decide)).trans ((up_c (by decide)).trans ((up_c (by decide)).trans ((up_c (by decide)).trans ((up_c (by decide)).trans ((up_n (by omega)).trans ((up_c (by decide)).trans ((up_n (by omega)).trans ((up_c (by decide)).trans ((up_n (by omega)).trans ((up_c (by decide)).trans ((up_n (by omega)).trans ((up_c (by decide)).trans ((up_n (by omega)).trans ((up_c (by decide)).trans ((up_n (by omega)).trans ((up_c (by decide)).trans ((up_n (by omega)).trans ((up_c (by decide)).trans ((up_n (by omega)).trans ((up_c (by decide)).trans ((up_n (by omega)).trans ((up_c (by decide)).trans ((up_n (by omega)).trans ((up_c (by decide)).trans ((up_n (by omega)).trans ((up_c (by decide)).trans ((up_n (by omega)).trans ((up_c (by decide)).trans ((up_n (by omega)).trans ((up_c (by decide)).trans ((up_n (by omega)).trans ((up_c (by decide)).trans ((up_n (by omega)).trans ((up_c (by decide)).trans (up_e rfl))))))))))))))))))))))))))))))))))))))))))))))))))))))))))))))))))))))))), show (up (up (up (up (up (up (up (up (up (up (up (up (up (up (up (up (up (up (up (up (up (up (up (up (up (up (up (up (up (up (up (up (up (up (up (up (up (up (up (up (up (up (up (up (up (up (up (up (up (up (up (up (up (up (up (up (up (up (up (up (up (up (up (up (up (up (up (up (up (up (up (up (up (up (up (up (up (up (up (up (up c 2 (c 1 3) (sb (sb (x1 / 16777216)))) 1 3 (c 1 3 + 1)) 2 (c 1 3 + 1) (sb (sb (x1 / 65536)))) 1 3 (c 1 3 + 2)) 2 (c 1 3 + 2) (sb (sb (x1 / 256)))) 1 3 (c 1 3 + 3)) 2 (c 1 3 + 3) (sb (sb x1))) 1 3 (c 1 3 + 4)) 2 (c 1 3 + 4) (sb (sb (x2 / 16777216)))) 1 3 (c 1 3 + 5)) 2 (c 1 3 + 5) (sb (sb (x2 / 65536)))) 1 3 (c 1 3 + 6)) 2 (c 1 3 + 6) (sb (sb (x2 / 256)))) 1 3 (c 1 3 + 7)) 2 (c 1 3 + 7) (sb (sb x2))) 1 3 (c 1 3 + 8)) 2 (c 1 3 + 8) (sb (sb (x3 / 16777216)))) 1 3 (c 1 3 + 9)) 2 (c 1 3 + 9) (sb (sb (x3 / 65536)))) 1 3 (c 1 3 + 10)) 2 (c 1 3 + 10) (sb (sb (x3 / 256)))) 1 3 (c 1 3 + 11)) 2 (c 1 3 + 11) (sb (sb x3))) 1 3 (c 1 3 + 12)) 2 (c 1 3 + 12) (sb (sb (x4 / 16777216)))) 1 3 (c 1 3 + 13)) 2 (c 1 3 + 13) (sb (sb (x4 / 65536)))) 1 3 (c 1 3 + 14)) 2 (c 1 3 + 14) (sb (sb (x4 / 256)))) 1 3 (c 1 3 + 15)) 2 (c 1 3 + 15) (sb (sb x4))) 1 3 (c 1 3 + 16)) 2 (c 1 3 + 16) (sb (sb (x5 / 16777216)))) 1 3 (c 1 3 + 17)) 2 (c 1 3 + 17) (sb (sb (x5 / 65536)))) 1 3 (c 1 3 + 18)) 2 (c 1 3 + 18) (sb (sb (x5 / 256)))) 1 3 (c 1 3 + 19)) 2 (c 1 3 + 19) (sb (sb x5))) 1 3 (c 1 3 + 20)) 41 0 0) 43 (c 41 2) ((x1 / 16777216) % 256)) 41 2 (c 41 2 + 1)) 43 (c 41 2 + 1) ((x1 / 65536) % 256)) 41 2 (c 41 2 + 2)) 43 (c 41 2 + 2) ((x1 / 256) % 256)) 41 2 (c 41 2 + 3)) 43 (c 41 2 + 3) (x1 % 256)) 41 2 (c 41 2 + 4)) 43 (c 41 2 + 4) ((x2 / 16777216) % 256)) 41 2 (c 41 2 + 5)) 43 (c 41 2 + 5) ((x2 / 65536) % 256)) 41 2 (c 41 2 + 6)) 43 (c 41 2 + 6) ((x2 / 256) % 256)) 41 2 (c 41 2 + 7)) 43 (c 41 2 + 7) (x2 % 256)) 41 2 (c 41 2 + 8)) 43 (c 41 2 + 8) ((x3 / 16777216) % 256)) 41 2 (c 41 2 + 9)) 43 (c 41 2 + 9) ((x3 / 65536) % 256)) 41 2 (c 41 2 + 10)) 43 (c 41 2 + 10) ((x3 / 256) % 256)) 41 2 (c 41 2 + 11)) 43 (c 41 2 + 11) (x3 % 256)) 41 2 (c 41 2 + 12)) 43 (c 41 2 + 12) ((x4 / 16777216) % 256)) 41 2 (c 41 2 + 13)) 43 (c 41 2 + 13) ((x4 / 65536) % 256)) 41 2 (c 41 2 + 14)) 43 (c 41 2 + 14) ((x4 / 256) % 256)) 41 2 (c 41 2 + 15)) 43 (c 41 2 + 15) (x4 % 256)) 41 2 (c 41 2 + 16)) 43 (c 41 2 + 16) ((x5 / 16777216) % 256)) 41 2 (c 41 2 + 17)) 43 (c 41 2 + 17) ((x5 / 65536) % 256)) 41 2 (c 41 2 + 18)) 43 (c 41 2 + 18) ((x5 / 256) % 256)) 41 2 (c 41 2 + 19)) 43 (c 41 2 + 19) (x5 % 256)) 41 2 (c 41 2 + 20)) 43 (c 1 3 + 4) = ((x2 / 16777216) % 256) from ((up_c (by decide)).trans ((up_n (by omega)).trans ((up_c (by decide)).trans ((up_n (by omega)).trans ((up_c (by decide)).trans ((up_n (by omega)).trans ((up_c (by decide)).trans ((up_n (by omega)).trans ((up_c (by decide)).trans ((up_n (by omega)).trans ((up_c (by decide)).trans ((up_n (by omega)).trans ((up_c (by decide)).trans ((up_n (by omega)).trans ((up_c (by decide)).trans ((up_n (by omega)).trans ((up_c (by decide)).trans ((up_n (by omega)).trans ((up_c (by decide)).trans ((up_n (by omega)).trans ((up_c (by decide)).trans ((up_n (by omega)).trans ((up_c (by decide)).trans ((up_n (by omega)).trans ((up_c (by decide)).trans ((up_n (by omega)).trans ((up_c (by decide)).trans ((up_n (by omega)).trans ((up_c (by decide)).trans ((up_n (by omega)).trans ((up_c (by decide)).trans (up_e (by omega)))))))))))))))))))))))))))))))))]
        exact ⟨((sb_mod (x2 / 16777216)).symm.trans (sb_mod (sb (x2 / 16777216))).symm), sb_rng (sb (x2 / 16777216))⟩
      by_cases e5 : j = c 1 3 + 5
      · rw [e5, show (up (up (up (up (up (up (up (up (up (up (up (up (up (up (up (up (up (up (up (up (up (up (up (up (up (up (up (up (up (up (up (up (up (up (up (up (up (up (up (up (up (up (up (up (up (up (up (up (up (up (up (up (up (up (up (up (up (up (up (up (up (up (up (up (up (up (up (up (up (up (up (up (up (up (up (up (up (up (up (up (up c 2 (c 1 3) (sb (sb (x1 / 16777216)))) 1 3 (c 1 3 + 1)) 2 (c 1 3 + 1) (sb (sb (x1 / 65536)))) 1 3 (c 1 3 + 2)) 2 (c 1 3 + 2) (sb (sb (x1 / 256)))) 1 3 (c 1 3 + 3)) 2 (c 1 3 + 3) (sb (sb x1))) 1 3 (c 1 3 + 4)) 2 (c 1 3 + 4) (sb (sb (x2 / 16777216)))) 1 3 (c 1 3 + 5)) 2 (c 1 3 + 5) (sb (sb (x2 / 65536)))) 1 3 (c 1 3 + 6)) 2 (c 1 3 + 6) (sb (sb (x2 / 256)))) 1 3 (c 1 3 + 7)) 2 (c 1 3 + 7) (sb (sb x2))) 1 3 (c 1 3 + 8)) 2 (c 1 3 + 8) (sb (sb (x3 / 16777216)))) 1 3 (c 1 3 + 9)) 2 (c 1 3 + 9) (sb (sb (x3 / 65536)))) 1 3 (c 1 3 + 10)) 2 (c 1 3 + 10) (sb (sb (x3 / 256)))) 1 3 (c 1 3 + 11)) 2 (c 1 3 + 11) (sb (sb x3))) 1 3 (c 1 3 + 12)) 2 (c 1 3 + 12) (sb (sb (x4 / 16777216)))) 1 3 (c 1 3 + 13)) 2 (c 1 3 + 13) (sb (sb (x4 / 65536)))) 1 3 (c 1 3 + 14)) 2 (c 1 3 + 14) (sb (sb (x4 / 256)))) 1 3 (c 1 3 + 15)) 2 (c 1 3 + 15) (sb (sb x4))) 1 3 (c 1 3 + 16)) 2 (c 1 3 + 16) (sb (sb (x5 / 16777216)))) 1 3 (c 1 3 + 17)) 2 (c 1 3 + 17) (sb (sb (x5 / 65536)))) 1 3 (c 1 3 + 18)) 2 (c 1 3 + 18) (sb (sb (x5 / 256)))) 1 3 (c 1 3 + 19)) 2 (c 1 3 + 19) (sb (sb x5))) 1 3 (c 1 3 + 20)) 41 0 0) 43 (c 41 2) ((x1 / 16777216) % 256)) 41 2 (c 41 2 + 1)) 43 (c 41 2 + 1) ((x1 / 65536) % 256)) 41 2 (c 41 2 + 2)) 43 (c 41 2 + 2) ((x1 / 256) % 256)) 41 2 (c 41 2 + 3)) 43 (c 41 2 + 3) (x1 % 256)) 41 2 (c 41 2 + 4)) 43 (c 41 2 + 4) ((x2 / 16777216) % 256)) 41 2 (c 41 2 + 5)) 43 (c 41 2 + 5) ((x2 / 65536) % 256)) 41 2 (c 41 2 + 6)) 43 (c 41 2 + 6) ((x2 / 256) % 256)) 41 2 (c 41 2 + 7)) 43 (c 41 2 + 7) (x2 % 256)) 41 2 (c 41 2 + 8)) 43 (c 41 2 + 8) ((x3 / 16777216) % 256)) 41 2 (c 41 2 + 9)) 43 (c 41 2 + 9) ((x3 / 65536) % 256)) 41 2 (c 41 2 + 10)) 43 (c 41 2 + 10) ((x3 / 256) % 256)) 41 2 (c 41 2 + 11)) 43 (c 41 2 + 11) (x3 % 256)) 41 2 (c 41 2 + 12)) 43 (c 41 2 + 12) ((x4 / 16777216) % 256)) 41 2 (c 41 2 + 13)) 43 (c 41 2 + 13) ((x4 / 65536) % 256)) 41 2 (c 41 2 + 14)) 43 (c 41 2 + 14) ((x4 / 256) % 256)) 41 2 (c 41 2 + 15)) 43 (c 41 2 + 15) (x4 % 256)) 41 2 (c 41 2 + 16)) 43 (c 41 2 + 16) ((x5 / 16777216) % 256)) 41 2 (c 41 2 + 17)) 43 (c 41 2 + 17) ((x5 / 65536) % 256)) 41 2 (c 41 2 + 18)) 43 (c 41 2 + 18) ((x5 / 256) % 256)) 41 2 (c 41 2 + 19)) 43 (c 41 2 + 19) (x5 % 256)) 41 2 (c 41 2 + 20)) 2 (c 1 3 + 5) = (sb (sb (x2 / 65536))) from ((up_c (by decide)).trans ((up_c (by decide)).trans ((up_c (by decide)).trans ((up_c (by decide)).trans ((up_c (by decide)).trans ((up_c (by decide)).trans ((up_c (by decide)).trans ((up_c (by decide)).trans ((up_c (by decide)).trans ((up_c (by decide)).trans ((up_c (by decide)).trans ((up_c (by decide)).trans ((up_c (by decide)).trans ((up_c (by decide)).trans ((up_c (by decide)).trans ((up_c (by decide)).trans ((up_c (by decide)).trans ((up_c (by decide)).trans ((up_c (by decide)).trans ((up_c (by decide)).trans ((up_c (by decide)).trans ((up_c (by decide)).trans ((up_c (by decide)).trans ((up_c (by decide)).trans ((up_c (by decide)).trans ((up_c (by decide)).trans ((up_c (by decide)).trans ((up_c (by decide)).trans ((up_c (by decide)).trans ((up_c (by decide)).trans ((up_c (by decide)).trans ((up_c (by decide)).trans ((up_c (by decide)).trans ((up_c (by decide)).trans ((up_c (by decide)).trans ((up_c (by decide)).trans ((up_c (by decide)).trans ((up_c (by decide)).trans ((up_c (by decide)).trans ((up_c (by decide)).trans ((up_c (by decide)).trans ((up_c (by decide)).trans ((up_n (by omega)).trans ((up_c (by decide)).trans ((up_n (by omega)).trans ((up_c (by decide)).trans ((up_n (by omega)).trans ((up_c (by decide)).trans ((up_n (by omega)).trans ((up_c (by decide)).trans ((up_n (by omega)).trans ((up_c (by decide)).trans ((up_n (by omega)).trans ((up_c (by decide)).trans ((up_n (by omega)).trans ((up_c (by decide)).trans ((up_n (by omega)).trans ((up_c (by decide)).trans ((up_n (by omega)).trans ((up_c (by decide)).trans ((up_n (by omega)).trans ((up_c (by decide)).trans ((up_n (by omega)).trans ((up_c (by decide)).trans ((up_n (by omega)).trans ((up_c (by decide)).trans ((up_n (by omega)).trans ((up_c (by decide)).trans ((up_n (by omega)).trans ((up_c (by decide)).trans (up_e rfl))))))))))))))))))))))))))))))))))))))))))))))))))))))))))))))))))))))), show (up (up (up (up (up (up (up (up (up (up (up (up (up (up (up (up (up (up (up (up (up (up (up (up (up (up (up (up (up (up (up (up (up (up (up (up (up (up (up (up (up (up (up (up (up (up (up (up (up (up (up (up (up (up (up (up (up (up (up (up (up (up (up (up (up (up (up (up (up (up (up (up (up (up (up (up (up (up (up (up (up c 2 (c 1 3) (sb (sb (x1 / 16777216)))) 1 3 (c 1 3 + 1)) 2 (c 1 3 + 1) (sb (sb (x1 / 65536)))) 1 3 (c 1 3 + 2)) 2 (c 1 3 + 2) (sb (sb (x1 / 256)))) 1 3 (c 1 3 + 3)) 2 (c 1 3 + 3) (sb (sb x1))) 1 3 (c 1 3 + 4)) 2 (c 1 3 + 4) (sb (sb (x2 / 16777216)))) 1 3 (c 1 3 + 5)) 2 (c 1 3 + 5) (sb (sb (x2 / 65536)))) 1 3 (c 1 3 + 6)) 2 (c 1 3 + 6) (sb (sb (x2 / 256)))) 1 3 (c 1 3 + 7)) 2 (c 1 3 + 7) (sb (sb x2))) 1 3 (c 1 3 + 8)) 2 (c 1 3 + 8) (sb (sb (x3 / 16777216)))) 1 3 (c 1 3 + 9)) 2 (c 1 3 + 9) (sb (sb (x3 / 65536)))) 1 3 (c 1 3 + 10)) 2 (c 1 3 + 10) (sb (sb (x3 / 256)))) 1 3 (c 1 3 + 11)) 2 (c 1 3 + 11) (sb (sb x3))) 1 3 (c 1 3 + 12)) 2 (c 1 3 + 12) (sb (sb (x4 / 16777216)))) 1 3 (c 1 3 + 13)) 2 (c 1 3 + 13) (sb (sb (x4 / 65536)))) 1 3 (c 1 3 + 14)) 2 (c 1 3 + 14) (sb (sb (x4 / 256)))) 1 3 (c 1 3 + 15)) 2 (c 1 3 + 15) (sb (sb x4))) 1 3 (c 1 3 + 16)) 2 (c 1 3 + 16) (sb (sb (x5 / 16777216)))) 1 3 (c 1 3 + 17)) 2 (c 1 3 + 17) (sb (sb (x5 / 65536)))) 1 3 (c 1 3 + 18)) 2 (c 1 3 + 18) (sb (sb (x5 / 256)))) 1 3 (c 1 3 + 19)) 2 (c 1 3 + 19) (sb (sb x5))) 1 3 (c 1 3 + 20)) 41 0 0) 43 (c 41 2) ((x1 / 16777216) % 256)) 41 2 (c 41 2 + 1)) 43 (c 41 2 + 1) ((x1 / 65536) % 256)) 41 2 (c 41 2 + 2)) 43 (c 41 2 + 2) ((x1 / 256) % 256)) 41 2 (c 41 2 + 3)) 43 (c 41 2 + 3) (x1 % 256)) 41 2 (c 41 2 + 4)) 43 (c 41 2 + 4) ((x2 / 16777216) % 256)) 41 2 (c 41 2 + 5)) 43 (c 41 2 + 5) ((x2 / 65536) % 256)) 41 2 (c 41 2 + 6)) 43 (c 41 2 + 6) ((x2 / 256) % 256)) 41 2 (c 41 2 + 7)) 43 (c 41 2 + 7) (x2 % 256)) 41 2 (c 41 2 + 8)) 43 (c 41 2 + 8) ((x3 / 16777216) % 256)) 41 2 (c 41 2 + 9)) 43 (c 41 2 + 9) ((x3 / 65536) % 256)) 41 2 (c 41 2 + 10)) 43 (c 41 2 + 10) ((x3 / 256) % 256)) 41 2 (c 41 2 + 11)) 43 (c 41 2 + 11) (x3 % 256)) 41 2 (c 41 2 + 12)) 43 (c 41 2 + 12) ((x4 / 16777216) % 256)) 41 2 (c 41 2 + 13)) 43 (c 41 2 + 13) ((x4 / 65536) % 256)) 41 2 (c 41 2 + 14)) 43 (c 41 2 + 14) ((x4 / 256) % 256)) 41 2 (c 41 2 + 15)) 43 (c 41 2 + 15) (x4 % 256)) 41 2 (c 41 2 + 16)) 43 (c 41 2 + 16) ((x5 / 16777216) % 256)) 41 2 (c 41 2 + 17)) 43 (c 41 2 + 17) ((x5 / 65536) % 256)) 41 2 (c 41 2 + 18)) 43 (c 41 2 + 18) ((x5 / 256) % 256)) 41 2 (c 41 2 + 19)) 43 (c 41 2 + 19) (x5 % 256)) 41 2 (c 41 2 + 20)) 43 (c 1 3 + 5) = ((x2 / 65536) % 256) from ((up_c (by decide)).trans ((up_n (by omega)).trans ((up_c (by decide)).trans ((up_n (by omega)).trans ((up_c (by decide)).trans ((up_n (by omega)).trans ((up_c (by decide)).trans ((up_n (by omega)).trans ((up_c (by decide)).trans ((up_n (by omega)).trans ((up_c (by decide)).trans ((up_n (by omega)).trans ((up_c (by decide)).trans ((up_n (by omega)).trans ((up_c (by decide)).trans ((up_n (by omega)).trans ((up_c (by decide)).trans ((up_n (by omega)).trans ((up_c (by decide)).trans ((up_n (by omega)).trans ((up_c (by decide)).trans ((up_n (by omega)).trans ((up_c (by decide)).trans ((up_n (by omega)).trans ((up_c (by decide)).trans ((up_n (by omega)).trans ((up_c (by decide)).trans ((up_n (by omega)).trans ((up_c (by decide)).trans (up_e (by omega)))))))))))))))))))))))))))))))]
        exact ⟨((sb_mod (x2 / 65536)).symm.trans (sb_mod (sb (x2 / 65536))).symm), sb_rng (sb (x2 / 65536))⟩
      by_cases e6 : j = c 1 3 + 6
      · rw [e6, show (up (up (up (up (up (up (up (up (up (up (up (up (up (up (up (up (up (up (up (up (up (up (up (up (up (up (up (up (up (up (up (up (up (up (up (up (up (up (up (up (up (up (up (up (up (up (up (up (up (up (up (up (up (up (up (up (up (up (up (up (up (up (up (up (up (up (up (up (up (up (up (up (up (up (up (up (up (up (up (up (up c 2 (c 1 3) (sb (sb (x1 / 16777216)))) 1 3 (c 1 3 + 1)) 2 (c 1 3 + 1) (sb (sb (x1 / 65536)))) 1 3 (c 1 3 + 2)) 2 (c 1 3 + 2) (sb (sb (x1 / 256)))) 1 3 (c 1 3 + 3)) 2 (c 1 3 + 3) (sb (sb x1))) 1 3 (c 1 3 + 4)) 2 (c 1 3 + 4) (sb (sb (x2 / 16777216)))) 1 3 (c 1 3 + 5)) 2 (c 1 3 + 5) (sb (sb (x2 / 65536)))) 1 3 (c 1 3 + 6)) 2 (c 1 3 + 6) (sb (sb (x2 / 256)))) 1 3 (c 1 3 + 7)) 2 (c 1 3 + 7) (sb (sb x2))) 1 3 (c 1 3 + 8)) 2 (c 1 3 + 8) (sb (sb (x3 / 16777216)))) 1 3 (c 1 3 + 9)) 2 (c 1 3 + 9) (sb (sb (x3 / 65536)))) 1 3 (c 1 3 + 10)) 2 (c 1 3 + 10) (sb (sb (x3 / 256)))) 1 3 (c 1 3 + 11)) 2 (c 1 3 + 11) (sb (sb x3))) 1 3 (c 1 3 + 12)) 2 (c 1 3 + 12) (sb (sb (x4 / 16777216)))) 1 3 (c 1 3 + 13)) 2 (c 1 3 + 13) (sb (sb (x4 / 65536)))) 1 3 (c 1 3 + 14)) 2 (c 1 3 + 14) (sb (sb (x4 / 256)))) 1 3 (c 1 3 + 15)) 2 (c 1 3 + 15) (sb (sb x4))) 1 3 (c 1 3 + 16)) 2 (c 1 3 + 16) (sb (sb (x5 / 16777216)))) 1 3 (c 1 3 + 17)) 2 (c 1 3 + 17) (sb (sb (x5 / 65536)))) 1 3 (c 1 3 + 18)) 2 (c 1 3 + 18) (sb (sb (x5 / 256)))) 1 3 (c 1 3 + 19)) 2 (c 1 3 + 19) (sb (sb x5))) 1 3 (c 1 3 + 20)) 41 0 0) 43 (c 41 2) ((x1 / 16777216) % 256)) 41 2 (c 41 2 + 1)) 43 (c 41 2 + 1) ((x1 / 65536) % 256)) 41 2 (c 41 2 + 2)) 43 (c 41 2 + 2) ((x1 / 256) % 256)) 41 2 (c 41 2 + 3)) 43 (c 41 2 + 3) (x1 % 256)) 41 2 (c 41 2 + 4)) 43 (c 41 2 + 4) ((x2 / 16777216) % 256)) 41 2 (c 41 2 + 5)) 43 (c 41 2 + 5) ((x2 / 65536) % 256)) 41 2 (c 41 2 + 6)) 43 (c 41 2 + 6) ((x2 / 256) % 256)) 41 2 (c 41 2 + 7)) 43 (c 41 2 + 7) (x2 % 256)) 41 2 (c 41 2 + 8)) 43 (c 41 2 + 8) ((x3 / 16777216) % 256)) 41 2 (c 41 2 + 9)) 43 (c 41 2 + 9) ((x3 / 65536) % 256)) 41 2 (c 41 2 + 10)) 43 (c 41 2 + 10) ((x3 / 256) % 256)) 41 2 (c 41 2 + 11)) 43 (c 41 2 + 11) (x3 % 256)) 41 2 (c 41 2 + 12)) 43 (c 41 2 + 12) ((x4 / 16777216) % 256)) 41 2 (c 41 2 + 13)) 43 (c 41 2 + 13) ((x4 / 65536) % 256)) 41 2 (c 41 2 + 14)) 43 (c 41 2 + 14) ((x4 / 256) % 256)) 41 2 (c 41 2 + 15)) 43 (c 41 2 + 15) (x4 % 256)) 41 2 (c 41 2 + 16)) 43 (c 41 2 + 16) ((x5 / 16777216) % 256)) 41 2 (c 41 2 + 17)) 43 (c 41 2 + 17) ((x5 / 65536) % 256)) 41 2 (c 41 2 + 18)) 43 (c 41 2 + 18) ((x5 / 256) % 256)) 41 2 (c 41 2 + 19)) 43 (c 41 2 + 19) (x5 % 256)) 41 2 (c 41 2 + 20)) 2 (c 1 3 + 6) = (sb (sb (x2 / 256))) from ((up_c (by decide)).trans ((up_c (by decide)).trans ((up_c (by decide)).trans ((up_c (by decide)).trans ((up_c (by decide)).trans ((up_c (by decide)).trans ((up_c (by decide)).trans ((up_c (by decide)).trans ((up_c (by decide)).trans ((up_c (by decide)).trans ((up_c (by decide)).trans ((up_c (by decide)).trans ((up_c (by decide)).trans ((up_c (by decide)).trans ((up_c (by decide)).trans ((up_c (by decide)).trans ((up_c (by decide)).trans ((up_c (by decide)).trans ((up_c (by decide)).trans ((up_c (by decide)).trans ((up_c (by decide)).trans ((up_c (by decide)).trans ((up_c (by decide)).trans ((up_c (by decide)).trans ((up_c (by decide)).trans ((up_c (by decide)).trans ((up_c (by decide)).trans ((up_c (by decide)).trans ((up_c (by decide)).trans ((up_c (by decide)).trans ((up_c (by decide)).trans ((up_c (by decide)).trans ((up_c (by decide)).trans ((up_c (by decide)).trans ((up_c (by decide)).trans ((up_c (by decide)).trans ((up_c (by decide)).trans ((up_c (by decide)).trans ((up_c (by decide)).trans ((up_c (by decide)).trans ((up_c (by decide)).trans ((up_c (by decide)).trans ((up_n (by omega)).trans ((up_c (by decide)).trans ((up_n (by omega)).trans ((up_c (by decide)).trans ((up_n (by omega)).trans ((up_c (by decide)).trans ((up_n (by omega)).trans ((up_c (by decide)).trans ((up_n (by omega)).trans ((up_c (by decide)).trans ((up_n (by omega)).trans ((up_c (by decide)).trans ((up_n (by omega)).trans ((up_c (by decide)).trans ((up_n (by omega)).trans ((up_c (by decide)).trans ((up_n (by omega)).trans ((up_c (by decide)).trans ((up_n (by omega)).trans ((up_c (by decide)).trans ((up_n (by omega)).trans ((up_c (by decide)).trans ((up_n (by omega)).trans ((up_c (by decide)).trans ((up_n (by omega)).trans ((up_c (by decide)).trans (up_e rfl))))))))))))))))))))))))))))))))))))))))))))))))))))))))))))))))))))), show (up (up (up (up (up (up (up (up (up (up (up (up (up (up (up (up (up (up (up (up (up (up (up (up (up (up (up (up (up (up (up (up (up (up (up (up (up (up (up (up (up (up (up (up (up (up (up (up (up (up (up (up (up (up (up (up (up (up (up (up (up (up (up (up (up (up (up (up (up (up (up (up (up (up (up (up (up (up (up (up (up c 2 (c 1 3) (sb (sb (x1 / 16777216)))) 1 3 (c 1 3 + 1)) 2 (c 1 3 + 1) (sb (sb (x1 / 65536)))) 1 3 (c 1 3 + 2)) 2 (c 1 3 + 2) (sb (sb (x1 / 256)))) 1 3 (c 1 3 + 3)) 2 (c 1 3 + 3) (sb (sb x1))) 1 3 (c 1 3 + 4)) 2 (c 1 3 + 4) (sb (sb (x2 / 16777216)))) 1 3 (c 1 3 + 5)) 2 (c 1 3 + 5) (sb (sb (x2 / 65536)))) 1 3 (c 1 3 + 6)) 2 (c 1 3 + 6) (sb (sb (x2 / 256)))) 1 3 (c 1 3 + 7)) 2 (c 1 3 + 7) (sb (sb x2))) 1 3 (c 1 3 + 8)) 2 (c 1 3 + 8) (sb (sb (x3 / 16777216)))) 1 3 (c 1 3 + 9)) 2 (c 1 3 + 9) (sb (sb (x3 / 65536)))) 1 3 (c 1 3 + 10)) 2 (c 1 3 + 10) (sb (sb (x3 / 256)))) 1 3 (c 1 3 + 11)) 2 (c 1 3 + 11) (sb (sb x3))) 1 3 (c 1 3 + 12)) 2 (c 1 3 + 12) (sb (sb (x4 / 16777216)))) 1 3 (c 1 3 + 13)) 2 (c 1 3 + 13) (sb (sb (x4 / 65536)))) 1 3 (c 1 3 + 14)) 2 (c 1 3 + 14) (sb (sb (x4 / 256)))) 1 3 (c 1 3 + 15)) 2 (c 1 3 + 15) (sb (sb x4))) 1 3 (c 1 3 + 16)) 2 (c 1 3 + 16) (sb (sb (x5 / 16777216)))) 1 3 (c 1 3 + 17)) 2 (c 1 3 + 17) (sb (sb (x5 / 65536)))) 1 3 (c 1 3 + 18)) 2 (c 1 3 + 18) (sb (sb (x5 / 256)))) 1 3 (c 1 3 + 19)) 2 (c 1 3 + 19) (sb (sb x5))) 1 3 (c 1 3 + 20)) 41 0 0) 43 (c 41 2) ((x1 / 16777216) % 256)) 41 2 (c 41 2 + 1)) 43 (c 41 2 + 1) ((x1 / 65536) % 256)) 41 2 (c 41 2 + 2)) 43 (c 41 2 + 2) ((x1 / 256) % 256)) 41 2 (c 41 2 + 3)) 43 (c 41 2 + 3) (x1 % 256)) 41 2 (c 41 2 + 4)) 43 (c 41 2 + 4) ((x2 / 16777216) % 256)) 41 2 (c 41 2 + 5)) 43 (c 41 2 + 5) ((x2 / 65536) % 256)) 41 2 (c 41 2 + 6)) 43 (c 41 2 + 6) ((x2 / 256) % 256)) 41 2 (c 41 2 + 7)) 43 (c 41 2 + 7) (x2 % 256)) 41 2 (c 41 2 + 8)) 43 (c 41 2 + 8) ((x3 / 16777216) % 256)) 41 2 (c 41 2 + 9)) 43 (c 41 2 + 9) ((x3 / 65536) % 256)) 41 2 (c 41 2 + 10)) 43 (c 41 2 + 10) ((x3 / 256) % 256)) 41 2 (c 41 2 + 11)) 43 (c 41 2 + 11) (x3 % 256)) 41 2 (c 41 2 + 12)) 43 (c 41 2 + 12) ((x4 / 16777216) % 256)) 41 2 (c 41 2 + 13)) 43 (c 41 2 + 13) ((x4 / 65536) % 256)) 41 2 (c 41 2 + 14)) 43 (c 41 2 + 14) ((x4 / 256) % 256)) 41 2 (c 41 2 + 15)) 43 (c 41 2 + 15) (x4 % 256)) 41 2 (c 41 2 + 16)) 43 (c 41 2 + 16) ((x5 / 16777216) % 256)) 41 2 (c 41 2 + 17)) 43 (c 41 2 + 17) ((x5 / 65536) % 256)) 41 2 (c 41 2 + 18)) 43 (c 41 2 + 18) ((x5 / 256) % 256)) 41 2 (c 41 2 + 19)) 43 (c 41 2 + 19) (x5 % 256)) 41 2 (c 41 2 + 20)) 43 (c 1 3 + 6) = ((x2 / 256) % 256) from ((up_c (by decide)).trans ((up_n (by omega)).trans ((up_c (by decide)).trans ((up_n (by omega)).trans ((up_c (by decide)).trans ((up_n (by omega)).trans ((up_c (by decide)).trans ((up_n (by omega)).trans ((up_c (by decide)).trans ((up_n (by omega)).trans ((up_c (by decide)).trans ((up_n (by omega)).trans ((up_c (by decide)).trans ((up_n (by omega)).trans ((up_c (by decide)).trans ((up_n (by omega)).trans ((up_c (by decide)).trans ((up_n (by omega)).trans ((up_c (by decide)).trans ((up_n (by omega)).trans ((up_c (by decide)).trans ((up_n (by omega)).trans ((up_c (by decide)).trans ((up_n (by omega)).trans ((up_c (by decide)).trans ((up_n (by omega)).trans ((up_c (by decide)).trans (up_e (by omega)))))))))))))))))))))))))))))]
        exact ⟨((sb_mod (x2 / 256)).symm.trans (sb_mod (sb (x2 / 256))).symm), sb_rng (sb (x2 / 256))⟩
      by_cases e7 : j = c 1 3 + 7
      · rw [e7, show (up (up (up (up (up (up (up (up (up (up (up (up (up (up (up (up (up (up (up (up (up (up (up (up (up (up (up (up (up (up (up (up (up (up (up (up (up (up (up (up (up (up (up (up (up (up (up (up (up (up (up (up (up (up (up (up (up (up (up (up (up (up (up (up (up (up (up (up (up (up (up (up (up (up (up (up (up (up (up (up (up c 2 (c 1 3) (sb (sb (x1 / 16777216)))) 1 3 (c 1 3 + 1)) 2 (c 1 3 + 1) (sb (sb (x1 / 65536)))) 1 3 (c 1 3 + 2)) 2 (c 1 3 + 2) (sb (sb (x1 / 256)))) 1 3 (c 1 3 + 3)) 2 (c 1 3 + 3) (sb (sb x1))) 1 3 (c 1 3 + 4)) 2 (c 1 3 + 4) (sb (sb (x2 / 16777216)))) 1 3 (c 1 3 + 5)) 2 (c 1 3 + 5) (sb (sb (x2 / 65536)))) 1 3 (c 1 3 + 6)) 2 (c 1 3 + 6) (sb (sb (x2 / 256)))) 1 3 (c 1 3 + 7)) 2 (c 1 3 + 7) (sb (sb x2))) 1 3 (c 1 3 + 8)) 2 (c 1 3 + 8) (sb (sb (x3 / 16777216)))) 1 3 (c 1 3 + 9)) 2 (c 1 3 + 9) (sb (sb (x3 / 65536)))) 1 3 (c 1 3 + 10)) 2 (c 1 3 + 10) (sb (sb (x3 / 256)))) 1 3 (c 1 3 + 11)) 2 (c 1 3 + 11) (sb (sb x3))) 1 3 (c 1 3 + 12)) 2 (c 1 3 + 12) (sb (sb (x4 / 16777216)))) 1 3 (c 1 3 + 13)) 2 (c 1 3 + 13) (sb (sb (x4 / 65536)))) 1 3 (c 1 3 + 14)) 2 (c 1 3 + 14) (sb (sb (x4 / 256)))) 1 3 (c 1 3 + 15)) 2 (c 1 3 + 15) (sb (sb x4))) 1 3 (c 1 3 + 16)) 2 (c 1 3 + 16) (sb (sb (x5 / 16777216)))) 1 3 (c 1 3 + 17)) 2 (c 1 3 + 17) (sb (sb (x5 / 65536)))) 1 3 (c 1 3 + 18)) 2 (c 1 3 + 18) (sb (sb (x5 / 256)))) 1 3 (c 1 3 + 19)) 2 (c 1 3 + 19) (sb (sb x5))) 1 3 (c 1 3 + 20)) 41 0 0) 43 (c 41 2) ((x1 / 16777216) % 256)) 41 2 (c 41 2 + 1)) 43 (c 41 2 + 1) ((x1 / 65536) % 256)) 41 2 (c 41 2 + 2)) 43 (c 41 2 + 2) ((x1 / 256) % 256)) 41 2 (c 41 2 + 3)) 43 (c 41 2 + 3) (x1 % 256)) 41 2 (c 41 2 + 4)) 43 (c 41 2 + 4) ((x2 / 16777216) % 256)) 41 2 (c 41 2 + 5)) 43 (c 41 2 + 5) ((x2 / 65536) % 256)) 41 2 (c 41 2 + 6)) 43 (c 41 2 + 6) ((x2 / 256) % 256)) 41 2 (c 41 2 + 7)) 43 (c 41 2 + 7) (x2 % 256)) 41 2 (c 41 2 + 8)) 43 (c 41 2 + 8) ((x3 / 16777216) % 256)) 41 2 (c 41 2 + 9)) 43 (c 41 2 + 9) ((x3 / 65536) % 256)) 41 2 (c 41 2 + 10)) 43 (c 41 2 + 10) ((x3 / 256) % 256)) 41 2 (c 41 2 + 11)) 43 (c 41 2 + 11) (x3 % 256)) 41 2 (c 41 2 + 12)) 43 (c 41 2 + 12) ((x4 / 16777216) % 256)) 41 2 (c 41 2 + 13)) 43 (c 41 2 + 13) ((x4 / 65536) % 256)) 41 2 (c 41 2 + 14)) 43 (c 41 2 + 14) ((x4 / 256) % 256)) 41 2 (c 41 2 + 15)) 43 (c 41 2 + 15) (x4 % 256)) 41 2 (c 41 2 + 16)) 43 (c 41 2 + 16) ((x5 / 16777216) % 256)) 41 2 (c 41 2 + 17)) 43 (c 41 2 + 17) ((x5 / 65536) % 256)) 41 2 (c 41 2 + 18)) 43 (c 41 2 + 18) ((x5 / 256) % 256)) 41 2 (c 41 2 + 19)) 43 (c 41 2 + 19) (x5 % 256)) 41 2 (c 41 2 + 20)) 2 (c 1 3 + 7) = (sb (sb x2)) from ((up_c (by decide)).trans ((up_c (by decide)).trans ((up_c (by decide)).trans ((up_c (by decide)).trans ((up_c (by decide)).trans ((up_c (by decide)).trans ((up_c (by decide)).trans ((up_c (by decide)).trans ((up_c (by decide)).trans ((up_c (by decide)).trans ((up_c (by decide)).trans ((up_c (by decide)).trans ((up_c (by decide)).trans ((up_c (by decide)).trans ((up_c (by decide)).trans ((up_c (by decide)).trans ((up_c (by decide)).trans ((up_c (by decide)).trans ((up_c (by decide)).trans ((up_c (by decide)).trans ((up_c (by decide)).trans ((up_c (by decide)).trans ((up_c (by decide)).trans ((up_c (by decide)).trans ((up_c (by decide)).trans ((up_c (by decide)).trans ((up_c (by decide)).trans ((up_c (by decide)).trans ((up_c (by decide)).trans ((up_c (by decide)).trans ((up_c (by decide)).trans ((up_c (by decide)).trans ((up_c (by decide)).trans ((up_c (by decide)).trans ((up_c (by decide)).trans ((up_c (by decide)).trans ((up_c (by decide)).trans ((up_c (by decide)).trans ((up_c (by decide)).trans ((up_c (by decide)).trans ((up_c (by decide)).trans ((up_c (by decide)).trans ((up_n (by omega)).trans ((up_c (by decide)).trans ((up_n (by omega)).trans ((up_c (by decide)).trans ((up_n (by omega)).trans ((up_c (by decide)).trans ((up_n (by omega)).trans ((up_c (by decide)).trans ((up_n (by omega)).trans ((up_c (by decide)).trans ((up_n (by omega)).trans ((up_c (by decide)).trans ((up_n (by omega)).trans ((up_c (by decide)).trans ((up_n (by omega)).trans ((up_c (by decide)).trans ((up_n (by omega)).trans ((up_c (by decide)).trans ((up_n (by omega)).trans ((up_c (by decide)).trans ((up_n (by omega)).trans ((up_c (by decide)).trans ((up_n (by omega)).trans ((up_c (by decide)).trans (up_e rfl))))))))))))))))))))))))))))))))))))))))))))))))))))))))))))))))))), show (up (up (up (up (up (up (up (up (up (up (up (up (up (up (up (up (up (up (up (up (up (up (up (up (up (up (up (up (up (up (up (up (up (up (up (up (up (up (up (up (up (up (up (up (up (up (up (up (up (up (up (up (up (up (up (up (up (up (up (up (up (up (up (up (up (up (up (up (up (up (up (up (up (up (up (up (up (up (up (up (up c 2 (c 1 3) (sb (sb (x1 / 16777216)))) 1 3 (c 1 3 + 1)) 2 (c 1 3 + 1) (sb (sb (x1 / 65536)))) 1 3 (c 1 3 + 2)) 2 (c 1 3 + 2) (sb (sb (x1 / 256)))) 1 3 (c 1 3 + 3)) 2 (c 1 3 + 3) (sb (sb x1))) 1 3 (c 1 3 + 4)) 2 (c 1 3 + 4) (sb (sb (x2 / 16777216)))) 1 3 (c 1 3 + 5)) 2 (c 1 3 + 5) (sb (sb (x2 / 65536)))) 1 3 (c 1 3 + 6)) 2 (c 1 3 + 6) (sb (sb (x2 / 256)))) 1 3 (c 1 3 + 7)) 2 (c 1 3 + 7) (sb (sb x2))) 1 3 (c 1 3 + 8)) 2 (c 1 3 + 8) (sb (sb (x3 / 16777216)))) 1 3 (c 1 3 + 9)) 2 (c 1 3 + 9) (sb (sb (x3 / 65536)))) 1 3 (c 1 3 + 10)) 2 (c 1 3 + 10) (sb (sb (x3 / 256)))) 1 3 (c 1 3 + 11)) 2 (c 1 3 + 11) (sb (sb x3))) 1 3 (c 1 3 + 12)) 2 (c 1 3 + 12) (sb (sb (x4 / 16777216)))) 1 3 (c 1 3 + 13)) 2 (c 1 3 + 13) (sb (sb (x4 / 65536)))) 1 3 (c 1 3 + 14)) 2 (c 1 3 + 14) (sb (sb (x4 / 256)))) 1 3 (c 1 3 + 15)) 2 (c 1 3 + 15) (sb (sb x4))) 1 3 (c 1 3 + 16)) 2 (c 1 3 + 16) (sb (sb (x5 / 16777216)))) 1 3 (c 1 3 + 17)) 2 (c 1 3 + 17) (sb (sb (x5 / 65536)))) 1 3 (c 1 3 + 18)) 2 (c 1 3 + 18) (sb (sb (x5 / 256)))) 1 3 (c 1 3 + 19)) 2 (c 1 3 + 19) (sb (sb x5))) 1 3 (c 1 3 + 20)) 41 0 0) 43 (c 41 2) ((x1 / 16777216) % 256)) 41 2 (c 41 2 + 1)) 43 (c 41 2 + 1) ((x1 / 65536) % 256)) 41 2 (c 41 2 + 2)) 43 (c 41 2 + 2) ((x1 / 256) % 256)) 41 2 (c 41 2 + 3)) 43 (c 41 2 + 3) (x1 % 256)) 41 2 (c 41 2 + 4)) 43 (c 41 2 + 4) ((x2 / 16777216) % 256)) 41 2 (c 41 2 + 5)) 43 (c 41 2 + 5) ((x2 / 65536) % 256)) 41 2 (c 41 2 + 6)) 43 (c 41 2 + 6) ((x2 / 256) % 256)) 41 2 (c 41 2 + 7)) 43 (c 41 2 + 7) (x2 % 256)) 41 2 (c 41 2 + 8)) 43 (c 41 2 + 8) ((x3 / 16777216) % 256)) 41 2 (c 41 2 + 9)) 43 (c 41 2 + 9) ((x3 / 65536) % 256)) 41 2 (c 41 2 + 10)) 43 (c 41 2 + 10) ((x3 / 256) % 256)) 41 2 (c 41 2 + 11)) 43 (c 41 2 + 11) (x3 % 256)) 41 2 (c 41 2 + 12)) 43 (c 41 2 + 12) ((x4 / 16777216) % 256)) 41 2 (c 41 2 + 13)) 43 (c 41 2 + 13) ((x4 / 65536) % 256)) 41 2 (c 41 2 + 14)) 43 (c 41 2 + 14) ((x4 / 256) % 256)) 41 2 (c 41 2 + 15)) 43 (c 41 2 + 15) (x4 % 256)) 41 2 (c 41 2 + 16)) 43 (c 41 2 + 16) ((x5 / 16777216) % 256)) 41 2 (c 41 2 + 17)) 43 (c 41 2 + 17) ((x5 / 65536) % 256)) 41 2 (c 41 2 + 18)) 43 (c 41 2 + 18) ((x5 / 256) % 256)) 41 2 (c 41 2 + 19)) 43 (c 41 2 + 19) (x5 % 256)) 41 2 (c 41 2 + 20)) 43 (c 1 3 + 7) = (x2 % 256) from ((up_c (by decide)).trans ((up_n (by omega)).trans ((up_c (by decide)).trans ((up_n (by omega)).trans ((up_c (by decide)).trans ((up_n (by omega)).trans ((up_c (by decide)).trans ((up_n (by omega)).trans ((up_c (by decide)).trans ((up_n (by omega)).trans ((up_c (by decide)).trans ((up_n (by omega)).trans ((up_c (by decide)).trans ((up_n (by omega)).trans ((up_c (by decide)).trans ((up_n (by omega)).trans ((up_c (by decide)).trans ((up_n (by omega)).trans ((up_c (by decide)).trans ((up_n (by omega)).trans ((up_c (by decide)).trans ((up_n (by omega)).trans ((up_c (by decide)).trans ((up_n (by omega)).trans ((up_c (by decide)).trans (up_e (by omega)))))))))))))))))))))))))))]
        exact ⟨((sb_mod x2).symm.trans (sb_mod (sb x2)).symm), sb_rng (sb x2)⟩
      by_cases e8 : j = c 1 3 + 8
      · rw [e8, show (up (up (up (up (up (up (up (up (up (up (up (up (up (up (up (up (up (up (up (up (up (up (up (up (up (up (up (up (up (up (up (up (up (up (up (up (up (up (up (up (up (up (up (up (up (up (up (up (up (up (up (up (up (up (up (up (up (up (up (up (up (up (up (up (up (up (up (up (up (up (up (up (up (up (up (up (up (up (up (up (up c 2 (c 1 3) (sb (sb (x1 / 16777216)))) 1 3 (c 1 3 + 1)) 2 (c 1 3 + 1) (sb (sb (x1 / 65536)))) 1 3 (c 1 3 + 2)) 2 (c 1 3 + 2) (sb (sb (x1 / 256)))) 1 3 (c 1 3 + 3)) 2 (c 1 3 + 3) (sb (sb x1))) 1 3 (c 1 3 + 4)) 2 (c 1 3 + 4) (sb (sb (x2 / 16777216)))) 1 3 (c 1 3 + 5)) 2 (c 1 3 + 5) (sb (sb (x2 / 65536)))) 1 3 (c 1 3 + 6)) 2 (c 1 3 + 6) (sb (sb (x2 / 256)))) 1 3 (c 1 3 + 7)) 2 (c 1 3 + 7) (sb (sb x2))) 1 3 (c 1 3 + 8)) 2 (c 1 3 + 8) (sb (sb (x3 / 16777216)))) 1 3 (c 1 3 + 9)) 2 (c 1 3 + 9) (sb (sb (x3 / 65536)))) 1 3 (c 1 3 + 10)) 2 (c 1 3 + 10) (sb (sb (x3 / 256)))) 1 3 (c 1 3 + 11)) 2 (c 1 3 + 11) (sb (sb x3))) 1 3 (c 1 3 + 12)) 2 (c 1 3 + 12) (sb (sb (x4 / 16777216)))) 1 3 (c 1 3 + 13)) 2 (c 1 3 + 13) (sb (sb (x4 / 65536)))) 1 3 (c 1 3 + 14)) 2 (c 1 3 + 14) (sb (sb (x4 / 256)))) 1 3 (c 1 3 + 15)) 2 (c 1 3 + 15) (sb (sb x4))) 1 3 (c 1 3 + 16)) 2 (c 1 3 + 16) (sb (sb (x5 / 16777216)))) 1 3 (c 1 3 + 17)) 2 (c 1 3 + 17) (sb (sb (x5 / 65536)))) 1 3 (c 1 3 + 18)) 2 (c 1 3 + 18) (sb (sb (x5 / 256)))) 1 3 (c 1 3 + 19)) 2 (c 1 3 + 19) (sb (sb x5))) 1 3 (c 1 3 + 20)) 41 0 0) 43 (c 41 2) ((x1 / 16777216) % 256)) 41 2 (c 41 2 + 1)) 43 (c 41 2 + 1) ((x1 / 65536) % 256)) 41 2 (c 41 2 + 2)) 43 (c 41 2 + 2) ((x1 / 256) % 256)) 41 2 (c 41 2 + 3)) 43 (c 41 2 + 3) (x1 % 256)) 41 2 (c 41 2 + 4)) 43 (c 41 2 + 4) ((x2 / 16777216) % 256)) 41 2 (c 41 2 + 5)) 43 (c 41 2 + 5) ((x2 / 65536) % 256)) 41 2 (c 41 2 + 6)) 43 (c 41 2 + 6) ((x2 / 256) % 256)) 41 2 (c 41 2 + 7)) 43 (c 41 2 + 7) (x2 % 256)) 41 2 (c 41 2 + 8)) 43 (c 41 2 + 8) ((x3 / 16777216) % 256)) 41 2 (c 41 2 + 9)) 43 (c 41 2 + 9) ((x3 / 65536) % 256)) 41 2 (c 41 2 + 10)) 43 (c 41 2 + 10) ((x3 / 256) % 256)) 41 2 (c 41 2 + 11)) 43 (c 41 2 + 11) (x3 % 256)) 41 2 (c 41 2 + 12)) 43 (c 41 2 + 12) ((x4 / 16777216) % 256)) 41 2 (c 41 2 + 13)) 43 (c 41 2 + 13) ((x4 / 65536) % 256)) 41 2 (c 41 2 + 14)) 43 (c 41 2 + 14) ((x4 / 256) % 256)) 41 2 (c 41 2 + 15)) 43 (c 41 2 + 15) (x4 % 256)) 41 2 (c 41 2 + 16)) 43 (c 41 2 + 16) ((x5 / 16777216) % 256)) 41 2 (c 41 2 + 17)) 43 (c 41 2 + 17) ((x5 / 65536) % 256)) 41 2 (c 41 2 + 18)) 43 (c 41 2 + 18) ((x5 / 256) % 256)) 41 2 (c 41 2 + 19)) 43 (c 41 2 + 19) (x5 % 256)) 41 2 (c 41 2 + 20)) 2 (c 1 3 + 8) = (sb (sb (x3 / 16777216))) from ((up_c (by decide)).trans ((up_c (by decide)).trans ((up_c (by decide)).trans ((up_c (by decide)).trans ((up_c (by decide)).trans ((up_c (by decide)).trans ((up_c (by decide)).trans ((up_c (by decide)).trans ((up_c (by decide)).trans ((up_c (by decide)).trans ((up_c (by decide)).trans ((up_c (by decide)).trans ((up_c (by decide)).trans ((up_c (by decide)).trans ((up_c (by decide)).trans ((up_c (by decide)).trans ((up_c (by decide)).trans ((up_c (by decide)).trans ((up_c (by decide)).trans ((up_c (by decide)).trans ((up_c (by decide)).trans ((up_c (by decide)).trans ((up_c (by decide)).trans ((up_c (by decide)).trans ((up_c (by decide)).trans ((up_c (by decide)).trans ((up_c (by decide)).trans ((up_c (by decide)).trans ((up_c (by decide)).trans ((up_c (by decide)).trans ((up_c (by decide)).trans ((up_c (by decide)).trans ((up_c (by decide)).trans ((up_c (by decide)).trans ((up_c (by decide)).trans ((up_c (by decide)).trans ((up_c (by decide)).trans ((up_c (by decide)).trans ((up_c (by decide)).trans ((up_c (by decide)).trans ((up_c (by decide)).trans ((up_c (by decide)).trans ((up_n (by omega)).trans ((up_c (by decide)).trans ((up_n (by omega)).trans ((up_c (by decide)).trans ((up_n (by omega)).trans ((up_c (by decide)).trans ((up_n (by omega)).trans ((up_c (by decide)).trans ((up_n (by omega)).trans ((up_c (by decide)).trans ((up_n (by omega)).trans ((up_c (by decide)).trans ((up_n (by omega)).trans ((up_c (by decide)).trans ((up_n (by omega)).trans ((up_c (by decide)).trans ((up_n (by omega)).trans ((up_c (by decide)).trans ((up_n (by omega)).trans ((up_c (by decide)).trans ((up_n (by omega)).trans ((up_c (by decide)).trans (up_e rfl))))))))))))))))))))))))))))))))))))))))))))))))))))))))))))))))), show (up (up (up (up (up (up (up (up (up (up (up (up (up (up (up (up (up (up (up (up (up (up (up (up (up (up (up (up (up (up (up (up (up (up (up (up (up (up (up (up (up (up (up (up (up (up (up (up (up (up (up (up (up (up (up (up (up (up (up (up (up (up (up (up (up (up (up (up (up (up (up (up (up (up (up (up (up (up (up (up (up c 2 (c 1 3) (sb (sb (x1 / 16777216)))) 1 3 (c 1 3 + 1)) 2 (c 1 3 + 1) (sb (sb (x1 / 65536)))) 1 3 (c 1 3 + 2)) 2 (c 1 3 + 2) (sb (sb (x1 / 256)))) 1 3 (c 1 3 + 3)) 2 (c 1 3 + 3) (sb (sb x1))) 1 3 (c 1 3 + 4)) 2 (c 1 3 + 4) (sb (sb (x2 / 16777216)))) 1 3 (c 1 3 + 5)) 2 (c 1 3 + 5) (sb (sb (x2 / 65536)))) 1 3 (c 1 3 + 6)) 2 (c 1 3 + 6) (sb (sb (x2 / 256)))) 1 3 (c 1 3 + 7)) 2 (c 1 3 + 7) (sb (sb x2))) 1 3 (c 1 3 + 8)) 2 (c 1 3 + 8) (sb (sb (x3 / 16777216)))) 1 3 (c 1 3 + 9)) 2 (c 1 3 + 9) (sb (sb (x3 / 65536)))) 1 3 (c 1 3 + 10)) 2 (c 1 3 + 10) (sb (sb (x3 / 256)))) 1 3 (c 1 3 + 11)) 2 (c 1 3 + 11) (sb (sb x3))) 1 3 (c 1 3 + 12)) 2 (c 1 3 + 12) (sb (sb (x4 / 16777216)))) 1 3 (c 1 3 + 13)) 2 (c 1 3 + 13) (sb (sb (x4 / 65536)))) 1 3 (c 1 3 + 14)) 2 (c 1 3 + 14) (sb (sb (x4 / 256)))) 1 3 (c 1 3 + 15)) 2 (c 1 3 + 15) (sb (sb x4))) 1 3 (c 1 3 + 16)) 2 (c 1 3 + 16) (sb (sb (x5 / 16777216)))) 1 3 (c 1 3 + 17)) 2 (c 1 3 + 17) (sb (sb (x5 / 65536)))) 1 3 (c 1 3 + 18)) 2 (c 1 3 + 18) (sb (sb (x5 / 256)))) 1 3 (c 1 3 + 19)) 2 (c 1 3 + 19) (sb (sb x5))) 1 3 (c 1 3 + 20)) 41 0 0) 43 (c 41 2) ((x1 / 16777216) % 256)) 41 2 (c 41 2 + 1)) 43 (c 41 2 + 1) ((x1 / 65536) % 256)) 41 2 (c 41 2 + 2)) 43 (c 41 2 + 2) ((x1 / 256) % 256)) 41 2 (c 41 2 + 3)) 43 (c 41 2 + 3) (x1 % 256)) 41 2 (c 41 2 + 4)) 43 (c 41 2 + 4) ((x2 / 16777216) % 256)) 41 2 (c 41 2 + 5)) 43 (c 41 2 + 5) ((x2 / 65536) % 256)) 41 2 (c 41 2 + 6)) 43 (c 41 2 + 6) ((x2 / 256) % 256)) 41 2 (c 41 2 + 7)) 43 (c 41 2 + 7) (x2 % 256)) 41 2 (c 41 2 + 8)) 43 (c 41 2 + 8) ((x3 / 16777216) % 256)) 41 2 (c 41 2 + 9)) 43 (c 41 2 + 9) ((x3 / 65536) % 256)) 41 2 (c 41 2 + 10)) 43 (c 41 2 + 10) ((x3 / 256) % 256)) 41 2 (c 41 2 + 11)) 43 (c 41 2 + 11) (x3 % 256)) 41 2 (c 41 2 + 12)) 43 (c 41 2 + 12) ((x4 / 16777216) % 256)) 41 2 (c 41 2 + 13)) 43 (c 41 2 + 13) ((x4 / 65536) % 256)) 41 2 (c 41 2 + 14)) 43 (c 41 2 + 14) ((x4 / 256) % 256)) 41 2 (c 41 2 + 15)) 43 (c 41 2 + 15) (x4 % 256)) 41 2 (c 41 2 + 16)) 43 (c 41 2 + 16) ((x5 / 16777216) % 256)) 41 2 (c 41 2 + 17)) 43 (c 41 2 + 17) ((x5 / 65536) % 256)) 41 2 (c 41 2 + 18)) 43 (c 41 2 + 18) ((x5 / 256) % 256)) 41 2 (c 41 2 + 19)) 43 (c 41 2 + 19) (x5 % 256)) 41 2 (c 41 2 + 20)) 43 (c 1 3 + 8) = ((x3 / 16777216) % 256) from ((up_c (by decide)).trans ((up_n (by omega)).trans ((up_c (by decide)).trans ((up_n (by omega)).trans ((up_c (by decide)).trans ((up_n (by omega)).trans ((up_c (by decide)).trans ((up_n (by omega)).trans ((up_c (by decide)).trans ((up_n (by omega)).trans ((up_c (by decide)).trans ((up_n (by omega)).trans ((up_c (by decide)).trans ((up_n (by omega)).trans ((up_c (by decide)).trans ((up_n (by omega)).trans ((up_c (by decide)).trans ((up_n (by omega)).trans ((up_c (by decide)).trans ((up_n (by omega)).trans ((up_c (by decide)).trans ((up_n (by omega)).trans ((up_c (by decide)).trans (up_e (by omega)))))))))))))))))))))))))]
        exact ⟨((sb_mod (x3 / 16777216)).symm.trans (sb_mod (sb (x3 / 16777216))).symm), sb_rng (sb (x3 / 16777216))⟩
      by_cases e9 : j = c 1 3 + 9
      · rw [e9, show (up (up (up (up (up (up (up (up (up (up (up (up (up (up (up (up (up (up (up (up (up (up (up (up (up (up (up (up (up (up (up (up (up (up (up (up (up (up (up (up (up (up (up (up (up (up (up (up (up (up (up (up (up (up (up (up (up (up (up (up (up (up (up (up (up (up (up (up (up (up (up (up (up (up (up (up (up (up (up (up (up c 2 (c 1 3) (sb (sb (x1 / 16777216)))) 1 3 (c 1 3 + 1)) 2 (c 1 3 + 1) (sb (sb (x1 / 65536)))) 1 3 (c 1 3 + 2)) 2 (c 1 3 + 2) (sb (sb (x1 / 256)))) 1 3 (c 1 3 + 3)) 2 (c 1 3 + 3) (sb (sb x1))) 1 3 (c 1 3 + 4)) 2 (c 1 3 + 4) (sb (sb (x2 / 16777216)))) 1 3 (c 1 3 + 5)) 2 (c 1 3 + 5) (sb (sb (x2 / 65536)))) 1 3 (c 1 3 + 6)) 2 (c 1 3 + 6) (sb (sb (x2 / 256)))) 1 3 (c 1 3 + 7)) 2 (c 1 3 + 7) (sb (sb x2))) 1 3 (c 1 3 + 8)) 2 (c 1 3 + 8) (sb (sb (x3 / 16777216)))) 1 3 (c 1 3 + 9)) 2 (c 1 3 + 9) (sb (sb (x3 / 65536)))) 1 3 (c 1 3 + 10)) 2 (c 1 3 + 10) (sb (sb (x3 / 256)))) 1 3 (c 1 3 + 11)) 2 (c 1 3 + 11) (sb (sb x3))) 1 3 (c 1 3 + 12)) 2 (c 1 3 + 12) (sb (sb (x4 / 16777216)))) 1 3 (c 1 3 + 13)) 2 (c 1 3 + 13) (sb (sb (x4 / 65536)))) 1 3 (c 1 3 + 14)) 2 (c 1 3 + 14) (sb (sb (x4 / 256)))) 1 3 (c 1 3 + 15)) 2 (c 1 3 + 15) (sb (sb x4))) 1 3 (c 1 3 + 16)) 2 (c 1 3 + 16) (sb (sb (x5 / 16777216)))) 1 3 (c 1 3 + 17)) 2 (c 1 3 + 17) (sb (sb (x5 / 65536)))) 1 3 (c 1 3 + 18)) 2 (c 1 3 + 18) (sb (sb (x5 / 256)))) 1 3 (c 1 3 + 19)) 2 (c 1 3 + 19) (sb (sb x5))) 1 3 (c 1 3 + 20)) 41 0 0) 43 (c 41 2) ((x1 / 16777216) % 256)) 41 2 (c 41 2 + 1)) 43 (c 41 2 + 1) ((x1 / 65536) % 256)) 41 2 (c 41 2 + 2)) 43 (c 41 2 + 2) ((x1 / 256) % 256)) 41 2 (c 41 2 + 3)) 43 (c 41 2 + 3) (x1 % 256)) 41 2 (c 41 2 + 4)) 43 (c 41 2 + 4) ((x2 / 16777216) % 256)) 41 2 (c 41 2 + 5)) 43 (c 41 2 + 5) ((x2 / 65536) % 256)) 41 2 (c 41 2 + 6)) 43 (c 41 2 + 6) ((x2 / 256) % 256)) 41 2 (c 41 2 + 7)) 43 (c 41 2 + 7) (x2 % 256)) 41 2 (c 41 2 + 8)) 43 (c 41 2 + 8) ((x3 / 16777216) % 256)) 41 2 (c 41 2 + 9)) 43 (c 41 2 + 9) ((x3 / 65536) % 256)) 41 2 (c 41 2 + 10)) 43 (c 41 2 + 10) ((x3 / 256) % 256)) 41 2 (c 41 2 + 11)) 43 (c 41 2 + 11) (x3 % 256)) 41 2 (c 41 2 + 12)) 43 (c 41 2 + 12) ((x4 / 16777216) % 256)) 41 2 (c 41 2 + 13)) 43 (c 41 2 + 13) ((x4 / 65536) % 256)) 41 2 (c 41 2 + 14)) 43 (c 41 2 + 14) ((x4 / 256) % 256)) 41 2 (c 41 2 + 15)) 43 (c 41 2 + 15) (x4 % 256)) 41 2 (c 41 2 + 16)) 43 (c 41 2 + 16) ((x5 / 16777216) % 256)) 41 2 (c 41 2 + 17)) 43 (c 41 2 + 17) ((x5 / 65536) % 256)) 41 2 (c 41 2 + 18)) 43 (c 41 2 + 18) ((x5 / 256) % 256)) 41 2 (c 41 2 + 19)) 43 (c 41 2 + 19) (x5 % 256)) 41 2 (c 41 2 + 20)) 2 (c 1 3 + 9) = (sb (sb (x3 / 65536))) from ((up_c (by decide)).trans ((up_c (by decide)).trans ((up_c (by decide)).trans ((up_c (by decide)).trans ((up_c (by decide)).trans ((up_c (by decide)).trans ((up_c (by decide)).trans ((up_c (by decide)).trans ((up_c (by decide)).trans ((up_c (by decide)).trans ((up_c (by decide)).trans ((up_c (by decide)).trans ((up_c (by decide)).trans ((up_c (by decide)).trans ((up_c (by decide)).trans ((up_c (by decide)).trans ((up_c (by decide)).trans ((up_c (by decide)).trans ((up_c (by decide)).trans ((up_c (by decide)).trans ((up_c (by decide)).trans ((up_c (by decide)).trans ((up_c (by decide)).trans ((up_c (by decide)).trans ((up_c (by decide)).trans ((up_c (by decide)).trans ((up_c (by decide)).trans ((up_c (by decide)).trans ((up_c (by decide)).trans ((up_c (by decide)).trans ((up_c (by decide)).trans ((up_c (by decide)).trans ((up_c (by decide)).trans ((up_c (by decide)).trans ((up_c (by decide)).trans ((up_c (by decide)).trans ((up_c (by decide)).trans ((up_c (by decide)).trans ((up_c (by decide)).trans ((up_c (by decide)).trans ((up_c (by decide)).trans ((up_c (by decide)).trans ((up_n (by omega)).trans ((up_c (by decide)).trans ((up_n (by omega)).trans ((up_c (by decide)).trans ((up_n (by omega)).trans ((up_c (by decide)).trans ((up_n (by omega)).trans ((up_c (by decide)).trans ((up_n (by omega)).trans ((up_c (by decide)).trans ((up_n (by omega)).trans ((up_c (by decide)).trans ((up_n (by omega)).trans ((up_c (by decide)).trans ((up_n (by omega)).trans ((up_c (by decide)).trans ((up_n (by omega)).trans ((up_c (by decide)).trans ((up_n (by omega)).trans ((up_c (by decide)).trans (up_e rfl))))))))))))))))))))))))))))))))))))))))))))))))))))))))))))))), show (up (up (up (up (up (up (up (up (up (up (up (up (up (up (up (up (up (up (up (up (up (up (up (up (up (up (up (up (up (up (up (up (up (up (up (up (up (up (up (up (up (up (up (up (up (up (up (up (up (up (up (up (up (up (up (up (up (up (up (up (up (up (up (up (up (up (up (up (up (up (up (up (up (up (up (up (up (up (up (up (up c 2 (c 1 3) (sb (sb (x1 / 16777216)))) 1 3 (c 1 3 + 1)) 2 (c 1 3 + 1) (sb (sb (x1 / 65536)))) 1 3 (c 1 3 + 2)) 2 (c 1 3 + 2) (sb (sb (x1 / 256)))) 1 3 (c 1 3 + 3)) 2 (c 1 3 + 3) (sb (sb x1))) 1 3 (c 1 3 + 4)) 2 (c 1 3 + 4) (sb (sb (x2 / 16777216)))) 1 3 (c 1 3 + 5)) 2 (c 1 3 + 5) (sb (sb (x2 / 65536)))) 1 3 (c 1 3 + 6)) 2 (c 1 3 + 6) (sb (sb (x2 / 256)))) 1 3 (c 1 3 + 7)) 2 (c 1 3 + 7) (sb (sb x2))) 1 3 (c 1 3 + 8)) 2 (c 1 3 + 8) (sb (sb (x3 / 16777216)))) 1 3 (c 1 3 + 9)) 2 (c 1 3 + 9) (sb (sb (x3 / 65536)))) 1 3 (c 1 3 + 10)) 2 (c 1 3 + 10) (sb (sb (x3 / 256)))) 1 3 (c 1 3 + 11)) 2 (c 1 3 + 11) (sb (sb x3))) 1 3 (c 1 3 + 12)) 2 (c 1 3 + 12) (sb (sb (x4 / 16777216)))) 1 3 (c 1 3 + 13)) 2 (c 1 3 + 13) (sb (sb (x4 / 65536)))) 1 3 (c 1 3 + 14)) 2 (c 1 3 + 14) (sb (sb (x4 / 256)))) 1 3 (c 1 3 + 15)) 2 (c 1 3 + 15) (sb (sb x4))) 1 3 (c 1 3 + 16)) 2 (c 1 3 + 16) (sb (sb (x5 / 16777216)))) 1 3 (c 1 3 + 17)) 2 (c 1 3 + 17) (sb (sb (x5 / 65536)))) 1 3 (c 1 3 + 18)) 2 (c 1 3 + 18) (sb (sb (x5 / 256)))) 1 3 (c 1 3 + 19)) 2 (c 1 3 + 19) (sb (sb x5))) 1 3 (c 1 3 + 20)) 41 0 0) 43 (c 41 2) ((x1 / 16777216) % 256)) 41 2 (c 41 2 + 1)) 43 (c 41 2 + 1) ((x1 / 65536) % 256)) 41 2 (c 41 2 + 2)) 43 (c 41 2 + 2) ((x1 / 256) % 256)) 41 2 (c 41 2 + 3)) 43 (c 41 2 + 3) (x1 % 256)) 41 2 (c 41 2 + 4)) 43 (c 41 2 + 4) ((x2 / 16777216) % 256)) 41 2 (c 41 2 + 5)) 43 (c 41 2 + 5) ((x2 / 65536) % 256)) 41 2 (c 41 2 + 6)) 43 (c 41 2 + 6) ((x2 / 256) % 256)) 41 2 (c 41 2 + 7)) 43 (c 41 2 + 7) (x2 % 256)) 41 2 (c 41 2 + 8)) 43 (c 41 2 + 8) ((x3 / 16777216) % 256)) 41 2 (c 41 2 + 9)) 43 (c 41 2 + 9) ((x3 / 65536) % 256)) 41 2 (c 41 2 + 10)) 43 (c 41 2 + 10) ((x3 / 256) % 256)) 41 2 (c 41 2 + 11)) 43 (c 41 2 + 11) (x3 % 256)) 41 2 (c 41 2 + 12)) 43 (c 41 2 + 12) ((x4 / 16777216) % 256)) 41 2 (c 41 2 + 13)) 43 (c 41 2 + 13) ((x4 / 65536) % 256)) 41 2 (c 41 2 + 14)) 43 (c 41 2 + 14) ((x4 / 256) % 256)) 41 2 (c 41 2 + 15)) 43 (c 41 2 + 15) (x4 % 256)) 41 2 (c 41 2 + 16)) 43 (c 41 2 + 16) ((x5 / 16777216) % 256)) 41 2 (c 41 2 + 17)) 43 (c 41 2 + 17) ((x5 / 65536) % 256)) 41 2 (c 41 2 + 18)) 43 (c 41 2 + 18) ((x5 / 256) % 256)) 41 2 (c 41 2 + 19)) 43 (c 41 2 + 19) (x5 % 256)) 41 2 (c 41 2 + 20)) 43 (c 1 3 + 9) = ((x3 / 65536) % 256) from ((up_c (by decide)).trans ((up_n (by omega)).trans ((up_c (by decide)).trans ((up_n (by omega)).trans ((up_c (by decide)).trans ((up_n (by omega)).trans ((up_c (by decide)).trans ((up_n (by omega)).trans ((up_c (by decide)).trans ((up_n (by omega)).trans ((up_c (by decide)).trans ((up_n (by omega)).trans ((up_c (by decide)).trans ((up_n (by omega)).trans ((up_c (by decide)).trans ((up_n (by omega)).trans ((up_c (by decide)).trans ((up_n (by omega)).trans ((up_c (by decide)).trans ((up_n (by omega)).trans ((up_c (by decide)).trans (up_e (by omega)))))))))))))))))))))))]
        exact ⟨((sb_mod (x3 / 65536)).symm.trans (sb_mod (sb (x3 / 65536))).symm), sb_rng (sb (x3 / 65536))⟩
      by_cases e10 : j = c 1 3 + 10
      · rw [e10, show (up (up (up (up (up (up (up (up (up (up (up (up (up (up (up (up (up (up (up (up (up (up (up (up (up (up (up (up (up (up (up (up (up (up (up (up (up (up (up (up (up (up (up (up (up (up (up (up (up (up (up (up (up (up (up (up (up (up (up (up (up (up (up (up (up (up (up (up (up (up (up (up (up (up (up (up (up (up (up (up (up c 2 (c 1 3) (sb (sb (x1 / 16777216)))) 1 3 (c 1 3 + 1)) 2 (c 1 3 + 1) (sb (sb (x1 / 65536)))) 1 3 (c 1 3 + 2)) 2 (c 1 3 + 2) (sb (sb (x1 / 256)))) 1 3 (c 1 3 + 3)) 2 (c 1 3 + 3) (sb (sb x1))) 1 3 (c 1 3 + 4)) 2 (c 1 3 + 4) (sb (sb (x2 / 16777216)))) 1 3 (c 1 3 + 5)) 2 (c 1 3 + 5) (sb (sb (x2 / 65536)))) 1 3 (c 1 3 + 6)) 2 (c 1 3 + 6) (sb (sb (x2 / 256)))) 1 3 (c 1 3 + 7)) 2 (c 1 3 + 7) (sb (sb x2))) 1 3 (c 1 3 + 8)) 2 (c 1 3 + 8) (sb (sb (x3 / 16777216)))) 1 3 (c 1 3 + 9)) 2 (c 1 3 + 9) (sb (sb (x3 / 65536)))) 1 3 (c 1 3 + 10)) 2 (c 1 3 + 10) (sb (sb (x3 / 256)))) 1 3 (c 1 3 + 11)) 2 (c 1 3 + 11) (sb (sb x3))) 1 3 (c 1 3 + 12)) 2 (c 1 3 + 12) (sb (sb (x4 / 16777216)))) 1 3 (c 1 3 + 13)) 2 (c 1 3 + 13) (sb (sb (x4 / 65536)))) 1 3 (c 1 3 + 14)) 2 (c 1 3 + 14) (sb (sb (x4 / 256)))) 1 3 (c 1 3 + 15)) 2 (c 1 3 + 15) (sb (sb x4))) 1 3 (c 1 3 + 16)) 2 (c 1 3 + 16) (sb (sb (x5 / 16777216)))) 1 3 (c 1 3 + 17)) 2 (c 1 3 + 17) (sb (sb (x5 / 65536)))) 1 3 (c 1 3 + 18)) 2 (c 1 3 + 18) (sb (sb (x5 / 256)))) 1 3 (c 1 3 + 19)) 2 (c 1 3 + 19) (sb (sb x5))) 1 3 (c 1 3 + 20)) 41 0 0) 43 (c 41 2) ((x1 / 16777216) % 256)) 41 2 (c 41 2 + 1)) 43 (c 41 2 + 1) ((x1 / 65536) % 256)) 41 2 (c 41 2 + 2)) 43 (c 41 2 + 2) ((x1 / 256) % 256)) 41 2 (c 41 2 + 3)) 43 (c 41 2 + 3) (x1 % 256)) 41 2 (c 41 2 + 4)) 43 (c 41 2 + 4) ((x2 / 16777216) % 256)) 41 2 (c 41 2 + 5)) 43 (c 41 2 + 5) ((x2 / 65536) % 256)) 41 2 (c 41 2 + 6)) 43 (c 41 2 + 6) ((x2 / 256) % 256)) 41 2 (c 41 2 + 7)) 43 (c 41 2 + 7) (x2 % 256)) 41 2 (c 41 2 + 8)) 43 (c 41 2 + 8) ((x3 / 16777216) % 256)) 41 2 (c 41 2 + 9)) 43 (c 41 2 + 9) ((x3 / 65536) % 256)) 41 2 (c 41 2 + 10)) 43 (c 41 2 + 10) ((x3 / 256) % 256)) 41 2 (c 41 2 + 11)) 43 (c 41 2 + 11) (x3 % 256)) 41 2 (c 41 2 + 12)) 43 (c 41 2 + 12) ((x4 / 16777216) % 256)) 41 2 (c 41 2 + 13)) 43 (c 41 2 + 13) ((x4 / 65536) % 256)) 41 2 (c 41 2 + 14)) 43 (c 41 2 + 14) ((x4 / 256) % 256)) 41 2 (c 41 2 + 15)) 43 (c 41 2 + 15) (x4 % 256)) 41 2 (c 41 2 + 16)) 43 (c 41 2 + 16) ((x5 / 16777216) % 256)) 41 2 (c 41 2 + 17)) 43 (c 41 2 + 17) ((x5 / 65536) % 256)) 41 2 (c 41 2 + 18)) 43 (c 41 2 + 18) ((x5 / 256) % 256)) 41 2 (c 41 2 + 19)) 43 (c 41 2 + 19) (x5 % 256)) 41 2 (c 41 2 + 20)) 2 (c 1 3 + 10) = (sb (sb (x3 / 256))) from ((up_c (by decide)).trans ((up_c (by decide)).trans ((up_c (by decide)).trans ((up_c (by decide)).trans ((up_c (by decide)).trans ((up_c (by decide)).trans ((up_c (by decide)).trans ((up_c (by decide)).trans ((up_c (by decide)).trans ((up_c (by decide)).trans ((up_c (by decide)).trans ((up_c (by decide)).trans ((up_c (by decide)).trans ((up_c (by decide)).trans ((up_c (by decide)).trans ((up_c (by decide)).trans ((up_c (by decide)).trans ((up_c (by decide)).trans ((up_c (by decide)).trans ((up_c (by decide)).trans ((up_c (by decide)).trans ((up_c (by decide)).trans ((up_c (by decide)).trans ((up_c (by decide)).trans ((up_c (by decide)).trans ((up_c (by decide)).trans ((up_c (by decide)).trans ((up_c (by decide)).trans ((up_c (by decide)).trans ((up_c (by decide)).trans ((up_c (by decide)).trans ((up_c (by decide)).trans ((up_c (by decide)).trans ((up_c (by decide)).trans ((up_c (by decide)).trans ((up_c (by decide)).trans ((up_c (by decide)).trans ((up_c (by decide)).trans ((up_c (by decide)).trans ((up_c (by decide)).trans ((up_c (by decide)).trans ((up_c (by decide)).trans ((up_n (by omega)).trans ((up_c (by decide)).trans ((up_n (by omega)).trans ((up_c (by decide)).trans ((up_n (by omega)).trans ((up_c (by decide)).trans ((up_n (by omega)).trans ((up_c (by decide)).trans ((up_n (by omega)).trans ((up_c (by decide)).trans ((up_n (by omega)).trans ((up_c (by decide)).trans ((up_n (by omega)).trans ((up_c (by decide)).trans ((up_n (by omega)).trans ((up_c (by decide)).trans ((up_n (by omega)).trans ((up_c (by decide)).trans (up_e rfl))))))))))))))))))))))))))))))))))))))))))))))))))))))))))))), show (up (up (up (up (up (up (up (up (up (up (up (up (up (up (up (up (up (up (up (up (up (up (up (up (up (up (up (up (up (up (up (up (up (up (up (up (up (up (up (up (up (up (up (up (up (up (up (up (up (up (up (up (up (up (up (up (up (up (up (up (up (up (up (up (up (up (up (up (up (up (up (up (up (up (up (up (up (up (up (up (up c 2 (c 1 3) (sb (sb (x1 / 16777216)))) 1 3 (c 1 3 + 1)) 2 (c 1 3 + 1) (sb (sb (x1 / 65536)))) 1 3 (c 1 3 + 2)) 2 (c 1 3 + 2) (sb (sb (x1 / 256)))) 1 3 (c 1 3 + 3)) 2 (c 1 3 + 3) (sb (sb x1))) 1 3 (c 1 3 + 4)) 2 (c 1 3 + 4) (sb (sb (x2 / 16777216)))) 1 3 (c 1 3 + 5)) 2 (c 1 3 + 5) (sb (sb (x2 / 65536)))) 1 3 (c 1 3 + 6)) 2 (c 1 3 + 6) (sb (sb (x2 / 256)))) 1 3 (c 1 3 + 7)) 2 (c 1 3 + 7) (sb (sb x2))) 1 3 (c 1 3 + 8)) 2 (c 1 3 + 8) (sb (sb (x3 / 16777216)))) 1 3 (c 1 3 + 9)) 2 (c 1 3 + 9) (sb (sb (x3 / 65536)))) 1 3 (c 1 3 + 10)) 2 (c 1 3 + 10) (sb (sb (x3 / 256)))) 1 3 (c 1 3 + 11)) 2 (c 1 3 + 11) (sb (sb x3))) 1 3 (c 1 3 + 12)) 2 (c 1 3 + 12) (sb (sb (x4 / 16777216)))) 1 3 (c 1 3 + 13)) 2 (c 1 3 + 13) (sb (sb (x4 / 65536)))) 1 3 (c 1 3 + 14)) 2 (c 1 3 + 14) (sb (sb (x4 / 256)))) 1 3 (c 1 3 + 15)) 2 (c 1 3 + 15) (sb (sb x4))) 1 3 (c 1 3 + 16)) 2 (c 1 3 + 16) (sb (sb (x5 / 16777216)))) 1 3 (c 1 3 + 17)) 2 (c 1 3 + 17) (sb (sb (x5 / 65536)))) 1 3 (c 1 3 + 18)) 2 (c 1 3 + 18) (sb (sb (x5 / 256)))) 1 3 (c 1 3 + 19)) 2 (c 1 3 + 19) (sb (sb x5))) 1 3 (c 1 3 + 20)) 41 0 0) 43 (c 41 2) ((x1 / 16777216) % 256)) 41 2 (c 41 2 + 1)) 43 (c 41 2 + 1) ((x1 / 65536) % 256)) 41 2 (c 41 2 + 2)) 43 (c 41 2 + 2) ((x1 / 256) % 256)) 41 2 (c 41 2 + 3)) 43 (c 41 2 + 3) (x1 % 256)) 41 2 (c 41 2 + 4)) 43 (c 41 2 + 4) ((x2 / 16777216) % 256)) 41 2 (c 41 2 + 5)) 43 (c 41 2 + 5) ((x2 / 65536) % 256)) 41 2 (c 41 2 + 6)) 43 (c 41 2 + 6) ((x2 / 256) % 256)) 41 2 (c 41 2 + 7)) 43 (c 41 2 + 7) (x2 % 256)) 41 2 (c 41 2 + 8)) 43 (c 41 2 + 8) ((x3 / 16777216) % 256)) 41 2 (c 41 2 + 9)) 43 (c 41 2 + 9) ((x3 / 65536) % 256)) 41 2 (c 41 2 + 10)) 43 (c 41 2 + 10) ((x3 / 256) % 256)) 41 2 (c 41 2 + 11)) 43 (c 41 2 + 11) (x3 % 256)) 41 2 (c 41 2 + 12)) 43 (c 41 2 + 12) ((x4 / 16777216) % 256)) 41 2 (c 41 2 + 13)) 43 (c 41 2 + 13) ((x4 / 65536) % 256)) 41 2 (c 41 2 + 14)) 43 (c 41 2 + 14) ((x4 / 256) % 256)) 41 2 (c 41 2 + 15)) 43 (c 41 2 + 15) (x4 % 256)) 41 2 (c 41 2 + 16)) 43 (c 41 2 + 16) ((x5 / 16777216) % 256)) 41 2 (c 41 2 + 17)) 43 (c 41 2 + 17) ((x5 / 65536) % 256)) 41 2 (c 41 2 + 18)) 43 (c 41 2 + 18) ((x5 / 256) % 256)) 41 2 (c 41 2 + 19)) 43 (c 41 2 + 19) (x5 % 256)) 41 2 (c 41 2 + 20)) 43 (c 1 3 + 10) = ((x3 / 256) % 256) from ((up_c (by decide)).trans ((up_n (by omega)).trans ((up_c (by decide)).trans ((up_n (by omega)).trans ((up_c (by decide)).trans ((up_n (by omega)).trans ((up_c (by decide)).trans ((up_n (by omega)).trans ((up_c (by decide)).trans ((up_n (by omega)).trans ((up_c (by decide)).trans ((up_n (by omega)).trans ((up_c (by decide)).trans ((up_n (by omega)).trans ((up_c (by decide)).trans ((up_n (by omega)).trans ((up_c (by decide)).trans ((up_n (by omega)).trans ((up_c (by decide)).trans (up_e (by omega)))))))))))))))))))))]
        exact ⟨((sb_mod (x3 / 256)).symm.trans (sb_mod (sb (x3 / 256))).symm), sb_rng (sb (x3 / 256))⟩
      by_cases e11 : j = c 1 3 + 11
      · rw [e11, show (up (up (up (up (up (up (up (up (up (up (up (up (up (up (up (up (up (up (up (up (up (up (up (up (up (up (up (up (up (up (up (up (up (up (up (up (up (up (up (up (up (up (up (up (up (up (up (up (up (up (up (up (up (up (up (up (up (up (up (up (up (up (up (up (up (up (up (up (up (up (up (up (up (up (up (up (up (up (up (up (up c 2 (c 1 3) (sb (sb (x1 / 16777216)))) 1 3 (c 1 3 + 1)) 2 (c 1 3 + 1) (sb (sb (x1 / 65536)))) 1 3 (c 1 3 + 2)) 2 (c 1 3 + 2) (sb (sb (x1 / 256)))) 1 3 (c 1 3 + 3)) 2 (c 1 3 + 3) (sb (sb x1))) 1 3 (c 1 3 + 4)) 2 (c 1 3 + 4) (sb (sb (x2 / 16777216)))) 1 3 (c 1 3 + 5)) 2 (c 1 3 + 5) (sb (sb (x2 / 65536)))) 1 3 (c 1 3 + 6)) 2 (c 1 3 + 6) (sb (sb (x2 / 256)))) 1 3 (c 1 3 + 7)) 2 (c 1 3 + 7) (sb (sb x2))) 1 3 (c 1 3 + 8)) 2 (c 1 3 + 8) (sb (sb (x3 / 16777216)))) 1 3 (c 1 3 + 9)) 2 (c 1 3 + 9) (sb (sb (x3 / 65536)))) 1 3 (c 1 3 + 10)) 2 (c 1 3 + 10) (sb (sb (x3 / 256)))) 1 3 (c 1 3 + 11)) 2 (c 1 3 + 11) (sb (sb x3))) 1 3 (c 1 3 + 12)) 2 (c 1 3 + 12) (sb (sb (x4 / 16777216)))) 1 3 (c 1 3 + 13)) 2 (c 1 3 + 13) (sb (sb (x4 / 65536)))) 1 3 (c 1 3 + 14)) 2 (c 1 3 + 14) (sb (sb (x4 / 256)))) 1 3 (c 1 3 + 15)) 2 (c 1 3 + 15) (sb (sb x4))) 1 3 (c 1 3 + 16)) 2 (c 1 3 + 16) (sb (sb (x5 / 16777216)))) 1 3 (c 1 3 + 17)) 2 (c 1 3 + 17) (sb (sb (x5 / 65536)))) 1 3 (c 1 3 + 18)) 2 (c 1 3 + 18) (sb (sb (x5 / 256)))) 1 3 (c 1 3 + 19)) 2 (c 1 3 + 19) (sb (sb x5))) 1 3 (c 1 3 + 20)) 41 0 0) 43 (c 41 2) ((x1 / 16777216) % 256)) 41 2 (c 41 2 + 1)) 43 (c 41 2 + 1) ((x1 / 65536) % 256)) 41 2 (c 41 2 + 2)) 43 (c 41 2 + 2) ((x1 / 256) % 256)) 41 2 (c 41 2 + 3)) 43 (c 41 2 + 3) (x1 % 256)) 41 2 (c 41 2 + 4)) 43 (c 41 2 + 4) ((x2 / 16777216) % 256)) 41 2 (c 41 2 + 5)) 43 (c 41 2 + 5) ((x2 / 65536) % 256)) 41 2 (c 41 2 + 6)) 43 (c 41 2 + 6) ((x2 / 256) % 256)) 41 2 (c 41 2 + 7)) 43 (c 41 2 + 7) (x2 % 256)) 41 2 (c 41 2 + 8)) 43 (c 41 2 + 8) ((x3 / 16777216) % 256)) 41 2 (c 41 2 + 9)) 43 (c 41 2 + 9) ((x3 / 65536) % 256)) 41 2 (c 41 2 + 10)) 43 (c 41 2 + 10) ((x3 / 256) % 256)) 41 2 (c 41 2 + 11)) 43 (c 41 2 + 11) (x3 % 256)) 41 2 (c 41 2 + 12)) 43 (c 41 2 + 12) ((x4 / 16777216) % 256)) 41 2 (c 41 2 + 13)) 43 (c 41 2 + 13) ((x4 / 65536) % 256)) 41 2 (c 41 2 + 14)) 43 (c 41 2 + 14) ((x4 / 256) % 256)) 41 2 (c 41 2 + 15)) 43 (c 41 2 + 15) (x4 % 256)) 41 2 (c 41 2 + 16)) 43 (c 41 2 + 16) ((x5 / 16777216) % 256)) 41 2 (c 41 2 + 17)) 43 (c 41 2 + 17) ((x5 / 65536) % 256)) 41 2 (c 41 2 + 18)) 43 (c 41 2 + 18) ((x5 / 256) % 256)) 41 2 (c 41 2 + 19)) 43 (c 41 2 + 19) (x5 % 256)) 41 2 (c 41 2 + 20)) 2 (c 1 3 + 11) = (sb (sb x3)) from ((up_c (by decide)).trans ((up_c (by decide)).trans ((up_c (by decide)).trans ((up_c (by decide)).trans ((up_c (by decide)).trans ((up_c (by decide)).trans ((up_c (by decide)).trans ((up_c (by decide)).trans ((up_c (by decide)).trans ((up_c (by decide)).trans ((up_c (by decide)).trans ((up_c (by decide)).trans ((up_c (by decide)).trans ((up_c (by decide)).trans ((up_c (by decide)).trans ((up_c (by decide)).trans ((up_c (by decide)).trans ((up_c (by decide)).trans ((up_c (by decide)).trans ((up_c (by decide)).trans ((up_c (by decide)).trans ((up_c (by decide)).trans ((up_c (by decide)).trans ((up_c (by decide)).trans ((up_c (by decide)).trans ((up_c (by decide)).trans ((up_c (by decide)).trans ((up_c (by decide)).trans ((up_c (by decide)).trans ((up_c (by decide)).trans ((up_c (by decide)).trans ((up_c (by decide)).trans ((up_c (by decide)).trans ((up_c (by decide)).trans ((up_c (by decide)).trans ((up_c (by decide)).trans ((up_c (by decide)).trans ((up_c (by decide)).trans ((up_c (by decide)).trans ((up_c (by decide)).trans ((up_c (by decide)).trans ((up_c (by decide)).trans ((up_n (by omega)).trans ((up_c (by decide)).trans ((up_n (by omega)).trans ((up_c (by decide)).trans ((up_n (by omega)).trans ((up_c (by decide)).trans ((up_n (by omega)).trans ((up_c (by decide)).trans ((up_n (by omega)).trans ((up_c (by decide)).trans ((up_n (by omega)).trans ((up_c (by decide)).trans ((up_n (by omega)).trans ((up_c (by decide)).trans ((up_n (by omega)).trans ((up_c (by decide)).trans (up_e rfl))))))))))))))))))))))))))))))))))))))))))))))))))))))))))), show (up (up (up (up (up (up (up (up (up (up (up (up (up (up (up (up (up (up (up (up (up (up (up (up (up (up (up (up (up (up (up (up (up (up (up (up (up (up (up (up (up (up (up (up (up (up (up (up (up (up (up (up (up (up (up (up (up (up (up (up (up (up (up (up (up (up (up (up (up (up (up (up (up (up (up (up (up (up (up (up (up c 2 (c 1 3) (sb (sb (x1 / 16777216)))) 1 3 (c 1 3 + 1)) 2 (c 1 3 + 1) (sb (sb (x1 / 65536)))) 1 3 (c 1 3 + 2)) 2 (c 1 3 + 2) (sb (sb (x1 / 256)))) 1 3 (c 1 3 + 3)) 2 (c 1 3 + 3) (sb (sb x1))) 1 3 (c 1 3 + 4)) 2 (c 1 3 + 4) (sb (sb (x2 / 16777216)))) 1 3 (c 1 3 + 5)) 2 (c 1 3 + 5) (sb (sb (x2 / 65536)))) 1 3 (c 1 3 + 6)) 2 (c 1 3 + 6) (sb (sb (x2 / 256)))) 1 3 (c 1 3 + 7)) 2 (c 1 3 + 7) (sb (sb x2))) 1 3 (c 1 3 + 8)) 2 (c 1 3 + 8) (sb (sb (x3 / 16777216)))) 1 3 (c 1 3 + 9)) 2 (c 1 3 + 9) (sb (sb (x3 / 65536)))) 1 3 (c 1 3 + 10)) 2 (c 1 3 + 10) (sb (sb (x3 / 256)))) 1 3 (c 1 3 + 11)) 2 (c 1 3 + 11) (sb (sb x3))) 1 3 (c 1 3 + 12)) 2 (c 1 3 + 12) (sb (sb (x4 / 16777216)))) 1 3 (c 1 3 + 13)) 2 (c 1 3 + 13) (sb (sb (x4 / 65536)))) 1 3 (c 1 3 + 14)) 2 (c 1 3 + 14) (sb (sb (x4 / 256)))) 1 3 (c 1 3 + 15)) 2 (c 1 3 + 15) (sb (sb x4))) 1 3 (c 1 3 + 16)) 2 (c 1 3 + 16) (sb (sb (x5 / 16777216)))) 1 3 (c 1 3 + 17)) 2 (c 1 3 + 17) (sb (sb (x5 / 65536)))) 1 3 (c 1 3 + 18)) 2 (c 1 3 + 18) (sb (sb (x5 / 256)))) 1 3 (c 1 3 + 19)) 2 (c 1 3 + 19) (sb (sb x5))) 1 3 (c 1 3 + 20)) 41 0 0) 43 (c 41 2) ((x1 / 16777216) % 256)) 41 2 (c 41 2 + 1)) 43 (c 41 2 + 1) ((x1 / 65536) % 256)) 41 2 (c 41 2 + 2)) 43 (c 41 2 + 2) ((x1 / 256) % 256)) 41 2 (c 41 2 + 3)) 43 (c 41 2 + 3) (x1 % 256)) 41 2 (c 41 2 + 4)) 43 (c 41 2 + 4) ((x2 / 16777216) % 256)) 41 2 (c 41 2 + 5)) 43 (c 41 2 + 5) ((x2 / 65536) % 256)) 41 2 (c 41 2 + 6)) 43 (c 41 2 + 6) ((x2 / 256) % 256)) 41 2 (c 41 2 + 7)) 43 (c 41 2 + 7) (x2 % 256)) 41 2 (c 41 2 + 8)) 43 (c 41 2 + 8) ((x3 / 16777216) % 256)) 41 2 (c 41 2 + 9)) 43 (c 41 2 + 9) ((x3 / 65536) % 256)) 41 2 (c 41 2 + 10)) 43 (c 41 2 + 10) ((x3 / 256) % 256)) 41 2 (c 41 2 + 11)) 43 (c 41 2 + 11) (x3 % 256)) 41 2 (c 41 2 + 12)) 43 (c 41 2 + 12) ((x4 / 16777216) % 256)) 41 2 (c 41 2 + 13)) 43 (c 41 2 + 13) ((x4 / 65536) % 256)) 41 2 (c 41 2 + 14)) 43 (c 41 2 + 14) ((x4 / 256) % 256)) 41 2 (c 41 2 + 15)) 43 (c 41 2 + 15) (x4 % 256)) 41 2 (c 41 2 + 16)) 43 (c 41 2 + 16) ((x5 / 16777216) % 256)) 41 2 (c 41 2 + 17)) 43 (c 41 2 + 17) ((x5 / 65536) % 256)) 41 2 (c 41 2 + 18)) 43 (c 41 2 + 18) ((x5 / 256) % 256)) 41 2 (c 41 2 + 19)) 43 (c 41 2 + 19) (x5 % 256)) 41 2 (c 41 2 + 20)) 43 (c 1 3 + 11) = (x3 % 256) from ((up_c (by decide)).trans ((up_n (by omega)).trans ((up_c (by decide)).trans ((up_n (by omega)).trans ((up_c (by decide)).trans ((up_n (by omega)).trans ((up_c (by decide)).trans ((up_n (by omega)).trans ((up_c (by decide)).trans ((up_n (by omega)).trans ((up_c (by decide)).trans ((up_n (by omega)).trans ((up_c (by decide)).trans ((up_n (by omega)).trans ((up_c (by decide)).trans ((up_n (by omega)).trans ((up_c (by decide)).trans (up_e (by omega)))))))))))))))))))]
        exact ⟨((sb_mod x3).symm.trans (sb_mod (sb x3)).symm), sb_rng (sb x3)⟩
      by_cases e12 : j = c 1 3 + 12
      · rw [e12, show (up (up (up (up (up (up (up (up (up (up (up (up (up (up (up (up (up (up (up (up (up (up (up (up (up (up (up (up (up (up (up (up (up (up (up (up (up (up (up (up (up (up (up (up (up (up (up (up (up (up (up (up (up (up (up (up (up (up (up (up (up (up (up (up (up (up (up (up (up (up (up (up (up (up (up (up (up (up (up (up (up c 2 (c 1 3) (sb (sb (x1 / 16777216)))) 1 3 (c 1 3 + 1)) 2 (c 1 3 + 1) (sb (sb (x1 / 65536)))) 1 3 (c 1 3 + 2)) 2 (c 1 3 + 2) (sb (sb (x1 / 256)))) 1 3 (c 1 3 + 3)) 2 (c 1 3 + 3) (sb (sb x1))) 1 3 (c 1 3 + 4)) 2 (c 1 3 + 4) (sb (sb (x2 / 16777216)))) 1 3 (c 1 3 + 5)) 2 (c 1 3 + 5) (sb (sb (x2 / 65536)))) 1 3 (c 1 3 + 6)) 2 (c 1 3 + 6) (sb (sb (x2 / 256)))) 1 3 (c 1 3 + 7)) 2 (c 1 3 + 7) (sb (sb x2))) 1 3 (c 1 3 + 8)) 2 (c 1 3 + 8) (sb (sb (x3 / 16777216)))) 1 3 (c 1 3 + 9)) 2 (c 1 3 + 9) (sb (sb (x3 / 65536)))) 1 3 (c 1 3 + 10)) 2 (c 1 3 + 10) (sb (sb (x3 / 256)))) 1 3 (c 1 3 + 11)) 2 (c 1 3 + 11) (sb (sb x3))) 1 3 (c 1 3 + 12)) 2 (c 1 3 + 12) (sb (sb (x4 / 16777216)))) 1 3 (c 1 3 + 13)) 2 (c 1 3 + 13) (sb (sb (x4 / 65536)))) 1 3 (c 1 3 + 14)) 2 (c 1 3 + 14) (sb (sb (x4 / 256)))) 1 3 (c 1 3 + 15)) 2 (c 1 3 + 15) (sb (sb x4))) 1 3 (c 1 3 + 16)) 2 (c 1 3 + 16) (sb (sb (x5 / 16777216)))) 1 3 (c 1 3 + 17)) 2 (c 1 3 + 17) (sb (sb (x5 / 65536)))) 1 3 (c 1 3 + 18)) 2 (c 1 3 + 18) (sb (sb (x5 / 256)))) 1 3 (c 1 3 + 19)) 2 (c 1 3 + 19) (sb (sb x5))) 1 3 (c 1 3 + 20)) 41 0 0) 43 (c 41 2) ((x1 / 16777216) % 256)) 41 2 (c 41 2 + 1)) 43 (c 41 2 + 1) ((x1 / 65536) % 256)) 41 2 (c 41 2 + 2)) 43 (c 41 2 + 2) ((x1 / 256) % 256)) 41 2 (c 41 2 + 3)) 43 (c 41 2 + 3) (x1 % 256)) 41 2 (c 41 2 + 4)) 43 (c 41 2 + 4) ((x2 / 16777216) % 256)) 41 2 (c 41 2 + 5)) 43 (c 41 2 + 5) ((x2 / 65536) % 256)) 41 2 (c 41 2 + 6)) 43 (c 41 2 + 6) ((x2 / 256) % 256)) 41 2 (c 41 2 + 7)) 43 (c 41 2 + 7) (x2 % 256)) 41 2 (c 41 2 + 8)) 43 (c 41 2 + 8) ((x3 / 16777216) % 256)) 41 2 (c 41 2 + 9)) 43 (c 41 2 + 9) ((x3 / 65536) % 256)) 41 2 (c 41 2 + 10)) 43 (c 41 2 + 10) ((x3 / 256) % 256)) 41 2 (c 41 2 + 11)) 43 (c 41 2 + 11) (x3 % 256)) 41 2 (c 41 2 + 12)) 43 (c 41 2 + 12) ((x4 / 16777216) % 256)) 41 2 (c 41 2 + 13)) 43 (c 41 2 + 13) ((x4 / 65536) % 256)) 41 2 (c 41 2 + 14)) 43 (c 41 2 + 14) ((x4 / 256) % 256)) 41 2 (c 41 2 + 15)) 43 (c 41 2 + 15) (x4 % 256)) 41 2 (c 41 2 + 16)) 43 (c 41 2 + 16) ((x5 / 16777216) % 256)) 41 2 (c 41 2 + 17)) 43 (c 41 2 + 17) ((x5 / 65536) % 256)) 41 2 (c 41 2 + 18)) 43 (c 41 2 + 18) ((x5 / 256) % 256)) 41 2 (c 41 2 + 19)) 43 (c 41 2 + 19) (x5 % 256)) 41 2 (c 41 2 + 20)) 2 (c 1 3 + 12) = (sb (sb (x4 / 16777216))) from ((up_c (by decide)).trans ((up_c (by decide)).trans ((up_c (by decide)).trans ((up_c (by decide)).trans ((up_c (by decide)).trans ((up_c (by decide)).trans ((up_c (by decide)).trans ((up_c (by decide)).trans ((up_c (by decide)).trans ((up_c (by decide)).trans ((up_c (by decide)).trans ((up_c (by decide)).trans ((up_c (by decide)).trans ((up_c (by decide)).trans ((up_c (by decide)).trans ((up_c (by decide)).trans ((up_c (by decide)).trans ((up_c (by decide)).trans ((up_c (by decide)).trans ((up_c (by decide)).trans ((up_c (by decide)).trans ((up_c (by decide)).trans ((up_c (by decide)).trans ((up_c (by decide)).trans ((up_c (by decide)).trans ((up_c (by decide)).trans ((up_c (by decide)).trans ((up_c (by decide)).trans ((up_c (by decide)).trans ((up_c (by decide)).trans ((up_c (by decide)).trans ((up_c (by decide)).trans ((up_c (by decide)).trans ((up_c (by decide)).trans ((up_c (by decide)).trans ((up_c (by decide)).trans ((up_c (by decide)).trans ((up_c (by decide)).trans ((up_c (by decide)).trans ((up_c (by decide)).trans ((up_c (by decide)).trans ((up_c (by decide)).trans ((up_n (by omega)).trans ((up_c (by decide)).trans ((up_n (by omega)).trans ((up_c (by decide)).trans ((up_n (by omega)).trans ((up_c (by decide)).trans ((up_n (by omega)).trans ((up_c (by decide)).trans ((up_n (by omega)).trans ((up_c (by decide)).trans ((up_n (by omega)).trans ((up_c (by decide)).trans ((up_n (by omega)).trans ((up_c (by decide)).trans (up_e rfl))))))))))))))))))))))))))))))))))))))))))))))))))))))))), show (up (up (up (up (up (up (up (up (up (up (up (up (up (up (up (up (up (up (up (up (up (up (up (up (up (up (up (up (up (up (up (up (up (up (up (up (up (up (up (up (up (up (up (up (up (up (up (up (up (up (up (up (up (up (up (up (up (up (up (up (up (up (up (up (up (up (up (up (up (up (up (up (up (up (up (up (up (up (up (up (up c 2 (c 1 3) (sb (sb (x1 / 16777216)))) 1 3 (c 1 3 + 1)) 2 (c 1 3 + 1) (sb (sb (x1 / 65536)))) 1 3 (c 1 3 + 2)) 2 (c 1 3 + 2) (sb (sb (x1 / 256)))) 1 3 (c 1 3 + 3)) 2 (c 1 3 + 3) (sb (sb x1))) 1 3 (c 1 3 + 4)) 2 (c 1 3 + 4) (sb (sb (x2 / 16777216)))) 1 3 (c 1 3 + 5)) 2 (c 1 3 + 5) (sb (sb (x2 / 65536)))) 1 3 (c 1 3 + 6)) 2 (c 1 3 + 6) (sb (sb (x2 / 256)))) 1 3 (c 1 3 + 7)) 2 (c 1 3 + 7) (sb (sb x2))) 1 3 (c 1 3 + 8)) 2 (c 1 3 + 8) (sb (sb (x3 / 16777216)))) 1 3 (c 1 3 + 9)) 2 (c 1 3 + 9) (sb (sb (x3 / 65536)))) 1 3 (c 1 3 + 10)) 2 (c 1 3 + 10) (sb (sb (x3 / 256)))) 1 3 (c 1 3 + 11)) 2 (c 1 3 + 11) (sb (sb x3))) 1 3 (c 1 3 + 12)) 2 (c 1 3 + 12) (sb (sb (x4 / 16777216)))) 1 3 (c 1 3 + 13)) 2 (c 1 3 + 13) (sb (sb (x4 / 65536)))) 1 3 (c 1 3 + 14)) 2 (c 1 3 + 14) (sb (sb (x4 / 256)))) 1 3 (c 1 3 + 15)) 2 (c 1 3 + 15) (sb (sb x4))) 1 3 (c 1 3 + 16)) 2 (c 1 3 + 16) (sb (sb (x5 / 16777216)))) 1 3 (c 1 3 + 17)) 2 (c 1 3 + 17) (sb (sb (x5 / 65536)))) 1 3 (c 1 3 + 18)) 2 (c 1 3 + 18) (sb (sb (x5 / 256)))) 1 3 (c 1 3 + 19)) 2 (c 1 3 + 19) (sb (sb x5))) 1 3 (c 1 3 + 20)) 41 0 0) 43 (c 41 2) ((x1 / 16777216) % 256)) 41 2 (c 41 2 + 1)) 43 (c 41 2 + 1) ((x1 / 65536) % 256)) 41 2 (c 41 2 + 2)) 43 (c 41 2 + 2) ((x1 / 256) % 256)) 41 2 (c 41 2 + 3)) 43 (c 41 2 + 3) (x1 % 256)) 41 2 (c 41 2 + 4)) 43 (c 41 2 + 4) ((x2 / 16777216) % 256)) 41 2 (c 41 2 + 5)) 43 (c 41 2 + 5) ((x2 / 65536) % 256)) 41 2 (c 41 2 + 6)) 43 (c 41 2 + 6) ((x2 / 256) % 256)) 41 2 (c 41 2 + 7)) 43 (c 41 2 + 7) (x2 % 256)) 41 2 (c 41 2 + 8)) 43 (c 41 2 + 8) ((x3 / 16777216) % 256)) 41 2 (c 41 2 + 9)) 43 (c 41 2 + 9) ((x3 / 65536) % 256)) 41 2 (c 41 2 + 10)) 43 (c 41 2 + 10) ((x3 / 256) % 256)) 41 2 (c 41 2 + 11)) 43 (c 41 2 + 11) (x3 % 256)) 41 2 (c 41 2 + 12)) 43 (c 41 2 + 12) ((x4 / 16777216) % 256)) 41 2 (c 41 2 + 13)) 43 (c 41 2 + 13) ((x4 / 65536) % 256)) 41 2 (c 41 2 + 14)) 43 (c 41 2 + 14) ((x4 / 256) % 256)) 41 2 (c 41 2 + 15)) 43 (c 41 2 + 15) (x4 % 256)) 41 2 (c 41 2 + 16)) 43 (c 41 2 + 16) ((x5 / 16777216) % 256)) 41 2 (c 41 2 + 17)) 43 (c 41 2 + 17) ((x5 / 65536) % 256)) 41 2 (c 41 2 + 18)) 43 (c 41 2 + 18) ((x5 / 256) % 256)) 41 2 (c 41 2 + 19)) 43 (c 41 2 + 19) (x5 % 256)) 41 2 (c 41 2 + 20)) 43 (c 1 3 + 12) = ((x4 / 16777216) % 256) from ((up_c (by decide)).trans ((up_n (by omega)).trans ((up_c (by decide)).trans ((up_n (by omega)).trans ((up_c (by decide)).trans ((up_n (by omega)).trans ((up_c (by decide)).trans ((up_n (by omega)).trans ((up_c (by decide)).trans ((up_n (by omega)).trans ((up_c (by decide)).trans ((up_n (by omega)).trans ((up_c (by decide)).trans ((up_n (by omega)).trans ((up_c (by decide)).trans (up_e (by omega)))))))))))))))))]
        exact ⟨((sb_mod (x4 / 16777216)).symm.trans (sb_mod (sb (x4 / 16777216))).symm), sb_rng (sb (x4 / 16777216))⟩
      by_cases e13 : j = c 1 3 + 13
      · rw [e13, show (up (up (up (up (up (up (up (up (up (up (up (up (up (up (up (up (up (up (up (up (up (up (up (up (up (up (up (up (up (up (up (up (up (up (up (up (up (up (up (up (up (up (up (up (up (up (up (up (up (up (up (up (up (up (up (up (up (up (up (up (up (up (up (up (up (up (up (up (up (up (up (up (up (up (up (up (up (up (up (up (up c 2 (c 1 3) (sb (sb (x1 / 16777216)))) 1 3 (c 1 3 + 1)) 2 (c 1 3 + 1) (sb (sb (x1 / 65536)))) 1 3 (c 1 3 + 2)) 2 (c 1 3 + 2) (sb (sb (x1 / 256)))) 1 3 (c 1 3 + 3)) 2 (c 1 3 + 3) (sb (sb x1))) 1 3 (c 1 3 + 4)) 2 (c 1 3 + 4) (sb (sb (x2 / 16777216)))) 1 3 (c 1 3 + 5)) 2 (c 1 3 + 5) (sb (sb (x2 / 65536)))) 1 3 (c 1 3 + 6)) 2 (c 1 3 + 6) (sb (sb (x2 / 256)))) 1 3 (c 1 3 + 7)) 2 (c 1 3 + 7) (sb (sb x2))) 1 3 (c 1 3 + 8)) 2 (c 1 3 + 8) (sb (sb (x3 / 16777216)))) 1 3 (c 1 3 + 9)) 2 (c 1 3 + 9) (sb (sb (x3 / 65536)))) 1 3 (c 1 3 + 10)) 2 (c 1 3 + 10) (sb (sb (x3 / 256)))) 1 3 (c 1 3 + 11)) 2 (c 1 3 + 11) (sb (sb x3))) 1 3 (c 1 3 + 12)) 2 (c 1 3 + 12) (sb (sb (x4 / 16777216)))) 1 3 (c 1 3 + 13)) 2 (c 1 3 + 13) (sb (sb (x4 / 65536)))) 1 3 (c 1 3 + 14)) 2 (c 1 3 + 14) (sb (sb (x4 / 256)))) 1 3 (c 1 3 + 15)) 2 (c 1 3 + 15) (sb (sb x4))) 1 3 (c 1 3 + 16)) 2 (c 1 3 + 16) (sb (sb (x5 / 16777216)))) 1 3 (c 1 3 + 17)) 2 (c 1 3 + 17) (sb (sb (x5 / 65536)))) 1 3 (c 1 3 + 18)) 2 (c 1 3 + 18) (sb (sb (x5 / 256)))) 1 3 (c 1 3 + 19)) 2 (c 1 3 + 19) (sb (sb x5))) 1 3 (c 1 3 + 20)) 41 0 0) 43 (c 41 2) ((x1 / 16777216) % 256)) 41 2 (c 41 2 + 1)) 43 (c 41 2 + 1) ((x1 / 65536) % 256)) 41 2 (c 41 2 + 2)) 43 (c 41 2 + 2) ((x1 / 256) % 256)) 41 2 (c 41 2 + 3)) 43 (c 41 2 + 3) (x1 % 256)) 41 2 (c 41 2 + 4)) 43 (c 41 2 + 4) ((x2 / 16777216) % 256)) 41 2 (c 41 2 + 5)) 43 (c 41 2 + 5) ((x2 / 65536) % 256)) 41 2 (c 41 2 + 6)) 43 (c 41 2 + 6) ((x2 / 256) % 256)) 41 2 (c 41 2 + 7)) 43 (c 41 2 + 7) (x2 % 256)) 41 2 (c 41 2 + 8)) 43 (c 41 2 + 8) ((x3 / 16777216) % 256)) 41 2 (c 41 2 + 9)) 43 (c 41 2 + 9) ((x3 / 65536) % 256)) 41 2 (c 41 2 + 10)) 43 (c 41 2 + 10) ((x3 / 256) % 256)) 41 2 (c 41 2 + 11)) 43 (c 41 2 + 11) (x3 % 256)) 41 2 (c 41 2 + 12)) 43 (c 41 2 + 12) ((x4 / 16777216) % 256)) 41 2 (c 41 2 + 13)) 43 (c 41 2 + 13) ((x4 / 65536) % 256)) 41 2 (c 41 2 + 14)) 43 (c 41 2 + 14) ((x4 / 256) % 256)) 41 2 (c 41 2 + 15)) 43 (c 41 2 + 15) (x4 % 256)) 41 2 (c 41 2 + 16)) 43 (c 41 2 + 16) ((x5 / 16777216) % 256)) 41 2 (c 41 2 + 17)) 43 (c 41 2 + 17) ((x5 / 65536) % 256)) 41 2 (c 41 2 + 18)) 43 (c 41 2 + 18) ((x5 / 256) % 256)) 41 2 (c 41 2 + 19)) 43 (c 41 2 + 19) (x5 % 256)) 41 2 (c 41 2 + 20)) 2 (c 1 3 + 13) = (sb (sb (x4 / 65536))) from ((up_c (by decide)).trans ((up_c (by decide)).trans ((up_c (by decide)).trans ((up_c (by decide)).trans ((up_c (by decide)).trans ((up_c (by decide)).trans ((up_c (by decide)).trans ((up_c (by decide)).trans ((up_c (by decide)).trans ((up_c (by decide)).trans ((up_c (by decide)).trans ((up_c (by decide)).trans ((up_c (by decide)).trans ((up_c (by decide)).trans ((up_c (by decide)).trans ((up_c (by decide)).trans ((up_c (by decide)).trans ((up_c (by decide)).trans ((up_c (by decide)).trans ((up_c (by decide)).trans ((up_c (by decide)).trans ((up_c (by decide)).trans ((up_c (by decide)).trans ((up_c (by decide)).trans ((up_c (by decide)).trans ((up_c (by decide)).trans ((up_c (by decide)).trans ((up_c (by decide)).trans ((up_c (by decide)).trans ((up_c (by decide)).trans ((up_c (by decide)).trans ((up_c (by decide)).trans ((up_c (by decide)).trans ((up_c (by decide)).trans ((up_c (by decide)).trans ((up_c (by decide)).trans ((up_c (by decide)).trans ((up_c (by decide)).trans ((up_c (by decide)).trans ((up_c (by decide)).trans ((up_c (by decide)).trans ((up_c (by decide)).trans ((up_n (by omega)).trans ((up_c (by decide)).trans ((up_n (by omega)).trans ((up_c (by decide)).trans ((up_n (by omega)).trans ((up_c (by decide)).trans ((up_n (by omega)).trans ((up_c (by decide)).trans ((up_n (by omega)).trans ((up_c (by decide)).trans ((up_n (by omega)).trans ((up_c (by decide)).trans (up_e rfl))))))))))))))))))))))))))))))))))))))))))))))))))))))), show (up (up (up (up (up (up (up (up (up (up (up (up (up (up (up (up (up (up (up (up (up (up (up (up (up (up (up (up (up (up (up (up (up (up (up (up (up (up (up (up (up (up (up (up (up (up (up (up (up (up (up (up (up (up (up (up (up (up (up (up (up (up (up (up (up (up (up (up (up (up (up (up (up (up (up (up (up (up (up (up (up c 2 (c 1 3) (sb (sb (x1 / 16777216)))) 1 3 (c 1 3 + 1)) 2 (c 1 3 + 1) (sb (sb (x1 / 65536)))) 1 3 (c 1 3 + 2)) 2 (c 1 3 + 2) (sb (sb (x1 / 256)))) 1 3 (c 1 3 + 3)) 2 (c 1 3 + 3) (sb (sb x1))) 1 3 (c 1 3 + 4)) 2 (c 1 3 + 4) (sb (sb (x2 / 16777216)))) 1 3 (c 1 3 + 5)) 2 (c 1 3 + 5) (sb (sb (x2 / 65536)))) 1 3 (c 1 3 + 6)) 2 (c 1 3 + 6) (sb (sb (x2 / 256)))) 1 3 (c 1 3 + 7)) 2 (c 1 3 + 7) (sb (sb x2))) 1 3 (c 1 3 + 8)) 2 (c 1 3 + 8) (sb (sb (x3 / 16777216)))) 1 3 (c 1 3 + 9)) 2 (c 1 3 + 9) (sb (sb (x3 / 65536)))) 1 3 (c 1 3 + 10)) 2 (c 1 3 + 10) (sb (sb (x3 / 256)))) 1 3 (c 1 3 + 11)) 2 (c 1 3 + 11) (sb (sb x3))) 1 3 (c 1 3 + 12)) 2 (c 1 3 + 12) (sb (sb (x4 / 16777216)))) 1 3 (c 1 3 + 13)) 2 (c 1 3 + 13) (sb (sb (x4 / 65536)))) 1 3 (c 1 3 + 14)) 2 (c 1 3 + 14) (sb (sb (x4 / 256)))) 1 3 (c 1 3 + 15)) 2 (c 1 3 + 15) (sb (sb x4))) 1 3 (c 1 3 + 16)) 2 (c 1 3 + 16) (sb (sb (x5 / 16777216)))) 1 3 (c 1 3 + 17)) 2 (c 1 3 + 17) (sb (sb (x5 / 65536)))) 1 3 (c 1 3 + 18)) 2 (c 1 3 + 18) (sb (sb (x5 / 256)))) 1 3 (c 1 3 + 19)) 2 (c 1 3 + 19) (sb (sb x5))) 1 3 (c 1 3 + 20)) 41 0 0) 43 (c 41 2) ((x1 / 16777216) % 256)) 41 2 (c 41 2 + 1)) 43 (c 41 2 + 1) ((x1 / 65536) % 256)) 41 2 (c 41 2 + 2)) 43 (c 41 2 + 2) ((x1 / 256) % 256)) 41 2 (c 41 2 + 3)) 43 (c 41 2 + 3) (x1 % 256)) 41 2 (c 41 2 + 4)) 43 (c 41 2 + 4) ((x2 / 16777216) % 256)) 41 2 (c 41 2 + 5)) 43 (c 41 2 + 5) ((x2 / 65536) % 256)) 41 2 (c 41 2 + 6)) 43 (c 41 2 + 6) ((x2 / 256) % 256)) 41 2 (c 41 2 + 7)) 43 (c 41 2 + 7) (x2 % 256)) 41 2 (c 41 2 + 8)) 43 (c 41 2 + 8) ((x3 / 16777216) % 256)) 41 2 (c 41 2 + 9)) 43 (c 41 2 + 9) ((x3 / 65536) % 256)) 41 2 (c 41 2 + 10)) 43 (c 41 2 + 10) ((x3 / 256) % 256)) 41 2 (c 41 2 + 11)) 43 (c 41 2 + 11) (x3 % 256)) 41 2 (c 41 2 + 12)) 43 (c 41 2 + 12) ((x4 / 16777216) % 256)) 41 2 (c 41 2 + 13)) 43 (c 41 2 + 13) ((x4 / 65536) % 256)) 41 2 (c 41 2 + 14)) 43 (c 41 2 + 14) ((x4 / 256) % 256)) 41 2 (c 41 2 + 15)) 43 (c 41 2 + 15) (x4 % 256)) 41 2 (c 41 2 + 16)) 43 (c 41 2 + 16) ((x5 / 16777216) % 256)) 41 2 (c 41 2 + 17)) 43 (c 41 2 + 17) ((x5 / 65536) % 256)) 41 2 (c 41 2 + 18)) 43 (c 41 2 + 18) ((x5 / 256) % 256)) 41 2 (c 41 2 + 19)) 43 (c 41 2 + 19) (x5 % 256)) 41 2 (c 41 2 + 20)) 43 (c 1 3 + 13) = ((x4 / 65536) % 256) from ((up_c (by decide)).trans ((up_n (by omega)).trans ((up_c (by decide)).trans ((up_n (by omega)).trans ((up_c (by decide)).trans ((up_n (by omega)).trans ((up_c (by decide)).trans ((up_n (by omega)).trans ((up_c (by decide)).trans ((up_n (by omega)).trans ((up_c (by decide)).trans ((up_n (by omega)).trans ((up_c (by decide)).trans (up_e (by omega)))))))))))))))]
        exact ⟨((sb_mod (x4 / 65536)).symm.trans (sb_mod (sb (x4 / 65536))).symm), sb_rng (sb (x4 / 65536))⟩
      by_cases e14 : j = c 1 3 + 14
      · rw [e14, show (up (up (up (up (up (up (up (up (up (up (up (up (up (up (up (up (up (up (up (up (up (up (up (up (up (up (up (up (up (up (up (up (up (up (up (up (up (up (up (up (up (up (up (up (up (up (up (up (up (up (up (up (up (up (up (up (up (up (up (up (up (up (up (up (up (up (up (up (up (up (up (up (up (up (up (up (up (up (up (up (up c 2 (c 1 3) (sb (sb (x1 / 16777216)))) 1 3 (c 1 3 + 1)) 2 (c 1 3 + 1) (sb (sb (x1 / 65536)))) 1 3 (c 1 3 + 2)) 2 (c 1 3 + 2) (sb (sb (x1 / 256)))) 1 3 (c 1 3 + 3)) 2 (c 1 3 + 3) (sb (sb x1))) 1 3 (c 1 3 + 4)) 2 (c 1 3 + 4) (sb (sb (x2 / 16777216)))) 1 3 (c 1 3 + 5)) 2 (c 1 3 + 5) (sb (sb (x2 / 65536)))) 1 3 (c 1 3 + 6)) 2 (c 1 3 + 6) (sb (sb (x2 / 256)))) 1 3 (c 1 3 + 7)) 2 (c 1 3 + 7) (sb (sb x2))) 1 3 (c 1 3 + 8)) 2 (c 1 3 + 8) (sb (sb (x3 / 16777216)))) 1 3 (c 1 3 + 9)) 2 (c 1 3 + 9) (sb (sb (x3 / 65536)))) 1 3 (c 1 3 + 10)) 2 (c 1 3 + 10) (sb (sb (x3 / 256)))) 1 3 (c 1 3 + 11)) 2 (c 1 3 + 11) (sb (sb x3))) 1 3 (c 1 3 + 12)) 2 (c 1 3 + 12) (sb (sb (x4 / 16777216)))) 1 3 (c 1 3 + 13)) 2 (c 1 3 + 13) (sb (sb (x4 / 65536)))) 1 3 (c 1 3 + 14)) 2 (c 1 3 + 14) (sb (sb (x4 / 256)))) 1 3 (c 1 3 + 15)) 2 (c 1 3 + 15) (sb (sb x4))) 1 3 (c 1 3 + 16)) 2 (c 1 3 + 16) (sb (sb (x5 / 16777216)))) 1 3 (c 1 3 + 17)) 2 (c 1 3 + 17) (sb (sb (x5 / 65536)))) 1 3 (c 1 3 + 18)) 2 (c 1 3 + 18) (sb (sb (x5 / 256)))) 1 3 (c 1 3 + 19)) 2 (c 1 3 + 19) (sb (sb x5))) 1 3 (c 1 3 + 20)) 41 0 0) 43 (c 41 2) ((x1 / 16777216) % 256)) 41 2 (c 41 2 + 1)) 43 (c 41 2 + 1) ((x1 / 65536) % 256)) 41 2 (c 41 2 + 2)) 43 (c 41 2 + 2) ((x1 / 256) % 256)) 41 2 (c 41 2 + 3)) 43 (c 41 2 + 3) (x1 % 256)) 41 2 (c 41 2 + 4)) 43 (c 41 2 + 4) ((x2 / 16777216) % 256)) 41 2 (c 41 2 + 5)) 43 (c 41 2 + 5) ((x2 / 65536) % 256)) 41 2 (c 41 2 + 6)) 43 (c 41 2 + 6) ((x2 / 256) % 256)) 41 2 (c 41 2 + 7)) 43 (c 41 2 + 7) (x2 % 256)) 41 2 (c 41 2 + 8)) 43 (c 41 2 + 8) ((x3 / 16777216) % 256)) 41 2 (c 41 2 + 9)) 43 (c 41 2 + 9) ((x3 / 65536) % 256)) 41 2 (c 41 2 + 10)) 43 (c 41 2 + 10) ((x3 / 256) % 256)) 41 2 (c 41 2 + 11)) 43 (c 41 2 + 11) (x3 % 256)) 41 2 (c 41 2 + 12)) 43 (c 41 2 + 12) ((x4 / 16777216) % 256)) 41 2 (c 41 2 + 13)) 43 (c 41 2 + 13) ((x4 / 65536) % 256)) 41 2 (c 41 2 + 14)) 43 (c 41 2 + 14) ((x4 / 256) % 256)) 41 2 (c 41 2 + 15)) 43 (c 41 2 + 15) (x4 % 256)) 41 2 (c 41 2 + 16)) 43 (c 41 2 + 16) ((x5 / 16777216) % 256)) 41 2 (c 41 2 + 17)) 43 (c 41 2 + 17) ((x5 / 65536) % 256)) 41 2 (c 41 2 + 18)) 43 (c 41 2 + 18) ((x5 / 256) % 256)) 41 2 (c 41 2 + 19)) 43 (c 41 2 + 19) (x5 % 256)) 41 2 (c 41 2 + 20)) 2 (c 1 3 + 14) = (sb (sb (x4 / 256))) from ((up_c (by decide)).trans ((up_c (by decide)).trans ((up_c (by decide)).trans ((up_c (by decide)).trans ((up_c (by decide)).trans ((up_c (by decide)).trans ((up_c (by decide)).trans ((up_c (by decide)).trans ((up_c (by decide)).trans ((up_c (by decide)).trans ((up_c (by decide)).trans ((up_c (by decide)).trans ((up_c (by decide)).trans ((up_c (by decide)).trans ((up_c (by decide)).trans ((up_c (by decide)).trans ((up_c (by decide)).trans ((up_c (by decide)).trans ((up_c (by decide)).trans ((up_c (by decide)).trans ((up_c (by decide)).trans ((up_c (by decide)).trans ((up_c (by decide)).trans ((up_c (by decide)).trans ((up_c (by decide)).trans ((up_c (by decide)).trans ((up_c (by decide)).trans ((up_c (by decide)).trans ((up_c (by decide)).trans ((up_c (by decide)).trans ((up_c (by decide)).trans ((up_c (by decide)).trans ((up_c (by decide)).trans ((up_c (by decide)).trans ((up_c (by decide)).trans ((up_c (by decide)).trans ((up_c (by decide)).trans ((up_c (by decide)).trans ((up_c (by decide)).trans ((up_c (by decide)).trans ((up_c (by decide)).trans ((up_c (by decide)).trans ((up_n (by omega)).trans ((up_c (by decide)).trans ((up_n (by omega)).trans ((up_c (by decide)).trans ((up_n (by omega)).trans ((up_c (by decide)).trans ((up_n (by omega)).trans ((up_c (by decide)).trans ((up_n (by omega)).trans ((up_c (by decide)).trans (up_e rfl))))))))))))))))))))))))))))))))))))))))))))))))))))), show (up (up (up (up (up (up (up (up (up (up (up (up (up (up (up (up (up (up (up (up (up (up (up (up (up (up (up (up (up (up (up (up (up (up (up (up (up (up (up (up (up (up (up (up (up (up (up (up (up (up (up (up (up (up (up (up (up (up (up (up (up (up (up (up (up (up (up (up (up (up (up (up (up (up (up (up (up (up (up (up (up c 2 (c 1 3) (sb (sb (x1 / 16777216)))) 1 3 (c 1 3 + 1)) 2 (c 1 3 + 1) (sb (sb (x1 / 65536)))) 1 3 (c 1 3 + 2)) 2 (c 1 3 + 2) (sb (sb (x1 / 256)))) 1 3 (c 1 3 + 3)) 2 (c 1 3 + 3) (sb (sb x1))) 1 3 (c 1 3 + 4)) 2 (c 1 3 + 4) (sb (sb (x2 / 16777216)))) 1 3 (c 1 3 + 5)) 2 (c 1 3 + 5) (sb (sb (x2 / 65536)))) 1 3 (c 1 3 + 6)) 2 (c 1 3 + 6) (sb (sb (x2 / 256)))) 1 3 (c 1 3 + 7)) 2 (c 1 3 + 7) (sb (sb x2))) 1 3 (c 1 3 + 8)) 2 (c 1 3 + 8) (sb (sb (x3 / 16777216)))) 1 3 (c 1 3 + 9)) 2 (c 1 3 + 9) (sb (sb (x3 / 65536)))) 1 3 (c 1 3 + 10)) 2 (c 1 3 + 10) (sb (sb (x3 / 256)))) 1 3 (c 1 3 + 11)) 2 (c 1 3 + 11) (sb (sb x3))) 1 3 (c 1 3 + 12)) 2 (c 1 3 + 12) (sb (sb (x4 / 16777216)))) 1 3 (c 1 3 + 13)) 2 (c 1 3 + 13) (sb (sb (x4 / 65536)))) 1 3 (c 1 3 + 14)) 2 (c 1 3 + 14) (sb (sb (x4 / 256)))) 1 3 (c 1 3 + 15)) 2 (c 1 3 + 15) (sb (sb x4))) 1 3 (c 1 3 + 16)) 2 (c 1 3 + 16) (sb (sb (x5 / 16777216)))) 1 3 (c 1 3 + 17)) 2 (c 1 3 + 17) (sb (sb (x5 / 65536)))) 1 3 (c 1 3 + 18)) 2 (c 1 3 + 18) (sb (sb (x5 / 256)))) 1 3 (c 1 3 + 19)) 2 (c 1 3 + 19) (sb (sb x5))) 1 3 (c 1 3 + 20)) 41 0 0) 43 (c 41 2) ((x1 / 16777216) % 256)) 41 2 (c 41 2 + 1)) 43 (c 41 2 + 1) ((x1 / 65536) % 256)) 41 2 (c 41 2 + 2)) 43 (c 41 2 + 2) ((x1 / 256) % 256)) 41 2 (c 41 2 + 3)) 43 (c 41 2 + 3) (x1 % 256)) 41 2 (c 41 2 + 4)) 43 (c 41 2 + 4) ((x2 / 16777216) % 256)) 41 2 (c 41 2 + 5)) 43 (c 41 2 + 5) ((x2 / 65536) % 256)) 41 2 (c 41 2 + 6)) 43 (c 41 2 + 6) ((x2 / 256) % 256)) 41 2 (c 41 2 + 7)) 43 (c 41 2 + 7) (x2 % 256)) 41 2 (c 41 2 + 8)) 43 (c 41 2 + 8) ((x3 / 16777216) % 256)) 41 2 (c 41 2 + 9)) 43 (c 41 2 + 9) ((x3 / 65536) % 256)) 41 2 (c 41 2 + 10)) 43 (c 41 2 + 10) ((x3 / 256) % 256)) 41 2 (c 41 2 + 11)) 43 (c 41 2 + 11) (x3 % 256)) 41 2 (c 41 2 + 12)) 43 (c 41 2 + 12) ((x4 / 16777216) % 256)) 41 2 (c 41 2 + 13)) 43 (c 41 2 + 13) ((x4 / 65536) % 256)) 41 2 (c 41 2 + 14)) 43 (c 41 2 + 14) ((x4 / 256) % 256)) 41 2 (c 41 2 + 15)) 43 (c 41 2 + 15) (x4 % 256)) 41 2 (c 41 2 + 16)) 43 (c 41 2 + 16) ((x5 / 16777216) % 256)) 41 2 (c 41 2 + 17)) 43 (c 41 2 + 17) ((x5 / 65536) % 256)) 41 2 (c 41 2 + 18)) 43 (c 41 2 + 18) ((x5 / 256) % 256)) 41 2 (c 41 2 + 19)) 43 (c 41 2 + 19) (x5 % 256)) 41 2 (c 41 2 + 20)) 43 (c 1 3 + 14) = ((x4 / 256) % 256) from ((up_c (by decide)).trans ((up_n (by omega)).trans ((up_c (by decide)).trans ((up_n (by omega)).trans ((up_c (by decide)).trans ((up_n (by omega)).trans ((up_c (by decide)).trans ((up_n (by omega)).trans ((up_c (by decide)).trans ((up_n (by omega)).trans ((up_c (by decide)).trans (up_e (by omega)))))))))))))]
        exact ⟨((sb_mod (x4 / 256)).symm.trans (sb_mod (sb (x4 / 256))).symm), sb_rng (sb (x4 / 256))⟩
      by_cases e15 : j = c 1 3 + 15
      · rw [e15, show (up (up (up (up (up (up (up (up (up (up (up (up (up (up (up (up (up (up (up (up (up (up (up (up (up (up (up (up (up (up (up (up (up (up (up (up (up (up (up (up (up (up (up (up (up (up (up (up (up (up (up (up (up (up (up (up (up (up (up (up (up (up (up (up (up (up (up (up (up (up (up (up (up (up (up (up (up (up (up (up (up c 2 (c 1 3) (sb (sb (x1 / 16777216)))) 1 3 (c 1 3 + 1)) 2 (c 1 3 + 1) (sb (sb (x1 / 65536)))) 1 3 (c 1 3 + 2)) 2 (c 1 3 + 2) (sb (sb (x1 / 256)))) 1 3 (c 1 3 + 3)) 2 (c 1 3 + 3) (sb (sb x1))) 1 3 (c 1 3 + 4)) 2 (c 1 3 + 4) (sb (sb (x2 / 16777216)))) 1 3 (c 1 3 + 5)) 2 (c 1 3 + 5) (sb (sb (x2 / 65536)))) 1 3 (c 1 3 + 6)) 2 (c 1 3 + 6) (sb (sb (x2 / 256)))) 1 3 (c 1 3 + 7)) 2 (c 1 3 + 7) (sb (sb x2))) 1 3 (c 1 3 + 8)) 2 (c 1 3 + 8) (sb (sb (x3 / 16777216)))) 1 3 (c 1 3 + 9)) 2 (c 1 3 + 9) (sb (sb (x3 / 65536)))) 1 3 (c 1 3 + 10)) 2 (c 1 3 + 10) (sb (sb (x3 / 256)))) 1 3 (c 1 3 + 11)) 2 (c 1 3 + 11) (sb (sb x3))) 1 3 (c 1 3 + 12)) 2 (c 1 3 + 12) (sb (sb (x4 / 16777216)))) 1 3 (c 1 3 + 13)) 2 (c 1 3 + 13) (sb (sb (x4 / 65536)))) 1 3 (c 1 3 + 14)) 2 (c 1 3 + 14) (sb (sb (x4 / 256)))) 1 3 (c 1 3 + 15)) 2 (c 1 3 + 15) (sb (sb x4))) 1 3 (c 1 3 + 16)) 2 (c 1 3 + 16) (sb (sb (x5 / 16777216)))) 1 3 (c 1 3 + 17)) 2 (c 1 3 + 17) (sb (sb (x5 / 65536)))) 1 3 (c 1 3 + 18)) 2 (c 1 3 + 18) (sb (sb (x5 / 256)))) 1 3 (c 1 3 + 19)) 2 (c 1 3 + 19) (sb (sb x5))) 1 3 (c 1 3 + 20)) 41 0 0) 43 (c 41 2) ((x1 / 16777216) % 256)) 41 2 (c 41 2 + 1)) 43 (c 41 2 + 1) ((x1 / 65536) % 256)) 41 2 (c 41 2 + 2)) 43 (c 41 2 + 2) ((x1 / 256) % 256)) 41 2 (c 41 2 + 3)) 43 (c 41 2 + 3) (x1 % 256)) 41 2 (c 41 2 + 4)) 43 (c 41 2 + 4) ((x2 / 16777216) % 256)) 41 2 (c 41 2 + 5)) 43 (c 41 2 + 5) ((x2 / 65536) % 256)) 41 2 (c 41 2 + 6)) 43 (c 41 2 + 6) ((x2 / 256) % 256)) 41 2 (c 41 2 + 7)) 43 (c 41 2 + 7) (x2 % 256)) 41 2 (c 41 2 + 8)) 43 (c 41 2 + 8) ((x3 / 16777216) % 256)) 41 2 (c 41 2 + 9)) 43 (c 41 2 + 9) ((x3 / 65536) % 256)) 41 2 (c 41 2 + 10)) 43 (c 41 2 + 10) ((x3 / 256) % 256)) 41 2 (c 41 2 + 11)) 43 (c 41 2 + 11) (x3 % 256)) 41 2 (c 41 2 + 12)) 43 (c 41 2 + 12) ((x4 / 16777216) % 256)) 41 2 (c 41 2 + 13)) 43 (c 41 2 + 13) ((x4 / 65536) % 256)) 41 2 (c 41 2 + 14)) 43 (c 41 2 + 14) ((x4 / 256) % 256)) 41 2 (c 41 2 + 15)) 43 (c 41 2 + 15) (x4 % 256)) 41 2 (c 41 2 + 16)) 43 (c 41 2 + 16) ((x5 / 16777216) % 256)) 41 2 (c 41 2 + 17)) 43 (c 41 2 + 17) ((x5 / 65536) % 256)) 41 2 (c 41 2 + 18)) 43 (c 41 2 + 18) ((x5 / 256) % 256)) 41 2 (c 41 2 + 19)) 43 (c 41 2 + 19) (x5 % 256)) 41 2 (c 41 2 + 20)) 2 (c 1 3 + 15) = (sb (sb x4)) from ((up_c (by decide)).trans ((up_c (by decide)).trans ((up_c (by decide)).trans ((up_c (by decide)).trans ((up_c (by decide)).trans ((up_c (by decide)).trans ((up_c (by decide)).trans ((up_c (by decide)).trans ((up_c (by decide)).trans ((up_c (by decide)).trans ((up_c (by decide)).trans ((up_c (by decide)).trans ((up_c (by decide)).trans ((up_c (by decide)).trans ((up_c (by decide)).trans ((up_c (by decide)).trans ((up_c (by decide)).trans ((up_c (by decide)).trans ((up_c (by decide)).trans ((up_c (by decide)).trans ((up_c (by decide)).trans ((up_c (by decide)).trans ((up_c (by decide)).trans ((up_c (by decide)).trans ((up_c (by decide)).trans ((up_c (by decide)).trans ((up_c (by decide)).trans ((up_c (by decide)).trans ((up_c (by decide)).trans ((up_c (by decide)).trans ((up_c (by decide)).trans ((up_c (by decide)).trans ((up_c (by decide)).trans ((up_c (by decide)).trans ((up_c (by decide)).trans ((up_c (by decide)).trans ((up_c (by decide)).trans ((up_c (by decide)).trans ((up_c (by decide)).trans ((up_c (by decide)).trans ((up_c (by decide)).trans ((up_c (by decide)).trans ((up_n (by omega)).trans ((up_c (by decide)).trans ((up_n (by omega)).trans ((up_c (by decide)).trans ((up_n (by omega)).trans ((up_c (by decide)).trans ((up_n (by omega)).trans ((up_c (by decide)).trans (up_e rfl))))))))))))))))))))))))))))))))))))))))))))))))))), show (up (up (up (up (up (up (up (up (up (up (up (up (up (up (up (up (up (up (up (up (up (up (up (up (up (up (up (up (up (up (up (up (up (up (up (up (up (up (up (up (up (up (up (up (up (up (up (up (up (up (up (up (up (up (up (up (up (up (up (up (up (up (up (up (up (up (up (up (up (up (up (up (up (up (up (up (up (up (up (up (up c 2 (c 1 3) (sb (sb (x1 / 16777216)))) 1 3 (c 1 3 + 1)) 2 (c 1 3 + 1) (sb (sb (x1 / 65536)))) 1 3 (c 1 3 + 2)) 2 (c 1 3 + 2) (sb (sb (x1 / 256)))) 1 3 (c 1 3 + 3)) 2 (c 1 3 + 3) (sb (sb x1))) 1 3 (c 1 3 + 4)) 2 (c 1 3 + 4) (sb (sb (x2 / 16777216)))) 1 3 (c 1 3 + 5)) 2 (c 1 3 + 5) (sb (sb (x2 / 65536)))) 1 3 (c 1 3 + 6)) 2 (c 1 3 + 6) (sb (sb (x2 / 256)))) 1 3 (c 1 3 + 7)) 2 (c 1 3 + 7) (sb (sb x2))) 1 3 (c 1 3 + 8)) 2 (c 1 3 + 8) (sb (sb (x3 / 16777216)))) 1 3 (c 1 3 + 9)) 2 (c 1 3 + 9) (sb (sb (x3 / 65536)))) 1 3 (c 1 3 + 10)) 2 (c 1 3 + 10) (sb (sb (x3 / 256)))) 1 3 (c 1 3 + 11)) 2 (c 1 3 + 11) (sb (sb x3))) 1 3 (c 1 3 + 12)) 2 (c 1 3 + 12) (sb (sb (x4 / 16777216)))) 1 3 (c 1 3 + 13)) 2 (c 1 3 + 13) (sb (sb (x4 / 65536)))) 1 3 (c 1 3 + 14)) 2 (c 1 3 + 14) (sb (sb (x4 / 256)))) 1 3 (c 1 3 + 15)) 2 (c 1 3 + 15) (sb (sb x4))) 1 3 (c 1 3 + 16)) 2 (c 1 3 + 16) (sb (sb (x5 / 16777216)))) 1 3 (c 1 3 + 17)) 2 (c 1 3 + 17) (sb (sb (x5 / 65536)))) 1 3 (c 1 3 + 18)) 2 (c 1 3 + 18) (sb (sb (x5 / 256)))) 1 3 (c 1 3 + 19)) 2 (c 1 3 + 19) (sb (sb x5))) 1 3 (c 1 3 + 20)) 41 0 0) 43 (c 41 2) ((x1 / 16777216) % 256)) 41 2 (c 41 2 + 1)) 43 (c 41 2 + 1) ((x1 / 65536) % 256)) 41 2 (c 41 2 + 2)) 43 (c 41 2 + 2) ((x1 / 256) % 256)) 41 2 (c 41 2 + 3)) 43 (c 41 2 + 3) (x1 % 256)) 41 2 (c 41 2 + 4)) 43 (c 41 2 + 4) ((x2 / 16777216) % 256)) 41 2 (c 41 2 + 5)) 43 (c 41 2 + 5) ((x2 / 65536) % 256)) 41 2 (c 41 2 + 6)) 43 (c 41 2 + 6) ((x2 / 256) % 256)) 41 2 (c 41 2 + 7)) 43 (c 41 2 + 7) (x2 % 256)) 41 2 (c 41 2 + 8)) 43 (c 41 2 + 8) ((x3 / 16777216) % 256)) 41 2 (c 41 2 + 9)) 43 (c 41 2 + 9) ((x3 / 65536) % 256)) 41 2 (c 41 2 + 10)) 43 (c 41 2 + 10) ((x3 / 256) % 256)) 41 2 (c 41 2 + 11)) 43 (c 41 2 + 11) (x3 % 256)) 41 2 (c 41 2 + 12)) 43 (c 41 2 + 12) ((x4 / 16777216) % 256)) 41 2 (c 41 2 + 13)) 43 (c 41 2 + 13) ((x4 / 65536) % 256)) 41 2 (c 41 2 + 14)) 43 (c 41 2 + 14) ((x4 / 256) % 256)) 41 2 (c 41 2 + 15)) 43 (c 41 2 + 15) (x4 % 256)) 41 2 (c 41 2 + 16)) 43 (c 41 2 + 16) ((x5 / 16777216) % 256)) 41 2 (c 41 2 + 17)) 43 (c 41 2 + 17) ((x5 / 65536) % 256)) 41 2 (c 41 2 + 18)) 43 (c 41 2 + 18) ((x5 / 256) % 256)) 41 2 (c 41 2 + 19)) 43 (c 41 2 + 19) (x5 % 256)) 41 2 (c 41 2 + 20)) 43 (c 1 3 + 15) = (x4 % 256) from ((up_c (by decide)).trans ((up_n (by omega)).trans ((up_c (by decide)).trans ((up_n (by omega)).trans ((up_c (by decide)).trans ((up_n (by omega)).trans ((up_c (by decide)).trans ((up_n (by omega)).trans ((up_c (by decide)).trans (up_e (by omega)))))))))))]
        exact ⟨((sb_mod x4).symm.trans (sb_mod (sb x4)).symm), sb_rng (sb x4)⟩
      by_cases e16 : j = c 1 3 + 16
      · rw [e16, show (up (up (up (up (up (up (up (up (up (up (up (up (up (up (up (up (up (up (up (up (up (up (up (up (up (up (up (up (up (up (up (up (up (up (up (up (up (up (up (up (up (up (up (up (up (up (up (up (up (up (up (up (up (up (up (up (up (up (up (up (up (up (up (up (up (up (up (up (up (up (up (up (up (up (up (up (up (up (up (up (up c 2 (c 1 3) (sb (sb (x1 / 16777216)))) 1 3 (c 1 3 + 1)) 2 (c 1 3 + 1) (sb (sb (x1 / 65536)))) 1 3 (c 1 3 + 2)) 2 (c 1 3 + 2) (sb (sb (x1 / 256)))) 1 3 (c 1 3 + 3)) 2 (c 1 3 + 3) (sb (sb x1))) 1 3 (c 1 3 + 4)) 2 (c 1 3 + 4) (sb (sb (x2 / 16777216)))) 1 3 (c 1 3 + 5)) 2 (c 1 3 + 5) (sb (sb (x2 / 65536)))) 1 3 (c 1 3 + 6)) 2 (c 1 3 + 6) (sb (sb (x2 / 256)))) 1 3 (c 1 3 + 7)) 2 (c 1 3 + 7) (sb (sb x2))) 1 3 (c 1 3 + 8)) 2 (c 1 3 + 8) (sb (sb (x3 / 16777216)))) 1 3 (c 1 3 + 9)) 2 (c 1 3 + 9) (sb (sb (x3 / 65536)))) 1 3 (c 1 3 + 10)) 2 (c 1 3 + 10) (sb (sb (x3 / 256)))) 1 3 (c 1 3 + 11)) 2 (c 1 3 + 11) (sb (sb x3))) 1 3 (c 1 3 + 12)) 2 (c 1 3 + 12) (sb (sb (x4 / 16777216)))) 1 3 (c 1 3 + 13)) 2 (c 1 3 + 13) (sb (sb (x4 / 65536)))) 1 3 (c 1 3 + 14)) 2 (c 1 3 + 14) (sb (sb (x4 / 256)))) 1 3 (c 1 3 + 15)) 2 (c 1 3 + 15) (sb (sb x4))) 1 3 (c 1 3 + 16)) 2 (c 1 3 + 16) (sb (sb (x5 / 16777216)))) 1 3 (c 1 3 + 17)) 2 (c 1 3 + 17) (sb (sb (x5 / 65536)))) 1 3 (c 1 3 + 18)) 2 (c 1 3 + 18) (sb (sb (x5 / 256)))) 1 3 (c 1 3 + 19)) 2 (c 1 3 + 19) (sb (sb x5))) 1 3 (c 1 3 + 20)) 41 0 0) 43 (c 41 2) ((x1 / 16777216) % 256)) 41 2 (c 41 2 + 1)) 43 (c 41 2 + 1) ((x1 / 65536) % 256)) 41 2 (c 41 2 + 2)) 43 (c 41 2 + 2) ((x1 / 256) % 256)) 41 2 (c 41 2 + 3)) 43 (c 41 2 + 3) (x1 % 256)) 41 2 (c 41 2 + 4)) 43 (c 41 2 + 4) ((x2 / 16777216) % 256)) 41 2 (c 41 2 + 5)) 43 (c 41 2 + 5) ((x2 / 65536) % 256)) 41 2 (c 41 2 + 6)) 43 (c 41 2 + 6) ((x2 / 256) % 256)) 41 2 (c 41 2 + 7)) 43 (c 41 2 + 7) (x2 % 256)) 41 2 (c 41 2 + 8)) 43 (c 41 2 + 8) ((x3 / 16777216) % 256)) 41 2 (c 41 2 + 9)) 43 (c 41 2 + 9) ((x3 / 65536) % 256)) 41 2 (c 41 2 + 10)) 43 (c 41 2 + 10) ((x3 / 256) % 256)) 41 2 (c 41 2 + 11)) 43 (c 41 2 + 11) (x3 % 256)) 41 2 (c 41 2 + 12)) 43 (c 41 2 + 12) ((x4 / 16777216) % 256)) 41 2 (c 41 2 + 13)) 43 (c 41 2 + 13) ((x4 / 65536) % 256)) 41 2 (c 41 2 + 14)) 43 (c 41 2 + 14) ((x4 / 256) % 256)) 41 2 (c 41 2 + 15)) 43 (c 41 2 + 15) (x4 % 256)) 41 2 (c 41 2 + 16)) 43 (c 41 2 + 16) ((x5 / 16777216) % 256)) 41 2 (c 41 2 + 17)) 43 (c 41 2 + 17) ((x5 / 65536) % 256)) 41 2 (c 41 2 + 18)) 43 (c 41 2 + 18) ((x5 / 256) % 256)) 41 2 (c 41 2 + 19)) 43 (c 41 2 + 19) (x5 % 256)) 41 2 (c 41 2 + 20)) 2 (c 1 3 + 16) = (sb (sb (x5 / 16777216))) from ((up_c (by decide)).trans ((up_c (by decide)).trans ((up_c (by decide)).trans ((up_c (by decide)).trans ((up_c (by decide)).trans ((up_c (by decide)).trans ((up_c (by decide)).trans ((up_c (by decide)).trans ((up_c (by decide)).trans ((up_c (by decide)).trans ((up_c (by decide)).trans ((up_c (by decide)).trans ((up_c (by decide)).trans ((up_c (by decide)).trans ((up_c (by decide)).trans ((up_c (by decide)).trans ((up_c (by decide)).trans ((up_c (by decide)).trans ((up_c (by decide)).trans ((up_c (by decide)).trans ((up_c (by decide)).trans ((up_c (by decide)).trans ((up_c (by decide)).trans ((up_c (by decide)).trans ((up_c (by decide)).trans ((up_c (by decide)).trans ((up_c (by decide)).trans ((up_c (by decide)).trans ((up_c (by decide)).trans ((up_c (by decide)).trans ((up_c (by decide)).trans ((up_c (by decide)).trans ((up_c (by decide)).trans ((up_c (by decide)).trans ((up_c (by decide)).trans ((up_c (by decide)).trans ((up_c (by decide)).trans ((up_c (by decide)).trans ((up_c (by decide)).trans ((up_c (by decide)).trans ((up_c (by decide)).trans ((up_c (by decide)).trans ((up_n (by omega)).trans ((up_c (by decide)).trans ((up_n (by omega)).trans ((up_c (by decide)).trans ((up_n (by omega)).trans ((up_c (by decide)).trans (up_e rfl))))))))))))))))))))))))))))))))))))))))))))))))), show (up (up (up (up (up (up (up (up (up (up (up (up (up (up (up (up (up (up (up (up (up (up (up (up (up (up (up (up (up (up (up (up (up (up (up (up (up (up (up (up (up (up (up (up (up (up (up (up (up (up (up (up (up (up (up (up (up (up (up (up (up (up (up (up (up (up (up (up (up (up (up (up (up (up (up (up (up (up (up (up (up c 2 (c 1 3) (sb (sb (x1 / 16777216)))) 1 3 (c 1 3 + 1)) 2 (c 1 3 + 1) (sb (sb (x1 / 65536)))) 1 3 (c 1 3 + 2)) 2 (c 1 3 + 2) (sb (sb (x1 / 256)))) 1 3 (c 1 3 + 3)) 2 (c 1 3 + 3) (sb (sb x1))) 1 3 (c 1 3 + 4)) 2 (c 1 3 + 4) (sb (sb (x2 / 16777216)))) 1 3 (c 1 3 + 5)) 2 (c 1 3 + 5) (sb (sb (x2 / 65536)))) 1 3 (c 1 3 + 6)) 2 (c 1 3 + 6) (sb (sb (x2 / 256)))) 1 3 (c 1 3 + 7)) 2 (c 1 3 + 7) (sb (sb x2))) 1 3 (c 1 3 + 8)) 2 (c 1 3 + 8) (sb (sb (x3 / 16777216)))) 1 3 (c 1 3 + 9)) 2 (c 1 3 + 9) (sb (sb (x3 / 65536)))) 1 3 (c 1 3 + 10)) 2 (c 1 3 + 10) (sb (sb (x3 / 256)))) 1 3 (c 1 3 + 11)) 2 (c 1 3 + 11) (sb (sb x3))) 1 3 (c 1 3 + 12)) 2 (c 1 3 + 12) (sb (sb (x4 / 16777216)))) 1 3 (c 1 3 + 13)) 2 (c 1 3 + 13) (sb (sb (x4 / 65536)))) 1 3 (c 1 3 + 14)) 2 (c 1 3 + 14) (sb (sb (x4 / 256)))) 1 3 (c 1 3 + 15)) 2 (c 1 3 + 15) (sb (sb x4))) 1 3 (c 1 3 + 16)) 2 (c 1 3 + 16) (sb (sb (x5 / 16777216)))) 1 3 (c 1 3 + 17)) 2 (c 1 3 + 17) (sb (sb (x5 / 65536)))) 1 3 (c 1 3 + 18)) 2 (c 1 3 + 18) (sb (sb (x5 / 256)))) 1 3 (c 1 3 + 19)) 2 (c 1 3 + 19) (sb (sb x5))) 1 3 (c 1 3 + 20)) 41 0 0) 43 (c 41 2) ((x1 / 16777216) % 256)) 41 2 (c 41 2 + 1)) 43 (c 41 2 + 1) ((x1 / 65536) % 256)) 41 2 (c 41 2 + 2)) 43 (c 41 2 + 2) ((x1 / 256) % 256)) 41 2 (c 41 2 + 3)) 43 (c 41 2 + 3) (x1 % 256)) 41 2 (c 41 2 + 4)) 43 (c 41 2 + 4) ((x2 / 16777216) % 256)) 41 2 (c 41 2 + 5)) 43 (c 41 2 + 5) ((x2 / 65536) % 256)) 41 2 (c 41 2 + 6)) 43 (c 41 2 + 6) ((x2 / 256) % 256)) 41 2 (c 41 2 + 7)) 43 (c 41 2 + 7) (x2 % 256)) 41 2 (c 41 2 + 8)) 43 (c 41 2 + 8) ((x3 / 16777216) % 256)) 41 2 (c 41 2 + 9)) 43 (c 41 2 + 9) ((x3 / 65536) % 256)) 41 2 (c 41 2 + 10)) 43 (c 41 2 + 10) ((x3 / 256) % 256)) 41 2 (c 41 2 + 11)) 43 (c 41 2 + 11) (x3 % 256)) 41 2 (c 41 2 + 12)) 43 (c 41 2 + 12) ((x4 / 16777216) % 256)) 41 2 (c 41 2 + 13)) 43 (c 41 2 + 13) ((x4 / 65536) % 256)) 41 2 (c 41 2 + 14)) 43 (c 41 2 + 14) ((x4 / 256) % 256)) 41 2 (c 41 2 + 15)) 43 (c 41 2 + 15) (x4 % 256)) 41 2 (c 41 2 + 16)) 43 (c 41 2 + 16) ((x5 / 16777216) % 256)) 41 2 (c 41 2 + 17)) 43 (c 41 2 + 17) ((x5 / 65536) % 256)) 41 2 (c 41 2 + 18)) 43 (c 41 2 + 18) ((x5 / 256) % 256)) 41 2 (c 41 2 + 19)) 43 (c 41 2 + 19) (x5 % 256)) 41 2 (c 41 2 + 20)) 43 (c 1 3 + 16) = ((x5 / 16777216) % 256) from ((up_c (by decide)).trans ((up_n (by omega)).trans ((up_c (by decide)).trans ((up_n (by omega)).trans ((up_c (by decide)).trans ((up_n (by omega)).trans ((up_c (by decide)).trans (up_e (by omega)))))))))]
        exact ⟨((sb_mod (x5 / 16777216)).symm.trans (sb_mod (sb (x5 / 16777216))).symm), sb_rng (sb (x5 / 16777216))⟩
      by_cases e17 : j = c 1 3 + 17
      · rw [e17, show (up (up (up (up (up (up (up (up (up (up (up (up (up (up (up (up (up (up (up (up (up (up (up (up (up (up (up (up (up (up (up (up (up (up (up (up (up (up (up (up (up (up (up (up (up (up (up (up (up (up (up (up (up (up (up (up (up (up (up (up (up (up (up (up (up (up (up (up (up (up (up (up (up (up (up (up (up (up (up (up (up c 2 (c 1 3) (sb (sb (x1 / 16777216)))) 1 3 (c 1 3 + 1)) 2 (c 1 3 + 1) (sb (sb (x1 / 65536)))) 1 3 (c 1 3 + 2)) 2 (c 1 3 + 2) (sb (sb (x1 / 256)))) 1 3 (c 1 3 + 3)) 2 (c 1 3 + 3) (sb (sb x1))) 1 3 (c 1 3 + 4)) 2 (c 1 3 + 4) (sb (sb (x2 / 16777216)))) 1 3 (c 1 3 + 5)) 2 (c 1 3 + 5) (sb (sb (x2 / 65536)))) 1 3 (c 1 3 + 6)) 2 (c 1 3 + 6) (sb (sb (x2 / 256)))) 1 3 (c 1 3 + 7)) 2 (c 1 3 + 7) (sb (sb x2))) 1 3 (c 1 3 + 8)) 2 (c 1 3 + 8) (sb (sb (x3 / 16777216)))) 1 3 (c 1 3 + 9)) 2 (c 1 3 + 9) (sb (sb (x3 / 65536)))) 1 3 (c 1 3 + 10)) 2 (c 1 3 + 10) (sb (sb (x3 / 256)))) 1 3 (c 1 3 + 11)) 2 (c 1 3 + 11) (sb (sb x3))) 1 3 (c 1 3 + 12)) 2 (c 1 3 + 12) (sb (sb (x4 / 16777216)))) 1 3 (c 1 3 + 13)) 2 (c 1 3 + 13) (sb (sb (x4 / 65536)))) 1 3 (c 1 3 + 14)) 2 (c 1 3 + 14) (sb (sb (x4 / 256)))) 1 3 (c 1 3 + 15)) 2 (c 1 3 + 15) (sb (sb x4))) 1 3 (c 1 3 + 16)) 2 (c 1 3 + 16) (sb (sb (x5 / 16777216)))) 1 3 (c 1 3 + 17)) 2 (c 1 3 + 17) (sb (sb (x5 / 65536)))) 1 3 (c 1 3 + 18)) 2 (c 1 3 + 18) (sb (sb (x5 / 256)))) 1 3 (c 1 3 + 19)) 2 (c 1 3 + 19) (sb (sb x5))) 1 3 (c 1 3 + 20)) 41 0 0) 43 (c 41 2) ((x1 / 16777216) % 256)) 41 2 (c 41 2 + 1)) 43 (c 41 2 + 1) ((x1 / 65536) % 256)) 41 2 (c 41 2 + 2)) 43 (c 41 2 + 2) ((x1 / 256) % 256)) 41 2 (c 41 2 + 3)) 43 (c 41 2 + 3) (x1 % 256)) 41 2 (c 41 2 + 4)) 43 (c 41 2 + 4) ((x2 / 16777216) % 256)) 41 2 (c 41 2 + 5)) 43 (c 41 2 + 5) ((x2 / 65536) % 256)) 41 2 (c 41 2 + 6)) 43 (c 41 2 + 6) ((x2 / 256) % 256)) 41 2 (c 41 2 + 7)) 43 (c 41 2 + 7) (x2 % 256)) 41 2 (c 41 2 + 8)) 43 (c 41 2 + 8) ((x3 / 16777216) % 256)) 41 2 (c 41 2 + 9)) 43 (c 41 2 + 9) ((x3 / 65536) % 256)) 41 2 (c 41 2 + 10)) 43 (c 41 2 + 10) ((x3 / 256) % 256)) 41 2 (c 41 2 + 11)) 43 (c 41 2 + 11) (x3 % 256)) 41 2 (c 41 2 + 12)) 43 (c 41 2 + 12) ((x4 / 16777216) % 256)) 41 2 (c 41 2 + 13)) 43 (c 41 2 + 13) ((x4 / 65536) % 256)) 41 2 (c 41 2 + 14)) 43 (c 41 2 + 14) ((x4 / 256) % 256)) 41 2 (c 41 2 + 15)) 43 (c 41 2 + 15) (x4 % 256)) 41 2 (c 41 2 + 16)) 43 (c 41 2 + 16) ((x5 / 16777216) % 256)) 41 2 (c 41 2 + 17)) 43 (c 41 2 + 17) ((x5 / 65536) % 256)) 41 2 (c 41 2 + 18)) 43 (c 41 2 + 18) ((x5 / 256) % 256)) 41 2 (c 41 2 + 19)) 43 (c 41 2 + 19) (x5 % 256)) 41 2 (c 41 2 + 20)) 2 (c 1 3 + 17) = (sb (sb (x5 / 65536))) from ((up_c (by decide)).trans ((up_c (by decide)).trans ((up_c (by decide)).trans ((up_c (by decide)).trans ((up_c (by decide)).trans ((up_c (by decide)).trans ((up_c (by decide)).trans ((up_c (by decide)).trans ((up_c (by decide)).trans ((up_c (by decide)).trans ((up_c (by decide)).trans ((up_c (by decide)).trans ((up_c (by decide)).trans ((up_c (by decide)).trans ((up_c (by decide)).trans ((up_c (by decide)).trans ((up_c (by decide)).trans ((up_c (by decide)).trans ((up_c (by decide)).trans ((up_c (by decide)).trans ((up_c (by decide)).trans ((up_c (by decide)).trans ((up_c (by decide)).trans ((up_c (by decide)).trans ((up_c (by decide)).trans ((up_c (by decide)).trans ((up_c (by decide)).trans ((up_c (by decide)).trans ((up_c (by decide)).trans ((up_c (by decide)).trans ((up_c (by decide)).trans ((up_c (by decide)).trans ((up_c (by decide)).trans ((up_c (by decide)).trans ((up_c (by decide)).trans ((up_c (by decide)).trans ((up_c (by decide)).trans ((up_c (by decide)).trans ((up_c (by decide)).trans ((up_c (by decide)).trans ((up_c (by decide)).trans ((up_c (by decide)).trans ((up_n (by omega)).trans ((up_c (by decide)).trans ((up_n (by omega)).trans ((up_c (by decide)).trans (up_e rfl))))))))))))))))))))))))))))))))))))))))))))))), show (up (up (up (up (up (up (up (up (up (up (up (up (up (up (up (up (up (up (up (up (up (up (up (up (up (up (up (up (up (up (up (up (up (up (up (up (up (up (up (up (up (up (up (up (up (up (up (up (up (up (up (up (up (up (up (up (up (up (up (up (up (up (up (up (up (up (up (up (up (up (up (up (up (up (up (up (up (up (up (up (up c 2 (c 1 3) (sb (sb (x1 / 16777216)))) 1 3 (c 1 3 + 1)) 2 (c 1 3 + 1) (sb (sb (x1 / 65536)))) 1 3 (c 1 3 + 2)) 2 (c 1 3 + 2) (sb (sb (x1 / 256)))) 1 3 (c 1 3 + 3)) 2 (c 1 3 + 3) (sb (sb x1))) 1 3 (c 1 3 + 4)) 2 (c 1 3 + 4) (sb (sb (x2 / 16777216)))) 1 3 (c 1 3 + 5)) 2 (c 1 3 + 5) (sb (sb (x2 / 65536)))) 1 3 (c 1 3 + 6)) 2 (c 1 3 + 6) (sb (sb (x2 / 256)))) 1 3 (c 1 3 + 7)) 2 (c 1 3 + 7) (sb (sb x2))) 1 3 (c 1 3 + 8)) 2 (c 1 3 + 8) (sb (sb (x3 / 16777216)))) 1 3 (c 1 3 + 9)) 2 (c 1 3 + 9) (sb (sb (x3 / 65536)))) 1 3 (c 1 3 + 10)) 2 (c 1 3 + 10) (sb (sb (x3 / 256)))) 1 3 (c 1 3 + 11)) 2 (c 1 3 + 11) (sb (sb x3))) 1 3 (c 1 3 + 12)) 2 (c 1 3 + 12) (sb (sb (x4 / 16777216)))) 1 3 (c 1 3 + 13)) 2 (c 1 3 + 13) (sb (sb (x4 / 65536)))) 1 3 (c 1 3 + 14)) 2 (c 1 3 + 14) (sb (sb (x4 / 256)))) 1 3 (c 1 3 + 15)) 2 (c 1 3 + 15) (sb (sb x4))) 1 3 (c 1 3 + 16)) 2 (c 1 3 + 16) (sb (sb (x5 / 16777216)))) 1 3 (c 1 3 + 17)) 2 (c 1 3 + 17) (sb (sb (x5 / 65536)))) 1 3 (c 1 3 + 18)) 2 (c 1 3 + 18) (sb (sb (x5 / 256)))) 1 3 (c 1 3 + 19)) 2 (c 1 3 + 19) (sb (sb x5))) 1 3 (c 1 3 + 20)) 41 0 0) 43 (c 41 2) ((x1 / 16777216) % 256)) 41 2 (c 41 2 + 1)) 43 (c 41 2 + 1) ((x1 / 65536) % 256)) 41 2 (c 41 2 + 2)) 43 (c 41 2 + 2) ((x1 / 256) % 256)) 41 2 (c 41 2 + 3)) 43 (c 41 2 + 3) (x1 % 256)) 41 2 (c 41 2 + 4)) 43 (c 41 2 + 4) ((x2 / 16777216) % 256)) 41 2 (c 41 2 + 5)) 43 (c 41 2 + 5) ((x2 / 65536) % 256)) 41 2 (c 41 2 + 6)) 43 (c 41 2 + 6) ((x2 / 256) % 256)) 41 2 (c 41 2 + 7)) 43 (c 41 2 + 7) (x2 % 256)) 41 2 (c 41 2 + 8)) 43 (c 41 2 + 8) ((x3 / 16777216) % 256)) 41 2 (c 41 2 + 9)) 43 (c 41 2 + 9) ((x3 / 65536) % 256)) 41 2 (c 41 2 + 10)) 43 (c 41 2 + 10) ((x3 / 256) % 256)) 41 2 (c 41 2 + 11)) 43 (c 41 2 + 11) (x3 % 256)) 41 2 (c 41 2 + 12)) 43 (c 41 2 + 12) ((x4 / 16777216) % 256)) 41 2 (c 41 2 + 13)) 43 (c 41 2 + 13) ((x4 / 65536) % 256)) 41 2 (c 41 2 + 14)) 43 (c 41 2 + 14) ((x4 / 256) % 256)) 41 2 (c 41 2 + 15)) 43 (c 41 2 + 15) (x4 % 256)) 41 2 (c 41 2 + 16)) 43 (c 41 2 + 16) ((x5 / 16777216) % 256)) 41 2 (c 41 2 + 17)) 43 (c 41 2 + 17) ((x5 / 65536) % 256)) 41 2 (c 41 2 + 18)) 43 (c 41 2 + 18) ((x5 / 256) % 256)) 41 2 (c 41 2 + 19)) 43 (c 41 2 + 19) (x5 % 256)) 41 2 (c 41 2 + 20)) 43 (c 1 3 + 17) = ((x5 / 65536) % 256) from ((up_c (by decide)).trans ((up_n (by omega)).trans ((up_c (by decide)).trans ((up_n (by omega)).trans ((up_c (by decide)).trans (up_e (by omega)))))))]
        exact ⟨((sb_mod (x5 / 65536)).symm.trans (sb_mod (sb (x5 / 65536))).symm), sb_rng (sb (x5 / 65536))⟩
      by_cases e18 : j = c 1 3 + 18
      · rw [e18, show (up (up (up (up (up (up (up (up (up (up (up (up (up (up (up (up (up (up (up (up (up (up (up (up (up (up (up (up (up (up (up (up (up (up (up (up (up (up (up (up (up (up (up (up (up (up (up (up (up (up (up (up (up (up (up (up (up (up (up (up (up (up (up (up (up (up (up (up (up (up (up (up (up (up (up (up (up (up (up (up (up c 2 (c 1 3) (sb (sb (x1 / 16777216)))) 1 3 (c 1 3 + 1)) 2 (c 1 3 + 1) (sb (sb (x1 / 65536)))) 1 3 (c 1 3 + 2)) 2 (c 1 3 + 2) (sb (sb (x1 / 256)))) 1 3 (c 1 3 + 3)) 2 (c 1 3 + 3) (sb (sb x1))) 1 3 (c 1 3 + 4)) 2 (c 1 3 + 4) (sb (sb (x2 / 16777216)))) 1 3 (c 1 3 + 5)) 2 (c 1 3 + 5) (sb (sb (x2 / 65536)))) 1 3 (c 1 3 + 6)) 2 (c 1 3 + 6) (sb (sb (x2 / 256)))) 1 3 (c 1 3 + 7)) 2 (c 1 3 + 7) (sb (sb x2))) 1 3 (c 1 3 + 8)) 2 (c 1 3 + 8) (sb (sb (x3 / 16777216)))) 1 3 (c 1 3 + 9)) 2 (c 1 3 + 9) (sb (sb (x3 / 65536)))) 1 3 (c 1 3 + 10)) 2 (c 1 3 + 10) (sb (sb (x3 / 256)))) 1 3 (c 1 3 + 11)) 2 (c 1 3 + 11) (sb (sb x3))) 1 3 (c 1 3 + 12)) 2 (c 1 3 + 12) (sb (sb (x4 / 16777216)))) 1 3 (c 1 3 + 13)) 2 (c 1 3 + 13) (sb (sb (x4 / 65536)))) 1 3 (c 1 3 + 14)) 2 (c 1 3 + 14) (sb (sb (x4 / 256)))) 1 3 (c 1 3 + 15)) 2 (c 1 3 + 15) (sb (sb x4))) 1 3 (c 1 3 + 16)) 2 (c 1 3 + 16) (sb (sb (x5 / 16777216)))) 1 3 (c 1 3 + 17)) 2 (c 1 3 + 17) (sb (sb (x5 / 65536)))) 1 3 (c 1 3 + 18)) 2 (c 1 3 + 18) (sb (sb (x5 / 256)))) 1 3 (c 1 3 + 19)) 2 (c 1 3 + 19) (sb (sb x5))) 1 3 (c 1 3 + 20)) 41 0 0) 43 (c 41 2) ((x1 / 16777216) % 256)) 41 2 (c 41 2 + 1)) 43 (c 41 2 + 1) ((x1 / 65536) % 256)) 41 2 (c 41 2 + 2)) 43 (c 41 2 + 2) ((x1 / 256) % 256)) 41 2 (c 41 2 + 3)) 43 (c 41 2 + 3) (x1 % 256)) 41 2 (c 41 2 + 4)) 43 (c 41 2 + 4) ((x2 / 16777216) % 256)) 41 2 (c 41 2 + 5)) 43 (c 41 2 + 5) ((x2 / 65536) % 256)) 41 2 (c 41 2 + 6)) 43 (c 41 2 + 6) ((x2 / 256) % 256)) 41 2 (c 41 2 + 7)) 43 (c 41 2 + 7) (x2 % 256)) 41 2 (c 41 2 + 8)) 43 (c 41 2 + 8) ((x3 / 16777216) % 256)) 41 2 (c 41 2 + 9)) 43 (c 41 2 + 9) ((x3 / 65536) % 256)) 41 2 (c 41 2 + 10)) 43 (c 41 2 + 10) ((x3 / 256) % 256)) 41 2 (c 41 2 + 11)) 43 (c 41 2 + 11) (x3 % 256)) 41 2 (c 41 2 + 12)) 43 (c 41 2 + 12) ((x4 / 16777216) % 256)) 41 2 (c 41 2 + 13)) 43 (c 41 2 + 13) ((x4 / 65536) % 256)) 41 2 (c 41 2 + 14)) 43 (c 41 2 + 14) ((x4 / 256) % 256)) 41 2 (c 41 2 + 15)) 43 (c 41 2 + 15) (x4 % 256)) 41 2 (c 41 2 + 16)) 43 (c 41 2 + 16) ((x5 / 16777216) % 256)) 41 2 (c 41 2 + 17)) 43 (c 41 2 + 17) ((x5 / 65536) % 256)) 41 2 (c 41 2 + 18)) 43 (c 41 2 + 18) ((x5 / 256) % 256)) 41 2 (c 41 2 + 19)) 43 (c 41 2 + 19) (x5 % 256)) 41 2 (c 41 2 + 20)) 2 (c 1 3 + 18) = (sb (sb (x5 / 256))) from ((up_c (by decide)).trans ((up_c (by decide)).trans ((up_c (by decide)).trans ((up_c (by decide)).trans ((up_c (by decide)).trans ((up_c (by decide)).trans ((up_c (by decide)).trans ((up_c (by decide)).trans ((up_c (by decide)).trans ((up_c (by decide)).trans ((up_c (by decide)).trans ((up_c (by decide)).trans ((up_c (by decide)).trans ((up_c (by decide)).trans ((up_c (by decide)).trans ((up_c (by decide)).trans ((up_c (by decide)).trans ((up_c (by decide)).trans ((up_c (by decide)).trans ((up_c (by decide)).trans ((up_c (by decide)).trans ((up_c (by decide)).trans ((up_c (by decide)).trans ((up_c (by decide)).trans ((up_c (by decide)).trans ((up_c (by decide)).trans ((up_c (by decide)).trans ((up_c (by decide)).trans ((up_c (by decide)).trans ((up_c (by decide)).trans ((up_c (by decide)).trans ((up_c (by decide)).trans ((up_c (by decide)).trans ((up_c (by decide)).trans ((up_c (by decide)).trans ((up_c (by decide)).trans ((up_c (by decide)).trans ((up_c (by decide)).trans ((up_c (by decide)).trans ((up_c (by decide)).trans ((up_c (by decide)).trans ((up_c (by decide)).trans ((up_n (by omega)).trans ((up_c (by decide)).trans (up_e rfl))))))))))))))))))))))))))))))))))))))))))))), show (up (up (up (up (up (up (up (up (up (up (up (up (up (up (up (up (up (up (up (up (up (up (up (up (up (up (up (up (up (up (up (up (up (up (up (up (up (up (up (up (up (up (up (up (up (up (up (up (up (up (up (up (up (up (up (up (up (up (up (up (up (up (up (up (up (up (up (up (up (up (up (up (up (up (up (up (up (up (up (up (up c 2 (c 1 3) (sb (sb (x1 / 16777216)))) 1 3 (c 1 3 + 1)) 2 (c 1 3 + 1) (sb (sb (x1 / 65536)))) 1 3 (c 1 3 + 2)) 2 (c 1 3 + 2) (sb (sb (x1 / 256)))) 1 3 (c 1 3 + 3)) 2 (c 1 3 + 3) (sb (sb x1))) 1 3 (c 1 3 + 4)) 2 (c 1 3 + 4) (sb (sb (x2 / 16777216)))) 1 3 (c 1 3 + 5)) 2 (c 1 3 + 5) (sb (sb (x2 / 65536)))) 1 3 (c 1 3 + 6)) 2 (c 1 3 + 6) (sb (sb (x2 / 256)))) 1 3 (c 1 3 + 7)) 2 (c 1 3 + 7) (sb (sb x2))) 1 3 (c 1 3 + 8)) 2 (c 1 3 + 8) (sb (sb (x3 / 16777216)))) 1 3 (c 1 3 + 9)) 2 (c 1 3 + 9) (sb (sb (x3 / 65536)))) 1 3 (c 1 3 + 10)) 2 (c 1 3 + 10) (sb (sb (x3 / 256)))) 1 3 (c 1 3 + 11)) 2 (c 1 3 + 11) (sb (sb x3))) 1 3 (c 1 3 + 12)) 2 (c 1 3 + 12) (sb (sb (x4 / 16777216)))) 1 3 (c 1 3 + 13)) 2 (c 1 3 + 13) (sb (sb (x4 / 65536)))) 1 3 (c 1 3 + 14)) 2 (c 1 3 + 14) (sb (sb (x4 / 256)))) 1 3 (c 1 3 + 15)) 2 (c 1 3 + 15) (sb (sb x4))) 1 3 (c 1 3 + 16)) 2 (c 1 3 + 16) (sb (sb (x5 / 16777216)))) 1 3 (c 1 3 + 17)) 2 (c 1 3 + 17) (sb (sb (x5 / 65536)))) 1 3 (c 1 3 + 18)) 2 (c 1 3 + 18) (sb (sb (x5 / 256)))) 1 3 (c 1 3 + 19)) 2 (c 1 3 + 19) (sb (sb x5))) 1 3 (c 1 3 + 20)) 41 0 0) 43 (c 41 2) ((x1 / 16777216) % 256)) 41 2 (c 41 2 + 1)) 43 (c 41 2 + 1) ((x1 / 65536) % 256)) 41 2 (c 41 2 + 2)) 43 (c 41 2 + 2) ((x1 / 256) % 256)) 41 2 (c 41 2 + 3)) 43 (c 41 2 + 3) (x1 % 256)) 41 2 (c 41 2 + 4)) 43 (c 41 2 + 4) ((x2 / 16777216) % 256)) 41 2 (c 41 2 + 5)) 43 (c 41 2 + 5) ((x2 / 65536) % 256)) 41 2 (c 41 2 + 6)) 43 (c 41 2 + 6) ((x2 / 256) % 256)) 41 2 (c 41 2 + 7)) 43 (c 41 2 + 7) (x2 % 256)) 41 2 (c 41 2 + 8)) 43 (c 41 2 + 8) ((x3 / 16777216) % 256)) 41 2 (c 41 2 + 9)) 43 (c 41 2 + 9) ((x3 / 65536) % 256)) 41 2 (c 41 2 + 10)) 43 (c 41 2 + 10) ((x3 / 256) % 256)) 41 2 (c 41 2 + 11)) 43 (c 41 2 + 11) (x3 % 256)) 41 2 (c 41 2 + 12)) 43 (c 41 2 + 12) ((x4 / 16777216) % 256)) 41 2 (c 41 2 + 13)) 43 (c 41 2 + 13) ((x4 / 65536) % 256)) 41 2 (c 41 2 + 14)) 43 (c 41 2 + 14) ((x4 / 256) % 256)) 41 2 (c 41 2 + 15)) 43 (c 41 2 + 15) (x4 % 256)) 41 2 (c 41 2 + 16)) 43 (c 41 2 + 16) ((x5 / 16777216) % 256)) 41 2 (c 41 2 + 17)) 43 (c 41 2 + 17) ((x5 / 65536) % 256)) 41 2 (c 41 2 + 18)) 43 (c 41 2 + 18) ((x5 / 256) % 256)) 41 2 (c 41 2 + 19)) 43 (c 41 2 + 19) (x5 % 256)) 41 2 (c 41 2 + 20)) 43 (c 1 3 + 18) = ((x5 / 256) % 256) from ((up_c (by decide)).trans ((up_n (by omega)).trans ((up_c (by decide)).trans (up_e (by omega)))))]
        exact ⟨((sb_mod (x5 / 256)).symm.trans (sb_mod (sb (x5 / 256))).symm), sb_rng (sb (x5 / 256))⟩
      by_cases e19 : j = c 1 3 + 19
      · rw [e19, show (up (up (up (up (up (up (up (up (up (up (up (up (up (up (up (up (up (up (up (up (up (up (up (up (up (up (up (up (up (up (up (up (up (up (up (up (up (up (up (up (up (up (up (up (up (up (up (up (up (up (up (up (up (up (up (up (up (up (up (up (up (up (up (up (up (up (up (up (up (up (up (up (up (up (up (up (up (up (up (up (up c 2 (c 1 3) (sb (sb (x1 / 16777216)))) 1 3 (c 1 3 + 1)) 2 (c 1 3 + 1) (sb (sb (x1 / 65536)))) 1 3 (c 1 3 + 2)) 2 (c 1 3 + 2) (sb (sb (x1 / 256)))) 1 3 (c 1 3 + 3)) 2 (c 1 3 + 3) (sb (sb x1))) 1 3 (c 1 3 + 4)) 2 (c 1 3 + 4) (sb (sb (x2 / 16777216)))) 1 3 (c 1 3 + 5)) 2 (c 1 3 + 5) (sb (sb (x2 / 65536)))) 1 3 (c 1 3 + 6)) 2 (c 1 3 + 6) (sb (sb (x2 / 256)))) 1 3 (c 1 3 + 7)) 2 (c 1 3 + 7) (sb (sb x2))) 1 3 (c 1 3 + 8)) 2 (c 1 3 + 8) (sb (sb (x3 / 16777216)))) 1 3 (c 1 3 + 9)) 2 (c 1 3 + 9) (sb (sb (x3 / 65536)))) 1 3 (c 1 3 + 10)) 2 (c 1 3 + 10) (sb (sb (x3 / 256)))) 1 3 (c 1 3 + 11)) 2 (c 1 3 + 11) (sb (sb x3))) 1 3 (c 1 3 + 12)) 2 (c 1 3 + 12) (sb (sb (x4 / 16777216)))) 1 3 (c 1 3 + 13)) 2 (c 1 3 + 13) (sb (sb (x4 / 65536)))) 1 3 (c 1 3 + 14)) 2 (c 1 3 + 14) (sb (sb (x4 / 256)))) 1 3 (c 1 3 + 15)) 2 (c 1 3 + 15) (sb (sb x4))) 1 3 (c 1 3 + 16)) 2 (c 1 3 + 16) (sb (sb (x5 / 16777216)))) 1 3 (c 1 3 + 17)) 2 (c 1 3 + 17) (sb (sb (x5 / 65536)))) 1 3 (c 1 3 + 18)) 2 (c 1 3 + 18) (sb (sb (x5 / 256)))) 1 3 (c 1 3 + 19)) 2 (c 1 3 + 19) (sb (sb x5))) 1 3 (c 1 3 + 20)) 41 0 0) 43 (c 41 2) ((x1 / 16777216) % 256)) 41 2 (c 41 2 + 1)) 43 (c 41 2 + 1) ((x1 / 65536) % 256)) 41 2 (c 41 2 + 2)) 43 (c 41 2 + 2) ((x1 / 256) % 256)) 41 2 (c 41 2 + 3)) 43 (c 41 2 + 3) (x1 % 256)) 41 2 (c 41 2 + 4)) 43 (c 41 2 + 4) ((x2 / 16777216) % 256)) 41 2 (c 41 2 + 5)) 43 (c 41 2 + 5) ((x2 / 65536) % 256)) 41 2 (c 41 2 + 6)) 43 (c 41 2 + 6) ((x2 / 256) % 256)) 41 2 (c 41 2 + 7)) 43 (c 41 2 + 7) (x2 % 256)) 41 2 (c 41 2 + 8)) 43 (c 41 2 + 8) ((x3 / 16777216) % 256)) 41 2 (c 41 2 + 9)) 43 (c 41 2 + 9) ((x3 / 65536) % 256)) 41 2 (c 41 2 + 10)) 43 (c 41 2 + 10) ((x3 / 256) % 256)) 41 2 (c 41 2 + 11)) 43 (c 41 2 + 11) (x3 % 256)) 41 2 (c 41 2 + 12)) 43 (c 41 2 + 12) ((x4 / 16777216) % 256)) 41 2 (c 41 2 + 13)) 43 (c 41 2 + 13) ((x4 / 65536) % 256)) 41 2 (c 41 2 + 14)) 43 (c 41 2 + 14) ((x4 / 256) % 256)) 41 2 (c 41 2 + 15)) 43 (c 41 2 + 15) (x4 % 256)) 41 2 (c 41 2 + 16)) 43 (c 41 2 + 16) ((x5 / 16777216) % 256)) 41 2 (c 41 2 + 17)) 43 (c 41 2 + 17) ((x5 / 65536) % 256)) 41 2 (c 41 2 + 18)) 43 (c 41 2 + 18) ((x5 / 256) % 256)) 41 2 (c 41 2 + 19)) 43 (c 41 2 + 19) (x5 % 256)) 41 2 (c 41 2 + 20)) 2 (c 1 3 + 19) = (sb (sb x5)) from ((up_c (by decide)).trans ((up_c (by decide)).trans ((up_c (by decide)).trans ((up_c (by decide)).trans ((up_c (by decide)).trans ((up_c (by decide)).trans ((up_c (by decide)).trans ((up_c (by decide)).trans ((up_c (by decide)).trans ((up_c (by decide)).trans ((up_c (by decide)).trans ((up_c (by decide)).trans ((up_c (by decide)).trans ((up_c (by decide)).trans ((up_c (by decide)).trans ((up_c (by decide)).trans ((up_c (by decide)).trans ((up_c (by decide)).trans ((up_c (by decide)).trans ((up_c (by decide)).trans ((up_c (by decide)).trans ((up_c (by decide)).trans ((up_c (by decide)).trans ((up_c (by decide)).trans ((up_c (by decide)).trans ((up_c (by decide)).trans ((up_c (by decide)).trans ((up_c (by decide)).trans ((up_c (by decide)).trans ((up_c (by decide)).trans ((up_c (by decide)).trans ((up_c (by decide)).trans ((up_c (by decide)).trans ((up_c (by decide)).trans ((up_c (by decide)).trans ((up_c (by decide)).trans ((up_c (by decide)).trans ((up_c (by decide)).trans ((up_c (by decide)).trans ((up_c (by decide)).trans ((up_c (by decide)).trans ((up_c (by decide)).trans (up_e rfl))))))))))))))))))))))))))))))))))))))))))), show (up (up (up (up (up (up (up (up (up (up (up (up (up (up (up (up (up (up (up (up (up (up (up (up (up (up (up (up (up (up (up (up (up (up (up (up (up (up (up (up (up (up (up (up (up (up (up (up (up (up (up (up (up (up (up (up (up (up (up (up (up (up (up (up (up (up (up (up (up (up (up (up (up (up (up (up (up (up (up (up (up c 2 (c 1 3) (sb (sb (x1 / 16777216)))) 1 3 (c 1 3 + 1)) 2 (c 1 3 + 1) (sb (sb (x1 / 65536)))) 1 3 (c 1 3 + 2)) 2 (c 1 3 + 2) (sb (sb (x1 / 256)))) 1 3 (c 1 3 + 3)) 2 (c 1 3 + 3) (sb (sb x1))) 1 3 (c 1 3 + 4)) 2 (c 1 3 + 4) (sb (sb (x2 / 16777216)))) 1 3 (c 1 3 + 5)) 2 (c 1 3 + 5) (sb (sb (x2 / 65536)))) 1 3 (c 1 3 + 6)) 2 (c 1 3 + 6) (sb (sb (x2 / 256)))) 1 3 (c 1 3 + 7)) 2 (c 1 3 + 7) (sb (sb x2))) 1 3 (c 1 3 + 8)) 2 (c 1 3 + 8) (sb (sb (x3 / 16777216)))) 1 3 (c 1 3 + 9)) 2 (c 1 3 + 9) (sb (sb (x3 / 65536)))) 1 3 (c 1 3 + 10)) 2 (c 1 3 + 10) (sb (sb (x3 / 256)))) 1 3 (c 1 3 + 11)) 2 (c 1 3 + 11) (sb (sb x3))) 1 3 (c 1 3 + 12)) 2 (c 1 3 + 12) (sb (sb (x4 / 16777216)))) 1 3 (c 1 3 + 13)) 2 (c 1 3 + 13) (sb (sb (x4 / 65536)))) 1 3 (c 1 3 + 14)) 2 (c 1 3 + 14) (sb (sb (x4 / 256)))) 1 3 (c 1 3 + 15)) 2 (c 1 3 + 15) (sb (sb x4))) 1 3 (c 1 3 + 16)) 2 (c 1 3 + 16) (sb (sb (x5 / 16777216)))) 1 3 (c 1 3 + 17)) 2 (c 1 3 + 17) (sb (sb (x5 / 65536)))) 1 3 (c 1 3 + 18)) 2 (c 1 3 + 18) (sb (sb (x5 / 256)))) 1 3 (c 1 3 + 19)) 2 (c 1 3 + 19) (sb (sb x5))) 1 3 (c 1 3 + 20)) 41 0 0) 43 (c 41 2) ((x1 / 16777216) % 256)) 41 2 (c 41 2 + 1)) 43 (c 41 2 + 1) ((x1 / 65536) % 256)) 41 2 (c 41 2 + 2)) 43 (c 41 2 + 2) ((x1 / 256) % 256)) 41 2 (c 41 2 + 3)) 43 (c 41 2 + 3) (x1 % 256)) 41 2 (c 41 2 + 4)) 43 (c 41 2 + 4) ((x2 / 16777216) % 256)) 41 2 (c 41 2 + 5)) 43 (c 41 2 + 5) ((x2 / 65536) % 256)) 41 2 (c 41 2 + 6)) 43 (c 41 2 + 6) ((x2 / 256) % 256)) 41 2 (c 41 2 + 7)) 43 (c 41 2 + 7) (x2 % 256)) 41 2 (c 41 2 + 8)) 43 (c 41 2 + 8) ((x3 / 16777216) % 256)) 41 2 (c 41 2 + 9)) 43 (c 41 2 + 9) ((x3 / 65536) % 256)) 41 2 (c 41 2 + 10)) 43 (c 41 2 + 10) ((x3 / 256) % 256)) 41 2 (c 41 2 + 11)) 43 (c 41 2 + 11) (x3 % 256)) 41 2 (c 41 2 + 12)) 43 (c 41 2 + 12) ((x4 / 16777216) % 256)) 41 2 (c 41 2 + 13)) 43 (c 41 2 + 13) ((x4 / 65536) % 256)) 41 2 (c 41 2 + 14)) 43 (c 41 2 + 14) ((x4 / 256) % 256)) 41 2 (c 41 2 + 15)) 43 (c 41 2 + 15) (x4 % 256)) 41 2 (c 41 2 + 16)) 43 (c 41 2 + 16) ((x5 / 16777216) % 256)) 41 2 (c 41 2 + 17)) 43 (c 41 2 + 17) ((x5 / 65536) % 256)) 41 2 (c 41 2 + 18)) 43 (c 41 2 + 18) ((x5 / 256) % 256)) 41 2 (c 41 2 + 19)) 43 (c 41 2 + 19) (x5 % 256)) 41 2 (c 41 2 + 20)) 43 (c 1 3 + 19) = (x5 % 256) from ((up_c (by decide)).trans (up_e (by omega)))]
        exact ⟨((sb_mod x5).symm.trans (sb_mod (sb x5)).symm), sb_rng (sb x5)⟩
      rw [show (up (up (up (up (up (up (up (up (up (up (up (up (up (up (up (up (up (up (up (up (up (up (up (up (up (up (up (up (up (up (up (up (up (up (up (up (up (up (up (up (up (up (up (up (up (up (up (up (up (up (up (up (up (up (up (up (up (up (up (up (up (up (up (up (up (up (up (up (up (up (up (up (up (up (up (up (up (up (up (up (up c 2 (c 1 3) (sb (sb (x1 / 16777216)))) 1 3 (c 1 3 + 1)) 2 (c 1 3 + 1) (sb (sb (x1 / 65536)))) 1 3 (c 1 3 + 2)) 2 (c 1 3 + 2) (sb (sb (x1 / 256)))) 1 3 (c 1 3 + 3)) 2 (c 1 3 + 3) (sb (sb x1))) 1 3 (c 1 3 + 4)) 2 (c 1 3 + 4) (sb (sb (x2 / 16777216)))) 1 3 (c 1 3 + 5)) 2 (c 1 3 + 5) (sb (sb (x2 / 65536)))) 1 3 (c 1 3 + 6)) 2 (c 1 3 + 6) (sb (sb (x2 / 256)))) 1 3 (c 1 3 + 7)) 2 (c 1 3 + 7) (sb (sb x2))) 1 3 (c 1 3 + 8)) 2 (c 1 3 + 8) (sb (sb (x3 / 16777216)))) 1 3 (c 1 3 + 9)) 2 (c 1 3 + 9) (sb (sb (x3 / 65536)))) 1 3 (c 1 3 + 10)) 2 (c 1 3 + 10) (sb (sb (x3 / 256)))) 1 3 (c 1 3 + 11)) 2 (c 1 3 + 11) (sb (sb x3))) 1 3 (c 1 3 + 12)) 2 (c 1 3 + 12) (sb (sb (x4 / 16777216)))) 1 3 (c 1 3 + 13)) 2 (c 1 3 + 13) (sb (sb (x4 / 65536)))) 1 3 (c 1 3 + 14)) 2 (c 1 3 + 14) (sb (sb (x4 / 256)))) 1 3 (c 1 3 + 15)) 2 (c 1 3 + 15) (sb (sb x4))) 1 3 (c 1 3 + 16)) 2 (c 1 3 + 16) (sb (sb (x5 / 16777216)))) 1 3 (c 1 3 + 17)) 2 (c 1 3 + 17) (sb (sb (x5 / 65536)))) 1 3 (c 1 3 + 18)) 2 (c 1 3 + 18) (sb (sb (x5 / 256)))) 1 3 (c 1 3 + 19)) 2 (c 1 3 + 19) (sb (sb x5))) 1 3 (c 1 3 + 20)) 41 0 0) 43 (c 41 2) ((x1 / 16777216) % 256)) 41 2 (c 41 2 + 1)) 43 (c 41 2 + 1) ((x1 / 65536) % 256)) 41 2 (c 41 2 + 2)) 43 (c 41 2 + 2) ((x1 / 256) % 256)) 41 2 (c 41 2 + 3)) 43 (c 41 2 + 3) (x1 % 256)) 41 2 (c 41 2 + 4)) 43 (c 41 2 + 4) ((x2 / 16777216) % 256)) 41 2 (c 41 2 + 5)) 43 (c 41 2 + 5) ((x2 / 65536) % 256)) 41 2 (c 41 2 + 6)) 43 (c 41 2 + 6) ((x2 / 256) % 256)) 41 2 (c 41 2 + 7)) 43 (c 41 2 + 7) (x2 % 256)) 41 2 (c 41 2 + 8)) 43 (c 41 2 + 8) ((x3 / 16777216) % 256)) 41 2 (c 41 2 + 9)) 43 (c 41 2 + 9) ((x3 / 65536) % 256)) 41 2 (c 41 2 + 10)) 43 (c 41 2 + 10) ((x3 / 256) % 256)) 41 2 (c 41 2 + 11)) 43 (c 41 2 + 11) (x3 % 256)) 41 2 (c 41 2 + 12)) 43 (c 41 2 + 12) ((x4 / 16777216) % 256)) 41 2 (c 41 2 + 13)) 43 (c 41 2 + 13) ((x4 / 65536) % 256)) 41 2 (c 41 2 + 14)) 43 (c 41 2 + 14) ((x4 / 256) % 256)) 41 2 (c 41 2 + 15)) 43 (c 41 2 + 15) (x4 % 256)) 41 2 (c 41 2 + 16)) 43 (c 41 2 + 16) ((x5 / 16777216) % 256)) 41 2 (c 41 2 + 17)) 43 (c 41 2 + 17) ((x5 / 65536) % 256)) 41 2 (c 41 2 + 18)) 43 (c 41 2 + 18) ((x5 / 256) % 256)) 41 2 (c 41 2 + 19)) 43 (c 41 2 + 19) (x5 % 256)) 41 2 (c 41 2 + 20)) 2 j = c 2 j from ((up_c (by decide)).trans ((up_c (by decide)).trans ((up_c (by decide)).trans ((up_c (by decide)).trans ((up_c (by decide)).trans ((up_c (by decide)).trans ((up_c (by decide)).trans ((up_c (by decide)).trans ((up_c (by decide)).trans ((up_c (by decide)).trans ((up_c (by decide)).trans ((up_c (by decide)).trans ((up_c (by decide)).trans ((up_c (by decide)).trans ((up_c (by decide)).trans ((up_c (by decide)).trans ((up_c (by decide)).trans ((up_c (by decide)).trans ((up_c (by decide)).trans ((up_c (by decide)).trans ((up_c (by decide)).trans ((up_c (by decide)).trans ((up_c (by decide)).trans ((up_c (by decide)).trans ((up_c (by decide)).trans ((up_c (by decide)).trans ((up_c (by decide)).trans ((up_c (by decide)).trans ((up_c (by decide)).trans ((up_c (by decide)).trans ((up_c (by decide)).trans ((up_c (by decide)).trans ((up_c (by decide)).trans ((up_c (by decide)).trans ((up_c (by decide)).trans ((up_c (by decide)).trans ((up_c (by decide)).trans ((up_c (by decide)).trans ((up_c (by decide)).trans ((up_c (by decide)).trans ((up_c (by decide)).trans ((up_c (by decide)).trans ((up_n (by omega)).trans ((up_c (by decide)).trans ((up_n (by omega)).trans ((up_c (by decide)).trans ((up_n (by omega)).trans ((up_c (by decide)).trans ((up_n (by omega)).trans ((up_c (by decide)).trans ((up_n (by omega)).trans ((up_c (by decide)).trans ((up_n (by omega)).trans ((up_c (by decide)).trans ((up_n (by omega)).trans ((up_c (by decide)).trans ((up_n (by omega)).trans ((up_c (by decide)).trans ((up_n (by omega)).trans ((up_c (by decide)).trans ((up_n (by omega)).trans ((up_c (by decide)).trans ((up_n (by omega)).trans ((up_c (by decide)).trans ((up_n (by omega)).trans ((up_c (by decide)).trans ((up_n (by omega)).trans ((up_c (by decide)).trans ((up_n (by omega)).trans ((up_c (by decide)).trans ((up_n (by omega)).trans ((up_c (by decide)).trans ((up_n (by omega)).trans ((up_c (by decide)).trans ((up_n (by omega)).trans ((up_c (by decide)).trans ((up_n (by omega)).trans ((up_c (by decide)).trans ((up_n (by omega)).trans ((up_c (by decide)).trans (up_n (by omega)))))))))))))))))))))))))))))))))))))))))))))))))))))))))))))))))))))))))))))))))), show (up (up (up (up (up (up (up (up (up (up (up (up (up (up (up (up (up (up (up (up (up (up (up (up (up (up (up (up (up (up (up (up (up (up (up (up (up (up (up (up (up (up (up (up (up (up (up (up (up (up (up (up (up (up (up (up (up (up (up (up (up (up (up (up (up (up (up (up (up (up (up (up (up (up (up (up (up (up (up (up (up c 2 (c 1 3) (sb (sb (x1 / 16777216)))) 1 3 (c 1 3 + 1)) 2 (c 1 3 + 1) (sb (sb (x1 / 65536)))) 1 3 (c 1 3 + 2)) 2 (c 1 3 + 2) (sb (sb (x1 / 256)))) 1 3 (c 1 3 + 3)) 2 (c 1 3 + 3) (sb (sb x1))) 1 3 (c 1 3 + 4)) 2 (c 1 3 + 4) (sb (sb (x2 / 16777216)))) 1 3 (c 1 3 + 5)) 2 (c 1 3 + 5) (sb (sb (x2 / 65536)))) 1 3 (c 1 3 + 6)) 2 (c 1 3 + 6) (sb (sb (x2 / 256)))) 1 3 (c 1 3 + 7)) 2 (c 1 3 + 7) (sb (sb x2))) 1 3 (c 1 3 + 8)) 2 (c 1 3 + 8) (sb (sb (x3 / 16777216)))) 1 3 (c 1 3 + 9)) 2 (c 1 3 + 9) (sb (sb (x3 / 65536)))) 1 3 (c 1 3 + 10)) 2 (c 1 3 + 10) (sb (sb (x3 / 256)))) 1 3 (c 1 3 + 11)) 2 (c 1 3 + 11) (sb (sb x3))) 1 3 (c 1 3 + 12)) 2 (c 1 3 + 12) (sb (sb (x4 / 16777216)))) 1 3 (c 1 3 + 13)) 2 (c 1 3 + 13) (sb (sb (x4 / 65536)))) 1 3 (c 1 3 + 14)) 2 (c 1 3 + 14) (sb (sb (x4 / 256)))) 1 3 (c 1 3 + 15)) 2 (c 1 3 + 15) (sb (sb x4))) 1 3 (c 1 3 + 16)) 2 (c 1 3 + 16) (sb (sb (x5 / 16777216)))) 1 3 (c 1 3 + 17)) 2 (c 1 3 + 17) (sb (sb (x5 / 65536)))) 1 3 (c 1 3 + 18)) 2 (c 1 3 + 18) (sb (sb (x5 / 256)))) 1 3 (c 1 3 + 19)) 2 (c 1 3 + 19) (sb (sb x5))) 1 3 (c 1 3 + 20)) 41 0 0) 43 (c 41 2) ((x1 / 16777216) % 256)) 41 2 (c 41 2 + 1)) 43 (c 41 2 + 1) ((x1 / 65536) % 256)) 41 2 (c 41 2 + 2)) 43 (c 41 2 + 2) ((x1 / 256) % 256)) 41 2 (c 41 2 + 3)) 43 (c 41 2 + 3) (x1 % 256)) 41 2 (c 41 2 + 4)) 43 (c 41 2 + 4) ((x2 / 16777216) % 256)) 41 2 (c 41 2 + 5)) 43 (c 41 2 + 5) ((x2 / 65536) % 256)) 41 2 (c 41 2 + 6)) 43 (c 41 2 + 6) ((x2 / 256) % 256)) 41 2 (c 41 2 + 7)) 43 (c 41 2 + 7) (x2 % 256)) 41 2 (c 41 2 + 8)) 43 (c 41 2 + 8) ((x3 / 16777216) % 256)) 41 2 (c 41 2 + 9)) 43 (c 41 2 + 9) ((x3 / 65536) % 256)) 41 2 (c 41 2 + 10)) 43 (c 41 2 + 10) ((x3 / 256) % 256)) 41 2 (c 41 2 + 11)) 43 (c 41 2 + 11) (x3 % 256)) 41 2 (c 41 2 + 12)) 43 (c 41 2 + 12) ((x4 / 16777216) % 256)) 41 2 (c 41 2 + 13)) 43 (c 41 2 + 13) ((x4 / 65536) % 256)) 41 2 (c 41 2 + 14)) 43 (c 41 2 + 14) ((x4 / 256) % 256)) 41 2 (c 41 2 + 15)) 43 (c 41 2 + 15) (x4 % 256)) 41 2 (c 41 2 + 16)) 43 (c 41 2 + 16) ((x5 / 16777216) % 256)) 41 2 (c 41 2 + 17)) 43 (c 41 2 + 17) ((x5 / 65536) % 256)) 41 2 (c 41 2 + 18)) 43 (c 41 2 + 18) ((x5 / 256) % 256)) 41 2 (c 41 2 + 19)) 43 (c 41 2 + 19) (x5 % 256)) 41 2 (c 41 2 + 20)) 43 j = c 43 j from ((up_c (by decide)).trans ((up_n (by omega)).trans ((up_c (by decide)).trans ((up_n (by omega)).trans ((up_c (by decide)).trans ((up_n (by omega)).trans ((up_c (by decide)).trans ((up_n (by omega)).trans ((up_c (by decide)).trans ((up_n (by omega)).trans ((up_c (by decide)).trans ((up_n (by omega)).trans ((up_c (by decide)).trans ((up_n (by omega)).trans ((up_c (by decide)).trans ((up_n (by omega)).trans ((up_c (by decide)).trans ((up_n (by omega)).trans ((up_c (by decide)).trans ((up_n (by omega)).trans ((up_c (by decide)).trans ((up_n (by omega)).trans ((up_c (by decide)).trans ((up_n (by omega)).trans ((up_c (by decide)).trans ((up_n (by omega)).trans ((up_c (by decide)).trans ((up_n (by omega)).trans ((up_c (by decide)).trans ((up_n (by omega)).trans ((up_c (by decide)).trans ((up_n (by omega)).trans ((up_c (by decide)).trans ((up_n (by omega)).trans ((up_c (by decide)).trans ((up_n (by omega)).trans ((up_c (by decide)).trans ((up_n (by omega)).trans ((up_c (by decide)).trans ((up_n (by omega)).trans ((up_c (by decide)).trans ((up_c (by decide)).trans ((up_c (by decide)).trans ((up_c (by decide)).trans ((up_c (by decide)).trans ((up_c (by decide)).trans ((up_c (by decide)).trans ((up_c (by decide)).trans ((up_c (by decide)).trans ((up_c (by decide)).trans ((up_c (by decide)).trans ((up_c (by decide)).trans ((up_c (by decide)).trans ((up_c (by decide)).trans ((up_c (by decide)).trans ((up_c (by decide)).trans ((up_c (by decide)).trans ((up_c (by decide)).trans ((up_c (by decide)).trans ((up_c (by decide)).trans ((up_c (by decide)).trans ((up_c (by decide)).trans ((up_c (by decide)).trans ((up_c (by decide)).trans ((up_c (by decide)).trans ((up_c (by decide)).trans ((up_c (by decide)).trans ((up_c (by decide)).trans ((up_c (by decide)).trans ((up_c (by decide)).trans ((up_c (by decide)).trans ((up_c (by decide)).trans ((up_c (by decide)).trans ((up_c (by decide)).trans ((up_c (by decide)).trans ((up_c (by decide)).trans ((up_c (by decide)).trans ((up_c (by decide)).trans ((up_c (by decide)).trans ((up_c (by decide)).trans (up_c (by decide))))))))))))))))))))))))))))))))))))))))))))))))))))))))))))))))))))))))))))))))))]
      exact hU j h1 h2
noncomputable def nrmc (a : Nat) (c : ME) : ME := fun b j => if b = a then wr (c b j) else c b j
theorem nrmc_e {a : Nat} {c : ME} {j : Int} : nrmc a c a j = wr (c a j) := if_pos rfl
theorem nrmc_n {a b : Nat} {c : ME} {j : Int} (h : ¬ b = a) : nrmc a c b j = c b j := if_neg h
theorem wd_nrmc {P Q N T a t n : Nat} {c : ME} (ha : ck P Q N T a = .inl (t, n)) (ht : ¬ t = 2) : Wd P Q N T c = Wd P Q N T (nrmc a c) := by
  unfold Wd
  refine List.map_congr_left (fun b _ => ?_)
  by_cases e : b = a
  · subst e
    rw [ha]
    unfold ce
    dsimp only
    rw [if_neg ht, if_neg ht]
    unfold ar
    exact congrArg (fun l => (Sum.inl (t, Sum.inl l) : AE)) (List.map_congr_left (fun i _ => by rw [nrmc_e, wr_of]))
  · exact ce_ext (fun i _ => (nrmc_n e).symm)
theorem iv_feed {P Q : Nat} {c c2 : ME} (h : Iv 0 (-1) P Q c) (hF : ∀ (a : Nat) (j : Int), ¬ (a = 2 ∨ a = 43 ∨ (a = 1 ∧ j = 3) ∨ (a = 41 ∧ (j = 0 ∨ j = 2))) → c2 a j = c a j) (hR : c2 1 3 = c2 41 2 ∧ 0 ≤ c2 1 3 ∧ c2 1 3 ≤ 600) (z : Int) : Iv 0 (-1) P Q (up (nrmc 43 (nrmc 2 c2)) 41 0 (wr z)) := by
  have e : ∀ (a : Nat) (j : Int), ¬ (a = 2 ∨ a = 43 ∨ (a = 41 ∧ j = 0)) → up (nrmc 43 (nrmc 2 c2)) 41 0 (wr z) a j = c2 a j := fun a j hn => (up_b (by omega)).trans ((nrmc_n (by omega)).trans (nrmc_n (by omega)))
  refine iv_ext h ?_ (fun a j hn => (e a j (by unfold Ns at hn; omega)).trans (hF a j (by unfold Ns at hn; omega)))
  intro a j hn
  by_cases h1 : a = 41 ∧ j = 0
  · rw [h1.1, h1.2, up_e rfl]
    exact wr_rng z
  · rw [up_b (by omega)]
    by_cases h2 : a = 43
    · subst h2
      rw [nrmc_e]
      exact wr_rng _
    · rw [nrmc_n h2]
      by_cases h3 : a = 2
      · subst h3
        rw [nrmc_e]
        exact wr_rng _
      · rw [nrmc_n h3]
        by_cases h4 : a = 1 ∧ j = 3
        · rw [h4.1, h4.2]
          exact hR.2
        · by_cases h5 : a = 41 ∧ j = 2
          · rw [h5.1, h5.2, ← hR.1]
            exact hR.2
          · rw [hF a j (by omega)]
            exact iv_b h a j hn
theorem ub_feed {c2 : ME} (h : Ub (c2 2) (c2 43)) (z : Int) : Ub (up (nrmc 43 (nrmc 2 c2)) 41 0 z 2) (up (nrmc 43 (nrmc 2 c2)) 41 0 z 43) := by
  intro j h1 h2
  have q := h j h1 h2
  have e1 : up (nrmc 43 (nrmc 2 c2)) 41 0 z 2 j = c2 2 j := (up_c (by decide)).trans ((nrmc_n (by decide)).trans (nrmc_e.trans (wr_id (by omega))))
  have e2 : up (nrmc 43 (nrmc 2 c2)) 41 0 z 43 j = c2 43 j := (up_c (by decide)).trans (nrmc_e.trans ((congrArg wr (nrmc_n (by decide))).trans (wr_id (by omega))))
  rw [e1, e2]
  exact q
theorem o_0 {xs : Nat → Int32} {L i0 d nc ns P Q : Nat} {c : ME} {Z : AR → Prop} (hi : i0 + 8 ≤ L) (hL : L ≤ 100000) (hI : Iv 0 (-1) P Q c) (hR : Rq P c) (K : ∀ (P2 Q2 : Nat) (c2 : ME) (e : Nat), e ≤ 1 → Iv 0 (-1) P2 Q2 c2 → (Rq P2 c2) → Wp (a_scr L xs) (d + 90) 296 1844 [(4, vi (i0 : Int)), (3, .ref 67), (2, .ref 41), (1, .ref 0), (0, .ref a_SC)] [] (Wd P2 Q2 P2 P2 c2) (nc + e) (ns + 6 * e) Z) : Wp (a_scr L xs) (d + 90) 296 228 [(4, vi (i0 : Int)), (3, .ref 67), (2, .ref 41), (1, .ref 0), (0, .ref a_SC)] [] (Wd P Q P P c) nc ns Z := by
  have h9 := ir_1_3 hI
  refine op_0g (d := d + 81) hi hL ⟨rl_t hR, h9.1, h9.2⟩ (rl_u hR) (fun c2 hF hr hU2 => ?_)
  rw [wd_nrmc (c := c2) (a := 2) (t := 1) (n := 600) rfl (by decide), wd_nrmc (c := nrmc 2 c2) (a := 43) (t := 0) (n := 600) rfl (by decide), wd_nrm (c := nrmc 43 (nrmc 2 c2)) (a := 41) (j := 0) (fun n h => by cases (show (Sum.inr _ : CK) = Sum.inl (2, n) from h))]
  exact K P Q _ 0 (by decide) (iv_feed hI hF hr _) (rl_feed (iv_P hI) hR hF (by rw [up_c (by omega), nrmc_n (by omega), nrmc_n (by omega), up_n (by omega), nrmc_n (by omega), nrmc_n (by omega)]; exact hr.1) (ub_feed hU2 _) (fun a j hm => (up_b (by omega)).trans ((nrmc_n (by omega)).trans (nrmc_n (by omega)))))
