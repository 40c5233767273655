/-! ===== shops in the law, over any memory ===== -/
set_option maxRecDepth 100000 in
set_option maxHeartbeats 4000000 in
theorem op_23g {xs : Nat → Int32} {L i0 d nc ns P Q N T : Nat} {c : ME} {Z : AR → Prop} (hi : i0 + 8 ≤ L) (hL : L ≤ 100000) (K : ∀ (c2 : ME) (e : Nat), e ≤ 1 → (∀ (a : Nat) (j : Int), ¬ (a = 67 ∨ (a = 0 ∧ j = 13) ∨ (a = 41 ∧ j = 0) ∨ (a = 42 ∧ j = 1)) → c2 a j = c a j) → c2 0 13 = c 0 13 + e → c2 42 1 = c 42 1 + e → Wp (a_scr L xs) (d + 20) 296 1844 [(4, vi (i0 : Int)), (3, .ref 67), (2, .ref 41), (1, .ref 0), (0, .ref a_SC)] [] (Wd P Q N T c2) (nc + e) (ns + 6 * e) Z) : Wp (a_scr L xs) (d + 20) 296 1155 [(4, vi (i0 : Int)), (3, .ref 67), (2, .ref 41), (1, .ref 0), (0, .ref a_SC)] [] (Wd P Q N T c) nc ns Z := by
  obtain ⟨x1, hx1⟩ : ∃ z, (xs (i0 + 1)).toInt = z := ⟨_, rfl⟩
  have x1r := c_rng (xs (i0 + 1))
  rw [hx1] at x1r
  obtain ⟨x2, hx2⟩ : ∃ z, (xs (i0 + 2)).toInt = z := ⟨_, rfl⟩
  have x2r := c_rng (xs (i0 + 2))
  rw [hx2] at x2r
  obtain ⟨x3, hx3⟩ : ∃ z, (xs (i0 + 3)).toInt = z := ⟨_, rfl⟩
  have x3r := c_rng (xs (i0 + 3))
  rw [hx3] at x3r
  refine q_aload_n rfl rfl ?_
  refine q_aload_n rfl rfl ?_
  refine q_iload rfl rfl ?_
  refine q_iconst rfl ?_
  refine v_iadd (v := (i0 : Int) + 1) rfl (by omega) ?_
  refine v_scr (j := i0 + 1) rfl (by omega) (by omega) hL hx1 ?_
  refine q_aload_n rfl rfl ?_
  refine q_iload rfl rfl ?_
  refine q_iconst rfl ?_
  refine v_iadd (v := (i0 : Int) + 2) rfl (by omega) ?_
  refine v_scr (j := i0 + 2) rfl (by omega) (by omega) hL hx2 ?_
  refine q_aload_n rfl rfl ?_
  refine q_iload rfl rfl ?_
  refine q_iconst rfl ?_
  refine v_iadd (v := (i0 : Int) + 3) rfl (by omega) ?_
  refine v_scr (j := i0 + 3) rfl (by omega) (by omega) hL hx3 ?_
  refine q_aload_n rfl rfl ?_
  refine q_call rfl rfl rfl rfl ?_
  refine q_aload rfl rfl ?_
  refine q_iconst rfl ?_
  refine q_aload_n rfl rfl ?_
  refine q_iload_n rfl rfl ?_
  refine q_iload_n rfl rfl ?_
  refine q_iload_n rfl rfl ?_
  refine v_cv rfl rfl rfl rfl (by decide) ⟨⟨rfl, rfl⟩, by decide, rfl⟩ (Nat.le_of_ble_eq_true rfl) (Nat.le_of_ble_eq_true rfl) ?_
  refine q_aload_n rfl rfl ?_
  refine q_iload_n rfl rfl ?_
  refine q_iconst rfl ?_
  refine v_bip rfl (by decide) ?_
  refine q_call rfl rfl rfl rfl ?_
  refine q_iload_n rfl rfl ?_
  refine q_iload_n rfl rfl ?_
  by_cases h_1 : x1 < 0
  · refine v_ic_lt_t (t := 14) rfl (by decide) (by omega) ?_
    refine q_iconst rfl ?_
    refine v_zret rfl rfl (by omega) ?_
    refine bk_inl ?_
    refine v_if_eq_t (t := 34) rfl (by decide) (by decide) ?_
    refine q_iconst rfl ?_
    refine v_cv rfl rfl rfl rfl (by decide) ⟨⟨rfl, rfl⟩, by decide, rfl⟩ (Nat.le_of_ble_eq_true rfl) (Nat.le_of_ble_eq_true rfl) ?_
    refine q_iload_n rfl rfl ?_
    refine v_if_ne_f (t := 25) rfl (by decide) (by decide) ?_
    refine q_aload_n rfl rfl ?_
    refine q_dup rfl rfl ?_
    refine v_gi (z := 13) (v := c 0 13) rfl rfl rfl (by decide) rfl rfl rfl ?_
    refine q_iconst rfl ?_
    refine v_iadd (v := c 0 13 + 1) rfl (by omega) ?_
    refine v_pi (z := 13) rfl rfl rfl (by decide) rfl rfl rfl (by decide) ?_
    refine v_new rfl rfl (by decide) (by omega) (Nat.le_of_ble_eq_true rfl) (by decide) rfl ?_
    refine bk_out rfl rfl ?_
    refine bk_thr (z := Int32.ofInt 1) rfl ⟨_, _, rfl⟩ rfl ?_
    refine bk_inl ?_
    refine q_istore rfl (by decide) ?_
    refine q_aload_n rfl rfl ?_
    refine q_aload_n rfl rfl ?_
    refine q_iload rfl rfl ?_
    refine q_iconst rfl ?_
    refine v_iadd (v := (i0 : Int) + 1) rfl (by omega) ?_
    refine v_scr (j := i0 + 1) rfl (by omega) (by omega) hL hx1 ?_
    refine q_aload_n rfl rfl ?_
    refine q_iload rfl rfl ?_
    refine q_iconst rfl ?_
    refine v_iadd (v := (i0 : Int) + 2) rfl (by omega) ?_
    refine v_scr (j := i0 + 2) rfl (by omega) (by omega) hL hx2 ?_
    refine q_aload_n rfl rfl ?_
    refine q_iload rfl rfl ?_
    refine q_iconst rfl ?_
    refine v_iadd (v := (i0 : Int) + 3) rfl (by omega) ?_
    refine v_scr (j := i0 + 3) rfl (by omega) (by omega) hL hx3 ?_
    refine v_cv rfl rfl rfl rfl (by decide) ⟨⟨rfl, rfl⟩, by decide, rfl⟩ (Nat.le_of_ble_eq_true rfl) (Nat.le_of_ble_eq_true rfl) ?_
    refine q_aload_n rfl rfl ?_
    refine q_iconst rfl ?_
    refine v_pi (z := 0) rfl rfl rfl (by decide) rfl rfl rfl (by decide) ?_
    refine q_aload_n rfl rfl ?_
    refine q_iload_n rfl rfl ?_
    refine q_iconst rfl ?_
    refine v_bip rfl (by decide) ?_
    refine q_call rfl rfl rfl rfl ?_
    refine q_iload_n rfl rfl ?_
    refine q_iload_n rfl rfl ?_
    refine v_ic_lt_t (t := 14) rfl (by decide) (by omega) ?_
    refine q_iconst rfl ?_
    refine v_zret rfl rfl (by omega) ?_
    refine bk_inl ?_
    refine v_if_eq_t (t := 39) rfl (by decide) (by decide) ?_
    refine q_iconst rfl ?_
    refine q_iconst rfl ?_
    refine q_iconst rfl ?_
    refine v_cv rfl rfl rfl rfl (by decide) ⟨⟨rfl, rfl⟩, by decide, rfl⟩ (Nat.le_of_ble_eq_true rfl) (Nat.le_of_ble_eq_true rfl) ?_
    refine q_iload_n rfl rfl ?_
    refine v_if_ne_f (t := 26) rfl (by decide) (by decide) ?_
    refine q_aload_n rfl rfl ?_
    refine v_gi (z := 0) (v := 0) rfl rfl rfl (by decide) rfl rfl (up_e rfl) ?_
    refine v_if_ne_f (t := 26) rfl (by decide) (by decide) ?_
    refine q_aload_n rfl rfl ?_
    refine q_iload_n rfl rfl ?_
    refine v_pi (z := 0) rfl rfl rfl (by decide) rfl rfl rfl (by decide) ?_
    refine q_aload_n rfl rfl ?_
    refine v_gr (t := 42) rfl rfl rfl (by decide) rfl ?_
    refine q_iload_n rfl rfl ?_
    refine q_dup2 rfl ⟨rfl, rfl⟩ ?_
    refine v_ia (v := c 42 1) rfl rfl (by decide) (by decide) (by decide) ((up_c (by decide)).trans ((up_c (by decide)).trans (up_c (by decide)))) ?_
    refine q_iconst rfl ?_
    refine v_iadd (v := c 42 1 + 1) rfl (by omega) ?_
    refine v_is rfl rfl (by decide) (by decide) (by decide) ?_
    refine q_aload_n rfl rfl ?_
    refine v_gi (z := 0) (v := 1) rfl rfl rfl (by decide) rfl rfl ((up_c (by decide)).trans (up_e rfl)) ?_
    refine v_if_ne_t (t := 37) rfl (by decide) (by decide) ?_
    refine q_iconst rfl ?_
    refine v_zret rfl rfl (by omega) ?_
    refine bk_inl ?_
    refine v_if_ne_f (t := 50) rfl (by decide) (by decide) ?_
    refine q_iconst rfl ?_
    refine q_iret rfl rfl ?_
    refine bk_inl ?_
    refine q_istore rfl (by decide) ?_
    refine q_aload_n rfl rfl ?_
    refine v_cv rfl rfl rfl rfl (by decide) ⟨⟨rfl, rfl⟩, by decide, rfl⟩ (Nat.le_of_ble_eq_true rfl) (Nat.le_of_ble_eq_true rfl) ?_
    refine q_aload_n rfl rfl ?_
    refine v_gi (z := 0) (v := 1) rfl rfl rfl (by decide) rfl rfl ((up_c (by decide)).trans (up_e rfl)) ?_
    refine q_iret rfl rfl ?_
    refine bk_inl ?_
    refine q_iload rfl rfl ?_
    refine v_ic_eq_t (t := 1215) rfl (by decide) (by decide) ?_
    refine q_iload rfl rfl ?_
    refine v_if_ne_t (t := 1232) rfl (by decide) (by decide) ?_
    refine q_goto (t := 1844) rfl (by decide) ?_
    refine Wp_ls [(4, vi (i0 : Int)), (3, .ref 67), (2, .ref 41), (1, .ref 0), (0, .ref a_SC)] (lsub_cons rfl (lsub_cons rfl (lsub_cons rfl (lsub_cons rfl (lsub_cons rfl lsub_nil))))) ?_
    refine K (up (up (up (up c 0 13 (c 0 13 + 1)) 41 0 0) 41 0 1) 42 1 (c 42 1 + 1)) 1 (by decide) ?_ ?_ ?_
    · intro a j h
      exact ((up_b (by omega)).trans ((up_b (by omega)).trans ((up_b (by omega)).trans (up_b (by omega)))))
    · exact Eq.trans (b := c 0 13 + 1) ((up_c (by decide)).trans ((up_c (by decide)).trans ((up_c (by decide)).trans (up_e rfl)))) (show _ = c 0 13 + 1 by omega)
    · exact Eq.trans (b := c 42 1 + 1) (up_e rfl) (show _ = c 42 1 + 1 by omega)
  · refine v_ic_lt_f (t := 14) rfl (by decide) (by omega) ?_
    refine q_iload_n rfl rfl ?_
    refine q_iload_n rfl rfl ?_
    by_cases h_2 : x1 > 99
    · refine v_ic_gt_t (t := 14) rfl (by decide) (by omega) ?_
      refine q_iconst rfl ?_
      refine v_zret rfl rfl (by omega) ?_
      refine bk_inl ?_
      refine v_if_eq_t (t := 34) rfl (by decide) (by decide) ?_
      refine q_iconst rfl ?_
      refine v_cv rfl rfl rfl rfl (by decide) ⟨⟨rfl, rfl⟩, by decide, rfl⟩ (Nat.le_of_ble_eq_true rfl) (Nat.le_of_ble_eq_true rfl) ?_
      refine q_iload_n rfl rfl ?_
      refine v_if_ne_f (t := 25) rfl (by decide) (by decide) ?_
      refine q_aload_n rfl rfl ?_
      refine q_dup rfl rfl ?_
      refine v_gi (z := 13) (v := c 0 13) rfl rfl rfl (by decide) rfl rfl rfl ?_
      refine q_iconst rfl ?_
      refine v_iadd (v := c 0 13 + 1) rfl (by omega) ?_
      refine v_pi (z := 13) rfl rfl rfl (by decide) rfl rfl rfl (by decide) ?_
      refine v_new rfl rfl (by decide) (by omega) (Nat.le_of_ble_eq_true rfl) (by decide) rfl ?_
      refine bk_out rfl rfl ?_
      refine bk_thr (z := Int32.ofInt 1) rfl ⟨_, _, rfl⟩ rfl ?_
      refine bk_inl ?_
      refine q_istore rfl (by decide) ?_
      refine q_aload_n rfl rfl ?_
      refine q_aload_n rfl rfl ?_
      refine q_iload rfl rfl ?_
      refine q_iconst rfl ?_
      refine v_iadd (v := (i0 : Int) + 1) rfl (by omega) ?_
      refine v_scr (j := i0 + 1) rfl (by omega) (by omega) hL hx1 ?_
      refine q_aload_n rfl rfl ?_
      refine q_iload rfl rfl ?_
      refine q_iconst rfl ?_
      refine v_iadd (v := (i0 : Int) + 2) rfl (by omega) ?_
      refine v_scr (j := i0 + 2) rfl (by omega) (by omega) hL hx2 ?_
      refine q_aload_n rfl rfl ?_
      refine q_iload rfl rfl ?_
      refine q_iconst rfl ?_
      refine v_iadd (v := (i0 : Int) + 3) rfl (by omega) ?_
      refine v_scr (j := i0 + 3) rfl (by omega) (by omega) hL hx3 ?_
      refine v_cv rfl rfl rfl rfl (by decide) ⟨⟨rfl, rfl⟩, by decide, rfl⟩ (Nat.le_of_ble_eq_true rfl) (Nat.le_of_ble_eq_true rfl) ?_
      refine q_aload_n rfl rfl ?_
      refine q_iconst rfl ?_
      refine v_pi (z := 0) rfl rfl rfl (by decide) rfl rfl rfl (by decide) ?_
      refine q_aload_n rfl rfl ?_
      refine q_iload_n rfl rfl ?_
      refine q_iconst rfl ?_
      refine v_bip rfl (by decide) ?_
      refine q_call rfl rfl rfl rfl ?_
      refine q_iload_n rfl rfl ?_
      refine q_iload_n rfl rfl ?_
      refine v_ic_lt_f (t := 14) rfl (by decide) (by omega) ?_
      refine q_iload_n rfl rfl ?_
      refine q_iload_n rfl rfl ?_
      refine v_ic_gt_t (t := 14) rfl (by decide) (by omega) ?_
      refine q_iconst rfl ?_
      refine v_zret rfl rfl (by omega) ?_
      refine bk_inl ?_
      refine v_if_eq_t (t := 39) rfl (by decide) (by decide) ?_
      refine q_iconst rfl ?_
      refine q_iconst rfl ?_
      refine q_iconst rfl ?_
      refine v_cv rfl rfl rfl rfl (by decide) ⟨⟨rfl, rfl⟩, by decide, rfl⟩ (Nat.le_of_ble_eq_true rfl) (Nat.le_of_ble_eq_true rfl) ?_
      refine q_iload_n rfl rfl ?_
      refine v_if_ne_f (t := 26) rfl (by decide) (by decide) ?_
      refine q_aload_n rfl rfl ?_
      refine v_gi (z := 0) (v := 0) rfl rfl rfl (by decide) rfl rfl (up_e rfl) ?_
      refine v_if_ne_f (t := 26) rfl (by decide) (by decide) ?_
      refine q_aload_n rfl rfl ?_
      refine q_iload_n rfl rfl ?_
      refine v_pi (z := 0) rfl rfl rfl (by decide) rfl rfl rfl (by decide) ?_
      refine q_aload_n rfl rfl ?_
      refine v_gr (t := 42) rfl rfl rfl (by decide) rfl ?_
      refine q_iload_n rfl rfl ?_
      refine q_dup2 rfl ⟨rfl, rfl⟩ ?_
      refine v_ia (v := c 42 1) rfl rfl (by decide) (by decide) (by decide) ((up_c (by decide)).trans ((up_c (by decide)).trans (up_c (by decide)))) ?_
      refine q_iconst rfl ?_
      refine v_iadd (v := c 42 1 + 1) rfl (by omega) ?_
      refine v_is rfl rfl (by decide) (by decide) (by decide) ?_
      refine q_aload_n rfl rfl ?_
      refine v_gi (z := 0) (v := 1) rfl rfl rfl (by decide) rfl rfl ((up_c (by decide)).trans (up_e rfl)) ?_
      refine v_if_ne_t (t := 37) rfl (by decide) (by decide) ?_
      refine q_iconst rfl ?_
      refine v_zret rfl rfl (by omega) ?_
      refine bk_inl ?_
      refine v_if_ne_f (t := 50) rfl (by decide) (by decide) ?_
      refine q_iconst rfl ?_
      refine q_iret rfl rfl ?_
      refine bk_inl ?_
      refine q_istore rfl (by decide) ?_
      refine q_aload_n rfl rfl ?_
      refine v_cv rfl rfl rfl rfl (by decide) ⟨⟨rfl, rfl⟩, by decide, rfl⟩ (Nat.le_of_ble_eq_true rfl) (Nat.le_of_ble_eq_true rfl) ?_
      refine q_aload_n rfl rfl ?_
      refine v_gi (z := 0) (v := 1) rfl rfl rfl (by decide) rfl rfl ((up_c (by decide)).trans (up_e rfl)) ?_
      refine q_iret rfl rfl ?_
      refine bk_inl ?_
      refine q_iload rfl rfl ?_
      refine v_ic_eq_t (t := 1215) rfl (by decide) (by decide) ?_
      refine q_iload rfl rfl ?_
      refine v_if_ne_t (t := 1232) rfl (by decide) (by decide) ?_
      refine q_goto (t := 1844) rfl (by decide) ?_
      refine Wp_ls [(4, vi (i0 : Int)), (3, .ref 67), (2, .ref 41), (1, .ref 0), (0, .ref a_SC)] (lsub_cons rfl (lsub_cons rfl (lsub_cons rfl (lsub_cons rfl (lsub_cons rfl lsub_nil))))) ?_
      refine K (up (up (up (up c 0 13 (c 0 13 + 1)) 41 0 0) 41 0 1) 42 1 (c 42 1 + 1)) 1 (by decide) ?_ ?_ ?_
      · intro a j h
        exact ((up_b (by omega)).trans ((up_b (by omega)).trans ((up_b (by omega)).trans (up_b (by omega)))))
      · exact Eq.trans (b := c 0 13 + 1) ((up_c (by decide)).trans ((up_c (by decide)).trans ((up_c (by decide)).trans (up_e rfl)))) (show _ = c 0 13 + 1 by omega)
      · exact Eq.trans (b := c 42 1 + 1) (up_e rfl) (show _ = c 42 1 + 1 by omega)
    · refine v_ic_gt_f (t := 14) rfl (by decide) (by omega) ?_
      refine q_iconst rfl ?_
      refine q_goto (t := 15) rfl (by decide) ?_
      refine v_zret rfl rfl (by omega) ?_
      refine bk_inl ?_
      refine v_if_eq_f (t := 34) rfl (by decide) (by decide) ?_
      refine q_iload_n rfl rfl ?_
      refine q_iconst rfl ?_
      refine v_bip rfl (by decide) ?_
      refine q_call rfl rfl rfl rfl ?_
      refine q_iload_n rfl rfl ?_
      refine q_iload_n rfl rfl ?_
      by_cases h_3 : x2 < 0
      · refine v_ic_lt_t (t := 14) rfl (by decide) (by omega) ?_
        refine q_iconst rfl ?_
        refine v_zret rfl rfl (by omega) ?_
        refine bk_inl ?_
        refine v_if_eq_t (t := 34) rfl (by decide) (by decide) ?_
        refine q_iconst rfl ?_
        refine v_cv rfl rfl rfl rfl (by decide) ⟨⟨rfl, rfl⟩, by decide, rfl⟩ (Nat.le_of_ble_eq_true rfl) (Nat.le_of_ble_eq_true rfl) ?_
        refine q_iload_n rfl rfl ?_
        refine v_if_ne_f (t := 25) rfl (by decide) (by decide) ?_
        refine q_aload_n rfl rfl ?_
        refine q_dup rfl rfl ?_
        refine v_gi (z := 13) (v := c 0 13) rfl rfl rfl (by decide) rfl rfl rfl ?_
        refine q_iconst rfl ?_
        refine v_iadd (v := c 0 13 + 1) rfl (by omega) ?_
        refine v_pi (z := 13) rfl rfl rfl (by decide) rfl rfl rfl (by decide) ?_
        refine v_new rfl rfl (by decide) (by omega) (Nat.le_of_ble_eq_true rfl) (by decide) rfl ?_
        refine bk_out rfl rfl ?_
        refine bk_thr (z := Int32.ofInt 1) rfl ⟨_, _, rfl⟩ rfl ?_
        refine bk_inl ?_
        refine q_istore rfl (by decide) ?_
        refine q_aload_n rfl rfl ?_
        refine q_aload_n rfl rfl ?_
        refine q_iload rfl rfl ?_
        refine q_iconst rfl ?_
        refine v_iadd (v := (i0 : Int) + 1) rfl (by omega) ?_
        refine v_scr (j := i0 + 1) rfl (by omega) (by omega) hL hx1 ?_
        refine q_aload_n rfl rfl ?_
        refine q_iload rfl rfl ?_
        refine q_iconst rfl ?_
        refine v_iadd (v := (i0 : Int) + 2) rfl (by omega) ?_
        refine v_scr (j := i0 + 2) rfl (by omega) (by omega) hL hx2 ?_
        refine q_aload_n rfl rfl ?_
        refine q_iload rfl rfl ?_
        refine q_iconst rfl ?_
        refine v_iadd (v := (i0 : Int) + 3) rfl (by omega) ?_
        refine v_scr (j := i0 + 3) rfl (by omega) (by omega) hL hx3 ?_
        refine v_cv rfl rfl rfl rfl (by decide) ⟨⟨rfl, rfl⟩, by decide, rfl⟩ (Nat.le_of_ble_eq_true rfl) (Nat.le_of_ble_eq_true rfl) ?_
        refine q_aload_n rfl rfl ?_
        refine q_iconst rfl ?_
        refine v_pi (z := 0) rfl rfl rfl (by decide) rfl rfl rfl (by decide) ?_
        refine q_aload_n rfl rfl ?_
        refine q_iload_n rfl rfl ?_
        refine q_iconst rfl ?_
        refine v_bip rfl (by decide) ?_
        refine q_call rfl rfl rfl rfl ?_
        refine q_iload_n rfl rfl ?_
        refine q_iload_n rfl rfl ?_
        refine v_ic_lt_f (t := 14) rfl (by decide) (by omega) ?_
        refine q_iload_n rfl rfl ?_
        refine q_iload_n rfl rfl ?_
        refine v_ic_gt_f (t := 14) rfl (by decide) (by omega) ?_
        refine q_iconst rfl ?_
        refine q_goto (t := 15) rfl (by decide) ?_
        refine v_zret rfl rfl (by omega) ?_
        refine bk_inl ?_
        refine v_if_eq_f (t := 39) rfl (by decide) (by decide) ?_
        refine q_iload_n rfl rfl ?_
        refine q_iconst rfl ?_
        refine v_bip rfl (by decide) ?_
        refine q_call rfl rfl rfl rfl ?_
        refine q_iload_n rfl rfl ?_
        refine q_iload_n rfl rfl ?_
        refine v_ic_lt_t (t := 14) rfl (by decide) (by omega) ?_
        refine q_iconst rfl ?_
        refine v_zret rfl rfl (by omega) ?_
        refine bk_inl ?_
        refine v_if_eq_t (t := 39) rfl (by decide) (by decide) ?_
        refine q_iconst rfl ?_
        refine q_iconst rfl ?_
        refine q_iconst rfl ?_
        refine v_cv rfl rfl rfl rfl (by decide) ⟨⟨rfl, rfl⟩, by decide, rfl⟩ (Nat.le_of_ble_eq_true rfl) (Nat.le_of_ble_eq_true rfl) ?_
        refine q_iload_n rfl rfl ?_
        refine v_if_ne_f (t := 26) rfl (by decide) (by decide) ?_
        refine q_aload_n rfl rfl ?_
        refine v_gi (z := 0) (v := 0) rfl rfl rfl (by decide) rfl rfl (up_e rfl) ?_
        refine v_if_ne_f (t := 26) rfl (by decide) (by decide) ?_
        refine q_aload_n rfl rfl ?_
        refine q_iload_n rfl rfl ?_
        refine v_pi (z := 0) rfl rfl rfl (by decide) rfl rfl rfl (by decide) ?_
        refine q_aload_n rfl rfl ?_
        refine v_gr (t := 42) rfl rfl rfl (by decide) rfl ?_
        refine q_iload_n rfl rfl ?_
        refine q_dup2 rfl ⟨rfl, rfl⟩ ?_
        refine v_ia (v := c 42 1) rfl rfl (by decide) (by decide) (by decide) ((up_c (by decide)).trans ((up_c (by decide)).trans (up_c (by decide)))) ?_
        refine q_iconst rfl ?_
        refine v_iadd (v := c 42 1 + 1) rfl (by omega) ?_
        refine v_is rfl rfl (by decide) (by decide) (by decide) ?_
        refine q_aload_n rfl rfl ?_
        refine v_gi (z := 0) (v := 1) rfl rfl rfl (by decide) rfl rfl ((up_c (by decide)).trans (up_e rfl)) ?_
        refine v_if_ne_t (t := 37) rfl (by decide) (by decide) ?_
        refine q_iconst rfl ?_
        refine v_zret rfl rfl (by omega) ?_
        refine bk_inl ?_
        refine v_if_ne_f (t := 50) rfl (by decide) (by decide) ?_
        refine q_iconst rfl ?_
        refine q_iret rfl rfl ?_
        refine bk_inl ?_
        refine q_istore rfl (by decide) ?_
        refine q_aload_n rfl rfl ?_
        refine v_cv rfl rfl rfl rfl (by decide) ⟨⟨rfl, rfl⟩, by decide, rfl⟩ (Nat.le_of_ble_eq_true rfl) (Nat.le_of_ble_eq_true rfl) ?_
        refine q_aload_n rfl rfl ?_
        refine v_gi (z := 0) (v := 1) rfl rfl rfl (by decide) rfl rfl ((up_c (by decide)).trans (up_e rfl)) ?_
        refine q_iret rfl rfl ?_
        refine bk_inl ?_
        refine q_iload rfl rfl ?_
        refine v_ic_eq_t (t := 1215) rfl (by decide) (by decide) ?_
        refine q_iload rfl rfl ?_
        refine v_if_ne_t (t := 1232) rfl (by decide) (by decide) ?_
        refine q_goto (t := 1844) rfl (by decide) ?_
        refine Wp_ls [(4, vi (i0 : Int)), (3, .ref 67), (2, .ref 41), (1, .ref 0), (0, .ref a_SC)] (lsub_cons rfl (lsub_cons rfl (lsub_cons rfl (lsub_cons rfl (lsub_cons rfl lsub_nil))))) ?_
        refine K (up (up (up (up c 0 13 (c 0 13 + 1)) 41 0 0) 41 0 1) 42 1 (c 42 1 + 1)) 1 (by decide) ?_ ?_ ?_
        · intro a j h
          exact ((up_b (by omega)).trans ((up_b (by omega)).trans ((up_b (by omega)).trans (up_b (by omega)))))
        · exact Eq.trans (b := c 0 13 + 1) ((up_c (by decide)).trans ((up_c (by decide)).trans ((up_c (by decide)).trans (up_e rfl)))) (show _ = c 0 13 + 1 by omega)
        · exact Eq.trans (b := c 42 1 + 1) (up_e rfl) (show _ = c 42 1 + 1 by omega)
      · refine v_ic_lt_f (t := 14) rfl (by decide) (by omega) ?_
        refine q_iload_n rfl rfl ?_
        refine q_iload_n rfl rfl ?_
        by_cases h_4 : x2 > 99
        · refine v_ic_gt_t (t := 14) rfl (by decide) (by omega) ?_
          refine q_iconst rfl ?_
          refine v_zret rfl rfl (by omega) ?_
          refine bk_inl ?_
          refine v_if_eq_t (t := 34) rfl (by decide) (by decide) ?_
          refine q_iconst rfl ?_
          refine v_cv rfl rfl rfl rfl (by decide) ⟨⟨rfl, rfl⟩, by decide, rfl⟩ (Nat.le_of_ble_eq_true rfl) (Nat.le_of_ble_eq_true rfl) ?_
          refine q_iload_n rfl rfl ?_
          refine v_if_ne_f (t := 25) rfl (by decide) (by decide) ?_
          refine q_aload_n rfl rfl ?_
          refine q_dup rfl rfl ?_
          refine v_gi (z := 13) (v := c 0 13) rfl rfl rfl (by decide) rfl rfl rfl ?_
          refine q_iconst rfl ?_
          refine v_iadd (v := c 0 13 + 1) rfl (by omega) ?_
          refine v_pi (z := 13) rfl rfl rfl (by decide) rfl rfl rfl (by decide) ?_
          refine v_new rfl rfl (by decide) (by omega) (Nat.le_of_ble_eq_true rfl) (by decide) rfl ?_
          refine bk_out rfl rfl ?_
          refine bk_thr (z := Int32.ofInt 1) rfl ⟨_, _, rfl⟩ rfl ?_
          refine bk_inl ?_
          refine q_istore rfl (by decide) ?_
          refine q_aload_n rfl rfl ?_
          refine q_aload_n rfl rfl ?_
          refine q_iload rfl rfl ?_
          refine q_iconst rfl ?_
          refine v_iadd (v := (i0 : Int) + 1) rfl (by omega) ?_
          refine v_scr (j := i0 + 1) rfl (by omega) (by omega) hL hx1 ?_
          refine q_aload_n rfl rfl ?_
          refine q_iload rfl rfl ?_
          refine q_iconst rfl ?_
          refine v_iadd (v := (i0 : Int) + 2) rfl (by omega) ?_
          refine v_scr (j := i0 + 2) rfl (by omega) (by omega) hL hx2 ?_
          refine q_aload_n rfl rfl ?_
          refine q_iload rfl rfl ?_
          refine q_iconst rfl ?_
          refine v_iadd (v := (i0 : Int) + 3) rfl (by omega) ?_
          refine v_scr (j := i0 + 3) rfl (by omega) (by omega) hL hx3 ?_
          refine v_cv rfl rfl rfl rfl (by decide) ⟨⟨rfl, rfl⟩, by decide, rfl⟩ (Nat.le_of_ble_eq_true rfl) (Nat.le_of_ble_eq_true rfl) ?_
          refine q_aload_n rfl rfl ?_
          refine q_iconst rfl ?_
          refine v_pi (z := 0) rfl rfl rfl (by decide) rfl rfl rfl (by decide) ?_
          refine q_aload_n rfl rfl ?_
          refine q_iload_n rfl rfl ?_
          refine q_iconst rfl ?_
          refine v_bip rfl (by decide) ?_
          refine q_call rfl rfl rfl rfl ?_
          refine q_iload_n rfl rfl ?_
          refine q_iload_n rfl rfl ?_
          refine v_ic_lt_f (t := 14) rfl (by decide) (by omega) ?_
          refine q_iload_n rfl rfl ?_
          refine q_iload_n rfl rfl ?_
          refine v_ic_gt_f (t := 14) rfl (by decide) (by omega) ?_
          refine q_iconst rfl ?_
          refine q_goto (t := 15) rfl (by decide) ?_
          refine v_zret rfl rfl (by omega) ?_
          refine bk_inl ?_
          refine v_if_eq_f (t := 39) rfl (by decide) (by decide) ?_
          refine q_iload_n rfl rfl ?_
          refine q_iconst rfl ?_
          refine v_bip rfl (by decide) ?_
          refine q_call rfl rfl rfl rfl ?_
          refine q_iload_n rfl rfl ?_
          refine q_iload_n rfl rfl ?_
          refine v_ic_lt_f (t := 14) rfl (by decide) (by omega) ?_
          refine q_iload_n rfl rfl ?_
          refine q_iload_n rfl rfl ?_
          refine v_ic_gt_t (t := 14) rfl (by decide) (by omega) ?_
          refine q_iconst rfl ?_
          refine v_zret rfl rfl (by omega) ?_
          refine bk_inl ?_
          refine v_if_eq_t (t := 39) rfl (by decide) (by decide) ?_
          refine q_iconst rfl ?_
          refine q_iconst rfl ?_
          refine q_iconst rfl ?_
          refine v_cv rfl rfl rfl rfl (by decide) ⟨⟨rfl, rfl⟩, by decide, rfl⟩ (Nat.le_of_ble_eq_true rfl) (Nat.le_of_ble_eq_true rfl) ?_
          refine q_iload_n rfl rfl ?_
          refine v_if_ne_f (t := 26) rfl (by decide) (by decide) ?_
          refine q_aload_n rfl rfl ?_
          refine v_gi (z := 0) (v := 0) rfl rfl rfl (by decide) rfl rfl (up_e rfl) ?_
          refine v_if_ne_f (t := 26) rfl (by decide) (by decide) ?_
          refine q_aload_n rfl rfl ?_
          refine q_iload_n rfl rfl ?_
          refine v_pi (z := 0) rfl rfl rfl (by decide) rfl rfl rfl (by decide) ?_
          refine q_aload_n rfl rfl ?_
          refine v_gr (t := 42) rfl rfl rfl (by decide) rfl ?_
          refine q_iload_n rfl rfl ?_
          refine q_dup2 rfl ⟨rfl, rfl⟩ ?_
          refine v_ia (v := c 42 1) rfl rfl (by decide) (by decide) (by decide) ((up_c (by decide)).trans ((up_c (by decide)).trans (up_c (by decide)))) ?_
          refine q_iconst rfl ?_
          refine v_iadd (v := c 42 1 + 1) rfl (by omega) ?_
          refine v_is rfl rfl (by decide) (by decide) (by decide) ?_
          refine q_aload_n rfl rfl ?_
          refine v_gi (z := 0) (v := 1) rfl rfl rfl (by decide) rfl rfl ((up_c (by decide)).trans (up_e rfl)) ?_
          refine v_if_ne_t (t := 37) rfl (by decide) (by decide) ?_
          refine q_iconst rfl ?_
          refine v_zret rfl rfl (by omega) ?_
          refine bk_inl ?_
          refine v_if_ne_f (t := 50) rfl (by decide) (by decide) ?_
          refine q_iconst rfl ?_
          refine q_iret rfl rfl ?_
          refine bk_inl ?_
          refine q_istore rfl (by decide) ?_
          refine q_aload_n rfl rfl ?_
          refine v_cv rfl rfl rfl rfl (by decide) ⟨⟨rfl, rfl⟩, by decide, rfl⟩ (Nat.le_of_ble_eq_true rfl) (Nat.le_of_ble_eq_true rfl) ?_
          refine q_aload_n rfl rfl ?_
          refine v_gi (z := 0) (v := 1) rfl rfl rfl (by decide) rfl rfl ((up_c (by decide)).trans (up_e rfl)) ?_
          refine q_iret rfl rfl ?_
          refine bk_inl ?_
          refine q_iload rfl rfl ?_
          refine v_ic_eq_t (t := 1215) rfl (by decide) (by decide) ?_
          refine q_iload rfl rfl ?_
          refine v_if_ne_t (t := 1232) rfl (by decide) (by decide) ?_
          refine q_goto (t := 1844) rfl (by decide) ?_
          refine Wp_ls [(4, vi (i0 : Int)), (3, .ref 67), (2, .ref 41), (1, .ref 0), (0, .ref a_SC)] (lsub_cons rfl (lsub_cons rfl (lsub_cons rfl (lsub_cons rfl (lsub_cons rfl lsub_nil))))) ?_
          refine K (up (up (up (up c 0 13 (c 0 13 + 1)) 41 0 0) 41 0 1) 42 1 (c 42 1 + 1)) 1 (by decide) ?_ ?_ ?_
          · intro a j h
            exact ((up_b (by omega)).trans ((up_b (by omega)).trans ((up_b (by omega)).trans (up_b (by omega)))))
          · exact Eq.trans (b := c 0 13 + 1) ((up_c (by decide)).trans ((up_c (by decide)).trans ((up_c (by decide)).trans (up_e rfl)))) (show _ = c 0 13 + 1 by omega)
          · exact Eq.trans (b := c 42 1 + 1) (up_e rfl) (show _ = c 42 1 + 1 by omega)
        · refine v_ic_gt_f (t := 14) rfl (by decide) (by omega) ?_
          refine q_iconst rfl ?_
          refine q_goto (t := 15) rfl (by decide) ?_
          refine v_zret rfl rfl (by omega) ?_
          refine bk_inl ?_
          refine v_if_eq_f (t := 34) rfl (by decide) (by decide) ?_
          refine q_iload_n rfl rfl ?_
          refine q_iconst rfl ?_
          refine q_iconst rfl ?_
          refine q_call rfl rfl rfl rfl ?_
          refine q_iload_n rfl rfl ?_
          refine q_iload_n rfl rfl ?_
          by_cases h_5 : x3 < 0
          · refine v_ic_lt_t (t := 14) rfl (by decide) (by omega) ?_
            refine q_iconst rfl ?_
            refine v_zret rfl rfl (by omega) ?_
            refine bk_inl ?_
            refine v_if_eq_t (t := 34) rfl (by decide) (by decide) ?_
            refine q_iconst rfl ?_
            refine v_cv rfl rfl rfl rfl (by decide) ⟨⟨rfl, rfl⟩, by decide, rfl⟩ (Nat.le_of_ble_eq_true rfl) (Nat.le_of_ble_eq_true rfl) ?_
            refine q_iload_n rfl rfl ?_
            refine v_if_ne_f (t := 25) rfl (by decide) (by decide) ?_
            refine q_aload_n rfl rfl ?_
            refine q_dup rfl rfl ?_
            refine v_gi (z := 13) (v := c 0 13) rfl rfl rfl (by decide) rfl rfl rfl ?_
            refine q_iconst rfl ?_
            refine v_iadd (v := c 0 13 + 1) rfl (by omega) ?_
            refine v_pi (z := 13) rfl rfl rfl (by decide) rfl rfl rfl (by decide) ?_
            refine v_new rfl rfl (by decide) (by omega) (Nat.le_of_ble_eq_true rfl) (by decide) rfl ?_
            refine bk_out rfl rfl ?_
            refine bk_thr (z := Int32.ofInt 1) rfl ⟨_, _, rfl⟩ rfl ?_
            refine bk_inl ?_
            refine q_istore rfl (by decide) ?_
            refine q_aload_n rfl rfl ?_
            refine q_aload_n rfl rfl ?_
            refine q_iload rfl rfl ?_
            refine q_iconst rfl ?_
            refine v_iadd (v := (i0 : Int) + 1) rfl (by omega) ?_
            refine v_scr (j := i0 + 1) rfl (by omega) (by omega) hL hx1 ?_
            refine q_aload_n rfl rfl ?_
            refine q_iload rfl rfl ?_
            refine q_iconst rfl ?_
            refine v_iadd (v := (i0 : Int) + 2) rfl (by omega) ?_
            refine v_scr (j := i0 + 2) rfl (by omega) (by omega) hL hx2 ?_
            refine q_aload_n rfl rfl ?_
            refine q_iload rfl rfl ?_
            refine q_iconst rfl ?_
            refine v_iadd (v := (i0 : Int) + 3) rfl (by omega) ?_
            refine v_scr (j := i0 + 3) rfl (by omega) (by omega) hL hx3 ?_
            refine v_cv rfl rfl rfl rfl (by decide) ⟨⟨rfl, rfl⟩, by decide, rfl⟩ (Nat.le_of_ble_eq_true rfl) (Nat.le_of_ble_eq_true rfl) ?_
            refine q_aload_n rfl rfl ?_
            refine q_iconst rfl ?_
            refine v_pi (z := 0) rfl rfl rfl (by decide) rfl rfl rfl (by decide) ?_
            refine q_aload_n rfl rfl ?_
            refine q_iload_n rfl rfl ?_
            refine q_iconst rfl ?_
            refine v_bip rfl (by decide) ?_
            refine q_call rfl rfl rfl rfl ?_
            refine q_iload_n rfl rfl ?_
            refine q_iload_n rfl rfl ?_
            refine v_ic_lt_f (t := 14) rfl (by decide) (by omega) ?_
            refine q_iload_n rfl rfl ?_
            refine q_iload_n rfl rfl ?_
            refine v_ic_gt_f (t := 14) rfl (by decide) (by omega) ?_
            refine q_iconst rfl ?_
            refine q_goto (t := 15) rfl (by decide) ?_
            refine v_zret rfl rfl (by omega) ?_
            refine bk_inl ?_
            refine v_if_eq_f (t := 39) rfl (by decide) (by decide) ?_
            refine q_iload_n rfl rfl ?_
            refine q_iconst rfl ?_
            refine v_bip rfl (by decide) ?_
            refine q_call rfl rfl rfl rfl ?_
            refine q_iload_n rfl rfl ?_
            refine q_iload_n rfl rfl ?_
            refine v_ic_lt_f (t := 14) rfl (by decide) (by omega) ?_
            refine q_iload_n rfl rfl ?_
            refine q_iload_n rfl rfl ?_
            refine v_ic_gt_f (t := 14) rfl (by decide) (by omega) ?_
            refine q_iconst rfl ?_
            refine q_goto (t := 15) rfl (by decide) ?_
            refine v_zret rfl rfl (by omega) ?_
            refine bk_inl ?_
            refine v_if_eq_f (t := 39) rfl (by decide) (by decide) ?_
            refine q_iload_n rfl rfl ?_
            refine q_iconst rfl ?_
            refine q_iconst rfl ?_
            refine q_call rfl rfl rfl rfl ?_
            refine q_iload_n rfl rfl ?_
            refine q_iload_n rfl rfl ?_
            refine v_ic_lt_t (t := 14) rfl (by decide) (by omega) ?_
            refine q_iconst rfl ?_
            refine v_zret rfl rfl (by omega) ?_
            refine bk_inl ?_
            refine v_if_eq_t (t := 39) rfl (by decide) (by decide) ?_
            refine q_iconst rfl ?_
            refine q_iconst rfl ?_
            refine q_iconst rfl ?_
            refine v_cv rfl rfl rfl rfl (by decide) ⟨⟨rfl, rfl⟩, by decide, rfl⟩ (Nat.le_of_ble_eq_true rfl) (Nat.le_of_ble_eq_true rfl) ?_
            refine q_iload_n rfl rfl ?_
            refine v_if_ne_f (t := 26) rfl (by decide) (by decide) ?_
            refine q_aload_n rfl rfl ?_
            refine v_gi (z := 0) (v := 0) rfl rfl rfl (by decide) rfl rfl (up_e rfl) ?_
            refine v_if_ne_f (t := 26) rfl (by decide) (by decide) ?_
            refine q_aload_n rfl rfl ?_
            refine q_iload_n rfl rfl ?_
            refine v_pi (z := 0) rfl rfl rfl (by decide) rfl rfl rfl (by decide) ?_
            refine q_aload_n rfl rfl ?_
            refine v_gr (t := 42) rfl rfl rfl (by decide) rfl ?_
            refine q_iload_n rfl rfl ?_
            refine q_dup2 rfl ⟨rfl, rfl⟩ ?_
            refine v_ia (v := c 42 1) rfl rfl (by decide) (by decide) (by decide) ((up_c (by decide)).trans ((up_c (by decide)).trans (up_c (by decide)))) ?_
            refine q_iconst rfl ?_
            refine v_iadd (v := c 42 1 + 1) rfl (by omega) ?_
            refine v_is rfl rfl (by decide) (by decide) (by decide) ?_
            refine q_aload_n rfl rfl ?_
            refine v_gi (z := 0) (v := 1) rfl rfl rfl (by decide) rfl rfl ((up_c (by decide)).trans (up_e rfl)) ?_
            refine v_if_ne_t (t := 37) rfl (by decide) (by decide) ?_
            refine q_iconst rfl ?_
            refine v_zret rfl rfl (by omega) ?_
            refine bk_inl ?_
            refine v_if_ne_f (t := 50) rfl (by decide) (by decide) ?_
            refine q_iconst rfl ?_
            refine q_iret rfl rfl ?_
            refine bk_inl ?_
            refine q_istore rfl (by decide) ?_
            refine q_aload_n rfl rfl ?_
            refine v_cv rfl rfl rfl rfl (by decide) ⟨⟨rfl, rfl⟩, by decide, rfl⟩ (Nat.le_of_ble_eq_true rfl) (Nat.le_of_ble_eq_true rfl) ?_
            refine q_aload_n rfl rfl ?_
            refine v_gi (z := 0) (v := 1) rfl rfl rfl (by decide) rfl rfl ((up_c (by decide)).trans (up_e rfl)) ?_
            refine q_iret rfl rfl ?_
            refine bk_inl ?_
            refine q_iload rfl rfl ?_
            refine v_ic_eq_t (t := 1215) rfl (by decide) (by decide) ?_
            refine q_iload rfl rfl ?_
            refine v_if_ne_t (t := 1232) rfl (by decide) (by decide) ?_
            refine q_goto (t := 1844) rfl (by decide) ?_
            refine Wp_ls [(4, vi (i0 : Int)), (3, .ref 67), (2, .ref 41), (1, .ref 0), (0, .ref a_SC)] (lsub_cons rfl (lsub_cons rfl (lsub_cons rfl (lsub_cons rfl (lsub_cons rfl lsub_nil))))) ?_
            refine K (up (up (up (up c 0 13 (c 0 13 + 1)) 41 0 0) 41 0 1) 42 1 (c 42 1 + 1)) 1 (by decide) ?_ ?_ ?_
            · intro a j h
              exact ((up_b (by omega)).trans ((up_b (by omega)).trans ((up_b (by omega)).trans (up_b (by omega)))))
            · exact Eq.trans (b := c 0 13 + 1) ((up_c (by decide)).trans ((up_c (by decide)).trans ((up_c (by decide)).trans (up_e rfl)))) (show _ = c 0 13 + 1 by omega)
            · exact Eq.trans (b := c 42 1 + 1) (up_e rfl) (show _ = c 42 1 + 1 by omega)
          · refine v_ic_lt_f (t := 14) rfl (by decide) (by omega) ?_
            refine q_iload_n rfl rfl ?_
            refine q_iload_n rfl rfl ?_
            by_cases h_6 : x3 > 2
            · refine v_ic_gt_t (t := 14) rfl (by decide) (by omega) ?_
              refine q_iconst rfl ?_
              refine v_zret rfl rfl (by omega) ?_
              refine bk_inl ?_
              refine v_if_eq_t (t := 34) rfl (by decide) (by decide) ?_
              refine q_iconst rfl ?_
              refine v_cv rfl rfl rfl rfl (by decide) ⟨⟨rfl, rfl⟩, by decide, rfl⟩ (Nat.le_of_ble_eq_true rfl) (Nat.le_of_ble_eq_true rfl) ?_
              refine q_iload_n rfl rfl ?_
              refine v_if_ne_f (t := 25) rfl (by decide) (by decide) ?_
              refine q_aload_n rfl rfl ?_
              refine q_dup rfl rfl ?_
              refine v_gi (z := 13) (v := c 0 13) rfl rfl rfl (by decide) rfl rfl rfl ?_
              refine q_iconst rfl ?_
              refine v_iadd (v := c 0 13 + 1) rfl (by omega) ?_
              refine v_pi (z := 13) rfl rfl rfl (by decide) rfl rfl rfl (by decide) ?_
              refine v_new rfl rfl (by decide) (by omega) (Nat.le_of_ble_eq_true rfl) (by decide) rfl ?_
              refine bk_out rfl rfl ?_
              refine bk_thr (z := Int32.ofInt 1) rfl ⟨_, _, rfl⟩ rfl ?_
              refine bk_inl ?_
              refine q_istore rfl (by decide) ?_
              refine q_aload_n rfl rfl ?_
              refine q_aload_n rfl rfl ?_
              refine q_iload rfl rfl ?_
              refine q_iconst rfl ?_
              refine v_iadd (v := (i0 : Int) + 1) rfl (by omega) ?_
              refine v_scr (j := i0 + 1) rfl (by omega) (by omega) hL hx1 ?_
              refine q_aload_n rfl rfl ?_
              refine q_iload rfl rfl ?_
              refine q_iconst rfl ?_
              refine v_iadd (v := (i0 : Int) + 2) rfl (by omega) ?_
              refine v_scr (j := i0 + 2) rfl (by omega) (by omega) hL hx2 ?_
              refine q_aload_n rfl rfl ?_
              refine q_iload rfl rfl ?_
              refine q_iconst rfl ?_
              refine v_iadd (v := (i0 : Int) + 3) rfl (by omega) ?_
              refine v_scr (j := i0 + 3) rfl (by omega) (by omega) hL hx3 ?_
              refine v_cv rfl rfl rfl rfl (by decide) ⟨⟨rfl, rfl⟩, by decide, rfl⟩ (Nat.le_of_ble_eq_true rfl) (Nat.le_of_ble_eq_true rfl) ?_
              refine q_aload_n rfl rfl ?_
              refine q_iconst rfl ?_
              refine v_pi (z := 0) rfl rfl rfl (by decide) rfl rfl rfl (by decide) ?_
              refine q_aload_n rfl rfl ?_
              refine q_iload_n rfl rfl ?_
              refine q_iconst rfl ?_
              refine v_bip rfl (by decide) ?_
              refine q_call rfl rfl rfl rfl ?_
              refine q_iload_n rfl rfl ?_
              refine q_iload_n rfl rfl ?_
              refine v_ic_lt_f (t := 14) rfl (by decide) (by omega) ?_
              refine q_iload_n rfl rfl ?_
              refine q_iload_n rfl rfl ?_
              refine v_ic_gt_f (t := 14) rfl (by decide) (by omega) ?_
              refine q_iconst rfl ?_
              refine q_goto (t := 15) rfl (by decide) ?_
              refine v_zret rfl rfl (by omega) ?_
              refine bk_inl ?_
              refine v_if_eq_f (t := 39) rfl (by decide) (by decide) ?_
              refine q_iload_n rfl rfl ?_
              refine q_iconst rfl ?_
              refine v_bip rfl (by decide) ?_
              refine q_call rfl rfl rfl rfl ?_
              refine q_iload_n rfl rfl ?_
              refine q_iload_n rfl rfl ?_
              refine v_ic_lt_f (t := 14) rfl (by decide) (by omega) ?_
              refine q_iload_n rfl rfl ?_
              refine q_iload_n rfl rfl ?_
              refine v_ic_gt_f (t := 14) rfl (by decide) (by omega) ?_
              refine q_iconst rfl ?_
              refine q_goto (t := 15) rfl (by decide) ?_
              refine v_zret rfl rfl (by omega) ?_
              refine bk_inl ?_
              refine v_if_eq_f (t := 39) rfl (by decide) (by decide) ?_
              refine q_iload_n rfl rfl ?_
              refine q_iconst rfl ?_
              refine q_iconst rfl ?_
              refine q_call rfl rfl rfl rfl ?_
              refine q_iload_n rfl rfl ?_
              refine q_iload_n rfl rfl ?_
              refine v_ic_lt_f (t := 14) rfl (by decide) (by omega) ?_
              refine q_iload_n rfl rfl ?_
              refine q_iload_n rfl rfl ?_
              refine v_ic_gt_t (t := 14) rfl (by decide) (by omega) ?_
              refine q_iconst rfl ?_
              refine v_zret rfl rfl (by omega) ?_
              refine bk_inl ?_
              refine v_if_eq_t (t := 39) rfl (by decide) (by decide) ?_
              refine q_iconst rfl ?_
              refine q_iconst rfl ?_
              refine q_iconst rfl ?_
              refine v_cv rfl rfl rfl rfl (by decide) ⟨⟨rfl, rfl⟩, by decide, rfl⟩ (Nat.le_of_ble_eq_true rfl) (Nat.le_of_ble_eq_true rfl) ?_
              refine q_iload_n rfl rfl ?_
              refine v_if_ne_f (t := 26) rfl (by decide) (by decide) ?_
              refine q_aload_n rfl rfl ?_
              refine v_gi (z := 0) (v := 0) rfl rfl rfl (by decide) rfl rfl (up_e rfl) ?_
              refine v_if_ne_f (t := 26) rfl (by decide) (by decide) ?_
              refine q_aload_n rfl rfl ?_
              refine q_iload_n rfl rfl ?_
              refine v_pi (z := 0) rfl rfl rfl (by decide) rfl rfl rfl (by decide) ?_
              refine q_aload_n rfl rfl ?_
              refine v_gr (t := 42) rfl rfl rfl (by decide) rfl ?_
              refine q_iload_n rfl rfl ?_
              refine q_dup2 rfl ⟨rfl, rfl⟩ ?_
              refine v_ia (v := c 42 1) rfl rfl (by decide) (by decide) (by decide) ((up_c (by decide)).trans ((up_c (by decide)).trans (up_c (by decide)))) ?_
              refine q_iconst rfl ?_
              refine v_iadd (v := c 42 1 + 1) rfl (by omega) ?_
              refine v_is rfl rfl (by decide) (by decide) (by decide) ?_
              refine q_aload_n rfl rfl ?_
              refine v_gi (z := 0) (v := 1) rfl rfl rfl (by decide) rfl rfl ((up_c (by decide)).trans (up_e rfl)) ?_
              refine v_if_ne_t (t := 37) rfl (by decide) (by decide) ?_
              refine q_iconst rfl ?_
              refine v_zret rfl rfl (by omega) ?_
              refine bk_inl ?_
              refine v_if_ne_f (t := 50) rfl (by decide) (by decide) ?_
              refine q_iconst rfl ?_
              refine q_iret rfl rfl ?_
              refine bk_inl ?_
              refine q_istore rfl (by decide) ?_
              refine q_aload_n rfl rfl ?_
              refine v_cv rfl rfl rfl rfl (by decide) ⟨⟨rfl, rfl⟩, by decide, rfl⟩ (Nat.le_of_ble_eq_true rfl) (Nat.le_of_ble_eq_true rfl) ?_
              refine q_aload_n rfl rfl ?_
              refine v_gi (z := 0) (v := 1) rfl rfl rfl (by decide) rfl rfl ((up_c (by decide)).trans (up_e rfl)) ?_
              refine q_iret rfl rfl ?_
              refine bk_inl ?_
              refine q_iload rfl rfl ?_
              refine v_ic_eq_t (t := 1215) rfl (by decide) (by decide) ?_
              refine q_iload rfl rfl ?_
              refine v_if_ne_t (t := 1232) rfl (by decide) (by decide) ?_
              refine q_goto (t := 1844) rfl (by decide) ?_
              refine Wp_ls [(4, vi (i0 : Int)), (3, .ref 67), (2, .ref 41), (1, .ref 0), (0, .ref a_SC)] (lsub_cons rfl (lsub_cons rfl (lsub_cons rfl (lsub_cons rfl (lsub_cons rfl lsub_nil))))) ?_
              refine K (up (up (up (up c 0 13 (c 0 13 + 1)) 41 0 0) 41 0 1) 42 1 (c 42 1 + 1)) 1 (by decide) ?_ ?_ ?_
              · intro a j h
                exact ((up_b (by omega)).trans ((up_b (by omega)).trans ((up_b (by omega)).trans (up_b (by omega)))))
              · exact Eq.trans (b := c 0 13 + 1) ((up_c (by decide)).trans ((up_c (by decide)).trans ((up_c (by decide)).trans (up_e rfl)))) (show _ = c 0 13 + 1 by omega)
              · exact Eq.trans (b := c 42 1 + 1) (up_e rfl) (show _ = c 42 1 + 1 by omega)
            · refine v_ic_gt_f (t := 14) rfl (by decide) (by omega) ?_
              refine q_iconst rfl ?_
              refine q_goto (t := 15) rfl (by decide) ?_
              refine v_zret rfl rfl (by omega) ?_
              refine bk_inl ?_
              refine v_if_eq_f (t := 34) rfl (by decide) (by decide) ?_
              refine q_iconst rfl ?_
              refine q_goto (t := 35) rfl (by decide) ?_
              refine v_cv rfl rfl rfl rfl (by decide) ⟨⟨rfl, rfl⟩, by decide, rfl⟩ (Nat.le_of_ble_eq_true rfl) (Nat.le_of_ble_eq_true rfl) ?_
              refine q_iload_n rfl rfl ?_
              refine v_if_ne_t (t := 25) rfl (by decide) (by decide) ?_
              refine q_vret rfl rfl ?_
              refine bk_inl ?_
              refine q_iconst rfl ?_
              refine q_istore rfl (by decide) ?_
              refine q_iconst rfl ?_
              refine q_istore rfl (by decide) ?_
              refine q_iconst rfl ?_
              refine q_istore rfl (by decide) ?_
              refine q_iconst rfl ?_
              refine q_istore rfl (by decide) ?_
              refine q_iload rfl rfl ?_
              refine q_iconst rfl ?_
              refine v_ic_ge_f (t := 153) rfl (by decide) (by decide) ?_
              refine q_iload rfl rfl ?_
              refine q_iconst rfl ?_
              refine v_idiv (v := 0) rfl (by omega) (by decide) ?_
              refine q_istore rfl (by decide) ?_
              refine Wp_ls [(8, vi 0), (7, vi 0), (6, vi 0), (5, vi (-1)), (4, vi 0), (0, .ref 0), (1, vi x1), (2, vi x2), (3, vi x3)] (lsub_cons rfl (lsub_cons rfl (lsub_cons rfl (lsub_cons rfl (lsub_cons rfl (lsub_cons rfl (lsub_cons rfl (lsub_cons rfl (lsub_cons rfl lsub_nil))))))))) ?_
              refine q_iload rfl rfl ?_
              refine q_iconst rfl ?_
              refine v_irem (v := 0) rfl (by omega) (by decide) ?_
              refine q_istore rfl (by decide) ?_
              refine q_iload rfl rfl ?_
              refine q_iload rfl rfl ?_
              refine q_iload_n rfl rfl ?_
              refine q_iload_n rfl rfl ?_
              refine q_call rfl rfl rfl rfl ?_
              refine q_iload_n rfl rfl ?_
              refine v_if_ne_f (t := 8) rfl (by decide) (by decide) ?_
              refine q_iload_n rfl rfl ?_
              refine q_goto (t := 9) rfl (by decide) ?_
              refine q_istore rfl (by decide) ?_
              refine q_iload_n rfl rfl ?_
              refine q_iload_n rfl rfl ?_
              refine v_ic_ne_f (t := 23) rfl (by decide) (by decide) ?_
              refine q_iload rfl rfl ?_
              refine q_iconst rfl ?_
              refine v_idiv (v := (x1 / 2)) rfl (by omega) rfl ?_
              refine q_goto (t := 25) rfl (by decide) ?_
              refine q_iret rfl rfl ?_
              refine bk_inl ?_
              refine q_istore rfl (by decide) ?_
              refine q_iload rfl rfl ?_
              refine q_iload rfl rfl ?_
              refine q_iload_n rfl rfl ?_
              refine q_iload_n rfl rfl ?_
              refine q_call rfl rfl rfl rfl ?_
              refine q_iload_n rfl rfl ?_
              refine v_if_ne_f (t := 8) rfl (by decide) (by decide) ?_
              refine q_iload_n rfl rfl ?_
              refine q_goto (t := 9) rfl (by decide) ?_
              refine q_istore rfl (by decide) ?_
              refine q_iload_n rfl rfl ?_
              refine q_iload_n rfl rfl ?_
              refine v_ic_ne_f (t := 23) rfl (by decide) (by decide) ?_
              refine q_iload rfl rfl ?_
              refine q_iconst rfl ?_
              refine v_idiv (v := (x1 / 2)) rfl (by omega) rfl ?_
              refine q_goto (t := 25) rfl (by decide) ?_
              refine q_iret rfl rfl ?_
              refine bk_inl ?_
              refine q_istore rfl (by decide) ?_
              refine q_iconst rfl ?_
              refine q_iload rfl rfl ?_
              refine v_isub (v := 1) rfl (by decide) ?_
              refine q_iload rfl rfl ?_
              refine q_iload_n rfl rfl ?_
              refine q_iload_n rfl rfl ?_
              refine q_call rfl rfl rfl rfl ?_
              refine q_iload_n rfl rfl ?_
              refine v_if_ne_t (t := 8) rfl (by decide) (by decide) ?_
              refine q_iload_n rfl rfl ?_
              refine q_istore rfl (by decide) ?_
              refine q_iload_n rfl rfl ?_
              refine q_iload_n rfl rfl ?_
              refine v_ic_ne_t (t := 23) rfl (by decide) (by decide) ?_
              refine q_iload rfl rfl ?_
              refine q_iret rfl rfl ?_
              refine bk_inl ?_
              refine q_iload rfl rfl ?_
              by_cases h_7 : x2 > (x1 / 2)
              · refine v_ic_gt_t (t := 147) rfl (by decide) (by omega) ?_
                refine v_iinc (v := 1) rfl rfl (by decide) (by decide) ?_
                refine q_goto (t := 50) rfl (by decide) ?_
                refine q_iload rfl rfl ?_
                refine q_iconst rfl ?_
                refine v_ic_ge_f (t := 153) rfl (by decide) (by decide) ?_
                refine q_iload rfl rfl ?_
                refine q_iconst rfl ?_
                refine v_idiv (v := 0) rfl (by omega) (by decide) ?_
                refine q_istore rfl (by decide) ?_
                refine Wp_ls [(8, vi 0), (7, vi 1), (11, vi (x1 / 2)), (10, vi (x1 / 2)), (9, vi 0), (6, vi 0), (5, vi (-1)), (4, vi 0), (0, .ref 0), (1, vi x1), (2, vi x2), (3, vi x3)] (lsub_cons rfl (lsub_cons rfl (lsub_cons rfl (lsub_cons rfl (lsub_cons rfl (lsub_cons rfl (lsub_cons rfl (lsub_cons rfl (lsub_cons rfl (lsub_cons rfl (lsub_cons rfl (lsub_cons rfl lsub_nil)))))))))))) ?_
                refine q_iload rfl rfl ?_
                refine q_iconst rfl ?_
                refine v_irem (v := 1) rfl (by omega) (by decide) ?_
                refine q_istore rfl (by decide) ?_
                refine q_iload rfl rfl ?_
                refine q_iload rfl rfl ?_
                refine q_iload_n rfl rfl ?_
                refine q_iload_n rfl rfl ?_
                refine q_call rfl rfl rfl rfl ?_
                refine q_iload_n rfl rfl ?_
                refine v_if_ne_f (t := 8) rfl (by decide) (by decide) ?_
                refine q_iload_n rfl rfl ?_
                refine q_goto (t := 9) rfl (by decide) ?_
                refine q_istore rfl (by decide) ?_
                refine q_iload_n rfl rfl ?_
                refine q_iload_n rfl rfl ?_
                refine v_ic_ne_t (t := 23) rfl (by decide) (by decide) ?_
                refine q_iload rfl rfl ?_
                refine q_iret rfl rfl ?_
                refine bk_inl ?_
                refine q_istore rfl (by decide) ?_
                refine q_iload rfl rfl ?_
                refine q_iload rfl rfl ?_
                refine q_iload_n rfl rfl ?_
                refine q_iload_n rfl rfl ?_
                refine q_call rfl rfl rfl rfl ?_
                refine q_iload_n rfl rfl ?_
                refine v_if_ne_t (t := 8) rfl (by decide) (by decide) ?_
                refine q_iload_n rfl rfl ?_
                refine q_istore rfl (by decide) ?_
                refine q_iload_n rfl rfl ?_
                refine q_iload_n rfl rfl ?_
                refine v_ic_ne_t (t := 23) rfl (by decide) (by decide) ?_
                refine q_iload rfl rfl ?_
                refine q_iret rfl rfl ?_
                refine bk_inl ?_
                refine q_istore rfl (by decide) ?_
                refine q_iconst rfl ?_
                refine q_iload rfl rfl ?_
                refine v_isub (v := 1) rfl (by decide) ?_
                refine q_iload rfl rfl ?_
                refine q_iload_n rfl rfl ?_
                refine q_iload_n rfl rfl ?_
                refine q_call rfl rfl rfl rfl ?_
                refine q_iload_n rfl rfl ?_
                refine v_if_ne_t (t := 8) rfl (by decide) (by decide) ?_
                refine q_iload_n rfl rfl ?_
                refine q_istore rfl (by decide) ?_
                refine q_iload_n rfl rfl ?_
                refine q_iload_n rfl rfl ?_
                refine v_ic_ne_f (t := 23) rfl (by decide) (by decide) ?_
                refine q_iload rfl rfl ?_
                refine q_iconst rfl ?_
                refine v_idiv (v := (x2 / 2)) rfl (by omega) rfl ?_
                refine q_goto (t := 25) rfl (by decide) ?_
                refine q_iret rfl rfl ?_
                refine bk_inl ?_
                refine q_iload rfl rfl ?_
                by_cases h_8 : (x2 / 2) > x1
                · refine v_ic_gt_t (t := 147) rfl (by decide) (by omega) ?_
                  refine v_iinc (v := 2) rfl rfl (by decide) (by decide) ?_
                  refine q_goto (t := 50) rfl (by decide) ?_
                  refine q_iload rfl rfl ?_
                  refine q_iconst rfl ?_
                  refine v_ic_ge_f (t := 153) rfl (by decide) (by decide) ?_
                  refine q_iload rfl rfl ?_
                  refine q_iconst rfl ?_
                  refine v_idiv (v := 1) rfl (by omega) (by decide) ?_
                  refine q_istore rfl (by decide) ?_
                  refine Wp_ls [(8, vi 1), (7, vi 2), (11, vi x2), (10, vi x1), (9, vi 1), (6, vi 0), (5, vi (-1)), (4, vi 0), (0, .ref 0), (1, vi x1), (2, vi x2), (3, vi x3)] (lsub_cons rfl (lsub_cons rfl (lsub_cons rfl (lsub_cons rfl (lsub_cons rfl (lsub_cons rfl (lsub_cons rfl (lsub_cons rfl (lsub_cons rfl (lsub_cons rfl (lsub_cons rfl (lsub_cons rfl lsub_nil)))))))))))) ?_
                  refine q_iload rfl rfl ?_
                  refine q_iconst rfl ?_
                  refine v_irem (v := 0) rfl (by omega) (by decide) ?_
                  refine q_istore rfl (by decide) ?_
                  refine q_iload rfl rfl ?_
                  refine q_iload rfl rfl ?_
                  refine q_iload_n rfl rfl ?_
                  refine q_iload_n rfl rfl ?_
                  refine q_call rfl rfl rfl rfl ?_
                  refine q_iload_n rfl rfl ?_
                  refine v_if_ne_t (t := 8) rfl (by decide) (by decide) ?_
                  refine q_iload_n rfl rfl ?_
                  refine q_istore rfl (by decide) ?_
                  refine q_iload_n rfl rfl ?_
                  refine q_iload_n rfl rfl ?_
                  refine v_ic_ne_t (t := 23) rfl (by decide) (by decide) ?_
                  refine q_iload rfl rfl ?_
                  refine q_iret rfl rfl ?_
                  refine bk_inl ?_
                  refine q_istore rfl (by decide) ?_
                  refine q_iload rfl rfl ?_
                  refine q_iload rfl rfl ?_
                  refine q_iload_n rfl rfl ?_
                  refine q_iload_n rfl rfl ?_
                  refine q_call rfl rfl rfl rfl ?_
                  refine q_iload_n rfl rfl ?_
                  refine v_if_ne_f (t := 8) rfl (by decide) (by decide) ?_
                  refine q_iload_n rfl rfl ?_
                  refine q_goto (t := 9) rfl (by decide) ?_
                  refine q_istore rfl (by decide) ?_
                  refine q_iload_n rfl rfl ?_
                  refine q_iload_n rfl rfl ?_
                  refine v_ic_ne_t (t := 23) rfl (by decide) (by decide) ?_
                  refine q_iload rfl rfl ?_
                  refine q_iret rfl rfl ?_
                  refine bk_inl ?_
                  refine q_istore rfl (by decide) ?_
                  refine q_iconst rfl ?_
                  refine q_iload rfl rfl ?_
                  refine v_isub (v := 0) rfl (by decide) ?_
                  refine q_iload rfl rfl ?_
                  refine q_iload_n rfl rfl ?_
                  refine q_iload_n rfl rfl ?_
                  refine q_call rfl rfl rfl rfl ?_
                  refine q_iload_n rfl rfl ?_
                  refine v_if_ne_f (t := 8) rfl (by decide) (by decide) ?_
                  refine q_iload_n rfl rfl ?_
                  refine q_goto (t := 9) rfl (by decide) ?_
                  refine q_istore rfl (by decide) ?_
                  refine q_iload_n rfl rfl ?_
                  refine q_iload_n rfl rfl ?_
                  refine v_ic_ne_f (t := 23) rfl (by decide) (by decide) ?_
                  refine q_iload rfl rfl ?_
                  refine q_iconst rfl ?_
                  refine v_idiv (v := (x1 / 2)) rfl (by omega) rfl ?_
                  refine q_goto (t := 25) rfl (by decide) ?_
                  refine q_iret rfl rfl ?_
                  refine bk_inl ?_
                  refine q_iload rfl rfl ?_
                  refine v_ic_gt_f (t := 147) rfl (by decide) (by omega) ?_
                  refine q_iconst rfl ?_
                  refine q_iload rfl rfl ?_
                  refine v_isub (v := 1) rfl (by decide) ?_
                  refine q_iload rfl rfl ?_
                  refine q_iload_n rfl rfl ?_
                  refine q_iload_n rfl rfl ?_
                  refine q_call rfl rfl rfl rfl ?_
                  refine q_iload_n rfl rfl ?_
                  refine v_if_ne_t (t := 8) rfl (by decide) (by decide) ?_
                  refine q_iload_n rfl rfl ?_
                  refine q_istore rfl (by decide) ?_
                  refine q_iload_n rfl rfl ?_
                  refine q_iload_n rfl rfl ?_
                  refine v_ic_ne_f (t := 23) rfl (by decide) (by decide) ?_
                  refine q_iload rfl rfl ?_
                  refine q_iconst rfl ?_
                  refine v_idiv (v := (x2 / 2)) rfl (by omega) rfl ?_
                  refine q_goto (t := 25) rfl (by decide) ?_
                  refine q_iret rfl rfl ?_
                  refine bk_inl ?_
                  refine q_iload rfl rfl ?_
                  refine v_ic_gt_t (t := 147) rfl (by decide) (by omega) ?_
                  refine v_iinc (v := 3) rfl rfl (by decide) (by decide) ?_
                  refine q_goto (t := 50) rfl (by decide) ?_
                  refine q_iload rfl rfl ?_
                  refine q_iconst rfl ?_
                  refine v_ic_ge_f (t := 153) rfl (by decide) (by decide) ?_
                  refine q_iload rfl rfl ?_
                  refine q_iconst rfl ?_
                  refine v_idiv (v := 1) rfl (by omega) (by decide) ?_
                  refine q_istore rfl (by decide) ?_
                  refine Wp_ls [(8, vi 1), (7, vi 3), (11, vi x1), (10, vi x2), (9, vi 0), (6, vi 0), (5, vi (-1)), (4, vi 0), (0, .ref 0), (1, vi x1), (2, vi x2), (3, vi x3)] (lsub_cons rfl (lsub_cons rfl (lsub_cons rfl (lsub_cons rfl (lsub_cons rfl (lsub_cons rfl (lsub_cons rfl (lsub_cons rfl (lsub_cons rfl (lsub_cons rfl (lsub_cons rfl (lsub_cons rfl lsub_nil)))))))))))) ?_
                  refine q_iload rfl rfl ?_
                  refine q_iconst rfl ?_
                  refine v_irem (v := 1) rfl (by omega) (by decide) ?_
                  refine q_istore rfl (by decide) ?_
                  refine q_iload rfl rfl ?_
                  refine q_iload rfl rfl ?_
                  refine q_iload_n rfl rfl ?_
                  refine q_iload_n rfl rfl ?_
                  refine q_call rfl rfl rfl rfl ?_
                  refine q_iload_n rfl rfl ?_
                  refine v_if_ne_t (t := 8) rfl (by decide) (by decide) ?_
                  refine q_iload_n rfl rfl ?_
                  refine q_istore rfl (by decide) ?_
                  refine q_iload_n rfl rfl ?_
                  refine q_iload_n rfl rfl ?_
                  refine v_ic_ne_f (t := 23) rfl (by decide) (by decide) ?_
                  refine q_iload rfl rfl ?_
                  refine q_iconst rfl ?_
                  refine v_idiv (v := (x2 / 2)) rfl (by omega) rfl ?_
                  refine q_goto (t := 25) rfl (by decide) ?_
                  refine q_iret rfl rfl ?_
                  refine bk_inl ?_
                  refine q_istore rfl (by decide) ?_
                  refine q_iload rfl rfl ?_
                  refine q_iload rfl rfl ?_
                  refine q_iload_n rfl rfl ?_
                  refine q_iload_n rfl rfl ?_
                  refine q_call rfl rfl rfl rfl ?_
                  refine q_iload_n rfl rfl ?_
                  refine v_if_ne_t (t := 8) rfl (by decide) (by decide) ?_
                  refine q_iload_n rfl rfl ?_
                  refine q_istore rfl (by decide) ?_
                  refine q_iload_n rfl rfl ?_
                  refine q_iload_n rfl rfl ?_
                  refine v_ic_ne_f (t := 23) rfl (by decide) (by decide) ?_
                  refine q_iload rfl rfl ?_
                  refine q_iconst rfl ?_
                  refine v_idiv (v := (x2 / 2)) rfl (by omega) rfl ?_
                  refine q_goto (t := 25) rfl (by decide) ?_
                  refine q_iret rfl rfl ?_
                  refine bk_inl ?_
                  refine q_istore rfl (by decide) ?_
                  refine q_iconst rfl ?_
                  refine q_iload rfl rfl ?_
                  refine v_isub (v := 0) rfl (by decide) ?_
                  refine q_iload rfl rfl ?_
                  refine q_iload_n rfl rfl ?_
                  refine q_iload_n rfl rfl ?_
                  refine q_call rfl rfl rfl rfl ?_
                  refine q_iload_n rfl rfl ?_
                  refine v_if_ne_f (t := 8) rfl (by decide) (by decide) ?_
                  refine q_iload_n rfl rfl ?_
                  refine q_goto (t := 9) rfl (by decide) ?_
                  refine q_istore rfl (by decide) ?_
                  refine q_iload_n rfl rfl ?_
                  refine q_iload_n rfl rfl ?_
                  refine v_ic_ne_t (t := 23) rfl (by decide) (by decide) ?_
                  refine q_iload rfl rfl ?_
                  refine q_iret rfl rfl ?_
                  refine bk_inl ?_
                  refine q_iload rfl rfl ?_
                  refine v_ic_gt_f (t := 147) rfl (by decide) (by omega) ?_
                  refine q_iconst rfl ?_
                  refine q_iload rfl rfl ?_
                  refine v_isub (v := 0) rfl (by decide) ?_
                  refine q_iload rfl rfl ?_
                  refine q_iload_n rfl rfl ?_
                  refine q_iload_n rfl rfl ?_
                  refine q_call rfl rfl rfl rfl ?_
                  refine q_iload_n rfl rfl ?_
                  refine v_if_ne_f (t := 8) rfl (by decide) (by decide) ?_
                  refine q_iload_n rfl rfl ?_
                  refine q_goto (t := 9) rfl (by decide) ?_
                  refine q_istore rfl (by decide) ?_
                  refine q_iload_n rfl rfl ?_
                  refine q_iload_n rfl rfl ?_
                  refine v_ic_ne_t (t := 23) rfl (by decide) (by decide) ?_
                  refine q_iload rfl rfl ?_
                  refine q_iret rfl rfl ?_
                  refine bk_inl ?_
                  refine q_iload rfl rfl ?_
                  refine v_ic_gt_f (t := 147) rfl (by decide) (by omega) ?_
                  refine q_iload rfl rfl ?_
                  refine v_if_ne_f (t := 144) rfl (by decide) (by decide) ?_
                  refine v_bip rfl (by decide) ?_
                  refine q_iload rfl rfl ?_
                  refine v_imul (v := 10) rfl (by decide) ?_
                  refine q_iload rfl rfl ?_
                  refine v_iadd (v := 11) rfl (by decide) ?_
                  refine q_istore rfl (by decide) ?_
                  refine q_iload rfl rfl ?_
                  refine q_iload rfl rfl ?_
                  refine v_iadd (v := 2 * (x2 / 2)) rfl (by omega) ?_
                  refine q_istore rfl (by decide) ?_
                  refine Wp_ls [(6, vi (2 * (x2 / 2))), (5, vi 11), (11, vi (x2 / 2)), (10, vi (x2 / 2)), (9, vi 1), (8, vi 1), (7, vi 3), (4, vi 0), (0, .ref 0), (1, vi x1), (2, vi x2), (3, vi x3)] (lsub_cons rfl (lsub_cons rfl (lsub_cons rfl (lsub_cons rfl (lsub_cons rfl (lsub_cons rfl (lsub_cons rfl (lsub_cons rfl (lsub_cons rfl (lsub_cons rfl (lsub_cons rfl (lsub_cons rfl lsub_nil)))))))))))) ?_
                  refine v_iinc (v := 1) rfl rfl (by decide) (by decide) ?_
                  refine v_iinc (v := 4) rfl rfl (by decide) (by decide) ?_
                  refine q_goto (t := 50) rfl (by decide) ?_
                  refine q_iload rfl rfl ?_
                  refine q_iconst rfl ?_
                  refine v_ic_ge_t (t := 153) rfl (by decide) (by decide) ?_
                  refine q_iload_n rfl rfl ?_
                  by_cases h_9 : x3 = 0
                  · refine v_lsw (t := 180) (off := 26) 0 rfl (by omega) (by decide) (by decide) (by decide) (by decide) ?_
                    refine q_iload rfl rfl ?_
                    refine q_iret rfl rfl ?_
                    refine bk_inl ?_
                    refine v_i2l rfl (by omega) ?_
                    refine v_ls rfl rfl (by decide) (by decide) (by decide) ?_
                    refine q_goto (t := 19) rfl (by decide) ?_
                    refine q_iconst rfl ?_
                    refine q_iret rfl rfl ?_
                    refine bk_inl ?_
                    refine q_istore rfl (by decide) ?_
                    refine q_aload_n rfl rfl ?_
                    refine q_aload_n rfl rfl ?_
                    refine q_iload rfl rfl ?_
                    refine q_iconst rfl ?_
                    refine v_iadd (v := (i0 : Int) + 1) rfl (by omega) ?_
                    refine v_scr (j := i0 + 1) rfl (by omega) (by omega) hL hx1 ?_
                    refine q_aload_n rfl rfl ?_
                    refine q_iload rfl rfl ?_
                    refine q_iconst rfl ?_
                    refine v_iadd (v := (i0 : Int) + 2) rfl (by omega) ?_
                    refine v_scr (j := i0 + 2) rfl (by omega) (by omega) hL hx2 ?_
                    refine q_aload_n rfl rfl ?_
                    refine q_iload rfl rfl ?_
                    refine q_iconst rfl ?_
                    refine v_iadd (v := (i0 : Int) + 3) rfl (by omega) ?_
                    refine v_scr (j := i0 + 3) rfl (by omega) (by omega) hL hx3 ?_
                    refine v_cv rfl rfl rfl rfl (by decide) ⟨⟨rfl, rfl⟩, by decide, rfl⟩ (Nat.le_of_ble_eq_true rfl) (Nat.le_of_ble_eq_true rfl) ?_
                    refine q_aload_n rfl rfl ?_
                    refine q_iconst rfl ?_
                    refine v_pi (z := 0) rfl rfl rfl (by decide) rfl rfl rfl (by decide) ?_
                    refine q_aload_n rfl rfl ?_
                    refine q_iload_n rfl rfl ?_
                    refine q_iconst rfl ?_
                    refine v_bip rfl (by decide) ?_
                    refine q_call rfl rfl rfl rfl ?_
                    refine q_iload_n rfl rfl ?_
                    refine q_iload_n rfl rfl ?_
                    refine v_ic_lt_f (t := 14) rfl (by decide) (by omega) ?_
                    refine q_iload_n rfl rfl ?_
                    refine q_iload_n rfl rfl ?_
                    refine v_ic_gt_f (t := 14) rfl (by decide) (by omega) ?_
                    refine q_iconst rfl ?_
                    refine q_goto (t := 15) rfl (by decide) ?_
                    refine v_zret rfl rfl (by omega) ?_
                    refine bk_inl ?_
                    refine v_if_eq_f (t := 39) rfl (by decide) (by decide) ?_
                    refine q_iload_n rfl rfl ?_
                    refine q_iconst rfl ?_
                    refine v_bip rfl (by decide) ?_
                    refine q_call rfl rfl rfl rfl ?_
                    refine q_iload_n rfl rfl ?_
                    refine q_iload_n rfl rfl ?_
                    refine v_ic_lt_f (t := 14) rfl (by decide) (by omega) ?_
                    refine q_iload_n rfl rfl ?_
                    refine q_iload_n rfl rfl ?_
                    refine v_ic_gt_f (t := 14) rfl (by decide) (by omega) ?_
                    refine q_iconst rfl ?_
                    refine q_goto (t := 15) rfl (by decide) ?_
                    refine v_zret rfl rfl (by omega) ?_
                    refine bk_inl ?_
                    refine v_if_eq_f (t := 39) rfl (by decide) (by decide) ?_
                    refine q_iload_n rfl rfl ?_
                    refine q_iconst rfl ?_
                    refine q_iconst rfl ?_
                    refine q_call rfl rfl rfl rfl ?_
                    refine q_iload_n rfl rfl ?_
                    refine q_iload_n rfl rfl ?_
                    refine v_ic_lt_f (t := 14) rfl (by decide) (by omega) ?_
                    refine q_iload_n rfl rfl ?_
                    refine q_iload_n rfl rfl ?_
                    refine v_ic_gt_f (t := 14) rfl (by decide) (by omega) ?_
                    refine q_iconst rfl ?_
                    refine q_goto (t := 15) rfl (by decide) ?_
                    refine v_zret rfl rfl (by omega) ?_
                    refine bk_inl ?_
                    refine v_if_eq_f (t := 39) rfl (by decide) (by decide) ?_
                    refine q_iconst rfl ?_
                    refine q_goto (t := 40) rfl (by decide) ?_
                    refine q_iconst rfl ?_
                    refine q_iconst rfl ?_
                    refine v_cv rfl rfl rfl rfl (by decide) ⟨⟨rfl, rfl⟩, by decide, rfl⟩ (Nat.le_of_ble_eq_true rfl) (Nat.le_of_ble_eq_true rfl) ?_
                    refine q_iload_n rfl rfl ?_
                    refine v_if_ne_t (t := 26) rfl (by decide) (by decide) ?_
                    refine q_aload_n rfl rfl ?_
                    refine v_gi (z := 0) (v := 0) rfl rfl rfl (by decide) rfl rfl (up_e rfl) ?_
                    refine v_if_ne_f (t := 37) rfl (by decide) (by decide) ?_
                    refine q_iconst rfl ?_
                    refine q_goto (t := 38) rfl (by decide) ?_
                    refine v_zret rfl rfl (by omega) ?_
                    refine bk_inl ?_
                    refine v_if_ne_t (t := 50) rfl (by decide) (by decide) ?_
                    refine q_iconst rfl ?_
                    refine q_istore rfl (by decide) ?_
                    refine q_iconst rfl ?_
                    refine q_istore rfl (by decide) ?_
                    refine q_iconst rfl ?_
                    refine q_istore rfl (by decide) ?_
                    refine q_iload rfl rfl ?_
                    refine q_iconst rfl ?_
                    refine v_ic_ge_f (t := 156) rfl (by decide) (by decide) ?_
                    refine q_iload rfl rfl ?_
                    refine q_iconst rfl ?_
                    refine v_idiv (v := 0) rfl (by omega) (by decide) ?_
                    refine q_istore rfl (by decide) ?_
                    refine q_iload rfl rfl ?_
                    refine q_iconst rfl ?_
                    refine v_irem (v := 0) rfl (by omega) (by decide) ?_
                    refine q_istore rfl (by decide) ?_
                    refine Wp_ls [(8, vi 0), (7, vi 0), (6, vi 0), (5, vi (-1)), (4, vi 0), (0, .ref 41), (1, vi x1), (2, vi x2), (3, vi x3)] (lsub_cons rfl (lsub_cons rfl (lsub_cons rfl (lsub_cons rfl (lsub_cons rfl (lsub_cons rfl (lsub_cons rfl (lsub_cons rfl (lsub_cons rfl lsub_nil))))))))) ?_
                    refine q_iconst rfl ?_
                    refine q_iload rfl rfl ?_
                    refine v_isub (v := 1) rfl (by decide) ?_
                    refine q_iload rfl rfl ?_
                    refine q_iload_n rfl rfl ?_
                    refine q_iload_n rfl rfl ?_
                    refine q_call rfl rfl rfl rfl ?_
                    refine q_iload_n rfl rfl ?_
                    refine v_if_ne_t (t := 18) rfl (by decide) (by decide) ?_
                    refine q_iload_n rfl rfl ?_
                    refine q_iconst rfl ?_
                    refine v_ic_ne_t (t := 29) rfl (by decide) (by decide) ?_
                    refine q_iload_n rfl rfl ?_
                    refine q_iret rfl rfl ?_
                    refine bk_inl ?_
                    refine q_iload rfl rfl ?_
                    refine q_iload rfl rfl ?_
                    refine q_iload_n rfl rfl ?_
                    refine q_iload_n rfl rfl ?_
                    refine q_call rfl rfl rfl rfl ?_
                    refine q_iload_n rfl rfl ?_
                    refine v_if_ne_f (t := 18) rfl (by decide) (by decide) ?_
                    refine q_iload_n rfl rfl ?_
                    refine v_if_ne_f (t := 14) rfl (by decide) (by decide) ?_
                    refine q_iload_n rfl rfl ?_
                    refine q_iconst rfl ?_
                    refine v_idiv (v := (x1 / 2)) rfl (by omega) rfl ?_
                    refine q_goto (t := 30) rfl (by decide) ?_
                    refine q_iret rfl rfl ?_
                    refine bk_inl ?_
                    refine v_ic_gt_t (t := 150) rfl (by decide) (by omega) ?_
                    refine v_iinc (v := 1) rfl rfl (by decide) (by decide) ?_
                    refine q_goto (t := 59) rfl (by decide) ?_
                    refine q_iload rfl rfl ?_
                    refine q_iconst rfl ?_
                    refine v_ic_ge_f (t := 156) rfl (by decide) (by decide) ?_
                    refine q_iload rfl rfl ?_
                    refine q_iconst rfl ?_
                    refine v_idiv (v := 0) rfl (by omega) (by decide) ?_
                    refine q_istore rfl (by decide) ?_
                    refine q_iload rfl rfl ?_
                    refine q_iconst rfl ?_
                    refine v_irem (v := 1) rfl (by omega) (by decide) ?_
                    refine q_istore rfl (by decide) ?_
                    refine q_iconst rfl ?_
                    refine q_iload rfl rfl ?_
                    refine v_isub (v := 1) rfl (by decide) ?_
                    refine q_iload rfl rfl ?_
                    refine q_iload_n rfl rfl ?_
                    refine q_iload_n rfl rfl ?_
                    refine q_call rfl rfl rfl rfl ?_
                    refine q_iload_n rfl rfl ?_
                    refine v_if_ne_t (t := 18) rfl (by decide) (by decide) ?_
                    refine q_iload_n rfl rfl ?_
                    refine q_iconst rfl ?_
                    refine v_ic_ne_f (t := 29) rfl (by decide) (by decide) ?_
                    refine q_iload_n rfl rfl ?_
                    refine q_iconst rfl ?_
                    refine v_idiv (v := (x2 / 2)) rfl (by omega) rfl ?_
                    refine q_goto (t := 30) rfl (by decide) ?_
                    refine q_iret rfl rfl ?_
                    refine bk_inl ?_
                    refine q_iload rfl rfl ?_
                    refine q_iload rfl rfl ?_
                    refine q_iload_n rfl rfl ?_
                    refine q_iload_n rfl rfl ?_
                    refine q_call rfl rfl rfl rfl ?_
                    refine q_iload_n rfl rfl ?_
                    refine v_if_ne_f (t := 18) rfl (by decide) (by decide) ?_
                    refine q_iload_n rfl rfl ?_
                    refine v_if_ne_t (t := 14) rfl (by decide) (by decide) ?_
                    refine q_iload_n rfl rfl ?_
                    refine q_goto (t := 30) rfl (by decide) ?_
                    refine q_iret rfl rfl ?_
                    refine bk_inl ?_
                    refine v_ic_gt_t (t := 150) rfl (by decide) (by omega) ?_
                    refine v_iinc (v := 2) rfl rfl (by decide) (by decide) ?_
                    refine q_goto (t := 59) rfl (by decide) ?_
                    refine q_iload rfl rfl ?_
                    refine q_iconst rfl ?_
                    refine v_ic_ge_f (t := 156) rfl (by decide) (by decide) ?_
                    refine q_iload rfl rfl ?_
                    refine q_iconst rfl ?_
                    refine v_idiv (v := 1) rfl (by omega) (by decide) ?_
                    refine q_istore rfl (by decide) ?_
                    refine Wp_ls [(7, vi 1), (6, vi 2), (8, vi 1), (5, vi (-1)), (4, vi 0), (0, .ref 41), (1, vi x1), (2, vi x2), (3, vi x3)] (lsub_cons rfl (lsub_cons rfl (lsub_cons rfl (lsub_cons rfl (lsub_cons rfl (lsub_cons rfl (lsub_cons rfl (lsub_cons rfl (lsub_cons rfl lsub_nil))))))))) ?_
                    refine q_iload rfl rfl ?_
                    refine q_iconst rfl ?_
                    refine v_irem (v := 0) rfl (by omega) (by decide) ?_
                    refine q_istore rfl (by decide) ?_
                    refine q_iconst rfl ?_
                    refine q_iload rfl rfl ?_
                    refine v_isub (v := 0) rfl (by decide) ?_
                    refine q_iload rfl rfl ?_
                    refine q_iload_n rfl rfl ?_
                    refine q_iload_n rfl rfl ?_
                    refine q_call rfl rfl rfl rfl ?_
                    refine q_iload_n rfl rfl ?_
                    refine v_if_ne_f (t := 18) rfl (by decide) (by decide) ?_
                    refine q_iload_n rfl rfl ?_
                    refine v_if_ne_f (t := 14) rfl (by decide) (by decide) ?_
                    refine q_iload_n rfl rfl ?_
                    refine q_iconst rfl ?_
                    refine v_idiv (v := (x1 / 2)) rfl (by omega) rfl ?_
                    refine q_goto (t := 30) rfl (by decide) ?_
                    refine q_iret rfl rfl ?_
                    refine bk_inl ?_
                    refine q_iload rfl rfl ?_
                    refine q_iload rfl rfl ?_
                    refine q_iload_n rfl rfl ?_
                    refine q_iload_n rfl rfl ?_
                    refine q_call rfl rfl rfl rfl ?_
                    refine q_iload_n rfl rfl ?_
                    refine v_if_ne_t (t := 18) rfl (by decide) (by decide) ?_
                    refine q_iload_n rfl rfl ?_
                    refine q_iconst rfl ?_
                    refine v_ic_ne_t (t := 29) rfl (by decide) (by decide) ?_
                    refine q_iload_n rfl rfl ?_
                    refine q_iret rfl rfl ?_
                    refine bk_inl ?_
                    refine v_ic_gt_f (t := 150) rfl (by decide) (by omega) ?_
                    refine q_iconst rfl ?_
                    refine q_iload rfl rfl ?_
                    refine v_isub (v := 1) rfl (by decide) ?_
                    refine q_iload rfl rfl ?_
                    refine q_iload_n rfl rfl ?_
                    refine q_iload_n rfl rfl ?_
                    refine q_call rfl rfl rfl rfl ?_
                    refine q_iload_n rfl rfl ?_
                    refine v_if_ne_t (t := 18) rfl (by decide) (by decide) ?_
                    refine q_iload_n rfl rfl ?_
                    refine q_iconst rfl ?_
                    refine v_ic_ne_f (t := 29) rfl (by decide) (by decide) ?_
                    refine q_iload_n rfl rfl ?_
                    refine q_iconst rfl ?_
                    refine v_idiv (v := (x2 / 2)) rfl (by omega) rfl ?_
                    refine q_goto (t := 30) rfl (by decide) ?_
                    refine q_iret rfl rfl ?_
                    refine bk_inl ?_
                    refine q_iload rfl rfl ?_
                    refine q_iload rfl rfl ?_
                    refine q_iload_n rfl rfl ?_
                    refine q_iload_n rfl rfl ?_
                    refine q_call rfl rfl rfl rfl ?_
                    refine q_iload_n rfl rfl ?_
                    refine v_if_ne_f (t := 18) rfl (by decide) (by decide) ?_
                    refine q_iload_n rfl rfl ?_
                    refine v_if_ne_t (t := 14) rfl (by decide) (by decide) ?_
                    refine q_iload_n rfl rfl ?_
                    refine q_goto (t := 30) rfl (by decide) ?_
                    refine q_iret rfl rfl ?_
                    refine bk_inl ?_
                    refine v_ic_le_f (t := 126) rfl (by decide) (by omega) ?_
                    refine q_goto (t := 150) rfl (by decide) ?_
                    refine v_iinc (v := 3) rfl rfl (by decide) (by decide) ?_
                    refine q_goto (t := 59) rfl (by decide) ?_
                    refine q_iload rfl rfl ?_
                    refine q_iconst rfl ?_
                    refine v_ic_ge_f (t := 156) rfl (by decide) (by decide) ?_
                    refine q_iload rfl rfl ?_
                    refine q_iconst rfl ?_
                    refine v_idiv (v := 1) rfl (by omega) (by decide) ?_
                    refine q_istore rfl (by decide) ?_
                    refine q_iload rfl rfl ?_
                    refine q_iconst rfl ?_
                    refine v_irem (v := 1) rfl (by omega) (by decide) ?_
                    refine q_istore rfl (by decide) ?_
                    refine q_iconst rfl ?_
                    refine q_iload rfl rfl ?_
                    refine v_isub (v := 0) rfl (by decide) ?_
                    refine q_iload rfl rfl ?_
                    refine q_iload_n rfl rfl ?_
                    refine q_iload_n rfl rfl ?_
                    refine q_call rfl rfl rfl rfl ?_
                    refine q_iload_n rfl rfl ?_
                    refine v_if_ne_f (t := 18) rfl (by decide) (by decide) ?_
                    refine q_iload_n rfl rfl ?_
                    refine v_if_ne_t (t := 14) rfl (by decide) (by decide) ?_
                    refine q_iload_n rfl rfl ?_
                    refine q_goto (t := 30) rfl (by decide) ?_
                    refine q_iret rfl rfl ?_
                    refine bk_inl ?_
                    refine q_iload rfl rfl ?_
                    refine q_iload rfl rfl ?_
                    refine q_iload_n rfl rfl ?_
                    refine q_iload_n rfl rfl ?_
                    refine q_call rfl rfl rfl rfl ?_
                    refine q_iload_n rfl rfl ?_
                    refine v_if_ne_t (t := 18) rfl (by decide) (by decide) ?_
                    refine q_iload_n rfl rfl ?_
                    refine q_iconst rfl ?_
                    refine v_ic_ne_f (t := 29) rfl (by decide) (by decide) ?_
                    refine q_iload_n rfl rfl ?_
                    refine q_iconst rfl ?_
                    refine v_idiv (v := (x2 / 2)) rfl (by omega) rfl ?_
                    refine q_goto (t := 30) rfl (by decide) ?_
                    refine q_iret rfl rfl ?_
                    refine bk_inl ?_
                    refine v_ic_gt_f (t := 150) rfl (by decide) (by omega) ?_
                    refine q_iconst rfl ?_
                    refine q_iload rfl rfl ?_
                    refine v_isub (v := 0) rfl (by decide) ?_
                    refine q_iload rfl rfl ?_
                    refine q_iload_n rfl rfl ?_
                    refine q_iload_n rfl rfl ?_
                    refine q_call rfl rfl rfl rfl ?_
                    refine q_iload_n rfl rfl ?_
                    refine v_if_ne_f (t := 18) rfl (by decide) (by decide) ?_
                    refine q_iload_n rfl rfl ?_
                    refine v_if_ne_t (t := 14) rfl (by decide) (by decide) ?_
                    refine q_iload_n rfl rfl ?_
                    refine q_goto (t := 30) rfl (by decide) ?_
                    refine q_iret rfl rfl ?_
                    refine bk_inl ?_
                    refine q_iload rfl rfl ?_
                    refine q_iload rfl rfl ?_
                    refine q_iload_n rfl rfl ?_
                    refine q_iload_n rfl rfl ?_
                    refine q_call rfl rfl rfl rfl ?_
                    refine q_iload_n rfl rfl ?_
                    refine v_if_ne_t (t := 18) rfl (by decide) (by decide) ?_
                    refine q_iload_n rfl rfl ?_
                    refine q_iconst rfl ?_
                    refine v_ic_ne_f (t := 29) rfl (by decide) (by decide) ?_
                    refine q_iload_n rfl rfl ?_
                    refine q_iconst rfl ?_
                    refine v_idiv (v := (x2 / 2)) rfl (by omega) rfl ?_
                    refine q_goto (t := 30) rfl (by decide) ?_
                    refine q_iret rfl rfl ?_
                    refine bk_inl ?_
                    refine v_ic_le_t (t := 126) rfl (by decide) (by omega) ?_
                    refine v_iinc (v := 1) rfl rfl (by decide) (by decide) ?_
                    refine Wp_ls [(4, vi 1), (8, vi 1), (7, vi 1), (6, vi 3), (5, vi (-1)), (0, .ref 41), (1, vi x1), (2, vi x2), (3, vi x3)] (lsub_cons rfl (lsub_cons rfl (lsub_cons rfl (lsub_cons rfl (lsub_cons rfl (lsub_cons rfl (lsub_cons rfl (lsub_cons rfl (lsub_cons rfl lsub_nil))))))))) ?_
                    refine q_iload rfl rfl ?_
                    refine q_iconst rfl ?_
                    refine v_ic_ne_f (t := 146) rfl (by decide) (by decide) ?_
                    refine v_bip rfl (by decide) ?_
                    refine q_iload rfl rfl ?_
                    refine v_imul (v := 10) rfl (by decide) ?_
                    refine q_iload rfl rfl ?_
                    refine v_iadd (v := 11) rfl (by decide) ?_
                    refine q_goto (t := 148) rfl (by decide) ?_
                    refine q_istore rfl (by decide) ?_
                    refine v_iinc (v := 4) rfl rfl (by decide) (by decide) ?_
                    refine q_goto (t := 59) rfl (by decide) ?_
                    refine q_iload rfl rfl ?_
                    refine q_iconst rfl ?_
                    refine v_ic_ge_t (t := 156) rfl (by decide) (by decide) ?_
                    refine q_iload_n rfl rfl ?_
                    refine v_if_ne_f (t := 165) rfl (by decide) (by omega) ?_
                    refine q_iload rfl rfl ?_
                    refine q_goto (t := 216) rfl (by decide) ?_
                    refine q_iret rfl rfl ?_
                    refine bk_inl ?_
                    refine q_istore rfl (by decide) ?_
                    refine q_aload_n rfl rfl ?_
                    refine v_cv rfl rfl rfl rfl (by decide) ⟨⟨rfl, rfl⟩, by decide, rfl⟩ (Nat.le_of_ble_eq_true rfl) (Nat.le_of_ble_eq_true rfl) ?_
                    refine q_aload_n rfl rfl ?_
                    refine v_gi (z := 0) (v := 0) rfl rfl rfl (by decide) rfl rfl (up_e rfl) ?_
                    refine q_iret rfl rfl ?_
                    refine bk_inl ?_
                    refine q_iload rfl rfl ?_
                    refine v_ic_eq_t (t := 1215) rfl (by decide) (by decide) ?_
                    refine q_iload rfl rfl ?_
                    refine v_if_ne_f (t := 1232) rfl (by decide) (by decide) ?_
                    refine q_aload_n rfl rfl ?_
                    refine q_iconst rfl ?_
                    refine v_la (v := 1) rfl rfl (by decide) (by decide) (by decide) ((up_c (by decide)).trans (up_e rfl)) ?_
                    refine q_iload rfl rfl ?_
                    refine v_i2l rfl (by omega) ?_
                    refine v_lcmp0 rfl (by omega) ?_
                    refine v_if_eq_t (t := 1232) rfl (by decide) (by decide) ?_
                    refine q_goto (t := 1844) rfl (by decide) ?_
                    refine Wp_ls [(4, vi (i0 : Int)), (3, .ref 67), (2, .ref 41), (1, .ref 0), (0, .ref a_SC)] (lsub_cons rfl (lsub_cons rfl (lsub_cons rfl (lsub_cons rfl (lsub_cons rfl lsub_nil))))) ?_
                    refine K (up (up c 67 0 1) 41 0 0) 0 (by decide) ?_ ?_ ?_
                    · intro a j h
                      exact ((up_b (by omega)).trans (up_b (by omega)))
                    · exact Eq.trans (b := c 0 13) ((up_c (by decide)).trans (up_c (by decide))) (show _ = c 0 13 + 0 by omega)
                    · exact Eq.trans (b := c 42 1) ((up_c (by decide)).trans (up_c (by decide))) (show _ = c 42 1 + 0 by omega)
                  by_cases h_10 : x3 = 1
                  · refine v_lsw (t := 183) (off := 29) 1 rfl (by omega) (by decide) (by decide) (by decide) (by decide) ?_
                    refine q_iload rfl rfl ?_
                    refine q_iret rfl rfl ?_
                    refine bk_inl ?_
                    refine v_i2l rfl (by omega) ?_
                    refine v_ls rfl rfl (by decide) (by decide) (by decide) ?_
                    refine q_goto (t := 19) rfl (by decide) ?_
                    refine q_iconst rfl ?_
                    refine q_iret rfl rfl ?_
                    refine bk_inl ?_
                    refine q_istore rfl (by decide) ?_
                    refine q_aload_n rfl rfl ?_
                    refine q_aload_n rfl rfl ?_
                    refine q_iload rfl rfl ?_
                    refine q_iconst rfl ?_
                    refine v_iadd (v := (i0 : Int) + 1) rfl (by omega) ?_
                    refine v_scr (j := i0 + 1) rfl (by omega) (by omega) hL hx1 ?_
                    refine q_aload_n rfl rfl ?_
                    refine q_iload rfl rfl ?_
                    refine q_iconst rfl ?_
                    refine v_iadd (v := (i0 : Int) + 2) rfl (by omega) ?_
                    refine v_scr (j := i0 + 2) rfl (by omega) (by omega) hL hx2 ?_
                    refine q_aload_n rfl rfl ?_
                    refine q_iload rfl rfl ?_
                    refine q_iconst rfl ?_
                    refine v_iadd (v := (i0 : Int) + 3) rfl (by omega) ?_
                    refine v_scr (j := i0 + 3) rfl (by omega) (by omega) hL hx3 ?_
                    refine v_cv rfl rfl rfl rfl (by decide) ⟨⟨rfl, rfl⟩, by decide, rfl⟩ (Nat.le_of_ble_eq_true rfl) (Nat.le_of_ble_eq_true rfl) ?_
                    refine q_aload_n rfl rfl ?_
                    refine q_iconst rfl ?_
                    refine v_pi (z := 0) rfl rfl rfl (by decide) rfl rfl rfl (by decide) ?_
                    refine q_aload_n rfl rfl ?_
                    refine q_iload_n rfl rfl ?_
                    refine q_iconst rfl ?_
                    refine v_bip rfl (by decide) ?_
                    refine q_call rfl rfl rfl rfl ?_
                    refine q_iload_n rfl rfl ?_
                    refine q_iload_n rfl rfl ?_
                    refine v_ic_lt_f (t := 14) rfl (by decide) (by omega) ?_
                    refine q_iload_n rfl rfl ?_
                    refine q_iload_n rfl rfl ?_
                    refine v_ic_gt_f (t := 14) rfl (by decide) (by omega) ?_
                    refine q_iconst rfl ?_
                    refine q_goto (t := 15) rfl (by decide) ?_
                    refine v_zret rfl rfl (by omega) ?_
                    refine bk_inl ?_
                    refine v_if_eq_f (t := 39) rfl (by decide) (by decide) ?_
                    refine q_iload_n rfl rfl ?_
                    refine q_iconst rfl ?_
                    refine v_bip rfl (by decide) ?_
                    refine q_call rfl rfl rfl rfl ?_
                    refine q_iload_n rfl rfl ?_
                    refine q_iload_n rfl rfl ?_
                    refine v_ic_lt_f (t := 14) rfl (by decide) (by omega) ?_
                    refine q_iload_n rfl rfl ?_
                    refine q_iload_n rfl rfl ?_
                    refine v_ic_gt_f (t := 14) rfl (by decide) (by omega) ?_
                    refine q_iconst rfl ?_
                    refine q_goto (t := 15) rfl (by decide) ?_
                    refine v_zret rfl rfl (by omega) ?_
                    refine bk_inl ?_
                    refine v_if_eq_f (t := 39) rfl (by decide) (by decide) ?_
                    refine q_iload_n rfl rfl ?_
                    refine q_iconst rfl ?_
                    refine q_iconst rfl ?_
                    refine q_call rfl rfl rfl rfl ?_
                    refine q_iload_n rfl rfl ?_
                    refine q_iload_n rfl rfl ?_
                    refine v_ic_lt_f (t := 14) rfl (by decide) (by omega) ?_
                    refine q_iload_n rfl rfl ?_
                    refine q_iload_n rfl rfl ?_
                    refine v_ic_gt_f (t := 14) rfl (by decide) (by omega) ?_
                    refine q_iconst rfl ?_
                    refine q_goto (t := 15) rfl (by decide) ?_
                    refine v_zret rfl rfl (by omega) ?_
                    refine bk_inl ?_
                    refine v_if_eq_f (t := 39) rfl (by decide) (by decide) ?_
                    refine q_iconst rfl ?_
                    refine q_goto (t := 40) rfl (by decide) ?_
                    refine q_iconst rfl ?_
                    refine q_iconst rfl ?_
                    refine v_cv rfl rfl rfl rfl (by decide) ⟨⟨rfl, rfl⟩, by decide, rfl⟩ (Nat.le_of_ble_eq_true rfl) (Nat.le_of_ble_eq_true rfl) ?_
                    refine q_iload_n rfl rfl ?_
                    refine v_if_ne_t (t := 26) rfl (by decide) (by decide) ?_
                    refine q_aload_n rfl rfl ?_
                    refine v_gi (z := 0) (v := 0) rfl rfl rfl (by decide) rfl rfl (up_e rfl) ?_
                    refine v_if_ne_f (t := 37) rfl (by decide) (by decide) ?_
                    refine q_iconst rfl ?_
                    refine q_goto (t := 38) rfl (by decide) ?_
                    refine v_zret rfl rfl (by omega) ?_
                    refine bk_inl ?_
                    refine v_if_ne_t (t := 50) rfl (by decide) (by decide) ?_
                    refine q_iconst rfl ?_
                    refine q_istore rfl (by decide) ?_
                    refine q_iconst rfl ?_
                    refine q_istore rfl (by decide) ?_
                    refine q_iconst rfl ?_
                    refine q_istore rfl (by decide) ?_
                    refine q_iload rfl rfl ?_
                    refine q_iconst rfl ?_
                    refine v_ic_ge_f (t := 156) rfl (by decide) (by decide) ?_
                    refine q_iload rfl rfl ?_
                    refine q_iconst rfl ?_
                    refine v_idiv (v := 0) rfl (by omega) (by decide) ?_
                    refine q_istore rfl (by decide) ?_
                    refine q_iload rfl rfl ?_
                    refine q_iconst rfl ?_
                    refine v_irem (v := 0) rfl (by omega) (by decide) ?_
                    refine q_istore rfl (by decide) ?_
                    refine Wp_ls [(8, vi 0), (7, vi 0), (6, vi 0), (5, vi (-1)), (4, vi 0), (0, .ref 41), (1, vi x1), (2, vi x2), (3, vi x3)] (lsub_cons rfl (lsub_cons rfl (lsub_cons rfl (lsub_cons rfl (lsub_cons rfl (lsub_cons rfl (lsub_cons rfl (lsub_cons rfl (lsub_cons rfl lsub_nil))))))))) ?_
                    refine q_iconst rfl ?_
                    refine q_iload rfl rfl ?_
                    refine v_isub (v := 1) rfl (by decide) ?_
                    refine q_iload rfl rfl ?_
                    refine q_iload_n rfl rfl ?_
                    refine q_iload_n rfl rfl ?_
                    refine q_call rfl rfl rfl rfl ?_
                    refine q_iload_n rfl rfl ?_
                    refine v_if_ne_t (t := 18) rfl (by decide) (by decide) ?_
                    refine q_iload_n rfl rfl ?_
                    refine q_iconst rfl ?_
                    refine v_ic_ne_t (t := 29) rfl (by decide) (by decide) ?_
                    refine q_iload_n rfl rfl ?_
                    refine q_iret rfl rfl ?_
                    refine bk_inl ?_
                    refine q_iload rfl rfl ?_
                    refine q_iload rfl rfl ?_
                    refine q_iload_n rfl rfl ?_
                    refine q_iload_n rfl rfl ?_
                    refine q_call rfl rfl rfl rfl ?_
                    refine q_iload_n rfl rfl ?_
                    refine v_if_ne_f (t := 18) rfl (by decide) (by decide) ?_
                    refine q_iload_n rfl rfl ?_
                    refine v_if_ne_f (t := 14) rfl (by decide) (by decide) ?_
                    refine q_iload_n rfl rfl ?_
                    refine q_iconst rfl ?_
                    refine v_idiv (v := (x1 / 2)) rfl (by omega) rfl ?_
                    refine q_goto (t := 30) rfl (by decide) ?_
                    refine q_iret rfl rfl ?_
                    refine bk_inl ?_
                    refine v_ic_gt_t (t := 150) rfl (by decide) (by omega) ?_
                    refine v_iinc (v := 1) rfl rfl (by decide) (by decide) ?_
                    refine q_goto (t := 59) rfl (by decide) ?_
                    refine q_iload rfl rfl ?_
                    refine q_iconst rfl ?_
                    refine v_ic_ge_f (t := 156) rfl (by decide) (by decide) ?_
                    refine q_iload rfl rfl ?_
                    refine q_iconst rfl ?_
                    refine v_idiv (v := 0) rfl (by omega) (by decide) ?_
                    refine q_istore rfl (by decide) ?_
                    refine q_iload rfl rfl ?_
                    refine q_iconst rfl ?_
                    refine v_irem (v := 1) rfl (by omega) (by decide) ?_
                    refine q_istore rfl (by decide) ?_
                    refine q_iconst rfl ?_
                    refine q_iload rfl rfl ?_
                    refine v_isub (v := 1) rfl (by decide) ?_
                    refine q_iload rfl rfl ?_
                    refine q_iload_n rfl rfl ?_
                    refine q_iload_n rfl rfl ?_
                    refine q_call rfl rfl rfl rfl ?_
                    refine q_iload_n rfl rfl ?_
                    refine v_if_ne_t (t := 18) rfl (by decide) (by decide) ?_
                    refine q_iload_n rfl rfl ?_
                    refine q_iconst rfl ?_
                    refine v_ic_ne_f (t := 29) rfl (by decide) (by decide) ?_
                    refine q_iload_n rfl rfl ?_
                    refine q_iconst rfl ?_
                    refine v_idiv (v := (x2 / 2)) rfl (by omega) rfl ?_
                    refine q_goto (t := 30) rfl (by decide) ?_
                    refine q_iret rfl rfl ?_
                    refine bk_inl ?_
                    refine q_iload rfl rfl ?_
                    refine q_iload rfl rfl ?_
                    refine q_iload_n rfl rfl ?_
                    refine q_iload_n rfl rfl ?_
                    refine q_call rfl rfl rfl rfl ?_
                    refine q_iload_n rfl rfl ?_
                    refine v_if_ne_f (t := 18) rfl (by decide) (by decide) ?_
                    refine q_iload_n rfl rfl ?_
                    refine v_if_ne_t (t := 14) rfl (by decide) (by decide) ?_
                    refine q_iload_n rfl rfl ?_
                    refine q_goto (t := 30) rfl (by decide) ?_
                    refine q_iret rfl rfl ?_
                    refine bk_inl ?_
                    refine v_ic_gt_t (t := 150) rfl (by decide) (by omega) ?_
                    refine v_iinc (v := 2) rfl rfl (by decide) (by decide) ?_
                    refine q_goto (t := 59) rfl (by decide) ?_
                    refine q_iload rfl rfl ?_
                    refine q_iconst rfl ?_
                    refine v_ic_ge_f (t := 156) rfl (by decide) (by decide) ?_
                    refine q_iload rfl rfl ?_
                    refine q_iconst rfl ?_
                    refine v_idiv (v := 1) rfl (by omega) (by decide) ?_
                    refine q_istore rfl (by decide) ?_
                    refine Wp_ls [(7, vi 1), (6, vi 2), (8, vi 1), (5, vi (-1)), (4, vi 0), (0, .ref 41), (1, vi x1), (2, vi x2), (3, vi x3)] (lsub_cons rfl (lsub_cons rfl (lsub_cons rfl (lsub_cons rfl (lsub_cons rfl (lsub_cons rfl (lsub_cons rfl (lsub_cons rfl (lsub_cons rfl lsub_nil))))))))) ?_
                    refine q_iload rfl rfl ?_
                    refine q_iconst rfl ?_
                    refine v_irem (v := 0) rfl (by omega) (by decide) ?_
                    refine q_istore rfl (by decide) ?_
                    refine q_iconst rfl ?_
                    refine q_iload rfl rfl ?_
                    refine v_isub (v := 0) rfl (by decide) ?_
                    refine q_iload rfl rfl ?_
                    refine q_iload_n rfl rfl ?_
                    refine q_iload_n rfl rfl ?_
                    refine q_call rfl rfl rfl rfl ?_
                    refine q_iload_n rfl rfl ?_
                    refine v_if_ne_f (t := 18) rfl (by decide) (by decide) ?_
                    refine q_iload_n rfl rfl ?_
                    refine v_if_ne_f (t := 14) rfl (by decide) (by decide) ?_
                    refine q_iload_n rfl rfl ?_
                    refine q_iconst rfl ?_
                    refine v_idiv (v := (x1 / 2)) rfl (by omega) rfl ?_
                    refine q_goto (t := 30) rfl (by decide) ?_
                    refine q_iret rfl rfl ?_
                    refine bk_inl ?_
                    refine q_iload rfl rfl ?_
                    refine q_iload rfl rfl ?_
                    refine q_iload_n rfl rfl ?_
                    refine q_iload_n rfl rfl ?_
                    refine q_call rfl rfl rfl rfl ?_
                    refine q_iload_n rfl rfl ?_
                    refine v_if_ne_t (t := 18) rfl (by decide) (by decide) ?_
                    refine q_iload_n rfl rfl ?_
                    refine q_iconst rfl ?_
                    refine v_ic_ne_t (t := 29) rfl (by decide) (by decide) ?_
                    refine q_iload_n rfl rfl ?_
                    refine q_iret rfl rfl ?_
                    refine bk_inl ?_
                    refine v_ic_gt_f (t := 150) rfl (by decide) (by omega) ?_
                    refine q_iconst rfl ?_
                    refine q_iload rfl rfl ?_
                    refine v_isub (v := 1) rfl (by decide) ?_
                    refine q_iload rfl rfl ?_
                    refine q_iload_n rfl rfl ?_
                    refine q_iload_n rfl rfl ?_
                    refine q_call rfl rfl rfl rfl ?_
                    refine q_iload_n rfl rfl ?_
                    refine v_if_ne_t (t := 18) rfl (by decide) (by decide) ?_
                    refine q_iload_n rfl rfl ?_
                    refine q_iconst rfl ?_
                    refine v_ic_ne_f (t := 29) rfl (by decide) (by decide) ?_
                    refine q_iload_n rfl rfl ?_
                    refine q_iconst rfl ?_
                    refine v_idiv (v := (x2 / 2)) rfl (by omega) rfl ?_
                    refine q_goto (t := 30) rfl (by decide) ?_
                    refine q_iret rfl rfl ?_
                    refine bk_inl ?_
                    refine q_iload rfl rfl ?_
                    refine q_iload rfl rfl ?_
                    refine q_iload_n rfl rfl ?_
                    refine q_iload_n rfl rfl ?_
                    refine q_call rfl rfl rfl rfl ?_
                    refine q_iload_n rfl rfl ?_
                    refine v_if_ne_f (t := 18) rfl (by decide) (by decide) ?_
                    refine q_iload_n rfl rfl ?_
                    refine v_if_ne_t (t := 14) rfl (by decide) (by decide) ?_
                    refine q_iload_n rfl rfl ?_
                    refine q_goto (t := 30) rfl (by decide) ?_
                    refine q_iret rfl rfl ?_
                    refine bk_inl ?_
                    refine v_ic_le_f (t := 126) rfl (by decide) (by omega) ?_
                    refine q_goto (t := 150) rfl (by decide) ?_
                    refine v_iinc (v := 3) rfl rfl (by decide) (by decide) ?_
                    refine q_goto (t := 59) rfl (by decide) ?_
                    refine q_iload rfl rfl ?_
                    refine q_iconst rfl ?_
                    refine v_ic_ge_f (t := 156) rfl (by decide) (by decide) ?_
                    refine q_iload rfl rfl ?_
                    refine q_iconst rfl ?_
                    refine v_idiv (v := 1) rfl (by omega) (by decide) ?_
                    refine q_istore rfl (by decide) ?_
                    refine q_iload rfl rfl ?_
                    refine q_iconst rfl ?_
                    refine v_irem (v := 1) rfl (by omega) (by decide) ?_
                    refine q_istore rfl (by decide) ?_
                    refine q_iconst rfl ?_
                    refine q_iload rfl rfl ?_
                    refine v_isub (v := 0) rfl (by decide) ?_
                    refine q_iload rfl rfl ?_
                    refine q_iload_n rfl rfl ?_
                    refine q_iload_n rfl rfl ?_
                    refine q_call rfl rfl rfl rfl ?_
                    refine q_iload_n rfl rfl ?_
                    refine v_if_ne_f (t := 18) rfl (by decide) (by decide) ?_
                    refine q_iload_n rfl rfl ?_
                    refine v_if_ne_t (t := 14) rfl (by decide) (by decide) ?_
                    refine q_iload_n rfl rfl ?_
                    refine q_goto (t := 30) rfl (by decide) ?_
                    refine q_iret rfl rfl ?_
                    refine bk_inl ?_
                    refine q_iload rfl rfl ?_
                    refine q_iload rfl rfl ?_
                    refine q_iload_n rfl rfl ?_
                    refine q_iload_n rfl rfl ?_
                    refine q_call rfl rfl rfl rfl ?_
                    refine q_iload_n rfl rfl ?_
                    refine v_if_ne_t (t := 18) rfl (by decide) (by decide) ?_
                    refine q_iload_n rfl rfl ?_
                    refine q_iconst rfl ?_
                    refine v_ic_ne_f (t := 29) rfl (by decide) (by decide) ?_
                    refine q_iload_n rfl rfl ?_
                    refine q_iconst rfl ?_
                    refine v_idiv (v := (x2 / 2)) rfl (by omega) rfl ?_
                    refine q_goto (t := 30) rfl (by decide) ?_
                    refine q_iret rfl rfl ?_
                    refine bk_inl ?_
                    refine v_ic_gt_f (t := 150) rfl (by decide) (by omega) ?_
                    refine q_iconst rfl ?_
                    refine q_iload rfl rfl ?_
                    refine v_isub (v := 0) rfl (by decide) ?_
                    refine q_iload rfl rfl ?_
                    refine q_iload_n rfl rfl ?_
                    refine q_iload_n rfl rfl ?_
                    refine q_call rfl rfl rfl rfl ?_
                    refine q_iload_n rfl rfl ?_
                    refine v_if_ne_f (t := 18) rfl (by decide) (by decide) ?_
                    refine q_iload_n rfl rfl ?_
                    refine v_if_ne_t (t := 14) rfl (by decide) (by decide) ?_
                    refine q_iload_n rfl rfl ?_
                    refine q_goto (t := 30) rfl (by decide) ?_
                    refine q_iret rfl rfl ?_
                    refine bk_inl ?_
                    refine q_iload rfl rfl ?_
                    refine q_iload rfl rfl ?_
                    refine q_iload_n rfl rfl ?_
                    refine q_iload_n rfl rfl ?_
                    refine q_call rfl rfl rfl rfl ?_
                    refine q_iload_n rfl rfl ?_
                    refine v_if_ne_t (t := 18) rfl (by decide) (by decide) ?_
                    refine q_iload_n rfl rfl ?_
                    refine q_iconst rfl ?_
                    refine v_ic_ne_f (t := 29) rfl (by decide) (by decide) ?_
                    refine q_iload_n rfl rfl ?_
                    refine q_iconst rfl ?_
                    refine v_idiv (v := (x2 / 2)) rfl (by omega) rfl ?_
                    refine q_goto (t := 30) rfl (by decide) ?_
                    refine q_iret rfl rfl ?_
                    refine bk_inl ?_
                    refine v_ic_le_t (t := 126) rfl (by decide) (by omega) ?_
                    refine v_iinc (v := 1) rfl rfl (by decide) (by decide) ?_
                    refine Wp_ls [(4, vi 1), (8, vi 1), (7, vi 1), (6, vi 3), (5, vi (-1)), (0, .ref 41), (1, vi x1), (2, vi x2), (3, vi x3)] (lsub_cons rfl (lsub_cons rfl (lsub_cons rfl (lsub_cons rfl (lsub_cons rfl (lsub_cons rfl (lsub_cons rfl (lsub_cons rfl (lsub_cons rfl lsub_nil))))))))) ?_
                    refine q_iload rfl rfl ?_
                    refine q_iconst rfl ?_
                    refine v_ic_ne_f (t := 146) rfl (by decide) (by decide) ?_
                    refine v_bip rfl (by decide) ?_
                    refine q_iload rfl rfl ?_
                    refine v_imul (v := 10) rfl (by decide) ?_
                    refine q_iload rfl rfl ?_
                    refine v_iadd (v := 11) rfl (by decide) ?_
                    refine q_goto (t := 148) rfl (by decide) ?_
                    refine q_istore rfl (by decide) ?_
                    refine v_iinc (v := 4) rfl rfl (by decide) (by decide) ?_
                    refine q_goto (t := 59) rfl (by decide) ?_
                    refine q_iload rfl rfl ?_
                    refine q_iconst rfl ?_
                    refine v_ic_ge_t (t := 156) rfl (by decide) (by decide) ?_
                    refine q_iload_n rfl rfl ?_
                    refine v_if_ne_t (t := 165) rfl (by decide) (by omega) ?_
                    refine q_iload_n rfl rfl ?_
                    refine q_iconst rfl ?_
                    refine v_ic_ne_f (t := 175) rfl (by decide) (by omega) ?_
                    refine q_iload rfl rfl ?_
                    refine q_goto (t := 216) rfl (by decide) ?_
                    refine q_iret rfl rfl ?_
                    refine bk_inl ?_
                    refine q_istore rfl (by decide) ?_
                    refine q_aload_n rfl rfl ?_
                    refine v_cv rfl rfl rfl rfl (by decide) ⟨⟨rfl, rfl⟩, by decide, rfl⟩ (Nat.le_of_ble_eq_true rfl) (Nat.le_of_ble_eq_true rfl) ?_
                    refine q_aload_n rfl rfl ?_
                    refine v_gi (z := 0) (v := 0) rfl rfl rfl (by decide) rfl rfl (up_e rfl) ?_
                    refine q_iret rfl rfl ?_
                    refine bk_inl ?_
                    refine q_iload rfl rfl ?_
                    refine v_ic_eq_t (t := 1215) rfl (by decide) (by decide) ?_
                    refine q_iload rfl rfl ?_
                    refine v_if_ne_f (t := 1232) rfl (by decide) (by decide) ?_
                    refine q_aload_n rfl rfl ?_
                    refine q_iconst rfl ?_
                    refine v_la (v := 11) rfl rfl (by decide) (by decide) (by decide) ((up_c (by decide)).trans (up_e rfl)) ?_
                    refine q_iload rfl rfl ?_
                    refine v_i2l rfl (by omega) ?_
                    refine v_lcmp0 rfl (by omega) ?_
                    refine v_if_eq_t (t := 1232) rfl (by decide) (by decide) ?_
                    refine q_goto (t := 1844) rfl (by decide) ?_
                    refine Wp_ls [(4, vi (i0 : Int)), (3, .ref 67), (2, .ref 41), (1, .ref 0), (0, .ref a_SC)] (lsub_cons rfl (lsub_cons rfl (lsub_cons rfl (lsub_cons rfl (lsub_cons rfl lsub_nil))))) ?_
                    refine K (up (up c 67 0 11) 41 0 0) 0 (by decide) ?_ ?_ ?_
                    · intro a j h
                      exact ((up_b (by omega)).trans (up_b (by omega)))
                    · exact Eq.trans (b := c 0 13) ((up_c (by decide)).trans (up_c (by decide))) (show _ = c 0 13 + 0 by omega)
                    · exact Eq.trans (b := c 42 1) ((up_c (by decide)).trans (up_c (by decide))) (show _ = c 42 1 + 0 by omega)
                  refine v_lsw_o (t := 186) rfl (by omega) (by decide) (by simp [Op.lookupswitch.offset, Ne.symm (show x3 ≠ 0 by omega), Ne.symm (show x3 ≠ 1 by omega)]) (by decide) ?_
                  refine q_iload rfl rfl ?_
                  refine q_iret rfl rfl ?_
                  refine bk_inl ?_
                  refine v_i2l rfl (by omega) ?_
                  refine v_ls rfl rfl (by decide) (by decide) (by decide) ?_
                  refine q_goto (t := 19) rfl (by decide) ?_
                  refine q_iconst rfl ?_
                  refine q_iret rfl rfl ?_
                  refine bk_inl ?_
                  refine q_istore rfl (by decide) ?_
                  refine q_aload_n rfl rfl ?_
                  refine q_aload_n rfl rfl ?_
                  refine q_iload rfl rfl ?_
                  refine q_iconst rfl ?_
                  refine v_iadd (v := (i0 : Int) + 1) rfl (by omega) ?_
                  refine v_scr (j := i0 + 1) rfl (by omega) (by omega) hL hx1 ?_
                  refine q_aload_n rfl rfl ?_
                  refine q_iload rfl rfl ?_
                  refine q_iconst rfl ?_
                  refine v_iadd (v := (i0 : Int) + 2) rfl (by omega) ?_
                  refine v_scr (j := i0 + 2) rfl (by omega) (by omega) hL hx2 ?_
                  refine q_aload_n rfl rfl ?_
                  refine q_iload rfl rfl ?_
                  refine q_iconst rfl ?_
                  refine v_iadd (v := (i0 : Int) + 3) rfl (by omega) ?_
                  refine v_scr (j := i0 + 3) rfl (by omega) (by omega) hL hx3 ?_
                  refine v_cv rfl rfl rfl rfl (by decide) ⟨⟨rfl, rfl⟩, by decide, rfl⟩ (Nat.le_of_ble_eq_true rfl) (Nat.le_of_ble_eq_true rfl) ?_
                  refine q_aload_n rfl rfl ?_
                  refine q_iconst rfl ?_
                  refine v_pi (z := 0) rfl rfl rfl (by decide) rfl rfl rfl (by decide) ?_
                  refine q_aload_n rfl rfl ?_
                  refine q_iload_n rfl rfl ?_
                  refine q_iconst rfl ?_
                  refine v_bip rfl (by decide) ?_
                  refine q_call rfl rfl rfl rfl ?_
                  refine q_iload_n rfl rfl ?_
                  refine q_iload_n rfl rfl ?_
                  refine v_ic_lt_f (t := 14) rfl (by decide) (by omega) ?_
                  refine q_iload_n rfl rfl ?_
                  refine q_iload_n rfl rfl ?_
                  refine v_ic_gt_f (t := 14) rfl (by decide) (by omega) ?_
                  refine q_iconst rfl ?_
                  refine q_goto (t := 15) rfl (by decide) ?_
                  refine v_zret rfl rfl (by omega) ?_
                  refine bk_inl ?_
                  refine v_if_eq_f (t := 39) rfl (by decide) (by decide) ?_
                  refine q_iload_n rfl rfl ?_
                  refine q_iconst rfl ?_
                  refine v_bip rfl (by decide) ?_
                  refine q_call rfl rfl rfl rfl ?_
                  refine q_iload_n rfl rfl ?_
                  refine q_iload_n rfl rfl ?_
                  refine v_ic_lt_f (t := 14) rfl (by decide) (by omega) ?_
                  refine q_iload_n rfl rfl ?_
                  refine q_iload_n rfl rfl ?_
                  refine v_ic_gt_f (t := 14) rfl (by decide) (by omega) ?_
                  refine q_iconst rfl ?_
                  refine q_goto (t := 15) rfl (by decide) ?_
                  refine v_zret rfl rfl (by omega) ?_
                  refine bk_inl ?_
                  refine v_if_eq_f (t := 39) rfl (by decide) (by decide) ?_
                  refine q_iload_n rfl rfl ?_
                  refine q_iconst rfl ?_
                  refine q_iconst rfl ?_
                  refine q_call rfl rfl rfl rfl ?_
                  refine q_iload_n rfl rfl ?_
                  refine q_iload_n rfl rfl ?_
                  refine v_ic_lt_f (t := 14) rfl (by decide) (by omega) ?_
                  refine q_iload_n rfl rfl ?_
                  refine q_iload_n rfl rfl ?_
                  refine v_ic_gt_f (t := 14) rfl (by decide) (by omega) ?_
                  refine q_iconst rfl ?_
                  refine q_goto (t := 15) rfl (by decide) ?_
                  refine v_zret rfl rfl (by omega) ?_
                  refine bk_inl ?_
                  refine v_if_eq_f (t := 39) rfl (by decide) (by decide) ?_
                  refine q_iconst rfl ?_
                  refine q_goto (t := 40) rfl (by decide) ?_
                  refine q_iconst rfl ?_
                  refine q_iconst rfl ?_
                  refine v_cv rfl rfl rfl rfl (by decide) ⟨⟨rfl, rfl⟩, by decide, rfl⟩ (Nat.le_of_ble_eq_true rfl) (Nat.le_of_ble_eq_true rfl) ?_
                  refine q_iload_n rfl rfl ?_
                  refine v_if_ne_t (t := 26) rfl (by decide) (by decide) ?_
                  refine q_aload_n rfl rfl ?_
                  refine v_gi (z := 0) (v := 0) rfl rfl rfl (by decide) rfl rfl (up_e rfl) ?_
                  refine v_if_ne_f (t := 37) rfl (by decide) (by decide) ?_
                  refine q_iconst rfl ?_
                  refine q_goto (t := 38) rfl (by decide) ?_
                  refine v_zret rfl rfl (by omega) ?_
                  refine bk_inl ?_
                  refine v_if_ne_t (t := 50) rfl (by decide) (by decide) ?_
                  refine q_iconst rfl ?_
                  refine q_istore rfl (by decide) ?_
                  refine q_iconst rfl ?_
                  refine q_istore rfl (by decide) ?_
                  refine q_iconst rfl ?_
                  refine q_istore rfl (by decide) ?_
                  refine q_iload rfl rfl ?_
                  refine q_iconst rfl ?_
                  refine v_ic_ge_f (t := 156) rfl (by decide) (by decide) ?_
                  refine q_iload rfl rfl ?_
                  refine q_iconst rfl ?_
                  refine v_idiv (v := 0) rfl (by omega) (by decide) ?_
                  refine q_istore rfl (by decide) ?_
                  refine q_iload rfl rfl ?_
                  refine q_iconst rfl ?_
                  refine v_irem (v := 0) rfl (by omega) (by decide) ?_
                  refine q_istore rfl (by decide) ?_
                  refine Wp_ls [(8, vi 0), (7, vi 0), (6, vi 0), (5, vi (-1)), (4, vi 0), (0, .ref 41), (1, vi x1), (2, vi x2), (3, vi x3)] (lsub_cons rfl (lsub_cons rfl (lsub_cons rfl (lsub_cons rfl (lsub_cons rfl (lsub_cons rfl (lsub_cons rfl (lsub_cons rfl (lsub_cons rfl lsub_nil))))))))) ?_
                  refine q_iconst rfl ?_
                  refine q_iload rfl rfl ?_
                  refine v_isub (v := 1) rfl (by decide) ?_
                  refine q_iload rfl rfl ?_
                  refine q_iload_n rfl rfl ?_
                  refine q_iload_n rfl rfl ?_
                  refine q_call rfl rfl rfl rfl ?_
                  refine q_iload_n rfl rfl ?_
                  refine v_if_ne_t (t := 18) rfl (by decide) (by decide) ?_
                  refine q_iload_n rfl rfl ?_
                  refine q_iconst rfl ?_
                  refine v_ic_ne_t (t := 29) rfl (by decide) (by decide) ?_
                  refine q_iload_n rfl rfl ?_
                  refine q_iret rfl rfl ?_
                  refine bk_inl ?_
                  refine q_iload rfl rfl ?_
                  refine q_iload rfl rfl ?_
                  refine q_iload_n rfl rfl ?_
                  refine q_iload_n rfl rfl ?_
                  refine q_call rfl rfl rfl rfl ?_
                  refine q_iload_n rfl rfl ?_
                  refine v_if_ne_f (t := 18) rfl (by decide) (by decide) ?_
                  refine q_iload_n rfl rfl ?_
                  refine v_if_ne_f (t := 14) rfl (by decide) (by decide) ?_
                  refine q_iload_n rfl rfl ?_
                  refine q_iconst rfl ?_
                  refine v_idiv (v := (x1 / 2)) rfl (by omega) rfl ?_
                  refine q_goto (t := 30) rfl (by decide) ?_
                  refine q_iret rfl rfl ?_
                  refine bk_inl ?_
                  refine v_ic_gt_t (t := 150) rfl (by decide) (by omega) ?_
                  refine v_iinc (v := 1) rfl rfl (by decide) (by decide) ?_
                  refine q_goto (t := 59) rfl (by decide) ?_
                  refine q_iload rfl rfl ?_
                  refine q_iconst rfl ?_
                  refine v_ic_ge_f (t := 156) rfl (by decide) (by decide) ?_
                  refine q_iload rfl rfl ?_
                  refine q_iconst rfl ?_
                  refine v_idiv (v := 0) rfl (by omega) (by decide) ?_
                  refine q_istore rfl (by decide) ?_
                  refine q_iload rfl rfl ?_
                  refine q_iconst rfl ?_
                  refine v_irem (v := 1) rfl (by omega) (by decide) ?_
                  refine q_istore rfl (by decide) ?_
                  refine q_iconst rfl ?_
                  refine q_iload rfl rfl ?_
                  refine v_isub (v := 1) rfl (by decide) ?_
                  refine q_iload rfl rfl ?_
                  refine q_iload_n rfl rfl ?_
                  refine q_iload_n rfl rfl ?_
                  refine q_call rfl rfl rfl rfl ?_
                  refine q_iload_n rfl rfl ?_
                  refine v_if_ne_t (t := 18) rfl (by decide) (by decide) ?_
                  refine q_iload_n rfl rfl ?_
                  refine q_iconst rfl ?_
                  refine v_ic_ne_f (t := 29) rfl (by decide) (by decide) ?_
                  refine q_iload_n rfl rfl ?_
                  refine q_iconst rfl ?_
                  refine v_idiv (v := (x2 / 2)) rfl (by omega) rfl ?_
                  refine q_goto (t := 30) rfl (by decide) ?_
                  refine q_iret rfl rfl ?_
                  refine bk_inl ?_
                  refine q_iload rfl rfl ?_
                  refine q_iload rfl rfl ?_
                  refine q_iload_n rfl rfl ?_
                  refine q_iload_n rfl rfl ?_
                  refine q_call rfl rfl rfl rfl ?_
                  refine q_iload_n rfl rfl ?_
                  refine v_if_ne_f (t := 18) rfl (by decide) (by decide) ?_
                  refine q_iload_n rfl rfl ?_
                  refine v_if_ne_t (t := 14) rfl (by decide) (by decide) ?_
                  refine q_iload_n rfl rfl ?_
                  refine q_goto (t := 30) rfl (by decide) ?_
                  refine q_iret rfl rfl ?_
                  refine bk_inl ?_
                  refine v_ic_gt_t (t := 150) rfl (by decide) (by omega) ?_
                  refine v_iinc (v := 2) rfl rfl (by decide) (by decide) ?_
                  refine q_goto (t := 59) rfl (by decide) ?_
                  refine q_iload rfl rfl ?_
                  refine q_iconst rfl ?_
                  refine v_ic_ge_f (t := 156) rfl (by decide) (by decide) ?_
                  refine q_iload rfl rfl ?_
                  refine q_iconst rfl ?_
                  refine v_idiv (v := 1) rfl (by omega) (by decide) ?_
                  refine q_istore rfl (by decide) ?_
                  refine Wp_ls [(7, vi 1), (6, vi 2), (8, vi 1), (5, vi (-1)), (4, vi 0), (0, .ref 41), (1, vi x1), (2, vi x2), (3, vi x3)] (lsub_cons rfl (lsub_cons rfl (lsub_cons rfl (lsub_cons rfl (lsub_cons rfl (lsub_cons rfl (lsub_cons rfl (lsub_cons rfl (lsub_cons rfl lsub_nil))))))))) ?_
                  refine q_iload rfl rfl ?_
                  refine q_iconst rfl ?_
                  refine v_irem (v := 0) rfl (by omega) (by decide) ?_
                  refine q_istore rfl (by decide) ?_
                  refine q_iconst rfl ?_
                  refine q_iload rfl rfl ?_
                  refine v_isub (v := 0) rfl (by decide) ?_
                  refine q_iload rfl rfl ?_
                  refine q_iload_n rfl rfl ?_
                  refine q_iload_n rfl rfl ?_
                  refine q_call rfl rfl rfl rfl ?_
                  refine q_iload_n rfl rfl ?_
                  refine v_if_ne_f (t := 18) rfl (by decide) (by decide) ?_
                  refine q_iload_n rfl rfl ?_
                  refine v_if_ne_f (t := 14) rfl (by decide) (by decide) ?_
                  refine q_iload_n rfl rfl ?_
                  refine q_iconst rfl ?_
                  refine v_idiv (v := (x1 / 2)) rfl (by omega) rfl ?_
                  refine q_goto (t := 30) rfl (by decide) ?_
                  refine q_iret rfl rfl ?_
                  refine bk_inl ?_
                  refine q_iload rfl rfl ?_
                  refine q_iload rfl rfl ?_
                  refine q_iload_n rfl rfl ?_
                  refine q_iload_n rfl rfl ?_
                  refine q_call rfl rfl rfl rfl ?_
                  refine q_iload_n rfl rfl ?_
                  refine v_if_ne_t (t := 18) rfl (by decide) (by decide) ?_
                  refine q_iload_n rfl rfl ?_
                  refine q_iconst rfl ?_
                  refine v_ic_ne_t (t := 29) rfl (by decide) (by decide) ?_
                  refine q_iload_n rfl rfl ?_
                  refine q_iret rfl rfl ?_
                  refine bk_inl ?_
                  refine v_ic_gt_f (t := 150) rfl (by decide) (by omega) ?_
                  refine q_iconst rfl ?_
                  refine q_iload rfl rfl ?_
                  refine v_isub (v := 1) rfl (by decide) ?_
                  refine q_iload rfl rfl ?_
                  refine q_iload_n rfl rfl ?_
                  refine q_iload_n rfl rfl ?_
                  refine q_call rfl rfl rfl rfl ?_
                  refine q_iload_n rfl rfl ?_
                  refine v_if_ne_t (t := 18) rfl (by decide) (by decide) ?_
                  refine q_iload_n rfl rfl ?_
                  refine q_iconst rfl ?_
                  refine v_ic_ne_f (t := 29) rfl (by decide) (by decide) ?_
                  refine q_iload_n rfl rfl ?_
                  refine q_iconst rfl ?_
                  refine v_idiv (v := (x2 / 2)) rfl (by omega) rfl ?_
                  refine q_goto (t := 30) rfl (by decide) ?_
                  refine q_iret rfl rfl ?_
                  refine bk_inl ?_
                  refine q_iload rfl rfl ?_
                  refine q_iload rfl rfl ?_
                  refine q_iload_n rfl rfl ?_
                  refine q_iload_n rfl rfl ?_
                  refine q_call rfl rfl rfl rfl ?_
                  refine q_iload_n rfl rfl ?_
                  refine v_if_ne_f (t := 18) rfl (by decide) (by decide) ?_
                  refine q_iload_n rfl rfl ?_
                  refine v_if_ne_t (t := 14) rfl (by decide) (by decide) ?_
                  refine q_iload_n rfl rfl ?_
                  refine q_goto (t := 30) rfl (by decide) ?_
                  refine q_iret rfl rfl ?_
                  refine bk_inl ?_
                  refine v_ic_le_f (t := 126) rfl (by decide) (by omega) ?_
                  refine q_goto (t := 150) rfl (by decide) ?_
                  refine v_iinc (v := 3) rfl rfl (by decide) (by decide) ?_
                  refine q_goto (t := 59) rfl (by decide) ?_
                  refine q_iload rfl rfl ?_
                  refine q_iconst rfl ?_
                  refine v_ic_ge_f (t := 156) rfl (by decide) (by decide) ?_
                  refine q_iload rfl rfl ?_
                  refine q_iconst rfl ?_
                  refine v_idiv (v := 1) rfl (by omega) (by decide) ?_
                  refine q_istore rfl (by decide) ?_
                  refine q_iload rfl rfl ?_
                  refine q_iconst rfl ?_
                  refine v_irem (v := 1) rfl (by omega) (by decide) ?_
                  refine q_istore rfl (by decide) ?_
                  refine q_iconst rfl ?_
                  refine q_iload rfl rfl ?_
                  refine v_isub (v := 0) rfl (by decide) ?_
                  refine q_iload rfl rfl ?_
                  refine q_iload_n rfl rfl ?_
                  refine q_iload_n rfl rfl ?_
                  refine q_call rfl rfl rfl rfl ?_
                  refine q_iload_n rfl rfl ?_
                  refine v_if_ne_f (t := 18) rfl (by decide) (by decide) ?_
                  refine q_iload_n rfl rfl ?_
                  refine v_if_ne_t (t := 14) rfl (by decide) (by decide) ?_
                  refine q_iload_n rfl rfl ?_
                  refine q_goto (t := 30) rfl (by decide) ?_
                  refine q_iret rfl rfl ?_
                  refine bk_inl ?_
                  refine q_iload rfl rfl ?_
                  refine q_iload rfl rfl ?_
                  refine q_iload_n rfl rfl ?_
                  refine q_iload_n rfl rfl ?_
                  refine q_call rfl rfl rfl rfl ?_
                  refine q_iload_n rfl rfl ?_
                  refine v_if_ne_t (t := 18) rfl (by decide) (by decide) ?_
                  refine q_iload_n rfl rfl ?_
                  refine q_iconst rfl ?_
                  refine v_ic_ne_f (t := 29) rfl (by decide) (by decide) ?_
                  refine q_iload_n rfl rfl ?_
                  refine q_iconst rfl ?_
                  refine v_idiv (v := (x2 / 2)) rfl (by omega) rfl ?_
                  refine q_goto (t := 30) rfl (by decide) ?_
                  refine q_iret rfl rfl ?_
                  refine bk_inl ?_
                  refine v_ic_gt_f (t := 150) rfl (by decide) (by omega) ?_
                  refine q_iconst rfl ?_
                  refine q_iload rfl rfl ?_
                  refine v_isub (v := 0) rfl (by decide) ?_
                  refine q_iload rfl rfl ?_
                  refine q_iload_n rfl rfl ?_
                  refine q_iload_n rfl rfl ?_
                  refine q_call rfl rfl rfl rfl ?_
                  refine q_iload_n rfl rfl ?_
                  refine v_if_ne_f (t := 18) rfl (by decide) (by decide) ?_
                  refine q_iload_n rfl rfl ?_
                  refine v_if_ne_t (t := 14) rfl (by decide) (by decide) ?_
                  refine q_iload_n rfl rfl ?_
                  refine q_goto (t := 30) rfl (by decide) ?_
                  refine q_iret rfl rfl ?_
                  refine bk_inl ?_
                  refine q_iload rfl rfl ?_
                  refine q_iload rfl rfl ?_
                  refine q_iload_n rfl rfl ?_
                  refine q_iload_n rfl rfl ?_
                  refine q_call rfl rfl rfl rfl ?_
                  refine q_iload_n rfl rfl ?_
                  refine v_if_ne_t (t := 18) rfl (by decide) (by decide) ?_
                  refine q_iload_n rfl rfl ?_
                  refine q_iconst rfl ?_
                  refine v_ic_ne_f (t := 29) rfl (by decide) (by decide) ?_
                  refine q_iload_n rfl rfl ?_
                  refine q_iconst rfl ?_
                  refine v_idiv (v := (x2 / 2)) rfl (by omega) rfl ?_
                  refine q_goto (t := 30) rfl (by decide) ?_
                  refine q_iret rfl rfl ?_
                  refine bk_inl ?_
                  refine v_ic_le_t (t := 126) rfl (by decide) (by omega) ?_
                  refine v_iinc (v := 1) rfl rfl (by decide) (by decide) ?_
                  refine Wp_ls [(4, vi 1), (8, vi 1), (7, vi 1), (6, vi 3), (5, vi (-1)), (0, .ref 41), (1, vi x1), (2, vi x2), (3, vi x3)] (lsub_cons rfl (lsub_cons rfl (lsub_cons rfl (lsub_cons rfl (lsub_cons rfl (lsub_cons rfl (lsub_cons rfl (lsub_cons rfl (lsub_cons rfl lsub_nil))))))))) ?_
                  refine q_iload rfl rfl ?_
                  refine q_iconst rfl ?_
                  refine v_ic_ne_f (t := 146) rfl (by decide) (by decide) ?_
                  refine v_bip rfl (by decide) ?_
                  refine q_iload rfl rfl ?_
                  refine v_imul (v := 10) rfl (by decide) ?_
                  refine q_iload rfl rfl ?_
                  refine v_iadd (v := 11) rfl (by decide) ?_
                  refine q_goto (t := 148) rfl (by decide) ?_
                  refine q_istore rfl (by decide) ?_
                  refine v_iinc (v := 4) rfl rfl (by decide) (by decide) ?_
                  refine q_goto (t := 59) rfl (by decide) ?_
                  refine q_iload rfl rfl ?_
                  refine q_iconst rfl ?_
                  refine v_ic_ge_t (t := 156) rfl (by decide) (by decide) ?_
                  refine q_iload_n rfl rfl ?_
                  refine v_if_ne_t (t := 165) rfl (by decide) (by omega) ?_
                  refine q_iload_n rfl rfl ?_
                  refine q_iconst rfl ?_
                  refine v_ic_ne_t (t := 175) rfl (by decide) (by omega) ?_
                  refine q_iload rfl rfl ?_
                  refine q_iconst rfl ?_
                  refine v_ic_ne_t (t := 185) rfl (by decide) (by decide) ?_
                  refine q_iload rfl rfl ?_
                  refine v_bip rfl (by decide) ?_
                  refine v_idiv (v := 1) rfl (by omega) (by decide) ?_
                  refine q_iload rfl rfl ?_
                  refine v_bip rfl (by decide) ?_
                  refine v_irem (v := 1) rfl (by omega) (by decide) ?_
                  refine q_iload_n rfl rfl ?_
                  refine q_iload_n rfl rfl ?_
                  refine q_call rfl rfl rfl rfl ?_
                  refine q_iload_n rfl rfl ?_
                  refine v_if_ne_t (t := 18) rfl (by decide) (by decide) ?_
                  refine q_iload_n rfl rfl ?_
                  refine q_iconst rfl ?_
                  refine v_ic_ne_f (t := 29) rfl (by decide) (by decide) ?_
                  refine q_iload_n rfl rfl ?_
                  refine q_iconst rfl ?_
                  refine v_idiv (v := (x2 / 2)) rfl (by omega) rfl ?_
                  refine q_goto (t := 30) rfl (by decide) ?_
                  refine q_iret rfl rfl ?_
                  refine bk_inl ?_
                  refine q_iload rfl rfl ?_
                  refine v_bip rfl (by decide) ?_
                  refine v_irem (v := 1) rfl (by omega) (by decide) ?_
                  refine q_iload rfl rfl ?_
                  refine v_bip rfl (by decide) ?_
                  refine v_idiv (v := 1) rfl (by omega) (by decide) ?_
                  refine q_iload_n rfl rfl ?_
                  refine q_iload_n rfl rfl ?_
                  refine q_call rfl rfl rfl rfl ?_
                  refine q_iload_n rfl rfl ?_
                  refine v_if_ne_t (t := 18) rfl (by decide) (by decide) ?_
                  refine q_iload_n rfl rfl ?_
                  refine q_iconst rfl ?_
                  refine v_ic_ne_f (t := 29) rfl (by decide) (by decide) ?_
                  refine q_iload_n rfl rfl ?_
                  refine q_iconst rfl ?_
                  refine v_idiv (v := (x2 / 2)) rfl (by omega) rfl ?_
                  refine q_goto (t := 30) rfl (by decide) ?_
                  refine q_iret rfl rfl ?_
                  refine bk_inl ?_
                  refine v_iadd (v := 2 * (x2 / 2)) rfl (by omega) ?_
                  refine q_iret rfl rfl ?_
                  refine bk_inl ?_
                  refine q_istore rfl (by decide) ?_
                  refine q_aload_n rfl rfl ?_
                  refine v_cv rfl rfl rfl rfl (by decide) ⟨⟨rfl, rfl⟩, by decide, rfl⟩ (Nat.le_of_ble_eq_true rfl) (Nat.le_of_ble_eq_true rfl) ?_
                  refine q_aload_n rfl rfl ?_
                  refine v_gi (z := 0) (v := 0) rfl rfl rfl (by decide) rfl rfl (up_e rfl) ?_
                  refine q_iret rfl rfl ?_
                  refine bk_inl ?_
                  refine q_iload rfl rfl ?_
                  refine v_ic_eq_t (t := 1215) rfl (by decide) (by decide) ?_
                  refine q_iload rfl rfl ?_
                  refine v_if_ne_f (t := 1232) rfl (by decide) (by decide) ?_
                  refine q_aload_n rfl rfl ?_
                  refine q_iconst rfl ?_
                  refine v_la (v := 2 * (x2 / 2)) rfl rfl (by decide) (by decide) (by decide) ((up_c (by decide)).trans (up_e rfl)) ?_
                  refine q_iload rfl rfl ?_
                  refine v_i2l rfl (by omega) ?_
                  refine v_lcmp0 rfl (by omega) ?_
                  refine v_if_eq_t (t := 1232) rfl (by decide) (by decide) ?_
                  refine q_goto (t := 1844) rfl (by decide) ?_
                  refine Wp_ls [(4, vi (i0 : Int)), (3, .ref 67), (2, .ref 41), (1, .ref 0), (0, .ref a_SC)] (lsub_cons rfl (lsub_cons rfl (lsub_cons rfl (lsub_cons rfl (lsub_cons rfl lsub_nil))))) ?_
                  refine K (up (up c 67 0 (2 * (x2 / 2))) 41 0 0) 0 (by decide) ?_ ?_ ?_
                  · intro a j h
                    exact ((up_b (by omega)).trans (up_b (by omega)))
                  · exact Eq.trans (b := c 0 13) ((up_c (by decide)).trans (up_c (by decide))) (show _ = c 0 13 + 0 by omega)
                  · exact Eq.trans (b := c 42 1) ((up_c (by decide)).trans (up_c (by decide))) (show _ = c 42 1 + 0 by omega)
                · refine v_ic_gt_f (t := 147) rfl (by decide) (by omega) ?_
                  refine q_iconst rfl ?_
                  refine q_iload rfl rfl ?_
                  refine v_isub (v := 0) rfl (by decide) ?_
                  refine q_iload rfl rfl ?_
                  refine q_iload_n rfl rfl ?_
                  refine q_iload_n rfl rfl ?_
                  refine q_call rfl rfl rfl rfl ?_
                  refine q_iload_n rfl rfl ?_
                  refine v_if_ne_f (t := 8) rfl (by decide) (by decide) ?_
                  refine q_iload_n rfl rfl ?_
                  refine q_goto (t := 9) rfl (by decide) ?_
                  refine q_istore rfl (by decide) ?_
                  refine q_iload_n rfl rfl ?_
                  refine q_iload_n rfl rfl ?_
                  refine v_ic_ne_f (t := 23) rfl (by decide) (by decide) ?_
                  refine q_iload rfl rfl ?_
                  refine q_iconst rfl ?_
                  refine v_idiv (v := (x1 / 2)) rfl (by omega) rfl ?_
                  refine q_goto (t := 25) rfl (by decide) ?_
                  refine q_iret rfl rfl ?_
                  refine bk_inl ?_
                  refine q_iload rfl rfl ?_
                  refine v_ic_gt_f (t := 147) rfl (by decide) (by omega) ?_
                  refine q_iload rfl rfl ?_
                  refine v_if_ne_f (t := 144) rfl (by decide) (by decide) ?_
                  refine v_bip rfl (by decide) ?_
                  refine q_iload rfl rfl ?_
                  refine v_imul (v := 0) rfl (by decide) ?_
                  refine q_iload rfl rfl ?_
                  refine v_iadd (v := 1) rfl (by decide) ?_
                  refine q_istore rfl (by decide) ?_
                  refine q_iload rfl rfl ?_
                  refine q_iload rfl rfl ?_
                  refine v_iadd (v := x1 + x2) rfl (by omega) ?_
                  refine q_istore rfl (by decide) ?_
                  refine Wp_ls [(6, vi (x1 + x2)), (5, vi 1), (11, vi x2), (10, vi x1), (9, vi 1), (8, vi 0), (7, vi 1), (4, vi 0), (0, .ref 0), (1, vi x1), (2, vi x2), (3, vi x3)] (lsub_cons rfl (lsub_cons rfl (lsub_cons rfl (lsub_cons rfl (lsub_cons rfl (lsub_cons rfl (lsub_cons rfl (lsub_cons rfl (lsub_cons rfl (lsub_cons rfl (lsub_cons rfl (lsub_cons rfl lsub_nil)))))))))))) ?_
                  refine v_iinc (v := 1) rfl rfl (by decide) (by decide) ?_
                  refine v_iinc (v := 2) rfl rfl (by decide) (by decide) ?_
                  refine q_goto (t := 50) rfl (by decide) ?_
                  refine q_iload rfl rfl ?_
                  refine q_iconst rfl ?_
                  refine v_ic_ge_f (t := 153) rfl (by decide) (by decide) ?_
                  refine q_iload rfl rfl ?_
                  refine q_iconst rfl ?_
                  refine v_idiv (v := 1) rfl (by omega) (by decide) ?_
                  refine q_istore rfl (by decide) ?_
                  refine q_iload rfl rfl ?_
                  refine q_iconst rfl ?_
                  refine v_irem (v := 0) rfl (by omega) (by decide) ?_
                  refine q_istore rfl (by decide) ?_
                  refine q_iload rfl rfl ?_
                  refine q_iload rfl rfl ?_
                  refine q_iload_n rfl rfl ?_
                  refine q_iload_n rfl rfl ?_
                  refine q_call rfl rfl rfl rfl ?_
                  refine q_iload_n rfl rfl ?_
                  refine v_if_ne_t (t := 8) rfl (by decide) (by decide) ?_
                  refine q_iload_n rfl rfl ?_
                  refine q_istore rfl (by decide) ?_
                  refine q_iload_n rfl rfl ?_
                  refine q_iload_n rfl rfl ?_
                  refine v_ic_ne_t (t := 23) rfl (by decide) (by decide) ?_
                  refine q_iload rfl rfl ?_
                  refine q_iret rfl rfl ?_
                  refine bk_inl ?_
                  refine q_istore rfl (by decide) ?_
                  refine Wp_ls [(10, vi x2), (9, vi 0), (8, vi 1), (7, vi 2), (4, vi 1), (6, vi (x1 + x2)), (5, vi 1), (11, vi x2), (0, .ref 0), (1, vi x1), (2, vi x2), (3, vi x3)] (lsub_cons rfl (lsub_cons rfl (lsub_cons rfl (lsub_cons rfl (lsub_cons rfl (lsub_cons rfl (lsub_cons rfl (lsub_cons rfl (lsub_cons rfl (lsub_cons rfl (lsub_cons rfl (lsub_cons rfl lsub_nil)))))))))))) ?_
                  refine q_iload rfl rfl ?_
                  refine q_iload rfl rfl ?_
                  refine q_iload_n rfl rfl ?_
                  refine q_iload_n rfl rfl ?_
                  refine q_call rfl rfl rfl rfl ?_
                  refine q_iload_n rfl rfl ?_
                  refine v_if_ne_f (t := 8) rfl (by decide) (by decide) ?_
                  refine q_iload_n rfl rfl ?_
                  refine q_goto (t := 9) rfl (by decide) ?_
                  refine q_istore rfl (by decide) ?_
                  refine q_iload_n rfl rfl ?_
                  refine q_iload_n rfl rfl ?_
                  refine v_ic_ne_t (t := 23) rfl (by decide) (by decide) ?_
                  refine q_iload rfl rfl ?_
                  refine q_iret rfl rfl ?_
                  refine bk_inl ?_
                  refine q_istore rfl (by decide) ?_
                  refine q_iconst rfl ?_
                  refine q_iload rfl rfl ?_
                  refine v_isub (v := 0) rfl (by decide) ?_
                  refine q_iload rfl rfl ?_
                  refine q_iload_n rfl rfl ?_
                  refine q_iload_n rfl rfl ?_
                  refine q_call rfl rfl rfl rfl ?_
                  refine q_iload_n rfl rfl ?_
                  refine v_if_ne_f (t := 8) rfl (by decide) (by decide) ?_
                  refine q_iload_n rfl rfl ?_
                  refine q_goto (t := 9) rfl (by decide) ?_
                  refine q_istore rfl (by decide) ?_
                  refine q_iload_n rfl rfl ?_
                  refine q_iload_n rfl rfl ?_
                  refine v_ic_ne_f (t := 23) rfl (by decide) (by decide) ?_
                  refine q_iload rfl rfl ?_
                  refine q_iconst rfl ?_
                  refine v_idiv (v := (x1 / 2)) rfl (by omega) rfl ?_
                  refine q_goto (t := 25) rfl (by decide) ?_
                  refine q_iret rfl rfl ?_
                  refine bk_inl ?_
                  refine q_iload rfl rfl ?_
                  refine v_ic_gt_f (t := 147) rfl (by decide) (by omega) ?_
                  refine q_iconst rfl ?_
                  refine q_iload rfl rfl ?_
                  refine v_isub (v := 1) rfl (by decide) ?_
                  refine q_iload rfl rfl ?_
                  refine q_iload_n rfl rfl ?_
                  refine q_iload_n rfl rfl ?_
                  refine q_call rfl rfl rfl rfl ?_
                  refine q_iload_n rfl rfl ?_
                  refine v_if_ne_t (t := 8) rfl (by decide) (by decide) ?_
                  refine q_iload_n rfl rfl ?_
                  refine q_istore rfl (by decide) ?_
                  refine q_iload_n rfl rfl ?_
                  refine q_iload_n rfl rfl ?_
                  refine v_ic_ne_f (t := 23) rfl (by decide) (by decide) ?_
                  refine q_iload rfl rfl ?_
                  refine q_iconst rfl ?_
                  refine v_idiv (v := (x2 / 2)) rfl (by omega) rfl ?_
                  refine q_goto (t := 25) rfl (by decide) ?_
                  refine q_iret rfl rfl ?_
                  refine bk_inl ?_
                  refine q_iload rfl rfl ?_
                  refine v_ic_gt_f (t := 147) rfl (by decide) (by omega) ?_
                  refine q_iload rfl rfl ?_
                  refine v_if_ne_t (t := 144) rfl (by decide) (by decide) ?_
                  refine v_iinc (v := 2) rfl rfl (by decide) (by decide) ?_
                  refine v_iinc (v := 3) rfl rfl (by decide) (by decide) ?_
                  refine q_goto (t := 50) rfl (by decide) ?_
                  refine q_iload rfl rfl ?_
                  refine q_iconst rfl ?_
                  refine v_ic_ge_f (t := 153) rfl (by decide) (by decide) ?_
                  refine q_iload rfl rfl ?_
                  refine q_iconst rfl ?_
                  refine v_idiv (v := 1) rfl (by omega) (by decide) ?_
                  refine q_istore rfl (by decide) ?_
                  refine q_iload rfl rfl ?_
                  refine q_iconst rfl ?_
                  refine v_irem (v := 1) rfl (by omega) (by decide) ?_
                  refine q_istore rfl (by decide) ?_
                  refine Wp_ls [(9, vi 1), (8, vi 1), (7, vi 3), (4, vi 2), (11, vi x1), (10, vi x2), (6, vi (x1 + x2)), (5, vi 1), (0, .ref 0), (1, vi x1), (2, vi x2), (3, vi x3)] (lsub_cons rfl (lsub_cons rfl (lsub_cons rfl (lsub_cons rfl (lsub_cons rfl (lsub_cons rfl (lsub_cons rfl (lsub_cons rfl (lsub_cons rfl (lsub_cons rfl (lsub_cons rfl (lsub_cons rfl lsub_nil)))))))))))) ?_
                  refine q_iload rfl rfl ?_
                  refine q_iload rfl rfl ?_
                  refine q_iload_n rfl rfl ?_
                  refine q_iload_n rfl rfl ?_
                  refine q_call rfl rfl rfl rfl ?_
                  refine q_iload_n rfl rfl ?_
                  refine v_if_ne_t (t := 8) rfl (by decide) (by decide) ?_
                  refine q_iload_n rfl rfl ?_
                  refine q_istore rfl (by decide) ?_
                  refine q_iload_n rfl rfl ?_
                  refine q_iload_n rfl rfl ?_
                  refine v_ic_ne_f (t := 23) rfl (by decide) (by decide) ?_
                  refine q_iload rfl rfl ?_
                  refine q_iconst rfl ?_
                  refine v_idiv (v := (x2 / 2)) rfl (by omega) rfl ?_
                  refine q_goto (t := 25) rfl (by decide) ?_
                  refine q_iret rfl rfl ?_
                  refine bk_inl ?_
                  refine q_istore rfl (by decide) ?_
                  refine q_iload rfl rfl ?_
                  refine q_iload rfl rfl ?_
                  refine q_iload_n rfl rfl ?_
                  refine q_iload_n rfl rfl ?_
                  refine q_call rfl rfl rfl rfl ?_
                  refine q_iload_n rfl rfl ?_
                  refine v_if_ne_t (t := 8) rfl (by decide) (by decide) ?_
                  refine q_iload_n rfl rfl ?_
                  refine q_istore rfl (by decide) ?_
                  refine q_iload_n rfl rfl ?_
                  refine q_iload_n rfl rfl ?_
                  refine v_ic_ne_f (t := 23) rfl (by decide) (by decide) ?_
                  refine q_iload rfl rfl ?_
                  refine q_iconst rfl ?_
                  refine v_idiv (v := (x2 / 2)) rfl (by omega) rfl ?_
                  refine q_goto (t := 25) rfl (by decide) ?_
                  refine q_iret rfl rfl ?_
                  refine bk_inl ?_
                  refine q_istore rfl (by decide) ?_
                  refine q_iconst rfl ?_
                  refine q_iload rfl rfl ?_
                  refine v_isub (v := 0) rfl (by decide) ?_
                  refine q_iload rfl rfl ?_
                  refine q_iload_n rfl rfl ?_
                  refine q_iload_n rfl rfl ?_
                  refine q_call rfl rfl rfl rfl ?_
                  refine q_iload_n rfl rfl ?_
                  refine v_if_ne_f (t := 8) rfl (by decide) (by decide) ?_
                  refine q_iload_n rfl rfl ?_
                  refine q_goto (t := 9) rfl (by decide) ?_
                  refine q_istore rfl (by decide) ?_
                  refine q_iload_n rfl rfl ?_
                  refine q_iload_n rfl rfl ?_
                  refine v_ic_ne_t (t := 23) rfl (by decide) (by decide) ?_
                  refine q_iload rfl rfl ?_
                  refine q_iret rfl rfl ?_
                  refine bk_inl ?_
                  refine q_iload rfl rfl ?_
                  by_cases h_11 : x1 > (x2 / 2)
                  · refine v_ic_gt_t (t := 147) rfl (by decide) (by omega) ?_
                    refine v_iinc (v := 4) rfl rfl (by decide) (by decide) ?_
                    refine q_goto (t := 50) rfl (by decide) ?_
                    refine q_iload rfl rfl ?_
                    refine q_iconst rfl ?_
                    refine v_ic_ge_t (t := 153) rfl (by decide) (by decide) ?_
                    refine q_iload_n rfl rfl ?_
                    by_cases h_12 : x3 = 0
                    · refine v_lsw (t := 180) (off := 26) 0 rfl (by omega) (by decide) (by decide) (by decide) (by decide) ?_
                      refine q_iload rfl rfl ?_
                      refine q_iret rfl rfl ?_
                      refine bk_inl ?_
                      refine v_i2l rfl (by omega) ?_
                      refine v_ls rfl rfl (by decide) (by decide) (by decide) ?_
                      refine q_goto (t := 19) rfl (by decide) ?_
                      refine q_iconst rfl ?_
                      refine q_iret rfl rfl ?_
                      refine bk_inl ?_
                      refine q_istore rfl (by decide) ?_
                      refine q_aload_n rfl rfl ?_
                      refine q_aload_n rfl rfl ?_
                      refine q_iload rfl rfl ?_
                      refine q_iconst rfl ?_
                      refine v_iadd (v := (i0 : Int) + 1) rfl (by omega) ?_
                      refine v_scr (j := i0 + 1) rfl (by omega) (by omega) hL hx1 ?_
                      refine q_aload_n rfl rfl ?_
                      refine q_iload rfl rfl ?_
                      refine q_iconst rfl ?_
                      refine v_iadd (v := (i0 : Int) + 2) rfl (by omega) ?_
                      refine v_scr (j := i0 + 2) rfl (by omega) (by omega) hL hx2 ?_
                      refine q_aload_n rfl rfl ?_
                      refine q_iload rfl rfl ?_
                      refine q_iconst rfl ?_
                      refine v_iadd (v := (i0 : Int) + 3) rfl (by omega) ?_
                      refine v_scr (j := i0 + 3) rfl (by omega) (by omega) hL hx3 ?_
                      refine v_cv rfl rfl rfl rfl (by decide) ⟨⟨rfl, rfl⟩, by decide, rfl⟩ (Nat.le_of_ble_eq_true rfl) (Nat.le_of_ble_eq_true rfl) ?_
                      refine q_aload_n rfl rfl ?_
                      refine q_iconst rfl ?_
                      refine v_pi (z := 0) rfl rfl rfl (by decide) rfl rfl rfl (by decide) ?_
                      refine q_aload_n rfl rfl ?_
                      refine q_iload_n rfl rfl ?_
                      refine q_iconst rfl ?_
                      refine v_bip rfl (by decide) ?_
                      refine q_call rfl rfl rfl rfl ?_
                      refine q_iload_n rfl rfl ?_
                      refine q_iload_n rfl rfl ?_
                      refine v_ic_lt_f (t := 14) rfl (by decide) (by omega) ?_
                      refine q_iload_n rfl rfl ?_
                      refine q_iload_n rfl rfl ?_
                      refine v_ic_gt_f (t := 14) rfl (by decide) (by omega) ?_
                      refine q_iconst rfl ?_
                      refine q_goto (t := 15) rfl (by decide) ?_
                      refine v_zret rfl rfl (by omega) ?_
                      refine bk_inl ?_
                      refine v_if_eq_f (t := 39) rfl (by decide) (by decide) ?_
                      refine q_iload_n rfl rfl ?_
                      refine q_iconst rfl ?_
                      refine v_bip rfl (by decide) ?_
                      refine q_call rfl rfl rfl rfl ?_
                      refine q_iload_n rfl rfl ?_
                      refine q_iload_n rfl rfl ?_
                      refine v_ic_lt_f (t := 14) rfl (by decide) (by omega) ?_
                      refine q_iload_n rfl rfl ?_
                      refine q_iload_n rfl rfl ?_
                      refine v_ic_gt_f (t := 14) rfl (by decide) (by omega) ?_
                      refine q_iconst rfl ?_
                      refine q_goto (t := 15) rfl (by decide) ?_
                      refine v_zret rfl rfl (by omega) ?_
                      refine bk_inl ?_
                      refine v_if_eq_f (t := 39) rfl (by decide) (by decide) ?_
                      refine q_iload_n rfl rfl ?_
                      refine q_iconst rfl ?_
                      refine q_iconst rfl ?_
                      refine q_call rfl rfl rfl rfl ?_
                      refine q_iload_n rfl rfl ?_
                      refine q_iload_n rfl rfl ?_
                      refine v_ic_lt_f (t := 14) rfl (by decide) (by omega) ?_
                      refine q_iload_n rfl rfl ?_
                      refine q_iload_n rfl rfl ?_
                      refine v_ic_gt_f (t := 14) rfl (by decide) (by omega) ?_
                      refine q_iconst rfl ?_
                      refine q_goto (t := 15) rfl (by decide) ?_
                      refine v_zret rfl rfl (by omega) ?_
                      refine bk_inl ?_
                      refine v_if_eq_f (t := 39) rfl (by decide) (by decide) ?_
                      refine q_iconst rfl ?_
                      refine q_goto (t := 40) rfl (by decide) ?_
                      refine q_iconst rfl ?_
                      refine q_iconst rfl ?_
                      refine v_cv rfl rfl rfl rfl (by decide) ⟨⟨rfl, rfl⟩, by decide, rfl⟩ (Nat.le_of_ble_eq_true rfl) (Nat.le_of_ble_eq_true rfl) ?_
                      refine q_iload_n rfl rfl ?_
                      refine v_if_ne_t (t := 26) rfl (by decide) (by decide) ?_
                      refine q_aload_n rfl rfl ?_
                      refine v_gi (z := 0) (v := 0) rfl rfl rfl (by decide) rfl rfl (up_e rfl) ?_
                      refine v_if_ne_f (t := 37) rfl (by decide) (by decide) ?_
                      refine q_iconst rfl ?_
                      refine q_goto (t := 38) rfl (by decide) ?_
                      refine v_zret rfl rfl (by omega) ?_
                      refine bk_inl ?_
                      refine v_if_ne_t (t := 50) rfl (by decide) (by decide) ?_
                      refine q_iconst rfl ?_
                      refine q_istore rfl (by decide) ?_
                      refine q_iconst rfl ?_
                      refine q_istore rfl (by decide) ?_
                      refine q_iconst rfl ?_
                      refine q_istore rfl (by decide) ?_
                      refine q_iload rfl rfl ?_
                      refine q_iconst rfl ?_
                      refine v_ic_ge_f (t := 156) rfl (by decide) (by decide) ?_
                      refine q_iload rfl rfl ?_
                      refine q_iconst rfl ?_
                      refine v_idiv (v := 0) rfl (by omega) (by decide) ?_
                      refine q_istore rfl (by decide) ?_
                      refine q_iload rfl rfl ?_
                      refine q_iconst rfl ?_
                      refine v_irem (v := 0) rfl (by omega) (by decide) ?_
                      refine q_istore rfl (by decide) ?_
                      refine Wp_ls [(8, vi 0), (7, vi 0), (6, vi 0), (5, vi (-1)), (4, vi 0), (0, .ref 41), (1, vi x1), (2, vi x2), (3, vi x3)] (lsub_cons rfl (lsub_cons rfl (lsub_cons rfl (lsub_cons rfl (lsub_cons rfl (lsub_cons rfl (lsub_cons rfl (lsub_cons rfl (lsub_cons rfl lsub_nil))))))))) ?_
                      refine q_iconst rfl ?_
                      refine q_iload rfl rfl ?_
                      refine v_isub (v := 1) rfl (by decide) ?_
                      refine q_iload rfl rfl ?_
                      refine q_iload_n rfl rfl ?_
                      refine q_iload_n rfl rfl ?_
                      refine q_call rfl rfl rfl rfl ?_
                      refine q_iload_n rfl rfl ?_
                      refine v_if_ne_t (t := 18) rfl (by decide) (by decide) ?_
                      refine q_iload_n rfl rfl ?_
                      refine q_iconst rfl ?_
                      refine v_ic_ne_t (t := 29) rfl (by decide) (by decide) ?_
                      refine q_iload_n rfl rfl ?_
                      refine q_iret rfl rfl ?_
                      refine bk_inl ?_
                      refine q_iload rfl rfl ?_
                      refine q_iload rfl rfl ?_
                      refine q_iload_n rfl rfl ?_
                      refine q_iload_n rfl rfl ?_
                      refine q_call rfl rfl rfl rfl ?_
                      refine q_iload_n rfl rfl ?_
                      refine v_if_ne_f (t := 18) rfl (by decide) (by decide) ?_
                      refine q_iload_n rfl rfl ?_
                      refine v_if_ne_f (t := 14) rfl (by decide) (by decide) ?_
                      refine q_iload_n rfl rfl ?_
                      refine q_iconst rfl ?_
                      refine v_idiv (v := (x1 / 2)) rfl (by omega) rfl ?_
                      refine q_goto (t := 30) rfl (by decide) ?_
                      refine q_iret rfl rfl ?_
                      refine bk_inl ?_
                      refine v_ic_gt_t (t := 150) rfl (by decide) (by omega) ?_
                      refine v_iinc (v := 1) rfl rfl (by decide) (by decide) ?_
                      refine q_goto (t := 59) rfl (by decide) ?_
                      refine q_iload rfl rfl ?_
                      refine q_iconst rfl ?_
                      refine v_ic_ge_f (t := 156) rfl (by decide) (by decide) ?_
                      refine q_iload rfl rfl ?_
                      refine q_iconst rfl ?_
                      refine v_idiv (v := 0) rfl (by omega) (by decide) ?_
                      refine q_istore rfl (by decide) ?_
                      refine q_iload rfl rfl ?_
                      refine q_iconst rfl ?_
                      refine v_irem (v := 1) rfl (by omega) (by decide) ?_
                      refine q_istore rfl (by decide) ?_
                      refine q_iconst rfl ?_
                      refine q_iload rfl rfl ?_
                      refine v_isub (v := 1) rfl (by decide) ?_
                      refine q_iload rfl rfl ?_
                      refine q_iload_n rfl rfl ?_
                      refine q_iload_n rfl rfl ?_
                      refine q_call rfl rfl rfl rfl ?_
                      refine q_iload_n rfl rfl ?_
                      refine v_if_ne_t (t := 18) rfl (by decide) (by decide) ?_
                      refine q_iload_n rfl rfl ?_
                      refine q_iconst rfl ?_
                      refine v_ic_ne_f (t := 29) rfl (by decide) (by decide) ?_
                      refine q_iload_n rfl rfl ?_
                      refine q_iconst rfl ?_
                      refine v_idiv (v := (x2 / 2)) rfl (by omega) rfl ?_
                      refine q_goto (t := 30) rfl (by decide) ?_
                      refine q_iret rfl rfl ?_
                      refine bk_inl ?_
                      refine q_iload rfl rfl ?_
                      refine q_iload rfl rfl ?_
                      refine q_iload_n rfl rfl ?_
                      refine q_iload_n rfl rfl ?_
                      refine q_call rfl rfl rfl rfl ?_
                      refine q_iload_n rfl rfl ?_
                      refine v_if_ne_f (t := 18) rfl (by decide) (by decide) ?_
                      refine q_iload_n rfl rfl ?_
                      refine v_if_ne_t (t := 14) rfl (by decide) (by decide) ?_
                      refine q_iload_n rfl rfl ?_
                      refine q_goto (t := 30) rfl (by decide) ?_
                      refine q_iret rfl rfl ?_
                      refine bk_inl ?_
                      refine v_ic_gt_f (t := 150) rfl (by decide) (by omega) ?_
                      refine q_iconst rfl ?_
                      refine q_iload rfl rfl ?_
                      refine v_isub (v := 0) rfl (by decide) ?_
                      refine q_iload rfl rfl ?_
                      refine q_iload_n rfl rfl ?_
                      refine q_iload_n rfl rfl ?_
                      refine q_call rfl rfl rfl rfl ?_
                      refine q_iload_n rfl rfl ?_
                      refine v_if_ne_f (t := 18) rfl (by decide) (by decide) ?_
                      refine q_iload_n rfl rfl ?_
                      refine v_if_ne_f (t := 14) rfl (by decide) (by decide) ?_
                      refine q_iload_n rfl rfl ?_
                      refine q_iconst rfl ?_
                      refine v_idiv (v := (x1 / 2)) rfl (by omega) rfl ?_
                      refine q_goto (t := 30) rfl (by decide) ?_
                      refine q_iret rfl rfl ?_
                      refine bk_inl ?_
                      refine q_iload rfl rfl ?_
                      refine q_iload rfl rfl ?_
                      refine q_iload_n rfl rfl ?_
                      refine q_iload_n rfl rfl ?_
                      refine q_call rfl rfl rfl rfl ?_
                      refine q_iload_n rfl rfl ?_
                      refine v_if_ne_t (t := 18) rfl (by decide) (by decide) ?_
                      refine q_iload_n rfl rfl ?_
                      refine q_iconst rfl ?_
                      refine v_ic_ne_t (t := 29) rfl (by decide) (by decide) ?_
                      refine q_iload_n rfl rfl ?_
                      refine q_iret rfl rfl ?_
                      refine bk_inl ?_
                      refine v_ic_le_t (t := 126) rfl (by decide) (by omega) ?_
                      refine v_iinc (v := 1) rfl rfl (by decide) (by decide) ?_
                      refine q_iload rfl rfl ?_
                      refine q_iconst rfl ?_
                      refine v_ic_ne_f (t := 146) rfl (by decide) (by decide) ?_
                      refine v_bip rfl (by decide) ?_
                      refine q_iload rfl rfl ?_
                      refine v_imul (v := 0) rfl (by decide) ?_
                      refine q_iload rfl rfl ?_
                      refine v_iadd (v := 1) rfl (by decide) ?_
                      refine q_goto (t := 148) rfl (by decide) ?_
                      refine q_istore rfl (by decide) ?_
                      refine Wp_ls [(5, vi 1), (4, vi 1), (8, vi 1), (7, vi 0), (6, vi 1), (0, .ref 41), (1, vi x1), (2, vi x2), (3, vi x3)] (lsub_cons rfl (lsub_cons rfl (lsub_cons rfl (lsub_cons rfl (lsub_cons rfl (lsub_cons rfl (lsub_cons rfl (lsub_cons rfl (lsub_cons rfl lsub_nil))))))))) ?_
                      refine v_iinc (v := 2) rfl rfl (by decide) (by decide) ?_
                      refine q_goto (t := 59) rfl (by decide) ?_
                      refine q_iload rfl rfl ?_
                      refine q_iconst rfl ?_
                      refine v_ic_ge_f (t := 156) rfl (by decide) (by decide) ?_
                      refine q_iload rfl rfl ?_
                      refine q_iconst rfl ?_
                      refine v_idiv (v := 1) rfl (by omega) (by decide) ?_
                      refine q_istore rfl (by decide) ?_
                      refine q_iload rfl rfl ?_
                      refine q_iconst rfl ?_
                      refine v_irem (v := 0) rfl (by omega) (by decide) ?_
                      refine q_istore rfl (by decide) ?_
                      refine q_iconst rfl ?_
                      refine q_iload rfl rfl ?_
                      refine v_isub (v := 0) rfl (by decide) ?_
                      refine q_iload rfl rfl ?_
                      refine q_iload_n rfl rfl ?_
                      refine q_iload_n rfl rfl ?_
                      refine q_call rfl rfl rfl rfl ?_
                      refine q_iload_n rfl rfl ?_
                      refine v_if_ne_f (t := 18) rfl (by decide) (by decide) ?_
                      refine q_iload_n rfl rfl ?_
                      refine v_if_ne_f (t := 14) rfl (by decide) (by decide) ?_
                      refine q_iload_n rfl rfl ?_
                      refine q_iconst rfl ?_
                      refine v_idiv (v := (x1 / 2)) rfl (by omega) rfl ?_
                      refine q_goto (t := 30) rfl (by decide) ?_
                      refine q_iret rfl rfl ?_
                      refine bk_inl ?_
                      refine q_iload rfl rfl ?_
                      refine q_iload rfl rfl ?_
                      refine q_iload_n rfl rfl ?_
                      refine q_iload_n rfl rfl ?_
                      refine q_call rfl rfl rfl rfl ?_
                      refine q_iload_n rfl rfl ?_
                      refine v_if_ne_t (t := 18) rfl (by decide) (by decide) ?_
                      refine q_iload_n rfl rfl ?_
                      refine q_iconst rfl ?_
                      refine v_ic_ne_t (t := 29) rfl (by decide) (by decide) ?_
                      refine q_iload_n rfl rfl ?_
                      refine q_iret rfl rfl ?_
                      refine bk_inl ?_
                      refine v_ic_gt_f (t := 150) rfl (by decide) (by omega) ?_
                      refine q_iconst rfl ?_
                      refine q_iload rfl rfl ?_
                      refine v_isub (v := 1) rfl (by decide) ?_
                      refine q_iload rfl rfl ?_
                      refine q_iload_n rfl rfl ?_
                      refine q_iload_n rfl rfl ?_
                      refine q_call rfl rfl rfl rfl ?_
                      refine q_iload_n rfl rfl ?_
                      refine v_if_ne_t (t := 18) rfl (by decide) (by decide) ?_
                      refine q_iload_n rfl rfl ?_
                      refine q_iconst rfl ?_
                      refine v_ic_ne_f (t := 29) rfl (by decide) (by decide) ?_
                      refine q_iload_n rfl rfl ?_
                      refine q_iconst rfl ?_
                      refine v_idiv (v := (x2 / 2)) rfl (by omega) rfl ?_
                      refine q_goto (t := 30) rfl (by decide) ?_
                      refine q_iret rfl rfl ?_
                      refine bk_inl ?_
                      refine q_iload rfl rfl ?_
                      refine q_iload rfl rfl ?_
                      refine q_iload_n rfl rfl ?_
                      refine q_iload_n rfl rfl ?_
                      refine q_call rfl rfl rfl rfl ?_
                      refine q_iload_n rfl rfl ?_
                      refine v_if_ne_f (t := 18) rfl (by decide) (by decide) ?_
                      refine q_iload_n rfl rfl ?_
                      refine v_if_ne_t (t := 14) rfl (by decide) (by decide) ?_
                      refine q_iload_n rfl rfl ?_
                      refine q_goto (t := 30) rfl (by decide) ?_
                      refine q_iret rfl rfl ?_
                      refine bk_inl ?_
                      refine v_ic_le_t (t := 126) rfl (by decide) (by omega) ?_
                      refine v_iinc (v := 2) rfl rfl (by decide) (by decide) ?_
                      refine q_iload rfl rfl ?_
                      refine q_iconst rfl ?_
                      refine v_ic_ne_t (t := 146) rfl (by decide) (by decide) ?_
                      refine q_iload rfl rfl ?_
                      refine q_istore rfl (by decide) ?_
                      refine Wp_ls [(5, vi 1), (4, vi 2), (8, vi 0), (7, vi 1), (6, vi 2), (0, .ref 41), (1, vi x1), (2, vi x2), (3, vi x3)] (lsub_cons rfl (lsub_cons rfl (lsub_cons rfl (lsub_cons rfl (lsub_cons rfl (lsub_cons rfl (lsub_cons rfl (lsub_cons rfl (lsub_cons rfl lsub_nil))))))))) ?_
                      refine v_iinc (v := 3) rfl rfl (by decide) (by decide) ?_
                      refine q_goto (t := 59) rfl (by decide) ?_
                      refine q_iload rfl rfl ?_
                      refine q_iconst rfl ?_
                      refine v_ic_ge_f (t := 156) rfl (by decide) (by decide) ?_
                      refine q_iload rfl rfl ?_
                      refine q_iconst rfl ?_
                      refine v_idiv (v := 1) rfl (by omega) (by decide) ?_
                      refine q_istore rfl (by decide) ?_
                      refine q_iload rfl rfl ?_
                      refine q_iconst rfl ?_
                      refine v_irem (v := 1) rfl (by omega) (by decide) ?_
                      refine q_istore rfl (by decide) ?_
                      refine q_iconst rfl ?_
                      refine q_iload rfl rfl ?_
                      refine v_isub (v := 0) rfl (by decide) ?_
                      refine q_iload rfl rfl ?_
                      refine q_iload_n rfl rfl ?_
                      refine q_iload_n rfl rfl ?_
                      refine q_call rfl rfl rfl rfl ?_
                      refine q_iload_n rfl rfl ?_
                      refine v_if_ne_f (t := 18) rfl (by decide) (by decide) ?_
                      refine q_iload_n rfl rfl ?_
                      refine v_if_ne_t (t := 14) rfl (by decide) (by decide) ?_
                      refine q_iload_n rfl rfl ?_
                      refine q_goto (t := 30) rfl (by decide) ?_
                      refine q_iret rfl rfl ?_
                      refine bk_inl ?_
                      refine q_iload rfl rfl ?_
                      refine q_iload rfl rfl ?_
                      refine q_iload_n rfl rfl ?_
                      refine q_iload_n rfl rfl ?_
                      refine q_call rfl rfl rfl rfl ?_
                      refine q_iload_n rfl rfl ?_
                      refine v_if_ne_t (t := 18) rfl (by decide) (by decide) ?_
                      refine q_iload_n rfl rfl ?_
                      refine q_iconst rfl ?_
                      refine v_ic_ne_f (t := 29) rfl (by decide) (by decide) ?_
                      refine q_iload_n rfl rfl ?_
                      refine q_iconst rfl ?_
                      refine v_idiv (v := (x2 / 2)) rfl (by omega) rfl ?_
                      refine q_goto (t := 30) rfl (by decide) ?_
                      refine q_iret rfl rfl ?_
                      refine bk_inl ?_
                      refine v_ic_gt_t (t := 150) rfl (by decide) (by omega) ?_
                      refine v_iinc (v := 4) rfl rfl (by decide) (by decide) ?_
                      refine q_goto (t := 59) rfl (by decide) ?_
                      refine q_iload rfl rfl ?_
                      refine q_iconst rfl ?_
                      refine v_ic_ge_t (t := 156) rfl (by decide) (by decide) ?_
                      refine q_iload_n rfl rfl ?_
                      refine v_if_ne_f (t := 165) rfl (by decide) (by omega) ?_
                      refine q_iload rfl rfl ?_
                      refine q_goto (t := 216) rfl (by decide) ?_
                      refine q_iret rfl rfl ?_
                      refine bk_inl ?_
                      refine q_istore rfl (by decide) ?_
                      refine q_aload_n rfl rfl ?_
                      refine v_cv rfl rfl rfl rfl (by decide) ⟨⟨rfl, rfl⟩, by decide, rfl⟩ (Nat.le_of_ble_eq_true rfl) (Nat.le_of_ble_eq_true rfl) ?_
                      refine q_aload_n rfl rfl ?_
                      refine v_gi (z := 0) (v := 0) rfl rfl rfl (by decide) rfl rfl (up_e rfl) ?_
                      refine q_iret rfl rfl ?_
                      refine bk_inl ?_
                      refine q_iload rfl rfl ?_
                      refine v_ic_eq_t (t := 1215) rfl (by decide) (by decide) ?_
                      refine q_iload rfl rfl ?_
                      refine v_if_ne_f (t := 1232) rfl (by decide) (by decide) ?_
                      refine q_aload_n rfl rfl ?_
                      refine q_iconst rfl ?_
                      refine v_la (v := 2) rfl rfl (by decide) (by decide) (by decide) ((up_c (by decide)).trans (up_e rfl)) ?_
                      refine q_iload rfl rfl ?_
                      refine v_i2l rfl (by omega) ?_
                      refine v_lcmp0 rfl (by omega) ?_
                      refine v_if_eq_t (t := 1232) rfl (by decide) (by decide) ?_
                      refine q_goto (t := 1844) rfl (by decide) ?_
                      refine Wp_ls [(4, vi (i0 : Int)), (3, .ref 67), (2, .ref 41), (1, .ref 0), (0, .ref a_SC)] (lsub_cons rfl (lsub_cons rfl (lsub_cons rfl (lsub_cons rfl (lsub_cons rfl lsub_nil))))) ?_
                      refine K (up (up c 67 0 2) 41 0 0) 0 (by decide) ?_ ?_ ?_
                      · intro a j h
                        exact ((up_b (by omega)).trans (up_b (by omega)))
                      · exact Eq.trans (b := c 0 13) ((up_c (by decide)).trans (up_c (by decide))) (show _ = c 0 13 + 0 by omega)
                      · exact Eq.trans (b := c 42 1) ((up_c (by decide)).trans (up_c (by decide))) (show _ = c 42 1 + 0 by omega)
                    by_cases h_13 : x3 = 1
                    · refine v_lsw (t := 183) (off := 29) 1 rfl (by omega) (by decide) (by decide) (by decide) (by decide) ?_
                      refine q_iload rfl rfl ?_
                      refine q_iret rfl rfl ?_
                      refine bk_inl ?_
                      refine v_i2l rfl (by omega) ?_
                      refine v_ls rfl rfl (by decide) (by decide) (by decide) ?_
                      refine q_goto (t := 19) rfl (by decide) ?_
                      refine q_iconst rfl ?_
                      refine q_iret rfl rfl ?_
                      refine bk_inl ?_
                      refine q_istore rfl (by decide) ?_
                      refine q_aload_n rfl rfl ?_
                      refine q_aload_n rfl rfl ?_
                      refine q_iload rfl rfl ?_
                      refine q_iconst rfl ?_
                      refine v_iadd (v := (i0 : Int) + 1) rfl (by omega) ?_
                      refine v_scr (j := i0 + 1) rfl (by omega) (by omega) hL hx1 ?_
                      refine q_aload_n rfl rfl ?_
                      refine q_iload rfl rfl ?_
                      refine q_iconst rfl ?_
                      refine v_iadd (v := (i0 : Int) + 2) rfl (by omega) ?_
                      refine v_scr (j := i0 + 2) rfl (by omega) (by omega) hL hx2 ?_
                      refine q_aload_n rfl rfl ?_
                      refine q_iload rfl rfl ?_
                      refine q_iconst rfl ?_
                      refine v_iadd (v := (i0 : Int) + 3) rfl (by omega) ?_
                      refine v_scr (j := i0 + 3) rfl (by omega) (by omega) hL hx3 ?_
                      refine v_cv rfl rfl rfl rfl (by decide) ⟨⟨rfl, rfl⟩, by decide, rfl⟩ (Nat.le_of_ble_eq_true rfl) (Nat.le_of_ble_eq_true rfl) ?_
                      refine q_aload_n rfl rfl ?_
                      refine q_iconst rfl ?_
                      refine v_pi (z := 0) rfl rfl rfl (by decide) rfl rfl rfl (by decide) ?_
                      refine q_aload_n rfl rfl ?_
                      refine q_iload_n rfl rfl ?_
                      refine q_iconst rfl ?_
                      refine v_bip rfl (by decide) ?_
                      refine q_call rfl rfl rfl rfl ?_
                      refine q_iload_n rfl rfl ?_
                      refine q_iload_n rfl rfl ?_
                      refine v_ic_lt_f (t := 14) rfl (by decide) (by omega) ?_
                      refine q_iload_n rfl rfl ?_
                      refine q_iload_n rfl rfl ?_
                      refine v_ic_gt_f (t := 14) rfl (by decide) (by omega) ?_
                      refine q_iconst rfl ?_
                      refine q_goto (t := 15) rfl (by decide) ?_
                      refine v_zret rfl rfl (by omega) ?_
                      refine bk_inl ?_
                      refine v_if_eq_f (t := 39) rfl (by decide) (by decide) ?_
                      refine q_iload_n rfl rfl ?_
                      refine q_iconst rfl ?_
                      refine v_bip rfl (by decide) ?_
                      refine q_call rfl rfl rfl rfl ?_
                      refine q_iload_n rfl rfl ?_
                      refine q_iload_n rfl rfl ?_
                      refine v_ic_lt_f (t := 14) rfl (by decide) (by omega) ?_
                      refine q_iload_n rfl rfl ?_
                      refine q_iload_n rfl rfl ?_
                      refine v_ic_gt_f (t := 14) rfl (by decide) (by omega) ?_
                      refine q_iconst rfl ?_
                      refine q_goto (t := 15) rfl (by decide) ?_
                      refine v_zret rfl rfl (by omega) ?_
                      refine bk_inl ?_
                      refine v_if_eq_f (t := 39) rfl (by decide) (by decide) ?_
                      refine q_iload_n rfl rfl ?_
                      refine q_iconst rfl ?_
                      refine q_iconst rfl ?_
                      refine q_call rfl rfl rfl rfl ?_
                      refine q_iload_n rfl rfl ?_
                      refine q_iload_n rfl rfl ?_
                      refine v_ic_lt_f (t := 14) rfl (by decide) (by omega) ?_
                      refine q_iload_n rfl rfl ?_
                      refine q_iload_n rfl rfl ?_
                      refine v_ic_gt_f (t := 14) rfl (by decide) (by omega) ?_
                      refine q_iconst rfl ?_
                      refine q_goto (t := 15) rfl (by decide) ?_
                      refine v_zret rfl rfl (by omega) ?_
                      refine bk_inl ?_
                      refine v_if_eq_f (t := 39) rfl (by decide) (by decide) ?_
                      refine q_iconst rfl ?_
                      refine q_goto (t := 40) rfl (by decide) ?_
                      refine q_iconst rfl ?_
                      refine q_iconst rfl ?_
                      refine v_cv rfl rfl rfl rfl (by decide) ⟨⟨rfl, rfl⟩, by decide, rfl⟩ (Nat.le_of_ble_eq_true rfl) (Nat.le_of_ble_eq_true rfl) ?_
                      refine q_iload_n rfl rfl ?_
                      refine v_if_ne_t (t := 26) rfl (by decide) (by decide) ?_
                      refine q_aload_n rfl rfl ?_
                      refine v_gi (z := 0) (v := 0) rfl rfl rfl (by decide) rfl rfl (up_e rfl) ?_
                      refine v_if_ne_f (t := 37) rfl (by decide) (by decide) ?_
                      refine q_iconst rfl ?_
                      refine q_goto (t := 38) rfl (by decide) ?_
                      refine v_zret rfl rfl (by omega) ?_
                      refine bk_inl ?_
                      refine v_if_ne_t (t := 50) rfl (by decide) (by decide) ?_
                      refine q_iconst rfl ?_
                      refine q_istore rfl (by decide) ?_
                      refine q_iconst rfl ?_
                      refine q_istore rfl (by decide) ?_
                      refine q_iconst rfl ?_
                      refine q_istore rfl (by decide) ?_
                      refine q_iload rfl rfl ?_
                      refine q_iconst rfl ?_
                      refine v_ic_ge_f (t := 156) rfl (by decide) (by decide) ?_
                      refine q_iload rfl rfl ?_
                      refine q_iconst rfl ?_
                      refine v_idiv (v := 0) rfl (by omega) (by decide) ?_
                      refine q_istore rfl (by decide) ?_
                      refine q_iload rfl rfl ?_
                      refine q_iconst rfl ?_
                      refine v_irem (v := 0) rfl (by omega) (by decide) ?_
                      refine q_istore rfl (by decide) ?_
                      refine Wp_ls [(8, vi 0), (7, vi 0), (6, vi 0), (5, vi (-1)), (4, vi 0), (0, .ref 41), (1, vi x1), (2, vi x2), (3, vi x3)] (lsub_cons rfl (lsub_cons rfl (lsub_cons rfl (lsub_cons rfl (lsub_cons rfl (lsub_cons rfl (lsub_cons rfl (lsub_cons rfl (lsub_cons rfl lsub_nil))))))))) ?_
                      refine q_iconst rfl ?_
                      refine q_iload rfl rfl ?_
                      refine v_isub (v := 1) rfl (by decide) ?_
                      refine q_iload rfl rfl ?_
                      refine q_iload_n rfl rfl ?_
                      refine q_iload_n rfl rfl ?_
                      refine q_call rfl rfl rfl rfl ?_
                      refine q_iload_n rfl rfl ?_
                      refine v_if_ne_t (t := 18) rfl (by decide) (by decide) ?_
                      refine q_iload_n rfl rfl ?_
                      refine q_iconst rfl ?_
                      refine v_ic_ne_t (t := 29) rfl (by decide) (by decide) ?_
                      refine q_iload_n rfl rfl ?_
                      refine q_iret rfl rfl ?_
                      refine bk_inl ?_
                      refine q_iload rfl rfl ?_
                      refine q_iload rfl rfl ?_
                      refine q_iload_n rfl rfl ?_
                      refine q_iload_n rfl rfl ?_
                      refine q_call rfl rfl rfl rfl ?_
                      refine q_iload_n rfl rfl ?_
                      refine v_if_ne_f (t := 18) rfl (by decide) (by decide) ?_
                      refine q_iload_n rfl rfl ?_
                      refine v_if_ne_f (t := 14) rfl (by decide) (by decide) ?_
                      refine q_iload_n rfl rfl ?_
                      refine q_iconst rfl ?_
                      refine v_idiv (v := (x1 / 2)) rfl (by omega) rfl ?_
                      refine q_goto (t := 30) rfl (by decide) ?_
                      refine q_iret rfl rfl ?_
                      refine bk_inl ?_
                      refine v_ic_gt_t (t := 150) rfl (by decide) (by omega) ?_
                      refine v_iinc (v := 1) rfl rfl (by decide) (by decide) ?_
                      refine q_goto (t := 59) rfl (by decide) ?_
                      refine q_iload rfl rfl ?_
                      refine q_iconst rfl ?_
                      refine v_ic_ge_f (t := 156) rfl (by decide) (by decide) ?_
                      refine q_iload rfl rfl ?_
                      refine q_iconst rfl ?_
                      refine v_idiv (v := 0) rfl (by omega) (by decide) ?_
                      refine q_istore rfl (by decide) ?_
                      refine q_iload rfl rfl ?_
                      refine q_iconst rfl ?_
                      refine v_irem (v := 1) rfl (by omega) (by decide) ?_
                      refine q_istore rfl (by decide) ?_
                      refine q_iconst rfl ?_
                      refine q_iload rfl rfl ?_
                      refine v_isub (v := 1) rfl (by decide) ?_
                      refine q_iload rfl rfl ?_
                      refine q_iload_n rfl rfl ?_
                      refine q_iload_n rfl rfl ?_
                      refine q_call rfl rfl rfl rfl ?_
                      refine q_iload_n rfl rfl ?_
                      refine v_if_ne_t (t := 18) rfl (by decide) (by decide) ?_
                      refine q_iload_n rfl rfl ?_
                      refine q_iconst rfl ?_
                      refine v_ic_ne_f (t := 29) rfl (by decide) (by decide) ?_
                      refine q_iload_n rfl rfl ?_
                      refine q_iconst rfl ?_
                      refine v_idiv (v := (x2 / 2)) rfl (by omega) rfl ?_
                      refine q_goto (t := 30) rfl (by decide) ?_
                      refine q_iret rfl rfl ?_
                      refine bk_inl ?_
                      refine q_iload rfl rfl ?_
                      refine q_iload rfl rfl ?_
                      refine q_iload_n rfl rfl ?_
                      refine q_iload_n rfl rfl ?_
                      refine q_call rfl rfl rfl rfl ?_
                      refine q_iload_n rfl rfl ?_
                      refine v_if_ne_f (t := 18) rfl (by decide) (by decide) ?_
                      refine q_iload_n rfl rfl ?_
                      refine v_if_ne_t (t := 14) rfl (by decide) (by decide) ?_
                      refine q_iload_n rfl rfl ?_
                      refine q_goto (t := 30) rfl (by decide) ?_
                      refine q_iret rfl rfl ?_
                      refine bk_inl ?_
                      refine v_ic_gt_f (t := 150) rfl (by decide) (by omega) ?_
                      refine q_iconst rfl ?_
                      refine q_iload rfl rfl ?_
                      refine v_isub (v := 0) rfl (by decide) ?_
                      refine q_iload rfl rfl ?_
                      refine q_iload_n rfl rfl ?_
                      refine q_iload_n rfl rfl ?_
                      refine q_call rfl rfl rfl rfl ?_
                      refine q_iload_n rfl rfl ?_
                      refine v_if_ne_f (t := 18) rfl (by decide) (by decide) ?_
                      refine q_iload_n rfl rfl ?_
                      refine v_if_ne_f (t := 14) rfl (by decide) (by decide) ?_
                      refine q_iload_n rfl rfl ?_
                      refine q_iconst rfl ?_
                      refine v_idiv (v := (x1 / 2)) rfl (by omega) rfl ?_
                      refine q_goto (t := 30) rfl (by decide) ?_
                      refine q_iret rfl rfl ?_
                      refine bk_inl ?_
                      refine q_iload rfl rfl ?_
                      refine q_iload rfl rfl ?_
                      refine q_iload_n rfl rfl ?_
                      refine q_iload_n rfl rfl ?_
                      refine q_call rfl rfl rfl rfl ?_
                      refine q_iload_n rfl rfl ?_
                      refine v_if_ne_t (t := 18) rfl (by decide) (by decide) ?_
                      refine q_iload_n rfl rfl ?_
                      refine q_iconst rfl ?_
                      refine v_ic_ne_t (t := 29) rfl (by decide) (by decide) ?_
                      refine q_iload_n rfl rfl ?_
                      refine q_iret rfl rfl ?_
                      refine bk_inl ?_
                      refine v_ic_le_t (t := 126) rfl (by decide) (by omega) ?_
                      refine v_iinc (v := 1) rfl rfl (by decide) (by decide) ?_
                      refine q_iload rfl rfl ?_
                      refine q_iconst rfl ?_
                      refine v_ic_ne_f (t := 146) rfl (by decide) (by decide) ?_
                      refine v_bip rfl (by decide) ?_
                      refine q_iload rfl rfl ?_
                      refine v_imul (v := 0) rfl (by decide) ?_
                      refine q_iload rfl rfl ?_
                      refine v_iadd (v := 1) rfl (by decide) ?_
                      refine q_goto (t := 148) rfl (by decide) ?_
                      refine q_istore rfl (by decide) ?_
                      refine Wp_ls [(5, vi 1), (4, vi 1), (8, vi 1), (7, vi 0), (6, vi 1), (0, .ref 41), (1, vi x1), (2, vi x2), (3, vi x3)] (lsub_cons rfl (lsub_cons rfl (lsub_cons rfl (lsub_cons rfl (lsub_cons rfl (lsub_cons rfl (lsub_cons rfl (lsub_cons rfl (lsub_cons rfl lsub_nil))))))))) ?_
                      refine v_iinc (v := 2) rfl rfl (by decide) (by decide) ?_
                      refine q_goto (t := 59) rfl (by decide) ?_
                      refine q_iload rfl rfl ?_
                      refine q_iconst rfl ?_
                      refine v_ic_ge_f (t := 156) rfl (by decide) (by decide) ?_
                      refine q_iload rfl rfl ?_
                      refine q_iconst rfl ?_
                      refine v_idiv (v := 1) rfl (by omega) (by decide) ?_
                      refine q_istore rfl (by decide) ?_
                      refine q_iload rfl rfl ?_
                      refine q_iconst rfl ?_
                      refine v_irem (v := 0) rfl (by omega) (by decide) ?_
                      refine q_istore rfl (by decide) ?_
                      refine q_iconst rfl ?_
                      refine q_iload rfl rfl ?_
                      refine v_isub (v := 0) rfl (by decide) ?_
                      refine q_iload rfl rfl ?_
                      refine q_iload_n rfl rfl ?_
                      refine q_iload_n rfl rfl ?_
                      refine q_call rfl rfl rfl rfl ?_
                      refine q_iload_n rfl rfl ?_
                      refine v_if_ne_f (t := 18) rfl (by decide) (by decide) ?_
                      refine q_iload_n rfl rfl ?_
                      refine v_if_ne_f (t := 14) rfl (by decide) (by decide) ?_
                      refine q_iload_n rfl rfl ?_
                      refine q_iconst rfl ?_
                      refine v_idiv (v := (x1 / 2)) rfl (by omega) rfl ?_
                      refine q_goto (t := 30) rfl (by decide) ?_
                      refine q_iret rfl rfl ?_
                      refine bk_inl ?_
                      refine q_iload rfl rfl ?_
                      refine q_iload rfl rfl ?_
                      refine q_iload_n rfl rfl ?_
                      refine q_iload_n rfl rfl ?_
                      refine q_call rfl rfl rfl rfl ?_
                      refine q_iload_n rfl rfl ?_
                      refine v_if_ne_t (t := 18) rfl (by decide) (by decide) ?_
                      refine q_iload_n rfl rfl ?_
                      refine q_iconst rfl ?_
                      refine v_ic_ne_t (t := 29) rfl (by decide) (by decide) ?_
                      refine q_iload_n rfl rfl ?_
                      refine q_iret rfl rfl ?_
                      refine bk_inl ?_
                      refine v_ic_gt_f (t := 150) rfl (by decide) (by omega) ?_
                      refine q_iconst rfl ?_
                      refine q_iload rfl rfl ?_
                      refine v_isub (v := 1) rfl (by decide) ?_
                      refine q_iload rfl rfl ?_
                      refine q_iload_n rfl rfl ?_
                      refine q_iload_n rfl rfl ?_
                      refine q_call rfl rfl rfl rfl ?_
                      refine q_iload_n rfl rfl ?_
                      refine v_if_ne_t (t := 18) rfl (by decide) (by decide) ?_
                      refine q_iload_n rfl rfl ?_
                      refine q_iconst rfl ?_
                      refine v_ic_ne_f (t := 29) rfl (by decide) (by decide) ?_
                      refine q_iload_n rfl rfl ?_
                      refine q_iconst rfl ?_
                      refine v_idiv (v := (x2 / 2)) rfl (by omega) rfl ?_
                      refine q_goto (t := 30) rfl (by decide) ?_
                      refine q_iret rfl rfl ?_
                      refine bk_inl ?_
                      refine q_iload rfl rfl ?_
                      refine q_iload rfl rfl ?_
                      refine q_iload_n rfl rfl ?_
                      refine q_iload_n rfl rfl ?_
                      refine q_call rfl rfl rfl rfl ?_
                      refine q_iload_n rfl rfl ?_
                      refine v_if_ne_f (t := 18) rfl (by decide) (by decide) ?_
                      refine q_iload_n rfl rfl ?_
                      refine v_if_ne_t (t := 14) rfl (by decide) (by decide) ?_
                      refine q_iload_n rfl rfl ?_
                      refine q_goto (t := 30) rfl (by decide) ?_
                      refine q_iret rfl rfl ?_
                      refine bk_inl ?_
                      refine v_ic_le_t (t := 126) rfl (by decide) (by omega) ?_
                      refine v_iinc (v := 2) rfl rfl (by decide) (by decide) ?_
                      refine q_iload rfl rfl ?_
                      refine q_iconst rfl ?_
                      refine v_ic_ne_t (t := 146) rfl (by decide) (by decide) ?_
                      refine q_iload rfl rfl ?_
                      refine q_istore rfl (by decide) ?_
                      refine Wp_ls [(5, vi 1), (4, vi 2), (8, vi 0), (7, vi 1), (6, vi 2), (0, .ref 41), (1, vi x1), (2, vi x2), (3, vi x3)] (lsub_cons rfl (lsub_cons rfl (lsub_cons rfl (lsub_cons rfl (lsub_cons rfl (lsub_cons rfl (lsub_cons rfl (lsub_cons rfl (lsub_cons rfl lsub_nil))))))))) ?_
                      refine v_iinc (v := 3) rfl rfl (by decide) (by decide) ?_
                      refine q_goto (t := 59) rfl (by decide) ?_
                      refine q_iload rfl rfl ?_
                      refine q_iconst rfl ?_
                      refine v_ic_ge_f (t := 156) rfl (by decide) (by decide) ?_
                      refine q_iload rfl rfl ?_
                      refine q_iconst rfl ?_
                      refine v_idiv (v := 1) rfl (by omega) (by decide) ?_
                      refine q_istore rfl (by decide) ?_
                      refine q_iload rfl rfl ?_
                      refine q_iconst rfl ?_
                      refine v_irem (v := 1) rfl (by omega) (by decide) ?_
                      refine q_istore rfl (by decide) ?_
                      refine q_iconst rfl ?_
                      refine q_iload rfl rfl ?_
                      refine v_isub (v := 0) rfl (by decide) ?_
                      refine q_iload rfl rfl ?_
                      refine q_iload_n rfl rfl ?_
                      refine q_iload_n rfl rfl ?_
                      refine q_call rfl rfl rfl rfl ?_
                      refine q_iload_n rfl rfl ?_
                      refine v_if_ne_f (t := 18) rfl (by decide) (by decide) ?_
                      refine q_iload_n rfl rfl ?_
                      refine v_if_ne_t (t := 14) rfl (by decide) (by decide) ?_
                      refine q_iload_n rfl rfl ?_
                      refine q_goto (t := 30) rfl (by decide) ?_
                      refine q_iret rfl rfl ?_
                      refine bk_inl ?_
                      refine q_iload rfl rfl ?_
                      refine q_iload rfl rfl ?_
                      refine q_iload_n rfl rfl ?_
                      refine q_iload_n rfl rfl ?_
                      refine q_call rfl rfl rfl rfl ?_
                      refine q_iload_n rfl rfl ?_
                      refine v_if_ne_t (t := 18) rfl (by decide) (by decide) ?_
                      refine q_iload_n rfl rfl ?_
                      refine q_iconst rfl ?_
                      refine v_ic_ne_f (t := 29) rfl (by decide) (by decide) ?_
                      refine q_iload_n rfl rfl ?_
                      refine q_iconst rfl ?_
                      refine v_idiv (v := (x2 / 2)) rfl (by omega) rfl ?_
                      refine q_goto (t := 30) rfl (by decide) ?_
                      refine q_iret rfl rfl ?_
                      refine bk_inl ?_
                      refine v_ic_gt_t (t := 150) rfl (by decide) (by omega) ?_
                      refine v_iinc (v := 4) rfl rfl (by decide) (by decide) ?_
                      refine q_goto (t := 59) rfl (by decide) ?_
                      refine q_iload rfl rfl ?_
                      refine q_iconst rfl ?_
                      refine v_ic_ge_t (t := 156) rfl (by decide) (by decide) ?_
                      refine q_iload_n rfl rfl ?_
                      refine v_if_ne_t (t := 165) rfl (by decide) (by omega) ?_
                      refine q_iload_n rfl rfl ?_
                      refine q_iconst rfl ?_
                      refine v_ic_ne_f (t := 175) rfl (by decide) (by omega) ?_
                      refine q_iload rfl rfl ?_
                      refine q_goto (t := 216) rfl (by decide) ?_
                      refine q_iret rfl rfl ?_
                      refine bk_inl ?_
                      refine q_istore rfl (by decide) ?_
                      refine q_aload_n rfl rfl ?_
                      refine v_cv rfl rfl rfl rfl (by decide) ⟨⟨rfl, rfl⟩, by decide, rfl⟩ (Nat.le_of_ble_eq_true rfl) (Nat.le_of_ble_eq_true rfl) ?_
                      refine q_aload_n rfl rfl ?_
                      refine v_gi (z := 0) (v := 0) rfl rfl rfl (by decide) rfl rfl (up_e rfl) ?_
                      refine q_iret rfl rfl ?_
                      refine bk_inl ?_
                      refine q_iload rfl rfl ?_
                      refine v_ic_eq_t (t := 1215) rfl (by decide) (by decide) ?_
                      refine q_iload rfl rfl ?_
                      refine v_if_ne_f (t := 1232) rfl (by decide) (by decide) ?_
                      refine q_aload_n rfl rfl ?_
                      refine q_iconst rfl ?_
                      refine v_la (v := 1) rfl rfl (by decide) (by decide) (by decide) ((up_c (by decide)).trans (up_e rfl)) ?_
                      refine q_iload rfl rfl ?_
                      refine v_i2l rfl (by omega) ?_
                      refine v_lcmp0 rfl (by omega) ?_
                      refine v_if_eq_t (t := 1232) rfl (by decide) (by decide) ?_
                      refine q_goto (t := 1844) rfl (by decide) ?_
                      refine Wp_ls [(4, vi (i0 : Int)), (3, .ref 67), (2, .ref 41), (1, .ref 0), (0, .ref a_SC)] (lsub_cons rfl (lsub_cons rfl (lsub_cons rfl (lsub_cons rfl (lsub_cons rfl lsub_nil))))) ?_
                      refine K (up (up c 67 0 1) 41 0 0) 0 (by decide) ?_ ?_ ?_
                      · intro a j h
                        exact ((up_b (by omega)).trans (up_b (by omega)))
                      · exact Eq.trans (b := c 0 13) ((up_c (by decide)).trans (up_c (by decide))) (show _ = c 0 13 + 0 by omega)
                      · exact Eq.trans (b := c 42 1) ((up_c (by decide)).trans (up_c (by decide))) (show _ = c 42 1 + 0 by omega)
                    refine v_lsw_o (t := 186) rfl (by omega) (by decide) (by simp [Op.lookupswitch.offset, Ne.symm (show x3 ≠ 0 by omega), Ne.symm (show x3 ≠ 1 by omega)]) (by decide) ?_
                    refine q_iload rfl rfl ?_
                    refine q_iret rfl rfl ?_
                    refine bk_inl ?_
                    refine v_i2l rfl (by omega) ?_
                    refine v_ls rfl rfl (by decide) (by decide) (by decide) ?_
                    refine q_goto (t := 19) rfl (by decide) ?_
                    refine q_iconst rfl ?_
                    refine q_iret rfl rfl ?_
                    refine bk_inl ?_
                    refine q_istore rfl (by decide) ?_
                    refine q_aload_n rfl rfl ?_
                    refine q_aload_n rfl rfl ?_
                    refine q_iload rfl rfl ?_
                    refine q_iconst rfl ?_
                    refine v_iadd (v := (i0 : Int) + 1) rfl (by omega) ?_
                    refine v_scr (j := i0 + 1) rfl (by omega) (by omega) hL hx1 ?_
                    refine q_aload_n rfl rfl ?_
                    refine q_iload rfl rfl ?_
                    refine q_iconst rfl ?_
                    refine v_iadd (v := (i0 : Int) + 2) rfl (by omega) ?_
                    refine v_scr (j := i0 + 2) rfl (by omega) (by omega) hL hx2 ?_
                    refine q_aload_n rfl rfl ?_
                    refine q_iload rfl rfl ?_
                    refine q_iconst rfl ?_
                    refine v_iadd (v := (i0 : Int) + 3) rfl (by omega) ?_
                    refine v_scr (j := i0 + 3) rfl (by omega) (by omega) hL hx3 ?_
                    refine v_cv rfl rfl rfl rfl (by decide) ⟨⟨rfl, rfl⟩, by decide, rfl⟩ (Nat.le_of_ble_eq_true rfl) (Nat.le_of_ble_eq_true rfl) ?_
                    refine q_aload_n rfl rfl ?_
                    refine q_iconst rfl ?_
                    refine v_pi (z := 0) rfl rfl rfl (by decide) rfl rfl rfl (by decide) ?_
                    refine q_aload_n rfl rfl ?_
                    refine q_iload_n rfl rfl ?_
                    refine q_iconst rfl ?_
                    refine v_bip rfl (by decide) ?_
                    refine q_call rfl rfl rfl rfl ?_
                    refine q_iload_n rfl rfl ?_
                    refine q_iload_n rfl rfl ?_
                    refine v_ic_lt_f (t := 14) rfl (by decide) (by omega) ?_
                    refine q_iload_n rfl rfl ?_
                    refine q_iload_n rfl rfl ?_
                    refine v_ic_gt_f (t := 14) rfl (by decide) (by omega) ?_
                    refine q_iconst rfl ?_
                    refine q_goto (t := 15) rfl (by decide) ?_
                    refine v_zret rfl rfl (by omega) ?_
                    refine bk_inl ?_
                    refine v_if_eq_f (t := 39) rfl (by decide) (by decide) ?_
                    refine q_iload_n rfl rfl ?_
                    refine q_iconst rfl ?_
                    refine v_bip rfl (by decide) ?_
                    refine q_call rfl rfl rfl rfl ?_
                    refine q_iload_n rfl rfl ?_
                    refine q_iload_n rfl rfl ?_
                    refine v_ic_lt_f (t := 14) rfl (by decide) (by omega) ?_
                    refine q_iload_n rfl rfl ?_
                    refine q_iload_n rfl rfl ?_
                    refine v_ic_gt_f (t := 14) rfl (by decide) (by omega) ?_
                    refine q_iconst rfl ?_
                    refine q_goto (t := 15) rfl (by decide) ?_
                    refine v_zret rfl rfl (by omega) ?_
                    refine bk_inl ?_
                    refine v_if_eq_f (t := 39) rfl (by decide) (by decide) ?_
                    refine q_iload_n rfl rfl ?_
                    refine q_iconst rfl ?_
                    refine q_iconst rfl ?_
                    refine q_call rfl rfl rfl rfl ?_
                    refine q_iload_n rfl rfl ?_
                    refine q_iload_n rfl rfl ?_
                    refine v_ic_lt_f (t := 14) rfl (by decide) (by omega) ?_
                    refine q_iload_n rfl rfl ?_
                    refine q_iload_n rfl rfl ?_
                    refine v_ic_gt_f (t := 14) rfl (by decide) (by omega) ?_
                    refine q_iconst rfl ?_
                    refine q_goto (t := 15) rfl (by decide) ?_
                    refine v_zret rfl rfl (by omega) ?_
                    refine bk_inl ?_
                    refine v_if_eq_f (t := 39) rfl (by decide) (by decide) ?_
                    refine q_iconst rfl ?_
                    refine q_goto (t := 40) rfl (by decide) ?_
                    refine q_iconst rfl ?_
                    refine q_iconst rfl ?_
                    refine v_cv rfl rfl rfl rfl (by decide) ⟨⟨rfl, rfl⟩, by decide, rfl⟩ (Nat.le_of_ble_eq_true rfl) (Nat.le_of_ble_eq_true rfl) ?_
                    refine q_iload_n rfl rfl ?_
                    refine v_if_ne_t (t := 26) rfl (by decide) (by decide) ?_
                    refine q_aload_n rfl rfl ?_
                    refine v_gi (z := 0) (v := 0) rfl rfl rfl (by decide) rfl rfl (up_e rfl) ?_
                    refine v_if_ne_f (t := 37) rfl (by decide) (by decide) ?_
                    refine q_iconst rfl ?_
                    refine q_goto (t := 38) rfl (by decide) ?_
                    refine v_zret rfl rfl (by omega) ?_
                    refine bk_inl ?_
                    refine v_if_ne_t (t := 50) rfl (by decide) (by decide) ?_
                    refine q_iconst rfl ?_
                    refine q_istore rfl (by decide) ?_
                    refine q_iconst rfl ?_
                    refine q_istore rfl (by decide) ?_
                    refine q_iconst rfl ?_
                    refine q_istore rfl (by decide) ?_
                    refine q_iload rfl rfl ?_
                    refine q_iconst rfl ?_
                    refine v_ic_ge_f (t := 156) rfl (by decide) (by decide) ?_
                    refine q_iload rfl rfl ?_
                    refine q_iconst rfl ?_
                    refine v_idiv (v := 0) rfl (by omega) (by decide) ?_
                    refine q_istore rfl (by decide) ?_
                    refine q_iload rfl rfl ?_
                    refine q_iconst rfl ?_
                    refine v_irem (v := 0) rfl (by omega) (by decide) ?_
                    refine q_istore rfl (by decide) ?_
                    refine Wp_ls [(8, vi 0), (7, vi 0), (6, vi 0), (5, vi (-1)), (4, vi 0), (0, .ref 41), (1, vi x1), (2, vi x2), (3, vi x3)] (lsub_cons rfl (lsub_cons rfl (lsub_cons rfl (lsub_cons rfl (lsub_cons rfl (lsub_cons rfl (lsub_cons rfl (lsub_cons rfl (lsub_cons rfl lsub_nil))))))))) ?_
                    refine q_iconst rfl ?_
                    refine q_iload rfl rfl ?_
                    refine v_isub (v := 1) rfl (by decide) ?_
                    refine q_iload rfl rfl ?_
                    refine q_iload_n rfl rfl ?_
                    refine q_iload_n rfl rfl ?_
                    refine q_call rfl rfl rfl rfl ?_
                    refine q_iload_n rfl rfl ?_
                    refine v_if_ne_t (t := 18) rfl (by decide) (by decide) ?_
                    refine q_iload_n rfl rfl ?_
                    refine q_iconst rfl ?_
                    refine v_ic_ne_t (t := 29) rfl (by decide) (by decide) ?_
                    refine q_iload_n rfl rfl ?_
                    refine q_iret rfl rfl ?_
                    refine bk_inl ?_
                    refine q_iload rfl rfl ?_
                    refine q_iload rfl rfl ?_
                    refine q_iload_n rfl rfl ?_
                    refine q_iload_n rfl rfl ?_
                    refine q_call rfl rfl rfl rfl ?_
                    refine q_iload_n rfl rfl ?_
                    refine v_if_ne_f (t := 18) rfl (by decide) (by decide) ?_
                    refine q_iload_n rfl rfl ?_
                    refine v_if_ne_f (t := 14) rfl (by decide) (by decide) ?_
                    refine q_iload_n rfl rfl ?_
                    refine q_iconst rfl ?_
                    refine v_idiv (v := (x1 / 2)) rfl (by omega) rfl ?_
                    refine q_goto (t := 30) rfl (by decide) ?_
                    refine q_iret rfl rfl ?_
                    refine bk_inl ?_
                    refine v_ic_gt_t (t := 150) rfl (by decide) (by omega) ?_
                    refine v_iinc (v := 1) rfl rfl (by decide) (by decide) ?_
                    refine q_goto (t := 59) rfl (by decide) ?_
                    refine q_iload rfl rfl ?_
                    refine q_iconst rfl ?_
                    refine v_ic_ge_f (t := 156) rfl (by decide) (by decide) ?_
                    refine q_iload rfl rfl ?_
                    refine q_iconst rfl ?_
                    refine v_idiv (v := 0) rfl (by omega) (by decide) ?_
                    refine q_istore rfl (by decide) ?_
                    refine q_iload rfl rfl ?_
                    refine q_iconst rfl ?_
                    refine v_irem (v := 1) rfl (by omega) (by decide) ?_
                    refine q_istore rfl (by decide) ?_
                    refine q_iconst rfl ?_
                    refine q_iload rfl rfl ?_
                    refine v_isub (v := 1) rfl (by decide) ?_
                    refine q_iload rfl rfl ?_
                    refine q_iload_n rfl rfl ?_
                    refine q_iload_n rfl rfl ?_
                    refine q_call rfl rfl rfl rfl ?_
                    refine q_iload_n rfl rfl ?_
                    refine v_if_ne_t (t := 18) rfl (by decide) (by decide) ?_
                    refine q_iload_n rfl rfl ?_
                    refine q_iconst rfl ?_
                    refine v_ic_ne_f (t := 29) rfl (by decide) (by decide) ?_
                    refine q_iload_n rfl rfl ?_
                    refine q_iconst rfl ?_
                    refine v_idiv (v := (x2 / 2)) rfl (by omega) rfl ?_
                    refine q_goto (t := 30) rfl (by decide) ?_
                    refine q_iret rfl rfl ?_
                    refine bk_inl ?_
                    refine q_iload rfl rfl ?_
                    refine q_iload rfl rfl ?_
                    refine q_iload_n rfl rfl ?_
                    refine q_iload_n rfl rfl ?_
                    refine q_call rfl rfl rfl rfl ?_
                    refine q_iload_n rfl rfl ?_
                    refine v_if_ne_f (t := 18) rfl (by decide) (by decide) ?_
                    refine q_iload_n rfl rfl ?_
                    refine v_if_ne_t (t := 14) rfl (by decide) (by decide) ?_
                    refine q_iload_n rfl rfl ?_
                    refine q_goto (t := 30) rfl (by decide) ?_
                    refine q_iret rfl rfl ?_
                    refine bk_inl ?_
                    refine v_ic_gt_f (t := 150) rfl (by decide) (by omega) ?_
                    refine q_iconst rfl ?_
                    refine q_iload rfl rfl ?_
                    refine v_isub (v := 0) rfl (by decide) ?_
                    refine q_iload rfl rfl ?_
                    refine q_iload_n rfl rfl ?_
                    refine q_iload_n rfl rfl ?_
                    refine q_call rfl rfl rfl rfl ?_
                    refine q_iload_n rfl rfl ?_
                    refine v_if_ne_f (t := 18) rfl (by decide) (by decide) ?_
                    refine q_iload_n rfl rfl ?_
                    refine v_if_ne_f (t := 14) rfl (by decide) (by decide) ?_
                    refine q_iload_n rfl rfl ?_
                    refine q_iconst rfl ?_
                    refine v_idiv (v := (x1 / 2)) rfl (by omega) rfl ?_
                    refine q_goto (t := 30) rfl (by decide) ?_
                    refine q_iret rfl rfl ?_
                    refine bk_inl ?_
                    refine q_iload rfl rfl ?_
                    refine q_iload rfl rfl ?_
                    refine q_iload_n rfl rfl ?_
                    refine q_iload_n rfl rfl ?_
                    refine q_call rfl rfl rfl rfl ?_
                    refine q_iload_n rfl rfl ?_
                    refine v_if_ne_t (t := 18) rfl (by decide) (by decide) ?_
                    refine q_iload_n rfl rfl ?_
                    refine q_iconst rfl ?_
                    refine v_ic_ne_t (t := 29) rfl (by decide) (by decide) ?_
                    refine q_iload_n rfl rfl ?_
                    refine q_iret rfl rfl ?_
                    refine bk_inl ?_
                    refine v_ic_le_t (t := 126) rfl (by decide) (by omega) ?_
                    refine v_iinc (v := 1) rfl rfl (by decide) (by decide) ?_
                    refine q_iload rfl rfl ?_
                    refine q_iconst rfl ?_
                    refine v_ic_ne_f (t := 146) rfl (by decide) (by decide) ?_
                    refine v_bip rfl (by decide) ?_
                    refine q_iload rfl rfl ?_
                    refine v_imul (v := 0) rfl (by decide) ?_
                    refine q_iload rfl rfl ?_
                    refine v_iadd (v := 1) rfl (by decide) ?_
                    refine q_goto (t := 148) rfl (by decide) ?_
                    refine q_istore rfl (by decide) ?_
                    refine Wp_ls [(5, vi 1), (4, vi 1), (8, vi 1), (7, vi 0), (6, vi 1), (0, .ref 41), (1, vi x1), (2, vi x2), (3, vi x3)] (lsub_cons rfl (lsub_cons rfl (lsub_cons rfl (lsub_cons rfl (lsub_cons rfl (lsub_cons rfl (lsub_cons rfl (lsub_cons rfl (lsub_cons rfl lsub_nil))))))))) ?_
                    refine v_iinc (v := 2) rfl rfl (by decide) (by decide) ?_
                    refine q_goto (t := 59) rfl (by decide) ?_
                    refine q_iload rfl rfl ?_
                    refine q_iconst rfl ?_
                    refine v_ic_ge_f (t := 156) rfl (by decide) (by decide) ?_
                    refine q_iload rfl rfl ?_
                    refine q_iconst rfl ?_
                    refine v_idiv (v := 1) rfl (by omega) (by decide) ?_
                    refine q_istore rfl (by decide) ?_
                    refine q_iload rfl rfl ?_
                    refine q_iconst rfl ?_
                    refine v_irem (v := 0) rfl (by omega) (by decide) ?_
                    refine q_istore rfl (by decide) ?_
                    refine q_iconst rfl ?_
                    refine q_iload rfl rfl ?_
                    refine v_isub (v := 0) rfl (by decide) ?_
                    refine q_iload rfl rfl ?_
                    refine q_iload_n rfl rfl ?_
                    refine q_iload_n rfl rfl ?_
                    refine q_call rfl rfl rfl rfl ?_
                    refine q_iload_n rfl rfl ?_
                    refine v_if_ne_f (t := 18) rfl (by decide) (by decide) ?_
                    refine q_iload_n rfl rfl ?_
                    refine v_if_ne_f (t := 14) rfl (by decide) (by decide) ?_
                    refine q_iload_n rfl rfl ?_
                    refine q_iconst rfl ?_
                    refine v_idiv (v := (x1 / 2)) rfl (by omega) rfl ?_
                    refine q_goto (t := 30) rfl (by decide) ?_
                    refine q_iret rfl rfl ?_
                    refine bk_inl ?_
                    refine q_iload rfl rfl ?_
                    refine q_iload rfl rfl ?_
                    refine q_iload_n rfl rfl ?_
                    refine q_iload_n rfl rfl ?_
                    refine q_call rfl rfl rfl rfl ?_
                    refine q_iload_n rfl rfl ?_
                    refine v_if_ne_t (t := 18) rfl (by decide) (by decide) ?_
                    refine q_iload_n rfl rfl ?_
                    refine q_iconst rfl ?_
                    refine v_ic_ne_t (t := 29) rfl (by decide) (by decide) ?_
                    refine q_iload_n rfl rfl ?_
                    refine q_iret rfl rfl ?_
                    refine bk_inl ?_
                    refine v_ic_gt_f (t := 150) rfl (by decide) (by omega) ?_
                    refine q_iconst rfl ?_
                    refine q_iload rfl rfl ?_
                    refine v_isub (v := 1) rfl (by decide) ?_
                    refine q_iload rfl rfl ?_
                    refine q_iload_n rfl rfl ?_
                    refine q_iload_n rfl rfl ?_
                    refine q_call rfl rfl rfl rfl ?_
                    refine q_iload_n rfl rfl ?_
                    refine v_if_ne_t (t := 18) rfl (by decide) (by decide) ?_
                    refine q_iload_n rfl rfl ?_
                    refine q_iconst rfl ?_
                    refine v_ic_ne_f (t := 29) rfl (by decide) (by decide) ?_
                    refine q_iload_n rfl rfl ?_
                    refine q_iconst rfl ?_
                    refine v_idiv (v := (x2 / 2)) rfl (by omega) rfl ?_
                    refine q_goto (t := 30) rfl (by decide) ?_
                    refine q_iret rfl rfl ?_
                    refine bk_inl ?_
                    refine q_iload rfl rfl ?_
                    refine q_iload rfl rfl ?_
                    refine q_iload_n rfl rfl ?_
                    refine q_iload_n rfl rfl ?_
                    refine q_call rfl rfl rfl rfl ?_
                    refine q_iload_n rfl rfl ?_
                    refine v_if_ne_f (t := 18) rfl (by decide) (by decide) ?_
                    refine q_iload_n rfl rfl ?_
                    refine v_if_ne_t (t := 14) rfl (by decide) (by decide) ?_
                    refine q_iload_n rfl rfl ?_
                    refine q_goto (t := 30) rfl (by decide) ?_
                    refine q_iret rfl rfl ?_
                    refine bk_inl ?_
                    refine v_ic_le_t (t := 126) rfl (by decide) (by omega) ?_
                    refine v_iinc (v := 2) rfl rfl (by decide) (by decide) ?_
                    refine q_iload rfl rfl ?_
                    refine q_iconst rfl ?_
                    refine v_ic_ne_t (t := 146) rfl (by decide) (by decide) ?_
                    refine q_iload rfl rfl ?_
                    refine q_istore rfl (by decide) ?_
                    refine Wp_ls [(5, vi 1), (4, vi 2), (8, vi 0), (7, vi 1), (6, vi 2), (0, .ref 41), (1, vi x1), (2, vi x2), (3, vi x3)] (lsub_cons rfl (lsub_cons rfl (lsub_cons rfl (lsub_cons rfl (lsub_cons rfl (lsub_cons rfl (lsub_cons rfl (lsub_cons rfl (lsub_cons rfl lsub_nil))))))))) ?_
                    refine v_iinc (v := 3) rfl rfl (by decide) (by decide) ?_
                    refine q_goto (t := 59) rfl (by decide) ?_
                    refine q_iload rfl rfl ?_
                    refine q_iconst rfl ?_
                    refine v_ic_ge_f (t := 156) rfl (by decide) (by decide) ?_
                    refine q_iload rfl rfl ?_
                    refine q_iconst rfl ?_
                    refine v_idiv (v := 1) rfl (by omega) (by decide) ?_
                    refine q_istore rfl (by decide) ?_
                    refine q_iload rfl rfl ?_
                    refine q_iconst rfl ?_
                    refine v_irem (v := 1) rfl (by omega) (by decide) ?_
                    refine q_istore rfl (by decide) ?_
                    refine q_iconst rfl ?_
                    refine q_iload rfl rfl ?_
                    refine v_isub (v := 0) rfl (by decide) ?_
                    refine q_iload rfl rfl ?_
                    refine q_iload_n rfl rfl ?_
                    refine q_iload_n rfl rfl ?_
                    refine q_call rfl rfl rfl rfl ?_
                    refine q_iload_n rfl rfl ?_
                    refine v_if_ne_f (t := 18) rfl (by decide) (by decide) ?_
                    refine q_iload_n rfl rfl ?_
                    refine v_if_ne_t (t := 14) rfl (by decide) (by decide) ?_
                    refine q_iload_n rfl rfl ?_
                    refine q_goto (t := 30) rfl (by decide) ?_
                    refine q_iret rfl rfl ?_
                    refine bk_inl ?_
                    refine q_iload rfl rfl ?_
                    refine q_iload rfl rfl ?_
                    refine q_iload_n rfl rfl ?_
                    refine q_iload_n rfl rfl ?_
                    refine q_call rfl rfl rfl rfl ?_
                    refine q_iload_n rfl rfl ?_
                    refine v_if_ne_t (t := 18) rfl (by decide) (by decide) ?_
                    refine q_iload_n rfl rfl ?_
                    refine q_iconst rfl ?_
                    refine v_ic_ne_f (t := 29) rfl (by decide) (by decide) ?_
                    refine q_iload_n rfl rfl ?_
                    refine q_iconst rfl ?_
                    refine v_idiv (v := (x2 / 2)) rfl (by omega) rfl ?_
                    refine q_goto (t := 30) rfl (by decide) ?_
                    refine q_iret rfl rfl ?_
                    refine bk_inl ?_
                    refine v_ic_gt_t (t := 150) rfl (by decide) (by omega) ?_
                    refine v_iinc (v := 4) rfl rfl (by decide) (by decide) ?_
                    refine q_goto (t := 59) rfl (by decide) ?_
                    refine q_iload rfl rfl ?_
                    refine q_iconst rfl ?_
                    refine v_ic_ge_t (t := 156) rfl (by decide) (by decide) ?_
                    refine q_iload_n rfl rfl ?_
                    refine v_if_ne_t (t := 165) rfl (by decide) (by omega) ?_
                    refine q_iload_n rfl rfl ?_
                    refine q_iconst rfl ?_
                    refine v_ic_ne_t (t := 175) rfl (by decide) (by omega) ?_
                    refine q_iload rfl rfl ?_
                    refine q_iconst rfl ?_
                    refine v_ic_ne_t (t := 185) rfl (by decide) (by decide) ?_
                    refine q_iload rfl rfl ?_
                    refine v_bip rfl (by decide) ?_
                    refine v_idiv (v := 0) rfl (by omega) (by decide) ?_
                    refine q_iload rfl rfl ?_
                    refine v_bip rfl (by decide) ?_
                    refine v_irem (v := 1) rfl (by omega) (by decide) ?_
                    refine q_iload_n rfl rfl ?_
                    refine q_iload_n rfl rfl ?_
                    refine q_call rfl rfl rfl rfl ?_
                    refine q_iload_n rfl rfl ?_
                    refine v_if_ne_f (t := 18) rfl (by decide) (by decide) ?_
                    refine q_iload_n rfl rfl ?_
                    refine v_if_ne_t (t := 14) rfl (by decide) (by decide) ?_
                    refine q_iload_n rfl rfl ?_
                    refine q_goto (t := 30) rfl (by decide) ?_
                    refine q_iret rfl rfl ?_
                    refine bk_inl ?_
                    refine q_iload rfl rfl ?_
                    refine v_bip rfl (by decide) ?_
                    refine v_irem (v := 1) rfl (by omega) (by decide) ?_
                    refine q_iload rfl rfl ?_
                    refine v_bip rfl (by decide) ?_
                    refine v_idiv (v := 0) rfl (by omega) (by decide) ?_
                    refine q_iload_n rfl rfl ?_
                    refine q_iload_n rfl rfl ?_
                    refine q_call rfl rfl rfl rfl ?_
                    refine q_iload_n rfl rfl ?_
                    refine v_if_ne_t (t := 18) rfl (by decide) (by decide) ?_
                    refine q_iload_n rfl rfl ?_
                    refine q_iconst rfl ?_
                    refine v_ic_ne_t (t := 29) rfl (by decide) (by decide) ?_
                    refine q_iload_n rfl rfl ?_
                    refine q_iret rfl rfl ?_
                    refine bk_inl ?_
                    refine v_iadd (v := x1 + x2) rfl (by omega) ?_
                    refine q_iret rfl rfl ?_
                    refine bk_inl ?_
                    refine q_istore rfl (by decide) ?_
                    refine q_aload_n rfl rfl ?_
                    refine v_cv rfl rfl rfl rfl (by decide) ⟨⟨rfl, rfl⟩, by decide, rfl⟩ (Nat.le_of_ble_eq_true rfl) (Nat.le_of_ble_eq_true rfl) ?_
                    refine q_aload_n rfl rfl ?_
                    refine v_gi (z := 0) (v := 0) rfl rfl rfl (by decide) rfl rfl (up_e rfl) ?_
                    refine q_iret rfl rfl ?_
                    refine bk_inl ?_
                    refine q_iload rfl rfl ?_
                    refine v_ic_eq_t (t := 1215) rfl (by decide) (by decide) ?_
                    refine q_iload rfl rfl ?_
                    refine v_if_ne_f (t := 1232) rfl (by decide) (by decide) ?_
                    refine q_aload_n rfl rfl ?_
                    refine q_iconst rfl ?_
                    refine v_la (v := x1 + x2) rfl rfl (by decide) (by decide) (by decide) ((up_c (by decide)).trans (up_e rfl)) ?_
                    refine q_iload rfl rfl ?_
                    refine v_i2l rfl (by omega) ?_
                    refine v_lcmp0 rfl (by omega) ?_
                    refine v_if_eq_t (t := 1232) rfl (by decide) (by decide) ?_
                    refine q_goto (t := 1844) rfl (by decide) ?_
                    refine Wp_ls [(4, vi (i0 : Int)), (3, .ref 67), (2, .ref 41), (1, .ref 0), (0, .ref a_SC)] (lsub_cons rfl (lsub_cons rfl (lsub_cons rfl (lsub_cons rfl (lsub_cons rfl lsub_nil))))) ?_
                    refine K (up (up c 67 0 (x1 + x2)) 41 0 0) 0 (by decide) ?_ ?_ ?_
                    · intro a j h
                      exact ((up_b (by omega)).trans (up_b (by omega)))
                    · exact Eq.trans (b := c 0 13) ((up_c (by decide)).trans (up_c (by decide))) (show _ = c 0 13 + 0 by omega)
                    · exact Eq.trans (b := c 42 1) ((up_c (by decide)).trans (up_c (by decide))) (show _ = c 42 1 + 0 by omega)
                  · refine v_ic_gt_f (t := 147) rfl (by decide) (by omega) ?_
                    refine q_iconst rfl ?_
                    refine q_iload rfl rfl ?_
                    refine v_isub (v := 0) rfl (by decide) ?_
                    refine q_iload rfl rfl ?_
                    refine q_iload_n rfl rfl ?_
                    refine q_iload_n rfl rfl ?_
                    refine q_call rfl rfl rfl rfl ?_
                    refine q_iload_n rfl rfl ?_
                    refine v_if_ne_f (t := 8) rfl (by decide) (by decide) ?_
                    refine q_iload_n rfl rfl ?_
                    refine q_goto (t := 9) rfl (by decide) ?_
                    refine q_istore rfl (by decide) ?_
                    refine q_iload_n rfl rfl ?_
                    refine q_iload_n rfl rfl ?_
                    refine v_ic_ne_t (t := 23) rfl (by decide) (by decide) ?_
                    refine q_iload rfl rfl ?_
                    refine q_iret rfl rfl ?_
                    refine bk_inl ?_
                    refine q_iload rfl rfl ?_
                    refine v_ic_gt_f (t := 147) rfl (by decide) (by omega) ?_
                    refine q_iload rfl rfl ?_
                    refine v_if_ne_t (t := 144) rfl (by decide) (by decide) ?_
                    refine v_iinc (v := 3) rfl rfl (by decide) (by decide) ?_
                    refine v_iinc (v := 4) rfl rfl (by decide) (by decide) ?_
                    refine q_goto (t := 50) rfl (by decide) ?_
                    refine q_iload rfl rfl ?_
                    refine q_iconst rfl ?_
                    refine v_ic_ge_t (t := 153) rfl (by decide) (by decide) ?_
                    refine q_iload_n rfl rfl ?_
                    by_cases h_14 : x3 = 0
                    · refine v_lsw (t := 180) (off := 26) 0 rfl (by omega) (by decide) (by decide) (by decide) (by decide) ?_
                      refine q_iload rfl rfl ?_
                      refine q_iret rfl rfl ?_
                      refine bk_inl ?_
                      refine v_i2l rfl (by omega) ?_
                      refine v_ls rfl rfl (by decide) (by decide) (by decide) ?_
                      refine q_goto (t := 19) rfl (by decide) ?_
                      refine q_iconst rfl ?_
                      refine q_iret rfl rfl ?_
                      refine bk_inl ?_
                      refine q_istore rfl (by decide) ?_
                      refine q_aload_n rfl rfl ?_
                      refine q_aload_n rfl rfl ?_
                      refine q_iload rfl rfl ?_
                      refine q_iconst rfl ?_
                      refine v_iadd (v := (i0 : Int) + 1) rfl (by omega) ?_
                      refine v_scr (j := i0 + 1) rfl (by omega) (by omega) hL hx1 ?_
                      refine q_aload_n rfl rfl ?_
                      refine q_iload rfl rfl ?_
                      refine q_iconst rfl ?_
                      refine v_iadd (v := (i0 : Int) + 2) rfl (by omega) ?_
                      refine v_scr (j := i0 + 2) rfl (by omega) (by omega) hL hx2 ?_
                      refine q_aload_n rfl rfl ?_
                      refine q_iload rfl rfl ?_
                      refine q_iconst rfl ?_
                      refine v_iadd (v := (i0 : Int) + 3) rfl (by omega) ?_
                      refine v_scr (j := i0 + 3) rfl (by omega) (by omega) hL hx3 ?_
                      refine v_cv rfl rfl rfl rfl (by decide) ⟨⟨rfl, rfl⟩, by decide, rfl⟩ (Nat.le_of_ble_eq_true rfl) (Nat.le_of_ble_eq_true rfl) ?_
                      refine q_aload_n rfl rfl ?_
                      refine q_iconst rfl ?_
                      refine v_pi (z := 0) rfl rfl rfl (by decide) rfl rfl rfl (by decide) ?_
                      refine q_aload_n rfl rfl ?_
                      refine q_iload_n rfl rfl ?_
                      refine q_iconst rfl ?_
                      refine v_bip rfl (by decide) ?_
                      refine q_call rfl rfl rfl rfl ?_
                      refine q_iload_n rfl rfl ?_
                      refine q_iload_n rfl rfl ?_
                      refine v_ic_lt_f (t := 14) rfl (by decide) (by omega) ?_
                      refine q_iload_n rfl rfl ?_
                      refine q_iload_n rfl rfl ?_
                      refine v_ic_gt_f (t := 14) rfl (by decide) (by omega) ?_
                      refine q_iconst rfl ?_
                      refine q_goto (t := 15) rfl (by decide) ?_
                      refine v_zret rfl rfl (by omega) ?_
                      refine bk_inl ?_
                      refine v_if_eq_f (t := 39) rfl (by decide) (by decide) ?_
                      refine q_iload_n rfl rfl ?_
                      refine q_iconst rfl ?_
                      refine v_bip rfl (by decide) ?_
                      refine q_call rfl rfl rfl rfl ?_
                      refine q_iload_n rfl rfl ?_
                      refine q_iload_n rfl rfl ?_
                      refine v_ic_lt_f (t := 14) rfl (by decide) (by omega) ?_
                      refine q_iload_n rfl rfl ?_
                      refine q_iload_n rfl rfl ?_
                      refine v_ic_gt_f (t := 14) rfl (by decide) (by omega) ?_
                      refine q_iconst rfl ?_
                      refine q_goto (t := 15) rfl (by decide) ?_
                      refine v_zret rfl rfl (by omega) ?_
                      refine bk_inl ?_
                      refine v_if_eq_f (t := 39) rfl (by decide) (by decide) ?_
                      refine q_iload_n rfl rfl ?_
                      refine q_iconst rfl ?_
                      refine q_iconst rfl ?_
                      refine q_call rfl rfl rfl rfl ?_
                      refine q_iload_n rfl rfl ?_
                      refine q_iload_n rfl rfl ?_
                      refine v_ic_lt_f (t := 14) rfl (by decide) (by omega) ?_
                      refine q_iload_n rfl rfl ?_
                      refine q_iload_n rfl rfl ?_
                      refine v_ic_gt_f (t := 14) rfl (by decide) (by omega) ?_
                      refine q_iconst rfl ?_
                      refine q_goto (t := 15) rfl (by decide) ?_
                      refine v_zret rfl rfl (by omega) ?_
                      refine bk_inl ?_
                      refine v_if_eq_f (t := 39) rfl (by decide) (by decide) ?_
                      refine q_iconst rfl ?_
                      refine q_goto (t := 40) rfl (by decide) ?_
                      refine q_iconst rfl ?_
                      refine q_iconst rfl ?_
                      refine v_cv rfl rfl rfl rfl (by decide) ⟨⟨rfl, rfl⟩, by decide, rfl⟩ (Nat.le_of_ble_eq_true rfl) (Nat.le_of_ble_eq_true rfl) ?_
                      refine q_iload_n rfl rfl ?_
                      refine v_if_ne_t (t := 26) rfl (by decide) (by decide) ?_
                      refine q_aload_n rfl rfl ?_
                      refine v_gi (z := 0) (v := 0) rfl rfl rfl (by decide) rfl rfl (up_e rfl) ?_
                      refine v_if_ne_f (t := 37) rfl (by decide) (by decide) ?_
                      refine q_iconst rfl ?_
                      refine q_goto (t := 38) rfl (by decide) ?_
                      refine v_zret rfl rfl (by omega) ?_
                      refine bk_inl ?_
                      refine v_if_ne_t (t := 50) rfl (by decide) (by decide) ?_
                      refine q_iconst rfl ?_
                      refine q_istore rfl (by decide) ?_
                      refine q_iconst rfl ?_
                      refine q_istore rfl (by decide) ?_
                      refine q_iconst rfl ?_
                      refine q_istore rfl (by decide) ?_
                      refine q_iload rfl rfl ?_
                      refine q_iconst rfl ?_
                      refine v_ic_ge_f (t := 156) rfl (by decide) (by decide) ?_
                      refine q_iload rfl rfl ?_
                      refine q_iconst rfl ?_
                      refine v_idiv (v := 0) rfl (by omega) (by decide) ?_
                      refine q_istore rfl (by decide) ?_
                      refine q_iload rfl rfl ?_
                      refine q_iconst rfl ?_
                      refine v_irem (v := 0) rfl (by omega) (by decide) ?_
                      refine q_istore rfl (by decide) ?_
                      refine Wp_ls [(8, vi 0), (7, vi 0), (6, vi 0), (5, vi (-1)), (4, vi 0), (0, .ref 41), (1, vi x1), (2, vi x2), (3, vi x3)] (lsub_cons rfl (lsub_cons rfl (lsub_cons rfl (lsub_cons rfl (lsub_cons rfl (lsub_cons rfl (lsub_cons rfl (lsub_cons rfl (lsub_cons rfl lsub_nil))))))))) ?_
                      refine q_iconst rfl ?_
                      refine q_iload rfl rfl ?_
                      refine v_isub (v := 1) rfl (by decide) ?_
                      refine q_iload rfl rfl ?_
                      refine q_iload_n rfl rfl ?_
                      refine q_iload_n rfl rfl ?_
                      refine q_call rfl rfl rfl rfl ?_
                      refine q_iload_n rfl rfl ?_
                      refine v_if_ne_t (t := 18) rfl (by decide) (by decide) ?_
                      refine q_iload_n rfl rfl ?_
                      refine q_iconst rfl ?_
                      refine v_ic_ne_t (t := 29) rfl (by decide) (by decide) ?_
                      refine q_iload_n rfl rfl ?_
                      refine q_iret rfl rfl ?_
                      refine bk_inl ?_
                      refine q_iload rfl rfl ?_
                      refine q_iload rfl rfl ?_
                      refine q_iload_n rfl rfl ?_
                      refine q_iload_n rfl rfl ?_
                      refine q_call rfl rfl rfl rfl ?_
                      refine q_iload_n rfl rfl ?_
                      refine v_if_ne_f (t := 18) rfl (by decide) (by decide) ?_
                      refine q_iload_n rfl rfl ?_
                      refine v_if_ne_f (t := 14) rfl (by decide) (by decide) ?_
                      refine q_iload_n rfl rfl ?_
                      refine q_iconst rfl ?_
                      refine v_idiv (v := (x1 / 2)) rfl (by omega) rfl ?_
                      refine q_goto (t := 30) rfl (by decide) ?_
                      refine q_iret rfl rfl ?_
                      refine bk_inl ?_
                      refine v_ic_gt_t (t := 150) rfl (by decide) (by omega) ?_
                      refine v_iinc (v := 1) rfl rfl (by decide) (by decide) ?_
                      refine q_goto (t := 59) rfl (by decide) ?_
                      refine q_iload rfl rfl ?_
                      refine q_iconst rfl ?_
                      refine v_ic_ge_f (t := 156) rfl (by decide) (by decide) ?_
                      refine q_iload rfl rfl ?_
                      refine q_iconst rfl ?_
                      refine v_idiv (v := 0) rfl (by omega) (by decide) ?_
                      refine q_istore rfl (by decide) ?_
                      refine q_iload rfl rfl ?_
                      refine q_iconst rfl ?_
                      refine v_irem (v := 1) rfl (by omega) (by decide) ?_
                      refine q_istore rfl (by decide) ?_
                      refine q_iconst rfl ?_
                      refine q_iload rfl rfl ?_
                      refine v_isub (v := 1) rfl (by decide) ?_
                      refine q_iload rfl rfl ?_
                      refine q_iload_n rfl rfl ?_
                      refine q_iload_n rfl rfl ?_
                      refine q_call rfl rfl rfl rfl ?_
                      refine q_iload_n rfl rfl ?_
                      refine v_if_ne_t (t := 18) rfl (by decide) (by decide) ?_
                      refine q_iload_n rfl rfl ?_
                      refine q_iconst rfl ?_
                      refine v_ic_ne_f (t := 29) rfl (by decide) (by decide) ?_
                      refine q_iload_n rfl rfl ?_
                      refine q_iconst rfl ?_
                      refine v_idiv (v := (x2 / 2)) rfl (by omega) rfl ?_
                      refine q_goto (t := 30) rfl (by decide) ?_
                      refine q_iret rfl rfl ?_
                      refine bk_inl ?_
                      refine q_iload rfl rfl ?_
                      refine q_iload rfl rfl ?_
                      refine q_iload_n rfl rfl ?_
                      refine q_iload_n rfl rfl ?_
                      refine q_call rfl rfl rfl rfl ?_
                      refine q_iload_n rfl rfl ?_
                      refine v_if_ne_f (t := 18) rfl (by decide) (by decide) ?_
                      refine q_iload_n rfl rfl ?_
                      refine v_if_ne_t (t := 14) rfl (by decide) (by decide) ?_
                      refine q_iload_n rfl rfl ?_
                      refine q_goto (t := 30) rfl (by decide) ?_
                      refine q_iret rfl rfl ?_
                      refine bk_inl ?_
                      refine v_ic_gt_f (t := 150) rfl (by decide) (by omega) ?_
                      refine q_iconst rfl ?_
                      refine q_iload rfl rfl ?_
                      refine v_isub (v := 0) rfl (by decide) ?_
                      refine q_iload rfl rfl ?_
                      refine q_iload_n rfl rfl ?_
                      refine q_iload_n rfl rfl ?_
                      refine q_call rfl rfl rfl rfl ?_
                      refine q_iload_n rfl rfl ?_
                      refine v_if_ne_f (t := 18) rfl (by decide) (by decide) ?_
                      refine q_iload_n rfl rfl ?_
                      refine v_if_ne_f (t := 14) rfl (by decide) (by decide) ?_
                      refine q_iload_n rfl rfl ?_
                      refine q_iconst rfl ?_
                      refine v_idiv (v := (x1 / 2)) rfl (by omega) rfl ?_
                      refine q_goto (t := 30) rfl (by decide) ?_
                      refine q_iret rfl rfl ?_
                      refine bk_inl ?_
                      refine q_iload rfl rfl ?_
                      refine q_iload rfl rfl ?_
                      refine q_iload_n rfl rfl ?_
                      refine q_iload_n rfl rfl ?_
                      refine q_call rfl rfl rfl rfl ?_
                      refine q_iload_n rfl rfl ?_
                      refine v_if_ne_t (t := 18) rfl (by decide) (by decide) ?_
                      refine q_iload_n rfl rfl ?_
                      refine q_iconst rfl ?_
                      refine v_ic_ne_t (t := 29) rfl (by decide) (by decide) ?_
                      refine q_iload_n rfl rfl ?_
                      refine q_iret rfl rfl ?_
                      refine bk_inl ?_
                      refine v_ic_le_t (t := 126) rfl (by decide) (by omega) ?_
                      refine v_iinc (v := 1) rfl rfl (by decide) (by decide) ?_
                      refine q_iload rfl rfl ?_
                      refine q_iconst rfl ?_
                      refine v_ic_ne_f (t := 146) rfl (by decide) (by decide) ?_
                      refine v_bip rfl (by decide) ?_
                      refine q_iload rfl rfl ?_
                      refine v_imul (v := 0) rfl (by decide) ?_
                      refine q_iload rfl rfl ?_
                      refine v_iadd (v := 1) rfl (by decide) ?_
                      refine q_goto (t := 148) rfl (by decide) ?_
                      refine q_istore rfl (by decide) ?_
                      refine Wp_ls [(5, vi 1), (4, vi 1), (8, vi 1), (7, vi 0), (6, vi 1), (0, .ref 41), (1, vi x1), (2, vi x2), (3, vi x3)] (lsub_cons rfl (lsub_cons rfl (lsub_cons rfl (lsub_cons rfl (lsub_cons rfl (lsub_cons rfl (lsub_cons rfl (lsub_cons rfl (lsub_cons rfl lsub_nil))))))))) ?_
                      refine v_iinc (v := 2) rfl rfl (by decide) (by decide) ?_
                      refine q_goto (t := 59) rfl (by decide) ?_
                      refine q_iload rfl rfl ?_
                      refine q_iconst rfl ?_
                      refine v_ic_ge_f (t := 156) rfl (by decide) (by decide) ?_
                      refine q_iload rfl rfl ?_
                      refine q_iconst rfl ?_
                      refine v_idiv (v := 1) rfl (by omega) (by decide) ?_
                      refine q_istore rfl (by decide) ?_
                      refine q_iload rfl rfl ?_
                      refine q_iconst rfl ?_
                      refine v_irem (v := 0) rfl (by omega) (by decide) ?_
                      refine q_istore rfl (by decide) ?_
                      refine q_iconst rfl ?_
                      refine q_iload rfl rfl ?_
                      refine v_isub (v := 0) rfl (by decide) ?_
                      refine q_iload rfl rfl ?_
                      refine q_iload_n rfl rfl ?_
                      refine q_iload_n rfl rfl ?_
                      refine q_call rfl rfl rfl rfl ?_
                      refine q_iload_n rfl rfl ?_
                      refine v_if_ne_f (t := 18) rfl (by decide) (by decide) ?_
                      refine q_iload_n rfl rfl ?_
                      refine v_if_ne_f (t := 14) rfl (by decide) (by decide) ?_
                      refine q_iload_n rfl rfl ?_
                      refine q_iconst rfl ?_
                      refine v_idiv (v := (x1 / 2)) rfl (by omega) rfl ?_
                      refine q_goto (t := 30) rfl (by decide) ?_
                      refine q_iret rfl rfl ?_
                      refine bk_inl ?_
                      refine q_iload rfl rfl ?_
                      refine q_iload rfl rfl ?_
                      refine q_iload_n rfl rfl ?_
                      refine q_iload_n rfl rfl ?_
                      refine q_call rfl rfl rfl rfl ?_
                      refine q_iload_n rfl rfl ?_
                      refine v_if_ne_t (t := 18) rfl (by decide) (by decide) ?_
                      refine q_iload_n rfl rfl ?_
                      refine q_iconst rfl ?_
                      refine v_ic_ne_t (t := 29) rfl (by decide) (by decide) ?_
                      refine q_iload_n rfl rfl ?_
                      refine q_iret rfl rfl ?_
                      refine bk_inl ?_
                      refine v_ic_gt_f (t := 150) rfl (by decide) (by omega) ?_
                      refine q_iconst rfl ?_
                      refine q_iload rfl rfl ?_
                      refine v_isub (v := 1) rfl (by decide) ?_
                      refine q_iload rfl rfl ?_
                      refine q_iload_n rfl rfl ?_
                      refine q_iload_n rfl rfl ?_
                      refine q_call rfl rfl rfl rfl ?_
                      refine q_iload_n rfl rfl ?_
                      refine v_if_ne_t (t := 18) rfl (by decide) (by decide) ?_
                      refine q_iload_n rfl rfl ?_
                      refine q_iconst rfl ?_
                      refine v_ic_ne_f (t := 29) rfl (by decide) (by decide) ?_
                      refine q_iload_n rfl rfl ?_
                      refine q_iconst rfl ?_
                      refine v_idiv (v := (x2 / 2)) rfl (by omega) rfl ?_
                      refine q_goto (t := 30) rfl (by decide) ?_
                      refine q_iret rfl rfl ?_
                      refine bk_inl ?_
                      refine q_iload rfl rfl ?_
                      refine q_iload rfl rfl ?_
                      refine q_iload_n rfl rfl ?_
                      refine q_iload_n rfl rfl ?_
                      refine q_call rfl rfl rfl rfl ?_
                      refine q_iload_n rfl rfl ?_
                      refine v_if_ne_f (t := 18) rfl (by decide) (by decide) ?_
                      refine q_iload_n rfl rfl ?_
                      refine v_if_ne_t (t := 14) rfl (by decide) (by decide) ?_
                      refine q_iload_n rfl rfl ?_
                      refine q_goto (t := 30) rfl (by decide) ?_
                      refine q_iret rfl rfl ?_
                      refine bk_inl ?_
                      refine v_ic_le_t (t := 126) rfl (by decide) (by omega) ?_
                      refine v_iinc (v := 2) rfl rfl (by decide) (by decide) ?_
                      refine q_iload rfl rfl ?_
                      refine q_iconst rfl ?_
                      refine v_ic_ne_t (t := 146) rfl (by decide) (by decide) ?_
                      refine q_iload rfl rfl ?_
                      refine q_istore rfl (by decide) ?_
                      refine Wp_ls [(5, vi 1), (4, vi 2), (8, vi 0), (7, vi 1), (6, vi 2), (0, .ref 41), (1, vi x1), (2, vi x2), (3, vi x3)] (lsub_cons rfl (lsub_cons rfl (lsub_cons rfl (lsub_cons rfl (lsub_cons rfl (lsub_cons rfl (lsub_cons rfl (lsub_cons rfl (lsub_cons rfl lsub_nil))))))))) ?_
                      refine v_iinc (v := 3) rfl rfl (by decide) (by decide) ?_
                      refine q_goto (t := 59) rfl (by decide) ?_
                      refine q_iload rfl rfl ?_
                      refine q_iconst rfl ?_
                      refine v_ic_ge_f (t := 156) rfl (by decide) (by decide) ?_
                      refine q_iload rfl rfl ?_
                      refine q_iconst rfl ?_
                      refine v_idiv (v := 1) rfl (by omega) (by decide) ?_
                      refine q_istore rfl (by decide) ?_
                      refine q_iload rfl rfl ?_
                      refine q_iconst rfl ?_
                      refine v_irem (v := 1) rfl (by omega) (by decide) ?_
                      refine q_istore rfl (by decide) ?_
                      refine q_iconst rfl ?_
                      refine q_iload rfl rfl ?_
                      refine v_isub (v := 0) rfl (by decide) ?_
                      refine q_iload rfl rfl ?_
                      refine q_iload_n rfl rfl ?_
                      refine q_iload_n rfl rfl ?_
                      refine q_call rfl rfl rfl rfl ?_
                      refine q_iload_n rfl rfl ?_
                      refine v_if_ne_f (t := 18) rfl (by decide) (by decide) ?_
                      refine q_iload_n rfl rfl ?_
                      refine v_if_ne_t (t := 14) rfl (by decide) (by decide) ?_
                      refine q_iload_n rfl rfl ?_
                      refine q_goto (t := 30) rfl (by decide) ?_
                      refine q_iret rfl rfl ?_
                      refine bk_inl ?_
                      refine q_iload rfl rfl ?_
                      refine q_iload rfl rfl ?_
                      refine q_iload_n rfl rfl ?_
                      refine q_iload_n rfl rfl ?_
                      refine q_call rfl rfl rfl rfl ?_
                      refine q_iload_n rfl rfl ?_
                      refine v_if_ne_t (t := 18) rfl (by decide) (by decide) ?_
                      refine q_iload_n rfl rfl ?_
                      refine q_iconst rfl ?_
                      refine v_ic_ne_f (t := 29) rfl (by decide) (by decide) ?_
                      refine q_iload_n rfl rfl ?_
                      refine q_iconst rfl ?_
                      refine v_idiv (v := (x2 / 2)) rfl (by omega) rfl ?_
                      refine q_goto (t := 30) rfl (by decide) ?_
                      refine q_iret rfl rfl ?_
                      refine bk_inl ?_
                      refine v_ic_gt_f (t := 150) rfl (by decide) (by omega) ?_
                      refine q_iconst rfl ?_
                      refine q_iload rfl rfl ?_
                      refine v_isub (v := 0) rfl (by decide) ?_
                      refine q_iload rfl rfl ?_
                      refine q_iload_n rfl rfl ?_
                      refine q_iload_n rfl rfl ?_
                      refine q_call rfl rfl rfl rfl ?_
                      refine q_iload_n rfl rfl ?_
                      refine v_if_ne_f (t := 18) rfl (by decide) (by decide) ?_
                      refine q_iload_n rfl rfl ?_
                      refine v_if_ne_t (t := 14) rfl (by decide) (by decide) ?_
                      refine q_iload_n rfl rfl ?_
                      refine q_goto (t := 30) rfl (by decide) ?_
                      refine q_iret rfl rfl ?_
                      refine bk_inl ?_
                      refine q_iload rfl rfl ?_
                      refine q_iload rfl rfl ?_
                      refine q_iload_n rfl rfl ?_
                      refine q_iload_n rfl rfl ?_
                      refine q_call rfl rfl rfl rfl ?_
                      refine q_iload_n rfl rfl ?_
                      refine v_if_ne_t (t := 18) rfl (by decide) (by decide) ?_
                      refine q_iload_n rfl rfl ?_
                      refine q_iconst rfl ?_
                      refine v_ic_ne_f (t := 29) rfl (by decide) (by decide) ?_
                      refine q_iload_n rfl rfl ?_
                      refine q_iconst rfl ?_
                      refine v_idiv (v := (x2 / 2)) rfl (by omega) rfl ?_
                      refine q_goto (t := 30) rfl (by decide) ?_
                      refine q_iret rfl rfl ?_
                      refine bk_inl ?_
                      refine v_ic_le_t (t := 126) rfl (by decide) (by omega) ?_
                      refine v_iinc (v := 3) rfl rfl (by decide) (by decide) ?_
                      refine q_iload rfl rfl ?_
                      refine q_iconst rfl ?_
                      refine v_ic_ne_t (t := 146) rfl (by decide) (by decide) ?_
                      refine q_iload rfl rfl ?_
                      refine q_istore rfl (by decide) ?_
                      refine Wp_ls [(5, vi 1), (4, vi 3), (8, vi 1), (7, vi 1), (6, vi 3), (0, .ref 41), (1, vi x1), (2, vi x2), (3, vi x3)] (lsub_cons rfl (lsub_cons rfl (lsub_cons rfl (lsub_cons rfl (lsub_cons rfl (lsub_cons rfl (lsub_cons rfl (lsub_cons rfl (lsub_cons rfl lsub_nil))))))))) ?_
                      refine v_iinc (v := 4) rfl rfl (by decide) (by decide) ?_
                      refine q_goto (t := 59) rfl (by decide) ?_
                      refine q_iload rfl rfl ?_
                      refine q_iconst rfl ?_
                      refine v_ic_ge_t (t := 156) rfl (by decide) (by decide) ?_
                      refine q_iload_n rfl rfl ?_
                      refine v_if_ne_f (t := 165) rfl (by decide) (by omega) ?_
                      refine q_iload rfl rfl ?_
                      refine q_goto (t := 216) rfl (by decide) ?_
                      refine q_iret rfl rfl ?_
                      refine bk_inl ?_
                      refine q_istore rfl (by decide) ?_
                      refine q_aload_n rfl rfl ?_
                      refine v_cv rfl rfl rfl rfl (by decide) ⟨⟨rfl, rfl⟩, by decide, rfl⟩ (Nat.le_of_ble_eq_true rfl) (Nat.le_of_ble_eq_true rfl) ?_
                      refine q_aload_n rfl rfl ?_
                      refine v_gi (z := 0) (v := 0) rfl rfl rfl (by decide) rfl rfl (up_e rfl) ?_
                      refine q_iret rfl rfl ?_
                      refine bk_inl ?_
                      refine q_iload rfl rfl ?_
                      refine v_ic_eq_t (t := 1215) rfl (by decide) (by decide) ?_
                      refine q_iload rfl rfl ?_
                      refine v_if_ne_f (t := 1232) rfl (by decide) (by decide) ?_
                      refine q_aload_n rfl rfl ?_
                      refine q_iconst rfl ?_
                      refine v_la (v := 3) rfl rfl (by decide) (by decide) (by decide) ((up_c (by decide)).trans (up_e rfl)) ?_
                      refine q_iload rfl rfl ?_
                      refine v_i2l rfl (by omega) ?_
                      refine v_lcmp0 rfl (by omega) ?_
                      refine v_if_eq_t (t := 1232) rfl (by decide) (by decide) ?_
                      refine q_goto (t := 1844) rfl (by decide) ?_
                      refine Wp_ls [(4, vi (i0 : Int)), (3, .ref 67), (2, .ref 41), (1, .ref 0), (0, .ref a_SC)] (lsub_cons rfl (lsub_cons rfl (lsub_cons rfl (lsub_cons rfl (lsub_cons rfl lsub_nil))))) ?_
                      refine K (up (up c 67 0 3) 41 0 0) 0 (by decide) ?_ ?_ ?_
                      · intro a j h
                        exact ((up_b (by omega)).trans (up_b (by omega)))
                      · exact Eq.trans (b := c 0 13) ((up_c (by decide)).trans (up_c (by decide))) (show _ = c 0 13 + 0 by omega)
                      · exact Eq.trans (b := c 42 1) ((up_c (by decide)).trans (up_c (by decide))) (show _ = c 42 1 + 0 by omega)
                    by_cases h_15 : x3 = 1
                    · refine v_lsw (t := 183) (off := 29) 1 rfl (by omega) (by decide) (by decide) (by decide) (by decide) ?_
                      refine q_iload rfl rfl ?_
                      refine q_iret rfl rfl ?_
                      refine bk_inl ?_
                      refine v_i2l rfl (by omega) ?_
                      refine v_ls rfl rfl (by decide) (by decide) (by decide) ?_
                      refine q_goto (t := 19) rfl (by decide) ?_
                      refine q_iconst rfl ?_
                      refine q_iret rfl rfl ?_
                      refine bk_inl ?_
                      refine q_istore rfl (by decide) ?_
                      refine q_aload_n rfl rfl ?_
                      refine q_aload_n rfl rfl ?_
                      refine q_iload rfl rfl ?_
                      refine q_iconst rfl ?_
                      refine v_iadd (v := (i0 : Int) + 1) rfl (by omega) ?_
                      refine v_scr (j := i0 + 1) rfl (by omega) (by omega) hL hx1 ?_
                      refine q_aload_n rfl rfl ?_
                      refine q_iload rfl rfl ?_
                      refine q_iconst rfl ?_
                      refine v_iadd (v := (i0 : Int) + 2) rfl (by omega) ?_
                      refine v_scr (j := i0 + 2) rfl (by omega) (by omega) hL hx2 ?_
                      refine q_aload_n rfl rfl ?_
                      refine q_iload rfl rfl ?_
                      refine q_iconst rfl ?_
                      refine v_iadd (v := (i0 : Int) + 3) rfl (by omega) ?_
                      refine v_scr (j := i0 + 3) rfl (by omega) (by omega) hL hx3 ?_
                      refine v_cv rfl rfl rfl rfl (by decide) ⟨⟨rfl, rfl⟩, by decide, rfl⟩ (Nat.le_of_ble_eq_true rfl) (Nat.le_of_ble_eq_true rfl) ?_
                      refine q_aload_n rfl rfl ?_
                      refine q_iconst rfl ?_
                      refine v_pi (z := 0) rfl rfl rfl (by decide) rfl rfl rfl (by decide) ?_
                      refine q_aload_n rfl rfl ?_
                      refine q_iload_n rfl rfl ?_
                      refine q_iconst rfl ?_
                      refine v_bip rfl (by decide) ?_
                      refine q_call rfl rfl rfl rfl ?_
                      refine q_iload_n rfl rfl ?_
                      refine q_iload_n rfl rfl ?_
                      refine v_ic_lt_f (t := 14) rfl (by decide) (by omega) ?_
                      refine q_iload_n rfl rfl ?_
                      refine q_iload_n rfl rfl ?_
                      refine v_ic_gt_f (t := 14) rfl (by decide) (by omega) ?_
                      refine q_iconst rfl ?_
                      refine q_goto (t := 15) rfl (by decide) ?_
                      refine v_zret rfl rfl (by omega) ?_
                      refine bk_inl ?_
                      refine v_if_eq_f (t := 39) rfl (by decide) (by decide) ?_
                      refine q_iload_n rfl rfl ?_
                      refine q_iconst rfl ?_
                      refine v_bip rfl (by decide) ?_
                      refine q_call rfl rfl rfl rfl ?_
                      refine q_iload_n rfl rfl ?_
                      refine q_iload_n rfl rfl ?_
                      refine v_ic_lt_f (t := 14) rfl (by decide) (by omega) ?_
                      refine q_iload_n rfl rfl ?_
                      refine q_iload_n rfl rfl ?_
                      refine v_ic_gt_f (t := 14) rfl (by decide) (by omega) ?_
                      refine q_iconst rfl ?_
                      refine q_goto (t := 15) rfl (by decide) ?_
                      refine v_zret rfl rfl (by omega) ?_
                      refine bk_inl ?_
                      refine v_if_eq_f (t := 39) rfl (by decide) (by decide) ?_
                      refine q_iload_n rfl rfl ?_
                      refine q_iconst rfl ?_
                      refine q_iconst rfl ?_
                      refine q_call rfl rfl rfl rfl ?_
                      refine q_iload_n rfl rfl ?_
                      refine q_iload_n rfl rfl ?_
                      refine v_ic_lt_f (t := 14) rfl (by decide) (by omega) ?_
                      refine q_iload_n rfl rfl ?_
                      refine q_iload_n rfl rfl ?_
                      refine v_ic_gt_f (t := 14) rfl (by decide) (by omega) ?_
                      refine q_iconst rfl ?_
                      refine q_goto (t := 15) rfl (by decide) ?_
                      refine v_zret rfl rfl (by omega) ?_
                      refine bk_inl ?_
                      refine v_if_eq_f (t := 39) rfl (by decide) (by decide) ?_
                      refine q_iconst rfl ?_
                      refine q_goto (t := 40) rfl (by decide) ?_
                      refine q_iconst rfl ?_
                      refine q_iconst rfl ?_
                      refine v_cv rfl rfl rfl rfl (by decide) ⟨⟨rfl, rfl⟩, by decide, rfl⟩ (Nat.le_of_ble_eq_true rfl) (Nat.le_of_ble_eq_true rfl) ?_
                      refine q_iload_n rfl rfl ?_
                      refine v_if_ne_t (t := 26) rfl (by decide) (by decide) ?_
                      refine q_aload_n rfl rfl ?_
                      refine v_gi (z := 0) (v := 0) rfl rfl rfl (by decide) rfl rfl (up_e rfl) ?_
                      refine v_if_ne_f (t := 37) rfl (by decide) (by decide) ?_
                      refine q_iconst rfl ?_
                      refine q_goto (t := 38) rfl (by decide) ?_
                      refine v_zret rfl rfl (by omega) ?_
                      refine bk_inl ?_
                      refine v_if_ne_t (t := 50) rfl (by decide) (by decide) ?_
                      refine q_iconst rfl ?_
                      refine q_istore rfl (by decide) ?_
                      refine q_iconst rfl ?_
                      refine q_istore rfl (by decide) ?_
                      refine q_iconst rfl ?_
                      refine q_istore rfl (by decide) ?_
                      refine q_iload rfl rfl ?_
                      refine q_iconst rfl ?_
                      refine v_ic_ge_f (t := 156) rfl (by decide) (by decide) ?_
                      refine q_iload rfl rfl ?_
                      refine q_iconst rfl ?_
                      refine v_idiv (v := 0) rfl (by omega) (by decide) ?_
                      refine q_istore rfl (by decide) ?_
                      refine q_iload rfl rfl ?_
                      refine q_iconst rfl ?_
                      refine v_irem (v := 0) rfl (by omega) (by decide) ?_
                      refine q_istore rfl (by decide) ?_
                      refine Wp_ls [(8, vi 0), (7, vi 0), (6, vi 0), (5, vi (-1)), (4, vi 0), (0, .ref 41), (1, vi x1), (2, vi x2), (3, vi x3)] (lsub_cons rfl (lsub_cons rfl (lsub_cons rfl (lsub_cons rfl (lsub_cons rfl (lsub_cons rfl (lsub_cons rfl (lsub_cons rfl (lsub_cons rfl lsub_nil))))))))) ?_
                      refine q_iconst rfl ?_
                      refine q_iload rfl rfl ?_
                      refine v_isub (v := 1) rfl (by decide) ?_
                      refine q_iload rfl rfl ?_
                      refine q_iload_n rfl rfl ?_
                      refine q_iload_n rfl rfl ?_
                      refine q_call rfl rfl rfl rfl ?_
                      refine q_iload_n rfl rfl ?_
                      refine v_if_ne_t (t := 18) rfl (by decide) (by decide) ?_
                      refine q_iload_n rfl rfl ?_
                      refine q_iconst rfl ?_
                      refine v_ic_ne_t (t := 29) rfl (by decide) (by decide) ?_
                      refine q_iload_n rfl rfl ?_
                      refine q_iret rfl rfl ?_
                      refine bk_inl ?_
                      refine q_iload rfl rfl ?_
                      refine q_iload rfl rfl ?_
                      refine q_iload_n rfl rfl ?_
                      refine q_iload_n rfl rfl ?_
                      refine q_call rfl rfl rfl rfl ?_
                      refine q_iload_n rfl rfl ?_
                      refine v_if_ne_f (t := 18) rfl (by decide) (by decide) ?_
                      refine q_iload_n rfl rfl ?_
                      refine v_if_ne_f (t := 14) rfl (by decide) (by decide) ?_
                      refine q_iload_n rfl rfl ?_
                      refine q_iconst rfl ?_
                      refine v_idiv (v := (x1 / 2)) rfl (by omega) rfl ?_
                      refine q_goto (t := 30) rfl (by decide) ?_
                      refine q_iret rfl rfl ?_
                      refine bk_inl ?_
                      refine v_ic_gt_t (t := 150) rfl (by decide) (by omega) ?_
                      refine v_iinc (v := 1) rfl rfl (by decide) (by decide) ?_
                      refine q_goto (t := 59) rfl (by decide) ?_
                      refine q_iload rfl rfl ?_
                      refine q_iconst rfl ?_
                      refine v_ic_ge_f (t := 156) rfl (by decide) (by decide) ?_
                      refine q_iload rfl rfl ?_
                      refine q_iconst rfl ?_
                      refine v_idiv (v := 0) rfl (by omega) (by decide) ?_
                      refine q_istore rfl (by decide) ?_
                      refine q_iload rfl rfl ?_
                      refine q_iconst rfl ?_
                      refine v_irem (v := 1) rfl (by omega) (by decide) ?_
                      refine q_istore rfl (by decide) ?_
                      refine q_iconst rfl ?_
                      refine q_iload rfl rfl ?_
                      refine v_isub (v := 1) rfl (by decide) ?_
                      refine q_iload rfl rfl ?_
                      refine q_iload_n rfl rfl ?_
                      refine q_iload_n rfl rfl ?_
                      refine q_call rfl rfl rfl rfl ?_
                      refine q_iload_n rfl rfl ?_
                      refine v_if_ne_t (t := 18) rfl (by decide) (by decide) ?_
                      refine q_iload_n rfl rfl ?_
                      refine q_iconst rfl ?_
                      refine v_ic_ne_f (t := 29) rfl (by decide) (by decide) ?_
                      refine q_iload_n rfl rfl ?_
                      refine q_iconst rfl ?_
                      refine v_idiv (v := (x2 / 2)) rfl (by omega) rfl ?_
                      refine q_goto (t := 30) rfl (by decide) ?_
                      refine q_iret rfl rfl ?_
                      refine bk_inl ?_
                      refine q_iload rfl rfl ?_
                      refine q_iload rfl rfl ?_
                      refine q_iload_n rfl rfl ?_
                      refine q_iload_n rfl rfl ?_
                      refine q_call rfl rfl rfl rfl ?_
                      refine q_iload_n rfl rfl ?_
                      refine v_if_ne_f (t := 18) rfl (by decide) (by decide) ?_
                      refine q_iload_n rfl rfl ?_
                      refine v_if_ne_t (t := 14) rfl (by decide) (by decide) ?_
                      refine q_iload_n rfl rfl ?_
                      refine q_goto (t := 30) rfl (by decide) ?_
                      refine q_iret rfl rfl ?_
                      refine bk_inl ?_
                      refine v_ic_gt_f (t := 150) rfl (by decide) (by omega) ?_
                      refine q_iconst rfl ?_
                      refine q_iload rfl rfl ?_
                      refine v_isub (v := 0) rfl (by decide) ?_
                      refine q_iload rfl rfl ?_
                      refine q_iload_n rfl rfl ?_
                      refine q_iload_n rfl rfl ?_
                      refine q_call rfl rfl rfl rfl ?_
                      refine q_iload_n rfl rfl ?_
                      refine v_if_ne_f (t := 18) rfl (by decide) (by decide) ?_
                      refine q_iload_n rfl rfl ?_
                      refine v_if_ne_f (t := 14) rfl (by decide) (by decide) ?_
                      refine q_iload_n rfl rfl ?_
                      refine q_iconst rfl ?_
                      refine v_idiv (v := (x1 / 2)) rfl (by omega) rfl ?_
                      refine q_goto (t := 30) rfl (by decide) ?_
                      refine q_iret rfl rfl ?_
                      refine bk_inl ?_
                      refine q_iload rfl rfl ?_
                      refine q_iload rfl rfl ?_
                      refine q_iload_n rfl rfl ?_
                      refine q_iload_n rfl rfl ?_
                      refine q_call rfl rfl rfl rfl ?_
                      refine q_iload_n rfl rfl ?_
                      refine v_if_ne_t (t := 18) rfl (by decide) (by decide) ?_
                      refine q_iload_n rfl rfl ?_
                      refine q_iconst rfl ?_
                      refine v_ic_ne_t (t := 29) rfl (by decide) (by decide) ?_
                      refine q_iload_n rfl rfl ?_
                      refine q_iret rfl rfl ?_
                      refine bk_inl ?_
                      refine v_ic_le_t (t := 126) rfl (by decide) (by omega) ?_
                      refine v_iinc (v := 1) rfl rfl (by decide) (by decide) ?_
                      refine q_iload rfl rfl ?_
                      refine q_iconst rfl ?_
                      refine v_ic_ne_f (t := 146) rfl (by decide) (by decide) ?_
                      refine v_bip rfl (by decide) ?_
                      refine q_iload rfl rfl ?_
                      refine v_imul (v := 0) rfl (by decide) ?_
                      refine q_iload rfl rfl ?_
                      refine v_iadd (v := 1) rfl (by decide) ?_
                      refine q_goto (t := 148) rfl (by decide) ?_
                      refine q_istore rfl (by decide) ?_
                      refine Wp_ls [(5, vi 1), (4, vi 1), (8, vi 1), (7, vi 0), (6, vi 1), (0, .ref 41), (1, vi x1), (2, vi x2), (3, vi x3)] (lsub_cons rfl (lsub_cons rfl (lsub_cons rfl (lsub_cons rfl (lsub_cons rfl (lsub_cons rfl (lsub_cons rfl (lsub_cons rfl (lsub_cons rfl lsub_nil))))))))) ?_
                      refine v_iinc (v := 2) rfl rfl (by decide) (by decide) ?_
                      refine q_goto (t := 59) rfl (by decide) ?_
                      refine q_iload rfl rfl ?_
                      refine q_iconst rfl ?_
                      refine v_ic_ge_f (t := 156) rfl (by decide) (by decide) ?_
                      refine q_iload rfl rfl ?_
                      refine q_iconst rfl ?_
                      refine v_idiv (v := 1) rfl (by omega) (by decide) ?_
                      refine q_istore rfl (by decide) ?_
                      refine q_iload rfl rfl ?_
                      refine q_iconst rfl ?_
                      refine v_irem (v := 0) rfl (by omega) (by decide) ?_
                      refine q_istore rfl (by decide) ?_
                      refine q_iconst rfl ?_
                      refine q_iload rfl rfl ?_
                      refine v_isub (v := 0) rfl (by decide) ?_
                      refine q_iload rfl rfl ?_
                      refine q_iload_n rfl rfl ?_
                      refine q_iload_n rfl rfl ?_
                      refine q_call rfl rfl rfl rfl ?_
                      refine q_iload_n rfl rfl ?_
                      refine v_if_ne_f (t := 18) rfl (by decide) (by decide) ?_
                      refine q_iload_n rfl rfl ?_
                      refine v_if_ne_f (t := 14) rfl (by decide) (by decide) ?_
                      refine q_iload_n rfl rfl ?_
                      refine q_iconst rfl ?_
                      refine v_idiv (v := (x1 / 2)) rfl (by omega) rfl ?_
                      refine q_goto (t := 30) rfl (by decide) ?_
                      refine q_iret rfl rfl ?_
                      refine bk_inl ?_
                      refine q_iload rfl rfl ?_
                      refine q_iload rfl rfl ?_
                      refine q_iload_n rfl rfl ?_
                      refine q_iload_n rfl rfl ?_
                      refine q_call rfl rfl rfl rfl ?_
                      refine q_iload_n rfl rfl ?_
                      refine v_if_ne_t (t := 18) rfl (by decide) (by decide) ?_
                      refine q_iload_n rfl rfl ?_
                      refine q_iconst rfl ?_
                      refine v_ic_ne_t (t := 29) rfl (by decide) (by decide) ?_
                      refine q_iload_n rfl rfl ?_
                      refine q_iret rfl rfl ?_
                      refine bk_inl ?_
                      refine v_ic_gt_f (t := 150) rfl (by decide) (by omega) ?_
                      refine q_iconst rfl ?_
                      refine q_iload rfl rfl ?_
                      refine v_isub (v := 1) rfl (by decide) ?_
                      refine q_iload rfl rfl ?_
                      refine q_iload_n rfl rfl ?_
                      refine q_iload_n rfl rfl ?_
                      refine q_call rfl rfl rfl rfl ?_
                      refine q_iload_n rfl rfl ?_
                      refine v_if_ne_t (t := 18) rfl (by decide) (by decide) ?_
                      refine q_iload_n rfl rfl ?_
                      refine q_iconst rfl ?_
                      refine v_ic_ne_f (t := 29) rfl (by decide) (by decide) ?_
                      refine q_iload_n rfl rfl ?_
                      refine q_iconst rfl ?_
                      refine v_idiv (v := (x2 / 2)) rfl (by omega) rfl ?_
                      refine q_goto (t := 30) rfl (by decide) ?_
                      refine q_iret rfl rfl ?_
                      refine bk_inl ?_
                      refine q_iload rfl rfl ?_
                      refine q_iload rfl rfl ?_
                      refine q_iload_n rfl rfl ?_
                      refine q_iload_n rfl rfl ?_
                      refine q_call rfl rfl rfl rfl ?_
                      refine q_iload_n rfl rfl ?_
                      refine v_if_ne_f (t := 18) rfl (by decide) (by decide) ?_
                      refine q_iload_n rfl rfl ?_
                      refine v_if_ne_t (t := 14) rfl (by decide) (by decide) ?_
                      refine q_iload_n rfl rfl ?_
                      refine q_goto (t := 30) rfl (by decide) ?_
                      refine q_iret rfl rfl ?_
                      refine bk_inl ?_
                      refine v_ic_le_t (t := 126) rfl (by decide) (by omega) ?_
                      refine v_iinc (v := 2) rfl rfl (by decide) (by decide) ?_
                      refine q_iload rfl rfl ?_
                      refine q_iconst rfl ?_
                      refine v_ic_ne_t (t := 146) rfl (by decide) (by decide) ?_
                      refine q_iload rfl rfl ?_
                      refine q_istore rfl (by decide) ?_
                      refine Wp_ls [(5, vi 1), (4, vi 2), (8, vi 0), (7, vi 1), (6, vi 2), (0, .ref 41), (1, vi x1), (2, vi x2), (3, vi x3)] (lsub_cons rfl (lsub_cons rfl (lsub_cons rfl (lsub_cons rfl (lsub_cons rfl (lsub_cons rfl (lsub_cons rfl (lsub_cons rfl (lsub_cons rfl lsub_nil))))))))) ?_
                      refine v_iinc (v := 3) rfl rfl (by decide) (by decide) ?_
                      refine q_goto (t := 59) rfl (by decide) ?_
                      refine q_iload rfl rfl ?_
                      refine q_iconst rfl ?_
                      refine v_ic_ge_f (t := 156) rfl (by decide) (by decide) ?_
                      refine q_iload rfl rfl ?_
                      refine q_iconst rfl ?_
                      refine v_idiv (v := 1) rfl (by omega) (by decide) ?_
                      refine q_istore rfl (by decide) ?_
                      refine q_iload rfl rfl ?_
                      refine q_iconst rfl ?_
                      refine v_irem (v := 1) rfl (by omega) (by decide) ?_
                      refine q_istore rfl (by decide) ?_
                      refine q_iconst rfl ?_
                      refine q_iload rfl rfl ?_
                      refine v_isub (v := 0) rfl (by decide) ?_
                      refine q_iload rfl rfl ?_
                      refine q_iload_n rfl rfl ?_
                      refine q_iload_n rfl rfl ?_
                      refine q_call rfl rfl rfl rfl ?_
                      refine q_iload_n rfl rfl ?_
                      refine v_if_ne_f (t := 18) rfl (by decide) (by decide) ?_
                      refine q_iload_n rfl rfl ?_
                      refine v_if_ne_t (t := 14) rfl (by decide) (by decide) ?_
                      refine q_iload_n rfl rfl ?_
                      refine q_goto (t := 30) rfl (by decide) ?_
                      refine q_iret rfl rfl ?_
                      refine bk_inl ?_
                      refine q_iload rfl rfl ?_
                      refine q_iload rfl rfl ?_
                      refine q_iload_n rfl rfl ?_
                      refine q_iload_n rfl rfl ?_
                      refine q_call rfl rfl rfl rfl ?_
                      refine q_iload_n rfl rfl ?_
                      refine v_if_ne_t (t := 18) rfl (by decide) (by decide) ?_
                      refine q_iload_n rfl rfl ?_
                      refine q_iconst rfl ?_
                      refine v_ic_ne_f (t := 29) rfl (by decide) (by decide) ?_
                      refine q_iload_n rfl rfl ?_
                      refine q_iconst rfl ?_
                      refine v_idiv (v := (x2 / 2)) rfl (by omega) rfl ?_
                      refine q_goto (t := 30) rfl (by decide) ?_
                      refine q_iret rfl rfl ?_
                      refine bk_inl ?_
                      refine v_ic_gt_f (t := 150) rfl (by decide) (by omega) ?_
                      refine q_iconst rfl ?_
                      refine q_iload rfl rfl ?_
                      refine v_isub (v := 0) rfl (by decide) ?_
                      refine q_iload rfl rfl ?_
                      refine q_iload_n rfl rfl ?_
                      refine q_iload_n rfl rfl ?_
                      refine q_call rfl rfl rfl rfl ?_
                      refine q_iload_n rfl rfl ?_
                      refine v_if_ne_f (t := 18) rfl (by decide) (by decide) ?_
                      refine q_iload_n rfl rfl ?_
                      refine v_if_ne_t (t := 14) rfl (by decide) (by decide) ?_
                      refine q_iload_n rfl rfl ?_
                      refine q_goto (t := 30) rfl (by decide) ?_
                      refine q_iret rfl rfl ?_
                      refine bk_inl ?_
                      refine q_iload rfl rfl ?_
                      refine q_iload rfl rfl ?_
                      refine q_iload_n rfl rfl ?_
                      refine q_iload_n rfl rfl ?_
                      refine q_call rfl rfl rfl rfl ?_
                      refine q_iload_n rfl rfl ?_
                      refine v_if_ne_t (t := 18) rfl (by decide) (by decide) ?_
                      refine q_iload_n rfl rfl ?_
                      refine q_iconst rfl ?_
                      refine v_ic_ne_f (t := 29) rfl (by decide) (by decide) ?_
                      refine q_iload_n rfl rfl ?_
                      refine q_iconst rfl ?_
                      refine v_idiv (v := (x2 / 2)) rfl (by omega) rfl ?_
                      refine q_goto (t := 30) rfl (by decide) ?_
                      refine q_iret rfl rfl ?_
                      refine bk_inl ?_
                      refine v_ic_le_t (t := 126) rfl (by decide) (by omega) ?_
                      refine v_iinc (v := 3) rfl rfl (by decide) (by decide) ?_
                      refine q_iload rfl rfl ?_
                      refine q_iconst rfl ?_
                      refine v_ic_ne_t (t := 146) rfl (by decide) (by decide) ?_
                      refine q_iload rfl rfl ?_
                      refine q_istore rfl (by decide) ?_
                      refine Wp_ls [(5, vi 1), (4, vi 3), (8, vi 1), (7, vi 1), (6, vi 3), (0, .ref 41), (1, vi x1), (2, vi x2), (3, vi x3)] (lsub_cons rfl (lsub_cons rfl (lsub_cons rfl (lsub_cons rfl (lsub_cons rfl (lsub_cons rfl (lsub_cons rfl (lsub_cons rfl (lsub_cons rfl lsub_nil))))))))) ?_
                      refine v_iinc (v := 4) rfl rfl (by decide) (by decide) ?_
                      refine q_goto (t := 59) rfl (by decide) ?_
                      refine q_iload rfl rfl ?_
                      refine q_iconst rfl ?_
                      refine v_ic_ge_t (t := 156) rfl (by decide) (by decide) ?_
                      refine q_iload_n rfl rfl ?_
                      refine v_if_ne_t (t := 165) rfl (by decide) (by omega) ?_
                      refine q_iload_n rfl rfl ?_
                      refine q_iconst rfl ?_
                      refine v_ic_ne_f (t := 175) rfl (by decide) (by omega) ?_
                      refine q_iload rfl rfl ?_
                      refine q_goto (t := 216) rfl (by decide) ?_
                      refine q_iret rfl rfl ?_
                      refine bk_inl ?_
                      refine q_istore rfl (by decide) ?_
                      refine q_aload_n rfl rfl ?_
                      refine v_cv rfl rfl rfl rfl (by decide) ⟨⟨rfl, rfl⟩, by decide, rfl⟩ (Nat.le_of_ble_eq_true rfl) (Nat.le_of_ble_eq_true rfl) ?_
                      refine q_aload_n rfl rfl ?_
                      refine v_gi (z := 0) (v := 0) rfl rfl rfl (by decide) rfl rfl (up_e rfl) ?_
                      refine q_iret rfl rfl ?_
                      refine bk_inl ?_
                      refine q_iload rfl rfl ?_
                      refine v_ic_eq_t (t := 1215) rfl (by decide) (by decide) ?_
                      refine q_iload rfl rfl ?_
                      refine v_if_ne_f (t := 1232) rfl (by decide) (by decide) ?_
                      refine q_aload_n rfl rfl ?_
                      refine q_iconst rfl ?_
                      refine v_la (v := 1) rfl rfl (by decide) (by decide) (by decide) ((up_c (by decide)).trans (up_e rfl)) ?_
                      refine q_iload rfl rfl ?_
                      refine v_i2l rfl (by omega) ?_
                      refine v_lcmp0 rfl (by omega) ?_
                      refine v_if_eq_t (t := 1232) rfl (by decide) (by decide) ?_
                      refine q_goto (t := 1844) rfl (by decide) ?_
                      refine Wp_ls [(4, vi (i0 : Int)), (3, .ref 67), (2, .ref 41), (1, .ref 0), (0, .ref a_SC)] (lsub_cons rfl (lsub_cons rfl (lsub_cons rfl (lsub_cons rfl (lsub_cons rfl lsub_nil))))) ?_
                      refine K (up (up c 67 0 1) 41 0 0) 0 (by decide) ?_ ?_ ?_
                      · intro a j h
                        exact ((up_b (by omega)).trans (up_b (by omega)))
                      · exact Eq.trans (b := c 0 13) ((up_c (by decide)).trans (up_c (by decide))) (show _ = c 0 13 + 0 by omega)
                      · exact Eq.trans (b := c 42 1) ((up_c (by decide)).trans (up_c (by decide))) (show _ = c 42 1 + 0 by omega)
                    refine v_lsw_o (t := 186) rfl (by omega) (by decide) (by simp [Op.lookupswitch.offset, Ne.symm (show x3 ≠ 0 by omega), Ne.symm (show x3 ≠ 1 by omega)]) (by decide) ?_
                    refine q_iload rfl rfl ?_
                    refine q_iret rfl rfl ?_
                    refine bk_inl ?_
                    refine v_i2l rfl (by omega) ?_
                    refine v_ls rfl rfl (by decide) (by decide) (by decide) ?_
                    refine q_goto (t := 19) rfl (by decide) ?_
                    refine q_iconst rfl ?_
                    refine q_iret rfl rfl ?_
                    refine bk_inl ?_
                    refine q_istore rfl (by decide) ?_
                    refine q_aload_n rfl rfl ?_
                    refine q_aload_n rfl rfl ?_
                    refine q_iload rfl rfl ?_
                    refine q_iconst rfl ?_
                    refine v_iadd (v := (i0 : Int) + 1) rfl (by omega) ?_
                    refine v_scr (j := i0 + 1) rfl (by omega) (by omega) hL hx1 ?_
                    refine q_aload_n rfl rfl ?_
                    refine q_iload rfl rfl ?_
                    refine q_iconst rfl ?_
                    refine v_iadd (v := (i0 : Int) + 2) rfl (by omega) ?_
                    refine v_scr (j := i0 + 2) rfl (by omega) (by omega) hL hx2 ?_
                    refine q_aload_n rfl rfl ?_
                    refine q_iload rfl rfl ?_
                    refine q_iconst rfl ?_
                    refine v_iadd (v := (i0 : Int) + 3) rfl (by omega) ?_
                    refine v_scr (j := i0 + 3) rfl (by omega) (by omega) hL hx3 ?_
                    refine v_cv rfl rfl rfl rfl (by decide) ⟨⟨rfl, rfl⟩, by decide, rfl⟩ (Nat.le_of_ble_eq_true rfl) (Nat.le_of_ble_eq_true rfl) ?_
                    refine q_aload_n rfl rfl ?_
                    refine q_iconst rfl ?_
                    refine v_pi (z := 0) rfl rfl rfl (by decide) rfl rfl rfl (by decide) ?_
                    refine q_aload_n rfl rfl ?_
                    refine q_iload_n rfl rfl ?_
                    refine q_iconst rfl ?_
                    refine v_bip rfl (by decide) ?_
                    refine q_call rfl rfl rfl rfl ?_
                    refine q_iload_n rfl rfl ?_
                    refine q_iload_n rfl rfl ?_
                    refine v_ic_lt_f (t := 14) rfl (by decide) (by omega) ?_
                    refine q_iload_n rfl rfl ?_
                    refine q_iload_n rfl rfl ?_
                    refine v_ic_gt_f (t := 14) rfl (by decide) (by omega) ?_
                    refine q_iconst rfl ?_
                    refine q_goto (t := 15) rfl (by decide) ?_
                    refine v_zret rfl rfl (by omega) ?_
                    refine bk_inl ?_
                    refine v_if_eq_f (t := 39) rfl (by decide) (by decide) ?_
                    refine q_iload_n rfl rfl ?_
                    refine q_iconst rfl ?_
                    refine v_bip rfl (by decide) ?_
                    refine q_call rfl rfl rfl rfl ?_
                    refine q_iload_n rfl rfl ?_
                    refine q_iload_n rfl rfl ?_
                    refine v_ic_lt_f (t := 14) rfl (by decide) (by omega) ?_
                    refine q_iload_n rfl rfl ?_
                    refine q_iload_n rfl rfl ?_
                    refine v_ic_gt_f (t := 14) rfl (by decide) (by omega) ?_
                    refine q_iconst rfl ?_
                    refine q_goto (t := 15) rfl (by decide) ?_
                    refine v_zret rfl rfl (by omega) ?_
                    refine bk_inl ?_
                    refine v_if_eq_f (t := 39) rfl (by decide) (by decide) ?_
                    refine q_iload_n rfl rfl ?_
                    refine q_iconst rfl ?_
                    refine q_iconst rfl ?_
                    refine q_call rfl rfl rfl rfl ?_
                    refine q_iload_n rfl rfl ?_
                    refine q_iload_n rfl rfl ?_
                    refine v_ic_lt_f (t := 14) rfl (by decide) (by omega) ?_
                    refine q_iload_n rfl rfl ?_
                    refine q_iload_n rfl rfl ?_
                    refine v_ic_gt_f (t := 14) rfl (by decide) (by omega) ?_
                    refine q_iconst rfl ?_
                    refine q_goto (t := 15) rfl (by decide) ?_
                    refine v_zret rfl rfl (by omega) ?_
                    refine bk_inl ?_
                    refine v_if_eq_f (t := 39) rfl (by decide) (by decide) ?_
                    refine q_iconst rfl ?_
                    refine q_goto (t := 40) rfl (by decide) ?_
                    refine q_iconst rfl ?_
                    refine q_iconst rfl ?_
                    refine v_cv rfl rfl rfl rfl (by decide) ⟨⟨rfl, rfl⟩, by decide, rfl⟩ (Nat.le_of_ble_eq_true rfl) (Nat.le_of_ble_eq_true rfl) ?_
                    refine q_iload_n rfl rfl ?_
                    refine v_if_ne_t (t := 26) rfl (by decide) (by decide) ?_
                    refine q_aload_n rfl rfl ?_
                    refine v_gi (z := 0) (v := 0) rfl rfl rfl (by decide) rfl rfl (up_e rfl) ?_
                    refine v_if_ne_f (t := 37) rfl (by decide) (by decide) ?_
                    refine q_iconst rfl ?_
                    refine q_goto (t := 38) rfl (by decide) ?_
                    refine v_zret rfl rfl (by omega) ?_
                    refine bk_inl ?_
                    refine v_if_ne_t (t := 50) rfl (by decide) (by decide) ?_
                    refine q_iconst rfl ?_
                    refine q_istore rfl (by decide) ?_
                    refine q_iconst rfl ?_
                    refine q_istore rfl (by decide) ?_
                    refine q_iconst rfl ?_
                    refine q_istore rfl (by decide) ?_
                    refine q_iload rfl rfl ?_
                    refine q_iconst rfl ?_
                    refine v_ic_ge_f (t := 156) rfl (by decide) (by decide) ?_
                    refine q_iload rfl rfl ?_
                    refine q_iconst rfl ?_
                    refine v_idiv (v := 0) rfl (by omega) (by decide) ?_
                    refine q_istore rfl (by decide) ?_
                    refine q_iload rfl rfl ?_
                    refine q_iconst rfl ?_
                    refine v_irem (v := 0) rfl (by omega) (by decide) ?_
                    refine q_istore rfl (by decide) ?_
                    refine Wp_ls [(8, vi 0), (7, vi 0), (6, vi 0), (5, vi (-1)), (4, vi 0), (0, .ref 41), (1, vi x1), (2, vi x2), (3, vi x3)] (lsub_cons rfl (lsub_cons rfl (lsub_cons rfl (lsub_cons rfl (lsub_cons rfl (lsub_cons rfl (lsub_cons rfl (lsub_cons rfl (lsub_cons rfl lsub_nil))))))))) ?_
                    refine q_iconst rfl ?_
                    refine q_iload rfl rfl ?_
                    refine v_isub (v := 1) rfl (by decide) ?_
                    refine q_iload rfl rfl ?_
                    refine q_iload_n rfl rfl ?_
                    refine q_iload_n rfl rfl ?_
                    refine q_call rfl rfl rfl rfl ?_
                    refine q_iload_n rfl rfl ?_
                    refine v_if_ne_t (t := 18) rfl (by decide) (by decide) ?_
                    refine q_iload_n rfl rfl ?_
                    refine q_iconst rfl ?_
                    refine v_ic_ne_t (t := 29) rfl (by decide) (by decide) ?_
                    refine q_iload_n rfl rfl ?_
                    refine q_iret rfl rfl ?_
                    refine bk_inl ?_
                    refine q_iload rfl rfl ?_
                    refine q_iload rfl rfl ?_
                    refine q_iload_n rfl rfl ?_
                    refine q_iload_n rfl rfl ?_
                    refine q_call rfl rfl rfl rfl ?_
                    refine q_iload_n rfl rfl ?_
                    refine v_if_ne_f (t := 18) rfl (by decide) (by decide) ?_
                    refine q_iload_n rfl rfl ?_
                    refine v_if_ne_f (t := 14) rfl (by decide) (by decide) ?_
                    refine q_iload_n rfl rfl ?_
                    refine q_iconst rfl ?_
                    refine v_idiv (v := (x1 / 2)) rfl (by omega) rfl ?_
                    refine q_goto (t := 30) rfl (by decide) ?_
                    refine q_iret rfl rfl ?_
                    refine bk_inl ?_
                    refine v_ic_gt_t (t := 150) rfl (by decide) (by omega) ?_
                    refine v_iinc (v := 1) rfl rfl (by decide) (by decide) ?_
                    refine q_goto (t := 59) rfl (by decide) ?_
                    refine q_iload rfl rfl ?_
                    refine q_iconst rfl ?_
                    refine v_ic_ge_f (t := 156) rfl (by decide) (by decide) ?_
                    refine q_iload rfl rfl ?_
                    refine q_iconst rfl ?_
                    refine v_idiv (v := 0) rfl (by omega) (by decide) ?_
                    refine q_istore rfl (by decide) ?_
                    refine q_iload rfl rfl ?_
                    refine q_iconst rfl ?_
                    refine v_irem (v := 1) rfl (by omega) (by decide) ?_
                    refine q_istore rfl (by decide) ?_
                    refine q_iconst rfl ?_
                    refine q_iload rfl rfl ?_
                    refine v_isub (v := 1) rfl (by decide) ?_
                    refine q_iload rfl rfl ?_
                    refine q_iload_n rfl rfl ?_
                    refine q_iload_n rfl rfl ?_
                    refine q_call rfl rfl rfl rfl ?_
                    refine q_iload_n rfl rfl ?_
                    refine v_if_ne_t (t := 18) rfl (by decide) (by decide) ?_
                    refine q_iload_n rfl rfl ?_
                    refine q_iconst rfl ?_
                    refine v_ic_ne_f (t := 29) rfl (by decide) (by decide) ?_
                    refine q_iload_n rfl rfl ?_
                    refine q_iconst rfl ?_
                    refine v_idiv (v := (x2 / 2)) rfl (by omega) rfl ?_
                    refine q_goto (t := 30) rfl (by decide) ?_
                    refine q_iret rfl rfl ?_
                    refine bk_inl ?_
                    refine q_iload rfl rfl ?_
                    refine q_iload rfl rfl ?_
                    refine q_iload_n rfl rfl ?_
                    refine q_iload_n rfl rfl ?_
                    refine q_call rfl rfl rfl rfl ?_
                    refine q_iload_n rfl rfl ?_
                    refine v_if_ne_f (t := 18) rfl (by decide) (by decide) ?_
                    refine q_iload_n rfl rfl ?_
                    refine v_if_ne_t (t := 14) rfl (by decide) (by decide) ?_
                    refine q_iload_n rfl rfl ?_
                    refine q_goto (t := 30) rfl (by decide) ?_
                    refine q_iret rfl rfl ?_
                    refine bk_inl ?_
                    refine v_ic_gt_f (t := 150) rfl (by decide) (by omega) ?_
                    refine q_iconst rfl ?_
                    refine q_iload rfl rfl ?_
                    refine v_isub (v := 0) rfl (by decide) ?_
                    refine q_iload rfl rfl ?_
                    refine q_iload_n rfl rfl ?_
                    refine q_iload_n rfl rfl ?_
                    refine q_call rfl rfl rfl rfl ?_
                    refine q_iload_n rfl rfl ?_
                    refine v_if_ne_f (t := 18) rfl (by decide) (by decide) ?_
                    refine q_iload_n rfl rfl ?_
                    refine v_if_ne_f (t := 14) rfl (by decide) (by decide) ?_
                    refine q_iload_n rfl rfl ?_
                    refine q_iconst rfl ?_
                    refine v_idiv (v := (x1 / 2)) rfl (by omega) rfl ?_
                    refine q_goto (t := 30) rfl (by decide) ?_
                    refine q_iret rfl rfl ?_
                    refine bk_inl ?_
                    refine q_iload rfl rfl ?_
                    refine q_iload rfl rfl ?_
                    refine q_iload_n rfl rfl ?_
                    refine q_iload_n rfl rfl ?_
                    refine q_call rfl rfl rfl rfl ?_
                    refine q_iload_n rfl rfl ?_
                    refine v_if_ne_t (t := 18) rfl (by decide) (by decide) ?_
                    refine q_iload_n rfl rfl ?_
                    refine q_iconst rfl ?_
                    refine v_ic_ne_t (t := 29) rfl (by decide) (by decide) ?_
                    refine q_iload_n rfl rfl ?_
                    refine q_iret rfl rfl ?_
                    refine bk_inl ?_
                    refine v_ic_le_t (t := 126) rfl (by decide) (by omega) ?_
                    refine v_iinc (v := 1) rfl rfl (by decide) (by decide) ?_
                    refine q_iload rfl rfl ?_
                    refine q_iconst rfl ?_
                    refine v_ic_ne_f (t := 146) rfl (by decide) (by decide) ?_
                    refine v_bip rfl (by decide) ?_
                    refine q_iload rfl rfl ?_
                    refine v_imul (v := 0) rfl (by decide) ?_
                    refine q_iload rfl rfl ?_
                    refine v_iadd (v := 1) rfl (by decide) ?_
                    refine q_goto (t := 148) rfl (by decide) ?_
                    refine q_istore rfl (by decide) ?_
                    refine Wp_ls [(5, vi 1), (4, vi 1), (8, vi 1), (7, vi 0), (6, vi 1), (0, .ref 41), (1, vi x1), (2, vi x2), (3, vi x3)] (lsub_cons rfl (lsub_cons rfl (lsub_cons rfl (lsub_cons rfl (lsub_cons rfl (lsub_cons rfl (lsub_cons rfl (lsub_cons rfl (lsub_cons rfl lsub_nil))))))))) ?_
                    refine v_iinc (v := 2) rfl rfl (by decide) (by decide) ?_
                    refine q_goto (t := 59) rfl (by decide) ?_
                    refine q_iload rfl rfl ?_
                    refine q_iconst rfl ?_
                    refine v_ic_ge_f (t := 156) rfl (by decide) (by decide) ?_
                    refine q_iload rfl rfl ?_
                    refine q_iconst rfl ?_
                    refine v_idiv (v := 1) rfl (by omega) (by decide) ?_
                    refine q_istore rfl (by decide) ?_
                    refine q_iload rfl rfl ?_
                    refine q_iconst rfl ?_
                    refine v_irem (v := 0) rfl (by omega) (by decide) ?_
                    refine q_istore rfl (by decide) ?_
                    refine q_iconst rfl ?_
                    refine q_iload rfl rfl ?_
                    refine v_isub (v := 0) rfl (by decide) ?_
                    refine q_iload rfl rfl ?_
                    refine q_iload_n rfl rfl ?_
                    refine q_iload_n rfl rfl ?_
                    refine q_call rfl rfl rfl rfl ?_
                    refine q_iload_n rfl rfl ?_
                    refine v_if_ne_f (t := 18) rfl (by decide) (by decide) ?_
                    refine q_iload_n rfl rfl ?_
                    refine v_if_ne_f (t := 14) rfl (by decide) (by decide) ?_
                    refine q_iload_n rfl rfl ?_
                    refine q_iconst rfl ?_
                    refine v_idiv (v := (x1 / 2)) rfl (by omega) rfl ?_
                    refine q_goto (t := 30) rfl (by decide) ?_
                    refine q_iret rfl rfl ?_
                    refine bk_inl ?_
                    refine q_iload rfl rfl ?_
                    refine q_iload rfl rfl ?_
                    refine q_iload_n rfl rfl ?_
                    refine q_iload_n rfl rfl ?_
                    refine q_call rfl rfl rfl rfl ?_
                    refine q_iload_n rfl rfl ?_
                    refine v_if_ne_t (t := 18) rfl (by decide) (by decide) ?_
                    refine q_iload_n rfl rfl ?_
                    refine q_iconst rfl ?_
                    refine v_ic_ne_t (t := 29) rfl (by decide) (by decide) ?_
                    refine q_iload_n rfl rfl ?_
                    refine q_iret rfl rfl ?_
                    refine bk_inl ?_
                    refine v_ic_gt_f (t := 150) rfl (by decide) (by omega) ?_
                    refine q_iconst rfl ?_
                    refine q_iload rfl rfl ?_
                    refine v_isub (v := 1) rfl (by decide) ?_
                    refine q_iload rfl rfl ?_
                    refine q_iload_n rfl rfl ?_
                    refine q_iload_n rfl rfl ?_
                    refine q_call rfl rfl rfl rfl ?_
                    refine q_iload_n rfl rfl ?_
                    refine v_if_ne_t (t := 18) rfl (by decide) (by decide) ?_
                    refine q_iload_n rfl rfl ?_
                    refine q_iconst rfl ?_
                    refine v_ic_ne_f (t := 29) rfl (by decide) (by decide) ?_
                    refine q_iload_n rfl rfl ?_
                    refine q_iconst rfl ?_
                    refine v_idiv (v := (x2 / 2)) rfl (by omega) rfl ?_
                    refine q_goto (t := 30) rfl (by decide) ?_
                    refine q_iret rfl rfl ?_
                    refine bk_inl ?_
                    refine q_iload rfl rfl ?_
                    refine q_iload rfl rfl ?_
                    refine q_iload_n rfl rfl ?_
                    refine q_iload_n rfl rfl ?_
                    refine q_call rfl rfl rfl rfl ?_
                    refine q_iload_n rfl rfl ?_
                    refine v_if_ne_f (t := 18) rfl (by decide) (by decide) ?_
                    refine q_iload_n rfl rfl ?_
                    refine v_if_ne_t (t := 14) rfl (by decide) (by decide) ?_
                    refine q_iload_n rfl rfl ?_
                    refine q_goto (t := 30) rfl (by decide) ?_
                    refine q_iret rfl rfl ?_
                    refine bk_inl ?_
                    refine v_ic_le_t (t := 126) rfl (by decide) (by omega) ?_
                    refine v_iinc (v := 2) rfl rfl (by decide) (by decide) ?_
                    refine q_iload rfl rfl ?_
                    refine q_iconst rfl ?_
                    refine v_ic_ne_t (t := 146) rfl (by decide) (by decide) ?_
                    refine q_iload rfl rfl ?_
                    refine q_istore rfl (by decide) ?_
                    refine Wp_ls [(5, vi 1), (4, vi 2), (8, vi 0), (7, vi 1), (6, vi 2), (0, .ref 41), (1, vi x1), (2, vi x2), (3, vi x3)] (lsub_cons rfl (lsub_cons rfl (lsub_cons rfl (lsub_cons rfl (lsub_cons rfl (lsub_cons rfl (lsub_cons rfl (lsub_cons rfl (lsub_cons rfl lsub_nil))))))))) ?_
                    refine v_iinc (v := 3) rfl rfl (by decide) (by decide) ?_
                    refine q_goto (t := 59) rfl (by decide) ?_
                    refine q_iload rfl rfl ?_
                    refine q_iconst rfl ?_
                    refine v_ic_ge_f (t := 156) rfl (by decide) (by decide) ?_
                    refine q_iload rfl rfl ?_
                    refine q_iconst rfl ?_
                    refine v_idiv (v := 1) rfl (by omega) (by decide) ?_
                    refine q_istore rfl (by decide) ?_
                    refine q_iload rfl rfl ?_
                    refine q_iconst rfl ?_
                    refine v_irem (v := 1) rfl (by omega) (by decide) ?_
                    refine q_istore rfl (by decide) ?_
                    refine q_iconst rfl ?_
                    refine q_iload rfl rfl ?_
                    refine v_isub (v := 0) rfl (by decide) ?_
                    refine q_iload rfl rfl ?_
                    refine q_iload_n rfl rfl ?_
                    refine q_iload_n rfl rfl ?_
                    refine q_call rfl rfl rfl rfl ?_
                    refine q_iload_n rfl rfl ?_
                    refine v_if_ne_f (t := 18) rfl (by decide) (by decide) ?_
                    refine q_iload_n rfl rfl ?_
                    refine v_if_ne_t (t := 14) rfl (by decide) (by decide) ?_
                    refine q_iload_n rfl rfl ?_
                    refine q_goto (t := 30) rfl (by decide) ?_
                    refine q_iret rfl rfl ?_
                    refine bk_inl ?_
                    refine q_iload rfl rfl ?_
                    refine q_iload rfl rfl ?_
                    refine q_iload_n rfl rfl ?_
                    refine q_iload_n rfl rfl ?_
                    refine q_call rfl rfl rfl rfl ?_
                    refine q_iload_n rfl rfl ?_
                    refine v_if_ne_t (t := 18) rfl (by decide) (by decide) ?_
                    refine q_iload_n rfl rfl ?_
                    refine q_iconst rfl ?_
                    refine v_ic_ne_f (t := 29) rfl (by decide) (by decide) ?_
                    refine q_iload_n rfl rfl ?_
                    refine q_iconst rfl ?_
                    refine v_idiv (v := (x2 / 2)) rfl (by omega) rfl ?_
                    refine q_goto (t := 30) rfl (by decide) ?_
                    refine q_iret rfl rfl ?_
                    refine bk_inl ?_
                    refine v_ic_gt_f (t := 150) rfl (by decide) (by omega) ?_
                    refine q_iconst rfl ?_
                    refine q_iload rfl rfl ?_
                    refine v_isub (v := 0) rfl (by decide) ?_
                    refine q_iload rfl rfl ?_
                    refine q_iload_n rfl rfl ?_
                    refine q_iload_n rfl rfl ?_
                    refine q_call rfl rfl rfl rfl ?_
                    refine q_iload_n rfl rfl ?_
                    refine v_if_ne_f (t := 18) rfl (by decide) (by decide) ?_
                    refine q_iload_n rfl rfl ?_
                    refine v_if_ne_t (t := 14) rfl (by decide) (by decide) ?_
                    refine q_iload_n rfl rfl ?_
                    refine q_goto (t := 30) rfl (by decide) ?_
                    refine q_iret rfl rfl ?_
                    refine bk_inl ?_
                    refine q_iload rfl rfl ?_
                    refine q_iload rfl rfl ?_
                    refine q_iload_n rfl rfl ?_
                    refine q_iload_n rfl rfl ?_
                    refine q_call rfl rfl rfl rfl ?_
                    refine q_iload_n rfl rfl ?_
                    refine v_if_ne_t (t := 18) rfl (by decide) (by decide) ?_
                    refine q_iload_n rfl rfl ?_
                    refine q_iconst rfl ?_
                    refine v_ic_ne_f (t := 29) rfl (by decide) (by decide) ?_
                    refine q_iload_n rfl rfl ?_
                    refine q_iconst rfl ?_
                    refine v_idiv (v := (x2 / 2)) rfl (by omega) rfl ?_
                    refine q_goto (t := 30) rfl (by decide) ?_
                    refine q_iret rfl rfl ?_
                    refine bk_inl ?_
                    refine v_ic_le_t (t := 126) rfl (by decide) (by omega) ?_
                    refine v_iinc (v := 3) rfl rfl (by decide) (by decide) ?_
                    refine q_iload rfl rfl ?_
                    refine q_iconst rfl ?_
                    refine v_ic_ne_t (t := 146) rfl (by decide) (by decide) ?_
                    refine q_iload rfl rfl ?_
                    refine q_istore rfl (by decide) ?_
                    refine Wp_ls [(5, vi 1), (4, vi 3), (8, vi 1), (7, vi 1), (6, vi 3), (0, .ref 41), (1, vi x1), (2, vi x2), (3, vi x3)] (lsub_cons rfl (lsub_cons rfl (lsub_cons rfl (lsub_cons rfl (lsub_cons rfl (lsub_cons rfl (lsub_cons rfl (lsub_cons rfl (lsub_cons rfl lsub_nil))))))))) ?_
                    refine v_iinc (v := 4) rfl rfl (by decide) (by decide) ?_
                    refine q_goto (t := 59) rfl (by decide) ?_
                    refine q_iload rfl rfl ?_
                    refine q_iconst rfl ?_
                    refine v_ic_ge_t (t := 156) rfl (by decide) (by decide) ?_
                    refine q_iload_n rfl rfl ?_
                    refine v_if_ne_t (t := 165) rfl (by decide) (by omega) ?_
                    refine q_iload_n rfl rfl ?_
                    refine q_iconst rfl ?_
                    refine v_ic_ne_t (t := 175) rfl (by decide) (by omega) ?_
                    refine q_iload rfl rfl ?_
                    refine q_iconst rfl ?_
                    refine v_ic_ne_t (t := 185) rfl (by decide) (by decide) ?_
                    refine q_iload rfl rfl ?_
                    refine v_bip rfl (by decide) ?_
                    refine v_idiv (v := 0) rfl (by omega) (by decide) ?_
                    refine q_iload rfl rfl ?_
                    refine v_bip rfl (by decide) ?_
                    refine v_irem (v := 1) rfl (by omega) (by decide) ?_
                    refine q_iload_n rfl rfl ?_
                    refine q_iload_n rfl rfl ?_
                    refine q_call rfl rfl rfl rfl ?_
                    refine q_iload_n rfl rfl ?_
                    refine v_if_ne_f (t := 18) rfl (by decide) (by decide) ?_
                    refine q_iload_n rfl rfl ?_
                    refine v_if_ne_t (t := 14) rfl (by decide) (by decide) ?_
                    refine q_iload_n rfl rfl ?_
                    refine q_goto (t := 30) rfl (by decide) ?_
                    refine q_iret rfl rfl ?_
                    refine bk_inl ?_
                    refine q_iload rfl rfl ?_
                    refine v_bip rfl (by decide) ?_
                    refine v_irem (v := 1) rfl (by omega) (by decide) ?_
                    refine q_iload rfl rfl ?_
                    refine v_bip rfl (by decide) ?_
                    refine v_idiv (v := 0) rfl (by omega) (by decide) ?_
                    refine q_iload_n rfl rfl ?_
                    refine q_iload_n rfl rfl ?_
                    refine q_call rfl rfl rfl rfl ?_
                    refine q_iload_n rfl rfl ?_
                    refine v_if_ne_t (t := 18) rfl (by decide) (by decide) ?_
                    refine q_iload_n rfl rfl ?_
                    refine q_iconst rfl ?_
                    refine v_ic_ne_t (t := 29) rfl (by decide) (by decide) ?_
                    refine q_iload_n rfl rfl ?_
                    refine q_iret rfl rfl ?_
                    refine bk_inl ?_
                    refine v_iadd (v := x1 + x2) rfl (by omega) ?_
                    refine q_iret rfl rfl ?_
                    refine bk_inl ?_
                    refine q_istore rfl (by decide) ?_
                    refine q_aload_n rfl rfl ?_
                    refine v_cv rfl rfl rfl rfl (by decide) ⟨⟨rfl, rfl⟩, by decide, rfl⟩ (Nat.le_of_ble_eq_true rfl) (Nat.le_of_ble_eq_true rfl) ?_
                    refine q_aload_n rfl rfl ?_
                    refine v_gi (z := 0) (v := 0) rfl rfl rfl (by decide) rfl rfl (up_e rfl) ?_
                    refine q_iret rfl rfl ?_
                    refine bk_inl ?_
                    refine q_iload rfl rfl ?_
                    refine v_ic_eq_t (t := 1215) rfl (by decide) (by decide) ?_
                    refine q_iload rfl rfl ?_
                    refine v_if_ne_f (t := 1232) rfl (by decide) (by decide) ?_
                    refine q_aload_n rfl rfl ?_
                    refine q_iconst rfl ?_
                    refine v_la (v := x1 + x2) rfl rfl (by decide) (by decide) (by decide) ((up_c (by decide)).trans (up_e rfl)) ?_
                    refine q_iload rfl rfl ?_
                    refine v_i2l rfl (by omega) ?_
                    refine v_lcmp0 rfl (by omega) ?_
                    refine v_if_eq_t (t := 1232) rfl (by decide) (by decide) ?_
                    refine q_goto (t := 1844) rfl (by decide) ?_
                    refine Wp_ls [(4, vi (i0 : Int)), (3, .ref 67), (2, .ref 41), (1, .ref 0), (0, .ref a_SC)] (lsub_cons rfl (lsub_cons rfl (lsub_cons rfl (lsub_cons rfl (lsub_cons rfl lsub_nil))))) ?_
                    refine K (up (up c 67 0 (x1 + x2)) 41 0 0) 0 (by decide) ?_ ?_ ?_
                    · intro a j h
                      exact ((up_b (by omega)).trans (up_b (by omega)))
                    · exact Eq.trans (b := c 0 13) ((up_c (by decide)).trans (up_c (by decide))) (show _ = c 0 13 + 0 by omega)
                    · exact Eq.trans (b := c 42 1) ((up_c (by decide)).trans (up_c (by decide))) (show _ = c 42 1 + 0 by omega)
              · refine v_ic_gt_f (t := 147) rfl (by decide) (by omega) ?_
                refine q_iconst rfl ?_
                refine q_iload rfl rfl ?_
                refine v_isub (v := 1) rfl (by decide) ?_
                refine q_iload rfl rfl ?_
                refine q_iload_n rfl rfl ?_
                refine q_iload_n rfl rfl ?_
                refine q_call rfl rfl rfl rfl ?_
                refine q_iload_n rfl rfl ?_
                refine v_if_ne_t (t := 8) rfl (by decide) (by decide) ?_
                refine q_iload_n rfl rfl ?_
                refine q_istore rfl (by decide) ?_
                refine q_iload_n rfl rfl ?_
                refine q_iload_n rfl rfl ?_
                refine v_ic_ne_t (t := 23) rfl (by decide) (by decide) ?_
                refine q_iload rfl rfl ?_
                refine q_iret rfl rfl ?_
                refine bk_inl ?_
                refine q_iload rfl rfl ?_
                refine v_ic_gt_f (t := 147) rfl (by decide) (by omega) ?_
                refine q_iload rfl rfl ?_
                refine v_if_ne_f (t := 144) rfl (by decide) (by decide) ?_
                refine v_bip rfl (by decide) ?_
                refine q_iload rfl rfl ?_
                refine v_imul (v := 0) rfl (by decide) ?_
                refine q_iload rfl rfl ?_
                refine v_iadd (v := 0) rfl (by decide) ?_
                refine q_istore rfl (by decide) ?_
                refine q_iload rfl rfl ?_
                refine q_iload rfl rfl ?_
                refine v_iadd (v := 2 * (x1 / 2)) rfl (by omega) ?_
                refine q_istore rfl (by decide) ?_
                refine Wp_ls [(6, vi (2 * (x1 / 2))), (5, vi 0), (11, vi (x1 / 2)), (10, vi (x1 / 2)), (9, vi 0), (8, vi 0), (7, vi 0), (4, vi 0), (0, .ref 0), (1, vi x1), (2, vi x2), (3, vi x3)] (lsub_cons rfl (lsub_cons rfl (lsub_cons rfl (lsub_cons rfl (lsub_cons rfl (lsub_cons rfl (lsub_cons rfl (lsub_cons rfl (lsub_cons rfl (lsub_cons rfl (lsub_cons rfl (lsub_cons rfl lsub_nil)))))))))))) ?_
                refine v_iinc (v := 1) rfl rfl (by decide) (by decide) ?_
                refine v_iinc (v := 1) rfl rfl (by decide) (by decide) ?_
                refine q_goto (t := 50) rfl (by decide) ?_
                refine q_iload rfl rfl ?_
                refine q_iconst rfl ?_
                refine v_ic_ge_f (t := 153) rfl (by decide) (by decide) ?_
                refine q_iload rfl rfl ?_
                refine q_iconst rfl ?_
                refine v_idiv (v := 0) rfl (by omega) (by decide) ?_
                refine q_istore rfl (by decide) ?_
                refine q_iload rfl rfl ?_
                refine q_iconst rfl ?_
                refine v_irem (v := 1) rfl (by omega) (by decide) ?_
                refine q_istore rfl (by decide) ?_
                refine q_iload rfl rfl ?_
                refine q_iload rfl rfl ?_
                refine q_iload_n rfl rfl ?_
                refine q_iload_n rfl rfl ?_
                refine q_call rfl rfl rfl rfl ?_
                refine q_iload_n rfl rfl ?_
                refine v_if_ne_f (t := 8) rfl (by decide) (by decide) ?_
                refine q_iload_n rfl rfl ?_
                refine q_goto (t := 9) rfl (by decide) ?_
                refine q_istore rfl (by decide) ?_
                refine q_iload_n rfl rfl ?_
                refine q_iload_n rfl rfl ?_
                refine v_ic_ne_t (t := 23) rfl (by decide) (by decide) ?_
                refine q_iload rfl rfl ?_
                refine q_iret rfl rfl ?_
                refine bk_inl ?_
                refine q_istore rfl (by decide) ?_
                refine Wp_ls [(10, vi x1), (9, vi 1), (8, vi 0), (7, vi 1), (4, vi 1), (6, vi (2 * (x1 / 2))), (5, vi 0), (11, vi (x1 / 2)), (0, .ref 0), (1, vi x1), (2, vi x2), (3, vi x3)] (lsub_cons rfl (lsub_cons rfl (lsub_cons rfl (lsub_cons rfl (lsub_cons rfl (lsub_cons rfl (lsub_cons rfl (lsub_cons rfl (lsub_cons rfl (lsub_cons rfl (lsub_cons rfl (lsub_cons rfl lsub_nil)))))))))))) ?_
                refine q_iload rfl rfl ?_
                refine q_iload rfl rfl ?_
                refine q_iload_n rfl rfl ?_
                refine q_iload_n rfl rfl ?_
                refine q_call rfl rfl rfl rfl ?_
                refine q_iload_n rfl rfl ?_
                refine v_if_ne_t (t := 8) rfl (by decide) (by decide) ?_
                refine q_iload_n rfl rfl ?_
                refine q_istore rfl (by decide) ?_
                refine q_iload_n rfl rfl ?_
                refine q_iload_n rfl rfl ?_
                refine v_ic_ne_t (t := 23) rfl (by decide) (by decide) ?_
                refine q_iload rfl rfl ?_
                refine q_iret rfl rfl ?_
                refine bk_inl ?_
                refine q_istore rfl (by decide) ?_
                refine q_iconst rfl ?_
                refine q_iload rfl rfl ?_
                refine v_isub (v := 1) rfl (by decide) ?_
                refine q_iload rfl rfl ?_
                refine q_iload_n rfl rfl ?_
                refine q_iload_n rfl rfl ?_
                refine q_call rfl rfl rfl rfl ?_
                refine q_iload_n rfl rfl ?_
                refine v_if_ne_t (t := 8) rfl (by decide) (by decide) ?_
                refine q_iload_n rfl rfl ?_
                refine q_istore rfl (by decide) ?_
                refine q_iload_n rfl rfl ?_
                refine q_iload_n rfl rfl ?_
                refine v_ic_ne_f (t := 23) rfl (by decide) (by decide) ?_
                refine q_iload rfl rfl ?_
                refine q_iconst rfl ?_
                refine v_idiv (v := (x2 / 2)) rfl (by omega) rfl ?_
                refine q_goto (t := 25) rfl (by decide) ?_
                refine q_iret rfl rfl ?_
                refine bk_inl ?_
                refine q_iload rfl rfl ?_
                refine v_ic_gt_f (t := 147) rfl (by decide) (by omega) ?_
                refine q_iconst rfl ?_
                refine q_iload rfl rfl ?_
                refine v_isub (v := 0) rfl (by decide) ?_
                refine q_iload rfl rfl ?_
                refine q_iload_n rfl rfl ?_
                refine q_iload_n rfl rfl ?_
                refine q_call rfl rfl rfl rfl ?_
                refine q_iload_n rfl rfl ?_
                refine v_if_ne_f (t := 8) rfl (by decide) (by decide) ?_
                refine q_iload_n rfl rfl ?_
                refine q_goto (t := 9) rfl (by decide) ?_
                refine q_istore rfl (by decide) ?_
                refine q_iload_n rfl rfl ?_
                refine q_iload_n rfl rfl ?_
                refine v_ic_ne_f (t := 23) rfl (by decide) (by decide) ?_
                refine q_iload rfl rfl ?_
                refine q_iconst rfl ?_
                refine v_idiv (v := (x1 / 2)) rfl (by omega) rfl ?_
                refine q_goto (t := 25) rfl (by decide) ?_
                refine q_iret rfl rfl ?_
                refine bk_inl ?_
                refine q_iload rfl rfl ?_
                by_cases h_16 : (x1 / 2) > x2
                · refine v_ic_gt_t (t := 147) rfl (by decide) (by omega) ?_
                  refine v_iinc (v := 2) rfl rfl (by decide) (by decide) ?_
                  refine q_goto (t := 50) rfl (by decide) ?_
                  refine q_iload rfl rfl ?_
                  refine q_iconst rfl ?_
                  refine v_ic_ge_f (t := 153) rfl (by decide) (by decide) ?_
                  refine q_iload rfl rfl ?_
                  refine q_iconst rfl ?_
                  refine v_idiv (v := 1) rfl (by omega) (by decide) ?_
                  refine q_istore rfl (by decide) ?_
                  refine q_iload rfl rfl ?_
                  refine q_iconst rfl ?_
                  refine v_irem (v := 0) rfl (by omega) (by decide) ?_
                  refine q_istore rfl (by decide) ?_
                  refine q_iload rfl rfl ?_
                  refine q_iload rfl rfl ?_
                  refine q_iload_n rfl rfl ?_
                  refine q_iload_n rfl rfl ?_
                  refine q_call rfl rfl rfl rfl ?_
                  refine q_iload_n rfl rfl ?_
                  refine v_if_ne_t (t := 8) rfl (by decide) (by decide) ?_
                  refine q_iload_n rfl rfl ?_
                  refine q_istore rfl (by decide) ?_
                  refine q_iload_n rfl rfl ?_
                  refine q_iload_n rfl rfl ?_
                  refine v_ic_ne_t (t := 23) rfl (by decide) (by decide) ?_
                  refine q_iload rfl rfl ?_
                  refine q_iret rfl rfl ?_
                  refine bk_inl ?_
                  refine q_istore rfl (by decide) ?_
                  refine Wp_ls [(10, vi x2), (9, vi 0), (8, vi 1), (7, vi 2), (11, vi x2), (4, vi 1), (6, vi (2 * (x1 / 2))), (5, vi 0), (0, .ref 0), (1, vi x1), (2, vi x2), (3, vi x3)] (lsub_cons rfl (lsub_cons rfl (lsub_cons rfl (lsub_cons rfl (lsub_cons rfl (lsub_cons rfl (lsub_cons rfl (lsub_cons rfl (lsub_cons rfl (lsub_cons rfl (lsub_cons rfl (lsub_cons rfl lsub_nil)))))))))))) ?_
                  refine q_iload rfl rfl ?_
                  refine q_iload rfl rfl ?_
                  refine q_iload_n rfl rfl ?_
                  refine q_iload_n rfl rfl ?_
                  refine q_call rfl rfl rfl rfl ?_
                  refine q_iload_n rfl rfl ?_
                  refine v_if_ne_f (t := 8) rfl (by decide) (by decide) ?_
                  refine q_iload_n rfl rfl ?_
                  refine q_goto (t := 9) rfl (by decide) ?_
                  refine q_istore rfl (by decide) ?_
                  refine q_iload_n rfl rfl ?_
                  refine q_iload_n rfl rfl ?_
                  refine v_ic_ne_t (t := 23) rfl (by decide) (by decide) ?_
                  refine q_iload rfl rfl ?_
                  refine q_iret rfl rfl ?_
                  refine bk_inl ?_
                  refine q_istore rfl (by decide) ?_
                  refine q_iconst rfl ?_
                  refine q_iload rfl rfl ?_
                  refine v_isub (v := 0) rfl (by decide) ?_
                  refine q_iload rfl rfl ?_
                  refine q_iload_n rfl rfl ?_
                  refine q_iload_n rfl rfl ?_
                  refine q_call rfl rfl rfl rfl ?_
                  refine q_iload_n rfl rfl ?_
                  refine v_if_ne_f (t := 8) rfl (by decide) (by decide) ?_
                  refine q_iload_n rfl rfl ?_
                  refine q_goto (t := 9) rfl (by decide) ?_
                  refine q_istore rfl (by decide) ?_
                  refine q_iload_n rfl rfl ?_
                  refine q_iload_n rfl rfl ?_
                  refine v_ic_ne_f (t := 23) rfl (by decide) (by decide) ?_
                  refine q_iload rfl rfl ?_
                  refine q_iconst rfl ?_
                  refine v_idiv (v := (x1 / 2)) rfl (by omega) rfl ?_
                  refine q_goto (t := 25) rfl (by decide) ?_
                  refine q_iret rfl rfl ?_
                  refine bk_inl ?_
                  refine q_iload rfl rfl ?_
                  refine v_ic_gt_t (t := 147) rfl (by decide) (by omega) ?_
                  refine v_iinc (v := 3) rfl rfl (by decide) (by decide) ?_
                  refine q_goto (t := 50) rfl (by decide) ?_
                  refine q_iload rfl rfl ?_
                  refine q_iconst rfl ?_
                  refine v_ic_ge_f (t := 153) rfl (by decide) (by decide) ?_
                  refine q_iload rfl rfl ?_
                  refine q_iconst rfl ?_
                  refine v_idiv (v := 1) rfl (by omega) (by decide) ?_
                  refine q_istore rfl (by decide) ?_
                  refine q_iload rfl rfl ?_
                  refine q_iconst rfl ?_
                  refine v_irem (v := 1) rfl (by omega) (by decide) ?_
                  refine q_istore rfl (by decide) ?_
                  refine q_iload rfl rfl ?_
                  refine q_iload rfl rfl ?_
                  refine q_iload_n rfl rfl ?_
                  refine q_iload_n rfl rfl ?_
                  refine q_call rfl rfl rfl rfl ?_
                  refine q_iload_n rfl rfl ?_
                  refine v_if_ne_t (t := 8) rfl (by decide) (by decide) ?_
                  refine q_iload_n rfl rfl ?_
                  refine q_istore rfl (by decide) ?_
                  refine q_iload_n rfl rfl ?_
                  refine q_iload_n rfl rfl ?_
                  refine v_ic_ne_f (t := 23) rfl (by decide) (by decide) ?_
                  refine q_iload rfl rfl ?_
                  refine q_iconst rfl ?_
                  refine v_idiv (v := (x2 / 2)) rfl (by omega) rfl ?_
                  refine q_goto (t := 25) rfl (by decide) ?_
                  refine q_iret rfl rfl ?_
                  refine bk_inl ?_
                  refine q_istore rfl (by decide) ?_
                  refine Wp_ls [(10, vi (x2 / 2)), (9, vi 1), (8, vi 1), (7, vi 3), (11, vi x1), (4, vi 1), (6, vi (2 * (x1 / 2))), (5, vi 0), (0, .ref 0), (1, vi x1), (2, vi x2), (3, vi x3)] (lsub_cons rfl (lsub_cons rfl (lsub_cons rfl (lsub_cons rfl (lsub_cons rfl (lsub_cons rfl (lsub_cons rfl (lsub_cons rfl (lsub_cons rfl (lsub_cons rfl (lsub_cons rfl (lsub_cons rfl lsub_nil)))))))))))) ?_
                  refine q_iload rfl rfl ?_
                  refine q_iload rfl rfl ?_
                  refine q_iload_n rfl rfl ?_
                  refine q_iload_n rfl rfl ?_
                  refine q_call rfl rfl rfl rfl ?_
                  refine q_iload_n rfl rfl ?_
                  refine v_if_ne_t (t := 8) rfl (by decide) (by decide) ?_
                  refine q_iload_n rfl rfl ?_
                  refine q_istore rfl (by decide) ?_
                  refine q_iload_n rfl rfl ?_
                  refine q_iload_n rfl rfl ?_
                  refine v_ic_ne_f (t := 23) rfl (by decide) (by decide) ?_
                  refine q_iload rfl rfl ?_
                  refine q_iconst rfl ?_
                  refine v_idiv (v := (x2 / 2)) rfl (by omega) rfl ?_
                  refine q_goto (t := 25) rfl (by decide) ?_
                  refine q_iret rfl rfl ?_
                  refine bk_inl ?_
                  refine q_istore rfl (by decide) ?_
                  refine q_iconst rfl ?_
                  refine q_iload rfl rfl ?_
                  refine v_isub (v := 0) rfl (by decide) ?_
                  refine q_iload rfl rfl ?_
                  refine q_iload_n rfl rfl ?_
                  refine q_iload_n rfl rfl ?_
                  refine q_call rfl rfl rfl rfl ?_
                  refine q_iload_n rfl rfl ?_
                  refine v_if_ne_f (t := 8) rfl (by decide) (by decide) ?_
                  refine q_iload_n rfl rfl ?_
                  refine q_goto (t := 9) rfl (by decide) ?_
                  refine q_istore rfl (by decide) ?_
                  refine q_iload_n rfl rfl ?_
                  refine q_iload_n rfl rfl ?_
                  refine v_ic_ne_t (t := 23) rfl (by decide) (by decide) ?_
                  refine q_iload rfl rfl ?_
                  refine q_iret rfl rfl ?_
                  refine bk_inl ?_
                  refine q_iload rfl rfl ?_
                  refine v_ic_gt_t (t := 147) rfl (by decide) (by omega) ?_
                  refine v_iinc (v := 4) rfl rfl (by decide) (by decide) ?_
                  refine q_goto (t := 50) rfl (by decide) ?_
                  refine q_iload rfl rfl ?_
                  refine q_iconst rfl ?_
                  refine v_ic_ge_t (t := 153) rfl (by decide) (by decide) ?_
                  refine q_iload_n rfl rfl ?_
                  by_cases h_17 : x3 = 0
                  · refine v_lsw (t := 180) (off := 26) 0 rfl (by omega) (by decide) (by decide) (by decide) (by decide) ?_
                    refine q_iload rfl rfl ?_
                    refine q_iret rfl rfl ?_
                    refine bk_inl ?_
                    refine v_i2l rfl (by omega) ?_
                    refine v_ls rfl rfl (by decide) (by decide) (by decide) ?_
                    refine q_goto (t := 19) rfl (by decide) ?_
                    refine q_iconst rfl ?_
                    refine q_iret rfl rfl ?_
                    refine bk_inl ?_
                    refine q_istore rfl (by decide) ?_
                    refine q_aload_n rfl rfl ?_
                    refine q_aload_n rfl rfl ?_
                    refine q_iload rfl rfl ?_
                    refine q_iconst rfl ?_
                    refine v_iadd (v := (i0 : Int) + 1) rfl (by omega) ?_
                    refine v_scr (j := i0 + 1) rfl (by omega) (by omega) hL hx1 ?_
                    refine q_aload_n rfl rfl ?_
                    refine q_iload rfl rfl ?_
                    refine q_iconst rfl ?_
                    refine v_iadd (v := (i0 : Int) + 2) rfl (by omega) ?_
                    refine v_scr (j := i0 + 2) rfl (by omega) (by omega) hL hx2 ?_
                    refine q_aload_n rfl rfl ?_
                    refine q_iload rfl rfl ?_
                    refine q_iconst rfl ?_
                    refine v_iadd (v := (i0 : Int) + 3) rfl (by omega) ?_
                    refine v_scr (j := i0 + 3) rfl (by omega) (by omega) hL hx3 ?_
                    refine v_cv rfl rfl rfl rfl (by decide) ⟨⟨rfl, rfl⟩, by decide, rfl⟩ (Nat.le_of_ble_eq_true rfl) (Nat.le_of_ble_eq_true rfl) ?_
                    refine q_aload_n rfl rfl ?_
                    refine q_iconst rfl ?_
                    refine v_pi (z := 0) rfl rfl rfl (by decide) rfl rfl rfl (by decide) ?_
                    refine q_aload_n rfl rfl ?_
                    refine q_iload_n rfl rfl ?_
                    refine q_iconst rfl ?_
                    refine v_bip rfl (by decide) ?_
                    refine q_call rfl rfl rfl rfl ?_
                    refine q_iload_n rfl rfl ?_
                    refine q_iload_n rfl rfl ?_
                    refine v_ic_lt_f (t := 14) rfl (by decide) (by omega) ?_
                    refine q_iload_n rfl rfl ?_
                    refine q_iload_n rfl rfl ?_
                    refine v_ic_gt_f (t := 14) rfl (by decide) (by omega) ?_
                    refine q_iconst rfl ?_
                    refine q_goto (t := 15) rfl (by decide) ?_
                    refine v_zret rfl rfl (by omega) ?_
                    refine bk_inl ?_
                    refine v_if_eq_f (t := 39) rfl (by decide) (by decide) ?_
                    refine q_iload_n rfl rfl ?_
                    refine q_iconst rfl ?_
                    refine v_bip rfl (by decide) ?_
                    refine q_call rfl rfl rfl rfl ?_
                    refine q_iload_n rfl rfl ?_
                    refine q_iload_n rfl rfl ?_
                    refine v_ic_lt_f (t := 14) rfl (by decide) (by omega) ?_
                    refine q_iload_n rfl rfl ?_
                    refine q_iload_n rfl rfl ?_
                    refine v_ic_gt_f (t := 14) rfl (by decide) (by omega) ?_
                    refine q_iconst rfl ?_
                    refine q_goto (t := 15) rfl (by decide) ?_
                    refine v_zret rfl rfl (by omega) ?_
                    refine bk_inl ?_
                    refine v_if_eq_f (t := 39) rfl (by decide) (by decide) ?_
                    refine q_iload_n rfl rfl ?_
                    refine q_iconst rfl ?_
                    refine q_iconst rfl ?_
                    refine q_call rfl rfl rfl rfl ?_
                    refine q_iload_n rfl rfl ?_
                    refine q_iload_n rfl rfl ?_
                    refine v_ic_lt_f (t := 14) rfl (by decide) (by omega) ?_
                    refine q_iload_n rfl rfl ?_
                    refine q_iload_n rfl rfl ?_
                    refine v_ic_gt_f (t := 14) rfl (by decide) (by omega) ?_
                    refine q_iconst rfl ?_
                    refine q_goto (t := 15) rfl (by decide) ?_
                    refine v_zret rfl rfl (by omega) ?_
                    refine bk_inl ?_
                    refine v_if_eq_f (t := 39) rfl (by decide) (by decide) ?_
                    refine q_iconst rfl ?_
                    refine q_goto (t := 40) rfl (by decide) ?_
                    refine q_iconst rfl ?_
                    refine q_iconst rfl ?_
                    refine v_cv rfl rfl rfl rfl (by decide) ⟨⟨rfl, rfl⟩, by decide, rfl⟩ (Nat.le_of_ble_eq_true rfl) (Nat.le_of_ble_eq_true rfl) ?_
                    refine q_iload_n rfl rfl ?_
                    refine v_if_ne_t (t := 26) rfl (by decide) (by decide) ?_
                    refine q_aload_n rfl rfl ?_
                    refine v_gi (z := 0) (v := 0) rfl rfl rfl (by decide) rfl rfl (up_e rfl) ?_
                    refine v_if_ne_f (t := 37) rfl (by decide) (by decide) ?_
                    refine q_iconst rfl ?_
                    refine q_goto (t := 38) rfl (by decide) ?_
                    refine v_zret rfl rfl (by omega) ?_
                    refine bk_inl ?_
                    refine v_if_ne_t (t := 50) rfl (by decide) (by decide) ?_
                    refine q_iconst rfl ?_
                    refine q_istore rfl (by decide) ?_
                    refine q_iconst rfl ?_
                    refine q_istore rfl (by decide) ?_
                    refine q_iconst rfl ?_
                    refine q_istore rfl (by decide) ?_
                    refine q_iload rfl rfl ?_
                    refine q_iconst rfl ?_
                    refine v_ic_ge_f (t := 156) rfl (by decide) (by decide) ?_
                    refine q_iload rfl rfl ?_
                    refine q_iconst rfl ?_
                    refine v_idiv (v := 0) rfl (by omega) (by decide) ?_
                    refine q_istore rfl (by decide) ?_
                    refine q_iload rfl rfl ?_
                    refine q_iconst rfl ?_
                    refine v_irem (v := 0) rfl (by omega) (by decide) ?_
                    refine q_istore rfl (by decide) ?_
                    refine Wp_ls [(8, vi 0), (7, vi 0), (6, vi 0), (5, vi (-1)), (4, vi 0), (0, .ref 41), (1, vi x1), (2, vi x2), (3, vi x3)] (lsub_cons rfl (lsub_cons rfl (lsub_cons rfl (lsub_cons rfl (lsub_cons rfl (lsub_cons rfl (lsub_cons rfl (lsub_cons rfl (lsub_cons rfl lsub_nil))))))))) ?_
                    refine q_iconst rfl ?_
                    refine q_iload rfl rfl ?_
                    refine v_isub (v := 1) rfl (by decide) ?_
                    refine q_iload rfl rfl ?_
                    refine q_iload_n rfl rfl ?_
                    refine q_iload_n rfl rfl ?_
                    refine q_call rfl rfl rfl rfl ?_
                    refine q_iload_n rfl rfl ?_
                    refine v_if_ne_t (t := 18) rfl (by decide) (by decide) ?_
                    refine q_iload_n rfl rfl ?_
                    refine q_iconst rfl ?_
                    refine v_ic_ne_t (t := 29) rfl (by decide) (by decide) ?_
                    refine q_iload_n rfl rfl ?_
                    refine q_iret rfl rfl ?_
                    refine bk_inl ?_
                    refine q_iload rfl rfl ?_
                    refine q_iload rfl rfl ?_
                    refine q_iload_n rfl rfl ?_
                    refine q_iload_n rfl rfl ?_
                    refine q_call rfl rfl rfl rfl ?_
                    refine q_iload_n rfl rfl ?_
                    refine v_if_ne_f (t := 18) rfl (by decide) (by decide) ?_
                    refine q_iload_n rfl rfl ?_
                    refine v_if_ne_f (t := 14) rfl (by decide) (by decide) ?_
                    refine q_iload_n rfl rfl ?_
                    refine q_iconst rfl ?_
                    refine v_idiv (v := (x1 / 2)) rfl (by omega) rfl ?_
                    refine q_goto (t := 30) rfl (by decide) ?_
                    refine q_iret rfl rfl ?_
                    refine bk_inl ?_
                    refine v_ic_gt_f (t := 150) rfl (by decide) (by omega) ?_
                    refine q_iconst rfl ?_
                    refine q_iload rfl rfl ?_
                    refine v_isub (v := 1) rfl (by decide) ?_
                    refine q_iload rfl rfl ?_
                    refine q_iload_n rfl rfl ?_
                    refine q_iload_n rfl rfl ?_
                    refine q_call rfl rfl rfl rfl ?_
                    refine q_iload_n rfl rfl ?_
                    refine v_if_ne_t (t := 18) rfl (by decide) (by decide) ?_
                    refine q_iload_n rfl rfl ?_
                    refine q_iconst rfl ?_
                    refine v_ic_ne_t (t := 29) rfl (by decide) (by decide) ?_
                    refine q_iload_n rfl rfl ?_
                    refine q_iret rfl rfl ?_
                    refine bk_inl ?_
                    refine q_iload rfl rfl ?_
                    refine q_iload rfl rfl ?_
                    refine q_iload_n rfl rfl ?_
                    refine q_iload_n rfl rfl ?_
                    refine q_call rfl rfl rfl rfl ?_
                    refine q_iload_n rfl rfl ?_
                    refine v_if_ne_f (t := 18) rfl (by decide) (by decide) ?_
                    refine q_iload_n rfl rfl ?_
                    refine v_if_ne_f (t := 14) rfl (by decide) (by decide) ?_
                    refine q_iload_n rfl rfl ?_
                    refine q_iconst rfl ?_
                    refine v_idiv (v := (x1 / 2)) rfl (by omega) rfl ?_
                    refine q_goto (t := 30) rfl (by decide) ?_
                    refine q_iret rfl rfl ?_
                    refine bk_inl ?_
                    refine v_ic_le_t (t := 126) rfl (by decide) (by omega) ?_
                    refine v_iinc (v := 1) rfl rfl (by decide) (by decide) ?_
                    refine q_iload rfl rfl ?_
                    refine q_iconst rfl ?_
                    refine v_ic_ne_f (t := 146) rfl (by decide) (by decide) ?_
                    refine v_bip rfl (by decide) ?_
                    refine q_iload rfl rfl ?_
                    refine v_imul (v := 0) rfl (by decide) ?_
                    refine q_iload rfl rfl ?_
                    refine v_iadd (v := 0) rfl (by decide) ?_
                    refine q_goto (t := 148) rfl (by decide) ?_
                    refine q_istore rfl (by decide) ?_
                    refine v_iinc (v := 1) rfl rfl (by decide) (by decide) ?_
                    refine q_goto (t := 59) rfl (by decide) ?_
                    refine q_iload rfl rfl ?_
                    refine q_iconst rfl ?_
                    refine v_ic_ge_f (t := 156) rfl (by decide) (by decide) ?_
                    refine q_iload rfl rfl ?_
                    refine q_iconst rfl ?_
                    refine v_idiv (v := 0) rfl (by omega) (by decide) ?_
                    refine q_istore rfl (by decide) ?_
                    refine q_iload rfl rfl ?_
                    refine q_iconst rfl ?_
                    refine v_irem (v := 1) rfl (by omega) (by decide) ?_
                    refine q_istore rfl (by decide) ?_
                    refine Wp_ls [(8, vi 1), (7, vi 0), (6, vi 1), (5, vi 0), (4, vi 1), (0, .ref 41), (1, vi x1), (2, vi x2), (3, vi x3)] (lsub_cons rfl (lsub_cons rfl (lsub_cons rfl (lsub_cons rfl (lsub_cons rfl (lsub_cons rfl (lsub_cons rfl (lsub_cons rfl (lsub_cons rfl lsub_nil))))))))) ?_
                    refine q_iconst rfl ?_
                    refine q_iload rfl rfl ?_
                    refine v_isub (v := 1) rfl (by decide) ?_
                    refine q_iload rfl rfl ?_
                    refine q_iload_n rfl rfl ?_
                    refine q_iload_n rfl rfl ?_
                    refine q_call rfl rfl rfl rfl ?_
                    refine q_iload_n rfl rfl ?_
                    refine v_if_ne_t (t := 18) rfl (by decide) (by decide) ?_
                    refine q_iload_n rfl rfl ?_
                    refine q_iconst rfl ?_
                    refine v_ic_ne_f (t := 29) rfl (by decide) (by decide) ?_
                    refine q_iload_n rfl rfl ?_
                    refine q_iconst rfl ?_
                    refine v_idiv (v := (x2 / 2)) rfl (by omega) rfl ?_
                    refine q_goto (t := 30) rfl (by decide) ?_
                    refine q_iret rfl rfl ?_
                    refine bk_inl ?_
                    refine q_iload rfl rfl ?_
                    refine q_iload rfl rfl ?_
                    refine q_iload_n rfl rfl ?_
                    refine q_iload_n rfl rfl ?_
                    refine q_call rfl rfl rfl rfl ?_
                    refine q_iload_n rfl rfl ?_
                    refine v_if_ne_f (t := 18) rfl (by decide) (by decide) ?_
                    refine q_iload_n rfl rfl ?_
                    refine v_if_ne_t (t := 14) rfl (by decide) (by decide) ?_
                    refine q_iload_n rfl rfl ?_
                    refine q_goto (t := 30) rfl (by decide) ?_
                    refine q_iret rfl rfl ?_
                    refine bk_inl ?_
                    refine v_ic_gt_f (t := 150) rfl (by decide) (by omega) ?_
                    refine q_iconst rfl ?_
                    refine q_iload rfl rfl ?_
                    refine v_isub (v := 0) rfl (by decide) ?_
                    refine q_iload rfl rfl ?_
                    refine q_iload_n rfl rfl ?_
                    refine q_iload_n rfl rfl ?_
                    refine q_call rfl rfl rfl rfl ?_
                    refine q_iload_n rfl rfl ?_
                    refine v_if_ne_f (t := 18) rfl (by decide) (by decide) ?_
                    refine q_iload_n rfl rfl ?_
                    refine v_if_ne_f (t := 14) rfl (by decide) (by decide) ?_
                    refine q_iload_n rfl rfl ?_
                    refine q_iconst rfl ?_
                    refine v_idiv (v := (x1 / 2)) rfl (by omega) rfl ?_
                    refine q_goto (t := 30) rfl (by decide) ?_
                    refine q_iret rfl rfl ?_
                    refine bk_inl ?_
                    refine q_iload rfl rfl ?_
                    refine q_iload rfl rfl ?_
                    refine q_iload_n rfl rfl ?_
                    refine q_iload_n rfl rfl ?_
                    refine q_call rfl rfl rfl rfl ?_
                    refine q_iload_n rfl rfl ?_
                    refine v_if_ne_t (t := 18) rfl (by decide) (by decide) ?_
                    refine q_iload_n rfl rfl ?_
                    refine q_iconst rfl ?_
                    refine v_ic_ne_t (t := 29) rfl (by decide) (by decide) ?_
                    refine q_iload_n rfl rfl ?_
                    refine q_iret rfl rfl ?_
                    refine bk_inl ?_
                    refine v_ic_le_f (t := 126) rfl (by decide) (by omega) ?_
                    refine q_goto (t := 150) rfl (by decide) ?_
                    refine v_iinc (v := 2) rfl rfl (by decide) (by decide) ?_
                    refine q_goto (t := 59) rfl (by decide) ?_
                    refine q_iload rfl rfl ?_
                    refine q_iconst rfl ?_
                    refine v_ic_ge_f (t := 156) rfl (by decide) (by decide) ?_
                    refine q_iload rfl rfl ?_
                    refine q_iconst rfl ?_
                    refine v_idiv (v := 1) rfl (by omega) (by decide) ?_
                    refine q_istore rfl (by decide) ?_
                    refine q_iload rfl rfl ?_
                    refine q_iconst rfl ?_
                    refine v_irem (v := 0) rfl (by omega) (by decide) ?_
                    refine q_istore rfl (by decide) ?_
                    refine q_iconst rfl ?_
                    refine q_iload rfl rfl ?_
                    refine v_isub (v := 0) rfl (by decide) ?_
                    refine q_iload rfl rfl ?_
                    refine q_iload_n rfl rfl ?_
                    refine q_iload_n rfl rfl ?_
                    refine q_call rfl rfl rfl rfl ?_
                    refine q_iload_n rfl rfl ?_
                    refine v_if_ne_f (t := 18) rfl (by decide) (by decide) ?_
                    refine q_iload_n rfl rfl ?_
                    refine v_if_ne_f (t := 14) rfl (by decide) (by decide) ?_
                    refine q_iload_n rfl rfl ?_
                    refine q_iconst rfl ?_
                    refine v_idiv (v := (x1 / 2)) rfl (by omega) rfl ?_
                    refine q_goto (t := 30) rfl (by decide) ?_
                    refine q_iret rfl rfl ?_
                    refine bk_inl ?_
                    refine q_iload rfl rfl ?_
                    refine q_iload rfl rfl ?_
                    refine q_iload_n rfl rfl ?_
                    refine q_iload_n rfl rfl ?_
                    refine q_call rfl rfl rfl rfl ?_
                    refine q_iload_n rfl rfl ?_
                    refine v_if_ne_t (t := 18) rfl (by decide) (by decide) ?_
                    refine q_iload_n rfl rfl ?_
                    refine q_iconst rfl ?_
                    refine v_ic_ne_t (t := 29) rfl (by decide) (by decide) ?_
                    refine q_iload_n rfl rfl ?_
                    refine q_iret rfl rfl ?_
                    refine bk_inl ?_
                    refine v_ic_gt_t (t := 150) rfl (by decide) (by omega) ?_
                    refine v_iinc (v := 3) rfl rfl (by decide) (by decide) ?_
                    refine q_goto (t := 59) rfl (by decide) ?_
                    refine q_iload rfl rfl ?_
                    refine q_iconst rfl ?_
                    refine v_ic_ge_f (t := 156) rfl (by decide) (by decide) ?_
                    refine q_iload rfl rfl ?_
                    refine q_iconst rfl ?_
                    refine v_idiv (v := 1) rfl (by omega) (by decide) ?_
                    refine q_istore rfl (by decide) ?_
                    refine Wp_ls [(7, vi 1), (6, vi 3), (8, vi 0), (5, vi 0), (4, vi 1), (0, .ref 41), (1, vi x1), (2, vi x2), (3, vi x3)] (lsub_cons rfl (lsub_cons rfl (lsub_cons rfl (lsub_cons rfl (lsub_cons rfl (lsub_cons rfl (lsub_cons rfl (lsub_cons rfl (lsub_cons rfl lsub_nil))))))))) ?_
                    refine q_iload rfl rfl ?_
                    refine q_iconst rfl ?_
                    refine v_irem (v := 1) rfl (by omega) (by decide) ?_
                    refine q_istore rfl (by decide) ?_
                    refine q_iconst rfl ?_
                    refine q_iload rfl rfl ?_
                    refine v_isub (v := 0) rfl (by decide) ?_
                    refine q_iload rfl rfl ?_
                    refine q_iload_n rfl rfl ?_
                    refine q_iload_n rfl rfl ?_
                    refine q_call rfl rfl rfl rfl ?_
                    refine q_iload_n rfl rfl ?_
                    refine v_if_ne_f (t := 18) rfl (by decide) (by decide) ?_
                    refine q_iload_n rfl rfl ?_
                    refine v_if_ne_t (t := 14) rfl (by decide) (by decide) ?_
                    refine q_iload_n rfl rfl ?_
                    refine q_goto (t := 30) rfl (by decide) ?_
                    refine q_iret rfl rfl ?_
                    refine bk_inl ?_
                    refine q_iload rfl rfl ?_
                    refine q_iload rfl rfl ?_
                    refine q_iload_n rfl rfl ?_
                    refine q_iload_n rfl rfl ?_
                    refine q_call rfl rfl rfl rfl ?_
                    refine q_iload_n rfl rfl ?_
                    refine v_if_ne_t (t := 18) rfl (by decide) (by decide) ?_
                    refine q_iload_n rfl rfl ?_
                    refine q_iconst rfl ?_
                    refine v_ic_ne_f (t := 29) rfl (by decide) (by decide) ?_
                    refine q_iload_n rfl rfl ?_
                    refine q_iconst rfl ?_
                    refine v_idiv (v := (x2 / 2)) rfl (by omega) rfl ?_
                    refine q_goto (t := 30) rfl (by decide) ?_
                    refine q_iret rfl rfl ?_
                    refine bk_inl ?_
                    refine v_ic_gt_t (t := 150) rfl (by decide) (by omega) ?_
                    refine v_iinc (v := 4) rfl rfl (by decide) (by decide) ?_
                    refine q_goto (t := 59) rfl (by decide) ?_
                    refine q_iload rfl rfl ?_
                    refine q_iconst rfl ?_
                    refine v_ic_ge_t (t := 156) rfl (by decide) (by decide) ?_
                    refine q_iload_n rfl rfl ?_
                    refine v_if_ne_f (t := 165) rfl (by decide) (by omega) ?_
                    refine q_iload rfl rfl ?_
                    refine q_goto (t := 216) rfl (by decide) ?_
                    refine q_iret rfl rfl ?_
                    refine bk_inl ?_
                    refine q_istore rfl (by decide) ?_
                    refine q_aload_n rfl rfl ?_
                    refine v_cv rfl rfl rfl rfl (by decide) ⟨⟨rfl, rfl⟩, by decide, rfl⟩ (Nat.le_of_ble_eq_true rfl) (Nat.le_of_ble_eq_true rfl) ?_
                    refine q_aload_n rfl rfl ?_
                    refine v_gi (z := 0) (v := 0) rfl rfl rfl (by decide) rfl rfl (up_e rfl) ?_
                    refine q_iret rfl rfl ?_
                    refine bk_inl ?_
                    refine q_iload rfl rfl ?_
                    refine v_ic_eq_t (t := 1215) rfl (by decide) (by decide) ?_
                    refine q_iload rfl rfl ?_
                    refine v_if_ne_f (t := 1232) rfl (by decide) (by decide) ?_
                    refine q_aload_n rfl rfl ?_
                    refine q_iconst rfl ?_
                    refine v_la (v := 1) rfl rfl (by decide) (by decide) (by decide) ((up_c (by decide)).trans (up_e rfl)) ?_
                    refine q_iload rfl rfl ?_
                    refine v_i2l rfl (by omega) ?_
                    refine v_lcmp0 rfl (by omega) ?_
                    refine v_if_eq_t (t := 1232) rfl (by decide) (by decide) ?_
                    refine q_goto (t := 1844) rfl (by decide) ?_
                    refine Wp_ls [(4, vi (i0 : Int)), (3, .ref 67), (2, .ref 41), (1, .ref 0), (0, .ref a_SC)] (lsub_cons rfl (lsub_cons rfl (lsub_cons rfl (lsub_cons rfl (lsub_cons rfl lsub_nil))))) ?_
                    refine K (up (up c 67 0 1) 41 0 0) 0 (by decide) ?_ ?_ ?_
                    · intro a j h
                      exact ((up_b (by omega)).trans (up_b (by omega)))
                    · exact Eq.trans (b := c 0 13) ((up_c (by decide)).trans (up_c (by decide))) (show _ = c 0 13 + 0 by omega)
                    · exact Eq.trans (b := c 42 1) ((up_c (by decide)).trans (up_c (by decide))) (show _ = c 42 1 + 0 by omega)
                  by_cases h_18 : x3 = 1
                  · refine v_lsw (t := 183) (off := 29) 1 rfl (by omega) (by decide) (by decide) (by decide) (by decide) ?_
                    refine q_iload rfl rfl ?_
                    refine q_iret rfl rfl ?_
                    refine bk_inl ?_
                    refine v_i2l rfl (by omega) ?_
                    refine v_ls rfl rfl (by decide) (by decide) (by decide) ?_
                    refine q_goto (t := 19) rfl (by decide) ?_
                    refine q_iconst rfl ?_
                    refine q_iret rfl rfl ?_
                    refine bk_inl ?_
                    refine q_istore rfl (by decide) ?_
                    refine q_aload_n rfl rfl ?_
                    refine q_aload_n rfl rfl ?_
                    refine q_iload rfl rfl ?_
                    refine q_iconst rfl ?_
                    refine v_iadd (v := (i0 : Int) + 1) rfl (by omega) ?_
                    refine v_scr (j := i0 + 1) rfl (by omega) (by omega) hL hx1 ?_
                    refine q_aload_n rfl rfl ?_
                    refine q_iload rfl rfl ?_
                    refine q_iconst rfl ?_
                    refine v_iadd (v := (i0 : Int) + 2) rfl (by omega) ?_
                    refine v_scr (j := i0 + 2) rfl (by omega) (by omega) hL hx2 ?_
                    refine q_aload_n rfl rfl ?_
                    refine q_iload rfl rfl ?_
                    refine q_iconst rfl ?_
                    refine v_iadd (v := (i0 : Int) + 3) rfl (by omega) ?_
                    refine v_scr (j := i0 + 3) rfl (by omega) (by omega) hL hx3 ?_
                    refine v_cv rfl rfl rfl rfl (by decide) ⟨⟨rfl, rfl⟩, by decide, rfl⟩ (Nat.le_of_ble_eq_true rfl) (Nat.le_of_ble_eq_true rfl) ?_
                    refine q_aload_n rfl rfl ?_
                    refine q_iconst rfl ?_
                    refine v_pi (z := 0) rfl rfl rfl (by decide) rfl rfl rfl (by decide) ?_
                    refine q_aload_n rfl rfl ?_
                    refine q_iload_n rfl rfl ?_
                    refine q_iconst rfl ?_
                    refine v_bip rfl (by decide) ?_
                    refine q_call rfl rfl rfl rfl ?_
                    refine q_iload_n rfl rfl ?_
                    refine q_iload_n rfl rfl ?_
                    refine v_ic_lt_f (t := 14) rfl (by decide) (by omega) ?_
                    refine q_iload_n rfl rfl ?_
                    refine q_iload_n rfl rfl ?_
                    refine v_ic_gt_f (t := 14) rfl (by decide) (by omega) ?_
                    refine q_iconst rfl ?_
                    refine q_goto (t := 15) rfl (by decide) ?_
                    refine v_zret rfl rfl (by omega) ?_
                    refine bk_inl ?_
                    refine v_if_eq_f (t := 39) rfl (by decide) (by decide) ?_
                    refine q_iload_n rfl rfl ?_
                    refine q_iconst rfl ?_
                    refine v_bip rfl (by decide) ?_
                    refine q_call rfl rfl rfl rfl ?_
                    refine q_iload_n rfl rfl ?_
                    refine q_iload_n rfl rfl ?_
                    refine v_ic_lt_f (t := 14) rfl (by decide) (by omega) ?_
                    refine q_iload_n rfl rfl ?_
                    refine q_iload_n rfl rfl ?_
                    refine v_ic_gt_f (t := 14) rfl (by decide) (by omega) ?_
                    refine q_iconst rfl ?_
                    refine q_goto (t := 15) rfl (by decide) ?_
                    refine v_zret rfl rfl (by omega) ?_
                    refine bk_inl ?_
                    refine v_if_eq_f (t := 39) rfl (by decide) (by decide) ?_
                    refine q_iload_n rfl rfl ?_
                    refine q_iconst rfl ?_
                    refine q_iconst rfl ?_
                    refine q_call rfl rfl rfl rfl ?_
                    refine q_iload_n rfl rfl ?_
                    refine q_iload_n rfl rfl ?_
                    refine v_ic_lt_f (t := 14) rfl (by decide) (by omega) ?_
                    refine q_iload_n rfl rfl ?_
                    refine q_iload_n rfl rfl ?_
                    refine v_ic_gt_f (t := 14) rfl (by decide) (by omega) ?_
                    refine q_iconst rfl ?_
                    refine q_goto (t := 15) rfl (by decide) ?_
                    refine v_zret rfl rfl (by omega) ?_
                    refine bk_inl ?_
                    refine v_if_eq_f (t := 39) rfl (by decide) (by decide) ?_
                    refine q_iconst rfl ?_
                    refine q_goto (t := 40) rfl (by decide) ?_
                    refine q_iconst rfl ?_
                    refine q_iconst rfl ?_
                    refine v_cv rfl rfl rfl rfl (by decide) ⟨⟨rfl, rfl⟩, by decide, rfl⟩ (Nat.le_of_ble_eq_true rfl) (Nat.le_of_ble_eq_true rfl) ?_
                    refine q_iload_n rfl rfl ?_
                    refine v_if_ne_t (t := 26) rfl (by decide) (by decide) ?_
                    refine q_aload_n rfl rfl ?_
                    refine v_gi (z := 0) (v := 0) rfl rfl rfl (by decide) rfl rfl (up_e rfl) ?_
                    refine v_if_ne_f (t := 37) rfl (by decide) (by decide) ?_
                    refine q_iconst rfl ?_
                    refine q_goto (t := 38) rfl (by decide) ?_
                    refine v_zret rfl rfl (by omega) ?_
                    refine bk_inl ?_
                    refine v_if_ne_t (t := 50) rfl (by decide) (by decide) ?_
                    refine q_iconst rfl ?_
                    refine q_istore rfl (by decide) ?_
                    refine q_iconst rfl ?_
                    refine q_istore rfl (by decide) ?_
                    refine q_iconst rfl ?_
                    refine q_istore rfl (by decide) ?_
                    refine q_iload rfl rfl ?_
                    refine q_iconst rfl ?_
                    refine v_ic_ge_f (t := 156) rfl (by decide) (by decide) ?_
                    refine q_iload rfl rfl ?_
                    refine q_iconst rfl ?_
                    refine v_idiv (v := 0) rfl (by omega) (by decide) ?_
                    refine q_istore rfl (by decide) ?_
                    refine q_iload rfl rfl ?_
                    refine q_iconst rfl ?_
                    refine v_irem (v := 0) rfl (by omega) (by decide) ?_
                    refine q_istore rfl (by decide) ?_
                    refine Wp_ls [(8, vi 0), (7, vi 0), (6, vi 0), (5, vi (-1)), (4, vi 0), (0, .ref 41), (1, vi x1), (2, vi x2), (3, vi x3)] (lsub_cons rfl (lsub_cons rfl (lsub_cons rfl (lsub_cons rfl (lsub_cons rfl (lsub_cons rfl (lsub_cons rfl (lsub_cons rfl (lsub_cons rfl lsub_nil))))))))) ?_
                    refine q_iconst rfl ?_
                    refine q_iload rfl rfl ?_
                    refine v_isub (v := 1) rfl (by decide) ?_
                    refine q_iload rfl rfl ?_
                    refine q_iload_n rfl rfl ?_
                    refine q_iload_n rfl rfl ?_
                    refine q_call rfl rfl rfl rfl ?_
                    refine q_iload_n rfl rfl ?_
                    refine v_if_ne_t (t := 18) rfl (by decide) (by decide) ?_
                    refine q_iload_n rfl rfl ?_
                    refine q_iconst rfl ?_
                    refine v_ic_ne_t (t := 29) rfl (by decide) (by decide) ?_
                    refine q_iload_n rfl rfl ?_
                    refine q_iret rfl rfl ?_
                    refine bk_inl ?_
                    refine q_iload rfl rfl ?_
                    refine q_iload rfl rfl ?_
                    refine q_iload_n rfl rfl ?_
                    refine q_iload_n rfl rfl ?_
                    refine q_call rfl rfl rfl rfl ?_
                    refine q_iload_n rfl rfl ?_
                    refine v_if_ne_f (t := 18) rfl (by decide) (by decide) ?_
                    refine q_iload_n rfl rfl ?_
                    refine v_if_ne_f (t := 14) rfl (by decide) (by decide) ?_
                    refine q_iload_n rfl rfl ?_
                    refine q_iconst rfl ?_
                    refine v_idiv (v := (x1 / 2)) rfl (by omega) rfl ?_
                    refine q_goto (t := 30) rfl (by decide) ?_
                    refine q_iret rfl rfl ?_
                    refine bk_inl ?_
                    refine v_ic_gt_f (t := 150) rfl (by decide) (by omega) ?_
                    refine q_iconst rfl ?_
                    refine q_iload rfl rfl ?_
                    refine v_isub (v := 1) rfl (by decide) ?_
                    refine q_iload rfl rfl ?_
                    refine q_iload_n rfl rfl ?_
                    refine q_iload_n rfl rfl ?_
                    refine q_call rfl rfl rfl rfl ?_
                    refine q_iload_n rfl rfl ?_
                    refine v_if_ne_t (t := 18) rfl (by decide) (by decide) ?_
                    refine q_iload_n rfl rfl ?_
                    refine q_iconst rfl ?_
                    refine v_ic_ne_t (t := 29) rfl (by decide) (by decide) ?_
                    refine q_iload_n rfl rfl ?_
                    refine q_iret rfl rfl ?_
                    refine bk_inl ?_
                    refine q_iload rfl rfl ?_
                    refine q_iload rfl rfl ?_
                    refine q_iload_n rfl rfl ?_
                    refine q_iload_n rfl rfl ?_
                    refine q_call rfl rfl rfl rfl ?_
                    refine q_iload_n rfl rfl ?_
                    refine v_if_ne_f (t := 18) rfl (by decide) (by decide) ?_
                    refine q_iload_n rfl rfl ?_
                    refine v_if_ne_f (t := 14) rfl (by decide) (by decide) ?_
                    refine q_iload_n rfl rfl ?_
                    refine q_iconst rfl ?_
                    refine v_idiv (v := (x1 / 2)) rfl (by omega) rfl ?_
                    refine q_goto (t := 30) rfl (by decide) ?_
                    refine q_iret rfl rfl ?_
                    refine bk_inl ?_
                    refine v_ic_le_t (t := 126) rfl (by decide) (by omega) ?_
                    refine v_iinc (v := 1) rfl rfl (by decide) (by decide) ?_
                    refine q_iload rfl rfl ?_
                    refine q_iconst rfl ?_
                    refine v_ic_ne_f (t := 146) rfl (by decide) (by decide) ?_
                    refine v_bip rfl (by decide) ?_
                    refine q_iload rfl rfl ?_
                    refine v_imul (v := 0) rfl (by decide) ?_
                    refine q_iload rfl rfl ?_
                    refine v_iadd (v := 0) rfl (by decide) ?_
                    refine q_goto (t := 148) rfl (by decide) ?_
                    refine q_istore rfl (by decide) ?_
                    refine v_iinc (v := 1) rfl rfl (by decide) (by decide) ?_
                    refine q_goto (t := 59) rfl (by decide) ?_
                    refine q_iload rfl rfl ?_
                    refine q_iconst rfl ?_
                    refine v_ic_ge_f (t := 156) rfl (by decide) (by decide) ?_
                    refine q_iload rfl rfl ?_
                    refine q_iconst rfl ?_
                    refine v_idiv (v := 0) rfl (by omega) (by decide) ?_
                    refine q_istore rfl (by decide) ?_
                    refine q_iload rfl rfl ?_
                    refine q_iconst rfl ?_
                    refine v_irem (v := 1) rfl (by omega) (by decide) ?_
                    refine q_istore rfl (by decide) ?_
                    refine Wp_ls [(8, vi 1), (7, vi 0), (6, vi 1), (5, vi 0), (4, vi 1), (0, .ref 41), (1, vi x1), (2, vi x2), (3, vi x3)] (lsub_cons rfl (lsub_cons rfl (lsub_cons rfl (lsub_cons rfl (lsub_cons rfl (lsub_cons rfl (lsub_cons rfl (lsub_cons rfl (lsub_cons rfl lsub_nil))))))))) ?_
                    refine q_iconst rfl ?_
                    refine q_iload rfl rfl ?_
                    refine v_isub (v := 1) rfl (by decide) ?_
                    refine q_iload rfl rfl ?_
                    refine q_iload_n rfl rfl ?_
                    refine q_iload_n rfl rfl ?_
                    refine q_call rfl rfl rfl rfl ?_
                    refine q_iload_n rfl rfl ?_
                    refine v_if_ne_t (t := 18) rfl (by decide) (by decide) ?_
                    refine q_iload_n rfl rfl ?_
                    refine q_iconst rfl ?_
                    refine v_ic_ne_f (t := 29) rfl (by decide) (by decide) ?_
                    refine q_iload_n rfl rfl ?_
                    refine q_iconst rfl ?_
                    refine v_idiv (v := (x2 / 2)) rfl (by omega) rfl ?_
                    refine q_goto (t := 30) rfl (by decide) ?_
                    refine q_iret rfl rfl ?_
                    refine bk_inl ?_
                    refine q_iload rfl rfl ?_
                    refine q_iload rfl rfl ?_
                    refine q_iload_n rfl rfl ?_
                    refine q_iload_n rfl rfl ?_
                    refine q_call rfl rfl rfl rfl ?_
                    refine q_iload_n rfl rfl ?_
                    refine v_if_ne_f (t := 18) rfl (by decide) (by decide) ?_
                    refine q_iload_n rfl rfl ?_
                    refine v_if_ne_t (t := 14) rfl (by decide) (by decide) ?_
                    refine q_iload_n rfl rfl ?_
                    refine q_goto (t := 30) rfl (by decide) ?_
                    refine q_iret rfl rfl ?_
                    refine bk_inl ?_
                    refine v_ic_gt_f (t := 150) rfl (by decide) (by omega) ?_
                    refine q_iconst rfl ?_
                    refine q_iload rfl rfl ?_
                    refine v_isub (v := 0) rfl (by decide) ?_
                    refine q_iload rfl rfl ?_
                    refine q_iload_n rfl rfl ?_
                    refine q_iload_n rfl rfl ?_
                    refine q_call rfl rfl rfl rfl ?_
                    refine q_iload_n rfl rfl ?_
                    refine v_if_ne_f (t := 18) rfl (by decide) (by decide) ?_
                    refine q_iload_n rfl rfl ?_
                    refine v_if_ne_f (t := 14) rfl (by decide) (by decide) ?_
                    refine q_iload_n rfl rfl ?_
                    refine q_iconst rfl ?_
                    refine v_idiv (v := (x1 / 2)) rfl (by omega) rfl ?_
                    refine q_goto (t := 30) rfl (by decide) ?_
                    refine q_iret rfl rfl ?_
                    refine bk_inl ?_
                    refine q_iload rfl rfl ?_
                    refine q_iload rfl rfl ?_
                    refine q_iload_n rfl rfl ?_
                    refine q_iload_n rfl rfl ?_
                    refine q_call rfl rfl rfl rfl ?_
                    refine q_iload_n rfl rfl ?_
                    refine v_if_ne_t (t := 18) rfl (by decide) (by decide) ?_
                    refine q_iload_n rfl rfl ?_
                    refine q_iconst rfl ?_
                    refine v_ic_ne_t (t := 29) rfl (by decide) (by decide) ?_
                    refine q_iload_n rfl rfl ?_
                    refine q_iret rfl rfl ?_
                    refine bk_inl ?_
                    refine v_ic_le_f (t := 126) rfl (by decide) (by omega) ?_
                    refine q_goto (t := 150) rfl (by decide) ?_
                    refine v_iinc (v := 2) rfl rfl (by decide) (by decide) ?_
                    refine q_goto (t := 59) rfl (by decide) ?_
                    refine q_iload rfl rfl ?_
                    refine q_iconst rfl ?_
                    refine v_ic_ge_f (t := 156) rfl (by decide) (by decide) ?_
                    refine q_iload rfl rfl ?_
                    refine q_iconst rfl ?_
                    refine v_idiv (v := 1) rfl (by omega) (by decide) ?_
                    refine q_istore rfl (by decide) ?_
                    refine q_iload rfl rfl ?_
                    refine q_iconst rfl ?_
                    refine v_irem (v := 0) rfl (by omega) (by decide) ?_
                    refine q_istore rfl (by decide) ?_
                    refine q_iconst rfl ?_
                    refine q_iload rfl rfl ?_
                    refine v_isub (v := 0) rfl (by decide) ?_
                    refine q_iload rfl rfl ?_
                    refine q_iload_n rfl rfl ?_
                    refine q_iload_n rfl rfl ?_
                    refine q_call rfl rfl rfl rfl ?_
                    refine q_iload_n rfl rfl ?_
                    refine v_if_ne_f (t := 18) rfl (by decide) (by decide) ?_
                    refine q_iload_n rfl rfl ?_
                    refine v_if_ne_f (t := 14) rfl (by decide) (by decide) ?_
                    refine q_iload_n rfl rfl ?_
                    refine q_iconst rfl ?_
                    refine v_idiv (v := (x1 / 2)) rfl (by omega) rfl ?_
                    refine q_goto (t := 30) rfl (by decide) ?_
                    refine q_iret rfl rfl ?_
                    refine bk_inl ?_
                    refine q_iload rfl rfl ?_
                    refine q_iload rfl rfl ?_
                    refine q_iload_n rfl rfl ?_
                    refine q_iload_n rfl rfl ?_
                    refine q_call rfl rfl rfl rfl ?_
                    refine q_iload_n rfl rfl ?_
                    refine v_if_ne_t (t := 18) rfl (by decide) (by decide) ?_
                    refine q_iload_n rfl rfl ?_
                    refine q_iconst rfl ?_
                    refine v_ic_ne_t (t := 29) rfl (by decide) (by decide) ?_
                    refine q_iload_n rfl rfl ?_
                    refine q_iret rfl rfl ?_
                    refine bk_inl ?_
                    refine v_ic_gt_t (t := 150) rfl (by decide) (by omega) ?_
                    refine v_iinc (v := 3) rfl rfl (by decide) (by decide) ?_
                    refine q_goto (t := 59) rfl (by decide) ?_
                    refine q_iload rfl rfl ?_
                    refine q_iconst rfl ?_
                    refine v_ic_ge_f (t := 156) rfl (by decide) (by decide) ?_
                    refine q_iload rfl rfl ?_
                    refine q_iconst rfl ?_
                    refine v_idiv (v := 1) rfl (by omega) (by decide) ?_
                    refine q_istore rfl (by decide) ?_
                    refine Wp_ls [(7, vi 1), (6, vi 3), (8, vi 0), (5, vi 0), (4, vi 1), (0, .ref 41), (1, vi x1), (2, vi x2), (3, vi x3)] (lsub_cons rfl (lsub_cons rfl (lsub_cons rfl (lsub_cons rfl (lsub_cons rfl (lsub_cons rfl (lsub_cons rfl (lsub_cons rfl (lsub_cons rfl lsub_nil))))))))) ?_
                    refine q_iload rfl rfl ?_
                    refine q_iconst rfl ?_
                    refine v_irem (v := 1) rfl (by omega) (by decide) ?_
                    refine q_istore rfl (by decide) ?_
                    refine q_iconst rfl ?_
                    refine q_iload rfl rfl ?_
                    refine v_isub (v := 0) rfl (by decide) ?_
                    refine q_iload rfl rfl ?_
                    refine q_iload_n rfl rfl ?_
                    refine q_iload_n rfl rfl ?_
                    refine q_call rfl rfl rfl rfl ?_
                    refine q_iload_n rfl rfl ?_
                    refine v_if_ne_f (t := 18) rfl (by decide) (by decide) ?_
                    refine q_iload_n rfl rfl ?_
                    refine v_if_ne_t (t := 14) rfl (by decide) (by decide) ?_
                    refine q_iload_n rfl rfl ?_
                    refine q_goto (t := 30) rfl (by decide) ?_
                    refine q_iret rfl rfl ?_
                    refine bk_inl ?_
                    refine q_iload rfl rfl ?_
                    refine q_iload rfl rfl ?_
                    refine q_iload_n rfl rfl ?_
                    refine q_iload_n rfl rfl ?_
                    refine q_call rfl rfl rfl rfl ?_
                    refine q_iload_n rfl rfl ?_
                    refine v_if_ne_t (t := 18) rfl (by decide) (by decide) ?_
                    refine q_iload_n rfl rfl ?_
                    refine q_iconst rfl ?_
                    refine v_ic_ne_f (t := 29) rfl (by decide) (by decide) ?_
                    refine q_iload_n rfl rfl ?_
                    refine q_iconst rfl ?_
                    refine v_idiv (v := (x2 / 2)) rfl (by omega) rfl ?_
                    refine q_goto (t := 30) rfl (by decide) ?_
                    refine q_iret rfl rfl ?_
                    refine bk_inl ?_
                    refine v_ic_gt_t (t := 150) rfl (by decide) (by omega) ?_
                    refine v_iinc (v := 4) rfl rfl (by decide) (by decide) ?_
                    refine q_goto (t := 59) rfl (by decide) ?_
                    refine q_iload rfl rfl ?_
                    refine q_iconst rfl ?_
                    refine v_ic_ge_t (t := 156) rfl (by decide) (by decide) ?_
                    refine q_iload_n rfl rfl ?_
                    refine v_if_ne_t (t := 165) rfl (by decide) (by omega) ?_
                    refine q_iload_n rfl rfl ?_
                    refine q_iconst rfl ?_
                    refine v_ic_ne_f (t := 175) rfl (by decide) (by omega) ?_
                    refine q_iload rfl rfl ?_
                    refine q_goto (t := 216) rfl (by decide) ?_
                    refine q_iret rfl rfl ?_
                    refine bk_inl ?_
                    refine q_istore rfl (by decide) ?_
                    refine q_aload_n rfl rfl ?_
                    refine v_cv rfl rfl rfl rfl (by decide) ⟨⟨rfl, rfl⟩, by decide, rfl⟩ (Nat.le_of_ble_eq_true rfl) (Nat.le_of_ble_eq_true rfl) ?_
                    refine q_aload_n rfl rfl ?_
                    refine v_gi (z := 0) (v := 0) rfl rfl rfl (by decide) rfl rfl (up_e rfl) ?_
                    refine q_iret rfl rfl ?_
                    refine bk_inl ?_
                    refine q_iload rfl rfl ?_
                    refine v_ic_eq_t (t := 1215) rfl (by decide) (by decide) ?_
                    refine q_iload rfl rfl ?_
                    refine v_if_ne_f (t := 1232) rfl (by decide) (by decide) ?_
                    refine q_aload_n rfl rfl ?_
                    refine q_iconst rfl ?_
                    refine v_la (v := 0) rfl rfl (by decide) (by decide) (by decide) ((up_c (by decide)).trans (up_e rfl)) ?_
                    refine q_iload rfl rfl ?_
                    refine v_i2l rfl (by omega) ?_
                    refine v_lcmp0 rfl (by omega) ?_
                    refine v_if_eq_t (t := 1232) rfl (by decide) (by decide) ?_
                    refine q_goto (t := 1844) rfl (by decide) ?_
                    refine Wp_ls [(4, vi (i0 : Int)), (3, .ref 67), (2, .ref 41), (1, .ref 0), (0, .ref a_SC)] (lsub_cons rfl (lsub_cons rfl (lsub_cons rfl (lsub_cons rfl (lsub_cons rfl lsub_nil))))) ?_
                    refine K (up (up c 67 0 0) 41 0 0) 0 (by decide) ?_ ?_ ?_
                    · intro a j h
                      exact ((up_b (by omega)).trans (up_b (by omega)))
                    · exact Eq.trans (b := c 0 13) ((up_c (by decide)).trans (up_c (by decide))) (show _ = c 0 13 + 0 by omega)
                    · exact Eq.trans (b := c 42 1) ((up_c (by decide)).trans (up_c (by decide))) (show _ = c 42 1 + 0 by omega)
                  refine v_lsw_o (t := 186) rfl (by omega) (by decide) (by simp [Op.lookupswitch.offset, Ne.symm (show x3 ≠ 0 by omega), Ne.symm (show x3 ≠ 1 by omega)]) (by decide) ?_
                  refine q_iload rfl rfl ?_
                  refine q_iret rfl rfl ?_
                  refine bk_inl ?_
                  refine v_i2l rfl (by omega) ?_
                  refine v_ls rfl rfl (by decide) (by decide) (by decide) ?_
                  refine q_goto (t := 19) rfl (by decide) ?_
                  refine q_iconst rfl ?_
                  refine q_iret rfl rfl ?_
                  refine bk_inl ?_
                  refine q_istore rfl (by decide) ?_
                  refine q_aload_n rfl rfl ?_
                  refine q_aload_n rfl rfl ?_
                  refine q_iload rfl rfl ?_
                  refine q_iconst rfl ?_
                  refine v_iadd (v := (i0 : Int) + 1) rfl (by omega) ?_
                  refine v_scr (j := i0 + 1) rfl (by omega) (by omega) hL hx1 ?_
                  refine q_aload_n rfl rfl ?_
                  refine q_iload rfl rfl ?_
                  refine q_iconst rfl ?_
                  refine v_iadd (v := (i0 : Int) + 2) rfl (by omega) ?_
                  refine v_scr (j := i0 + 2) rfl (by omega) (by omega) hL hx2 ?_
                  refine q_aload_n rfl rfl ?_
                  refine q_iload rfl rfl ?_
                  refine q_iconst rfl ?_
                  refine v_iadd (v := (i0 : Int) + 3) rfl (by omega) ?_
                  refine v_scr (j := i0 + 3) rfl (by omega) (by omega) hL hx3 ?_
                  refine v_cv rfl rfl rfl rfl (by decide) ⟨⟨rfl, rfl⟩, by decide, rfl⟩ (Nat.le_of_ble_eq_true rfl) (Nat.le_of_ble_eq_true rfl) ?_
                  refine q_aload_n rfl rfl ?_
                  refine q_iconst rfl ?_
                  refine v_pi (z := 0) rfl rfl rfl (by decide) rfl rfl rfl (by decide) ?_
                  refine q_aload_n rfl rfl ?_
                  refine q_iload_n rfl rfl ?_
                  refine q_iconst rfl ?_
                  refine v_bip rfl (by decide) ?_
                  refine q_call rfl rfl rfl rfl ?_
                  refine q_iload_n rfl rfl ?_
                  refine q_iload_n rfl rfl ?_
                  refine v_ic_lt_f (t := 14) rfl (by decide) (by omega) ?_
                  refine q_iload_n rfl rfl ?_
                  refine q_iload_n rfl rfl ?_
                  refine v_ic_gt_f (t := 14) rfl (by decide) (by omega) ?_
                  refine q_iconst rfl ?_
                  refine q_goto (t := 15) rfl (by decide) ?_
                  refine v_zret rfl rfl (by omega) ?_
                  refine bk_inl ?_
                  refine v_if_eq_f (t := 39) rfl (by decide) (by decide) ?_
                  refine q_iload_n rfl rfl ?_
                  refine q_iconst rfl ?_
                  refine v_bip rfl (by decide) ?_
                  refine q_call rfl rfl rfl rfl ?_
                  refine q_iload_n rfl rfl ?_
                  refine q_iload_n rfl rfl ?_
                  refine v_ic_lt_f (t := 14) rfl (by decide) (by omega) ?_
                  refine q_iload_n rfl rfl ?_
                  refine q_iload_n rfl rfl ?_
                  refine v_ic_gt_f (t := 14) rfl (by decide) (by omega) ?_
                  refine q_iconst rfl ?_
                  refine q_goto (t := 15) rfl (by decide) ?_
                  refine v_zret rfl rfl (by omega) ?_
                  refine bk_inl ?_
                  refine v_if_eq_f (t := 39) rfl (by decide) (by decide) ?_
                  refine q_iload_n rfl rfl ?_
                  refine q_iconst rfl ?_
                  refine q_iconst rfl ?_
                  refine q_call rfl rfl rfl rfl ?_
                  refine q_iload_n rfl rfl ?_
                  refine q_iload_n rfl rfl ?_
                  refine v_ic_lt_f (t := 14) rfl (by decide) (by omega) ?_
                  refine q_iload_n rfl rfl ?_
                  refine q_iload_n rfl rfl ?_
                  refine v_ic_gt_f (t := 14) rfl (by decide) (by omega) ?_
                  refine q_iconst rfl ?_
                  refine q_goto (t := 15) rfl (by decide) ?_
                  refine v_zret rfl rfl (by omega) ?_
                  refine bk_inl ?_
                  refine v_if_eq_f (t := 39) rfl (by decide) (by decide) ?_
                  refine q_iconst rfl ?_
                  refine q_goto (t := 40) rfl (by decide) ?_
                  refine q_iconst rfl ?_
                  refine q_iconst rfl ?_
                  refine v_cv rfl rfl rfl rfl (by decide) ⟨⟨rfl, rfl⟩, by decide, rfl⟩ (Nat.le_of_ble_eq_true rfl) (Nat.le_of_ble_eq_true rfl) ?_
                  refine q_iload_n rfl rfl ?_
                  refine v_if_ne_t (t := 26) rfl (by decide) (by decide) ?_
                  refine q_aload_n rfl rfl ?_
                  refine v_gi (z := 0) (v := 0) rfl rfl rfl (by decide) rfl rfl (up_e rfl) ?_
                  refine v_if_ne_f (t := 37) rfl (by decide) (by decide) ?_
                  refine q_iconst rfl ?_
                  refine q_goto (t := 38) rfl (by decide) ?_
                  refine v_zret rfl rfl (by omega) ?_
                  refine bk_inl ?_
                  refine v_if_ne_t (t := 50) rfl (by decide) (by decide) ?_
                  refine q_iconst rfl ?_
                  refine q_istore rfl (by decide) ?_
                  refine q_iconst rfl ?_
                  refine q_istore rfl (by decide) ?_
                  refine q_iconst rfl ?_
                  refine q_istore rfl (by decide) ?_
                  refine q_iload rfl rfl ?_
                  refine q_iconst rfl ?_
                  refine v_ic_ge_f (t := 156) rfl (by decide) (by decide) ?_
                  refine q_iload rfl rfl ?_
                  refine q_iconst rfl ?_
                  refine v_idiv (v := 0) rfl (by omega) (by decide) ?_
                  refine q_istore rfl (by decide) ?_
                  refine q_iload rfl rfl ?_
                  refine q_iconst rfl ?_
                  refine v_irem (v := 0) rfl (by omega) (by decide) ?_
                  refine q_istore rfl (by decide) ?_
                  refine Wp_ls [(8, vi 0), (7, vi 0), (6, vi 0), (5, vi (-1)), (4, vi 0), (0, .ref 41), (1, vi x1), (2, vi x2), (3, vi x3)] (lsub_cons rfl (lsub_cons rfl (lsub_cons rfl (lsub_cons rfl (lsub_cons rfl (lsub_cons rfl (lsub_cons rfl (lsub_cons rfl (lsub_cons rfl lsub_nil))))))))) ?_
                  refine q_iconst rfl ?_
                  refine q_iload rfl rfl ?_
                  refine v_isub (v := 1) rfl (by decide) ?_
                  refine q_iload rfl rfl ?_
                  refine q_iload_n rfl rfl ?_
                  refine q_iload_n rfl rfl ?_
                  refine q_call rfl rfl rfl rfl ?_
                  refine q_iload_n rfl rfl ?_
                  refine v_if_ne_t (t := 18) rfl (by decide) (by decide) ?_
                  refine q_iload_n rfl rfl ?_
                  refine q_iconst rfl ?_
                  refine v_ic_ne_t (t := 29) rfl (by decide) (by decide) ?_
                  refine q_iload_n rfl rfl ?_
                  refine q_iret rfl rfl ?_
                  refine bk_inl ?_
                  refine q_iload rfl rfl ?_
                  refine q_iload rfl rfl ?_
                  refine q_iload_n rfl rfl ?_
                  refine q_iload_n rfl rfl ?_
                  refine q_call rfl rfl rfl rfl ?_
                  refine q_iload_n rfl rfl ?_
                  refine v_if_ne_f (t := 18) rfl (by decide) (by decide) ?_
                  refine q_iload_n rfl rfl ?_
                  refine v_if_ne_f (t := 14) rfl (by decide) (by decide) ?_
                  refine q_iload_n rfl rfl ?_
                  refine q_iconst rfl ?_
                  refine v_idiv (v := (x1 / 2)) rfl (by omega) rfl ?_
                  refine q_goto (t := 30) rfl (by decide) ?_
                  refine q_iret rfl rfl ?_
                  refine bk_inl ?_
                  refine v_ic_gt_f (t := 150) rfl (by decide) (by omega) ?_
                  refine q_iconst rfl ?_
                  refine q_iload rfl rfl ?_
                  refine v_isub (v := 1) rfl (by decide) ?_
                  refine q_iload rfl rfl ?_
                  refine q_iload_n rfl rfl ?_
                  refine q_iload_n rfl rfl ?_
                  refine q_call rfl rfl rfl rfl ?_
                  refine q_iload_n rfl rfl ?_
                  refine v_if_ne_t (t := 18) rfl (by decide) (by decide) ?_
                  refine q_iload_n rfl rfl ?_
                  refine q_iconst rfl ?_
                  refine v_ic_ne_t (t := 29) rfl (by decide) (by decide) ?_
                  refine q_iload_n rfl rfl ?_
                  refine q_iret rfl rfl ?_
                  refine bk_inl ?_
                  refine q_iload rfl rfl ?_
                  refine q_iload rfl rfl ?_
                  refine q_iload_n rfl rfl ?_
                  refine q_iload_n rfl rfl ?_
                  refine q_call rfl rfl rfl rfl ?_
                  refine q_iload_n rfl rfl ?_
                  refine v_if_ne_f (t := 18) rfl (by decide) (by decide) ?_
                  refine q_iload_n rfl rfl ?_
                  refine v_if_ne_f (t := 14) rfl (by decide) (by decide) ?_
                  refine q_iload_n rfl rfl ?_
                  refine q_iconst rfl ?_
                  refine v_idiv (v := (x1 / 2)) rfl (by omega) rfl ?_
                  refine q_goto (t := 30) rfl (by decide) ?_
                  refine q_iret rfl rfl ?_
                  refine bk_inl ?_
                  refine v_ic_le_t (t := 126) rfl (by decide) (by omega) ?_
                  refine v_iinc (v := 1) rfl rfl (by decide) (by decide) ?_
                  refine q_iload rfl rfl ?_
                  refine q_iconst rfl ?_
                  refine v_ic_ne_f (t := 146) rfl (by decide) (by decide) ?_
                  refine v_bip rfl (by decide) ?_
                  refine q_iload rfl rfl ?_
                  refine v_imul (v := 0) rfl (by decide) ?_
                  refine q_iload rfl rfl ?_
                  refine v_iadd (v := 0) rfl (by decide) ?_
                  refine q_goto (t := 148) rfl (by decide) ?_
                  refine q_istore rfl (by decide) ?_
                  refine v_iinc (v := 1) rfl rfl (by decide) (by decide) ?_
                  refine q_goto (t := 59) rfl (by decide) ?_
                  refine q_iload rfl rfl ?_
                  refine q_iconst rfl ?_
                  refine v_ic_ge_f (t := 156) rfl (by decide) (by decide) ?_
                  refine q_iload rfl rfl ?_
                  refine q_iconst rfl ?_
                  refine v_idiv (v := 0) rfl (by omega) (by decide) ?_
                  refine q_istore rfl (by decide) ?_
                  refine q_iload rfl rfl ?_
                  refine q_iconst rfl ?_
                  refine v_irem (v := 1) rfl (by omega) (by decide) ?_
                  refine q_istore rfl (by decide) ?_
                  refine Wp_ls [(8, vi 1), (7, vi 0), (6, vi 1), (5, vi 0), (4, vi 1), (0, .ref 41), (1, vi x1), (2, vi x2), (3, vi x3)] (lsub_cons rfl (lsub_cons rfl (lsub_cons rfl (lsub_cons rfl (lsub_cons rfl (lsub_cons rfl (lsub_cons rfl (lsub_cons rfl (lsub_cons rfl lsub_nil))))))))) ?_
                  refine q_iconst rfl ?_
                  refine q_iload rfl rfl ?_
                  refine v_isub (v := 1) rfl (by decide) ?_
                  refine q_iload rfl rfl ?_
                  refine q_iload_n rfl rfl ?_
                  refine q_iload_n rfl rfl ?_
                  refine q_call rfl rfl rfl rfl ?_
                  refine q_iload_n rfl rfl ?_
                  refine v_if_ne_t (t := 18) rfl (by decide) (by decide) ?_
                  refine q_iload_n rfl rfl ?_
                  refine q_iconst rfl ?_
                  refine v_ic_ne_f (t := 29) rfl (by decide) (by decide) ?_
                  refine q_iload_n rfl rfl ?_
                  refine q_iconst rfl ?_
                  refine v_idiv (v := (x2 / 2)) rfl (by omega) rfl ?_
                  refine q_goto (t := 30) rfl (by decide) ?_
                  refine q_iret rfl rfl ?_
                  refine bk_inl ?_
                  refine q_iload rfl rfl ?_
                  refine q_iload rfl rfl ?_
                  refine q_iload_n rfl rfl ?_
                  refine q_iload_n rfl rfl ?_
                  refine q_call rfl rfl rfl rfl ?_
                  refine q_iload_n rfl rfl ?_
                  refine v_if_ne_f (t := 18) rfl (by decide) (by decide) ?_
                  refine q_iload_n rfl rfl ?_
                  refine v_if_ne_t (t := 14) rfl (by decide) (by decide) ?_
                  refine q_iload_n rfl rfl ?_
                  refine q_goto (t := 30) rfl (by decide) ?_
                  refine q_iret rfl rfl ?_
                  refine bk_inl ?_
                  refine v_ic_gt_f (t := 150) rfl (by decide) (by omega) ?_
                  refine q_iconst rfl ?_
                  refine q_iload rfl rfl ?_
                  refine v_isub (v := 0) rfl (by decide) ?_
                  refine q_iload rfl rfl ?_
                  refine q_iload_n rfl rfl ?_
                  refine q_iload_n rfl rfl ?_
                  refine q_call rfl rfl rfl rfl ?_
                  refine q_iload_n rfl rfl ?_
                  refine v_if_ne_f (t := 18) rfl (by decide) (by decide) ?_
                  refine q_iload_n rfl rfl ?_
                  refine v_if_ne_f (t := 14) rfl (by decide) (by decide) ?_
                  refine q_iload_n rfl rfl ?_
                  refine q_iconst rfl ?_
                  refine v_idiv (v := (x1 / 2)) rfl (by omega) rfl ?_
                  refine q_goto (t := 30) rfl (by decide) ?_
                  refine q_iret rfl rfl ?_
                  refine bk_inl ?_
                  refine q_iload rfl rfl ?_
                  refine q_iload rfl rfl ?_
                  refine q_iload_n rfl rfl ?_
                  refine q_iload_n rfl rfl ?_
                  refine q_call rfl rfl rfl rfl ?_
                  refine q_iload_n rfl rfl ?_
                  refine v_if_ne_t (t := 18) rfl (by decide) (by decide) ?_
                  refine q_iload_n rfl rfl ?_
                  refine q_iconst rfl ?_
                  refine v_ic_ne_t (t := 29) rfl (by decide) (by decide) ?_
                  refine q_iload_n rfl rfl ?_
                  refine q_iret rfl rfl ?_
                  refine bk_inl ?_
                  refine v_ic_le_f (t := 126) rfl (by decide) (by omega) ?_
                  refine q_goto (t := 150) rfl (by decide) ?_
                  refine v_iinc (v := 2) rfl rfl (by decide) (by decide) ?_
                  refine q_goto (t := 59) rfl (by decide) ?_
                  refine q_iload rfl rfl ?_
                  refine q_iconst rfl ?_
                  refine v_ic_ge_f (t := 156) rfl (by decide) (by decide) ?_
                  refine q_iload rfl rfl ?_
                  refine q_iconst rfl ?_
                  refine v_idiv (v := 1) rfl (by omega) (by decide) ?_
                  refine q_istore rfl (by decide) ?_
                  refine q_iload rfl rfl ?_
                  refine q_iconst rfl ?_
                  refine v_irem (v := 0) rfl (by omega) (by decide) ?_
                  refine q_istore rfl (by decide) ?_
                  refine q_iconst rfl ?_
                  refine q_iload rfl rfl ?_
                  refine v_isub (v := 0) rfl (by decide) ?_
                  refine q_iload rfl rfl ?_
                  refine q_iload_n rfl rfl ?_
                  refine q_iload_n rfl rfl ?_
                  refine q_call rfl rfl rfl rfl ?_
                  refine q_iload_n rfl rfl ?_
                  refine v_if_ne_f (t := 18) rfl (by decide) (by decide) ?_
                  refine q_iload_n rfl rfl ?_
                  refine v_if_ne_f (t := 14) rfl (by decide) (by decide) ?_
                  refine q_iload_n rfl rfl ?_
                  refine q_iconst rfl ?_
                  refine v_idiv (v := (x1 / 2)) rfl (by omega) rfl ?_
                  refine q_goto (t := 30) rfl (by decide) ?_
                  refine q_iret rfl rfl ?_
                  refine bk_inl ?_
                  refine q_iload rfl rfl ?_
                  refine q_iload rfl rfl ?_
                  refine q_iload_n rfl rfl ?_
                  refine q_iload_n rfl rfl ?_
                  refine q_call rfl rfl rfl rfl ?_
                  refine q_iload_n rfl rfl ?_
                  refine v_if_ne_t (t := 18) rfl (by decide) (by decide) ?_
                  refine q_iload_n rfl rfl ?_
                  refine q_iconst rfl ?_
                  refine v_ic_ne_t (t := 29) rfl (by decide) (by decide) ?_
                  refine q_iload_n rfl rfl ?_
                  refine q_iret rfl rfl ?_
                  refine bk_inl ?_
                  refine v_ic_gt_t (t := 150) rfl (by decide) (by omega) ?_
                  refine v_iinc (v := 3) rfl rfl (by decide) (by decide) ?_
                  refine q_goto (t := 59) rfl (by decide) ?_
                  refine q_iload rfl rfl ?_
                  refine q_iconst rfl ?_
                  refine v_ic_ge_f (t := 156) rfl (by decide) (by decide) ?_
                  refine q_iload rfl rfl ?_
                  refine q_iconst rfl ?_
                  refine v_idiv (v := 1) rfl (by omega) (by decide) ?_
                  refine q_istore rfl (by decide) ?_
                  refine Wp_ls [(7, vi 1), (6, vi 3), (8, vi 0), (5, vi 0), (4, vi 1), (0, .ref 41), (1, vi x1), (2, vi x2), (3, vi x3)] (lsub_cons rfl (lsub_cons rfl (lsub_cons rfl (lsub_cons rfl (lsub_cons rfl (lsub_cons rfl (lsub_cons rfl (lsub_cons rfl (lsub_cons rfl lsub_nil))))))))) ?_
                  refine q_iload rfl rfl ?_
                  refine q_iconst rfl ?_
                  refine v_irem (v := 1) rfl (by omega) (by decide) ?_
                  refine q_istore rfl (by decide) ?_
                  refine q_iconst rfl ?_
                  refine q_iload rfl rfl ?_
                  refine v_isub (v := 0) rfl (by decide) ?_
                  refine q_iload rfl rfl ?_
                  refine q_iload_n rfl rfl ?_
                  refine q_iload_n rfl rfl ?_
                  refine q_call rfl rfl rfl rfl ?_
                  refine q_iload_n rfl rfl ?_
                  refine v_if_ne_f (t := 18) rfl (by decide) (by decide) ?_
                  refine q_iload_n rfl rfl ?_
                  refine v_if_ne_t (t := 14) rfl (by decide) (by decide) ?_
                  refine q_iload_n rfl rfl ?_
                  refine q_goto (t := 30) rfl (by decide) ?_
                  refine q_iret rfl rfl ?_
                  refine bk_inl ?_
                  refine q_iload rfl rfl ?_
                  refine q_iload rfl rfl ?_
                  refine q_iload_n rfl rfl ?_
                  refine q_iload_n rfl rfl ?_
                  refine q_call rfl rfl rfl rfl ?_
                  refine q_iload_n rfl rfl ?_
                  refine v_if_ne_t (t := 18) rfl (by decide) (by decide) ?_
                  refine q_iload_n rfl rfl ?_
                  refine q_iconst rfl ?_
                  refine v_ic_ne_f (t := 29) rfl (by decide) (by decide) ?_
                  refine q_iload_n rfl rfl ?_
                  refine q_iconst rfl ?_
                  refine v_idiv (v := (x2 / 2)) rfl (by omega) rfl ?_
                  refine q_goto (t := 30) rfl (by decide) ?_
                  refine q_iret rfl rfl ?_
                  refine bk_inl ?_
                  refine v_ic_gt_t (t := 150) rfl (by decide) (by omega) ?_
                  refine v_iinc (v := 4) rfl rfl (by decide) (by decide) ?_
                  refine q_goto (t := 59) rfl (by decide) ?_
                  refine q_iload rfl rfl ?_
                  refine q_iconst rfl ?_
                  refine v_ic_ge_t (t := 156) rfl (by decide) (by decide) ?_
                  refine q_iload_n rfl rfl ?_
                  refine v_if_ne_t (t := 165) rfl (by decide) (by omega) ?_
                  refine q_iload_n rfl rfl ?_
                  refine q_iconst rfl ?_
                  refine v_ic_ne_t (t := 175) rfl (by decide) (by omega) ?_
                  refine q_iload rfl rfl ?_
                  refine q_iconst rfl ?_
                  refine v_ic_ne_t (t := 185) rfl (by decide) (by decide) ?_
                  refine q_iload rfl rfl ?_
                  refine v_bip rfl (by decide) ?_
                  refine v_idiv (v := 0) rfl (by omega) (by decide) ?_
                  refine q_iload rfl rfl ?_
                  refine v_bip rfl (by decide) ?_
                  refine v_irem (v := 0) rfl (by omega) (by decide) ?_
                  refine q_iload_n rfl rfl ?_
                  refine q_iload_n rfl rfl ?_
                  refine q_call rfl rfl rfl rfl ?_
                  refine q_iload_n rfl rfl ?_
                  refine v_if_ne_f (t := 18) rfl (by decide) (by decide) ?_
                  refine q_iload_n rfl rfl ?_
                  refine v_if_ne_f (t := 14) rfl (by decide) (by decide) ?_
                  refine q_iload_n rfl rfl ?_
                  refine q_iconst rfl ?_
                  refine v_idiv (v := (x1 / 2)) rfl (by omega) rfl ?_
                  refine q_goto (t := 30) rfl (by decide) ?_
                  refine q_iret rfl rfl ?_
                  refine bk_inl ?_
                  refine q_iload rfl rfl ?_
                  refine v_bip rfl (by decide) ?_
                  refine v_irem (v := 0) rfl (by omega) (by decide) ?_
                  refine q_iload rfl rfl ?_
                  refine v_bip rfl (by decide) ?_
                  refine v_idiv (v := 0) rfl (by omega) (by decide) ?_
                  refine q_iload_n rfl rfl ?_
                  refine q_iload_n rfl rfl ?_
                  refine q_call rfl rfl rfl rfl ?_
                  refine q_iload_n rfl rfl ?_
                  refine v_if_ne_f (t := 18) rfl (by decide) (by decide) ?_
                  refine q_iload_n rfl rfl ?_
                  refine v_if_ne_f (t := 14) rfl (by decide) (by decide) ?_
                  refine q_iload_n rfl rfl ?_
                  refine q_iconst rfl ?_
                  refine v_idiv (v := (x1 / 2)) rfl (by omega) rfl ?_
                  refine q_goto (t := 30) rfl (by decide) ?_
                  refine q_iret rfl rfl ?_
                  refine bk_inl ?_
                  refine v_iadd (v := 2 * (x1 / 2)) rfl (by omega) ?_
                  refine q_iret rfl rfl ?_
                  refine bk_inl ?_
                  refine q_istore rfl (by decide) ?_
                  refine q_aload_n rfl rfl ?_
                  refine v_cv rfl rfl rfl rfl (by decide) ⟨⟨rfl, rfl⟩, by decide, rfl⟩ (Nat.le_of_ble_eq_true rfl) (Nat.le_of_ble_eq_true rfl) ?_
                  refine q_aload_n rfl rfl ?_
                  refine v_gi (z := 0) (v := 0) rfl rfl rfl (by decide) rfl rfl (up_e rfl) ?_
                  refine q_iret rfl rfl ?_
                  refine bk_inl ?_
                  refine q_iload rfl rfl ?_
                  refine v_ic_eq_t (t := 1215) rfl (by decide) (by decide) ?_
                  refine q_iload rfl rfl ?_
                  refine v_if_ne_f (t := 1232) rfl (by decide) (by decide) ?_
                  refine q_aload_n rfl rfl ?_
                  refine q_iconst rfl ?_
                  refine v_la (v := 2 * (x1 / 2)) rfl rfl (by decide) (by decide) (by decide) ((up_c (by decide)).trans (up_e rfl)) ?_
                  refine q_iload rfl rfl ?_
                  refine v_i2l rfl (by omega) ?_
                  refine v_lcmp0 rfl (by omega) ?_
                  refine v_if_eq_t (t := 1232) rfl (by decide) (by decide) ?_
                  refine q_goto (t := 1844) rfl (by decide) ?_
                  refine Wp_ls [(4, vi (i0 : Int)), (3, .ref 67), (2, .ref 41), (1, .ref 0), (0, .ref a_SC)] (lsub_cons rfl (lsub_cons rfl (lsub_cons rfl (lsub_cons rfl (lsub_cons rfl lsub_nil))))) ?_
                  refine K (up (up c 67 0 (2 * (x1 / 2))) 41 0 0) 0 (by decide) ?_ ?_ ?_
                  · intro a j h
                    exact ((up_b (by omega)).trans (up_b (by omega)))
                  · exact Eq.trans (b := c 0 13) ((up_c (by decide)).trans (up_c (by decide))) (show _ = c 0 13 + 0 by omega)
                  · exact Eq.trans (b := c 42 1) ((up_c (by decide)).trans (up_c (by decide))) (show _ = c 42 1 + 0 by omega)
                · refine v_ic_gt_f (t := 147) rfl (by decide) (by omega) ?_
                  refine q_iload rfl rfl ?_
                  refine v_if_ne_t (t := 144) rfl (by decide) (by decide) ?_
                  refine v_iinc (v := 2) rfl rfl (by decide) (by decide) ?_
                  refine v_iinc (v := 2) rfl rfl (by decide) (by decide) ?_
                  refine q_goto (t := 50) rfl (by decide) ?_
                  refine q_iload rfl rfl ?_
                  refine q_iconst rfl ?_
                  refine v_ic_ge_f (t := 153) rfl (by decide) (by decide) ?_
                  refine q_iload rfl rfl ?_
                  refine q_iconst rfl ?_
                  refine v_idiv (v := 1) rfl (by omega) (by decide) ?_
                  refine q_istore rfl (by decide) ?_
                  refine q_iload rfl rfl ?_
                  refine q_iconst rfl ?_
                  refine v_irem (v := 0) rfl (by omega) (by decide) ?_
                  refine q_istore rfl (by decide) ?_
                  refine Wp_ls [(9, vi 0), (8, vi 1), (7, vi 2), (4, vi 2), (11, vi x2), (10, vi x1), (6, vi (2 * (x1 / 2))), (5, vi 0), (0, .ref 0), (1, vi x1), (2, vi x2), (3, vi x3)] (lsub_cons rfl (lsub_cons rfl (lsub_cons rfl (lsub_cons rfl (lsub_cons rfl (lsub_cons rfl (lsub_cons rfl (lsub_cons rfl (lsub_cons rfl (lsub_cons rfl (lsub_cons rfl (lsub_cons rfl lsub_nil)))))))))))) ?_
                  refine q_iload rfl rfl ?_
                  refine q_iload rfl rfl ?_
                  refine q_iload_n rfl rfl ?_
                  refine q_iload_n rfl rfl ?_
                  refine q_call rfl rfl rfl rfl ?_
                  refine q_iload_n rfl rfl ?_
                  refine v_if_ne_t (t := 8) rfl (by decide) (by decide) ?_
                  refine q_iload_n rfl rfl ?_
                  refine q_istore rfl (by decide) ?_
                  refine q_iload_n rfl rfl ?_
                  refine q_iload_n rfl rfl ?_
                  refine v_ic_ne_t (t := 23) rfl (by decide) (by decide) ?_
                  refine q_iload rfl rfl ?_
                  refine q_iret rfl rfl ?_
                  refine bk_inl ?_
                  refine q_istore rfl (by decide) ?_
                  refine q_iload rfl rfl ?_
                  refine q_iload rfl rfl ?_
                  refine q_iload_n rfl rfl ?_
                  refine q_iload_n rfl rfl ?_
                  refine q_call rfl rfl rfl rfl ?_
                  refine q_iload_n rfl rfl ?_
                  refine v_if_ne_f (t := 8) rfl (by decide) (by decide) ?_
                  refine q_iload_n rfl rfl ?_
                  refine q_goto (t := 9) rfl (by decide) ?_
                  refine q_istore rfl (by decide) ?_
                  refine q_iload_n rfl rfl ?_
                  refine q_iload_n rfl rfl ?_
                  refine v_ic_ne_t (t := 23) rfl (by decide) (by decide) ?_
                  refine q_iload rfl rfl ?_
                  refine q_iret rfl rfl ?_
                  refine bk_inl ?_
                  refine q_istore rfl (by decide) ?_
                  refine q_iconst rfl ?_
                  refine q_iload rfl rfl ?_
                  refine v_isub (v := 0) rfl (by decide) ?_
                  refine q_iload rfl rfl ?_
                  refine q_iload_n rfl rfl ?_
                  refine q_iload_n rfl rfl ?_
                  refine q_call rfl rfl rfl rfl ?_
                  refine q_iload_n rfl rfl ?_
                  refine v_if_ne_f (t := 8) rfl (by decide) (by decide) ?_
                  refine q_iload_n rfl rfl ?_
                  refine q_goto (t := 9) rfl (by decide) ?_
                  refine q_istore rfl (by decide) ?_
                  refine q_iload_n rfl rfl ?_
                  refine q_iload_n rfl rfl ?_
                  refine v_ic_ne_f (t := 23) rfl (by decide) (by decide) ?_
                  refine q_iload rfl rfl ?_
                  refine q_iconst rfl ?_
                  refine v_idiv (v := (x1 / 2)) rfl (by omega) rfl ?_
                  refine q_goto (t := 25) rfl (by decide) ?_
                  refine q_iret rfl rfl ?_
                  refine bk_inl ?_
                  refine q_iload rfl rfl ?_
                  refine v_ic_gt_f (t := 147) rfl (by decide) (by omega) ?_
                  refine q_iconst rfl ?_
                  refine q_iload rfl rfl ?_
                  refine v_isub (v := 1) rfl (by decide) ?_
                  refine q_iload rfl rfl ?_
                  refine q_iload_n rfl rfl ?_
                  refine q_iload_n rfl rfl ?_
                  refine q_call rfl rfl rfl rfl ?_
                  refine q_iload_n rfl rfl ?_
                  refine v_if_ne_t (t := 8) rfl (by decide) (by decide) ?_
                  refine q_iload_n rfl rfl ?_
                  refine q_istore rfl (by decide) ?_
                  refine q_iload_n rfl rfl ?_
                  refine q_iload_n rfl rfl ?_
                  refine v_ic_ne_f (t := 23) rfl (by decide) (by decide) ?_
                  refine q_iload rfl rfl ?_
                  refine q_iconst rfl ?_
                  refine v_idiv (v := (x2 / 2)) rfl (by omega) rfl ?_
                  refine q_goto (t := 25) rfl (by decide) ?_
                  refine q_iret rfl rfl ?_
                  refine bk_inl ?_
                  refine q_iload rfl rfl ?_
                  refine v_ic_gt_f (t := 147) rfl (by decide) (by omega) ?_
                  refine q_iload rfl rfl ?_
                  refine v_if_ne_t (t := 144) rfl (by decide) (by decide) ?_
                  refine v_iinc (v := 3) rfl rfl (by decide) (by decide) ?_
                  refine v_iinc (v := 3) rfl rfl (by decide) (by decide) ?_
                  refine q_goto (t := 50) rfl (by decide) ?_
                  refine q_iload rfl rfl ?_
                  refine q_iconst rfl ?_
                  refine v_ic_ge_f (t := 153) rfl (by decide) (by decide) ?_
                  refine q_iload rfl rfl ?_
                  refine q_iconst rfl ?_
                  refine v_idiv (v := 1) rfl (by omega) (by decide) ?_
                  refine q_istore rfl (by decide) ?_
                  refine Wp_ls [(8, vi 1), (7, vi 3), (4, vi 3), (11, vi x1), (10, vi x2), (9, vi 0), (6, vi (2 * (x1 / 2))), (5, vi 0), (0, .ref 0), (1, vi x1), (2, vi x2), (3, vi x3)] (lsub_cons rfl (lsub_cons rfl (lsub_cons rfl (lsub_cons rfl (lsub_cons rfl (lsub_cons rfl (lsub_cons rfl (lsub_cons rfl (lsub_cons rfl (lsub_cons rfl (lsub_cons rfl (lsub_cons rfl lsub_nil)))))))))))) ?_
                  refine q_iload rfl rfl ?_
                  refine q_iconst rfl ?_
                  refine v_irem (v := 1) rfl (by omega) (by decide) ?_
                  refine q_istore rfl (by decide) ?_
                  refine q_iload rfl rfl ?_
                  refine q_iload rfl rfl ?_
                  refine q_iload_n rfl rfl ?_
                  refine q_iload_n rfl rfl ?_
                  refine q_call rfl rfl rfl rfl ?_
                  refine q_iload_n rfl rfl ?_
                  refine v_if_ne_t (t := 8) rfl (by decide) (by decide) ?_
                  refine q_iload_n rfl rfl ?_
                  refine q_istore rfl (by decide) ?_
                  refine q_iload_n rfl rfl ?_
                  refine q_iload_n rfl rfl ?_
                  refine v_ic_ne_f (t := 23) rfl (by decide) (by decide) ?_
                  refine q_iload rfl rfl ?_
                  refine q_iconst rfl ?_
                  refine v_idiv (v := (x2 / 2)) rfl (by omega) rfl ?_
                  refine q_goto (t := 25) rfl (by decide) ?_
                  refine q_iret rfl rfl ?_
                  refine bk_inl ?_
                  refine q_istore rfl (by decide) ?_
                  refine q_iload rfl rfl ?_
                  refine q_iload rfl rfl ?_
                  refine q_iload_n rfl rfl ?_
                  refine q_iload_n rfl rfl ?_
                  refine q_call rfl rfl rfl rfl ?_
                  refine q_iload_n rfl rfl ?_
                  refine v_if_ne_t (t := 8) rfl (by decide) (by decide) ?_
                  refine q_iload_n rfl rfl ?_
                  refine q_istore rfl (by decide) ?_
                  refine q_iload_n rfl rfl ?_
                  refine q_iload_n rfl rfl ?_
                  refine v_ic_ne_f (t := 23) rfl (by decide) (by decide) ?_
                  refine q_iload rfl rfl ?_
                  refine q_iconst rfl ?_
                  refine v_idiv (v := (x2 / 2)) rfl (by omega) rfl ?_
                  refine q_goto (t := 25) rfl (by decide) ?_
                  refine q_iret rfl rfl ?_
                  refine bk_inl ?_
                  refine q_istore rfl (by decide) ?_
                  refine q_iconst rfl ?_
                  refine q_iload rfl rfl ?_
                  refine v_isub (v := 0) rfl (by decide) ?_
                  refine q_iload rfl rfl ?_
                  refine q_iload_n rfl rfl ?_
                  refine q_iload_n rfl rfl ?_
                  refine q_call rfl rfl rfl rfl ?_
                  refine q_iload_n rfl rfl ?_
                  refine v_if_ne_f (t := 8) rfl (by decide) (by decide) ?_
                  refine q_iload_n rfl rfl ?_
                  refine q_goto (t := 9) rfl (by decide) ?_
                  refine q_istore rfl (by decide) ?_
                  refine q_iload_n rfl rfl ?_
                  refine q_iload_n rfl rfl ?_
                  refine v_ic_ne_t (t := 23) rfl (by decide) (by decide) ?_
                  refine q_iload rfl rfl ?_
                  refine q_iret rfl rfl ?_
                  refine bk_inl ?_
                  refine q_iload rfl rfl ?_
                  by_cases h_19 : x1 > (x2 / 2)
                  · refine v_ic_gt_t (t := 147) rfl (by decide) (by omega) ?_
                    refine v_iinc (v := 4) rfl rfl (by decide) (by decide) ?_
                    refine q_goto (t := 50) rfl (by decide) ?_
                    refine q_iload rfl rfl ?_
                    refine q_iconst rfl ?_
                    refine v_ic_ge_t (t := 153) rfl (by decide) (by decide) ?_
                    refine q_iload_n rfl rfl ?_
                    by_cases h_20 : x3 = 0
                    · refine v_lsw (t := 180) (off := 26) 0 rfl (by omega) (by decide) (by decide) (by decide) (by decide) ?_
                      refine q_iload rfl rfl ?_
                      refine q_iret rfl rfl ?_
                      refine bk_inl ?_
                      refine v_i2l rfl (by omega) ?_
                      refine v_ls rfl rfl (by decide) (by decide) (by decide) ?_
                      refine q_goto (t := 19) rfl (by decide) ?_
                      refine q_iconst rfl ?_
                      refine q_iret rfl rfl ?_
                      refine bk_inl ?_
                      refine q_istore rfl (by decide) ?_
                      refine q_aload_n rfl rfl ?_
                      refine q_aload_n rfl rfl ?_
                      refine q_iload rfl rfl ?_
                      refine q_iconst rfl ?_
                      refine v_iadd (v := (i0 : Int) + 1) rfl (by omega) ?_
                      refine v_scr (j := i0 + 1) rfl (by omega) (by omega) hL hx1 ?_
                      refine q_aload_n rfl rfl ?_
                      refine q_iload rfl rfl ?_
                      refine q_iconst rfl ?_
                      refine v_iadd (v := (i0 : Int) + 2) rfl (by omega) ?_
                      refine v_scr (j := i0 + 2) rfl (by omega) (by omega) hL hx2 ?_
                      refine q_aload_n rfl rfl ?_
                      refine q_iload rfl rfl ?_
                      refine q_iconst rfl ?_
                      refine v_iadd (v := (i0 : Int) + 3) rfl (by omega) ?_
                      refine v_scr (j := i0 + 3) rfl (by omega) (by omega) hL hx3 ?_
                      refine v_cv rfl rfl rfl rfl (by decide) ⟨⟨rfl, rfl⟩, by decide, rfl⟩ (Nat.le_of_ble_eq_true rfl) (Nat.le_of_ble_eq_true rfl) ?_
                      refine q_aload_n rfl rfl ?_
                      refine q_iconst rfl ?_
                      refine v_pi (z := 0) rfl rfl rfl (by decide) rfl rfl rfl (by decide) ?_
                      refine q_aload_n rfl rfl ?_
                      refine q_iload_n rfl rfl ?_
                      refine q_iconst rfl ?_
                      refine v_bip rfl (by decide) ?_
                      refine q_call rfl rfl rfl rfl ?_
                      refine q_iload_n rfl rfl ?_
                      refine q_iload_n rfl rfl ?_
                      refine v_ic_lt_f (t := 14) rfl (by decide) (by omega) ?_
                      refine q_iload_n rfl rfl ?_
                      refine q_iload_n rfl rfl ?_
                      refine v_ic_gt_f (t := 14) rfl (by decide) (by omega) ?_
                      refine q_iconst rfl ?_
                      refine q_goto (t := 15) rfl (by decide) ?_
                      refine v_zret rfl rfl (by omega) ?_
                      refine bk_inl ?_
                      refine v_if_eq_f (t := 39) rfl (by decide) (by decide) ?_
                      refine q_iload_n rfl rfl ?_
                      refine q_iconst rfl ?_
                      refine v_bip rfl (by decide) ?_
                      refine q_call rfl rfl rfl rfl ?_
                      refine q_iload_n rfl rfl ?_
                      refine q_iload_n rfl rfl ?_
                      refine v_ic_lt_f (t := 14) rfl (by decide) (by omega) ?_
                      refine q_iload_n rfl rfl ?_
                      refine q_iload_n rfl rfl ?_
                      refine v_ic_gt_f (t := 14) rfl (by decide) (by omega) ?_
                      refine q_iconst rfl ?_
                      refine q_goto (t := 15) rfl (by decide) ?_
                      refine v_zret rfl rfl (by omega) ?_
                      refine bk_inl ?_
                      refine v_if_eq_f (t := 39) rfl (by decide) (by decide) ?_
                      refine q_iload_n rfl rfl ?_
                      refine q_iconst rfl ?_
                      refine q_iconst rfl ?_
                      refine q_call rfl rfl rfl rfl ?_
                      refine q_iload_n rfl rfl ?_
                      refine q_iload_n rfl rfl ?_
                      refine v_ic_lt_f (t := 14) rfl (by decide) (by omega) ?_
                      refine q_iload_n rfl rfl ?_
                      refine q_iload_n rfl rfl ?_
                      refine v_ic_gt_f (t := 14) rfl (by decide) (by omega) ?_
                      refine q_iconst rfl ?_
                      refine q_goto (t := 15) rfl (by decide) ?_
                      refine v_zret rfl rfl (by omega) ?_
                      refine bk_inl ?_
                      refine v_if_eq_f (t := 39) rfl (by decide) (by decide) ?_
                      refine q_iconst rfl ?_
                      refine q_goto (t := 40) rfl (by decide) ?_
                      refine q_iconst rfl ?_
                      refine q_iconst rfl ?_
                      refine v_cv rfl rfl rfl rfl (by decide) ⟨⟨rfl, rfl⟩, by decide, rfl⟩ (Nat.le_of_ble_eq_true rfl) (Nat.le_of_ble_eq_true rfl) ?_
                      refine q_iload_n rfl rfl ?_
                      refine v_if_ne_t (t := 26) rfl (by decide) (by decide) ?_
                      refine q_aload_n rfl rfl ?_
                      refine v_gi (z := 0) (v := 0) rfl rfl rfl (by decide) rfl rfl (up_e rfl) ?_
                      refine v_if_ne_f (t := 37) rfl (by decide) (by decide) ?_
                      refine q_iconst rfl ?_
                      refine q_goto (t := 38) rfl (by decide) ?_
                      refine v_zret rfl rfl (by omega) ?_
                      refine bk_inl ?_
                      refine v_if_ne_t (t := 50) rfl (by decide) (by decide) ?_
                      refine q_iconst rfl ?_
                      refine q_istore rfl (by decide) ?_
                      refine q_iconst rfl ?_
                      refine q_istore rfl (by decide) ?_
                      refine q_iconst rfl ?_
                      refine q_istore rfl (by decide) ?_
                      refine q_iload rfl rfl ?_
                      refine q_iconst rfl ?_
                      refine v_ic_ge_f (t := 156) rfl (by decide) (by decide) ?_
                      refine q_iload rfl rfl ?_
                      refine q_iconst rfl ?_
                      refine v_idiv (v := 0) rfl (by omega) (by decide) ?_
                      refine q_istore rfl (by decide) ?_
                      refine q_iload rfl rfl ?_
                      refine q_iconst rfl ?_
                      refine v_irem (v := 0) rfl (by omega) (by decide) ?_
                      refine q_istore rfl (by decide) ?_
                      refine Wp_ls [(8, vi 0), (7, vi 0), (6, vi 0), (5, vi (-1)), (4, vi 0), (0, .ref 41), (1, vi x1), (2, vi x2), (3, vi x3)] (lsub_cons rfl (lsub_cons rfl (lsub_cons rfl (lsub_cons rfl (lsub_cons rfl (lsub_cons rfl (lsub_cons rfl (lsub_cons rfl (lsub_cons rfl lsub_nil))))))))) ?_
                      refine q_iconst rfl ?_
                      refine q_iload rfl rfl ?_
                      refine v_isub (v := 1) rfl (by decide) ?_
                      refine q_iload rfl rfl ?_
                      refine q_iload_n rfl rfl ?_
                      refine q_iload_n rfl rfl ?_
                      refine q_call rfl rfl rfl rfl ?_
                      refine q_iload_n rfl rfl ?_
                      refine v_if_ne_t (t := 18) rfl (by decide) (by decide) ?_
                      refine q_iload_n rfl rfl ?_
                      refine q_iconst rfl ?_
                      refine v_ic_ne_t (t := 29) rfl (by decide) (by decide) ?_
                      refine q_iload_n rfl rfl ?_
                      refine q_iret rfl rfl ?_
                      refine bk_inl ?_
                      refine q_iload rfl rfl ?_
                      refine q_iload rfl rfl ?_
                      refine q_iload_n rfl rfl ?_
                      refine q_iload_n rfl rfl ?_
                      refine q_call rfl rfl rfl rfl ?_
                      refine q_iload_n rfl rfl ?_
                      refine v_if_ne_f (t := 18) rfl (by decide) (by decide) ?_
                      refine q_iload_n rfl rfl ?_
                      refine v_if_ne_f (t := 14) rfl (by decide) (by decide) ?_
                      refine q_iload_n rfl rfl ?_
                      refine q_iconst rfl ?_
                      refine v_idiv (v := (x1 / 2)) rfl (by omega) rfl ?_
                      refine q_goto (t := 30) rfl (by decide) ?_
                      refine q_iret rfl rfl ?_
                      refine bk_inl ?_
                      refine v_ic_gt_f (t := 150) rfl (by decide) (by omega) ?_
                      refine q_iconst rfl ?_
                      refine q_iload rfl rfl ?_
                      refine v_isub (v := 1) rfl (by decide) ?_
                      refine q_iload rfl rfl ?_
                      refine q_iload_n rfl rfl ?_
                      refine q_iload_n rfl rfl ?_
                      refine q_call rfl rfl rfl rfl ?_
                      refine q_iload_n rfl rfl ?_
                      refine v_if_ne_t (t := 18) rfl (by decide) (by decide) ?_
                      refine q_iload_n rfl rfl ?_
                      refine q_iconst rfl ?_
                      refine v_ic_ne_t (t := 29) rfl (by decide) (by decide) ?_
                      refine q_iload_n rfl rfl ?_
                      refine q_iret rfl rfl ?_
                      refine bk_inl ?_
                      refine q_iload rfl rfl ?_
                      refine q_iload rfl rfl ?_
                      refine q_iload_n rfl rfl ?_
                      refine q_iload_n rfl rfl ?_
                      refine q_call rfl rfl rfl rfl ?_
                      refine q_iload_n rfl rfl ?_
                      refine v_if_ne_f (t := 18) rfl (by decide) (by decide) ?_
                      refine q_iload_n rfl rfl ?_
                      refine v_if_ne_f (t := 14) rfl (by decide) (by decide) ?_
                      refine q_iload_n rfl rfl ?_
                      refine q_iconst rfl ?_
                      refine v_idiv (v := (x1 / 2)) rfl (by omega) rfl ?_
                      refine q_goto (t := 30) rfl (by decide) ?_
                      refine q_iret rfl rfl ?_
                      refine bk_inl ?_
                      refine v_ic_le_t (t := 126) rfl (by decide) (by omega) ?_
                      refine v_iinc (v := 1) rfl rfl (by decide) (by decide) ?_
                      refine q_iload rfl rfl ?_
                      refine q_iconst rfl ?_
                      refine v_ic_ne_f (t := 146) rfl (by decide) (by decide) ?_
                      refine v_bip rfl (by decide) ?_
                      refine q_iload rfl rfl ?_
                      refine v_imul (v := 0) rfl (by decide) ?_
                      refine q_iload rfl rfl ?_
                      refine v_iadd (v := 0) rfl (by decide) ?_
                      refine q_goto (t := 148) rfl (by decide) ?_
                      refine q_istore rfl (by decide) ?_
                      refine v_iinc (v := 1) rfl rfl (by decide) (by decide) ?_
                      refine q_goto (t := 59) rfl (by decide) ?_
                      refine q_iload rfl rfl ?_
                      refine q_iconst rfl ?_
                      refine v_ic_ge_f (t := 156) rfl (by decide) (by decide) ?_
                      refine q_iload rfl rfl ?_
                      refine q_iconst rfl ?_
                      refine v_idiv (v := 0) rfl (by omega) (by decide) ?_
                      refine q_istore rfl (by decide) ?_
                      refine q_iload rfl rfl ?_
                      refine q_iconst rfl ?_
                      refine v_irem (v := 1) rfl (by omega) (by decide) ?_
                      refine q_istore rfl (by decide) ?_
                      refine Wp_ls [(8, vi 1), (7, vi 0), (6, vi 1), (5, vi 0), (4, vi 1), (0, .ref 41), (1, vi x1), (2, vi x2), (3, vi x3)] (lsub_cons rfl (lsub_cons rfl (lsub_cons rfl (lsub_cons rfl (lsub_cons rfl (lsub_cons rfl (lsub_cons rfl (lsub_cons rfl (lsub_cons rfl lsub_nil))))))))) ?_
                      refine q_iconst rfl ?_
                      refine q_iload rfl rfl ?_
                      refine v_isub (v := 1) rfl (by decide) ?_
                      refine q_iload rfl rfl ?_
                      refine q_iload_n rfl rfl ?_
                      refine q_iload_n rfl rfl ?_
                      refine q_call rfl rfl rfl rfl ?_
                      refine q_iload_n rfl rfl ?_
                      refine v_if_ne_t (t := 18) rfl (by decide) (by decide) ?_
                      refine q_iload_n rfl rfl ?_
                      refine q_iconst rfl ?_
                      refine v_ic_ne_f (t := 29) rfl (by decide) (by decide) ?_
                      refine q_iload_n rfl rfl ?_
                      refine q_iconst rfl ?_
                      refine v_idiv (v := (x2 / 2)) rfl (by omega) rfl ?_
                      refine q_goto (t := 30) rfl (by decide) ?_
                      refine q_iret rfl rfl ?_
                      refine bk_inl ?_
                      refine q_iload rfl rfl ?_
                      refine q_iload rfl rfl ?_
                      refine q_iload_n rfl rfl ?_
                      refine q_iload_n rfl rfl ?_
                      refine q_call rfl rfl rfl rfl ?_
                      refine q_iload_n rfl rfl ?_
                      refine v_if_ne_f (t := 18) rfl (by decide) (by decide) ?_
                      refine q_iload_n rfl rfl ?_
                      refine v_if_ne_t (t := 14) rfl (by decide) (by decide) ?_
                      refine q_iload_n rfl rfl ?_
                      refine q_goto (t := 30) rfl (by decide) ?_
                      refine q_iret rfl rfl ?_
                      refine bk_inl ?_
                      refine v_ic_gt_f (t := 150) rfl (by decide) (by omega) ?_
                      refine q_iconst rfl ?_
                      refine q_iload rfl rfl ?_
                      refine v_isub (v := 0) rfl (by decide) ?_
                      refine q_iload rfl rfl ?_
                      refine q_iload_n rfl rfl ?_
                      refine q_iload_n rfl rfl ?_
                      refine q_call rfl rfl rfl rfl ?_
                      refine q_iload_n rfl rfl ?_
                      refine v_if_ne_f (t := 18) rfl (by decide) (by decide) ?_
                      refine q_iload_n rfl rfl ?_
                      refine v_if_ne_f (t := 14) rfl (by decide) (by decide) ?_
                      refine q_iload_n rfl rfl ?_
                      refine q_iconst rfl ?_
                      refine v_idiv (v := (x1 / 2)) rfl (by omega) rfl ?_
                      refine q_goto (t := 30) rfl (by decide) ?_
                      refine q_iret rfl rfl ?_
                      refine bk_inl ?_
                      refine q_iload rfl rfl ?_
                      refine q_iload rfl rfl ?_
                      refine q_iload_n rfl rfl ?_
                      refine q_iload_n rfl rfl ?_
                      refine q_call rfl rfl rfl rfl ?_
                      refine q_iload_n rfl rfl ?_
                      refine v_if_ne_t (t := 18) rfl (by decide) (by decide) ?_
                      refine q_iload_n rfl rfl ?_
                      refine q_iconst rfl ?_
                      refine v_ic_ne_t (t := 29) rfl (by decide) (by decide) ?_
                      refine q_iload_n rfl rfl ?_
                      refine q_iret rfl rfl ?_
                      refine bk_inl ?_
                      refine v_ic_le_t (t := 126) rfl (by decide) (by omega) ?_
                      refine v_iinc (v := 2) rfl rfl (by decide) (by decide) ?_
                      refine q_iload rfl rfl ?_
                      refine q_iconst rfl ?_
                      refine v_ic_ne_t (t := 146) rfl (by decide) (by decide) ?_
                      refine q_iload rfl rfl ?_
                      refine q_istore rfl (by decide) ?_
                      refine v_iinc (v := 2) rfl rfl (by decide) (by decide) ?_
                      refine q_goto (t := 59) rfl (by decide) ?_
                      refine q_iload rfl rfl ?_
                      refine q_iconst rfl ?_
                      refine v_ic_ge_f (t := 156) rfl (by decide) (by decide) ?_
                      refine q_iload rfl rfl ?_
                      refine q_iconst rfl ?_
                      refine v_idiv (v := 1) rfl (by omega) (by decide) ?_
                      refine q_istore rfl (by decide) ?_
                      refine q_iload rfl rfl ?_
                      refine q_iconst rfl ?_
                      refine v_irem (v := 0) rfl (by omega) (by decide) ?_
                      refine q_istore rfl (by decide) ?_
                      refine Wp_ls [(8, vi 0), (7, vi 1), (6, vi 2), (5, vi 0), (4, vi 2), (0, .ref 41), (1, vi x1), (2, vi x2), (3, vi x3)] (lsub_cons rfl (lsub_cons rfl (lsub_cons rfl (lsub_cons rfl (lsub_cons rfl (lsub_cons rfl (lsub_cons rfl (lsub_cons rfl (lsub_cons rfl lsub_nil))))))))) ?_
                      refine q_iconst rfl ?_
                      refine q_iload rfl rfl ?_
                      refine v_isub (v := 0) rfl (by decide) ?_
                      refine q_iload rfl rfl ?_
                      refine q_iload_n rfl rfl ?_
                      refine q_iload_n rfl rfl ?_
                      refine q_call rfl rfl rfl rfl ?_
                      refine q_iload_n rfl rfl ?_
                      refine v_if_ne_f (t := 18) rfl (by decide) (by decide) ?_
                      refine q_iload_n rfl rfl ?_
                      refine v_if_ne_f (t := 14) rfl (by decide) (by decide) ?_
                      refine q_iload_n rfl rfl ?_
                      refine q_iconst rfl ?_
                      refine v_idiv (v := (x1 / 2)) rfl (by omega) rfl ?_
                      refine q_goto (t := 30) rfl (by decide) ?_
                      refine q_iret rfl rfl ?_
                      refine bk_inl ?_
                      refine q_iload rfl rfl ?_
                      refine q_iload rfl rfl ?_
                      refine q_iload_n rfl rfl ?_
                      refine q_iload_n rfl rfl ?_
                      refine q_call rfl rfl rfl rfl ?_
                      refine q_iload_n rfl rfl ?_
                      refine v_if_ne_t (t := 18) rfl (by decide) (by decide) ?_
                      refine q_iload_n rfl rfl ?_
                      refine q_iconst rfl ?_
                      refine v_ic_ne_t (t := 29) rfl (by decide) (by decide) ?_
                      refine q_iload_n rfl rfl ?_
                      refine q_iret rfl rfl ?_
                      refine bk_inl ?_
                      refine v_ic_gt_f (t := 150) rfl (by decide) (by omega) ?_
                      refine q_iconst rfl ?_
                      refine q_iload rfl rfl ?_
                      refine v_isub (v := 1) rfl (by decide) ?_
                      refine q_iload rfl rfl ?_
                      refine q_iload_n rfl rfl ?_
                      refine q_iload_n rfl rfl ?_
                      refine q_call rfl rfl rfl rfl ?_
                      refine q_iload_n rfl rfl ?_
                      refine v_if_ne_t (t := 18) rfl (by decide) (by decide) ?_
                      refine q_iload_n rfl rfl ?_
                      refine q_iconst rfl ?_
                      refine v_ic_ne_f (t := 29) rfl (by decide) (by decide) ?_
                      refine q_iload_n rfl rfl ?_
                      refine q_iconst rfl ?_
                      refine v_idiv (v := (x2 / 2)) rfl (by omega) rfl ?_
                      refine q_goto (t := 30) rfl (by decide) ?_
                      refine q_iret rfl rfl ?_
                      refine bk_inl ?_
                      refine q_iload rfl rfl ?_
                      refine q_iload rfl rfl ?_
                      refine q_iload_n rfl rfl ?_
                      refine q_iload_n rfl rfl ?_
                      refine q_call rfl rfl rfl rfl ?_
                      refine q_iload_n rfl rfl ?_
                      refine v_if_ne_f (t := 18) rfl (by decide) (by decide) ?_
                      refine q_iload_n rfl rfl ?_
                      refine v_if_ne_t (t := 14) rfl (by decide) (by decide) ?_
                      refine q_iload_n rfl rfl ?_
                      refine q_goto (t := 30) rfl (by decide) ?_
                      refine q_iret rfl rfl ?_
                      refine bk_inl ?_
                      refine v_ic_le_t (t := 126) rfl (by decide) (by omega) ?_
                      refine v_iinc (v := 3) rfl rfl (by decide) (by decide) ?_
                      refine q_iload rfl rfl ?_
                      refine q_iconst rfl ?_
                      refine v_ic_ne_t (t := 146) rfl (by decide) (by decide) ?_
                      refine q_iload rfl rfl ?_
                      refine q_istore rfl (by decide) ?_
                      refine v_iinc (v := 3) rfl rfl (by decide) (by decide) ?_
                      refine q_goto (t := 59) rfl (by decide) ?_
                      refine q_iload rfl rfl ?_
                      refine q_iconst rfl ?_
                      refine v_ic_ge_f (t := 156) rfl (by decide) (by decide) ?_
                      refine q_iload rfl rfl ?_
                      refine q_iconst rfl ?_
                      refine v_idiv (v := 1) rfl (by omega) (by decide) ?_
                      refine q_istore rfl (by decide) ?_
                      refine q_iload rfl rfl ?_
                      refine q_iconst rfl ?_
                      refine v_irem (v := 1) rfl (by omega) (by decide) ?_
                      refine q_istore rfl (by decide) ?_
                      refine Wp_ls [(8, vi 1), (7, vi 1), (6, vi 3), (5, vi 0), (4, vi 3), (0, .ref 41), (1, vi x1), (2, vi x2), (3, vi x3)] (lsub_cons rfl (lsub_cons rfl (lsub_cons rfl (lsub_cons rfl (lsub_cons rfl (lsub_cons rfl (lsub_cons rfl (lsub_cons rfl (lsub_cons rfl lsub_nil))))))))) ?_
                      refine q_iconst rfl ?_
                      refine q_iload rfl rfl ?_
                      refine v_isub (v := 0) rfl (by decide) ?_
                      refine q_iload rfl rfl ?_
                      refine q_iload_n rfl rfl ?_
                      refine q_iload_n rfl rfl ?_
                      refine q_call rfl rfl rfl rfl ?_
                      refine q_iload_n rfl rfl ?_
                      refine v_if_ne_f (t := 18) rfl (by decide) (by decide) ?_
                      refine q_iload_n rfl rfl ?_
                      refine v_if_ne_t (t := 14) rfl (by decide) (by decide) ?_
                      refine q_iload_n rfl rfl ?_
                      refine q_goto (t := 30) rfl (by decide) ?_
                      refine q_iret rfl rfl ?_
                      refine bk_inl ?_
                      refine q_iload rfl rfl ?_
                      refine q_iload rfl rfl ?_
                      refine q_iload_n rfl rfl ?_
                      refine q_iload_n rfl rfl ?_
                      refine q_call rfl rfl rfl rfl ?_
                      refine q_iload_n rfl rfl ?_
                      refine v_if_ne_t (t := 18) rfl (by decide) (by decide) ?_
                      refine q_iload_n rfl rfl ?_
                      refine q_iconst rfl ?_
                      refine v_ic_ne_f (t := 29) rfl (by decide) (by decide) ?_
                      refine q_iload_n rfl rfl ?_
                      refine q_iconst rfl ?_
                      refine v_idiv (v := (x2 / 2)) rfl (by omega) rfl ?_
                      refine q_goto (t := 30) rfl (by decide) ?_
                      refine q_iret rfl rfl ?_
                      refine bk_inl ?_
                      refine v_ic_gt_t (t := 150) rfl (by decide) (by omega) ?_
                      refine v_iinc (v := 4) rfl rfl (by decide) (by decide) ?_
                      refine q_goto (t := 59) rfl (by decide) ?_
                      refine q_iload rfl rfl ?_
                      refine q_iconst rfl ?_
                      refine v_ic_ge_t (t := 156) rfl (by decide) (by decide) ?_
                      refine q_iload_n rfl rfl ?_
                      refine v_if_ne_f (t := 165) rfl (by decide) (by omega) ?_
                      refine q_iload rfl rfl ?_
                      refine q_goto (t := 216) rfl (by decide) ?_
                      refine q_iret rfl rfl ?_
                      refine bk_inl ?_
                      refine q_istore rfl (by decide) ?_
                      refine q_aload_n rfl rfl ?_
                      refine v_cv rfl rfl rfl rfl (by decide) ⟨⟨rfl, rfl⟩, by decide, rfl⟩ (Nat.le_of_ble_eq_true rfl) (Nat.le_of_ble_eq_true rfl) ?_
                      refine q_aload_n rfl rfl ?_
                      refine v_gi (z := 0) (v := 0) rfl rfl rfl (by decide) rfl rfl (up_e rfl) ?_
                      refine q_iret rfl rfl ?_
                      refine bk_inl ?_
                      refine q_iload rfl rfl ?_
                      refine v_ic_eq_t (t := 1215) rfl (by decide) (by decide) ?_
                      refine q_iload rfl rfl ?_
                      refine v_if_ne_f (t := 1232) rfl (by decide) (by decide) ?_
                      refine q_aload_n rfl rfl ?_
                      refine q_iconst rfl ?_
                      refine v_la (v := 3) rfl rfl (by decide) (by decide) (by decide) ((up_c (by decide)).trans (up_e rfl)) ?_
                      refine q_iload rfl rfl ?_
                      refine v_i2l rfl (by omega) ?_
                      refine v_lcmp0 rfl (by omega) ?_
                      refine v_if_eq_t (t := 1232) rfl (by decide) (by decide) ?_
                      refine q_goto (t := 1844) rfl (by decide) ?_
                      refine Wp_ls [(4, vi (i0 : Int)), (3, .ref 67), (2, .ref 41), (1, .ref 0), (0, .ref a_SC)] (lsub_cons rfl (lsub_cons rfl (lsub_cons rfl (lsub_cons rfl (lsub_cons rfl lsub_nil))))) ?_
                      refine K (up (up c 67 0 3) 41 0 0) 0 (by decide) ?_ ?_ ?_
                      · intro a j h
                        exact ((up_b (by omega)).trans (up_b (by omega)))
                      · exact Eq.trans (b := c 0 13) ((up_c (by decide)).trans (up_c (by decide))) (show _ = c 0 13 + 0 by omega)
                      · exact Eq.trans (b := c 42 1) ((up_c (by decide)).trans (up_c (by decide))) (show _ = c 42 1 + 0 by omega)
                    by_cases h_21 : x3 = 1
                    · refine v_lsw (t := 183) (off := 29) 1 rfl (by omega) (by decide) (by decide) (by decide) (by decide) ?_
                      refine q_iload rfl rfl ?_
                      refine q_iret rfl rfl ?_
                      refine bk_inl ?_
                      refine v_i2l rfl (by omega) ?_
                      refine v_ls rfl rfl (by decide) (by decide) (by decide) ?_
                      refine q_goto (t := 19) rfl (by decide) ?_
                      refine q_iconst rfl ?_
                      refine q_iret rfl rfl ?_
                      refine bk_inl ?_
                      refine q_istore rfl (by decide) ?_
                      refine q_aload_n rfl rfl ?_
                      refine q_aload_n rfl rfl ?_
                      refine q_iload rfl rfl ?_
                      refine q_iconst rfl ?_
                      refine v_iadd (v := (i0 : Int) + 1) rfl (by omega) ?_
                      refine v_scr (j := i0 + 1) rfl (by omega) (by omega) hL hx1 ?_
                      refine q_aload_n rfl rfl ?_
                      refine q_iload rfl rfl ?_
                      refine q_iconst rfl ?_
                      refine v_iadd (v := (i0 : Int) + 2) rfl (by omega) ?_
                      refine v_scr (j := i0 + 2) rfl (by omega) (by omega) hL hx2 ?_
                      refine q_aload_n rfl rfl ?_
                      refine q_iload rfl rfl ?_
                      refine q_iconst rfl ?_
                      refine v_iadd (v := (i0 : Int) + 3) rfl (by omega) ?_
                      refine v_scr (j := i0 + 3) rfl (by omega) (by omega) hL hx3 ?_
                      refine v_cv rfl rfl rfl rfl (by decide) ⟨⟨rfl, rfl⟩, by decide, rfl⟩ (Nat.le_of_ble_eq_true rfl) (Nat.le_of_ble_eq_true rfl) ?_
                      refine q_aload_n rfl rfl ?_
                      refine q_iconst rfl ?_
                      refine v_pi (z := 0) rfl rfl rfl (by decide) rfl rfl rfl (by decide) ?_
                      refine q_aload_n rfl rfl ?_
                      refine q_iload_n rfl rfl ?_
                      refine q_iconst rfl ?_
                      refine v_bip rfl (by decide) ?_
                      refine q_call rfl rfl rfl rfl ?_
                      refine q_iload_n rfl rfl ?_
                      refine q_iload_n rfl rfl ?_
                      refine v_ic_lt_f (t := 14) rfl (by decide) (by omega) ?_
                      refine q_iload_n rfl rfl ?_
                      refine q_iload_n rfl rfl ?_
                      refine v_ic_gt_f (t := 14) rfl (by decide) (by omega) ?_
                      refine q_iconst rfl ?_
                      refine q_goto (t := 15) rfl (by decide) ?_
                      refine v_zret rfl rfl (by omega) ?_
                      refine bk_inl ?_
                      refine v_if_eq_f (t := 39) rfl (by decide) (by decide) ?_
                      refine q_iload_n rfl rfl ?_
                      refine q_iconst rfl ?_
                      refine v_bip rfl (by decide) ?_
                      refine q_call rfl rfl rfl rfl ?_
                      refine q_iload_n rfl rfl ?_
                      refine q_iload_n rfl rfl ?_
                      refine v_ic_lt_f (t := 14) rfl (by decide) (by omega) ?_
                      refine q_iload_n rfl rfl ?_
                      refine q_iload_n rfl rfl ?_
                      refine v_ic_gt_f (t := 14) rfl (by decide) (by omega) ?_
                      refine q_iconst rfl ?_
                      refine q_goto (t := 15) rfl (by decide) ?_
                      refine v_zret rfl rfl (by omega) ?_
                      refine bk_inl ?_
                      refine v_if_eq_f (t := 39) rfl (by decide) (by decide) ?_
                      refine q_iload_n rfl rfl ?_
                      refine q_iconst rfl ?_
                      refine q_iconst rfl ?_
                      refine q_call rfl rfl rfl rfl ?_
                      refine q_iload_n rfl rfl ?_
                      refine q_iload_n rfl rfl ?_
                      refine v_ic_lt_f (t := 14) rfl (by decide) (by omega) ?_
                      refine q_iload_n rfl rfl ?_
                      refine q_iload_n rfl rfl ?_
                      refine v_ic_gt_f (t := 14) rfl (by decide) (by omega) ?_
                      refine q_iconst rfl ?_
                      refine q_goto (t := 15) rfl (by decide) ?_
                      refine v_zret rfl rfl (by omega) ?_
                      refine bk_inl ?_
                      refine v_if_eq_f (t := 39) rfl (by decide) (by decide) ?_
                      refine q_iconst rfl ?_
                      refine q_goto (t := 40) rfl (by decide) ?_
                      refine q_iconst rfl ?_
                      refine q_iconst rfl ?_
                      refine v_cv rfl rfl rfl rfl (by decide) ⟨⟨rfl, rfl⟩, by decide, rfl⟩ (Nat.le_of_ble_eq_true rfl) (Nat.le_of_ble_eq_true rfl) ?_
                      refine q_iload_n rfl rfl ?_
                      refine v_if_ne_t (t := 26) rfl (by decide) (by decide) ?_
                      refine q_aload_n rfl rfl ?_
                      refine v_gi (z := 0) (v := 0) rfl rfl rfl (by decide) rfl rfl (up_e rfl) ?_
                      refine v_if_ne_f (t := 37) rfl (by decide) (by decide) ?_
                      refine q_iconst rfl ?_
                      refine q_goto (t := 38) rfl (by decide) ?_
                      refine v_zret rfl rfl (by omega) ?_
                      refine bk_inl ?_
                      refine v_if_ne_t (t := 50) rfl (by decide) (by decide) ?_
                      refine q_iconst rfl ?_
                      refine q_istore rfl (by decide) ?_
                      refine q_iconst rfl ?_
                      refine q_istore rfl (by decide) ?_
                      refine q_iconst rfl ?_
                      refine q_istore rfl (by decide) ?_
                      refine q_iload rfl rfl ?_
                      refine q_iconst rfl ?_
                      refine v_ic_ge_f (t := 156) rfl (by decide) (by decide) ?_
                      refine q_iload rfl rfl ?_
                      refine q_iconst rfl ?_
                      refine v_idiv (v := 0) rfl (by omega) (by decide) ?_
                      refine q_istore rfl (by decide) ?_
                      refine q_iload rfl rfl ?_
                      refine q_iconst rfl ?_
                      refine v_irem (v := 0) rfl (by omega) (by decide) ?_
                      refine q_istore rfl (by decide) ?_
                      refine Wp_ls [(8, vi 0), (7, vi 0), (6, vi 0), (5, vi (-1)), (4, vi 0), (0, .ref 41), (1, vi x1), (2, vi x2), (3, vi x3)] (lsub_cons rfl (lsub_cons rfl (lsub_cons rfl (lsub_cons rfl (lsub_cons rfl (lsub_cons rfl (lsub_cons rfl (lsub_cons rfl (lsub_cons rfl lsub_nil))))))))) ?_
                      refine q_iconst rfl ?_
                      refine q_iload rfl rfl ?_
                      refine v_isub (v := 1) rfl (by decide) ?_
                      refine q_iload rfl rfl ?_
                      refine q_iload_n rfl rfl ?_
                      refine q_iload_n rfl rfl ?_
                      refine q_call rfl rfl rfl rfl ?_
                      refine q_iload_n rfl rfl ?_
                      refine v_if_ne_t (t := 18) rfl (by decide) (by decide) ?_
                      refine q_iload_n rfl rfl ?_
                      refine q_iconst rfl ?_
                      refine v_ic_ne_t (t := 29) rfl (by decide) (by decide) ?_
                      refine q_iload_n rfl rfl ?_
                      refine q_iret rfl rfl ?_
                      refine bk_inl ?_
                      refine q_iload rfl rfl ?_
                      refine q_iload rfl rfl ?_
                      refine q_iload_n rfl rfl ?_
                      refine q_iload_n rfl rfl ?_
                      refine q_call rfl rfl rfl rfl ?_
                      refine q_iload_n rfl rfl ?_
                      refine v_if_ne_f (t := 18) rfl (by decide) (by decide) ?_
                      refine q_iload_n rfl rfl ?_
                      refine v_if_ne_f (t := 14) rfl (by decide) (by decide) ?_
                      refine q_iload_n rfl rfl ?_
                      refine q_iconst rfl ?_
                      refine v_idiv (v := (x1 / 2)) rfl (by omega) rfl ?_
                      refine q_goto (t := 30) rfl (by decide) ?_
                      refine q_iret rfl rfl ?_
                      refine bk_inl ?_
                      refine v_ic_gt_f (t := 150) rfl (by decide) (by omega) ?_
                      refine q_iconst rfl ?_
                      refine q_iload rfl rfl ?_
                      refine v_isub (v := 1) rfl (by decide) ?_
                      refine q_iload rfl rfl ?_
                      refine q_iload_n rfl rfl ?_
                      refine q_iload_n rfl rfl ?_
                      refine q_call rfl rfl rfl rfl ?_
                      refine q_iload_n rfl rfl ?_
                      refine v_if_ne_t (t := 18) rfl (by decide) (by decide) ?_
                      refine q_iload_n rfl rfl ?_
                      refine q_iconst rfl ?_
                      refine v_ic_ne_t (t := 29) rfl (by decide) (by decide) ?_
                      refine q_iload_n rfl rfl ?_
                      refine q_iret rfl rfl ?_
                      refine bk_inl ?_
                      refine q_iload rfl rfl ?_
                      refine q_iload rfl rfl ?_
                      refine q_iload_n rfl rfl ?_
                      refine q_iload_n rfl rfl ?_
                      refine q_call rfl rfl rfl rfl ?_
                      refine q_iload_n rfl rfl ?_
                      refine v_if_ne_f (t := 18) rfl (by decide) (by decide) ?_
                      refine q_iload_n rfl rfl ?_
                      refine v_if_ne_f (t := 14) rfl (by decide) (by decide) ?_
                      refine q_iload_n rfl rfl ?_
                      refine q_iconst rfl ?_
                      refine v_idiv (v := (x1 / 2)) rfl (by omega) rfl ?_
                      refine q_goto (t := 30) rfl (by decide) ?_
                      refine q_iret rfl rfl ?_
                      refine bk_inl ?_
                      refine v_ic_le_t (t := 126) rfl (by decide) (by omega) ?_
                      refine v_iinc (v := 1) rfl rfl (by decide) (by decide) ?_
                      refine q_iload rfl rfl ?_
                      refine q_iconst rfl ?_
                      refine v_ic_ne_f (t := 146) rfl (by decide) (by decide) ?_
                      refine v_bip rfl (by decide) ?_
                      refine q_iload rfl rfl ?_
                      refine v_imul (v := 0) rfl (by decide) ?_
                      refine q_iload rfl rfl ?_
                      refine v_iadd (v := 0) rfl (by decide) ?_
                      refine q_goto (t := 148) rfl (by decide) ?_
                      refine q_istore rfl (by decide) ?_
                      refine v_iinc (v := 1) rfl rfl (by decide) (by decide) ?_
                      refine q_goto (t := 59) rfl (by decide) ?_
                      refine q_iload rfl rfl ?_
                      refine q_iconst rfl ?_
                      refine v_ic_ge_f (t := 156) rfl (by decide) (by decide) ?_
                      refine q_iload rfl rfl ?_
                      refine q_iconst rfl ?_
                      refine v_idiv (v := 0) rfl (by omega) (by decide) ?_
                      refine q_istore rfl (by decide) ?_
                      refine q_iload rfl rfl ?_
                      refine q_iconst rfl ?_
                      refine v_irem (v := 1) rfl (by omega) (by decide) ?_
                      refine q_istore rfl (by decide) ?_
                      refine Wp_ls [(8, vi 1), (7, vi 0), (6, vi 1), (5, vi 0), (4, vi 1), (0, .ref 41), (1, vi x1), (2, vi x2), (3, vi x3)] (lsub_cons rfl (lsub_cons rfl (lsub_cons rfl (lsub_cons rfl (lsub_cons rfl (lsub_cons rfl (lsub_cons rfl (lsub_cons rfl (lsub_cons rfl lsub_nil))))))))) ?_
                      refine q_iconst rfl ?_
                      refine q_iload rfl rfl ?_
                      refine v_isub (v := 1) rfl (by decide) ?_
                      refine q_iload rfl rfl ?_
                      refine q_iload_n rfl rfl ?_
                      refine q_iload_n rfl rfl ?_
                      refine q_call rfl rfl rfl rfl ?_
                      refine q_iload_n rfl rfl ?_
                      refine v_if_ne_t (t := 18) rfl (by decide) (by decide) ?_
                      refine q_iload_n rfl rfl ?_
                      refine q_iconst rfl ?_
                      refine v_ic_ne_f (t := 29) rfl (by decide) (by decide) ?_
                      refine q_iload_n rfl rfl ?_
                      refine q_iconst rfl ?_
                      refine v_idiv (v := (x2 / 2)) rfl (by omega) rfl ?_
                      refine q_goto (t := 30) rfl (by decide) ?_
                      refine q_iret rfl rfl ?_
                      refine bk_inl ?_
                      refine q_iload rfl rfl ?_
                      refine q_iload rfl rfl ?_
                      refine q_iload_n rfl rfl ?_
                      refine q_iload_n rfl rfl ?_
                      refine q_call rfl rfl rfl rfl ?_
                      refine q_iload_n rfl rfl ?_
                      refine v_if_ne_f (t := 18) rfl (by decide) (by decide) ?_
                      refine q_iload_n rfl rfl ?_
                      refine v_if_ne_t (t := 14) rfl (by decide) (by decide) ?_
                      refine q_iload_n rfl rfl ?_
                      refine q_goto (t := 30) rfl (by decide) ?_
                      refine q_iret rfl rfl ?_
                      refine bk_inl ?_
                      refine v_ic_gt_f (t := 150) rfl (by decide) (by omega) ?_
                      refine q_iconst rfl ?_
                      refine q_iload rfl rfl ?_
                      refine v_isub (v := 0) rfl (by decide) ?_
                      refine q_iload rfl rfl ?_
                      refine q_iload_n rfl rfl ?_
                      refine q_iload_n rfl rfl ?_
                      refine q_call rfl rfl rfl rfl ?_
                      refine q_iload_n rfl rfl ?_
                      refine v_if_ne_f (t := 18) rfl (by decide) (by decide) ?_
                      refine q_iload_n rfl rfl ?_
                      refine v_if_ne_f (t := 14) rfl (by decide) (by decide) ?_
                      refine q_iload_n rfl rfl ?_
                      refine q_iconst rfl ?_
                      refine v_idiv (v := (x1 / 2)) rfl (by omega) rfl ?_
                      refine q_goto (t := 30) rfl (by decide) ?_
                      refine q_iret rfl rfl ?_
                      refine bk_inl ?_
                      refine q_iload rfl rfl ?_
                      refine q_iload rfl rfl ?_
                      refine q_iload_n rfl rfl ?_
                      refine q_iload_n rfl rfl ?_
                      refine q_call rfl rfl rfl rfl ?_
                      refine q_iload_n rfl rfl ?_
                      refine v_if_ne_t (t := 18) rfl (by decide) (by decide) ?_
                      refine q_iload_n rfl rfl ?_
                      refine q_iconst rfl ?_
                      refine v_ic_ne_t (t := 29) rfl (by decide) (by decide) ?_
                      refine q_iload_n rfl rfl ?_
                      refine q_iret rfl rfl ?_
                      refine bk_inl ?_
                      refine v_ic_le_t (t := 126) rfl (by decide) (by omega) ?_
                      refine v_iinc (v := 2) rfl rfl (by decide) (by decide) ?_
                      refine q_iload rfl rfl ?_
                      refine q_iconst rfl ?_
                      refine v_ic_ne_t (t := 146) rfl (by decide) (by decide) ?_
                      refine q_iload rfl rfl ?_
                      refine q_istore rfl (by decide) ?_
                      refine v_iinc (v := 2) rfl rfl (by decide) (by decide) ?_
                      refine q_goto (t := 59) rfl (by decide) ?_
                      refine q_iload rfl rfl ?_
                      refine q_iconst rfl ?_
                      refine v_ic_ge_f (t := 156) rfl (by decide) (by decide) ?_
                      refine q_iload rfl rfl ?_
                      refine q_iconst rfl ?_
                      refine v_idiv (v := 1) rfl (by omega) (by decide) ?_
                      refine q_istore rfl (by decide) ?_
                      refine q_iload rfl rfl ?_
                      refine q_iconst rfl ?_
                      refine v_irem (v := 0) rfl (by omega) (by decide) ?_
                      refine q_istore rfl (by decide) ?_
                      refine Wp_ls [(8, vi 0), (7, vi 1), (6, vi 2), (5, vi 0), (4, vi 2), (0, .ref 41), (1, vi x1), (2, vi x2), (3, vi x3)] (lsub_cons rfl (lsub_cons rfl (lsub_cons rfl (lsub_cons rfl (lsub_cons rfl (lsub_cons rfl (lsub_cons rfl (lsub_cons rfl (lsub_cons rfl lsub_nil))))))))) ?_
                      refine q_iconst rfl ?_
                      refine q_iload rfl rfl ?_
                      refine v_isub (v := 0) rfl (by decide) ?_
                      refine q_iload rfl rfl ?_
                      refine q_iload_n rfl rfl ?_
                      refine q_iload_n rfl rfl ?_
                      refine q_call rfl rfl rfl rfl ?_
                      refine q_iload_n rfl rfl ?_
                      refine v_if_ne_f (t := 18) rfl (by decide) (by decide) ?_
                      refine q_iload_n rfl rfl ?_
                      refine v_if_ne_f (t := 14) rfl (by decide) (by decide) ?_
                      refine q_iload_n rfl rfl ?_
                      refine q_iconst rfl ?_
                      refine v_idiv (v := (x1 / 2)) rfl (by omega) rfl ?_
                      refine q_goto (t := 30) rfl (by decide) ?_
                      refine q_iret rfl rfl ?_
                      refine bk_inl ?_
                      refine q_iload rfl rfl ?_
                      refine q_iload rfl rfl ?_
                      refine q_iload_n rfl rfl ?_
                      refine q_iload_n rfl rfl ?_
                      refine q_call rfl rfl rfl rfl ?_
                      refine q_iload_n rfl rfl ?_
                      refine v_if_ne_t (t := 18) rfl (by decide) (by decide) ?_
                      refine q_iload_n rfl rfl ?_
                      refine q_iconst rfl ?_
                      refine v_ic_ne_t (t := 29) rfl (by decide) (by decide) ?_
                      refine q_iload_n rfl rfl ?_
                      refine q_iret rfl rfl ?_
                      refine bk_inl ?_
                      refine v_ic_gt_f (t := 150) rfl (by decide) (by omega) ?_
                      refine q_iconst rfl ?_
                      refine q_iload rfl rfl ?_
                      refine v_isub (v := 1) rfl (by decide) ?_
                      refine q_iload rfl rfl ?_
                      refine q_iload_n rfl rfl ?_
                      refine q_iload_n rfl rfl ?_
                      refine q_call rfl rfl rfl rfl ?_
                      refine q_iload_n rfl rfl ?_
                      refine v_if_ne_t (t := 18) rfl (by decide) (by decide) ?_
                      refine q_iload_n rfl rfl ?_
                      refine q_iconst rfl ?_
                      refine v_ic_ne_f (t := 29) rfl (by decide) (by decide) ?_
                      refine q_iload_n rfl rfl ?_
                      refine q_iconst rfl ?_
                      refine v_idiv (v := (x2 / 2)) rfl (by omega) rfl ?_
                      refine q_goto (t := 30) rfl (by decide) ?_
                      refine q_iret rfl rfl ?_
                      refine bk_inl ?_
                      refine q_iload rfl rfl ?_
                      refine q_iload rfl rfl ?_
                      refine q_iload_n rfl rfl ?_
                      refine q_iload_n rfl rfl ?_
                      refine q_call rfl rfl rfl rfl ?_
                      refine q_iload_n rfl rfl ?_
                      refine v_if_ne_f (t := 18) rfl (by decide) (by decide) ?_
                      refine q_iload_n rfl rfl ?_
                      refine v_if_ne_t (t := 14) rfl (by decide) (by decide) ?_
                      refine q_iload_n rfl rfl ?_
                      refine q_goto (t := 30) rfl (by decide) ?_
                      refine q_iret rfl rfl ?_
                      refine bk_inl ?_
                      refine v_ic_le_t (t := 126) rfl (by decide) (by omega) ?_
                      refine v_iinc (v := 3) rfl rfl (by decide) (by decide) ?_
                      refine q_iload rfl rfl ?_
                      refine q_iconst rfl ?_
                      refine v_ic_ne_t (t := 146) rfl (by decide) (by decide) ?_
                      refine q_iload rfl rfl ?_
                      refine q_istore rfl (by decide) ?_
                      refine v_iinc (v := 3) rfl rfl (by decide) (by decide) ?_
                      refine q_goto (t := 59) rfl (by decide) ?_
                      refine q_iload rfl rfl ?_
                      refine q_iconst rfl ?_
                      refine v_ic_ge_f (t := 156) rfl (by decide) (by decide) ?_
                      refine q_iload rfl rfl ?_
                      refine q_iconst rfl ?_
                      refine v_idiv (v := 1) rfl (by omega) (by decide) ?_
                      refine q_istore rfl (by decide) ?_
                      refine q_iload rfl rfl ?_
                      refine q_iconst rfl ?_
                      refine v_irem (v := 1) rfl (by omega) (by decide) ?_
                      refine q_istore rfl (by decide) ?_
                      refine Wp_ls [(8, vi 1), (7, vi 1), (6, vi 3), (5, vi 0), (4, vi 3), (0, .ref 41), (1, vi x1), (2, vi x2), (3, vi x3)] (lsub_cons rfl (lsub_cons rfl (lsub_cons rfl (lsub_cons rfl (lsub_cons rfl (lsub_cons rfl (lsub_cons rfl (lsub_cons rfl (lsub_cons rfl lsub_nil))))))))) ?_
                      refine q_iconst rfl ?_
                      refine q_iload rfl rfl ?_
                      refine v_isub (v := 0) rfl (by decide) ?_
                      refine q_iload rfl rfl ?_
                      refine q_iload_n rfl rfl ?_
                      refine q_iload_n rfl rfl ?_
                      refine q_call rfl rfl rfl rfl ?_
                      refine q_iload_n rfl rfl ?_
                      refine v_if_ne_f (t := 18) rfl (by decide) (by decide) ?_
                      refine q_iload_n rfl rfl ?_
                      refine v_if_ne_t (t := 14) rfl (by decide) (by decide) ?_
                      refine q_iload_n rfl rfl ?_
                      refine q_goto (t := 30) rfl (by decide) ?_
                      refine q_iret rfl rfl ?_
                      refine bk_inl ?_
                      refine q_iload rfl rfl ?_
                      refine q_iload rfl rfl ?_
                      refine q_iload_n rfl rfl ?_
                      refine q_iload_n rfl rfl ?_
                      refine q_call rfl rfl rfl rfl ?_
                      refine q_iload_n rfl rfl ?_
                      refine v_if_ne_t (t := 18) rfl (by decide) (by decide) ?_
                      refine q_iload_n rfl rfl ?_
                      refine q_iconst rfl ?_
                      refine v_ic_ne_f (t := 29) rfl (by decide) (by decide) ?_
                      refine q_iload_n rfl rfl ?_
                      refine q_iconst rfl ?_
                      refine v_idiv (v := (x2 / 2)) rfl (by omega) rfl ?_
                      refine q_goto (t := 30) rfl (by decide) ?_
                      refine q_iret rfl rfl ?_
                      refine bk_inl ?_
                      refine v_ic_gt_t (t := 150) rfl (by decide) (by omega) ?_
                      refine v_iinc (v := 4) rfl rfl (by decide) (by decide) ?_
                      refine q_goto (t := 59) rfl (by decide) ?_
                      refine q_iload rfl rfl ?_
                      refine q_iconst rfl ?_
                      refine v_ic_ge_t (t := 156) rfl (by decide) (by decide) ?_
                      refine q_iload_n rfl rfl ?_
                      refine v_if_ne_t (t := 165) rfl (by decide) (by omega) ?_
                      refine q_iload_n rfl rfl ?_
                      refine q_iconst rfl ?_
                      refine v_ic_ne_f (t := 175) rfl (by decide) (by omega) ?_
                      refine q_iload rfl rfl ?_
                      refine q_goto (t := 216) rfl (by decide) ?_
                      refine q_iret rfl rfl ?_
                      refine bk_inl ?_
                      refine q_istore rfl (by decide) ?_
                      refine q_aload_n rfl rfl ?_
                      refine v_cv rfl rfl rfl rfl (by decide) ⟨⟨rfl, rfl⟩, by decide, rfl⟩ (Nat.le_of_ble_eq_true rfl) (Nat.le_of_ble_eq_true rfl) ?_
                      refine q_aload_n rfl rfl ?_
                      refine v_gi (z := 0) (v := 0) rfl rfl rfl (by decide) rfl rfl (up_e rfl) ?_
                      refine q_iret rfl rfl ?_
                      refine bk_inl ?_
                      refine q_iload rfl rfl ?_
                      refine v_ic_eq_t (t := 1215) rfl (by decide) (by decide) ?_
                      refine q_iload rfl rfl ?_
                      refine v_if_ne_f (t := 1232) rfl (by decide) (by decide) ?_
                      refine q_aload_n rfl rfl ?_
                      refine q_iconst rfl ?_
                      refine v_la (v := 0) rfl rfl (by decide) (by decide) (by decide) ((up_c (by decide)).trans (up_e rfl)) ?_
                      refine q_iload rfl rfl ?_
                      refine v_i2l rfl (by omega) ?_
                      refine v_lcmp0 rfl (by omega) ?_
                      refine v_if_eq_t (t := 1232) rfl (by decide) (by decide) ?_
                      refine q_goto (t := 1844) rfl (by decide) ?_
                      refine Wp_ls [(4, vi (i0 : Int)), (3, .ref 67), (2, .ref 41), (1, .ref 0), (0, .ref a_SC)] (lsub_cons rfl (lsub_cons rfl (lsub_cons rfl (lsub_cons rfl (lsub_cons rfl lsub_nil))))) ?_
                      refine K (up (up c 67 0 0) 41 0 0) 0 (by decide) ?_ ?_ ?_
                      · intro a j h
                        exact ((up_b (by omega)).trans (up_b (by omega)))
                      · exact Eq.trans (b := c 0 13) ((up_c (by decide)).trans (up_c (by decide))) (show _ = c 0 13 + 0 by omega)
                      · exact Eq.trans (b := c 42 1) ((up_c (by decide)).trans (up_c (by decide))) (show _ = c 42 1 + 0 by omega)
                    refine v_lsw_o (t := 186) rfl (by omega) (by decide) (by simp [Op.lookupswitch.offset, Ne.symm (show x3 ≠ 0 by omega), Ne.symm (show x3 ≠ 1 by omega)]) (by decide) ?_
                    refine q_iload rfl rfl ?_
                    refine q_iret rfl rfl ?_
                    refine bk_inl ?_
                    refine v_i2l rfl (by omega) ?_
                    refine v_ls rfl rfl (by decide) (by decide) (by decide) ?_
                    refine q_goto (t := 19) rfl (by decide) ?_
                    refine q_iconst rfl ?_
                    refine q_iret rfl rfl ?_
                    refine bk_inl ?_
                    refine q_istore rfl (by decide) ?_
                    refine q_aload_n rfl rfl ?_
                    refine q_aload_n rfl rfl ?_
                    refine q_iload rfl rfl ?_
                    refine q_iconst rfl ?_
                    refine v_iadd (v := (i0 : Int) + 1) rfl (by omega) ?_
                    refine v_scr (j := i0 + 1) rfl (by omega) (by omega) hL hx1 ?_
                    refine q_aload_n rfl rfl ?_
                    refine q_iload rfl rfl ?_
                    refine q_iconst rfl ?_
                    refine v_iadd (v := (i0 : Int) + 2) rfl (by omega) ?_
                    refine v_scr (j := i0 + 2) rfl (by omega) (by omega) hL hx2 ?_
                    refine q_aload_n rfl rfl ?_
                    refine q_iload rfl rfl ?_
                    refine q_iconst rfl ?_
                    refine v_iadd (v := (i0 : Int) + 3) rfl (by omega) ?_
                    refine v_scr (j := i0 + 3) rfl (by omega) (by omega) hL hx3 ?_
                    refine v_cv rfl rfl rfl rfl (by decide) ⟨⟨rfl, rfl⟩, by decide, rfl⟩ (Nat.le_of_ble_eq_true rfl) (Nat.le_of_ble_eq_true rfl) ?_
                    refine q_aload_n rfl rfl ?_
                    refine q_iconst rfl ?_
                    refine v_pi (z := 0) rfl rfl rfl (by decide) rfl rfl rfl (by decide) ?_
                    refine q_aload_n rfl rfl ?_
                    refine q_iload_n rfl rfl ?_
                    refine q_iconst rfl ?_
                    refine v_bip rfl (by decide) ?_
                    refine q_call rfl rfl rfl rfl ?_
                    refine q_iload_n rfl rfl ?_
                    refine q_iload_n rfl rfl ?_
                    refine v_ic_lt_f (t := 14) rfl (by decide) (by omega) ?_
                    refine q_iload_n rfl rfl ?_
                    refine q_iload_n rfl rfl ?_
                    refine v_ic_gt_f (t := 14) rfl (by decide) (by omega) ?_
                    refine q_iconst rfl ?_
                    refine q_goto (t := 15) rfl (by decide) ?_
                    refine v_zret rfl rfl (by omega) ?_
                    refine bk_inl ?_
                    refine v_if_eq_f (t := 39) rfl (by decide) (by decide) ?_
                    refine q_iload_n rfl rfl ?_
                    refine q_iconst rfl ?_
                    refine v_bip rfl (by decide) ?_
                    refine q_call rfl rfl rfl rfl ?_
                    refine q_iload_n rfl rfl ?_
                    refine q_iload_n rfl rfl ?_
                    refine v_ic_lt_f (t := 14) rfl (by decide) (by omega) ?_
                    refine q_iload_n rfl rfl ?_
                    refine q_iload_n rfl rfl ?_
                    refine v_ic_gt_f (t := 14) rfl (by decide) (by omega) ?_
                    refine q_iconst rfl ?_
                    refine q_goto (t := 15) rfl (by decide) ?_
                    refine v_zret rfl rfl (by omega) ?_
                    refine bk_inl ?_
                    refine v_if_eq_f (t := 39) rfl (by decide) (by decide) ?_
                    refine q_iload_n rfl rfl ?_
                    refine q_iconst rfl ?_
                    refine q_iconst rfl ?_
                    refine q_call rfl rfl rfl rfl ?_
                    refine q_iload_n rfl rfl ?_
                    refine q_iload_n rfl rfl ?_
                    refine v_ic_lt_f (t := 14) rfl (by decide) (by omega) ?_
                    refine q_iload_n rfl rfl ?_
                    refine q_iload_n rfl rfl ?_
                    refine v_ic_gt_f (t := 14) rfl (by decide) (by omega) ?_
                    refine q_iconst rfl ?_
                    refine q_goto (t := 15) rfl (by decide) ?_
                    refine v_zret rfl rfl (by omega) ?_
                    refine bk_inl ?_
                    refine v_if_eq_f (t := 39) rfl (by decide) (by decide) ?_
                    refine q_iconst rfl ?_
                    refine q_goto (t := 40) rfl (by decide) ?_
                    refine q_iconst rfl ?_
                    refine q_iconst rfl ?_
                    refine v_cv rfl rfl rfl rfl (by decide) ⟨⟨rfl, rfl⟩, by decide, rfl⟩ (Nat.le_of_ble_eq_true rfl) (Nat.le_of_ble_eq_true rfl) ?_
                    refine q_iload_n rfl rfl ?_
                    refine v_if_ne_t (t := 26) rfl (by decide) (by decide) ?_
                    refine q_aload_n rfl rfl ?_
                    refine v_gi (z := 0) (v := 0) rfl rfl rfl (by decide) rfl rfl (up_e rfl) ?_
                    refine v_if_ne_f (t := 37) rfl (by decide) (by decide) ?_
                    refine q_iconst rfl ?_
                    refine q_goto (t := 38) rfl (by decide) ?_
                    refine v_zret rfl rfl (by omega) ?_
                    refine bk_inl ?_
                    refine v_if_ne_t (t := 50) rfl (by decide) (by decide) ?_
                    refine q_iconst rfl ?_
                    refine q_istore rfl (by decide) ?_
                    refine q_iconst rfl ?_
                    refine q_istore rfl (by decide) ?_
                    refine q_iconst rfl ?_
                    refine q_istore rfl (by decide) ?_
                    refine q_iload rfl rfl ?_
                    refine q_iconst rfl ?_
                    refine v_ic_ge_f (t := 156) rfl (by decide) (by decide) ?_
                    refine q_iload rfl rfl ?_
                    refine q_iconst rfl ?_
                    refine v_idiv (v := 0) rfl (by omega) (by decide) ?_
                    refine q_istore rfl (by decide) ?_
                    refine q_iload rfl rfl ?_
                    refine q_iconst rfl ?_
                    refine v_irem (v := 0) rfl (by omega) (by decide) ?_
                    refine q_istore rfl (by decide) ?_
                    refine Wp_ls [(8, vi 0), (7, vi 0), (6, vi 0), (5, vi (-1)), (4, vi 0), (0, .ref 41), (1, vi x1), (2, vi x2), (3, vi x3)] (lsub_cons rfl (lsub_cons rfl (lsub_cons rfl (lsub_cons rfl (lsub_cons rfl (lsub_cons rfl (lsub_cons rfl (lsub_cons rfl (lsub_cons rfl lsub_nil))))))))) ?_
                    refine q_iconst rfl ?_
                    refine q_iload rfl rfl ?_
                    refine v_isub (v := 1) rfl (by decide) ?_
                    refine q_iload rfl rfl ?_
                    refine q_iload_n rfl rfl ?_
                    refine q_iload_n rfl rfl ?_
                    refine q_call rfl rfl rfl rfl ?_
                    refine q_iload_n rfl rfl ?_
                    refine v_if_ne_t (t := 18) rfl (by decide) (by decide) ?_
                    refine q_iload_n rfl rfl ?_
                    refine q_iconst rfl ?_
                    refine v_ic_ne_t (t := 29) rfl (by decide) (by decide) ?_
                    refine q_iload_n rfl rfl ?_
                    refine q_iret rfl rfl ?_
                    refine bk_inl ?_
                    refine q_iload rfl rfl ?_
                    refine q_iload rfl rfl ?_
                    refine q_iload_n rfl rfl ?_
                    refine q_iload_n rfl rfl ?_
                    refine q_call rfl rfl rfl rfl ?_
                    refine q_iload_n rfl rfl ?_
                    refine v_if_ne_f (t := 18) rfl (by decide) (by decide) ?_
                    refine q_iload_n rfl rfl ?_
                    refine v_if_ne_f (t := 14) rfl (by decide) (by decide) ?_
                    refine q_iload_n rfl rfl ?_
                    refine q_iconst rfl ?_
                    refine v_idiv (v := (x1 / 2)) rfl (by omega) rfl ?_
                    refine q_goto (t := 30) rfl (by decide) ?_
                    refine q_iret rfl rfl ?_
                    refine bk_inl ?_
                    refine v_ic_gt_f (t := 150) rfl (by decide) (by omega) ?_
                    refine q_iconst rfl ?_
                    refine q_iload rfl rfl ?_
                    refine v_isub (v := 1) rfl (by decide) ?_
                    refine q_iload rfl rfl ?_
                    refine q_iload_n rfl rfl ?_
                    refine q_iload_n rfl rfl ?_
                    refine q_call rfl rfl rfl rfl ?_
                    refine q_iload_n rfl rfl ?_
                    refine v_if_ne_t (t := 18) rfl (by decide) (by decide) ?_
                    refine q_iload_n rfl rfl ?_
                    refine q_iconst rfl ?_
                    refine v_ic_ne_t (t := 29) rfl (by decide) (by decide) ?_
                    refine q_iload_n rfl rfl ?_
                    refine q_iret rfl rfl ?_
                    refine bk_inl ?_
                    refine q_iload rfl rfl ?_
                    refine q_iload rfl rfl ?_
                    refine q_iload_n rfl rfl ?_
                    refine q_iload_n rfl rfl ?_
                    refine q_call rfl rfl rfl rfl ?_
                    refine q_iload_n rfl rfl ?_
                    refine v_if_ne_f (t := 18) rfl (by decide) (by decide) ?_
                    refine q_iload_n rfl rfl ?_
                    refine v_if_ne_f (t := 14) rfl (by decide) (by decide) ?_
                    refine q_iload_n rfl rfl ?_
                    refine q_iconst rfl ?_
                    refine v_idiv (v := (x1 / 2)) rfl (by omega) rfl ?_
                    refine q_goto (t := 30) rfl (by decide) ?_
                    refine q_iret rfl rfl ?_
                    refine bk_inl ?_
                    refine v_ic_le_t (t := 126) rfl (by decide) (by omega) ?_
                    refine v_iinc (v := 1) rfl rfl (by decide) (by decide) ?_
                    refine q_iload rfl rfl ?_
                    refine q_iconst rfl ?_
                    refine v_ic_ne_f (t := 146) rfl (by decide) (by decide) ?_
                    refine v_bip rfl (by decide) ?_
                    refine q_iload rfl rfl ?_
                    refine v_imul (v := 0) rfl (by decide) ?_
                    refine q_iload rfl rfl ?_
                    refine v_iadd (v := 0) rfl (by decide) ?_
                    refine q_goto (t := 148) rfl (by decide) ?_
                    refine q_istore rfl (by decide) ?_
                    refine v_iinc (v := 1) rfl rfl (by decide) (by decide) ?_
                    refine q_goto (t := 59) rfl (by decide) ?_
                    refine q_iload rfl rfl ?_
                    refine q_iconst rfl ?_
                    refine v_ic_ge_f (t := 156) rfl (by decide) (by decide) ?_
                    refine q_iload rfl rfl ?_
                    refine q_iconst rfl ?_
                    refine v_idiv (v := 0) rfl (by omega) (by decide) ?_
                    refine q_istore rfl (by decide) ?_
                    refine q_iload rfl rfl ?_
                    refine q_iconst rfl ?_
                    refine v_irem (v := 1) rfl (by omega) (by decide) ?_
                    refine q_istore rfl (by decide) ?_
                    refine Wp_ls [(8, vi 1), (7, vi 0), (6, vi 1), (5, vi 0), (4, vi 1), (0, .ref 41), (1, vi x1), (2, vi x2), (3, vi x3)] (lsub_cons rfl (lsub_cons rfl (lsub_cons rfl (lsub_cons rfl (lsub_cons rfl (lsub_cons rfl (lsub_cons rfl (lsub_cons rfl (lsub_cons rfl lsub_nil))))))))) ?_
                    refine q_iconst rfl ?_
                    refine q_iload rfl rfl ?_
                    refine v_isub (v := 1) rfl (by decide) ?_
                    refine q_iload rfl rfl ?_
                    refine q_iload_n rfl rfl ?_
                    refine q_iload_n rfl rfl ?_
                    refine q_call rfl rfl rfl rfl ?_
                    refine q_iload_n rfl rfl ?_
                    refine v_if_ne_t (t := 18) rfl (by decide) (by decide) ?_
                    refine q_iload_n rfl rfl ?_
                    refine q_iconst rfl ?_
                    refine v_ic_ne_f (t := 29) rfl (by decide) (by decide) ?_
                    refine q_iload_n rfl rfl ?_
                    refine q_iconst rfl ?_
                    refine v_idiv (v := (x2 / 2)) rfl (by omega) rfl ?_
                    refine q_goto (t := 30) rfl (by decide) ?_
                    refine q_iret rfl rfl ?_
                    refine bk_inl ?_
                    refine q_iload rfl rfl ?_
                    refine q_iload rfl rfl ?_
                    refine q_iload_n rfl rfl ?_
                    refine q_iload_n rfl rfl ?_
                    refine q_call rfl rfl rfl rfl ?_
                    refine q_iload_n rfl rfl ?_
                    refine v_if_ne_f (t := 18) rfl (by decide) (by decide) ?_
                    refine q_iload_n rfl rfl ?_
                    refine v_if_ne_t (t := 14) rfl (by decide) (by decide) ?_
                    refine q_iload_n rfl rfl ?_
                    refine q_goto (t := 30) rfl (by decide) ?_
                    refine q_iret rfl rfl ?_
                    refine bk_inl ?_
                    refine v_ic_gt_f (t := 150) rfl (by decide) (by omega) ?_
                    refine q_iconst rfl ?_
                    refine q_iload rfl rfl ?_
                    refine v_isub (v := 0) rfl (by decide) ?_
                    refine q_iload rfl rfl ?_
                    refine q_iload_n rfl rfl ?_
                    refine q_iload_n rfl rfl ?_
                    refine q_call rfl rfl rfl rfl ?_
                    refine q_iload_n rfl rfl ?_
                    refine v_if_ne_f (t := 18) rfl (by decide) (by decide) ?_
                    refine q_iload_n rfl rfl ?_
                    refine v_if_ne_f (t := 14) rfl (by decide) (by decide) ?_
                    refine q_iload_n rfl rfl ?_
                    refine q_iconst rfl ?_
                    refine v_idiv (v := (x1 / 2)) rfl (by omega) rfl ?_
                    refine q_goto (t := 30) rfl (by decide) ?_
                    refine q_iret rfl rfl ?_
                    refine bk_inl ?_
                    refine q_iload rfl rfl ?_
                    refine q_iload rfl rfl ?_
                    refine q_iload_n rfl rfl ?_
                    refine q_iload_n rfl rfl ?_
                    refine q_call rfl rfl rfl rfl ?_
                    refine q_iload_n rfl rfl ?_
                    refine v_if_ne_t (t := 18) rfl (by decide) (by decide) ?_
                    refine q_iload_n rfl rfl ?_
                    refine q_iconst rfl ?_
                    refine v_ic_ne_t (t := 29) rfl (by decide) (by decide) ?_
                    refine q_iload_n rfl rfl ?_
                    refine q_iret rfl rfl ?_
                    refine bk_inl ?_
                    refine v_ic_le_t (t := 126) rfl (by decide) (by omega) ?_
                    refine v_iinc (v := 2) rfl rfl (by decide) (by decide) ?_
                    refine q_iload rfl rfl ?_
                    refine q_iconst rfl ?_
                    refine v_ic_ne_t (t := 146) rfl (by decide) (by decide) ?_
                    refine q_iload rfl rfl ?_
                    refine q_istore rfl (by decide) ?_
                    refine v_iinc (v := 2) rfl rfl (by decide) (by decide) ?_
                    refine q_goto (t := 59) rfl (by decide) ?_
                    refine q_iload rfl rfl ?_
                    refine q_iconst rfl ?_
                    refine v_ic_ge_f (t := 156) rfl (by decide) (by decide) ?_
                    refine q_iload rfl rfl ?_
                    refine q_iconst rfl ?_
                    refine v_idiv (v := 1) rfl (by omega) (by decide) ?_
                    refine q_istore rfl (by decide) ?_
                    refine q_iload rfl rfl ?_
                    refine q_iconst rfl ?_
                    refine v_irem (v := 0) rfl (by omega) (by decide) ?_
                    refine q_istore rfl (by decide) ?_
                    refine Wp_ls [(8, vi 0), (7, vi 1), (6, vi 2), (5, vi 0), (4, vi 2), (0, .ref 41), (1, vi x1), (2, vi x2), (3, vi x3)] (lsub_cons rfl (lsub_cons rfl (lsub_cons rfl (lsub_cons rfl (lsub_cons rfl (lsub_cons rfl (lsub_cons rfl (lsub_cons rfl (lsub_cons rfl lsub_nil))))))))) ?_
                    refine q_iconst rfl ?_
                    refine q_iload rfl rfl ?_
                    refine v_isub (v := 0) rfl (by decide) ?_
                    refine q_iload rfl rfl ?_
                    refine q_iload_n rfl rfl ?_
                    refine q_iload_n rfl rfl ?_
                    refine q_call rfl rfl rfl rfl ?_
                    refine q_iload_n rfl rfl ?_
                    refine v_if_ne_f (t := 18) rfl (by decide) (by decide) ?_
                    refine q_iload_n rfl rfl ?_
                    refine v_if_ne_f (t := 14) rfl (by decide) (by decide) ?_
                    refine q_iload_n rfl rfl ?_
                    refine q_iconst rfl ?_
                    refine v_idiv (v := (x1 / 2)) rfl (by omega) rfl ?_
                    refine q_goto (t := 30) rfl (by decide) ?_
                    refine q_iret rfl rfl ?_
                    refine bk_inl ?_
                    refine q_iload rfl rfl ?_
                    refine q_iload rfl rfl ?_
                    refine q_iload_n rfl rfl ?_
                    refine q_iload_n rfl rfl ?_
                    refine q_call rfl rfl rfl rfl ?_
                    refine q_iload_n rfl rfl ?_
                    refine v_if_ne_t (t := 18) rfl (by decide) (by decide) ?_
                    refine q_iload_n rfl rfl ?_
                    refine q_iconst rfl ?_
                    refine v_ic_ne_t (t := 29) rfl (by decide) (by decide) ?_
                    refine q_iload_n rfl rfl ?_
                    refine q_iret rfl rfl ?_
                    refine bk_inl ?_
                    refine v_ic_gt_f (t := 150) rfl (by decide) (by omega) ?_
                    refine q_iconst rfl ?_
                    refine q_iload rfl rfl ?_
                    refine v_isub (v := 1) rfl (by decide) ?_
                    refine q_iload rfl rfl ?_
                    refine q_iload_n rfl rfl ?_
                    refine q_iload_n rfl rfl ?_
                    refine q_call rfl rfl rfl rfl ?_
                    refine q_iload_n rfl rfl ?_
                    refine v_if_ne_t (t := 18) rfl (by decide) (by decide) ?_
                    refine q_iload_n rfl rfl ?_
                    refine q_iconst rfl ?_
                    refine v_ic_ne_f (t := 29) rfl (by decide) (by decide) ?_
                    refine q_iload_n rfl rfl ?_
                    refine q_iconst rfl ?_
                    refine v_idiv (v := (x2 / 2)) rfl (by omega) rfl ?_
                    refine q_goto (t := 30) rfl (by decide) ?_
                    refine q_iret rfl rfl ?_
                    refine bk_inl ?_
                    refine q_iload rfl rfl ?_
                    refine q_iload rfl rfl ?_
                    refine q_iload_n rfl rfl ?_
                    refine q_iload_n rfl rfl ?_
                    refine q_call rfl rfl rfl rfl ?_
                    refine q_iload_n rfl rfl ?_
                    refine v_if_ne_f (t := 18) rfl (by decide) (by decide) ?_
                    refine q_iload_n rfl rfl ?_
                    refine v_if_ne_t (t := 14) rfl (by decide) (by decide) ?_
                    refine q_iload_n rfl rfl ?_
                    refine q_goto (t := 30) rfl (by decide) ?_
                    refine q_iret rfl rfl ?_
                    refine bk_inl ?_
                    refine v_ic_le_t (t := 126) rfl (by decide) (by omega) ?_
                    refine v_iinc (v := 3) rfl rfl (by decide) (by decide) ?_
                    refine q_iload rfl rfl ?_
                    refine q_iconst rfl ?_
                    refine v_ic_ne_t (t := 146) rfl (by decide) (by decide) ?_
                    refine q_iload rfl rfl ?_
                    refine q_istore rfl (by decide) ?_
                    refine v_iinc (v := 3) rfl rfl (by decide) (by decide) ?_
                    refine q_goto (t := 59) rfl (by decide) ?_
                    refine q_iload rfl rfl ?_
                    refine q_iconst rfl ?_
                    refine v_ic_ge_f (t := 156) rfl (by decide) (by decide) ?_
                    refine q_iload rfl rfl ?_
                    refine q_iconst rfl ?_
                    refine v_idiv (v := 1) rfl (by omega) (by decide) ?_
                    refine q_istore rfl (by decide) ?_
                    refine q_iload rfl rfl ?_
                    refine q_iconst rfl ?_
                    refine v_irem (v := 1) rfl (by omega) (by decide) ?_
                    refine q_istore rfl (by decide) ?_
                    refine Wp_ls [(8, vi 1), (7, vi 1), (6, vi 3), (5, vi 0), (4, vi 3), (0, .ref 41), (1, vi x1), (2, vi x2), (3, vi x3)] (lsub_cons rfl (lsub_cons rfl (lsub_cons rfl (lsub_cons rfl (lsub_cons rfl (lsub_cons rfl (lsub_cons rfl (lsub_cons rfl (lsub_cons rfl lsub_nil))))))))) ?_
                    refine q_iconst rfl ?_
                    refine q_iload rfl rfl ?_
                    refine v_isub (v := 0) rfl (by decide) ?_
                    refine q_iload rfl rfl ?_
                    refine q_iload_n rfl rfl ?_
                    refine q_iload_n rfl rfl ?_
                    refine q_call rfl rfl rfl rfl ?_
                    refine q_iload_n rfl rfl ?_
                    refine v_if_ne_f (t := 18) rfl (by decide) (by decide) ?_
                    refine q_iload_n rfl rfl ?_
                    refine v_if_ne_t (t := 14) rfl (by decide) (by decide) ?_
                    refine q_iload_n rfl rfl ?_
                    refine q_goto (t := 30) rfl (by decide) ?_
                    refine q_iret rfl rfl ?_
                    refine bk_inl ?_
                    refine q_iload rfl rfl ?_
                    refine q_iload rfl rfl ?_
                    refine q_iload_n rfl rfl ?_
                    refine q_iload_n rfl rfl ?_
                    refine q_call rfl rfl rfl rfl ?_
                    refine q_iload_n rfl rfl ?_
                    refine v_if_ne_t (t := 18) rfl (by decide) (by decide) ?_
                    refine q_iload_n rfl rfl ?_
                    refine q_iconst rfl ?_
                    refine v_ic_ne_f (t := 29) rfl (by decide) (by decide) ?_
                    refine q_iload_n rfl rfl ?_
                    refine q_iconst rfl ?_
                    refine v_idiv (v := (x2 / 2)) rfl (by omega) rfl ?_
                    refine q_goto (t := 30) rfl (by decide) ?_
                    refine q_iret rfl rfl ?_
                    refine bk_inl ?_
                    refine v_ic_gt_t (t := 150) rfl (by decide) (by omega) ?_
                    refine v_iinc (v := 4) rfl rfl (by decide) (by decide) ?_
                    refine q_goto (t := 59) rfl (by decide) ?_
                    refine q_iload rfl rfl ?_
                    refine q_iconst rfl ?_
                    refine v_ic_ge_t (t := 156) rfl (by decide) (by decide) ?_
                    refine q_iload_n rfl rfl ?_
                    refine v_if_ne_t (t := 165) rfl (by decide) (by omega) ?_
                    refine q_iload_n rfl rfl ?_
                    refine q_iconst rfl ?_
                    refine v_ic_ne_t (t := 175) rfl (by decide) (by omega) ?_
                    refine q_iload rfl rfl ?_
                    refine q_iconst rfl ?_
                    refine v_ic_ne_t (t := 185) rfl (by decide) (by decide) ?_
                    refine q_iload rfl rfl ?_
                    refine v_bip rfl (by decide) ?_
                    refine v_idiv (v := 0) rfl (by omega) (by decide) ?_
                    refine q_iload rfl rfl ?_
                    refine v_bip rfl (by decide) ?_
                    refine v_irem (v := 0) rfl (by omega) (by decide) ?_
                    refine q_iload_n rfl rfl ?_
                    refine q_iload_n rfl rfl ?_
                    refine q_call rfl rfl rfl rfl ?_
                    refine q_iload_n rfl rfl ?_
                    refine v_if_ne_f (t := 18) rfl (by decide) (by decide) ?_
                    refine q_iload_n rfl rfl ?_
                    refine v_if_ne_f (t := 14) rfl (by decide) (by decide) ?_
                    refine q_iload_n rfl rfl ?_
                    refine q_iconst rfl ?_
                    refine v_idiv (v := (x1 / 2)) rfl (by omega) rfl ?_
                    refine q_goto (t := 30) rfl (by decide) ?_
                    refine q_iret rfl rfl ?_
                    refine bk_inl ?_
                    refine q_iload rfl rfl ?_
                    refine v_bip rfl (by decide) ?_
                    refine v_irem (v := 0) rfl (by omega) (by decide) ?_
                    refine q_iload rfl rfl ?_
                    refine v_bip rfl (by decide) ?_
                    refine v_idiv (v := 0) rfl (by omega) (by decide) ?_
                    refine q_iload_n rfl rfl ?_
                    refine q_iload_n rfl rfl ?_
                    refine q_call rfl rfl rfl rfl ?_
                    refine q_iload_n rfl rfl ?_
                    refine v_if_ne_f (t := 18) rfl (by decide) (by decide) ?_
                    refine q_iload_n rfl rfl ?_
                    refine v_if_ne_f (t := 14) rfl (by decide) (by decide) ?_
                    refine q_iload_n rfl rfl ?_
                    refine q_iconst rfl ?_
                    refine v_idiv (v := (x1 / 2)) rfl (by omega) rfl ?_
                    refine q_goto (t := 30) rfl (by decide) ?_
                    refine q_iret rfl rfl ?_
                    refine bk_inl ?_
                    refine v_iadd (v := 2 * (x1 / 2)) rfl (by omega) ?_
                    refine q_iret rfl rfl ?_
                    refine bk_inl ?_
                    refine q_istore rfl (by decide) ?_
                    refine q_aload_n rfl rfl ?_
                    refine v_cv rfl rfl rfl rfl (by decide) ⟨⟨rfl, rfl⟩, by decide, rfl⟩ (Nat.le_of_ble_eq_true rfl) (Nat.le_of_ble_eq_true rfl) ?_
                    refine q_aload_n rfl rfl ?_
                    refine v_gi (z := 0) (v := 0) rfl rfl rfl (by decide) rfl rfl (up_e rfl) ?_
                    refine q_iret rfl rfl ?_
                    refine bk_inl ?_
                    refine q_iload rfl rfl ?_
                    refine v_ic_eq_t (t := 1215) rfl (by decide) (by decide) ?_
                    refine q_iload rfl rfl ?_
                    refine v_if_ne_f (t := 1232) rfl (by decide) (by decide) ?_
                    refine q_aload_n rfl rfl ?_
                    refine q_iconst rfl ?_
                    refine v_la (v := 2 * (x1 / 2)) rfl rfl (by decide) (by decide) (by decide) ((up_c (by decide)).trans (up_e rfl)) ?_
                    refine q_iload rfl rfl ?_
                    refine v_i2l rfl (by omega) ?_
                    refine v_lcmp0 rfl (by omega) ?_
                    refine v_if_eq_t (t := 1232) rfl (by decide) (by decide) ?_
                    refine q_goto (t := 1844) rfl (by decide) ?_
                    refine Wp_ls [(4, vi (i0 : Int)), (3, .ref 67), (2, .ref 41), (1, .ref 0), (0, .ref a_SC)] (lsub_cons rfl (lsub_cons rfl (lsub_cons rfl (lsub_cons rfl (lsub_cons rfl lsub_nil))))) ?_
                    refine K (up (up c 67 0 (2 * (x1 / 2))) 41 0 0) 0 (by decide) ?_ ?_ ?_
                    · intro a j h
                      exact ((up_b (by omega)).trans (up_b (by omega)))
                    · exact Eq.trans (b := c 0 13) ((up_c (by decide)).trans (up_c (by decide))) (show _ = c 0 13 + 0 by omega)
                    · exact Eq.trans (b := c 42 1) ((up_c (by decide)).trans (up_c (by decide))) (show _ = c 42 1 + 0 by omega)
                  · refine v_ic_gt_f (t := 147) rfl (by decide) (by omega) ?_
                    refine q_iconst rfl ?_
                    refine q_iload rfl rfl ?_
                    refine v_isub (v := 0) rfl (by decide) ?_
                    refine q_iload rfl rfl ?_
                    refine q_iload_n rfl rfl ?_
                    refine q_iload_n rfl rfl ?_
                    refine q_call rfl rfl rfl rfl ?_
                    refine q_iload_n rfl rfl ?_
                    refine v_if_ne_f (t := 8) rfl (by decide) (by decide) ?_
                    refine q_iload_n rfl rfl ?_
                    refine q_goto (t := 9) rfl (by decide) ?_
                    refine q_istore rfl (by decide) ?_
                    refine q_iload_n rfl rfl ?_
                    refine q_iload_n rfl rfl ?_
                    refine v_ic_ne_t (t := 23) rfl (by decide) (by decide) ?_
                    refine q_iload rfl rfl ?_
                    refine q_iret rfl rfl ?_
                    refine bk_inl ?_
                    refine q_iload rfl rfl ?_
                    refine v_ic_gt_f (t := 147) rfl (by decide) (by omega) ?_
                    refine q_iload rfl rfl ?_
                    refine v_if_ne_t (t := 144) rfl (by decide) (by decide) ?_
                    refine v_iinc (v := 4) rfl rfl (by decide) (by decide) ?_
                    refine v_iinc (v := 4) rfl rfl (by decide) (by decide) ?_
                    refine Wp_ls [(7, vi 4), (4, vi 4), (11, vi (x2 / 2)), (10, vi (x2 / 2)), (9, vi 1), (8, vi 1), (6, vi (2 * (x1 / 2))), (5, vi 0), (0, .ref 0), (1, vi x1), (2, vi x2), (3, vi x3)] (lsub_cons rfl (lsub_cons rfl (lsub_cons rfl (lsub_cons rfl (lsub_cons rfl (lsub_cons rfl (lsub_cons rfl (lsub_cons rfl (lsub_cons rfl (lsub_cons rfl (lsub_cons rfl (lsub_cons rfl lsub_nil)))))))))))) ?_
                    refine q_goto (t := 50) rfl (by decide) ?_
                    refine q_iload rfl rfl ?_
                    refine q_iconst rfl ?_
                    refine v_ic_ge_t (t := 153) rfl (by decide) (by decide) ?_
                    refine q_iload_n rfl rfl ?_
                    by_cases h_22 : x3 = 0
                    · refine v_lsw (t := 180) (off := 26) 0 rfl (by omega) (by decide) (by decide) (by decide) (by decide) ?_
                      refine q_iload rfl rfl ?_
                      refine q_iret rfl rfl ?_
                      refine bk_inl ?_
                      refine v_i2l rfl (by omega) ?_
                      refine v_ls rfl rfl (by decide) (by decide) (by decide) ?_
                      refine q_goto (t := 19) rfl (by decide) ?_
                      refine q_iconst rfl ?_
                      refine q_iret rfl rfl ?_
                      refine bk_inl ?_
                      refine q_istore rfl (by decide) ?_
                      refine q_aload_n rfl rfl ?_
                      refine q_aload_n rfl rfl ?_
                      refine q_iload rfl rfl ?_
                      refine q_iconst rfl ?_
                      refine v_iadd (v := (i0 : Int) + 1) rfl (by omega) ?_
                      refine v_scr (j := i0 + 1) rfl (by omega) (by omega) hL hx1 ?_
                      refine q_aload_n rfl rfl ?_
                      refine q_iload rfl rfl ?_
                      refine q_iconst rfl ?_
                      refine v_iadd (v := (i0 : Int) + 2) rfl (by omega) ?_
                      refine v_scr (j := i0 + 2) rfl (by omega) (by omega) hL hx2 ?_
                      refine q_aload_n rfl rfl ?_
                      refine q_iload rfl rfl ?_
                      refine q_iconst rfl ?_
                      refine v_iadd (v := (i0 : Int) + 3) rfl (by omega) ?_
                      refine v_scr (j := i0 + 3) rfl (by omega) (by omega) hL hx3 ?_
                      refine v_cv rfl rfl rfl rfl (by decide) ⟨⟨rfl, rfl⟩, by decide, rfl⟩ (Nat.le_of_ble_eq_true rfl) (Nat.le_of_ble_eq_true rfl) ?_
                      refine q_aload_n rfl rfl ?_
                      refine q_iconst rfl ?_
                      refine v_pi (z := 0) rfl rfl rfl (by decide) rfl rfl rfl (by decide) ?_
                      refine q_aload_n rfl rfl ?_
                      refine q_iload_n rfl rfl ?_
                      refine q_iconst rfl ?_
                      refine v_bip rfl (by decide) ?_
                      refine q_call rfl rfl rfl rfl ?_
                      refine q_iload_n rfl rfl ?_
                      refine q_iload_n rfl rfl ?_
                      refine v_ic_lt_f (t := 14) rfl (by decide) (by omega) ?_
                      refine q_iload_n rfl rfl ?_
                      refine q_iload_n rfl rfl ?_
                      refine v_ic_gt_f (t := 14) rfl (by decide) (by omega) ?_
                      refine q_iconst rfl ?_
                      refine q_goto (t := 15) rfl (by decide) ?_
                      refine v_zret rfl rfl (by omega) ?_
                      refine bk_inl ?_
                      refine v_if_eq_f (t := 39) rfl (by decide) (by decide) ?_
                      refine q_iload_n rfl rfl ?_
                      refine q_iconst rfl ?_
                      refine v_bip rfl (by decide) ?_
                      refine q_call rfl rfl rfl rfl ?_
                      refine q_iload_n rfl rfl ?_
                      refine q_iload_n rfl rfl ?_
                      refine v_ic_lt_f (t := 14) rfl (by decide) (by omega) ?_
                      refine q_iload_n rfl rfl ?_
                      refine q_iload_n rfl rfl ?_
                      refine v_ic_gt_f (t := 14) rfl (by decide) (by omega) ?_
                      refine q_iconst rfl ?_
                      refine q_goto (t := 15) rfl (by decide) ?_
                      refine v_zret rfl rfl (by omega) ?_
                      refine bk_inl ?_
                      refine v_if_eq_f (t := 39) rfl (by decide) (by decide) ?_
                      refine q_iload_n rfl rfl ?_
                      refine q_iconst rfl ?_
                      refine q_iconst rfl ?_
                      refine q_call rfl rfl rfl rfl ?_
                      refine q_iload_n rfl rfl ?_
                      refine q_iload_n rfl rfl ?_
                      refine v_ic_lt_f (t := 14) rfl (by decide) (by omega) ?_
                      refine q_iload_n rfl rfl ?_
                      refine q_iload_n rfl rfl ?_
                      refine v_ic_gt_f (t := 14) rfl (by decide) (by omega) ?_
                      refine q_iconst rfl ?_
                      refine q_goto (t := 15) rfl (by decide) ?_
                      refine v_zret rfl rfl (by omega) ?_
                      refine bk_inl ?_
                      refine v_if_eq_f (t := 39) rfl (by decide) (by decide) ?_
                      refine q_iconst rfl ?_
                      refine q_goto (t := 40) rfl (by decide) ?_
                      refine q_iconst rfl ?_
                      refine q_iconst rfl ?_
                      refine v_cv rfl rfl rfl rfl (by decide) ⟨⟨rfl, rfl⟩, by decide, rfl⟩ (Nat.le_of_ble_eq_true rfl) (Nat.le_of_ble_eq_true rfl) ?_
                      refine q_iload_n rfl rfl ?_
                      refine v_if_ne_t (t := 26) rfl (by decide) (by decide) ?_
                      refine q_aload_n rfl rfl ?_
                      refine v_gi (z := 0) (v := 0) rfl rfl rfl (by decide) rfl rfl (up_e rfl) ?_
                      refine v_if_ne_f (t := 37) rfl (by decide) (by decide) ?_
                      refine q_iconst rfl ?_
                      refine q_goto (t := 38) rfl (by decide) ?_
                      refine v_zret rfl rfl (by omega) ?_
                      refine bk_inl ?_
                      refine v_if_ne_t (t := 50) rfl (by decide) (by decide) ?_
                      refine q_iconst rfl ?_
                      refine q_istore rfl (by decide) ?_
                      refine q_iconst rfl ?_
                      refine q_istore rfl (by decide) ?_
                      refine q_iconst rfl ?_
                      refine q_istore rfl (by decide) ?_
                      refine q_iload rfl rfl ?_
                      refine q_iconst rfl ?_
                      refine v_ic_ge_f (t := 156) rfl (by decide) (by decide) ?_
                      refine q_iload rfl rfl ?_
                      refine q_iconst rfl ?_
                      refine v_idiv (v := 0) rfl (by omega) (by decide) ?_
                      refine q_istore rfl (by decide) ?_
                      refine q_iload rfl rfl ?_
                      refine q_iconst rfl ?_
                      refine v_irem (v := 0) rfl (by omega) (by decide) ?_
                      refine q_istore rfl (by decide) ?_
                      refine Wp_ls [(8, vi 0), (7, vi 0), (6, vi 0), (5, vi (-1)), (4, vi 0), (0, .ref 41), (1, vi x1), (2, vi x2), (3, vi x3)] (lsub_cons rfl (lsub_cons rfl (lsub_cons rfl (lsub_cons rfl (lsub_cons rfl (lsub_cons rfl (lsub_cons rfl (lsub_cons rfl (lsub_cons rfl lsub_nil))))))))) ?_
                      refine q_iconst rfl ?_
                      refine q_iload rfl rfl ?_
                      refine v_isub (v := 1) rfl (by decide) ?_
                      refine q_iload rfl rfl ?_
                      refine q_iload_n rfl rfl ?_
                      refine q_iload_n rfl rfl ?_
                      refine q_call rfl rfl rfl rfl ?_
                      refine q_iload_n rfl rfl ?_
                      refine v_if_ne_t (t := 18) rfl (by decide) (by decide) ?_
                      refine q_iload_n rfl rfl ?_
                      refine q_iconst rfl ?_
                      refine v_ic_ne_t (t := 29) rfl (by decide) (by decide) ?_
                      refine q_iload_n rfl rfl ?_
                      refine q_iret rfl rfl ?_
                      refine bk_inl ?_
                      refine q_iload rfl rfl ?_
                      refine q_iload rfl rfl ?_
                      refine q_iload_n rfl rfl ?_
                      refine q_iload_n rfl rfl ?_
                      refine q_call rfl rfl rfl rfl ?_
                      refine q_iload_n rfl rfl ?_
                      refine v_if_ne_f (t := 18) rfl (by decide) (by decide) ?_
                      refine q_iload_n rfl rfl ?_
                      refine v_if_ne_f (t := 14) rfl (by decide) (by decide) ?_
                      refine q_iload_n rfl rfl ?_
                      refine q_iconst rfl ?_
                      refine v_idiv (v := (x1 / 2)) rfl (by omega) rfl ?_
                      refine q_goto (t := 30) rfl (by decide) ?_
                      refine q_iret rfl rfl ?_
                      refine bk_inl ?_
                      refine v_ic_gt_f (t := 150) rfl (by decide) (by omega) ?_
                      refine q_iconst rfl ?_
                      refine q_iload rfl rfl ?_
                      refine v_isub (v := 1) rfl (by decide) ?_
                      refine q_iload rfl rfl ?_
                      refine q_iload_n rfl rfl ?_
                      refine q_iload_n rfl rfl ?_
                      refine q_call rfl rfl rfl rfl ?_
                      refine q_iload_n rfl rfl ?_
                      refine v_if_ne_t (t := 18) rfl (by decide) (by decide) ?_
                      refine q_iload_n rfl rfl ?_
                      refine q_iconst rfl ?_
                      refine v_ic_ne_t (t := 29) rfl (by decide) (by decide) ?_
                      refine q_iload_n rfl rfl ?_
                      refine q_iret rfl rfl ?_
                      refine bk_inl ?_
                      refine q_iload rfl rfl ?_
                      refine q_iload rfl rfl ?_
                      refine q_iload_n rfl rfl ?_
                      refine q_iload_n rfl rfl ?_
                      refine q_call rfl rfl rfl rfl ?_
                      refine q_iload_n rfl rfl ?_
                      refine v_if_ne_f (t := 18) rfl (by decide) (by decide) ?_
                      refine q_iload_n rfl rfl ?_
                      refine v_if_ne_f (t := 14) rfl (by decide) (by decide) ?_
                      refine q_iload_n rfl rfl ?_
                      refine q_iconst rfl ?_
                      refine v_idiv (v := (x1 / 2)) rfl (by omega) rfl ?_
                      refine q_goto (t := 30) rfl (by decide) ?_
                      refine q_iret rfl rfl ?_
                      refine bk_inl ?_
                      refine v_ic_le_t (t := 126) rfl (by decide) (by omega) ?_
                      refine v_iinc (v := 1) rfl rfl (by decide) (by decide) ?_
                      refine q_iload rfl rfl ?_
                      refine q_iconst rfl ?_
                      refine v_ic_ne_f (t := 146) rfl (by decide) (by decide) ?_
                      refine v_bip rfl (by decide) ?_
                      refine q_iload rfl rfl ?_
                      refine v_imul (v := 0) rfl (by decide) ?_
                      refine q_iload rfl rfl ?_
                      refine v_iadd (v := 0) rfl (by decide) ?_
                      refine q_goto (t := 148) rfl (by decide) ?_
                      refine q_istore rfl (by decide) ?_
                      refine v_iinc (v := 1) rfl rfl (by decide) (by decide) ?_
                      refine q_goto (t := 59) rfl (by decide) ?_
                      refine q_iload rfl rfl ?_
                      refine q_iconst rfl ?_
                      refine v_ic_ge_f (t := 156) rfl (by decide) (by decide) ?_
                      refine q_iload rfl rfl ?_
                      refine q_iconst rfl ?_
                      refine v_idiv (v := 0) rfl (by omega) (by decide) ?_
                      refine q_istore rfl (by decide) ?_
                      refine q_iload rfl rfl ?_
                      refine q_iconst rfl ?_
                      refine v_irem (v := 1) rfl (by omega) (by decide) ?_
                      refine q_istore rfl (by decide) ?_
                      refine Wp_ls [(8, vi 1), (7, vi 0), (6, vi 1), (5, vi 0), (4, vi 1), (0, .ref 41), (1, vi x1), (2, vi x2), (3, vi x3)] (lsub_cons rfl (lsub_cons rfl (lsub_cons rfl (lsub_cons rfl (lsub_cons rfl (lsub_cons rfl (lsub_cons rfl (lsub_cons rfl (lsub_cons rfl lsub_nil))))))))) ?_
                      refine q_iconst rfl ?_
                      refine q_iload rfl rfl ?_
                      refine v_isub (v := 1) rfl (by decide) ?_
                      refine q_iload rfl rfl ?_
                      refine q_iload_n rfl rfl ?_
                      refine q_iload_n rfl rfl ?_
                      refine q_call rfl rfl rfl rfl ?_
                      refine q_iload_n rfl rfl ?_
                      refine v_if_ne_t (t := 18) rfl (by decide) (by decide) ?_
                      refine q_iload_n rfl rfl ?_
                      refine q_iconst rfl ?_
                      refine v_ic_ne_f (t := 29) rfl (by decide) (by decide) ?_
                      refine q_iload_n rfl rfl ?_
                      refine q_iconst rfl ?_
                      refine v_idiv (v := (x2 / 2)) rfl (by omega) rfl ?_
                      refine q_goto (t := 30) rfl (by decide) ?_
                      refine q_iret rfl rfl ?_
                      refine bk_inl ?_
                      refine q_iload rfl rfl ?_
                      refine q_iload rfl rfl ?_
                      refine q_iload_n rfl rfl ?_
                      refine q_iload_n rfl rfl ?_
                      refine q_call rfl rfl rfl rfl ?_
                      refine q_iload_n rfl rfl ?_
                      refine v_if_ne_f (t := 18) rfl (by decide) (by decide) ?_
                      refine q_iload_n rfl rfl ?_
                      refine v_if_ne_t (t := 14) rfl (by decide) (by decide) ?_
                      refine q_iload_n rfl rfl ?_
                      refine q_goto (t := 30) rfl (by decide) ?_
                      refine q_iret rfl rfl ?_
                      refine bk_inl ?_
                      refine v_ic_gt_f (t := 150) rfl (by decide) (by omega) ?_
                      refine q_iconst rfl ?_
                      refine q_iload rfl rfl ?_
                      refine v_isub (v := 0) rfl (by decide) ?_
                      refine q_iload rfl rfl ?_
                      refine q_iload_n rfl rfl ?_
                      refine q_iload_n rfl rfl ?_
                      refine q_call rfl rfl rfl rfl ?_
                      refine q_iload_n rfl rfl ?_
                      refine v_if_ne_f (t := 18) rfl (by decide) (by decide) ?_
                      refine q_iload_n rfl rfl ?_
                      refine v_if_ne_f (t := 14) rfl (by decide) (by decide) ?_
                      refine q_iload_n rfl rfl ?_
                      refine q_iconst rfl ?_
                      refine v_idiv (v := (x1 / 2)) rfl (by omega) rfl ?_
                      refine q_goto (t := 30) rfl (by decide) ?_
                      refine q_iret rfl rfl ?_
                      refine bk_inl ?_
                      refine q_iload rfl rfl ?_
                      refine q_iload rfl rfl ?_
                      refine q_iload_n rfl rfl ?_
                      refine q_iload_n rfl rfl ?_
                      refine q_call rfl rfl rfl rfl ?_
                      refine q_iload_n rfl rfl ?_
                      refine v_if_ne_t (t := 18) rfl (by decide) (by decide) ?_
                      refine q_iload_n rfl rfl ?_
                      refine q_iconst rfl ?_
                      refine v_ic_ne_t (t := 29) rfl (by decide) (by decide) ?_
                      refine q_iload_n rfl rfl ?_
                      refine q_iret rfl rfl ?_
                      refine bk_inl ?_
                      refine v_ic_le_t (t := 126) rfl (by decide) (by omega) ?_
                      refine v_iinc (v := 2) rfl rfl (by decide) (by decide) ?_
                      refine q_iload rfl rfl ?_
                      refine q_iconst rfl ?_
                      refine v_ic_ne_t (t := 146) rfl (by decide) (by decide) ?_
                      refine q_iload rfl rfl ?_
                      refine q_istore rfl (by decide) ?_
                      refine v_iinc (v := 2) rfl rfl (by decide) (by decide) ?_
                      refine q_goto (t := 59) rfl (by decide) ?_
                      refine q_iload rfl rfl ?_
                      refine q_iconst rfl ?_
                      refine v_ic_ge_f (t := 156) rfl (by decide) (by decide) ?_
                      refine q_iload rfl rfl ?_
                      refine q_iconst rfl ?_
                      refine v_idiv (v := 1) rfl (by omega) (by decide) ?_
                      refine q_istore rfl (by decide) ?_
                      refine q_iload rfl rfl ?_
                      refine q_iconst rfl ?_
                      refine v_irem (v := 0) rfl (by omega) (by decide) ?_
                      refine q_istore rfl (by decide) ?_
                      refine Wp_ls [(8, vi 0), (7, vi 1), (6, vi 2), (5, vi 0), (4, vi 2), (0, .ref 41), (1, vi x1), (2, vi x2), (3, vi x3)] (lsub_cons rfl (lsub_cons rfl (lsub_cons rfl (lsub_cons rfl (lsub_cons rfl (lsub_cons rfl (lsub_cons rfl (lsub_cons rfl (lsub_cons rfl lsub_nil))))))))) ?_
                      refine q_iconst rfl ?_
                      refine q_iload rfl rfl ?_
                      refine v_isub (v := 0) rfl (by decide) ?_
                      refine q_iload rfl rfl ?_
                      refine q_iload_n rfl rfl ?_
                      refine q_iload_n rfl rfl ?_
                      refine q_call rfl rfl rfl rfl ?_
                      refine q_iload_n rfl rfl ?_
                      refine v_if_ne_f (t := 18) rfl (by decide) (by decide) ?_
                      refine q_iload_n rfl rfl ?_
                      refine v_if_ne_f (t := 14) rfl (by decide) (by decide) ?_
                      refine q_iload_n rfl rfl ?_
                      refine q_iconst rfl ?_
                      refine v_idiv (v := (x1 / 2)) rfl (by omega) rfl ?_
                      refine q_goto (t := 30) rfl (by decide) ?_
                      refine q_iret rfl rfl ?_
                      refine bk_inl ?_
                      refine q_iload rfl rfl ?_
                      refine q_iload rfl rfl ?_
                      refine q_iload_n rfl rfl ?_
                      refine q_iload_n rfl rfl ?_
                      refine q_call rfl rfl rfl rfl ?_
                      refine q_iload_n rfl rfl ?_
                      refine v_if_ne_t (t := 18) rfl (by decide) (by decide) ?_
                      refine q_iload_n rfl rfl ?_
                      refine q_iconst rfl ?_
                      refine v_ic_ne_t (t := 29) rfl (by decide) (by decide) ?_
                      refine q_iload_n rfl rfl ?_
                      refine q_iret rfl rfl ?_
                      refine bk_inl ?_
                      refine v_ic_gt_f (t := 150) rfl (by decide) (by omega) ?_
                      refine q_iconst rfl ?_
                      refine q_iload rfl rfl ?_
                      refine v_isub (v := 1) rfl (by decide) ?_
                      refine q_iload rfl rfl ?_
                      refine q_iload_n rfl rfl ?_
                      refine q_iload_n rfl rfl ?_
                      refine q_call rfl rfl rfl rfl ?_
                      refine q_iload_n rfl rfl ?_
                      refine v_if_ne_t (t := 18) rfl (by decide) (by decide) ?_
                      refine q_iload_n rfl rfl ?_
                      refine q_iconst rfl ?_
                      refine v_ic_ne_f (t := 29) rfl (by decide) (by decide) ?_
                      refine q_iload_n rfl rfl ?_
                      refine q_iconst rfl ?_
                      refine v_idiv (v := (x2 / 2)) rfl (by omega) rfl ?_
                      refine q_goto (t := 30) rfl (by decide) ?_
                      refine q_iret rfl rfl ?_
                      refine bk_inl ?_
                      refine q_iload rfl rfl ?_
                      refine q_iload rfl rfl ?_
                      refine q_iload_n rfl rfl ?_
                      refine q_iload_n rfl rfl ?_
                      refine q_call rfl rfl rfl rfl ?_
                      refine q_iload_n rfl rfl ?_
                      refine v_if_ne_f (t := 18) rfl (by decide) (by decide) ?_
                      refine q_iload_n rfl rfl ?_
                      refine v_if_ne_t (t := 14) rfl (by decide) (by decide) ?_
                      refine q_iload_n rfl rfl ?_
                      refine q_goto (t := 30) rfl (by decide) ?_
                      refine q_iret rfl rfl ?_
                      refine bk_inl ?_
                      refine v_ic_le_t (t := 126) rfl (by decide) (by omega) ?_
                      refine v_iinc (v := 3) rfl rfl (by decide) (by decide) ?_
                      refine q_iload rfl rfl ?_
                      refine q_iconst rfl ?_
                      refine v_ic_ne_t (t := 146) rfl (by decide) (by decide) ?_
                      refine q_iload rfl rfl ?_
                      refine q_istore rfl (by decide) ?_
                      refine v_iinc (v := 3) rfl rfl (by decide) (by decide) ?_
                      refine q_goto (t := 59) rfl (by decide) ?_
                      refine q_iload rfl rfl ?_
                      refine q_iconst rfl ?_
                      refine v_ic_ge_f (t := 156) rfl (by decide) (by decide) ?_
                      refine q_iload rfl rfl ?_
                      refine q_iconst rfl ?_
                      refine v_idiv (v := 1) rfl (by omega) (by decide) ?_
                      refine q_istore rfl (by decide) ?_
                      refine q_iload rfl rfl ?_
                      refine q_iconst rfl ?_
                      refine v_irem (v := 1) rfl (by omega) (by decide) ?_
                      refine q_istore rfl (by decide) ?_
                      refine Wp_ls [(8, vi 1), (7, vi 1), (6, vi 3), (5, vi 0), (4, vi 3), (0, .ref 41), (1, vi x1), (2, vi x2), (3, vi x3)] (lsub_cons rfl (lsub_cons rfl (lsub_cons rfl (lsub_cons rfl (lsub_cons rfl (lsub_cons rfl (lsub_cons rfl (lsub_cons rfl (lsub_cons rfl lsub_nil))))))))) ?_
                      refine q_iconst rfl ?_
                      refine q_iload rfl rfl ?_
                      refine v_isub (v := 0) rfl (by decide) ?_
                      refine q_iload rfl rfl ?_
                      refine q_iload_n rfl rfl ?_
                      refine q_iload_n rfl rfl ?_
                      refine q_call rfl rfl rfl rfl ?_
                      refine q_iload_n rfl rfl ?_
                      refine v_if_ne_f (t := 18) rfl (by decide) (by decide) ?_
                      refine q_iload_n rfl rfl ?_
                      refine v_if_ne_t (t := 14) rfl (by decide) (by decide) ?_
                      refine q_iload_n rfl rfl ?_
                      refine q_goto (t := 30) rfl (by decide) ?_
                      refine q_iret rfl rfl ?_
                      refine bk_inl ?_
                      refine q_iload rfl rfl ?_
                      refine q_iload rfl rfl ?_
                      refine q_iload_n rfl rfl ?_
                      refine q_iload_n rfl rfl ?_
                      refine q_call rfl rfl rfl rfl ?_
                      refine q_iload_n rfl rfl ?_
                      refine v_if_ne_t (t := 18) rfl (by decide) (by decide) ?_
                      refine q_iload_n rfl rfl ?_
                      refine q_iconst rfl ?_
                      refine v_ic_ne_f (t := 29) rfl (by decide) (by decide) ?_
                      refine q_iload_n rfl rfl ?_
                      refine q_iconst rfl ?_
                      refine v_idiv (v := (x2 / 2)) rfl (by omega) rfl ?_
                      refine q_goto (t := 30) rfl (by decide) ?_
                      refine q_iret rfl rfl ?_
                      refine bk_inl ?_
                      refine v_ic_gt_f (t := 150) rfl (by decide) (by omega) ?_
                      refine q_iconst rfl ?_
                      refine q_iload rfl rfl ?_
                      refine v_isub (v := 0) rfl (by decide) ?_
                      refine q_iload rfl rfl ?_
                      refine q_iload_n rfl rfl ?_
                      refine q_iload_n rfl rfl ?_
                      refine q_call rfl rfl rfl rfl ?_
                      refine q_iload_n rfl rfl ?_
                      refine v_if_ne_f (t := 18) rfl (by decide) (by decide) ?_
                      refine q_iload_n rfl rfl ?_
                      refine v_if_ne_t (t := 14) rfl (by decide) (by decide) ?_
                      refine q_iload_n rfl rfl ?_
                      refine q_goto (t := 30) rfl (by decide) ?_
                      refine q_iret rfl rfl ?_
                      refine bk_inl ?_
                      refine q_iload rfl rfl ?_
                      refine q_iload rfl rfl ?_
                      refine q_iload_n rfl rfl ?_
                      refine q_iload_n rfl rfl ?_
                      refine q_call rfl rfl rfl rfl ?_
                      refine q_iload_n rfl rfl ?_
                      refine v_if_ne_t (t := 18) rfl (by decide) (by decide) ?_
                      refine q_iload_n rfl rfl ?_
                      refine q_iconst rfl ?_
                      refine v_ic_ne_f (t := 29) rfl (by decide) (by decide) ?_
                      refine q_iload_n rfl rfl ?_
                      refine q_iconst rfl ?_
                      refine v_idiv (v := (x2 / 2)) rfl (by omega) rfl ?_
                      refine q_goto (t := 30) rfl (by decide) ?_
                      refine q_iret rfl rfl ?_
                      refine bk_inl ?_
                      refine v_ic_le_t (t := 126) rfl (by decide) (by omega) ?_
                      refine v_iinc (v := 4) rfl rfl (by decide) (by decide) ?_
                      refine q_iload rfl rfl ?_
                      refine q_iconst rfl ?_
                      refine v_ic_ne_t (t := 146) rfl (by decide) (by decide) ?_
                      refine q_iload rfl rfl ?_
                      refine q_istore rfl (by decide) ?_
                      refine v_iinc (v := 4) rfl rfl (by decide) (by decide) ?_
                      refine q_goto (t := 59) rfl (by decide) ?_
                      refine q_iload rfl rfl ?_
                      refine q_iconst rfl ?_
                      refine v_ic_ge_t (t := 156) rfl (by decide) (by decide) ?_
                      refine q_iload_n rfl rfl ?_
                      refine v_if_ne_f (t := 165) rfl (by decide) (by omega) ?_
                      refine q_iload rfl rfl ?_
                      refine q_goto (t := 216) rfl (by decide) ?_
                      refine q_iret rfl rfl ?_
                      refine bk_inl ?_
                      refine q_istore rfl (by decide) ?_
                      refine q_aload_n rfl rfl ?_
                      refine v_cv rfl rfl rfl rfl (by decide) ⟨⟨rfl, rfl⟩, by decide, rfl⟩ (Nat.le_of_ble_eq_true rfl) (Nat.le_of_ble_eq_true rfl) ?_
                      refine q_aload_n rfl rfl ?_
                      refine v_gi (z := 0) (v := 0) rfl rfl rfl (by decide) rfl rfl (up_e rfl) ?_
                      refine q_iret rfl rfl ?_
                      refine bk_inl ?_
                      refine q_iload rfl rfl ?_
                      refine v_ic_eq_t (t := 1215) rfl (by decide) (by decide) ?_
                      refine q_iload rfl rfl ?_
                      refine v_if_ne_f (t := 1232) rfl (by decide) (by decide) ?_
                      refine q_aload_n rfl rfl ?_
                      refine q_iconst rfl ?_
                      refine v_la (v := 4) rfl rfl (by decide) (by decide) (by decide) ((up_c (by decide)).trans (up_e rfl)) ?_
                      refine q_iload rfl rfl ?_
                      refine v_i2l rfl (by omega) ?_
                      refine v_lcmp0 rfl (by omega) ?_
                      refine v_if_eq_t (t := 1232) rfl (by decide) (by decide) ?_
                      refine q_goto (t := 1844) rfl (by decide) ?_
                      refine Wp_ls [(4, vi (i0 : Int)), (3, .ref 67), (2, .ref 41), (1, .ref 0), (0, .ref a_SC)] (lsub_cons rfl (lsub_cons rfl (lsub_cons rfl (lsub_cons rfl (lsub_cons rfl lsub_nil))))) ?_
                      refine K (up (up c 67 0 4) 41 0 0) 0 (by decide) ?_ ?_ ?_
                      · intro a j h
                        exact ((up_b (by omega)).trans (up_b (by omega)))
                      · exact Eq.trans (b := c 0 13) ((up_c (by decide)).trans (up_c (by decide))) (show _ = c 0 13 + 0 by omega)
                      · exact Eq.trans (b := c 42 1) ((up_c (by decide)).trans (up_c (by decide))) (show _ = c 42 1 + 0 by omega)
                    by_cases h_23 : x3 = 1
                    · refine v_lsw (t := 183) (off := 29) 1 rfl (by omega) (by decide) (by decide) (by decide) (by decide) ?_
                      refine q_iload rfl rfl ?_
                      refine q_iret rfl rfl ?_
                      refine bk_inl ?_
                      refine v_i2l rfl (by omega) ?_
                      refine v_ls rfl rfl (by decide) (by decide) (by decide) ?_
                      refine q_goto (t := 19) rfl (by decide) ?_
                      refine q_iconst rfl ?_
                      refine q_iret rfl rfl ?_
                      refine bk_inl ?_
                      refine q_istore rfl (by decide) ?_
                      refine q_aload_n rfl rfl ?_
                      refine q_aload_n rfl rfl ?_
                      refine q_iload rfl rfl ?_
                      refine q_iconst rfl ?_
                      refine v_iadd (v := (i0 : Int) + 1) rfl (by omega) ?_
                      refine v_scr (j := i0 + 1) rfl (by omega) (by omega) hL hx1 ?_
                      refine q_aload_n rfl rfl ?_
                      refine q_iload rfl rfl ?_
                      refine q_iconst rfl ?_
                      refine v_iadd (v := (i0 : Int) + 2) rfl (by omega) ?_
                      refine v_scr (j := i0 + 2) rfl (by omega) (by omega) hL hx2 ?_
                      refine q_aload_n rfl rfl ?_
                      refine q_iload rfl rfl ?_
                      refine q_iconst rfl ?_
                      refine v_iadd (v := (i0 : Int) + 3) rfl (by omega) ?_
                      refine v_scr (j := i0 + 3) rfl (by omega) (by omega) hL hx3 ?_
                      refine v_cv rfl rfl rfl rfl (by decide) ⟨⟨rfl, rfl⟩, by decide, rfl⟩ (Nat.le_of_ble_eq_true rfl) (Nat.le_of_ble_eq_true rfl) ?_
                      refine q_aload_n rfl rfl ?_
                      refine q_iconst rfl ?_
                      refine v_pi (z := 0) rfl rfl rfl (by decide) rfl rfl rfl (by decide) ?_
                      refine q_aload_n rfl rfl ?_
                      refine q_iload_n rfl rfl ?_
                      refine q_iconst rfl ?_
                      refine v_bip rfl (by decide) ?_
                      refine q_call rfl rfl rfl rfl ?_
                      refine q_iload_n rfl rfl ?_
                      refine q_iload_n rfl rfl ?_
                      refine v_ic_lt_f (t := 14) rfl (by decide) (by omega) ?_
                      refine q_iload_n rfl rfl ?_
                      refine q_iload_n rfl rfl ?_
                      refine v_ic_gt_f (t := 14) rfl (by decide) (by omega) ?_
                      refine q_iconst rfl ?_
                      refine q_goto (t := 15) rfl (by decide) ?_
                      refine v_zret rfl rfl (by omega) ?_
                      refine bk_inl ?_
                      refine v_if_eq_f (t := 39) rfl (by decide) (by decide) ?_
                      refine q_iload_n rfl rfl ?_
                      refine q_iconst rfl ?_
                      refine v_bip rfl (by decide) ?_
                      refine q_call rfl rfl rfl rfl ?_
                      refine q_iload_n rfl rfl ?_
                      refine q_iload_n rfl rfl ?_
                      refine v_ic_lt_f (t := 14) rfl (by decide) (by omega) ?_
                      refine q_iload_n rfl rfl ?_
                      refine q_iload_n rfl rfl ?_
                      refine v_ic_gt_f (t := 14) rfl (by decide) (by omega) ?_
                      refine q_iconst rfl ?_
                      refine q_goto (t := 15) rfl (by decide) ?_
                      refine v_zret rfl rfl (by omega) ?_
                      refine bk_inl ?_
                      refine v_if_eq_f (t := 39) rfl (by decide) (by decide) ?_
                      refine q_iload_n rfl rfl ?_
                      refine q_iconst rfl ?_
                      refine q_iconst rfl ?_
                      refine q_call rfl rfl rfl rfl ?_
                      refine q_iload_n rfl rfl ?_
                      refine q_iload_n rfl rfl ?_
                      refine v_ic_lt_f (t := 14) rfl (by decide) (by omega) ?_
                      refine q_iload_n rfl rfl ?_
                      refine q_iload_n rfl rfl ?_
                      refine v_ic_gt_f (t := 14) rfl (by decide) (by omega) ?_
                      refine q_iconst rfl ?_
                      refine q_goto (t := 15) rfl (by decide) ?_
                      refine v_zret rfl rfl (by omega) ?_
                      refine bk_inl ?_
                      refine v_if_eq_f (t := 39) rfl (by decide) (by decide) ?_
                      refine q_iconst rfl ?_
                      refine q_goto (t := 40) rfl (by decide) ?_
                      refine q_iconst rfl ?_
                      refine q_iconst rfl ?_
                      refine v_cv rfl rfl rfl rfl (by decide) ⟨⟨rfl, rfl⟩, by decide, rfl⟩ (Nat.le_of_ble_eq_true rfl) (Nat.le_of_ble_eq_true rfl) ?_
                      refine q_iload_n rfl rfl ?_
                      refine v_if_ne_t (t := 26) rfl (by decide) (by decide) ?_
                      refine q_aload_n rfl rfl ?_
                      refine v_gi (z := 0) (v := 0) rfl rfl rfl (by decide) rfl rfl (up_e rfl) ?_
                      refine v_if_ne_f (t := 37) rfl (by decide) (by decide) ?_
                      refine q_iconst rfl ?_
                      refine q_goto (t := 38) rfl (by decide) ?_
                      refine v_zret rfl rfl (by omega) ?_
                      refine bk_inl ?_
                      refine v_if_ne_t (t := 50) rfl (by decide) (by decide) ?_
                      refine q_iconst rfl ?_
                      refine q_istore rfl (by decide) ?_
                      refine q_iconst rfl ?_
                      refine q_istore rfl (by decide) ?_
                      refine q_iconst rfl ?_
                      refine q_istore rfl (by decide) ?_
                      refine q_iload rfl rfl ?_
                      refine q_iconst rfl ?_
                      refine v_ic_ge_f (t := 156) rfl (by decide) (by decide) ?_
                      refine q_iload rfl rfl ?_
                      refine q_iconst rfl ?_
                      refine v_idiv (v := 0) rfl (by omega) (by decide) ?_
                      refine q_istore rfl (by decide) ?_
                      refine q_iload rfl rfl ?_
                      refine q_iconst rfl ?_
                      refine v_irem (v := 0) rfl (by omega) (by decide) ?_
                      refine q_istore rfl (by decide) ?_
                      refine Wp_ls [(8, vi 0), (7, vi 0), (6, vi 0), (5, vi (-1)), (4, vi 0), (0, .ref 41), (1, vi x1), (2, vi x2), (3, vi x3)] (lsub_cons rfl (lsub_cons rfl (lsub_cons rfl (lsub_cons rfl (lsub_cons rfl (lsub_cons rfl (lsub_cons rfl (lsub_cons rfl (lsub_cons rfl lsub_nil))))))))) ?_
                      refine q_iconst rfl ?_
                      refine q_iload rfl rfl ?_
                      refine v_isub (v := 1) rfl (by decide) ?_
                      refine q_iload rfl rfl ?_
                      refine q_iload_n rfl rfl ?_
                      refine q_iload_n rfl rfl ?_
                      refine q_call rfl rfl rfl rfl ?_
                      refine q_iload_n rfl rfl ?_
                      refine v_if_ne_t (t := 18) rfl (by decide) (by decide) ?_
                      refine q_iload_n rfl rfl ?_
                      refine q_iconst rfl ?_
                      refine v_ic_ne_t (t := 29) rfl (by decide) (by decide) ?_
                      refine q_iload_n rfl rfl ?_
                      refine q_iret rfl rfl ?_
                      refine bk_inl ?_
                      refine q_iload rfl rfl ?_
                      refine q_iload rfl rfl ?_
                      refine q_iload_n rfl rfl ?_
                      refine q_iload_n rfl rfl ?_
                      refine q_call rfl rfl rfl rfl ?_
                      refine q_iload_n rfl rfl ?_
                      refine v_if_ne_f (t := 18) rfl (by decide) (by decide) ?_
                      refine q_iload_n rfl rfl ?_
                      refine v_if_ne_f (t := 14) rfl (by decide) (by decide) ?_
                      refine q_iload_n rfl rfl ?_
                      refine q_iconst rfl ?_
                      refine v_idiv (v := (x1 / 2)) rfl (by omega) rfl ?_
                      refine q_goto (t := 30) rfl (by decide) ?_
                      refine q_iret rfl rfl ?_
                      refine bk_inl ?_
                      refine v_ic_gt_f (t := 150) rfl (by decide) (by omega) ?_
                      refine q_iconst rfl ?_
                      refine q_iload rfl rfl ?_
                      refine v_isub (v := 1) rfl (by decide) ?_
                      refine q_iload rfl rfl ?_
                      refine q_iload_n rfl rfl ?_
                      refine q_iload_n rfl rfl ?_
                      refine q_call rfl rfl rfl rfl ?_
                      refine q_iload_n rfl rfl ?_
                      refine v_if_ne_t (t := 18) rfl (by decide) (by decide) ?_
                      refine q_iload_n rfl rfl ?_
                      refine q_iconst rfl ?_
                      refine v_ic_ne_t (t := 29) rfl (by decide) (by decide) ?_
                      refine q_iload_n rfl rfl ?_
                      refine q_iret rfl rfl ?_
                      refine bk_inl ?_
                      refine q_iload rfl rfl ?_
                      refine q_iload rfl rfl ?_
                      refine q_iload_n rfl rfl ?_
                      refine q_iload_n rfl rfl ?_
                      refine q_call rfl rfl rfl rfl ?_
                      refine q_iload_n rfl rfl ?_
                      refine v_if_ne_f (t := 18) rfl (by decide) (by decide) ?_
                      refine q_iload_n rfl rfl ?_
                      refine v_if_ne_f (t := 14) rfl (by decide) (by decide) ?_
                      refine q_iload_n rfl rfl ?_
                      refine q_iconst rfl ?_
                      refine v_idiv (v := (x1 / 2)) rfl (by omega) rfl ?_
                      refine q_goto (t := 30) rfl (by decide) ?_
                      refine q_iret rfl rfl ?_
                      refine bk_inl ?_
                      refine v_ic_le_t (t := 126) rfl (by decide) (by omega) ?_
                      refine v_iinc (v := 1) rfl rfl (by decide) (by decide) ?_
                      refine q_iload rfl rfl ?_
                      refine q_iconst rfl ?_
                      refine v_ic_ne_f (t := 146) rfl (by decide) (by decide) ?_
                      refine v_bip rfl (by decide) ?_
                      refine q_iload rfl rfl ?_
                      refine v_imul (v := 0) rfl (by decide) ?_
                      refine q_iload rfl rfl ?_
                      refine v_iadd (v := 0) rfl (by decide) ?_
                      refine q_goto (t := 148) rfl (by decide) ?_
                      refine q_istore rfl (by decide) ?_
                      refine v_iinc (v := 1) rfl rfl (by decide) (by decide) ?_
                      refine q_goto (t := 59) rfl (by decide) ?_
                      refine q_iload rfl rfl ?_
                      refine q_iconst rfl ?_
                      refine v_ic_ge_f (t := 156) rfl (by decide) (by decide) ?_
                      refine q_iload rfl rfl ?_
                      refine q_iconst rfl ?_
                      refine v_idiv (v := 0) rfl (by omega) (by decide) ?_
                      refine q_istore rfl (by decide) ?_
                      refine q_iload rfl rfl ?_
                      refine q_iconst rfl ?_
                      refine v_irem (v := 1) rfl (by omega) (by decide) ?_
                      refine q_istore rfl (by decide) ?_
                      refine Wp_ls [(8, vi 1), (7, vi 0), (6, vi 1), (5, vi 0), (4, vi 1), (0, .ref 41), (1, vi x1), (2, vi x2), (3, vi x3)] (lsub_cons rfl (lsub_cons rfl (lsub_cons rfl (lsub_cons rfl (lsub_cons rfl (lsub_cons rfl (lsub_cons rfl (lsub_cons rfl (lsub_cons rfl lsub_nil))))))))) ?_
                      refine q_iconst rfl ?_
                      refine q_iload rfl rfl ?_
                      refine v_isub (v := 1) rfl (by decide) ?_
                      refine q_iload rfl rfl ?_
                      refine q_iload_n rfl rfl ?_
                      refine q_iload_n rfl rfl ?_
                      refine q_call rfl rfl rfl rfl ?_
                      refine q_iload_n rfl rfl ?_
                      refine v_if_ne_t (t := 18) rfl (by decide) (by decide) ?_
                      refine q_iload_n rfl rfl ?_
                      refine q_iconst rfl ?_
                      refine v_ic_ne_f (t := 29) rfl (by decide) (by decide) ?_
                      refine q_iload_n rfl rfl ?_
                      refine q_iconst rfl ?_
                      refine v_idiv (v := (x2 / 2)) rfl (by omega) rfl ?_
                      refine q_goto (t := 30) rfl (by decide) ?_
                      refine q_iret rfl rfl ?_
                      refine bk_inl ?_
                      refine q_iload rfl rfl ?_
                      refine q_iload rfl rfl ?_
                      refine q_iload_n rfl rfl ?_
                      refine q_iload_n rfl rfl ?_
                      refine q_call rfl rfl rfl rfl ?_
                      refine q_iload_n rfl rfl ?_
                      refine v_if_ne_f (t := 18) rfl (by decide) (by decide) ?_
                      refine q_iload_n rfl rfl ?_
                      refine v_if_ne_t (t := 14) rfl (by decide) (by decide) ?_
                      refine q_iload_n rfl rfl ?_
                      refine q_goto (t := 30) rfl (by decide) ?_
                      refine q_iret rfl rfl ?_
                      refine bk_inl ?_
                      refine v_ic_gt_f (t := 150) rfl (by decide) (by omega) ?_
                      refine q_iconst rfl ?_
                      refine q_iload rfl rfl ?_
                      refine v_isub (v := 0) rfl (by decide) ?_
                      refine q_iload rfl rfl ?_
                      refine q_iload_n rfl rfl ?_
                      refine q_iload_n rfl rfl ?_
                      refine q_call rfl rfl rfl rfl ?_
                      refine q_iload_n rfl rfl ?_
                      refine v_if_ne_f (t := 18) rfl (by decide) (by decide) ?_
                      refine q_iload_n rfl rfl ?_
                      refine v_if_ne_f (t := 14) rfl (by decide) (by decide) ?_
                      refine q_iload_n rfl rfl ?_
                      refine q_iconst rfl ?_
                      refine v_idiv (v := (x1 / 2)) rfl (by omega) rfl ?_
                      refine q_goto (t := 30) rfl (by decide) ?_
                      refine q_iret rfl rfl ?_
                      refine bk_inl ?_
                      refine q_iload rfl rfl ?_
                      refine q_iload rfl rfl ?_
                      refine q_iload_n rfl rfl ?_
                      refine q_iload_n rfl rfl ?_
                      refine q_call rfl rfl rfl rfl ?_
                      refine q_iload_n rfl rfl ?_
                      refine v_if_ne_t (t := 18) rfl (by decide) (by decide) ?_
                      refine q_iload_n rfl rfl ?_
                      refine q_iconst rfl ?_
                      refine v_ic_ne_t (t := 29) rfl (by decide) (by decide) ?_
                      refine q_iload_n rfl rfl ?_
                      refine q_iret rfl rfl ?_
                      refine bk_inl ?_
                      refine v_ic_le_t (t := 126) rfl (by decide) (by omega) ?_
                      refine v_iinc (v := 2) rfl rfl (by decide) (by decide) ?_
                      refine q_iload rfl rfl ?_
                      refine q_iconst rfl ?_
                      refine v_ic_ne_t (t := 146) rfl (by decide) (by decide) ?_
                      refine q_iload rfl rfl ?_
                      refine q_istore rfl (by decide) ?_
                      refine v_iinc (v := 2) rfl rfl (by decide) (by decide) ?_
                      refine q_goto (t := 59) rfl (by decide) ?_
                      refine q_iload rfl rfl ?_
                      refine q_iconst rfl ?_
                      refine v_ic_ge_f (t := 156) rfl (by decide) (by decide) ?_
                      refine q_iload rfl rfl ?_
                      refine q_iconst rfl ?_
                      refine v_idiv (v := 1) rfl (by omega) (by decide) ?_
                      refine q_istore rfl (by decide) ?_
                      refine q_iload rfl rfl ?_
                      refine q_iconst rfl ?_
                      refine v_irem (v := 0) rfl (by omega) (by decide) ?_
                      refine q_istore rfl (by decide) ?_
                      refine Wp_ls [(8, vi 0), (7, vi 1), (6, vi 2), (5, vi 0), (4, vi 2), (0, .ref 41), (1, vi x1), (2, vi x2), (3, vi x3)] (lsub_cons rfl (lsub_cons rfl (lsub_cons rfl (lsub_cons rfl (lsub_cons rfl (lsub_cons rfl (lsub_cons rfl (lsub_cons rfl (lsub_cons rfl lsub_nil))))))))) ?_
                      refine q_iconst rfl ?_
                      refine q_iload rfl rfl ?_
                      refine v_isub (v := 0) rfl (by decide) ?_
                      refine q_iload rfl rfl ?_
                      refine q_iload_n rfl rfl ?_
                      refine q_iload_n rfl rfl ?_
                      refine q_call rfl rfl rfl rfl ?_
                      refine q_iload_n rfl rfl ?_
                      refine v_if_ne_f (t := 18) rfl (by decide) (by decide) ?_
                      refine q_iload_n rfl rfl ?_
                      refine v_if_ne_f (t := 14) rfl (by decide) (by decide) ?_
                      refine q_iload_n rfl rfl ?_
                      refine q_iconst rfl ?_
                      refine v_idiv (v := (x1 / 2)) rfl (by omega) rfl ?_
                      refine q_goto (t := 30) rfl (by decide) ?_
                      refine q_iret rfl rfl ?_
                      refine bk_inl ?_
                      refine q_iload rfl rfl ?_
                      refine q_iload rfl rfl ?_
                      refine q_iload_n rfl rfl ?_
                      refine q_iload_n rfl rfl ?_
                      refine q_call rfl rfl rfl rfl ?_
                      refine q_iload_n rfl rfl ?_
                      refine v_if_ne_t (t := 18) rfl (by decide) (by decide) ?_
                      refine q_iload_n rfl rfl ?_
                      refine q_iconst rfl ?_
                      refine v_ic_ne_t (t := 29) rfl (by decide) (by decide) ?_
                      refine q_iload_n rfl rfl ?_
                      refine q_iret rfl rfl ?_
                      refine bk_inl ?_
                      refine v_ic_gt_f (t := 150) rfl (by decide) (by omega) ?_
                      refine q_iconst rfl ?_
                      refine q_iload rfl rfl ?_
                      refine v_isub (v := 1) rfl (by decide) ?_
                      refine q_iload rfl rfl ?_
                      refine q_iload_n rfl rfl ?_
                      refine q_iload_n rfl rfl ?_
                      refine q_call rfl rfl rfl rfl ?_
                      refine q_iload_n rfl rfl ?_
                      refine v_if_ne_t (t := 18) rfl (by decide) (by decide) ?_
                      refine q_iload_n rfl rfl ?_
                      refine q_iconst rfl ?_
                      refine v_ic_ne_f (t := 29) rfl (by decide) (by decide) ?_
                      refine q_iload_n rfl rfl ?_
                      refine q_iconst rfl ?_
                      refine v_idiv (v := (x2 / 2)) rfl (by omega) rfl ?_
                      refine q_goto (t := 30) rfl (by decide) ?_
                      refine q_iret rfl rfl ?_
                      refine bk_inl ?_
                      refine q_iload rfl rfl ?_
                      refine q_iload rfl rfl ?_
                      refine q_iload_n rfl rfl ?_
                      refine q_iload_n rfl rfl ?_
                      refine q_call rfl rfl rfl rfl ?_
                      refine q_iload_n rfl rfl ?_
                      refine v_if_ne_f (t := 18) rfl (by decide) (by decide) ?_
                      refine q_iload_n rfl rfl ?_
                      refine v_if_ne_t (t := 14) rfl (by decide) (by decide) ?_
                      refine q_iload_n rfl rfl ?_
                      refine q_goto (t := 30) rfl (by decide) ?_
                      refine q_iret rfl rfl ?_
                      refine bk_inl ?_
                      refine v_ic_le_t (t := 126) rfl (by decide) (by omega) ?_
                      refine v_iinc (v := 3) rfl rfl (by decide) (by decide) ?_
                      refine q_iload rfl rfl ?_
                      refine q_iconst rfl ?_
                      refine v_ic_ne_t (t := 146) rfl (by decide) (by decide) ?_
                      refine q_iload rfl rfl ?_
                      refine q_istore rfl (by decide) ?_
                      refine v_iinc (v := 3) rfl rfl (by decide) (by decide) ?_
                      refine q_goto (t := 59) rfl (by decide) ?_
                      refine q_iload rfl rfl ?_
                      refine q_iconst rfl ?_
                      refine v_ic_ge_f (t := 156) rfl (by decide) (by decide) ?_
                      refine q_iload rfl rfl ?_
                      refine q_iconst rfl ?_
                      refine v_idiv (v := 1) rfl (by omega) (by decide) ?_
                      refine q_istore rfl (by decide) ?_
                      refine q_iload rfl rfl ?_
                      refine q_iconst rfl ?_
                      refine v_irem (v := 1) rfl (by omega) (by decide) ?_
                      refine q_istore rfl (by decide) ?_
                      refine Wp_ls [(8, vi 1), (7, vi 1), (6, vi 3), (5, vi 0), (4, vi 3), (0, .ref 41), (1, vi x1), (2, vi x2), (3, vi x3)] (lsub_cons rfl (lsub_cons rfl (lsub_cons rfl (lsub_cons rfl (lsub_cons rfl (lsub_cons rfl (lsub_cons rfl (lsub_cons rfl (lsub_cons rfl lsub_nil))))))))) ?_
                      refine q_iconst rfl ?_
                      refine q_iload rfl rfl ?_
                      refine v_isub (v := 0) rfl (by decide) ?_
                      refine q_iload rfl rfl ?_
                      refine q_iload_n rfl rfl ?_
                      refine q_iload_n rfl rfl ?_
                      refine q_call rfl rfl rfl rfl ?_
                      refine q_iload_n rfl rfl ?_
                      refine v_if_ne_f (t := 18) rfl (by decide) (by decide) ?_
                      refine q_iload_n rfl rfl ?_
                      refine v_if_ne_t (t := 14) rfl (by decide) (by decide) ?_
                      refine q_iload_n rfl rfl ?_
                      refine q_goto (t := 30) rfl (by decide) ?_
                      refine q_iret rfl rfl ?_
                      refine bk_inl ?_
                      refine q_iload rfl rfl ?_
                      refine q_iload rfl rfl ?_
                      refine q_iload_n rfl rfl ?_
                      refine q_iload_n rfl rfl ?_
                      refine q_call rfl rfl rfl rfl ?_
                      refine q_iload_n rfl rfl ?_
                      refine v_if_ne_t (t := 18) rfl (by decide) (by decide) ?_
                      refine q_iload_n rfl rfl ?_
                      refine q_iconst rfl ?_
                      refine v_ic_ne_f (t := 29) rfl (by decide) (by decide) ?_
                      refine q_iload_n rfl rfl ?_
                      refine q_iconst rfl ?_
                      refine v_idiv (v := (x2 / 2)) rfl (by omega) rfl ?_
                      refine q_goto (t := 30) rfl (by decide) ?_
                      refine q_iret rfl rfl ?_
                      refine bk_inl ?_
                      refine v_ic_gt_f (t := 150) rfl (by decide) (by omega) ?_
                      refine q_iconst rfl ?_
                      refine q_iload rfl rfl ?_
                      refine v_isub (v := 0) rfl (by decide) ?_
                      refine q_iload rfl rfl ?_
                      refine q_iload_n rfl rfl ?_
                      refine q_iload_n rfl rfl ?_
                      refine q_call rfl rfl rfl rfl ?_
                      refine q_iload_n rfl rfl ?_
                      refine v_if_ne_f (t := 18) rfl (by decide) (by decide) ?_
                      refine q_iload_n rfl rfl ?_
                      refine v_if_ne_t (t := 14) rfl (by decide) (by decide) ?_
                      refine q_iload_n rfl rfl ?_
                      refine q_goto (t := 30) rfl (by decide) ?_
                      refine q_iret rfl rfl ?_
                      refine bk_inl ?_
                      refine q_iload rfl rfl ?_
                      refine q_iload rfl rfl ?_
                      refine q_iload_n rfl rfl ?_
                      refine q_iload_n rfl rfl ?_
                      refine q_call rfl rfl rfl rfl ?_
                      refine q_iload_n rfl rfl ?_
                      refine v_if_ne_t (t := 18) rfl (by decide) (by decide) ?_
                      refine q_iload_n rfl rfl ?_
                      refine q_iconst rfl ?_
                      refine v_ic_ne_f (t := 29) rfl (by decide) (by decide) ?_
                      refine q_iload_n rfl rfl ?_
                      refine q_iconst rfl ?_
                      refine v_idiv (v := (x2 / 2)) rfl (by omega) rfl ?_
                      refine q_goto (t := 30) rfl (by decide) ?_
                      refine q_iret rfl rfl ?_
                      refine bk_inl ?_
                      refine v_ic_le_t (t := 126) rfl (by decide) (by omega) ?_
                      refine v_iinc (v := 4) rfl rfl (by decide) (by decide) ?_
                      refine q_iload rfl rfl ?_
                      refine q_iconst rfl ?_
                      refine v_ic_ne_t (t := 146) rfl (by decide) (by decide) ?_
                      refine q_iload rfl rfl ?_
                      refine q_istore rfl (by decide) ?_
                      refine v_iinc (v := 4) rfl rfl (by decide) (by decide) ?_
                      refine q_goto (t := 59) rfl (by decide) ?_
                      refine q_iload rfl rfl ?_
                      refine q_iconst rfl ?_
                      refine v_ic_ge_t (t := 156) rfl (by decide) (by decide) ?_
                      refine q_iload_n rfl rfl ?_
                      refine v_if_ne_t (t := 165) rfl (by decide) (by omega) ?_
                      refine q_iload_n rfl rfl ?_
                      refine q_iconst rfl ?_
                      refine v_ic_ne_f (t := 175) rfl (by decide) (by omega) ?_
                      refine q_iload rfl rfl ?_
                      refine q_goto (t := 216) rfl (by decide) ?_
                      refine q_iret rfl rfl ?_
                      refine bk_inl ?_
                      refine q_istore rfl (by decide) ?_
                      refine q_aload_n rfl rfl ?_
                      refine v_cv rfl rfl rfl rfl (by decide) ⟨⟨rfl, rfl⟩, by decide, rfl⟩ (Nat.le_of_ble_eq_true rfl) (Nat.le_of_ble_eq_true rfl) ?_
                      refine q_aload_n rfl rfl ?_
                      refine v_gi (z := 0) (v := 0) rfl rfl rfl (by decide) rfl rfl (up_e rfl) ?_
                      refine q_iret rfl rfl ?_
                      refine bk_inl ?_
                      refine q_iload rfl rfl ?_
                      refine v_ic_eq_t (t := 1215) rfl (by decide) (by decide) ?_
                      refine q_iload rfl rfl ?_
                      refine v_if_ne_f (t := 1232) rfl (by decide) (by decide) ?_
                      refine q_aload_n rfl rfl ?_
                      refine q_iconst rfl ?_
                      refine v_la (v := 0) rfl rfl (by decide) (by decide) (by decide) ((up_c (by decide)).trans (up_e rfl)) ?_
                      refine q_iload rfl rfl ?_
                      refine v_i2l rfl (by omega) ?_
                      refine v_lcmp0 rfl (by omega) ?_
                      refine v_if_eq_t (t := 1232) rfl (by decide) (by decide) ?_
                      refine q_goto (t := 1844) rfl (by decide) ?_
                      refine Wp_ls [(4, vi (i0 : Int)), (3, .ref 67), (2, .ref 41), (1, .ref 0), (0, .ref a_SC)] (lsub_cons rfl (lsub_cons rfl (lsub_cons rfl (lsub_cons rfl (lsub_cons rfl lsub_nil))))) ?_
                      refine K (up (up c 67 0 0) 41 0 0) 0 (by decide) ?_ ?_ ?_
                      · intro a j h
                        exact ((up_b (by omega)).trans (up_b (by omega)))
                      · exact Eq.trans (b := c 0 13) ((up_c (by decide)).trans (up_c (by decide))) (show _ = c 0 13 + 0 by omega)
                      · exact Eq.trans (b := c 42 1) ((up_c (by decide)).trans (up_c (by decide))) (show _ = c 42 1 + 0 by omega)
                    refine v_lsw_o (t := 186) rfl (by omega) (by decide) (by simp [Op.lookupswitch.offset, Ne.symm (show x3 ≠ 0 by omega), Ne.symm (show x3 ≠ 1 by omega)]) (by decide) ?_
                    refine q_iload rfl rfl ?_
                    refine q_iret rfl rfl ?_
                    refine bk_inl ?_
                    refine v_i2l rfl (by omega) ?_
                    refine v_ls rfl rfl (by decide) (by decide) (by decide) ?_
                    refine q_goto (t := 19) rfl (by decide) ?_
                    refine q_iconst rfl ?_
                    refine q_iret rfl rfl ?_
                    refine bk_inl ?_
                    refine q_istore rfl (by decide) ?_
                    refine q_aload_n rfl rfl ?_
                    refine q_aload_n rfl rfl ?_
                    refine q_iload rfl rfl ?_
                    refine q_iconst rfl ?_
                    refine v_iadd (v := (i0 : Int) + 1) rfl (by omega) ?_
                    refine v_scr (j := i0 + 1) rfl (by omega) (by omega) hL hx1 ?_
                    refine q_aload_n rfl rfl ?_
                    refine q_iload rfl rfl ?_
                    refine q_iconst rfl ?_
                    refine v_iadd (v := (i0 : Int) + 2) rfl (by omega) ?_
                    refine v_scr (j := i0 + 2) rfl (by omega) (by omega) hL hx2 ?_
                    refine q_aload_n rfl rfl ?_
                    refine q_iload rfl rfl ?_
                    refine q_iconst rfl ?_
                    refine v_iadd (v := (i0 : Int) + 3) rfl (by omega) ?_
                    refine v_scr (j := i0 + 3) rfl (by omega) (by omega) hL hx3 ?_
                    refine v_cv rfl rfl rfl rfl (by decide) ⟨⟨rfl, rfl⟩, by decide, rfl⟩ (Nat.le_of_ble_eq_true rfl) (Nat.le_of_ble_eq_true rfl) ?_
                    refine q_aload_n rfl rfl ?_
                    refine q_iconst rfl ?_
                    refine v_pi (z := 0) rfl rfl rfl (by decide) rfl rfl rfl (by decide) ?_
                    refine q_aload_n rfl rfl ?_
                    refine q_iload_n rfl rfl ?_
                    refine q_iconst rfl ?_
                    refine v_bip rfl (by decide) ?_
                    refine q_call rfl rfl rfl rfl ?_
                    refine q_iload_n rfl rfl ?_
                    refine q_iload_n rfl rfl ?_
                    refine v_ic_lt_f (t := 14) rfl (by decide) (by omega) ?_
                    refine q_iload_n rfl rfl ?_
                    refine q_iload_n rfl rfl ?_
                    refine v_ic_gt_f (t := 14) rfl (by decide) (by omega) ?_
                    refine q_iconst rfl ?_
                    refine q_goto (t := 15) rfl (by decide) ?_
                    refine v_zret rfl rfl (by omega) ?_
                    refine bk_inl ?_
                    refine v_if_eq_f (t := 39) rfl (by decide) (by decide) ?_
                    refine q_iload_n rfl rfl ?_
                    refine q_iconst rfl ?_
                    refine v_bip rfl (by decide) ?_
                    refine q_call rfl rfl rfl rfl ?_
                    refine q_iload_n rfl rfl ?_
                    refine q_iload_n rfl rfl ?_
                    refine v_ic_lt_f (t := 14) rfl (by decide) (by omega) ?_
                    refine q_iload_n rfl rfl ?_
                    refine q_iload_n rfl rfl ?_
                    refine v_ic_gt_f (t := 14) rfl (by decide) (by omega) ?_
                    refine q_iconst rfl ?_
                    refine q_goto (t := 15) rfl (by decide) ?_
                    refine v_zret rfl rfl (by omega) ?_
                    refine bk_inl ?_
                    refine v_if_eq_f (t := 39) rfl (by decide) (by decide) ?_
                    refine q_iload_n rfl rfl ?_
                    refine q_iconst rfl ?_
                    refine q_iconst rfl ?_
                    refine q_call rfl rfl rfl rfl ?_
                    refine q_iload_n rfl rfl ?_
                    refine q_iload_n rfl rfl ?_
                    refine v_ic_lt_f (t := 14) rfl (by decide) (by omega) ?_
                    refine q_iload_n rfl rfl ?_
                    refine q_iload_n rfl rfl ?_
                    refine v_ic_gt_f (t := 14) rfl (by decide) (by omega) ?_
                    refine q_iconst rfl ?_
                    refine q_goto (t := 15) rfl (by decide) ?_
                    refine v_zret rfl rfl (by omega) ?_
                    refine bk_inl ?_
                    refine v_if_eq_f (t := 39) rfl (by decide) (by decide) ?_
                    refine q_iconst rfl ?_
                    refine q_goto (t := 40) rfl (by decide) ?_
                    refine q_iconst rfl ?_
                    refine q_iconst rfl ?_
                    refine v_cv rfl rfl rfl rfl (by decide) ⟨⟨rfl, rfl⟩, by decide, rfl⟩ (Nat.le_of_ble_eq_true rfl) (Nat.le_of_ble_eq_true rfl) ?_
                    refine q_iload_n rfl rfl ?_
                    refine v_if_ne_t (t := 26) rfl (by decide) (by decide) ?_
                    refine q_aload_n rfl rfl ?_
                    refine v_gi (z := 0) (v := 0) rfl rfl rfl (by decide) rfl rfl (up_e rfl) ?_
                    refine v_if_ne_f (t := 37) rfl (by decide) (by decide) ?_
                    refine q_iconst rfl ?_
                    refine q_goto (t := 38) rfl (by decide) ?_
                    refine v_zret rfl rfl (by omega) ?_
                    refine bk_inl ?_
                    refine v_if_ne_t (t := 50) rfl (by decide) (by decide) ?_
                    refine q_iconst rfl ?_
                    refine q_istore rfl (by decide) ?_
                    refine q_iconst rfl ?_
                    refine q_istore rfl (by decide) ?_
                    refine q_iconst rfl ?_
                    refine q_istore rfl (by decide) ?_
                    refine q_iload rfl rfl ?_
                    refine q_iconst rfl ?_
                    refine v_ic_ge_f (t := 156) rfl (by decide) (by decide) ?_
                    refine q_iload rfl rfl ?_
                    refine q_iconst rfl ?_
                    refine v_idiv (v := 0) rfl (by omega) (by decide) ?_
                    refine q_istore rfl (by decide) ?_
                    refine q_iload rfl rfl ?_
                    refine q_iconst rfl ?_
                    refine v_irem (v := 0) rfl (by omega) (by decide) ?_
                    refine q_istore rfl (by decide) ?_
                    refine Wp_ls [(8, vi 0), (7, vi 0), (6, vi 0), (5, vi (-1)), (4, vi 0), (0, .ref 41), (1, vi x1), (2, vi x2), (3, vi x3)] (lsub_cons rfl (lsub_cons rfl (lsub_cons rfl (lsub_cons rfl (lsub_cons rfl (lsub_cons rfl (lsub_cons rfl (lsub_cons rfl (lsub_cons rfl lsub_nil))))))))) ?_
                    refine q_iconst rfl ?_
                    refine q_iload rfl rfl ?_
                    refine v_isub (v := 1) rfl (by decide) ?_
                    refine q_iload rfl rfl ?_
                    refine q_iload_n rfl rfl ?_
                    refine q_iload_n rfl rfl ?_
                    refine q_call rfl rfl rfl rfl ?_
                    refine q_iload_n rfl rfl ?_
                    refine v_if_ne_t (t := 18) rfl (by decide) (by decide) ?_
                    refine q_iload_n rfl rfl ?_
                    refine q_iconst rfl ?_
                    refine v_ic_ne_t (t := 29) rfl (by decide) (by decide) ?_
                    refine q_iload_n rfl rfl ?_
                    refine q_iret rfl rfl ?_
                    refine bk_inl ?_
                    refine q_iload rfl rfl ?_
                    refine q_iload rfl rfl ?_
                    refine q_iload_n rfl rfl ?_
                    refine q_iload_n rfl rfl ?_
                    refine q_call rfl rfl rfl rfl ?_
                    refine q_iload_n rfl rfl ?_
                    refine v_if_ne_f (t := 18) rfl (by decide) (by decide) ?_
                    refine q_iload_n rfl rfl ?_
                    refine v_if_ne_f (t := 14) rfl (by decide) (by decide) ?_
                    refine q_iload_n rfl rfl ?_
                    refine q_iconst rfl ?_
                    refine v_idiv (v := (x1 / 2)) rfl (by omega) rfl ?_
                    refine q_goto (t := 30) rfl (by decide) ?_
                    refine q_iret rfl rfl ?_
                    refine bk_inl ?_
                    refine v_ic_gt_f (t := 150) rfl (by decide) (by omega) ?_
                    refine q_iconst rfl ?_
                    refine q_iload rfl rfl ?_
                    refine v_isub (v := 1) rfl (by decide) ?_
                    refine q_iload rfl rfl ?_
                    refine q_iload_n rfl rfl ?_
                    refine q_iload_n rfl rfl ?_
                    refine q_call rfl rfl rfl rfl ?_
                    refine q_iload_n rfl rfl ?_
                    refine v_if_ne_t (t := 18) rfl (by decide) (by decide) ?_
                    refine q_iload_n rfl rfl ?_
                    refine q_iconst rfl ?_
                    refine v_ic_ne_t (t := 29) rfl (by decide) (by decide) ?_
                    refine q_iload_n rfl rfl ?_
                    refine q_iret rfl rfl ?_
                    refine bk_inl ?_
                    refine q_iload rfl rfl ?_
                    refine q_iload rfl rfl ?_
                    refine q_iload_n rfl rfl ?_
                    refine q_iload_n rfl rfl ?_
                    refine q_call rfl rfl rfl rfl ?_
                    refine q_iload_n rfl rfl ?_
                    refine v_if_ne_f (t := 18) rfl (by decide) (by decide) ?_
                    refine q_iload_n rfl rfl ?_
                    refine v_if_ne_f (t := 14) rfl (by decide) (by decide) ?_
                    refine q_iload_n rfl rfl ?_
                    refine q_iconst rfl ?_
                    refine v_idiv (v := (x1 / 2)) rfl (by omega) rfl ?_
                    refine q_goto (t := 30) rfl (by decide) ?_
                    refine q_iret rfl rfl ?_
                    refine bk_inl ?_
                    refine v_ic_le_t (t := 126) rfl (by decide) (by omega) ?_
                    refine v_iinc (v := 1) rfl rfl (by decide) (by decide) ?_
                    refine q_iload rfl rfl ?_
                    refine q_iconst rfl ?_
                    refine v_ic_ne_f (t := 146) rfl (by decide) (by decide) ?_
                    refine v_bip rfl (by decide) ?_
                    refine q_iload rfl rfl ?_
                    refine v_imul (v := 0) rfl (by decide) ?_
                    refine q_iload rfl rfl ?_
                    refine v_iadd (v := 0) rfl (by decide) ?_
                    refine q_goto (t := 148) rfl (by decide) ?_
                    refine q_istore rfl (by decide) ?_
                    refine v_iinc (v := 1) rfl rfl (by decide) (by decide) ?_
                    refine q_goto (t := 59) rfl (by decide) ?_
                    refine q_iload rfl rfl ?_
                    refine q_iconst rfl ?_
                    refine v_ic_ge_f (t := 156) rfl (by decide) (by decide) ?_
                    refine q_iload rfl rfl ?_
                    refine q_iconst rfl ?_
                    refine v_idiv (v := 0) rfl (by omega) (by decide) ?_
                    refine q_istore rfl (by decide) ?_
                    refine q_iload rfl rfl ?_
                    refine q_iconst rfl ?_
                    refine v_irem (v := 1) rfl (by omega) (by decide) ?_
                    refine q_istore rfl (by decide) ?_
                    refine Wp_ls [(8, vi 1), (7, vi 0), (6, vi 1), (5, vi 0), (4, vi 1), (0, .ref 41), (1, vi x1), (2, vi x2), (3, vi x3)] (lsub_cons rfl (lsub_cons rfl (lsub_cons rfl (lsub_cons rfl (lsub_cons rfl (lsub_cons rfl (lsub_cons rfl (lsub_cons rfl (lsub_cons rfl lsub_nil))))))))) ?_
                    refine q_iconst rfl ?_
                    refine q_iload rfl rfl ?_
                    refine v_isub (v := 1) rfl (by decide) ?_
                    refine q_iload rfl rfl ?_
                    refine q_iload_n rfl rfl ?_
                    refine q_iload_n rfl rfl ?_
                    refine q_call rfl rfl rfl rfl ?_
                    refine q_iload_n rfl rfl ?_
                    refine v_if_ne_t (t := 18) rfl (by decide) (by decide) ?_
                    refine q_iload_n rfl rfl ?_
                    refine q_iconst rfl ?_
                    refine v_ic_ne_f (t := 29) rfl (by decide) (by decide) ?_
                    refine q_iload_n rfl rfl ?_
                    refine q_iconst rfl ?_
                    refine v_idiv (v := (x2 / 2)) rfl (by omega) rfl ?_
                    refine q_goto (t := 30) rfl (by decide) ?_
                    refine q_iret rfl rfl ?_
                    refine bk_inl ?_
                    refine q_iload rfl rfl ?_
                    refine q_iload rfl rfl ?_
                    refine q_iload_n rfl rfl ?_
                    refine q_iload_n rfl rfl ?_
                    refine q_call rfl rfl rfl rfl ?_
                    refine q_iload_n rfl rfl ?_
                    refine v_if_ne_f (t := 18) rfl (by decide) (by decide) ?_
                    refine q_iload_n rfl rfl ?_
                    refine v_if_ne_t (t := 14) rfl (by decide) (by decide) ?_
                    refine q_iload_n rfl rfl ?_
                    refine q_goto (t := 30) rfl (by decide) ?_
                    refine q_iret rfl rfl ?_
                    refine bk_inl ?_
                    refine v_ic_gt_f (t := 150) rfl (by decide) (by omega) ?_
                    refine q_iconst rfl ?_
                    refine q_iload rfl rfl ?_
                    refine v_isub (v := 0) rfl (by decide) ?_
                    refine q_iload rfl rfl ?_
                    refine q_iload_n rfl rfl ?_
                    refine q_iload_n rfl rfl ?_
                    refine q_call rfl rfl rfl rfl ?_
                    refine q_iload_n rfl rfl ?_
                    refine v_if_ne_f (t := 18) rfl (by decide) (by decide) ?_
                    refine q_iload_n rfl rfl ?_
                    refine v_if_ne_f (t := 14) rfl (by decide) (by decide) ?_
                    refine q_iload_n rfl rfl ?_
                    refine q_iconst rfl ?_
                    refine v_idiv (v := (x1 / 2)) rfl (by omega) rfl ?_
                    refine q_goto (t := 30) rfl (by decide) ?_
                    refine q_iret rfl rfl ?_
                    refine bk_inl ?_
                    refine q_iload rfl rfl ?_
                    refine q_iload rfl rfl ?_
                    refine q_iload_n rfl rfl ?_
                    refine q_iload_n rfl rfl ?_
                    refine q_call rfl rfl rfl rfl ?_
                    refine q_iload_n rfl rfl ?_
                    refine v_if_ne_t (t := 18) rfl (by decide) (by decide) ?_
                    refine q_iload_n rfl rfl ?_
                    refine q_iconst rfl ?_
                    refine v_ic_ne_t (t := 29) rfl (by decide) (by decide) ?_
                    refine q_iload_n rfl rfl ?_
                    refine q_iret rfl rfl ?_
                    refine bk_inl ?_
                    refine v_ic_le_t (t := 126) rfl (by decide) (by omega) ?_
                    refine v_iinc (v := 2) rfl rfl (by decide) (by decide) ?_
                    refine q_iload rfl rfl ?_
                    refine q_iconst rfl ?_
                    refine v_ic_ne_t (t := 146) rfl (by decide) (by decide) ?_
                    refine q_iload rfl rfl ?_
                    refine q_istore rfl (by decide) ?_
                    refine v_iinc (v := 2) rfl rfl (by decide) (by decide) ?_
                    refine q_goto (t := 59) rfl (by decide) ?_
                    refine q_iload rfl rfl ?_
                    refine q_iconst rfl ?_
                    refine v_ic_ge_f (t := 156) rfl (by decide) (by decide) ?_
                    refine q_iload rfl rfl ?_
                    refine q_iconst rfl ?_
                    refine v_idiv (v := 1) rfl (by omega) (by decide) ?_
                    refine q_istore rfl (by decide) ?_
                    refine q_iload rfl rfl ?_
                    refine q_iconst rfl ?_
                    refine v_irem (v := 0) rfl (by omega) (by decide) ?_
                    refine q_istore rfl (by decide) ?_
                    refine Wp_ls [(8, vi 0), (7, vi 1), (6, vi 2), (5, vi 0), (4, vi 2), (0, .ref 41), (1, vi x1), (2, vi x2), (3, vi x3)] (lsub_cons rfl (lsub_cons rfl (lsub_cons rfl (lsub_cons rfl (lsub_cons rfl (lsub_cons rfl (lsub_cons rfl (lsub_cons rfl (lsub_cons rfl lsub_nil))))))))) ?_
                    refine q_iconst rfl ?_
                    refine q_iload rfl rfl ?_
                    refine v_isub (v := 0) rfl (by decide) ?_
                    refine q_iload rfl rfl ?_
                    refine q_iload_n rfl rfl ?_
                    refine q_iload_n rfl rfl ?_
                    refine q_call rfl rfl rfl rfl ?_
                    refine q_iload_n rfl rfl ?_
                    refine v_if_ne_f (t := 18) rfl (by decide) (by decide) ?_
                    refine q_iload_n rfl rfl ?_
                    refine v_if_ne_f (t := 14) rfl (by decide) (by decide) ?_
                    refine q_iload_n rfl rfl ?_
                    refine q_iconst rfl ?_
                    refine v_idiv (v := (x1 / 2)) rfl (by omega) rfl ?_
                    refine q_goto (t := 30) rfl (by decide) ?_
                    refine q_iret rfl rfl ?_
                    refine bk_inl ?_
                    refine q_iload rfl rfl ?_
                    refine q_iload rfl rfl ?_
                    refine q_iload_n rfl rfl ?_
                    refine q_iload_n rfl rfl ?_
                    refine q_call rfl rfl rfl rfl ?_
                    refine q_iload_n rfl rfl ?_
                    refine v_if_ne_t (t := 18) rfl (by decide) (by decide) ?_
                    refine q_iload_n rfl rfl ?_
                    refine q_iconst rfl ?_
                    refine v_ic_ne_t (t := 29) rfl (by decide) (by decide) ?_
                    refine q_iload_n rfl rfl ?_
                    refine q_iret rfl rfl ?_
                    refine bk_inl ?_
                    refine v_ic_gt_f (t := 150) rfl (by decide) (by omega) ?_
                    refine q_iconst rfl ?_
                    refine q_iload rfl rfl ?_
                    refine v_isub (v := 1) rfl (by decide) ?_
                    refine q_iload rfl rfl ?_
                    refine q_iload_n rfl rfl ?_
                    refine q_iload_n rfl rfl ?_
                    refine q_call rfl rfl rfl rfl ?_
                    refine q_iload_n rfl rfl ?_
                    refine v_if_ne_t (t := 18) rfl (by decide) (by decide) ?_
                    refine q_iload_n rfl rfl ?_
                    refine q_iconst rfl ?_
                    refine v_ic_ne_f (t := 29) rfl (by decide) (by decide) ?_
                    refine q_iload_n rfl rfl ?_
                    refine q_iconst rfl ?_
                    refine v_idiv (v := (x2 / 2)) rfl (by omega) rfl ?_
                    refine q_goto (t := 30) rfl (by decide) ?_
                    refine q_iret rfl rfl ?_
                    refine bk_inl ?_
                    refine q_iload rfl rfl ?_
                    refine q_iload rfl rfl ?_
                    refine q_iload_n rfl rfl ?_
                    refine q_iload_n rfl rfl ?_
                    refine q_call rfl rfl rfl rfl ?_
                    refine q_iload_n rfl rfl ?_
                    refine v_if_ne_f (t := 18) rfl (by decide) (by decide) ?_
                    refine q_iload_n rfl rfl ?_
                    refine v_if_ne_t (t := 14) rfl (by decide) (by decide) ?_
                    refine q_iload_n rfl rfl ?_
                    refine q_goto (t := 30) rfl (by decide) ?_
                    refine q_iret rfl rfl ?_
                    refine bk_inl ?_
                    refine v_ic_le_t (t := 126) rfl (by decide) (by omega) ?_
                    refine v_iinc (v := 3) rfl rfl (by decide) (by decide) ?_
                    refine q_iload rfl rfl ?_
                    refine q_iconst rfl ?_
                    refine v_ic_ne_t (t := 146) rfl (by decide) (by decide) ?_
                    refine q_iload rfl rfl ?_
                    refine q_istore rfl (by decide) ?_
                    refine v_iinc (v := 3) rfl rfl (by decide) (by decide) ?_
                    refine q_goto (t := 59) rfl (by decide) ?_
                    refine q_iload rfl rfl ?_
                    refine q_iconst rfl ?_
                    refine v_ic_ge_f (t := 156) rfl (by decide) (by decide) ?_
                    refine q_iload rfl rfl ?_
                    refine q_iconst rfl ?_
                    refine v_idiv (v := 1) rfl (by omega) (by decide) ?_
                    refine q_istore rfl (by decide) ?_
                    refine q_iload rfl rfl ?_
                    refine q_iconst rfl ?_
                    refine v_irem (v := 1) rfl (by omega) (by decide) ?_
                    refine q_istore rfl (by decide) ?_
                    refine Wp_ls [(8, vi 1), (7, vi 1), (6, vi 3), (5, vi 0), (4, vi 3), (0, .ref 41), (1, vi x1), (2, vi x2), (3, vi x3)] (lsub_cons rfl (lsub_cons rfl (lsub_cons rfl (lsub_cons rfl (lsub_cons rfl (lsub_cons rfl (lsub_cons rfl (lsub_cons rfl (lsub_cons rfl lsub_nil))))))))) ?_
                    refine q_iconst rfl ?_
                    refine q_iload rfl rfl ?_
                    refine v_isub (v := 0) rfl (by decide) ?_
                    refine q_iload rfl rfl ?_
                    refine q_iload_n rfl rfl ?_
                    refine q_iload_n rfl rfl ?_
                    refine q_call rfl rfl rfl rfl ?_
                    refine q_iload_n rfl rfl ?_
                    refine v_if_ne_f (t := 18) rfl (by decide) (by decide) ?_
                    refine q_iload_n rfl rfl ?_
                    refine v_if_ne_t (t := 14) rfl (by decide) (by decide) ?_
                    refine q_iload_n rfl rfl ?_
                    refine q_goto (t := 30) rfl (by decide) ?_
                    refine q_iret rfl rfl ?_
                    refine bk_inl ?_
                    refine q_iload rfl rfl ?_
                    refine q_iload rfl rfl ?_
                    refine q_iload_n rfl rfl ?_
                    refine q_iload_n rfl rfl ?_
                    refine q_call rfl rfl rfl rfl ?_
                    refine q_iload_n rfl rfl ?_
                    refine v_if_ne_t (t := 18) rfl (by decide) (by decide) ?_
                    refine q_iload_n rfl rfl ?_
                    refine q_iconst rfl ?_
                    refine v_ic_ne_f (t := 29) rfl (by decide) (by decide) ?_
                    refine q_iload_n rfl rfl ?_
                    refine q_iconst rfl ?_
                    refine v_idiv (v := (x2 / 2)) rfl (by omega) rfl ?_
                    refine q_goto (t := 30) rfl (by decide) ?_
                    refine q_iret rfl rfl ?_
                    refine bk_inl ?_
                    refine v_ic_gt_f (t := 150) rfl (by decide) (by omega) ?_
                    refine q_iconst rfl ?_
                    refine q_iload rfl rfl ?_
                    refine v_isub (v := 0) rfl (by decide) ?_
                    refine q_iload rfl rfl ?_
                    refine q_iload_n rfl rfl ?_
                    refine q_iload_n rfl rfl ?_
                    refine q_call rfl rfl rfl rfl ?_
                    refine q_iload_n rfl rfl ?_
                    refine v_if_ne_f (t := 18) rfl (by decide) (by decide) ?_
                    refine q_iload_n rfl rfl ?_
                    refine v_if_ne_t (t := 14) rfl (by decide) (by decide) ?_
                    refine q_iload_n rfl rfl ?_
                    refine q_goto (t := 30) rfl (by decide) ?_
                    refine q_iret rfl rfl ?_
                    refine bk_inl ?_
                    refine q_iload rfl rfl ?_
                    refine q_iload rfl rfl ?_
                    refine q_iload_n rfl rfl ?_
                    refine q_iload_n rfl rfl ?_
                    refine q_call rfl rfl rfl rfl ?_
                    refine q_iload_n rfl rfl ?_
                    refine v_if_ne_t (t := 18) rfl (by decide) (by decide) ?_
                    refine q_iload_n rfl rfl ?_
                    refine q_iconst rfl ?_
                    refine v_ic_ne_f (t := 29) rfl (by decide) (by decide) ?_
                    refine q_iload_n rfl rfl ?_
                    refine q_iconst rfl ?_
                    refine v_idiv (v := (x2 / 2)) rfl (by omega) rfl ?_
                    refine q_goto (t := 30) rfl (by decide) ?_
                    refine q_iret rfl rfl ?_
                    refine bk_inl ?_
                    refine v_ic_le_t (t := 126) rfl (by decide) (by omega) ?_
                    refine v_iinc (v := 4) rfl rfl (by decide) (by decide) ?_
                    refine q_iload rfl rfl ?_
                    refine q_iconst rfl ?_
                    refine v_ic_ne_t (t := 146) rfl (by decide) (by decide) ?_
                    refine q_iload rfl rfl ?_
                    refine q_istore rfl (by decide) ?_
                    refine v_iinc (v := 4) rfl rfl (by decide) (by decide) ?_
                    refine q_goto (t := 59) rfl (by decide) ?_
                    refine q_iload rfl rfl ?_
                    refine q_iconst rfl ?_
                    refine v_ic_ge_t (t := 156) rfl (by decide) (by decide) ?_
                    refine q_iload_n rfl rfl ?_
                    refine v_if_ne_t (t := 165) rfl (by decide) (by omega) ?_
                    refine q_iload_n rfl rfl ?_
                    refine q_iconst rfl ?_
                    refine v_ic_ne_t (t := 175) rfl (by decide) (by omega) ?_
                    refine q_iload rfl rfl ?_
                    refine q_iconst rfl ?_
                    refine v_ic_ne_t (t := 185) rfl (by decide) (by decide) ?_
                    refine q_iload rfl rfl ?_
                    refine v_bip rfl (by decide) ?_
                    refine v_idiv (v := 0) rfl (by omega) (by decide) ?_
                    refine q_iload rfl rfl ?_
                    refine v_bip rfl (by decide) ?_
                    refine v_irem (v := 0) rfl (by omega) (by decide) ?_
                    refine q_iload_n rfl rfl ?_
                    refine q_iload_n rfl rfl ?_
                    refine q_call rfl rfl rfl rfl ?_
                    refine q_iload_n rfl rfl ?_
                    refine v_if_ne_f (t := 18) rfl (by decide) (by decide) ?_
                    refine q_iload_n rfl rfl ?_
                    refine v_if_ne_f (t := 14) rfl (by decide) (by decide) ?_
                    refine q_iload_n rfl rfl ?_
                    refine q_iconst rfl ?_
                    refine v_idiv (v := (x1 / 2)) rfl (by omega) rfl ?_
                    refine q_goto (t := 30) rfl (by decide) ?_
                    refine q_iret rfl rfl ?_
                    refine bk_inl ?_
                    refine q_iload rfl rfl ?_
                    refine v_bip rfl (by decide) ?_
                    refine v_irem (v := 0) rfl (by omega) (by decide) ?_
                    refine q_iload rfl rfl ?_
                    refine v_bip rfl (by decide) ?_
                    refine v_idiv (v := 0) rfl (by omega) (by decide) ?_
                    refine q_iload_n rfl rfl ?_
                    refine q_iload_n rfl rfl ?_
                    refine q_call rfl rfl rfl rfl ?_
                    refine q_iload_n rfl rfl ?_
                    refine v_if_ne_f (t := 18) rfl (by decide) (by decide) ?_
                    refine q_iload_n rfl rfl ?_
                    refine v_if_ne_f (t := 14) rfl (by decide) (by decide) ?_
                    refine q_iload_n rfl rfl ?_
                    refine q_iconst rfl ?_
                    refine v_idiv (v := (x1 / 2)) rfl (by omega) rfl ?_
                    refine q_goto (t := 30) rfl (by decide) ?_
                    refine q_iret rfl rfl ?_
                    refine bk_inl ?_
                    refine v_iadd (v := 2 * (x1 / 2)) rfl (by omega) ?_
                    refine q_iret rfl rfl ?_
                    refine bk_inl ?_
                    refine q_istore rfl (by decide) ?_
                    refine q_aload_n rfl rfl ?_
                    refine v_cv rfl rfl rfl rfl (by decide) ⟨⟨rfl, rfl⟩, by decide, rfl⟩ (Nat.le_of_ble_eq_true rfl) (Nat.le_of_ble_eq_true rfl) ?_
                    refine q_aload_n rfl rfl ?_
                    refine v_gi (z := 0) (v := 0) rfl rfl rfl (by decide) rfl rfl (up_e rfl) ?_
                    refine q_iret rfl rfl ?_
                    refine bk_inl ?_
                    refine q_iload rfl rfl ?_
                    refine v_ic_eq_t (t := 1215) rfl (by decide) (by decide) ?_
                    refine q_iload rfl rfl ?_
                    refine v_if_ne_f (t := 1232) rfl (by decide) (by decide) ?_
                    refine q_aload_n rfl rfl ?_
                    refine q_iconst rfl ?_
                    refine v_la (v := 2 * (x1 / 2)) rfl rfl (by decide) (by decide) (by decide) ((up_c (by decide)).trans (up_e rfl)) ?_
                    refine q_iload rfl rfl ?_
                    refine v_i2l rfl (by omega) ?_
                    refine v_lcmp0 rfl (by omega) ?_
                    refine v_if_eq_t (t := 1232) rfl (by decide) (by decide) ?_
                    refine q_goto (t := 1844) rfl (by decide) ?_
                    refine Wp_ls [(4, vi (i0 : Int)), (3, .ref 67), (2, .ref 41), (1, .ref 0), (0, .ref a_SC)] (lsub_cons rfl (lsub_cons rfl (lsub_cons rfl (lsub_cons rfl (lsub_cons rfl lsub_nil))))) ?_
                    refine K (up (up c 67 0 (2 * (x1 / 2))) 41 0 0) 0 (by decide) ?_ ?_ ?_
                    · intro a j h
                      exact ((up_b (by omega)).trans (up_b (by omega)))
                    · exact Eq.trans (b := c 0 13) ((up_c (by decide)).trans (up_c (by decide))) (show _ = c 0 13 + 0 by omega)
                    · exact Eq.trans (b := c 42 1) ((up_c (by decide)).trans (up_c (by decide))) (show _ = c 42 1 + 0 by omega)
theorem o_23 {xs : Nat → Int32} {L i0 d nc ns P Q : Nat} {c : ME} {Z : AR → Prop} (hi : i0 + 8 ≤ L) (hL : L ≤ 100000) (hI : Iv 0 (-1) P Q c) (K : ∀ (P2 Q2 : Nat) (c2 : ME) (e : Nat), e ≤ 1 → Iv 0 (-1) P2 Q2 c2 → Wp (a_scr L xs) (d + 90) 296 1844 [(4, vi (i0 : Int)), (3, .ref 67), (2, .ref 41), (1, .ref 0), (0, .ref a_SC)] [] (Wd P2 Q2 P2 P2 c2) (nc + e) (ns + 6 * e) Z) : Wp (a_scr L xs) (d + 90) 296 1155 [(4, vi (i0 : Int)), (3, .ref 67), (2, .ref 41), (1, .ref 0), (0, .ref a_SC)] [] (Wd P Q P P c) nc ns Z := by
  refine op_23g (d := d + 70) hi hL (fun c2 e he hF h1 h2 => ?_)
  rw [wd_nrm (c := c2) (a := 0) (j := 13) (fun n h => by cases (show (Sum.inr _ : CK) = Sum.inl (2, n) from h)), wd_nrm (c := up c2 0 13 (wr (c2 0 13))) (a := 42) (j := 1) (fun n h => by cases (show (Sum.inl (0, 2) : CK) = Sum.inl (2, n) from h)), wd_nrm (c := up (up c2 0 13 (wr (c2 0 13))) 42 1 (wr (up c2 0 13 (wr (c2 0 13)) 42 1))) (a := 41) (j := 0) (fun n h => by cases (show (Sum.inr _ : CK) = Sum.inl (2, n) from h))]
  exact K P Q _ e he (iv_fit hI (fun a j h => hF a j (by omega)) _ _ _)
