/-! ===== contracts 15 ===== -/
set_option maxRecDepth 100000 in
set_option maxHeartbeats 4000000 in
theorem s_188 {sc : List Int32} {d P Q : Nat} {c : ME} {a1 : Int} {a2 : Int} {Z : AR → Prop} (hI : Iv 0 (-1) P Q c) (ha1 : 0 ≤ a1 ∧ a1 ≤ 3) (ha2 : 0 ≤ a2 ∧ a2 ≤ 5) (K : ∀ (c2 : ME) (y : Int), Iv 0 (-1) P Q c2 → (∀ (a : Nat) (j : Int), ¬ (a = 59) → c2 a j = c a j) → 0 ≤ y ∧ y ≤ 1 → Z (.inl (some (vi y)), Wd P Q P P c2, 0, 0)) : Wp sc (d + 8) 188 0 [(0, .ref 41), (1, vi a1), (2, vi a2)] [] (Wd P Q P P c) 0 0 Z := by
  have hP := iv_P hI
  have hQ := iv_Q hI
  have hIo : Iv 59 (-1) P Q c := iv_open hI
  have hsum_1 := ir_59_r hI (by decide) (j := a2) (by omega)
  have h_2 := ir_59_g hI (j := 4 * a2) (by omega)
  have h_3 := ir_59_g hI (j := 4 * a2 + 1) (by omega)
  have h_4 := ir_59_g hI (j := 4 * a2 + 2) (by omega)
  have h_5 := ir_59_g hI (j := 4 * a2 + 3) (by omega)
  refine q_aload_n rfl rfl ?_
  refine q_iload_n rfl rfl ?_
  refine v_cv rfl rfl rfl rfl (by decide) ⟨⟨rfl, rfl⟩, by decide, rfl⟩ (Nat.le_of_ble_eq_true rfl) (Nat.le_of_ble_eq_true rfl) (s_187 (v1 := c 59 (4 * a2)) (v2 := c 59 (4 * a2 + 1)) (v3 := c 59 (4 * a2 + 2)) (v4 := c 59 (4 * a2 + 3)) (r := c 59 (4 * a2 + 1) + c 59 (4 * a2 + 2) + c 59 (4 * a2 + 3) + c 59 (4 * a2)) (a1 := a2) hIo (show 0 ≤ a2 ∧ a2 ≤ 5 from ha2) (rfl) (rfl) (rfl) (rfl) (by omega) ?_)
  refine bk_inl ?_
  by_cases h_6 : c 59 (4 * a2 + 1) + c 59 (4 * a2 + 2) + c 59 (4 * a2 + 3) + c 59 (4 * a2) ≠ 0
  · refine v_if_ne_t (t := 10) rfl (by decide) ⟨h_6, ⟨by omega, by omega⟩, by decide, by decide⟩ ?_
    refine q_iconst rfl ?_
    refine q_istore_n rfl (by decide) ?_
    refine q_iload_n rfl rfl ?_
    refine q_iconst rfl ?_
    refine v_ic_ge_f (t := 83) rfl (by decide) (by decide) ?_
    refine q_aload_n rfl rfl ?_
    refine v_gr (t := 59) rfl rfl rfl (by decide) rfl ?_
    refine q_iconst rfl ?_
    refine q_iload_n rfl rfl ?_
    refine v_imul (v := 4 * a2) rfl rfl ?_
    refine q_iload_n rfl rfl ?_
    refine v_iadd (v := 4 * a2 + 1) rfl rfl ?_
    refine v_ia (v := c 59 (4 * a2 + 1)) rfl rfl (by decide) (by decide) (by omega) rfl ?_
    refine q_aload_n rfl rfl ?_
    refine v_gr (t := 48) rfl rfl rfl (by decide) rfl ?_
    refine q_iconst rfl ?_
    refine q_iload_n rfl rfl ?_
    refine v_imul (v := 3 * a1) rfl rfl ?_
    refine q_iload_n rfl rfl ?_
    refine v_iadd (v := 3 * a1 + 1) rfl rfl ?_
    refine q_iconst rfl ?_
    refine v_isub (v := 3 * a1) rfl (by first | (clear ha1 ha2 h_2 h_3 h_4 h_5 h_6; omega) | omega) ?_
    have h_7 := ir_48 hI (3 * a1)
    refine v_ia (v := c 48 (3 * a1)) rfl rfl (by decide) (by decide) (by omega) rfl ?_
    have h_8 : 0 ≤ (c 59 (4 * a2 + 1)) * (c 48 (3 * a1)) ∧ (c 59 (4 * a2 + 1)) * (c 48 (3 * a1)) ≤ 10 * (c 59 (4 * a2 + 1)) := mul_bd (by omega) (by omega) (by omega)
    have h_9 : 0 ≤ (c 59 (4 * a2 + 1)) * (c 48 (3 * a1)) ∧ (c 59 (4 * a2 + 1)) * (c 48 (3 * a1)) ≤ 9999 * (c 48 (3 * a1)) := mul_bd2 (by omega) (by omega) (by omega)
    refine v_imul (v := ((c 59 (4 * a2 + 1)) * (c 48 (3 * a1)))) rfl rfl ?_
    refine v_bip rfl (by decide) ?_
    refine v_idiv (v := (((c 59 (4 * a2 + 1)) * (c 48 (3 * a1))) / 10)) rfl (by omega) rfl ?_
    refine q_istore rfl (by decide) ?_
    refine q_aload_n rfl rfl ?_
    refine v_gr (t := 59) rfl rfl rfl (by decide) rfl ?_
    refine q_iconst rfl ?_
    refine q_iload_n rfl rfl ?_
    refine v_imul (v := 4 * a2) rfl rfl ?_
    refine q_iload_n rfl rfl ?_
    refine v_iadd (v := 4 * a2 + 1) rfl rfl ?_
    refine q_dup2 rfl ⟨rfl, rfl⟩ ?_
    refine v_ia (v := c 59 (4 * a2 + 1)) rfl rfl (by decide) (by decide) (by omega) rfl ?_
    refine q_iload rfl rfl ?_
    refine v_isub (v := c 59 (4 * a2 + 1) - (((c 59 (4 * a2 + 1)) * (c 48 (3 * a1))) / 10)) rfl rfl ?_
    refine v_is rfl rfl (by decide) (by decide) (by omega) ?_
    refine q_aload_n rfl rfl ?_
    refine v_gr (t := 59) rfl rfl rfl (by decide) rfl ?_
    refine q_iconst rfl ?_
    refine q_iload_n rfl rfl ?_
    refine v_imul (v := 4 * a2) rfl rfl ?_
    refine q_iload_n rfl rfl ?_
    refine v_iadd (v := 4 * a2 + 1) rfl rfl ?_
    refine q_iconst rfl ?_
    refine v_isub (v := 4 * a2) rfl (by first | (clear ha1 ha2 h_2 h_3 h_4 h_5 h_7 h_8 h_9 h_6; omega) | omega) ?_
    refine q_dup2 rfl ⟨rfl, rfl⟩ ?_
    refine v_ia (v := c 59 (4 * a2)) rfl rfl (by decide) (by decide) (by omega) (up_n (by omega)) ?_
    refine q_iload rfl rfl ?_
    refine v_iadd (v := (((c 59 (4 * a2 + 1)) * (c 48 (3 * a1))) / 10) + c 59 (4 * a2)) rfl (by first | (clear ha1 ha2 h_2 h_3 h_4 h_5 h_7 h_8 h_9 h_6; omega) | omega) ?_
    refine v_is rfl rfl (by decide) (by decide) (by omega) ?_
    refine v_iinc (v := 2) rfl rfl (by decide) (by decide) ?_
    refine q_goto (t := 12) rfl (by decide) ?_
    refine q_iload_n rfl rfl ?_
    refine q_iconst rfl ?_
    refine v_ic_ge_f (t := 83) rfl (by decide) (by decide) ?_
    refine q_aload_n rfl rfl ?_
    refine v_gr (t := 59) rfl rfl rfl (by decide) rfl ?_
    refine q_iconst rfl ?_
    refine q_iload_n rfl rfl ?_
    refine v_imul (v := 4 * a2) rfl rfl ?_
    refine q_iload_n rfl rfl ?_
    refine v_iadd (v := 4 * a2 + 2) rfl rfl ?_
    refine v_ia (v := c 59 (4 * a2 + 2)) rfl rfl (by decide) (by decide) (by omega) ((up_n (by omega)).trans (up_n (by omega))) ?_
    refine q_aload_n rfl rfl ?_
    refine v_gr (t := 48) rfl rfl rfl (by decide) rfl ?_
    refine q_iconst rfl ?_
    refine q_iload_n rfl rfl ?_
    refine v_imul (v := 3 * a1) rfl rfl ?_
    refine q_iload_n rfl rfl ?_
    refine v_iadd (v := 3 * a1 + 2) rfl rfl ?_
    refine q_iconst rfl ?_
    refine v_isub (v := 3 * a1 + 1) rfl (by first | (clear ha1 ha2 h_2 h_3 h_4 h_5 h_7 h_8 h_9 h_6; omega) | omega) ?_
    have h_10 := ir_48 hI (3 * a1 + 1)
    refine v_ia (v := c 48 (3 * a1 + 1)) rfl rfl (by decide) (by decide) (by omega) ((up_c (nn rfl)).trans (up_c (nn rfl))) ?_
    have h_11 : 0 ≤ (c 59 (4 * a2 + 2)) * (c 48 (3 * a1 + 1)) ∧ (c 59 (4 * a2 + 2)) * (c 48 (3 * a1 + 1)) ≤ 10 * (c 59 (4 * a2 + 2)) := mul_bd (by omega) (by omega) (by omega)
    have h_12 : 0 ≤ (c 59 (4 * a2 + 2)) * (c 48 (3 * a1 + 1)) ∧ (c 59 (4 * a2 + 2)) * (c 48 (3 * a1 + 1)) ≤ 9999 * (c 48 (3 * a1 + 1)) := mul_bd2 (by omega) (by omega) (by omega)
    refine v_imul (v := ((c 59 (4 * a2 + 2)) * (c 48 (3 * a1 + 1)))) rfl rfl ?_
    refine v_bip rfl (by decide) ?_
    refine v_idiv (v := (((c 59 (4 * a2 + 2)) * (c 48 (3 * a1 + 1))) / 10)) rfl (by omega) rfl ?_
    refine q_istore rfl (by decide) ?_
    refine q_aload_n rfl rfl ?_
    refine v_gr (t := 59) rfl rfl rfl (by decide) rfl ?_
    refine q_iconst rfl ?_
    refine q_iload_n rfl rfl ?_
    refine v_imul (v := 4 * a2) rfl rfl ?_
    refine q_iload_n rfl rfl ?_
    refine v_iadd (v := 4 * a2 + 2) rfl rfl ?_
    refine q_dup2 rfl ⟨rfl, rfl⟩ ?_
    refine v_ia (v := c 59 (4 * a2 + 2)) rfl rfl (by decide) (by decide) (by omega) ((up_n (by omega)).trans (up_n (by omega))) ?_
    refine q_iload rfl rfl ?_
    refine v_isub (v := c 59 (4 * a2 + 2) - (((c 59 (4 * a2 + 2)) * (c 48 (3 * a1 + 1))) / 10)) rfl rfl ?_
    refine v_is rfl rfl (by decide) (by decide) (by omega) ?_
    refine q_aload_n rfl rfl ?_
    refine v_gr (t := 59) rfl rfl rfl (by decide) rfl ?_
    refine q_iconst rfl ?_
    refine q_iload_n rfl rfl ?_
    refine v_imul (v := 4 * a2) rfl rfl ?_
    refine q_iload_n rfl rfl ?_
    refine v_iadd (v := 4 * a2 + 2) rfl rfl ?_
    refine q_iconst rfl ?_
    refine v_isub (v := 4 * a2 + 1) rfl (by first | (clear ha1 ha2 h_2 h_3 h_4 h_5 h_7 h_8 h_9 h_10 h_11 h_12 h_6; omega) | omega) ?_
    refine q_dup2 rfl ⟨rfl, rfl⟩ ?_
    refine v_ia (v := c 59 (4 * a2 + 1) - (((c 59 (4 * a2 + 1)) * (c 48 (3 * a1))) / 10)) rfl rfl (by decide) (by decide) (by omega) ((up_n (by omega)).trans ((up_n (by omega)).trans (up_e rfl))) ?_
    refine q_iload rfl rfl ?_
    refine v_iadd (v := (((c 59 (4 * a2 + 2)) * (c 48 (3 * a1 + 1))) / 10) + c 59 (4 * a2 + 1) - (((c 59 (4 * a2 + 1)) * (c 48 (3 * a1))) / 10)) rfl (by first | (clear ha1 ha2 h_2 h_3 h_4 h_5 h_7 h_8 h_9 h_10 h_11 h_12 h_6; omega) | omega) ?_
    refine v_is rfl rfl (by decide) (by decide) (by omega) ?_
    refine v_iinc (v := 3) rfl rfl (by decide) (by decide) ?_
    refine Wp_ls [(3, vi 3), (4, vi (((c 59 (4 * a2 + 2)) * (c 48 (3 * a1 + 1))) / 10)), (0, .ref 41), (1, vi a1), (2, vi a2)] (lsub_cons rfl (lsub_cons rfl (lsub_cons rfl (lsub_cons rfl (lsub_cons rfl lsub_nil))))) ?_
    refine q_goto (t := 12) rfl (by decide) ?_
    refine q_iload_n rfl rfl ?_
    refine q_iconst rfl ?_
    refine v_ic_ge_f (t := 83) rfl (by decide) (by decide) ?_
    refine q_aload_n rfl rfl ?_
    refine v_gr (t := 59) rfl rfl rfl (by decide) rfl ?_
    refine q_iconst rfl ?_
    refine q_iload_n rfl rfl ?_
    refine v_imul (v := 4 * a2) rfl rfl ?_
    refine q_iload_n rfl rfl ?_
    refine v_iadd (v := 4 * a2 + 3) rfl rfl ?_
    refine v_ia (v := c 59 (4 * a2 + 3)) rfl rfl (by decide) (by decide) (by omega) ((up_n (by omega)).trans ((up_n (by omega)).trans ((up_n (by omega)).trans (up_n (by omega))))) ?_
    refine q_aload_n rfl rfl ?_
    refine v_gr (t := 48) rfl rfl rfl (by decide) rfl ?_
    refine q_iconst rfl ?_
    refine q_iload_n rfl rfl ?_
    refine v_imul (v := 3 * a1) rfl rfl ?_
    refine q_iload_n rfl rfl ?_
    refine v_iadd (v := 3 * a1 + 3) rfl rfl ?_
    refine q_iconst rfl ?_
    refine v_isub (v := 3 * a1 + 2) rfl (by first | (clear ha1 ha2 h_2 h_3 h_4 h_5 h_7 h_8 h_9 h_10 h_11 h_12 h_6; omega) | omega) ?_
    have h_13 := ir_48 hI (3 * a1 + 2)
    refine v_ia (v := c 48 (3 * a1 + 2)) rfl rfl (by decide) (by decide) (by omega) ((up_c (nn rfl)).trans ((up_c (nn rfl)).trans ((up_c (nn rfl)).trans (up_c (nn rfl))))) ?_
    have h_14 : 0 ≤ (c 59 (4 * a2 + 3)) * (c 48 (3 * a1 + 2)) ∧ (c 59 (4 * a2 + 3)) * (c 48 (3 * a1 + 2)) ≤ 10 * (c 59 (4 * a2 + 3)) := mul_bd (by omega) (by omega) (by omega)
    have h_15 : 0 ≤ (c 59 (4 * a2 + 3)) * (c 48 (3 * a1 + 2)) ∧ (c 59 (4 * a2 + 3)) * (c 48 (3 * a1 + 2)) ≤ 9999 * (c 48 (3 * a1 + 2)) := mul_bd2 (by omega) (by omega) (by omega)
    refine v_imul (v := ((c 59 (4 * a2 + 3)) * (c 48 (3 * a1 + 2)))) rfl rfl ?_
    refine v_bip rfl (by decide) ?_
    refine v_idiv (v := (((c 59 (4 * a2 + 3)) * (c 48 (3 * a1 + 2))) / 10)) rfl (by omega) rfl ?_
    refine q_istore rfl (by decide) ?_
    refine q_aload_n rfl rfl ?_
    refine v_gr (t := 59) rfl rfl rfl (by decide) rfl ?_
    refine q_iconst rfl ?_
    refine q_iload_n rfl rfl ?_
    refine v_imul (v := 4 * a2) rfl rfl ?_
    refine q_iload_n rfl rfl ?_
    refine v_iadd (v := 4 * a2 + 3) rfl rfl ?_
    refine q_dup2 rfl ⟨rfl, rfl⟩ ?_
    refine v_ia (v := c 59 (4 * a2 + 3)) rfl rfl (by decide) (by decide) (by omega) ((up_n (by omega)).trans ((up_n (by omega)).trans ((up_n (by omega)).trans (up_n (by omega))))) ?_
    refine q_iload rfl rfl ?_
    refine v_isub (v := c 59 (4 * a2 + 3) - (((c 59 (4 * a2 + 3)) * (c 48 (3 * a1 + 2))) / 10)) rfl rfl ?_
    refine v_is rfl rfl (by decide) (by decide) (by omega) ?_
    refine q_aload_n rfl rfl ?_
    refine v_gr (t := 59) rfl rfl rfl (by decide) rfl ?_
    refine q_iconst rfl ?_
    refine q_iload_n rfl rfl ?_
    refine v_imul (v := 4 * a2) rfl rfl ?_
    refine q_iload_n rfl rfl ?_
    refine v_iadd (v := 4 * a2 + 3) rfl rfl ?_
    refine q_iconst rfl ?_
    refine v_isub (v := 4 * a2 + 2) rfl (by first | (clear ha1 ha2 h_2 h_3 h_4 h_5 h_7 h_8 h_9 h_10 h_11 h_12 h_13 h_14 h_15 h_6; omega) | omega) ?_
    refine q_dup2 rfl ⟨rfl, rfl⟩ ?_
    refine v_ia (v := c 59 (4 * a2 + 2) - (((c 59 (4 * a2 + 2)) * (c 48 (3 * a1 + 1))) / 10)) rfl rfl (by decide) (by decide) (by omega) ((up_n (by omega)).trans ((up_n (by omega)).trans (up_e rfl))) ?_
    refine q_iload rfl rfl ?_
    refine v_iadd (v := (((c 59 (4 * a2 + 3)) * (c 48 (3 * a1 + 2))) / 10) + c 59 (4 * a2 + 2) - (((c 59 (4 * a2 + 2)) * (c 48 (3 * a1 + 1))) / 10)) rfl (by first | (clear ha1 ha2 h_2 h_3 h_4 h_5 h_7 h_8 h_9 h_10 h_11 h_12 h_13 h_14 h_15 h_6; omega) | omega) ?_
    refine v_is rfl rfl (by decide) (by decide) (by omega) ?_
    refine v_iinc (v := 4) rfl rfl (by decide) (by decide) ?_
    refine q_goto (t := 12) rfl (by decide) ?_
    refine q_iload_n rfl rfl ?_
    refine q_iconst rfl ?_
    refine v_ic_ge_t (t := 83) rfl (by decide) (by decide) ?_
    refine q_aload_n rfl rfl ?_
    refine v_gr (t := 59) rfl rfl rfl (by decide) rfl ?_
    refine q_iconst rfl ?_
    refine q_iload_n rfl rfl ?_
    refine v_imul (v := 4 * a2) rfl rfl ?_
    refine v_ia (v := (((c 59 (4 * a2 + 1)) * (c 48 (3 * a1))) / 10) + c 59 (4 * a2)) rfl rfl (by decide) (by decide) (by omega) ((up_n (by omega)).trans ((up_n (by omega)).trans ((up_n (by omega)).trans ((up_n (by omega)).trans (up_e rfl))))) ?_
    refine q_aload_n rfl rfl ?_
    have h_16 := ir_41_23 hI
    refine v_gi (z := 23) (v := c 41 23) rfl rfl rfl (by decide) rfl rfl ((up_c (nn rfl)).trans ((up_c (nn rfl)).trans ((up_c (nn rfl)).trans ((up_c (nn rfl)).trans ((up_c (nn rfl)).trans (up_c (nn rfl))))))) ?_
    have h_17 : 0 ≤ ((((c 59 (4 * a2 + 1)) * (c 48 (3 * a1))) / 10) + c 59 (4 * a2)) * (c 41 23) ∧ ((((c 59 (4 * a2 + 1)) * (c 48 (3 * a1))) / 10) + c 59 (4 * a2)) * (c 41 23) ≤ 50 * ((((c 59 (4 * a2 + 1)) * (c 48 (3 * a1))) / 10) + c 59 (4 * a2)) := mul_bd (by omega) (by omega) (by omega)
    have h_18 : 0 ≤ ((((c 59 (4 * a2 + 1)) * (c 48 (3 * a1))) / 10) + c 59 (4 * a2)) * (c 41 23) ∧ ((((c 59 (4 * a2 + 1)) * (c 48 (3 * a1))) / 10) + c 59 (4 * a2)) * (c 41 23) ≤ 9999 * (c 41 23) := mul_bd2 (by omega) (by omega) (by omega)
    refine v_imul (v := (((((c 59 (4 * a2 + 1)) * (c 48 (3 * a1))) / 10) + c 59 (4 * a2)) * (c 41 23))) rfl rfl ?_
    refine v_bip rfl (by decide) ?_
    refine v_idiv (v := ((((((c 59 (4 * a2 + 1)) * (c 48 (3 * a1))) / 10) + c 59 (4 * a2)) * (c 41 23)) / 100)) rfl (by omega) rfl ?_
    refine q_istore_n rfl (by decide) ?_
    refine q_aload_n rfl rfl ?_
    refine v_gr (t := 59) rfl rfl rfl (by decide) rfl ?_
    refine q_iconst rfl ?_
    refine q_iload_n rfl rfl ?_
    refine v_imul (v := 4 * a2) rfl rfl ?_
    refine q_dup2 rfl ⟨rfl, rfl⟩ ?_
    refine v_ia (v := (((c 59 (4 * a2 + 1)) * (c 48 (3 * a1))) / 10) + c 59 (4 * a2)) rfl rfl (by decide) (by decide) (by omega) ((up_n (by omega)).trans ((up_n (by omega)).trans ((up_n (by omega)).trans ((up_n (by omega)).trans (up_e rfl))))) ?_
    refine q_iload_n rfl rfl ?_
    refine v_isub (v := (((c 59 (4 * a2 + 1)) * (c 48 (3 * a1))) / 10) + c 59 (4 * a2) - ((((((c 59 (4 * a2 + 1)) * (c 48 (3 * a1))) / 10) + c 59 (4 * a2)) * (c 41 23)) / 100)) rfl rfl ?_
    refine v_is rfl rfl (by decide) (by decide) (by omega) ?_
    refine q_aload_n rfl rfl ?_
    refine v_gr (t := 59) rfl rfl rfl (by decide) rfl ?_
    refine v_bip rfl (by decide) ?_
    refine q_dup2 rfl ⟨rfl, rfl⟩ ?_
    have h_19 := ir_59 hI 35
    refine v_ia (v := c 59 35) rfl rfl (by decide) (by decide) (by decide) ((up_n (by omega)).trans ((up_n (by omega)).trans ((up_n (by omega)).trans ((up_n (by omega)).trans ((up_n (by omega)).trans ((up_n (by omega)).trans (up_n (by omega)))))))) ?_
    refine q_iload_n rfl rfl ?_
    refine v_iadd (v := ((((((c 59 (4 * a2 + 1)) * (c 48 (3 * a1))) / 10) + c 59 (4 * a2)) * (c 41 23)) / 100) + c 59 35) rfl (by first | (clear ha1 ha2 h_2 h_3 h_4 h_5 h_7 h_8 h_9 h_10 h_11 h_12 h_13 h_14 h_15 h_16 h_17 h_18 h_19 h_6; omega) | omega) ?_
    refine v_nrm (fun y_20 hy_20 => ?_)
    refine v_is rfl rfl (by decide) (by decide) (by decide) ?_
    refine q_iconst rfl ?_
    refine v_zret rfl rfl (by decide) ?_
    have hI_21 := iw_row (a := 59) (j := 4 * a2 + 1) (v := c 59 (4 * a2 + 1) - (((c 59 (4 * a2 + 1)) * (c 48 (3 * a1))) / 10)) hIo (by omega) (Or.inl rfl) ⟨by omega, by omega, by omega⟩
    have hI_22 := iw_row (a := 59) (j := 4 * a2) (v := (((c 59 (4 * a2 + 1)) * (c 48 (3 * a1))) / 10) + c 59 (4 * a2)) hI_21 (by omega) (Or.inl rfl) ⟨by omega, by omega, by omega⟩
    have hI_23 := iw_row (a := 59) (j := 4 * a2 + 2) (v := c 59 (4 * a2 + 2) - (((c 59 (4 * a2 + 2)) * (c 48 (3 * a1 + 1))) / 10)) hI_22 (by omega) (Or.inl rfl) ⟨by omega, by omega, by omega⟩
    have hI_24 := iw_row (a := 59) (j := 4 * a2 + 1) (v := (((c 59 (4 * a2 + 2)) * (c 48 (3 * a1 + 1))) / 10) + c 59 (4 * a2 + 1) - (((c 59 (4 * a2 + 1)) * (c 48 (3 * a1))) / 10)) hI_23 (by omega) (Or.inl rfl) ⟨by omega, by omega, by omega⟩
    have hI_25 := iw_row (a := 59) (j := 4 * a2 + 3) (v := c 59 (4 * a2 + 3) - (((c 59 (4 * a2 + 3)) * (c 48 (3 * a1 + 2))) / 10)) hI_24 (by omega) (Or.inl rfl) ⟨by omega, by omega, by omega⟩
    have hI_26 := iw_row (a := 59) (j := 4 * a2 + 2) (v := (((c 59 (4 * a2 + 3)) * (c 48 (3 * a1 + 2))) / 10) + c 59 (4 * a2 + 2) - (((c 59 (4 * a2 + 2)) * (c 48 (3 * a1 + 1))) / 10)) hI_25 (by omega) (Or.inl rfl) ⟨by omega, by omega, by omega⟩
    have hI_27 := iw_row (a := 59) (j := 4 * a2) (v := (((c 59 (4 * a2 + 1)) * (c 48 (3 * a1))) / 10) + c 59 (4 * a2) - ((((((c 59 (4 * a2 + 1)) * (c 48 (3 * a1))) / 10) + c 59 (4 * a2)) * (c 41 23)) / 100)) hI_26 (by omega) (Or.inl rfl) ⟨by omega, by omega, by omega⟩
    have hI_28 := iw_row (a := 59) (j := 35) (v := y_20) hI_27 (by omega) (Or.inr (by omega)) ⟨by omega, by omega, by omega⟩
    have hr_29 : ∀ j : Int, rs 59 j → (up (up (up (up (up (up (up (up c 59 (4 * a2 + 1) (c 59 (4 * a2 + 1) - (((c 59 (4 * a2 + 1)) * (c 48 (3 * a1))) / 10))) 59 (4 * a2) ((((c 59 (4 * a2 + 1)) * (c 48 (3 * a1))) / 10) + c 59 (4 * a2))) 59 (4 * a2 + 2) (c 59 (4 * a2 + 2) - (((c 59 (4 * a2 + 2)) * (c 48 (3 * a1 + 1))) / 10))) 59 (4 * a2 + 1) ((((c 59 (4 * a2 + 2)) * (c 48 (3 * a1 + 1))) / 10) + c 59 (4 * a2 + 1) - (((c 59 (4 * a2 + 1)) * (c 48 (3 * a1))) / 10))) 59 (4 * a2 + 3) (c 59 (4 * a2 + 3) - (((c 59 (4 * a2 + 3)) * (c 48 (3 * a1 + 2))) / 10))) 59 (4 * a2 + 2) ((((c 59 (4 * a2 + 3)) * (c 48 (3 * a1 + 2))) / 10) + c 59 (4 * a2 + 2) - (((c 59 (4 * a2 + 2)) * (c 48 (3 * a1 + 1))) / 10))) 59 (4 * a2) ((((c 59 (4 * a2 + 1)) * (c 48 (3 * a1))) / 10) + c 59 (4 * a2) - ((((((c 59 (4 * a2 + 1)) * (c 48 (3 * a1))) / 10) + c 59 (4 * a2)) * (c 41 23)) / 100))) 59 35 y_20) 59 j + (up (up (up (up (up (up (up (up c 59 (4 * a2 + 1) (c 59 (4 * a2 + 1) - (((c 59 (4 * a2 + 1)) * (c 48 (3 * a1))) / 10))) 59 (4 * a2) ((((c 59 (4 * a2 + 1)) * (c 48 (3 * a1))) / 10) + c 59 (4 * a2))) 59 (4 * a2 + 2) (c 59 (4 * a2 + 2) - (((c 59 (4 * a2 + 2)) * (c 48 (3 * a1 + 1))) / 10))) 59 (4 * a2 + 1) ((((c 59 (4 * a2 + 2)) * (c 48 (3 * a1 + 1))) / 10) + c 59 (4 * a2 + 1) - (((c 59 (4 * a2 + 1)) * (c 48 (3 * a1))) / 10))) 59 (4 * a2 + 3) (c 59 (4 * a2 + 3) - (((c 59 (4 * a2 + 3)) * (c 48 (3 * a1 + 2))) / 10))) 59 (4 * a2 + 2) ((((c 59 (4 * a2 + 3)) * (c 48 (3 * a1 + 2))) / 10) + c 59 (4 * a2 + 2) - (((c 59 (4 * a2 + 2)) * (c 48 (3 * a1 + 1))) / 10))) 59 (4 * a2) ((((c 59 (4 * a2 + 1)) * (c 48 (3 * a1))) / 10) + c 59 (4 * a2) - ((((((c 59 (4 * a2 + 1)) * (c 48 (3 * a1))) / 10) + c 59 (4 * a2)) * (c 41 23)) / 100))) 59 35 y_20) 59 (j + 1) + (up (up (up (up (up (up (up (up c 59 (4 * a2 + 1) (c 59 (4 * a2 + 1) - (((c 59 (4 * a2 + 1)) * (c 48 (3 * a1))) / 10))) 59 (4 * a2) ((((c 59 (4 * a2 + 1)) * (c 48 (3 * a1))) / 10) + c 59 (4 * a2))) 59 (4 * a2 + 2) (c 59 (4 * a2 + 2) - (((c 59 (4 * a2 + 2)) * (c 48 (3 * a1 + 1))) / 10))) 59 (4 * a2 + 1) ((((c 59 (4 * a2 + 2)) * (c 48 (3 * a1 + 1))) / 10) + c 59 (4 * a2 + 1) - (((c 59 (4 * a2 + 1)) * (c 48 (3 * a1))) / 10))) 59 (4 * a2 + 3) (c 59 (4 * a2 + 3) - (((c 59 (4 * a2 + 3)) * (c 48 (3 * a1 + 2))) / 10))) 59 (4 * a2 + 2) ((((c 59 (4 * a2 + 3)) * (c 48 (3 * a1 + 2))) / 10) + c 59 (4 * a2 + 2) - (((c 59 (4 * a2 + 2)) * (c 48 (3 * a1 + 1))) / 10))) 59 (4 * a2) ((((c 59 (4 * a2 + 1)) * (c 48 (3 * a1))) / 10) + c 59 (4 * a2) - ((((((c 59 (4 * a2 + 1)) * (c 48 (3 * a1))) / 10) + c 59 (4 * a2)) * (c 41 23)) / 100))) 59 35 y_20) 59 (j + 2) + (up (up (up (up (up (up (up (up c 59 (4 * a2 + 1) (c 59 (4 * a2 + 1) - (((c 59 (4 * a2 + 1)) * (c 48 (3 * a1))) / 10))) 59 (4 * a2) ((((c 59 (4 * a2 + 1)) * (c 48 (3 * a1))) / 10) + c 59 (4 * a2))) 59 (4 * a2 + 2) (c 59 (4 * a2 + 2) - (((c 59 (4 * a2 + 2)) * (c 48 (3 * a1 + 1))) / 10))) 59 (4 * a2 + 1) ((((c 59 (4 * a2 + 2)) * (c 48 (3 * a1 + 1))) / 10) + c 59 (4 * a2 + 1) - (((c 59 (4 * a2 + 1)) * (c 48 (3 * a1))) / 10))) 59 (4 * a2 + 3) (c 59 (4 * a2 + 3) - (((c 59 (4 * a2 + 3)) * (c 48 (3 * a1 + 2))) / 10))) 59 (4 * a2 + 2) ((((c 59 (4 * a2 + 3)) * (c 48 (3 * a1 + 2))) / 10) + c 59 (4 * a2 + 2) - (((c 59 (4 * a2 + 2)) * (c 48 (3 * a1 + 1))) / 10))) 59 (4 * a2) ((((c 59 (4 * a2 + 1)) * (c 48 (3 * a1))) / 10) + c 59 (4 * a2) - ((((((c 59 (4 * a2 + 1)) * (c 48 (3 * a1))) / 10) + c 59 (4 * a2)) * (c 41 23)) / 100))) 59 35 y_20) 59 (j + 3) ≤ 9999 := by
      intro j9 hj9
      obtain ⟨k9, rfl, hk9⟩ := rs_59 hj9
      by_cases e_30 : k9 = a2
      · skip
        have h_31 : (up (up (up (up (up (up (up (up c 59 (4 * a2 + 1) (c 59 (4 * a2 + 1) - (((c 59 (4 * a2 + 1)) * (c 48 (3 * a1))) / 10))) 59 (4 * a2) ((((c 59 (4 * a2 + 1)) * (c 48 (3 * a1))) / 10) + c 59 (4 * a2))) 59 (4 * a2 + 2) (c 59 (4 * a2 + 2) - (((c 59 (4 * a2 + 2)) * (c 48 (3 * a1 + 1))) / 10))) 59 (4 * a2 + 1) ((((c 59 (4 * a2 + 2)) * (c 48 (3 * a1 + 1))) / 10) + c 59 (4 * a2 + 1) - (((c 59 (4 * a2 + 1)) * (c 48 (3 * a1))) / 10))) 59 (4 * a2 + 3) (c 59 (4 * a2 + 3) - (((c 59 (4 * a2 + 3)) * (c 48 (3 * a1 + 2))) / 10))) 59 (4 * a2 + 2) ((((c 59 (4 * a2 + 3)) * (c 48 (3 * a1 + 2))) / 10) + c 59 (4 * a2 + 2) - (((c 59 (4 * a2 + 2)) * (c 48 (3 * a1 + 1))) / 10))) 59 (4 * a2) ((((c 59 (4 * a2 + 1)) * (c 48 (3 * a1))) / 10) + c 59 (4 * a2) - ((((((c 59 (4 * a2 + 1)) * (c 48 (3 * a1))) / 10) + c 59 (4 * a2)) * (c 41 23)) / 100))) 59 35 y_20) 59 (4 * k9) = (((c 59 (4 * a2 + 1)) * (c 48 (3 * a1))) / 10) + c 59 (4 * a2) - ((((((c 59 (4 * a2 + 1)) * (c 48 (3 * a1))) / 10) + c 59 (4 * a2)) * (c 41 23)) / 100) := (congrArg ((up (up (up (up (up (up (up (up c 59 (4 * a2 + 1) (c 59 (4 * a2 + 1) - (((c 59 (4 * a2 + 1)) * (c 48 (3 * a1))) / 10))) 59 (4 * a2) ((((c 59 (4 * a2 + 1)) * (c 48 (3 * a1))) / 10) + c 59 (4 * a2))) 59 (4 * a2 + 2) (c 59 (4 * a2 + 2) - (((c 59 (4 * a2 + 2)) * (c 48 (3 * a1 + 1))) / 10))) 59 (4 * a2 + 1) ((((c 59 (4 * a2 + 2)) * (c 48 (3 * a1 + 1))) / 10) + c 59 (4 * a2 + 1) - (((c 59 (4 * a2 + 1)) * (c 48 (3 * a1))) / 10))) 59 (4 * a2 + 3) (c 59 (4 * a2 + 3) - (((c 59 (4 * a2 + 3)) * (c 48 (3 * a1 + 2))) / 10))) 59 (4 * a2 + 2) ((((c 59 (4 * a2 + 3)) * (c 48 (3 * a1 + 2))) / 10) + c 59 (4 * a2 + 2) - (((c 59 (4 * a2 + 2)) * (c 48 (3 * a1 + 1))) / 10))) 59 (4 * a2) ((((c 59 (4 * a2 + 1)) * (c 48 (3 * a1))) / 10) + c 59 (4 * a2) - ((((((c 59 (4 * a2 + 1)) * (c 48 (3 * a1))) / 10) + c 59 (4 * a2)) * (c 41 23)) / 100))) 59 35 y_20) 59) (show 4 * k9 = 4 * a2 from by first | assumption | exact Int.le_antisymm (by omega) (by omega))).trans ((up_n (by omega)).trans (up_e rfl))
        have h_32 : (up (up (up (up (up (up (up (up c 59 (4 * a2 + 1) (c 59 (4 * a2 + 1) - (((c 59 (4 * a2 + 1)) * (c 48 (3 * a1))) / 10))) 59 (4 * a2) ((((c 59 (4 * a2 + 1)) * (c 48 (3 * a1))) / 10) + c 59 (4 * a2))) 59 (4 * a2 + 2) (c 59 (4 * a2 + 2) - (((c 59 (4 * a2 + 2)) * (c 48 (3 * a1 + 1))) / 10))) 59 (4 * a2 + 1) ((((c 59 (4 * a2 + 2)) * (c 48 (3 * a1 + 1))) / 10) + c 59 (4 * a2 + 1) - (((c 59 (4 * a2 + 1)) * (c 48 (3 * a1))) / 10))) 59 (4 * a2 + 3) (c 59 (4 * a2 + 3) - (((c 59 (4 * a2 + 3)) * (c 48 (3 * a1 + 2))) / 10))) 59 (4 * a2 + 2) ((((c 59 (4 * a2 + 3)) * (c 48 (3 * a1 + 2))) / 10) + c 59 (4 * a2 + 2) - (((c 59 (4 * a2 + 2)) * (c 48 (3 * a1 + 1))) / 10))) 59 (4 * a2) ((((c 59 (4 * a2 + 1)) * (c 48 (3 * a1))) / 10) + c 59 (4 * a2) - ((((((c 59 (4 * a2 + 1)) * (c 48 (3 * a1))) / 10) + c 59 (4 * a2)) * (c 41 23)) / 100))) 59 35 y_20) 59 (4 * k9 + 1) = (((c 59 (4 * a2 + 2)) * (c 48 (3 * a1 + 1))) / 10) + c 59 (4 * a2 + 1) - (((c 59 (4 * a2 + 1)) * (c 48 (3 * a1))) / 10) := (congrArg ((up (up (up (up (up (up (up (up c 59 (4 * a2 + 1) (c 59 (4 * a2 + 1) - (((c 59 (4 * a2 + 1)) * (c 48 (3 * a1))) / 10))) 59 (4 * a2) ((((c 59 (4 * a2 + 1)) * (c 48 (3 * a1))) / 10) + c 59 (4 * a2))) 59 (4 * a2 + 2) (c 59 (4 * a2 + 2) - (((c 59 (4 * a2 + 2)) * (c 48 (3 * a1 + 1))) / 10))) 59 (4 * a2 + 1) ((((c 59 (4 * a2 + 2)) * (c 48 (3 * a1 + 1))) / 10) + c 59 (4 * a2 + 1) - (((c 59 (4 * a2 + 1)) * (c 48 (3 * a1))) / 10))) 59 (4 * a2 + 3) (c 59 (4 * a2 + 3) - (((c 59 (4 * a2 + 3)) * (c 48 (3 * a1 + 2))) / 10))) 59 (4 * a2 + 2) ((((c 59 (4 * a2 + 3)) * (c 48 (3 * a1 + 2))) / 10) + c 59 (4 * a2 + 2) - (((c 59 (4 * a2 + 2)) * (c 48 (3 * a1 + 1))) / 10))) 59 (4 * a2) ((((c 59 (4 * a2 + 1)) * (c 48 (3 * a1))) / 10) + c 59 (4 * a2) - ((((((c 59 (4 * a2 + 1)) * (c 48 (3 * a1))) / 10) + c 59 (4 * a2)) * (c 41 23)) / 100))) 59 35 y_20) 59) (show 4 * k9 + 1 = 4 * a2 + 1 from by first | assumption | exact Int.le_antisymm (by omega) (by omega))).trans ((up_n (by omega)).trans ((up_n (by omega)).trans ((up_n (by omega)).trans ((up_n (by omega)).trans (up_e rfl)))))
        have h_33 : (up (up (up (up (up (up (up (up c 59 (4 * a2 + 1) (c 59 (4 * a2 + 1) - (((c 59 (4 * a2 + 1)) * (c 48 (3 * a1))) / 10))) 59 (4 * a2) ((((c 59 (4 * a2 + 1)) * (c 48 (3 * a1))) / 10) + c 59 (4 * a2))) 59 (4 * a2 + 2) (c 59 (4 * a2 + 2) - (((c 59 (4 * a2 + 2)) * (c 48 (3 * a1 + 1))) / 10))) 59 (4 * a2 + 1) ((((c 59 (4 * a2 + 2)) * (c 48 (3 * a1 + 1))) / 10) + c 59 (4 * a2 + 1) - (((c 59 (4 * a2 + 1)) * (c 48 (3 * a1))) / 10))) 59 (4 * a2 + 3) (c 59 (4 * a2 + 3) - (((c 59 (4 * a2 + 3)) * (c 48 (3 * a1 + 2))) / 10))) 59 (4 * a2 + 2) ((((c 59 (4 * a2 + 3)) * (c 48 (3 * a1 + 2))) / 10) + c 59 (4 * a2 + 2) - (((c 59 (4 * a2 + 2)) * (c 48 (3 * a1 + 1))) / 10))) 59 (4 * a2) ((((c 59 (4 * a2 + 1)) * (c 48 (3 * a1))) / 10) + c 59 (4 * a2) - ((((((c 59 (4 * a2 + 1)) * (c 48 (3 * a1))) / 10) + c 59 (4 * a2)) * (c 41 23)) / 100))) 59 35 y_20) 59 (4 * k9 + 2) = (((c 59 (4 * a2 + 3)) * (c 48 (3 * a1 + 2))) / 10) + c 59 (4 * a2 + 2) - (((c 59 (4 * a2 + 2)) * (c 48 (3 * a1 + 1))) / 10) := (congrArg ((up (up (up (up (up (up (up (up c 59 (4 * a2 + 1) (c 59 (4 * a2 + 1) - (((c 59 (4 * a2 + 1)) * (c 48 (3 * a1))) / 10))) 59 (4 * a2) ((((c 59 (4 * a2 + 1)) * (c 48 (3 * a1))) / 10) + c 59 (4 * a2))) 59 (4 * a2 + 2) (c 59 (4 * a2 + 2) - (((c 59 (4 * a2 + 2)) * (c 48 (3 * a1 + 1))) / 10))) 59 (4 * a2 + 1) ((((c 59 (4 * a2 + 2)) * (c 48 (3 * a1 + 1))) / 10) + c 59 (4 * a2 + 1) - (((c 59 (4 * a2 + 1)) * (c 48 (3 * a1))) / 10))) 59 (4 * a2 + 3) (c 59 (4 * a2 + 3) - (((c 59 (4 * a2 + 3)) * (c 48 (3 * a1 + 2))) / 10))) 59 (4 * a2 + 2) ((((c 59 (4 * a2 + 3)) * (c 48 (3 * a1 + 2))) / 10) + c 59 (4 * a2 + 2) - (((c 59 (4 * a2 + 2)) * (c 48 (3 * a1 + 1))) / 10))) 59 (4 * a2) ((((c 59 (4 * a2 + 1)) * (c 48 (3 * a1))) / 10) + c 59 (4 * a2) - ((((((c 59 (4 * a2 + 1)) * (c 48 (3 * a1))) / 10) + c 59 (4 * a2)) * (c 41 23)) / 100))) 59 35 y_20) 59) (show 4 * k9 + 2 = 4 * a2 + 2 from by first | assumption | exact Int.le_antisymm (by omega) (by omega))).trans ((up_n (by omega)).trans ((up_n (by omega)).trans (up_e rfl)))
        have h_34 : (up (up (up (up (up (up (up (up c 59 (4 * a2 + 1) (c 59 (4 * a2 + 1) - (((c 59 (4 * a2 + 1)) * (c 48 (3 * a1))) / 10))) 59 (4 * a2) ((((c 59 (4 * a2 + 1)) * (c 48 (3 * a1))) / 10) + c 59 (4 * a2))) 59 (4 * a2 + 2) (c 59 (4 * a2 + 2) - (((c 59 (4 * a2 + 2)) * (c 48 (3 * a1 + 1))) / 10))) 59 (4 * a2 + 1) ((((c 59 (4 * a2 + 2)) * (c 48 (3 * a1 + 1))) / 10) + c 59 (4 * a2 + 1) - (((c 59 (4 * a2 + 1)) * (c 48 (3 * a1))) / 10))) 59 (4 * a2 + 3) (c 59 (4 * a2 + 3) - (((c 59 (4 * a2 + 3)) * (c 48 (3 * a1 + 2))) / 10))) 59 (4 * a2 + 2) ((((c 59 (4 * a2 + 3)) * (c 48 (3 * a1 + 2))) / 10) + c 59 (4 * a2 + 2) - (((c 59 (4 * a2 + 2)) * (c 48 (3 * a1 + 1))) / 10))) 59 (4 * a2) ((((c 59 (4 * a2 + 1)) * (c 48 (3 * a1))) / 10) + c 59 (4 * a2) - ((((((c 59 (4 * a2 + 1)) * (c 48 (3 * a1))) / 10) + c 59 (4 * a2)) * (c 41 23)) / 100))) 59 35 y_20) 59 (4 * k9 + 3) = c 59 (4 * a2 + 3) - (((c 59 (4 * a2 + 3)) * (c 48 (3 * a1 + 2))) / 10) := (congrArg ((up (up (up (up (up (up (up (up c 59 (4 * a2 + 1) (c 59 (4 * a2 + 1) - (((c 59 (4 * a2 + 1)) * (c 48 (3 * a1))) / 10))) 59 (4 * a2) ((((c 59 (4 * a2 + 1)) * (c 48 (3 * a1))) / 10) + c 59 (4 * a2))) 59 (4 * a2 + 2) (c 59 (4 * a2 + 2) - (((c 59 (4 * a2 + 2)) * (c 48 (3 * a1 + 1))) / 10))) 59 (4 * a2 + 1) ((((c 59 (4 * a2 + 2)) * (c 48 (3 * a1 + 1))) / 10) + c 59 (4 * a2 + 1) - (((c 59 (4 * a2 + 1)) * (c 48 (3 * a1))) / 10))) 59 (4 * a2 + 3) (c 59 (4 * a2 + 3) - (((c 59 (4 * a2 + 3)) * (c 48 (3 * a1 + 2))) / 10))) 59 (4 * a2 + 2) ((((c 59 (4 * a2 + 3)) * (c 48 (3 * a1 + 2))) / 10) + c 59 (4 * a2 + 2) - (((c 59 (4 * a2 + 2)) * (c 48 (3 * a1 + 1))) / 10))) 59 (4 * a2) ((((c 59 (4 * a2 + 1)) * (c 48 (3 * a1))) / 10) + c 59 (4 * a2) - ((((((c 59 (4 * a2 + 1)) * (c 48 (3 * a1))) / 10) + c 59 (4 * a2)) * (c 41 23)) / 100))) 59 35 y_20) 59) (show 4 * k9 + 3 = 4 * a2 + 3 from by first | assumption | exact Int.le_antisymm (by omega) (by omega))).trans ((up_n (by omega)).trans ((up_n (by omega)).trans ((up_n (by omega)).trans (up_e rfl))))
        omega
      have h_35 := iv_r hI 59 (4 * k9) hj9 (by omega)
      have h_36 := ir_59_g hI (j := 4 * k9) (by first | (clear ha1 ha2 h_2 h_3 h_4 h_5 h_7 h_8 h_9 h_10 h_11 h_12 h_13 h_14 h_15 h_16 h_17 h_18 h_19 h_6; omega) | omega)
      have h_37 : (up (up (up (up (up (up (up (up c 59 (4 * a2 + 1) (c 59 (4 * a2 + 1) - (((c 59 (4 * a2 + 1)) * (c 48 (3 * a1))) / 10))) 59 (4 * a2) ((((c 59 (4 * a2 + 1)) * (c 48 (3 * a1))) / 10) + c 59 (4 * a2))) 59 (4 * a2 + 2) (c 59 (4 * a2 + 2) - (((c 59 (4 * a2 + 2)) * (c 48 (3 * a1 + 1))) / 10))) 59 (4 * a2 + 1) ((((c 59 (4 * a2 + 2)) * (c 48 (3 * a1 + 1))) / 10) + c 59 (4 * a2 + 1) - (((c 59 (4 * a2 + 1)) * (c 48 (3 * a1))) / 10))) 59 (4 * a2 + 3) (c 59 (4 * a2 + 3) - (((c 59 (4 * a2 + 3)) * (c 48 (3 * a1 + 2))) / 10))) 59 (4 * a2 + 2) ((((c 59 (4 * a2 + 3)) * (c 48 (3 * a1 + 2))) / 10) + c 59 (4 * a2 + 2) - (((c 59 (4 * a2 + 2)) * (c 48 (3 * a1 + 1))) / 10))) 59 (4 * a2) ((((c 59 (4 * a2 + 1)) * (c 48 (3 * a1))) / 10) + c 59 (4 * a2) - ((((((c 59 (4 * a2 + 1)) * (c 48 (3 * a1))) / 10) + c 59 (4 * a2)) * (c 41 23)) / 100))) 59 35 y_20) 59 (4 * k9) = c 59 (4 * k9) := ((up_n (by omega)).trans ((up_n (by omega)).trans ((up_n (by omega)).trans ((up_n (by omega)).trans ((up_n (by omega)).trans ((up_n (by omega)).trans ((up_n (by omega)).trans (up_n (by omega)))))))))
      have h_38 := ir_59_g hI (j := 4 * k9 + 1) (by first | (clear ha1 ha2 h_2 h_3 h_4 h_5 h_7 h_8 h_9 h_10 h_11 h_12 h_13 h_14 h_15 h_16 h_17 h_18 h_19 h_36 h_6; omega) | omega)
      have h_39 : (up (up (up (up (up (up (up (up c 59 (4 * a2 + 1) (c 59 (4 * a2 + 1) - (((c 59 (4 * a2 + 1)) * (c 48 (3 * a1))) / 10))) 59 (4 * a2) ((((c 59 (4 * a2 + 1)) * (c 48 (3 * a1))) / 10) + c 59 (4 * a2))) 59 (4 * a2 + 2) (c 59 (4 * a2 + 2) - (((c 59 (4 * a2 + 2)) * (c 48 (3 * a1 + 1))) / 10))) 59 (4 * a2 + 1) ((((c 59 (4 * a2 + 2)) * (c 48 (3 * a1 + 1))) / 10) + c 59 (4 * a2 + 1) - (((c 59 (4 * a2 + 1)) * (c 48 (3 * a1))) / 10))) 59 (4 * a2 + 3) (c 59 (4 * a2 + 3) - (((c 59 (4 * a2 + 3)) * (c 48 (3 * a1 + 2))) / 10))) 59 (4 * a2 + 2) ((((c 59 (4 * a2 + 3)) * (c 48 (3 * a1 + 2))) / 10) + c 59 (4 * a2 + 2) - (((c 59 (4 * a2 + 2)) * (c 48 (3 * a1 + 1))) / 10))) 59 (4 * a2) ((((c 59 (4 * a2 + 1)) * (c 48 (3 * a1))) / 10) + c 59 (4 * a2) - ((((((c 59 (4 * a2 + 1)) * (c 48 (3 * a1))) / 10) + c 59 (4 * a2)) * (c 41 23)) / 100))) 59 35 y_20) 59 (4 * k9 + 1) = c 59 (4 * k9 + 1) := ((up_n (by omega)).trans ((up_n (by omega)).trans ((up_n (by omega)).trans ((up_n (by omega)).trans ((up_n (by omega)).trans ((up_n (by omega)).trans ((up_n (by omega)).trans (up_n (by omega)))))))))
      have h_40 := ir_59_g hI (j := 4 * k9 + 2) (by first | (clear ha1 ha2 h_2 h_3 h_4 h_5 h_7 h_8 h_9 h_10 h_11 h_12 h_13 h_14 h_15 h_16 h_17 h_18 h_19 h_36 h_38 h_6; omega) | omega)
      have h_41 : (up (up (up (up (up (up (up (up c 59 (4 * a2 + 1) (c 59 (4 * a2 + 1) - (((c 59 (4 * a2 + 1)) * (c 48 (3 * a1))) / 10))) 59 (4 * a2) ((((c 59 (4 * a2 + 1)) * (c 48 (3 * a1))) / 10) + c 59 (4 * a2))) 59 (4 * a2 + 2) (c 59 (4 * a2 + 2) - (((c 59 (4 * a2 + 2)) * (c 48 (3 * a1 + 1))) / 10))) 59 (4 * a2 + 1) ((((c 59 (4 * a2 + 2)) * (c 48 (3 * a1 + 1))) / 10) + c 59 (4 * a2 + 1) - (((c 59 (4 * a2 + 1)) * (c 48 (3 * a1))) / 10))) 59 (4 * a2 + 3) (c 59 (4 * a2 + 3) - (((c 59 (4 * a2 + 3)) * (c 48 (3 * a1 + 2))) / 10))) 59 (4 * a2 + 2) ((((c 59 (4 * a2 + 3)) * (c 48 (3 * a1 + 2))) / 10) + c 59 (4 * a2 + 2) - (((c 59 (4 * a2 + 2)) * (c 48 (3 * a1 + 1))) / 10))) 59 (4 * a2) ((((c 59 (4 * a2 + 1)) * (c 48 (3 * a1))) / 10) + c 59 (4 * a2) - ((((((c 59 (4 * a2 + 1)) * (c 48 (3 * a1))) / 10) + c 59 (4 * a2)) * (c 41 23)) / 100))) 59 35 y_20) 59 (4 * k9 + 2) = c 59 (4 * k9 + 2) := ((up_n (by omega)).trans ((up_n (by omega)).trans ((up_n (by omega)).trans ((up_n (by omega)).trans ((up_n (by omega)).trans ((up_n (by omega)).trans ((up_n (by omega)).trans (up_n (by omega)))))))))
      have h_42 := ir_59_g hI (j := 4 * k9 + 3) (by first | (clear ha1 ha2 h_2 h_3 h_4 h_5 h_7 h_8 h_9 h_10 h_11 h_12 h_13 h_14 h_15 h_16 h_17 h_18 h_19 h_36 h_38 h_40 h_6; omega) | omega)
      have h_43 : (up (up (up (up (up (up (up (up c 59 (4 * a2 + 1) (c 59 (4 * a2 + 1) - (((c 59 (4 * a2 + 1)) * (c 48 (3 * a1))) / 10))) 59 (4 * a2) ((((c 59 (4 * a2 + 1)) * (c 48 (3 * a1))) / 10) + c 59 (4 * a2))) 59 (4 * a2 + 2) (c 59 (4 * a2 + 2) - (((c 59 (4 * a2 + 2)) * (c 48 (3 * a1 + 1))) / 10))) 59 (4 * a2 + 1) ((((c 59 (4 * a2 + 2)) * (c 48 (3 * a1 + 1))) / 10) + c 59 (4 * a2 + 1) - (((c 59 (4 * a2 + 1)) * (c 48 (3 * a1))) / 10))) 59 (4 * a2 + 3) (c 59 (4 * a2 + 3) - (((c 59 (4 * a2 + 3)) * (c 48 (3 * a1 + 2))) / 10))) 59 (4 * a2 + 2) ((((c 59 (4 * a2 + 3)) * (c 48 (3 * a1 + 2))) / 10) + c 59 (4 * a2 + 2) - (((c 59 (4 * a2 + 2)) * (c 48 (3 * a1 + 1))) / 10))) 59 (4 * a2) ((((c 59 (4 * a2 + 1)) * (c 48 (3 * a1))) / 10) + c 59 (4 * a2) - ((((((c 59 (4 * a2 + 1)) * (c 48 (3 * a1))) / 10) + c 59 (4 * a2)) * (c 41 23)) / 100))) 59 35 y_20) 59 (4 * k9 + 3) = c 59 (4 * k9 + 3) := ((up_n (by omega)).trans ((up_n (by omega)).trans ((up_n (by omega)).trans ((up_n (by omega)).trans ((up_n (by omega)).trans ((up_n (by omega)).trans ((up_n (by omega)).trans (up_n (by omega)))))))))
      omega
    have hI_44 := iv_close hI_28 hr_29
    exact K (up (up (up (up (up (up (up (up c 59 (4 * a2 + 1) (c 59 (4 * a2 + 1) - (((c 59 (4 * a2 + 1)) * (c 48 (3 * a1))) / 10))) 59 (4 * a2) ((((c 59 (4 * a2 + 1)) * (c 48 (3 * a1))) / 10) + c 59 (4 * a2))) 59 (4 * a2 + 2) (c 59 (4 * a2 + 2) - (((c 59 (4 * a2 + 2)) * (c 48 (3 * a1 + 1))) / 10))) 59 (4 * a2 + 1) ((((c 59 (4 * a2 + 2)) * (c 48 (3 * a1 + 1))) / 10) + c 59 (4 * a2 + 1) - (((c 59 (4 * a2 + 1)) * (c 48 (3 * a1))) / 10))) 59 (4 * a2 + 3) (c 59 (4 * a2 + 3) - (((c 59 (4 * a2 + 3)) * (c 48 (3 * a1 + 2))) / 10))) 59 (4 * a2 + 2) ((((c 59 (4 * a2 + 3)) * (c 48 (3 * a1 + 2))) / 10) + c 59 (4 * a2 + 2) - (((c 59 (4 * a2 + 2)) * (c 48 (3 * a1 + 1))) / 10))) 59 (4 * a2) ((((c 59 (4 * a2 + 1)) * (c 48 (3 * a1))) / 10) + c 59 (4 * a2) - ((((((c 59 (4 * a2 + 1)) * (c 48 (3 * a1))) / 10) + c 59 (4 * a2)) * (c 41 23)) / 100))) 59 35 y_20) 1 hI_44 (fun a j hm => (up_b (Decidable.or_iff_not_imp_left.mpr (fun h1 h2 => hm (Decidable.not_not.mp h1)))).trans ((up_b (Decidable.or_iff_not_imp_left.mpr (fun h1 h2 => hm (Decidable.not_not.mp h1)))).trans ((up_b (Decidable.or_iff_not_imp_left.mpr (fun h1 h2 => hm (Decidable.not_not.mp h1)))).trans ((up_b (Decidable.or_iff_not_imp_left.mpr (fun h1 h2 => hm (Decidable.not_not.mp h1)))).trans ((up_b (Decidable.or_iff_not_imp_left.mpr (fun h1 h2 => hm (Decidable.not_not.mp h1)))).trans ((up_b (Decidable.or_iff_not_imp_left.mpr (fun h1 h2 => hm (Decidable.not_not.mp h1)))).trans ((up_b (Decidable.or_iff_not_imp_left.mpr (fun h1 h2 => hm (Decidable.not_not.mp h1)))).trans (up_b (Decidable.or_iff_not_imp_left.mpr (fun h1 h2 => hm (Decidable.not_not.mp h1))))))))))) ⟨by decide, by decide⟩
  · refine v_if_ne_f (t := 10) rfl (by decide) (Decidable.not_not.mp h_6) ?_
    refine q_iconst rfl ?_
    refine v_zret rfl rfl (by decide) ?_
    have hr_45 : ∀ j : Int, rs 59 j → c 59 j + c 59 (j + 1) + c 59 (j + 2) + c 59 (j + 3) ≤ 9999 := by
      intro j9 hj9
      obtain ⟨k9, rfl, hk9⟩ := rs_59 hj9
      by_cases e_46 : k9 = a2
      · skip
        have h_47 : c 59 (4 * k9) = c 59 (4 * a2) := (congrArg (c 59) (show 4 * k9 = 4 * a2 from by omega))
        have h_48 : c 59 (4 * k9 + 1) = c 59 (4 * a2 + 1) := (congrArg (c 59) (show 4 * k9 + 1 = 4 * a2 + 1 from by omega))
        have h_49 : c 59 (4 * k9 + 2) = c 59 (4 * a2 + 2) := (congrArg (c 59) (show 4 * k9 + 2 = 4 * a2 + 2 from by omega))
        have h_50 : c 59 (4 * k9 + 3) = c 59 (4 * a2 + 3) := (congrArg (c 59) (show 4 * k9 + 3 = 4 * a2 + 3 from by omega))
        omega
      have h_51 := iv_r hI 59 (4 * k9) hj9 (by omega)
      have h_52 := ir_59_g hI (j := 4 * k9) (by omega)
      have h_53 : c 59 (4 * k9) = c 59 (4 * k9) := rfl
      have h_54 := ir_59_g hI (j := 4 * k9 + 1) (by omega)
      have h_55 : c 59 (4 * k9 + 1) = c 59 (4 * k9 + 1) := rfl
      have h_56 := ir_59_g hI (j := 4 * k9 + 2) (by omega)
      have h_57 : c 59 (4 * k9 + 2) = c 59 (4 * k9 + 2) := rfl
      have h_58 := ir_59_g hI (j := 4 * k9 + 3) (by omega)
      have h_59 : c 59 (4 * k9 + 3) = c 59 (4 * k9 + 3) := rfl
      omega
    have hI_60 := iv_close hIo hr_45
    exact K c 0 hI_60 (fun a j hm => rfl) ⟨by decide, by decide⟩

set_option maxRecDepth 100000 in
set_option maxHeartbeats 4000000 in
theorem s_189 {sc : List Int32} {e : Int} {d u P Q : Nat} {c : ME} {v1 v2 v3 r : Int} {a1 : Int} {a2 : Int} {a3 : Int} {Z : AR → Prop} (hI : Iv u e P Q c) (ha1 : 0 ≤ a1 ∧ a1 ≤ 3) (ha2 : 0 ≤ a2 ∧ a2 ≤ 5) (ha3 : 0 ≤ a3 ∧ a3 ≤ 3) (hv0 : c 49 a1 = v1) (hv1 : c 59 (a1 + 30) = v2) (hv2 : c 59 (4 * a2 + a3) = v3) (hr9 : fal v1 (v2) a3 v3 = r) (K : Z (.inl (some (vi r)), Wd P Q P P c, 0, 0)) : Wp sc (d + 7) 189 0 [(0, .ref 41), (1, vi a1), (2, vi a2), (3, vi a3)] [] (Wd P Q P P c) 0 0 Z := by
  have hP := iv_P hI
  have hQ := iv_Q hI
  have h_1 := ir_49 hI a1
  have h_2 := ir_59 hI (a1 + 30)
  have h_3 := ir_59_g hI (j := 4 * a2 + a3) (by omega)
  refine q_iload_n rfl rfl ?_
  refine q_aload_n rfl rfl ?_
  refine v_gr (t := 49) rfl rfl rfl (by decide) rfl ?_
  refine q_iload_n rfl rfl ?_
  refine v_ia (v := v1) rfl rfl (by decide) (by decide) (by omega) (hv0) ?_
  by_cases h_4 : a3 > v1
  · refine v_ic_gt_t (t := 23) rfl (by decide) ⟨by omega, h_4, (Int.le_trans ha3.2 (by decide))⟩ ?_
    refine q_iload_n rfl rfl ?_
    refine q_aload_n rfl rfl ?_
    refine v_gr (t := 49) rfl rfl rfl (by decide) rfl ?_
    refine q_iload_n rfl rfl ?_
    refine v_ia (v := v1) rfl rfl (by decide) (by decide) (by omega) (hv0) ?_
    refine q_iconst rfl ?_
    refine v_iadd (v := v1 + 1) rfl rfl ?_
    by_cases h_5 : a3 ≠ v1 + 1
    · refine v_ic_ne_t (t := 63) rfl (by decide) ⟨h_5, ⟨(Int.le_trans (by decide) ha3.1), (Int.le_trans ha3.2 (by decide))⟩, by omega, by omega⟩ ?_
      refine q_iconst rfl ?_
      refine q_iret rfl rfl ?_
      exact zv (by rw [← hr9]; unfold fal; split <;> first | omega | (split <;> omega)) (K)
    · refine v_ic_ne_f (t := 63) rfl (by decide) (Decidable.not_not.mp h_5) ?_
      refine q_aload_n rfl rfl ?_
      refine v_gr (t := 59) rfl rfl rfl (by decide) rfl ?_
      refine v_bip rfl (by decide) ?_
      refine q_iload_n rfl rfl ?_
      refine v_iadd (v := a1 + 30) rfl (by omega) ?_
      refine v_ia (v := v2) rfl rfl (by decide) (by decide) (by omega) (hv1) ?_
      refine q_iconst rfl ?_
      by_cases h_6 : v2 ≠ 1
      · refine v_ic_ne_t (t := 63) rfl (by decide) ⟨h_6, ⟨by omega, by omega⟩, by decide, by decide⟩ ?_
        refine q_iconst rfl ?_
        refine q_iret rfl rfl ?_
        exact zv (by rw [← hr9]; unfold fal; split <;> first | omega | (split <;> omega)) (K)
      · refine v_ic_ne_f (t := 63) rfl (by decide) (Decidable.not_not.mp h_6) ?_
        refine q_aload_n rfl rfl ?_
        refine v_gr (t := 59) rfl rfl rfl (by decide) rfl ?_
        refine q_iconst rfl ?_
        refine q_iload_n rfl rfl ?_
        refine v_imul (v := 4 * a2) rfl rfl ?_
        refine q_iload_n rfl rfl ?_
        refine v_iadd (v := 4 * a2 + a3) rfl rfl ?_
        refine v_ia (v := v3) rfl rfl (by decide) (by decide) (by omega) (hv2) ?_
        refine q_iconst rfl ?_
        refine v_idiv (v := (v3 / 2)) rfl (by omega) rfl ?_
        refine q_goto (t := 64) rfl (by decide) ?_
        refine q_iret rfl rfl ?_
        exact zv (by rw [← hr9]; unfold fal; split <;> first | omega | (split <;> omega)) (K)
  · refine v_ic_gt_f (t := 23) rfl (by decide) ⟨(Int.le_trans (by decide) ha3.1), (Int.not_lt.mp h_4), by omega⟩ ?_
    refine q_aload_n rfl rfl ?_
    refine v_gr (t := 59) rfl rfl rfl (by decide) rfl ?_
    refine q_iconst rfl ?_
    refine q_iload_n rfl rfl ?_
    refine v_imul (v := 4 * a2) rfl rfl ?_
    refine q_iload_n rfl rfl ?_
    refine v_iadd (v := 4 * a2 + a3) rfl rfl ?_
    refine v_ia (v := v3) rfl rfl (by decide) (by decide) (by omega) (hv2) ?_
    refine q_goto (t := 64) rfl (by decide) ?_
    refine q_iret rfl rfl ?_
    exact zv (by rw [← hr9]; unfold fal; split <;> first | omega | (split <;> omega)) (K)

set_option maxRecDepth 100000 in
set_option maxHeartbeats 4000000 in
theorem s_190 {sc : List Int32} {e : Int} {d u P Q : Nat} {c : ME} {v1 v2 v3 v4 v5 v6 r : Int} {a1 : Int} {a2 : Int} {Z : AR → Prop} (hI : Iv u e P Q c) (ha1 : 0 ≤ a1 ∧ a1 ≤ 3) (ha2 : 0 ≤ a2 ∧ a2 ≤ 5) (hv0 : c 49 a1 = v1) (hv1 : c 59 (a1 + 30) = v2) (hv2 : c 59 (4 * a2) = v3) (hv3 : c 59 (4 * a2 + 1) = v4) (hv4 : c 59 (4 * a2 + 2) = v5) (hv5 : c 59 (4 * a2 + 3) = v6) (hr9 : fal v1 (v2) 0 v3 + fal v1 (v2) 1 v4 + fal v1 (v2) 2 v5 + fal v1 (v2) 3 v6 = r) (K : Z (.inl (some (vi r)), Wd P Q P P c, 0, 0)) : Wp sc (d + 8) 190 0 [(0, .ref 41), (1, vi a1), (2, vi a2)] [] (Wd P Q P P c) 0 0 Z := by
  have hP := iv_P hI
  have hQ := iv_Q hI
  have h_1 := ir_49 hI a1
  have h_2 := ir_59 hI (a1 + 30)
  have h_3 := ir_59_g hI (j := 4 * a2) (by omega)
  have h_4 := ir_59_g hI (j := 4 * a2 + 1) (by omega)
  have h_5 := ir_59_g hI (j := 4 * a2 + 2) (by omega)
  have h_6 := ir_59_g hI (j := 4 * a2 + 3) (by omega)
  refine q_iconst rfl ?_
  refine q_istore_n rfl (by decide) ?_
  refine q_iconst rfl ?_
  refine q_istore rfl (by decide) ?_
  refine q_iload rfl rfl ?_
  refine q_iconst rfl ?_
  refine v_ic_ge_f (t := 28) rfl (by decide) (by decide) ?_
  refine q_iload_n rfl rfl ?_
  refine q_aload_n rfl rfl ?_
  refine q_iload_n rfl rfl ?_
  refine q_iload_n rfl rfl ?_
  refine q_iload rfl rfl ?_
  have h_7 := fal_rng (m := v1) (t := v2) (g := 0) (x := v3) (by omega)
  refine v_cv rfl rfl rfl rfl (by decide) ⟨⟨rfl, rfl⟩, by decide, rfl⟩ (Nat.le_of_ble_eq_true rfl) (Nat.le_of_ble_eq_true rfl) (s_189 (v1 := v1) (v2 := v2) (v3 := v3) (r := (fal v1 (v2) 0 v3)) (a1 := a1) (a2 := a2) (a3 := 0) hI (show 0 ≤ a1 ∧ a1 ≤ 3 from ha1) (show 0 ≤ a2 ∧ a2 ≤ 5 from ha2) (show 0 ≤ 0 ∧ 0 ≤ 3 from ⟨by decide, by decide⟩) ((hv0)) ((hv1)) ((congrArg (c 59) (show 4 * a2 + 0 = 4 * a2 from by omega)).trans (hv2)) rfl ?_)
  refine bk_inl ?_
  refine v_iadd (v := (fal v1 (v2) 0 v3)) rfl (by first | (clear ha1 ha2 h_1 hv0 h_2 hv1 h_3 hv2 h_4 hv3 h_5 hv4 h_6 hv5 h_7; omega) | omega) ?_
  refine q_istore_n rfl (by decide) ?_
  refine v_iinc (v := 1) rfl rfl (by decide) (by decide) ?_
  refine q_goto (t := 5) rfl (by decide) ?_
  refine q_iload rfl rfl ?_
  refine q_iconst rfl ?_
  refine v_ic_ge_f (t := 28) rfl (by decide) (by decide) ?_
  refine q_iload_n rfl rfl ?_
  refine q_aload_n rfl rfl ?_
  refine q_iload_n rfl rfl ?_
  refine q_iload_n rfl rfl ?_
  refine q_iload rfl rfl ?_
  have h_8 := fal_rng (m := v1) (t := v2) (g := 1) (x := v4) (by omega)
  refine v_cv rfl rfl rfl rfl (by decide) ⟨⟨rfl, rfl⟩, by decide, rfl⟩ (Nat.le_of_ble_eq_true rfl) (Nat.le_of_ble_eq_true rfl) (s_189 (v1 := v1) (v2 := v2) (v3 := v4) (r := (fal v1 (v2) 1 v4)) (a1 := a1) (a2 := a2) (a3 := 1) hI (show 0 ≤ a1 ∧ a1 ≤ 3 from ha1) (show 0 ≤ a2 ∧ a2 ≤ 5 from ha2) (show 0 ≤ 1 ∧ 1 ≤ 3 from ⟨by decide, by decide⟩) ((hv0)) ((hv1)) ((hv3)) rfl ?_)
  refine bk_inl ?_
  refine v_iadd (v := (fal v1 (v2) 0 v3) + (fal v1 (v2) 1 v4)) rfl rfl ?_
  refine q_istore_n rfl (by decide) ?_
  refine Wp_ls [(3, vi ((fal v1 (v2) 0 v3) + (fal v1 (v2) 1 v4))), (4, vi 1), (0, .ref 41), (1, vi a1), (2, vi a2)] (lsub_cons rfl (lsub_cons rfl (lsub_cons rfl (lsub_cons rfl (lsub_cons rfl lsub_nil))))) ?_
  refine v_iinc (v := 2) rfl rfl (by decide) (by decide) ?_
  refine q_goto (t := 5) rfl (by decide) ?_
  refine q_iload rfl rfl ?_
  refine q_iconst rfl ?_
  refine v_ic_ge_f (t := 28) rfl (by decide) (by decide) ?_
  refine q_iload_n rfl rfl ?_
  refine q_aload_n rfl rfl ?_
  refine q_iload_n rfl rfl ?_
  refine q_iload_n rfl rfl ?_
  refine q_iload rfl rfl ?_
  have h_9 := fal_rng (m := v1) (t := v2) (g := 2) (x := v5) (by omega)
  refine v_cv rfl rfl rfl rfl (by decide) ⟨⟨rfl, rfl⟩, by decide, rfl⟩ (Nat.le_of_ble_eq_true rfl) (Nat.le_of_ble_eq_true rfl) (s_189 (v1 := v1) (v2 := v2) (v3 := v5) (r := (fal v1 (v2) 2 v5)) (a1 := a1) (a2 := a2) (a3 := 2) hI (show 0 ≤ a1 ∧ a1 ≤ 3 from ha1) (show 0 ≤ a2 ∧ a2 ≤ 5 from ha2) (show 0 ≤ 2 ∧ 2 ≤ 3 from ⟨by decide, by decide⟩) ((hv0)) ((hv1)) ((hv4)) rfl ?_)
  refine bk_inl ?_
  refine v_iadd (v := (fal v1 (v2) 0 v3) + (fal v1 (v2) 1 v4) + (fal v1 (v2) 2 v5)) rfl rfl ?_
  refine q_istore_n rfl (by decide) ?_
  refine v_iinc (v := 3) rfl rfl (by decide) (by decide) ?_
  refine q_goto (t := 5) rfl (by decide) ?_
  refine q_iload rfl rfl ?_
  refine q_iconst rfl ?_
  refine v_ic_ge_f (t := 28) rfl (by decide) (by decide) ?_
  refine q_iload_n rfl rfl ?_
  refine q_aload_n rfl rfl ?_
  refine q_iload_n rfl rfl ?_
  refine q_iload_n rfl rfl ?_
  refine q_iload rfl rfl ?_
  have h_10 := fal_rng (m := v1) (t := v2) (g := 3) (x := v6) (by omega)
  refine v_cv rfl rfl rfl rfl (by decide) ⟨⟨rfl, rfl⟩, by decide, rfl⟩ (Nat.le_of_ble_eq_true rfl) (Nat.le_of_ble_eq_true rfl) (s_189 (v1 := v1) (v2 := v2) (v3 := v6) (r := (fal v1 (v2) 3 v6)) (a1 := a1) (a2 := a2) (a3 := 3) hI (show 0 ≤ a1 ∧ a1 ≤ 3 from ha1) (show 0 ≤ a2 ∧ a2 ≤ 5 from ha2) (show 0 ≤ 3 ∧ 3 ≤ 3 from ⟨by decide, by decide⟩) ((hv0)) ((hv1)) ((hv5)) rfl ?_)
  refine bk_inl ?_
  refine v_iadd (v := (fal v1 (v2) 0 v3) + (fal v1 (v2) 1 v4) + (fal v1 (v2) 2 v5) + (fal v1 (v2) 3 v6)) rfl rfl ?_
  refine q_istore_n rfl (by decide) ?_
  refine v_iinc (v := 4) rfl rfl (by decide) (by decide) ?_
  refine Wp_ls [(4, vi 4), (3, vi ((fal v1 (v2) 0 v3) + (fal v1 (v2) 1 v4) + (fal v1 (v2) 2 v5) + (fal v1 (v2) 3 v6))), (0, .ref 41), (1, vi a1), (2, vi a2)] (lsub_cons rfl (lsub_cons rfl (lsub_cons rfl (lsub_cons rfl (lsub_cons rfl lsub_nil))))) ?_
  refine q_goto (t := 5) rfl (by decide) ?_
  refine q_iload rfl rfl ?_
  refine q_iconst rfl ?_
  refine v_ic_ge_t (t := 28) rfl (by decide) (by decide) ?_
  refine q_iload_n rfl rfl ?_
  refine q_iret rfl rfl ?_
  exact zv (by omega) (K)

set_option maxRecDepth 100000 in
set_option maxHeartbeats 4000000 in
theorem s_191 {sc : List Int32} {e : Int} {d u P Q : Nat} {c : ME} {a1 : Int} {a2 : Int} {Z : AR → Prop} (hI : Iv u e P Q c) (ha1 : 0 ≤ a1 ∧ a1 ≤ 5) (ha2 : (-2147483648) ≤ a2 ∧ a2 ≤ 2147483647) (K : ∀ (c2 : ME), Iv u e P Q c2 → (∀ (a : Nat) (j : Int), ¬ ((a = 59 ∧ j = a1 + 24)) → c2 a j = c a j) → Z (.inl (none), Wd P Q P P c2, 0, 0)) : Wp sc (d + 7) 191 0 [(0, .ref 41), (1, vi a1), (2, vi a2)] [] (Wd P Q P P c) 0 0 Z := by
  have hP := iv_P hI
  have hQ := iv_Q hI
  refine q_aload_n rfl rfl ?_
  refine v_gr (t := 59) rfl rfl rfl (by decide) rfl ?_
  refine v_bip rfl (by decide) ?_
  refine q_iload_n rfl rfl ?_
  refine v_iadd (v := a1 + 24) rfl (by omega) ?_
  refine q_iload_n rfl rfl ?_
  refine q_aload_n rfl rfl ?_
  refine v_gr (t := 59) rfl rfl rfl (by decide) rfl ?_
  refine v_bip rfl (by decide) ?_
  refine q_iload_n rfl rfl ?_
  refine v_iadd (v := a1 + 24) rfl (by omega) ?_
  have h_1 := ir_59 hI (a1 + 24)
  refine v_ia (v := c 59 (a1 + 24)) rfl rfl (by decide) (by decide) (by omega) rfl ?_
  by_cases h_2 : a2 ≤ c 59 (a1 + 24)
  · refine v_ic_le_t (t := 25) rfl (by decide) ⟨ha2.1, h_2, h_1.2⟩ ?_
    refine q_aload_n rfl rfl ?_
    refine v_gr (t := 59) rfl rfl rfl (by decide) rfl ?_
    refine v_bip rfl (by decide) ?_
    refine q_iload_n rfl rfl ?_
    refine v_iadd (v := a1 + 24) rfl (by omega) ?_
    refine v_ia (v := c 59 (a1 + 24)) rfl rfl (by decide) (by decide) (by omega) rfl ?_
    refine v_is rfl rfl (by decide) (by decide) (by omega) ?_
    refine q_vret rfl rfl ?_
    have hI_3 := iw_row (a := 59) (j := a1 + 24) (v := c 59 (a1 + 24)) hI (by omega) (Or.inr (by omega)) ⟨by omega, by omega, by omega⟩
    exact K (up c 59 (a1 + 24) (c 59 (a1 + 24))) hI_3 (fun a j hm => up_b (Decidable.or_iff_not_imp_left.mpr (fun h1 h2 => hm ⟨Decidable.not_not.mp h1, h2⟩)))
  · refine v_ic_le_f (t := 25) rfl (by decide) ⟨h_1.1, (Int.not_le.mp h_2), ha2.2⟩ ?_
    refine q_iload_n rfl rfl ?_
    refine q_goto (t := 34) rfl (by decide) ?_
    refine v_is rfl rfl (by decide) (by decide) (by omega) ?_
    refine q_vret rfl rfl ?_
    have hI_4 := iw_row (a := 59) (j := a1 + 24) (v := a2) hI (by omega) (Or.inr (by omega)) ⟨by omega, by omega, by omega⟩
    exact K (up c 59 (a1 + 24) a2) hI_4 (fun a j hm => up_b (Decidable.or_iff_not_imp_left.mpr (fun h1 h2 => hm ⟨Decidable.not_not.mp h1, h2⟩)))

set_option maxRecDepth 100000 in
set_option maxHeartbeats 4000000 in
theorem s_192 {sc : List Int32} {d P Q : Nat} {c : ME} {a1 : Int} {Z : AR → Prop} (hI : Iv 59 (-1) P Q c) (ha1 : 0 ≤ a1 ∧ a1 ≤ 5) (K : ∀ (c2 : ME), Iv 59 (-1) P Q c2 → (∀ (a : Nat) (j : Int), ¬ ((a = 59 ∧ j = 4 * a1) ∨ (a = 59 ∧ j = 4 * a1 + 1) ∨ (a = 59 ∧ j = 4 * a1 + 2) ∨ (a = 59 ∧ j = 4 * a1 + 3) ∨ (a = 59 ∧ j = a1 + 24)) → c2 a j = c a j) → ((c2 59 (4 * a1) = 0 ∧ c2 59 (4 * a1 + 1) = 0 ∧ c2 59 (4 * a1 + 2) = 0 ∧ c2 59 (4 * a1 + 3) = 0)) → Z (.inl (none), Wd P Q P P c2, 0, 0)) : Wp sc (d + 7) 192 0 [(0, .ref 41), (1, vi a1)] [] (Wd P Q P P c) 0 0 Z := by
  have hP := iv_P hI
  have hQ := iv_Q hI
  refine q_iconst rfl ?_
  refine q_istore_n rfl (by decide) ?_
  refine q_iload_n rfl rfl ?_
  refine q_iconst rfl ?_
  refine v_ic_ge_f (t := 24) rfl (by decide) (by decide) ?_
  refine q_aload_n rfl rfl ?_
  refine v_gr (t := 59) rfl rfl rfl (by decide) rfl ?_
  refine q_iconst rfl ?_
  refine q_iload_n rfl rfl ?_
  refine v_imul (v := 4 * a1) rfl rfl ?_
  refine q_iload_n rfl rfl ?_
  refine v_iadd (v := 4 * a1) rfl (by omega) ?_
  refine q_iconst rfl ?_
  refine v_is rfl rfl (by decide) (by decide) (by omega) ?_
  refine v_iinc (v := 1) rfl rfl (by decide) (by decide) ?_
  refine q_goto (t := 2) rfl (by decide) ?_
  refine q_iload_n rfl rfl ?_
  refine q_iconst rfl ?_
  refine v_ic_ge_f (t := 24) rfl (by decide) (by decide) ?_
  refine q_aload_n rfl rfl ?_
  refine v_gr (t := 59) rfl rfl rfl (by decide) rfl ?_
  refine q_iconst rfl ?_
  refine q_iload_n rfl rfl ?_
  refine v_imul (v := 4 * a1) rfl rfl ?_
  refine q_iload_n rfl rfl ?_
  refine v_iadd (v := 4 * a1 + 1) rfl rfl ?_
  refine q_iconst rfl ?_
  refine v_is rfl rfl (by decide) (by decide) (by omega) ?_
  refine v_iinc (v := 2) rfl rfl (by decide) (by decide) ?_
  refine q_goto (t := 2) rfl (by decide) ?_
  refine q_iload_n rfl rfl ?_
  refine q_iconst rfl ?_
  refine v_ic_ge_f (t := 24) rfl (by decide) (by decide) ?_
  refine q_aload_n rfl rfl ?_
  refine v_gr (t := 59) rfl rfl rfl (by decide) rfl ?_
  refine q_iconst rfl ?_
  refine q_iload_n rfl rfl ?_
  refine v_imul (v := 4 * a1) rfl rfl ?_
  refine q_iload_n rfl rfl ?_
  refine v_iadd (v := 4 * a1 + 2) rfl rfl ?_
  refine q_iconst rfl ?_
  refine v_is rfl rfl (by decide) (by decide) (by omega) ?_
  refine v_iinc (v := 3) rfl rfl (by decide) (by decide) ?_
  refine q_goto (t := 2) rfl (by decide) ?_
  refine q_iload_n rfl rfl ?_
  refine q_iconst rfl ?_
  refine v_ic_ge_f (t := 24) rfl (by decide) (by decide) ?_
  refine q_aload_n rfl rfl ?_
  refine v_gr (t := 59) rfl rfl rfl (by decide) rfl ?_
  refine q_iconst rfl ?_
  refine q_iload_n rfl rfl ?_
  refine v_imul (v := 4 * a1) rfl rfl ?_
  refine q_iload_n rfl rfl ?_
  refine v_iadd (v := 4 * a1 + 3) rfl rfl ?_
  refine q_iconst rfl ?_
  refine v_is rfl rfl (by decide) (by decide) (by omega) ?_
  refine v_iinc (v := 4) rfl rfl (by decide) (by decide) ?_
  refine Wp_ls [(2, vi 4), (0, .ref 41), (1, vi a1)] (lsub_cons rfl (lsub_cons rfl (lsub_cons rfl lsub_nil))) ?_
  refine q_goto (t := 2) rfl (by decide) ?_
  refine q_iload_n rfl rfl ?_
  refine q_iconst rfl ?_
  refine v_ic_ge_t (t := 24) rfl (by decide) (by decide) ?_
  refine q_aload_n rfl rfl ?_
  refine v_gr (t := 59) rfl rfl rfl (by decide) rfl ?_
  refine v_bip rfl (by decide) ?_
  refine q_iload_n rfl rfl ?_
  refine v_iadd (v := a1 + 24) rfl (by omega) ?_
  refine q_iconst rfl ?_
  refine v_is rfl rfl (by decide) (by decide) (by omega) ?_
  refine q_vret rfl rfl ?_
  have hI_1 := iw_row (a := 59) (j := 4 * a1) (v := 0) hI (by omega) (Or.inl rfl) ⟨by omega, by omega, by omega⟩
  have hI_2 := iw_row (a := 59) (j := 4 * a1 + 1) (v := 0) hI_1 (by omega) (Or.inl rfl) ⟨by omega, by omega, by omega⟩
  have hI_3 := iw_row (a := 59) (j := 4 * a1 + 2) (v := 0) hI_2 (by omega) (Or.inl rfl) ⟨by omega, by omega, by omega⟩
  have hI_4 := iw_row (a := 59) (j := 4 * a1 + 3) (v := 0) hI_3 (by omega) (Or.inl rfl) ⟨by omega, by omega, by omega⟩
  have hI_5 := iw_row (a := 59) (j := a1 + 24) (v := 0) hI_4 (by omega) (Or.inl rfl) ⟨by omega, by omega, by omega⟩
  have h_6 : (up (up (up (up (up c 59 (4 * a1) 0) 59 (4 * a1 + 1) 0) 59 (4 * a1 + 2) 0) 59 (4 * a1 + 3) 0) 59 (a1 + 24) 0) 59 (4 * a1 + 1) = 0 := ((up_n (by omega)).trans ((up_n (by omega)).trans ((up_n (by omega)).trans (up_e rfl))))
  have h_7 : (up (up (up (up (up c 59 (4 * a1) 0) 59 (4 * a1 + 1) 0) 59 (4 * a1 + 2) 0) 59 (4 * a1 + 3) 0) 59 (a1 + 24) 0) 59 (4 * a1 + 2) = 0 := ((up_n (by omega)).trans ((up_n (by omega)).trans (up_e rfl)))
  have h_8 : (up (up (up (up (up c 59 (4 * a1) 0) 59 (4 * a1 + 1) 0) 59 (4 * a1 + 2) 0) 59 (4 * a1 + 3) 0) 59 (a1 + 24) 0) 59 (4 * a1 + 3) = 0 := ((up_n (by omega)).trans (up_e rfl))
  have h_9 : (up (up (up (up (up c 59 (4 * a1) 0) 59 (4 * a1 + 1) 0) 59 (4 * a1 + 2) 0) 59 (4 * a1 + 3) 0) 59 (a1 + 24) 0) 59 (4 * a1) = 0 := ((up_n (by omega)).trans ((up_n (by omega)).trans ((up_n (by omega)).trans ((up_n (by omega)).trans (up_e rfl)))))
  exact K (up (up (up (up (up c 59 (4 * a1) 0) 59 (4 * a1 + 1) 0) 59 (4 * a1 + 2) 0) 59 (4 * a1 + 3) 0) 59 (a1 + 24) 0) hI_5 (fun a j hm => (up_b (Decidable.or_iff_not_imp_left.mpr (fun h1 h2 => hm (Or.inr (Or.inr (Or.inr (Or.inr ⟨Decidable.not_not.mp h1, h2⟩))))))).trans ((up_b (Decidable.or_iff_not_imp_left.mpr (fun h1 h2 => hm (Or.inr (Or.inr (Or.inr (Or.inl ⟨Decidable.not_not.mp h1, h2⟩))))))).trans ((up_b (Decidable.or_iff_not_imp_left.mpr (fun h1 h2 => hm (Or.inr (Or.inr (Or.inl ⟨Decidable.not_not.mp h1, h2⟩)))))).trans ((up_b (Decidable.or_iff_not_imp_left.mpr (fun h1 h2 => hm (Or.inr (Or.inl ⟨Decidable.not_not.mp h1, h2⟩))))).trans (up_b (Decidable.or_iff_not_imp_left.mpr (fun h1 h2 => hm (Or.inl ⟨Decidable.not_not.mp h1, h2⟩)))))))) ⟨by omega, by omega, by omega, by omega⟩

