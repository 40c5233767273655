/-! ===== contracts 11 ===== -/
set_option maxRecDepth 100000 in
set_option maxHeartbeats 4000000 in
theorem s_188 {sc : List Int32} {d P Q : Nat} {c : ME} {a1 : Int} {a2 : Int} {Z : AR → Prop} (hI : Iv 0 (-1) P Q c) (ha1 : 0 ≤ a1 ∧ a1 ≤ 3) (ha2 : 0 ≤ a2 ∧ a2 ≤ 5) (K : ∀ (c2 : ME) (y : Int), Iv 0 (-1) P Q c2 → (∀ (a : Nat) (j : Int), ¬ (a = 59) → c2 a j = c a j) → 0 ≤ y ∧ y ≤ 1 → Z (.inl (some (vi y)), Wd P Q P P c2, 0, 0)) : Wp sc (d + 8) 188 0 [(0, .ref 41), (1, vi a1), (2, vi a2)] [] (Wd P Q P P c) 0 0 Z := by
  have hP := iv_P hI
  have hQ := iv_Q hI
  have hIo : Iv 59 (-1) P Q c := iv_open hI
  have hsum_1 := ir_59_r hI (by decide) (j := a2) (by omega)
  have h_2 := ir_59_g hI (j := 4 * a2) (by omega)
  have h_3 := ir_59_g hI (j := 4 * a2 + 1) (by omega)
  have h_4 := ir_59_g hI (j := 4 * a2 + 2) (by omega)
  have h_5 := ir_59_g hI (j := 4 * a2 + 3) (by omega)
  refine q_aload_n rfl rfl ?_
  refine q_iload_n rfl rfl ?_
  refine v_cv rfl rfl rfl rfl (by decide) ⟨⟨rfl, rfl⟩, by decide, rfl⟩ (Nat.le_of_ble_eq_true rfl) (Nat.le_of_ble_eq_true rfl) (s_187 (v1 := c 59 (4 * a2)) (v2 := c 59 (4 * a2 + 1)) (v3 := c 59 (4 * a2 + 2)) (v4 := c 59 (4 * a2 + 3)) (r := c 59 (4 * a2 + 1) + c 59 (4 * a2 + 2) + c 59 (4 * a2 + 3) + c 59 (4 * a2)) (a1 := a2) hIo (show 0 ≤ a2 ∧ a2 ≤ 5 from by omega) (rfl) (rfl) (rfl) (rfl) (by omega) ?_)
  refine bk_inl ?_
  by_cases h_6 : c 59 (4 * a2 + 1) + c 59 (4 * a2 + 2) + c 59 (4 * a2 + 3) + c 59 (4 * a2) ≠ 0
  · refine v_if_ne_t (t := 10) rfl (by decide) (by omega) ?_
    refine q_iconst rfl ?_
    refine q_istore_n rfl (by decide) ?_
    refine q_iload_n rfl rfl ?_
    refine q_iconst rfl ?_
    refine v_ic_ge_f (t := 83) rfl (by decide) (by decide) ?_
    refine q_aload_n rfl rfl ?_
    refine v_gr (t := 59) rfl rfl rfl (by decide) rfl ?_
    refine q_iconst rfl ?_
    refine q_iload_n rfl rfl ?_
    refine v_imul (v := 4 * a2) rfl (by omega) ?_
    refine q_iload_n rfl rfl ?_
    refine v_iadd (v := 4 * a2 + 1) rfl (by omega) ?_
    refine v_ia (v := c 59 (4 * a2 + 1)) rfl rfl (by decide) (by decide) (by omega) rfl ?_
    refine q_aload_n rfl rfl ?_
    refine v_gr (t := 48) rfl rfl rfl (by decide) rfl ?_
    refine q_iconst rfl ?_
    refine q_iload_n rfl rfl ?_
    refine v_imul (v := 3 * a1) rfl (by omega) ?_
    refine q_iload_n rfl rfl ?_
    refine v_iadd (v := 3 * a1 + 1) rfl (by omega) ?_
    refine q_iconst rfl ?_
    refine v_isub (v := 3 * a1) rfl (by omega) ?_
    have h_7 := ir_48 hI (3 * a1)
    refine v_ia (v := c 48 (3 * a1)) rfl rfl (by decide) (by decide) (by omega) rfl ?_
    have h_8 : 0 ≤ (c 59 (4 * a2 + 1)) * (c 48 (3 * a1)) ∧ (c 59 (4 * a2 + 1)) * (c 48 (3 * a1)) ≤ 10 * (c 59 (4 * a2 + 1)) := mul_bd (by omega) (by omega) (by omega)
    have h_9 : 0 ≤ (c 59 (4 * a2 + 1)) * (c 48 (3 * a1)) ∧ (c 59 (4 * a2 + 1)) * (c 48 (3 * a1)) ≤ 9999 * (c 48 (3 * a1)) := mul_bd2 (by omega) (by omega) (by omega)
    refine v_imul (v := ((c 59 (4 * a2 + 1)) * (c 48 (3 * a1)))) rfl rfl ?_
    refine v_bip rfl (by decide) ?_
    refine v_idiv (v := (((c 59 (4 * a2 + 1)) * (c 48 (3 * a1))) / 10)) rfl (by omega) rfl ?_
    refine q_istore rfl (by decide) ?_
    refine q_aload_n rfl rfl ?_
    refine v_gr (t := 59) rfl rfl rfl (by decide) rfl ?_
    refine q_iconst rfl ?_
    refine q_iload_n rfl rfl ?_
    refine v_imul (v := 4 * a2) rfl (by omega) ?_
    refine q_iload_n rfl rfl ?_
    refine v_iadd (v := 4 * a2 + 1) rfl (by omega) ?_
    refine q_dup2 rfl ⟨rfl, rfl⟩ ?_
    refine v_ia (v := c 59 (4 * a2 + 1)) rfl rfl (by decide) (by decide) (by omega) rfl ?_
    refine q_iload rfl rfl ?_
    refine v_isub (v := c 59 (4 * a2 + 1) - (((c 59 (4 * a2 + 1)) * (c 48 (3 * a1))) / 10)) rfl (by omega) ?_
    refine v_is rfl rfl (by decide) (by decide) (by omega) ?_
    refine q_aload_n rfl rfl ?_
    refine v_gr (t := 59) rfl rfl rfl (by decide) rfl ?_
    refine q_iconst rfl ?_
    refine q_iload_n rfl rfl ?_
    refine v_imul (v := 4 * a2) rfl (by omega) ?_
    refine q_iload_n rfl rfl ?_
    refine v_iadd (v := 4 * a2 + 1) rfl (by omega) ?_
    refine q_iconst rfl ?_
    refine v_isub (v := 4 * a2) rfl (by omega) ?_
    refine q_dup2 rfl ⟨rfl, rfl⟩ ?_
    refine v_ia (v := c 59 (4 * a2)) rfl rfl (by decide) (by decide) (by omega) (up_n (by omega)) ?_
    refine q_iload rfl rfl ?_
    refine v_iadd (v := (((c 59 (4 * a2 + 1)) * (c 48 (3 * a1))) / 10) + c 59 (4 * a2)) rfl (by omega) ?_
    refine v_is rfl rfl (by decide) (by decide) (by omega) ?_
    refine v_iinc (v := 2) rfl rfl (by decide) (by decide) ?_
    refine q_goto (t := 12) rfl (by decide) ?_
    refine q_iload_n rfl rfl ?_
    refine q_iconst rfl ?_
    refine v_ic_ge_f (t := 83) rfl (by decide) (by decide) ?_
    refine q_aload_n rfl rfl ?_
    refine v_gr (t := 59) rfl rfl rfl (by decide) rfl ?_
    refine q_iconst rfl ?_
    refine q_iload_n rfl rfl ?_
    refine v_imul (v := 4 * a2) rfl (by omega) ?_
    refine q_iload_n rfl rfl ?_
    refine v_iadd (v := 4 * a2 + 2) rfl (by omega) ?_
    refine v_ia (v := c 59 (4 * a2 + 2)) rfl rfl (by decide) (by decide) (by omega) ((up_n (by omega)).trans (up_n (by omega))) ?_
    refine q_aload_n rfl rfl ?_
    refine v_gr (t := 48) rfl rfl rfl (by decide) rfl ?_
    refine q_iconst rfl ?_
    refine q_iload_n rfl rfl ?_
    refine v_imul (v := 3 * a1) rfl (by omega) ?_
    refine q_iload_n rfl rfl ?_
    refine v_iadd (v := 3 * a1 + 2) rfl (by omega) ?_
    refine q_iconst rfl ?_
    refine v_isub (v := 3 * a1 + 1) rfl (by omega) ?_
    have h_10 := ir_48 hI (3 * a1 + 1)
    refine v_ia (v := c 48 (3 * a1 + 1)) rfl rfl (by decide) (by decide) (by omega) ((up_c (by decide)).trans (up_c (by decide))) ?_
    have h_11 : 0 ≤ (c 59 (4 * a2 + 2)) * (c 48 (3 * a1 + 1)) ∧ (c 59 (4 * a2 + 2)) * (c 48 (3 * a1 + 1)) ≤ 10 * (c 59 (4 * a2 + 2)) := mul_bd (by omega) (by omega) (by omega)
    have h_12 : 0 ≤ (c 59 (4 * a2 + 2)) * (c 48 (3 * a1 + 1)) ∧ (c 59 (4 * a2 + 2)) * (c 48 (3 * a1 + 1)) ≤ 9999 * (c 48 (3 * a1 + 1)) := mul_bd2 (by omega) (by omega) (by omega)
    refine v_imul (v := ((c 59 (4 * a2 + 2)) * (c 48 (3 * a1 + 1)))) rfl rfl ?_
    refine v_bip rfl (by decide) ?_
    refine v_idiv (v := (((c 59 (4 * a2 + 2)) * (c 48 (3 * a1 + 1))) / 10)) rfl (by omega) rfl ?_
    refine q_istore rfl (by decide) ?_
    refine q_aload_n rfl rfl ?_
    refine v_gr (t := 59) rfl rfl rfl (by decide) rfl ?_
    refine q_iconst rfl ?_
    refine q_iload_n rfl rfl ?_
    refine v_imul (v := 4 * a2) rfl (by omega) ?_
    refine q_iload_n rfl rfl ?_
    refine v_iadd (v := 4 * a2 + 2) rfl (by omega) ?_
    refine q_dup2 rfl ⟨rfl, rfl⟩ ?_
    refine v_ia (v := c 59 (4 * a2 + 2)) rfl rfl (by decide) (by decide) (by omega) ((up_n (by omega)).trans (up_n (by omega))) ?_
    refine q_iload rfl rfl ?_
    refine v_isub (v := c 59 (4 * a2 + 2) - (((c 59 (4 * a2 + 2)) * (c 48 (3 * a1 + 1))) / 10)) rfl (by omega) ?_
    refine v_is rfl rfl (by decide) (by decide) (by omega) ?_
    refine q_aload_n rfl rfl ?_
    refine v_gr (t := 59) rfl rfl rfl (by decide) rfl ?_
    refine q_iconst rfl ?_
    refine q_iload_n rfl rfl ?_
    refine v_imul (v := 4 * a2) rfl (by omega) ?_
    refine q_iload_n rfl rfl ?_
    refine v_iadd (v := 4 * a2 + 2) rfl (by omega) ?_
    refine q_iconst rfl ?_
    refine v_isub (v := 4 * a2 + 1) rfl (by omega) ?_
    refine q_dup2 rfl ⟨rfl, rfl⟩ ?_
    refine v_ia (v := c 59 (4 * a2 + 1) - (((c 59 (4 * a2 + 1)) * (c 48 (3 * a1))) / 10)) rfl rfl (by decide) (by decide) (by omega) ((up_n (by omega)).trans ((up_n (by omega)).trans (up_e rfl))) ?_
    refine q_iload rfl rfl ?_
    refine v_iadd (v := (((c 59 (4 * a2 + 2)) * (c 48 (3 * a1 + 1))) / 10) + c 59 (4 * a2 + 1) - (((c 59 (4 * a2 + 1)) * (c 48 (3 * a1))) / 10)) rfl (by omega) ?_
    refine v_is rfl rfl (by decide) (by decide) (by omega) ?_
    refine v_iinc (v := 3) rfl rfl (by decide) (by decide) ?_
    refine Wp_ls [(3, vi 3), (4, vi (((c 59 (4 * a2 + 2)) * (c 48 (3 * a1 + 1))) / 10)), (0, .ref 41), (1, vi a1), (2, vi a2)] (lsub_cons rfl (lsub_cons rfl (lsub_cons rfl (lsub_cons rfl (lsub_cons rfl lsub_nil))))) ?_
    refine q_goto (t := 12) rfl (by decide) ?_
    refine q_iload_n rfl rfl ?_
    refine q_iconst rfl ?_
    refine v_ic_ge_f (t := 83) rfl (by decide) (by decide) ?_
    refine q_aload_n rfl rfl ?_
    refine v_gr (t := 59) rfl rfl rfl (by decide) rfl ?_
    refine q_iconst rfl ?_
    refine q_iload_n rfl rfl ?_
    refine v_imul (v := 4 * a2) rfl (by omega) ?_
    refine q_iload_n rfl rfl ?_
    refine v_iadd (v := 4 * a2 + 3) rfl (by omega) ?_
    refine v_ia (v := c 59 (4 * a2 + 3)) rfl rfl (by decide) (by decide) (by omega) ((up_n (by omega)).trans ((up_n (by omega)).trans ((up_n (by omega)).trans (up_n (by omega))))) ?_
    refine q_aload_n rfl rfl ?_
    refine v_gr (t := 48) rfl rfl rfl (by decide) rfl ?_
    refine q_iconst rfl ?_
    refine q_iload_n rfl rfl ?_
    refine v_imul (v := 3 * a1) rfl (by omega) ?_
    refine q_iload_n rfl rfl ?_
    refine v_iadd (v := 3 * a1 + 3) rfl (by omega) ?_
    refine q_iconst rfl ?_
    refine v_isub (v := 3 * a1 + 2) rfl (by omega) ?_
    have h_13 := ir_48 hI (3 * a1 + 2)
    refine v_ia (v := c 48 (3 * a1 + 2)) rfl rfl (by decide) (by decide) (by omega) ((up_c (by decide)).trans ((up_c (by decide)).trans ((up_c (by decide)).trans (up_c (by decide))))) ?_
    have h_14 : 0 ≤ (c 59 (4 * a2 + 3)) * (c 48 (3 * a1 + 2)) ∧ (c 59 (4 * a2 + 3)) * (c 48 (3 * a1 + 2)) ≤ 10 * (c 59 (4 * a2 + 3)) := mul_bd (by omega) (by omega) (by omega)
    have h_15 : 0 ≤ (c 59 (4 * a2 + 3)) * (c 48 (3 * a1 + 2)) ∧ (c 59 (4 * a2 + 3)) * (c 48 (3 * a1 + 2)) ≤ 9999 * (c 48 (3 * a1 + 2)) := mul_bd2 (by omega) (by omega) (by omega)
    refine v_imul (v := ((c 59 (4 * a2 + 3)) * (c 48 (3 * a1 + 2)))) rfl rfl ?_
    refine v_bip rfl (by decide) ?_
    refine v_idiv (v := (((c 59 (4 * a2 + 3)) * (c 48 (3 * a1 + 2))) / 10)) rfl (by omega) rfl ?_
    refine q_istore rfl (by decide) ?_
    refine q_aload_n rfl rfl ?_
    refine v_gr (t := 59) rfl rfl rfl (by decide) rfl ?_
    refine q_iconst rfl ?_
    refine q_iload_n rfl rfl ?_
    refine v_imul (v := 4 * a2) rfl (by omega) ?_
    refine q_iload_n rfl rfl ?_
    refine v_iadd (v := 4 * a2 + 3) rfl (by omega) ?_
    refine q_dup2 rfl ⟨rfl, rfl⟩ ?_
    refine v_ia (v := c 59 (4 * a2 + 3)) rfl rfl (by decide) (by decide) (by omega) ((up_n (by omega)).trans ((up_n (by omega)).trans ((up_n (by omega)).trans (up_n (by omega))))) ?_
    refine q_iload rfl rfl ?_
    refine v_isub (v := c 59 (4 * a2 + 3) - (((c 59 (4 * a2 + 3)) * (c 48 (3 * a1 + 2))) / 10)) rfl (by omega) ?_
    refine v_is rfl rfl (by decide) (by decide) (by omega) ?_
    refine q_aload_n rfl rfl ?_
    refine v_gr (t := 59) rfl rfl rfl (by decide) rfl ?_
    refine q_iconst rfl ?_
    refine q_iload_n rfl rfl ?_
    refine v_imul (v := 4 * a2) rfl (by omega) ?_
    refine q_iload_n rfl rfl ?_
    refine v_iadd (v := 4 * a2 + 3) rfl (by omega) ?_
    refine q_iconst rfl ?_
    refine v_isub (v := 4 * a2 + 2) rfl (by omega) ?_
    refine q_dup2 rfl ⟨rfl, rfl⟩ ?_
    refine v_ia (v := c 59 (4 * a2 + 2) - (((c 59 (4 * a2 + 2)) * (c 48 (3 * a1 + 1))) / 10)) rfl rfl (by decide) (by decide) (by omega) ((up_n (by omega)).trans ((up_n (by omega)).trans (up_e rfl))) ?_
    refine q_iload rfl rfl ?_
    refine v_iadd (v := (((c 59 (4 * a2 + 3)) * (c 48 (3 * a1 + 2))) / 10) + c 59 (4 * a2 + 2) - (((c 59 (4 * a2 + 2)) * (c 48 (3 * a1 + 1))) / 10)) rfl (by omega) ?_
    refine v_is rfl rfl (by decide) (by decide) (by omega) ?_
    refine v_iinc (v := 4) rfl rfl (by decide) (by decide) ?_
    refine q_goto (t := 12) rfl (by decide) ?_
    refine q_iload_n rfl rfl ?_
    refine q_iconst rfl ?_
    refine v_ic_ge_t (t := 83) rfl (by decide) (by decide) ?_
    refine q_aload_n rfl rfl ?_
    refine v_gr (t := 59) rfl rfl rfl (by decide) rfl ?_
    refine q_iconst rfl ?_
    refine q_iload_n rfl rfl ?_
    refine v_imul (v := 4 * a2) rfl (by omega) ?_
    refine v_ia (v := (((c 59 (4 * a2 + 1)) * (c 48 (3 * a1))) / 10) + c 59 (4 * a2)) rfl rfl (by decide) (by decide) (by omega) ((up_n (by omega)).trans ((up_n (by omega)).trans ((up_n (by omega)).trans ((up_n (by omega)).trans (up_e rfl))))) ?_
    refine q_aload_n rfl rfl ?_
    have h_16 := ir_41_23 hI
    refine v_gi (z := 23) (v := c 41 23) rfl rfl rfl (by decide) rfl rfl ((up_c (by decide)).trans ((up_c (by decide)).trans ((up_c (by decide)).trans ((up_c (by decide)).trans ((up_c (by decide)).trans (up_c (by decide))))))) ?_
    have h_17 : 0 ≤ ((((c 59 (4 * a2 + 1)) * (c 48 (3 * a1))) / 10) + c 59 (4 * a2)) * (c 41 23) ∧ ((((c 59 (4 * a2 + 1)) * (c 48 (3 * a1))) / 10) + c 59 (4 * a2)) * (c 41 23) ≤ 50 * ((((c 59 (4 * a2 + 1)) * (c 48 (3 * a1))) / 10) + c 59 (4 * a2)) := mul_bd (by omega) (by omega) (by omega)
    have h_18 : 0 ≤ ((((c 59 (4 * a2 + 1)) * (c 48 (3 * a1))) / 10) + c 59 (4 * a2)) * (c 41 23) ∧ ((((c 59 (4 * a2 + 1)) * (c 48 (3 * a1))) / 10) + c 59 (4 * a2)) * (c 41 23) ≤ 9999 * (c 41 23) := mul_bd2 (by omega) (by omega) (by omega)
    refine v_imul (v := (((((c 59 (4 * a2 + 1)) * (c 48 (3 * a1))) / 10) + c 59 (4 * a2)) * (c 41 23))) rfl rfl ?_
    refine v_bip rfl (by decide) ?_
    refine v_idiv (v := ((((((c 59 (4 * a2 + 1)) * (c 48 (3 * a1))) / 10) + c 59 (4 * a2)) * (c 41 23)) / 100)) rfl (by omega) rfl ?_
    refine q_istore_n rfl (by decide) ?_
    refine q_aload_n rfl rfl ?_
    refine v_gr (t := 59) rfl rfl rfl (by decide) rfl ?_
    refine q_iconst rfl ?_
    refine q_iload_n rfl rfl ?_
    refine v_imul (v := 4 * a2) rfl (by omega) ?_
    refine q_dup2 rfl ⟨rfl, rfl⟩ ?_
    refine v_ia (v := (((c 59 (4 * a2 + 1)) * (c 48 (3 * a1))) / 10) + c 59 (4 * a2)) rfl rfl (by decide) (by decide) (by omega) ((up_n (by omega)).trans ((up_n (by omega)).trans ((up_n (by omega)).trans ((up_n (by omega)).trans (up_e rfl))))) ?_
    refine q_iload_n rfl rfl ?_
    refine v_isub (v := (((c 59 (4 * a2 + 1)) * (c 48 (3 * a1))) / 10) + c 59 (4 * a2) - ((((((c 59 (4 * a2 + 1)) * (c 48 (3 * a1))) / 10) + c 59 (4 * a2)) * (c 41 23)) / 100)) rfl (by omega) ?_
    refine v_is rfl rfl (by decide) (by decide) (by omega) ?_
    refine q_aload_n rfl rfl ?_
    refine v_gr (t := 59) rfl rfl rfl (by decide) rfl ?_
    refine v_bip rfl (by decide) ?_
    refine q_dup2 rfl ⟨rfl, rfl⟩ ?_
    have h_19 := ir_59 hI 35
    refine v_ia (v := c 59 35) rfl rfl (by decide) (by decide) (by decide) ((up_n (by omega)).trans ((up_n (by omega)).trans ((up_n (by omega)).trans ((up_n (by omega)).trans ((up_n (by omega)).trans ((up_n (by omega)).trans (up_n (by omega)))))))) ?_
    refine q_iload_n rfl rfl ?_
    refine v_iadd (v := ((((((c 59 (4 * a2 + 1)) * (c 48 (3 * a1))) / 10) + c 59 (4 * a2)) * (c 41 23)) / 100) + c 59 35) rfl (by omega) ?_
    refine v_nrm (fun y_20 hy_20 => ?_)
    refine v_is rfl rfl (by decide) (by decide) (by decide) ?_
    refine q_iconst rfl ?_
    refine v_zret rfl rfl (by omega) ?_
    have hI_21 := iw_row (a := 59) (j := 4 * a2 + 1) (v := c 59 (4 * a2 + 1) - (((c 59 (4 * a2 + 1)) * (c 48 (3 * a1))) / 10)) hIo (by omega) (Or.inl rfl) ⟨by omega, by omega, by omega⟩
    have hI_22 := iw_row (a := 59) (j := 4 * a2) (v := (((c 59 (4 * a2 + 1)) * (c 48 (3 * a1))) / 10) + c 59 (4 * a2)) hI_21 (by omega) (Or.inl rfl) ⟨by omega, by omega, by omega⟩
    have hI_23 := iw_row (a := 59) (j := 4 * a2 + 2) (v := c 59 (4 * a2 + 2) - (((c 59 (4 * a2 + 2)) * (c 48 (3 * a1 + 1))) / 10)) hI_22 (by omega) (Or.inl rfl) ⟨by omega, by omega, by omega⟩
    have hI_24 := iw_row (a := 59) (j := 4 * a2 + 1) (v := (((c 59 (4 * a2 + 2)) * (c 48 (3 * a1 + 1))) / 10) + c 59 (4 * a2 + 1) - (((c 59 (4 * a2 + 1)) * (c 48 (3 * a1))) / 10)) hI_23 (by omega) (Or.inl rfl) ⟨by omega, by omega, by omega⟩
    have hI_25 := iw_row (a := 59) (j := 4 * a2 + 3) (v := c 59 (4 * a2 + 3) - (((c 59 (4 * a2 + 3)) * (c 48 (3 * a1 + 2))) / 10)) hI_24 (by omega) (Or.inl rfl) ⟨by omega, by omega, by omega⟩
    have hI_26 := iw_row (a := 59) (j := 4 * a2 + 2) (v := (((c 59 (4 * a2 + 3)) * (c 48 (3 * a1 + 2))) / 10) + c 59 (4 * a2 + 2) - (((c 59 (4 * a2 + 2)) * (c 48 (3 * a1 + 1))) / 10)) hI_25 (by omega) (Or.inl rfl) ⟨by omega, by omega, by omega⟩
    have hI_27 := iw_row (a := 59) (j := 4 * a2) (v := (((c 59 (4 * a2 + 1)) * (c 48 (3 * a1))) / 10) + c 59 (4 * a2) - ((((((c 59 (4 * a2 + 1)) * (c 48 (3 * a1))) / 10) + c 59 (4 * a2)) * (c 41 23)) / 100)) hI_26 (by omega) (Or.inl rfl) ⟨by omega, by omega, by omega⟩
    have hI_28 := iw_row (a := 59) (j := 35) (v := y_20) hI_27 (by omega) (Or.inr (by omega)) ⟨by omega, by omega, by omega⟩
    have hr_29 : ∀ j : Int, rs 59 j → (up (up (up (up (up (up (up (up c 59 (4 * a2 + 1) (c 59 (4 * a2 + 1) - (((c 59 (4 * a2 + 1)) * (c 48 (3 * a1))) / 10))) 59 (4 * a2) ((((c 59 (4 * a2 + 1)) * (c 48 (3 * a1))) / 10) + c 59 (4 * a2))) 59 (4 * a2 + 2) (c 59 (4 * a2 + 2) - (((c 59 (4 * a2 + 2)) * (c 48 (3 * a1 + 1))) / 10))) 59 (4 * a2 + 1) ((((c 59 (4 * a2 + 2)) * (c 48 (3 * a1 + 1))) / 10) + c 59 (4 * a2 + 1) - (((c 59 (4 * a2 + 1)) * (c 48 (3 * a1))) / 10))) 59 (4 * a2 + 3) (c 59 (4 * a2 + 3) - (((c 59 (4 * a2 + 3)) * (c 48 (3 * a1 + 2))) / 10))) 59 (4 * a2 + 2) ((((c 59 (4 * a2 + 3)) * (c 48 (3 * a1 + 2))) / 10) + c 59 (4 * a2 + 2) - (((c 59 (4 * a2 + 2)) * (c 48 (3 * a1 + 1))) / 10))) 59 (4 * a2) ((((c 59 (4 * a2 + 1)) * (c 48 (3 * a1))) / 10) + c 59 (4 * a2) - ((((((c 59 (4 * a2 + 1)) * (c 48 (3 * a1))) / 10) + c 59 (4 * a2)) * (c 41 23)) / 100))) 59 35 y_20) 59 j + (up (up (up (up (up (up (up (up c 59 (4 * a2 + 1) (c 59 (4 * a2 + 1) - (((c 59 (4 * a2 + 1)) * (c 48 (3 * a1))) / 10))) 59 (4 * a2) ((((c 59 (4 * a2 + 1)) * (c 48 (3 * a1))) / 10) + c 59 (4 * a2))) 59 (4 * a2 + 2) (c 59 (4 * a2 + 2) - (((c 59 (4 * a2 + 2)) * (c 48 (3 * a1 + 1))) / 10))) 59 (4 * a2 + 1) ((((c 59 (4 * a2 + 2)) * (c 48 (3 * a1 + 1))) / 10) + c 59 (4 * a2 + 1) - (((c 59 (4 * a2 + 1)) * (c 48 (3 * a1))) / 10))) 59 (4 * a2 + 3) (c 59 (4 * a2 + 3) - (((c 59 (4 * a2 + 3)) * (c 48 (3 * a1 + 2))) / 10))) 59 (4 * a2 + 2) ((((c 59 (4 * a2 + 3)) * (c 48 (3 * a1 + 2))) / 10) + c 59 (4 * a2 + 2) - (((c 59 (4 * a2 + 2)) * (c 48 (3 * a1 + 1))) / 10))) 59 (4 * a2) ((((c 59 (4 * a2 + 1)) * (c 48 (3 * a1))) / 10) + c 59 (4 * a2) - ((((((c 59 (4 * a2 + 1)) * (c 48 (3 * a1))) / 10) + c 59 (4 * a2)) * (c 41 23)) / 100))) 59 35 y_20) 59 (j + 1) + (up (up (up (up (up (up (up (up c 59 (4 * a2 + 1) (c 59 (4 * a2 + 1) - (((c 59 (4 * a2 + 1)) * (c 48 (3 * a1))) / 10))) 59 (4 * a2) ((((c 59 (4 * a2 + 1)) * (c 48 (3 * a1))) / 10) + c 59 (4 * a2))) 59 (4 * a2 + 2) (c 59 (4 * a2 + 2) - (((c 59 (4 * a2 + 2)) * (c 48 (3 * a1 + 1))) / 10))) 59 (4 * a2 + 1) ((((c 59 (4 * a2 + 2)) * (c 48 (3 * a1 + 1))) / 10) + c 59 (4 * a2 + 1) - (((c 59 (4 * a2 + 1)) * (c 48 (3 * a1))) / 10))) 59 (4 * a2 + 3) (c 59 (4 * a2 + 3) - (((c 59 (4 * a2 + 3)) * (c 48 (3 * a1 + 2))) / 10))) 59 (4 * a2 + 2) ((((c 59 (4 * a2 + 3)) * (c 48 (3 * a1 + 2))) / 10) + c 59 (4 * a2 + 2) - (((c 59 (4 * a2 + 2)) * (c 48 (3 * a1 + 1))) / 10))) 59 (4 * a2) ((((c 59 (4 * a2 + 1)) * (c 48 (3 * a1))) / 10) + c 59 (4 * a2) - ((((((c 59 (4 * a2 + 1)) * (c 48 (3 * a1))) / 10) + c 59 (4 * a2)) * (c 41 23)) / 100))) 59 35 y_20) 59 (j + 2) + (up (up (up (up (up (up (up (up c 59 (4 * a2 + 1) (c 59 (4 * a2 + 1) - (((c 59 (4 * a2 + 1)) * (c 48 (3 * a1))) / 10))) 59 (4 * a2) ((((c 59 (4 * a2 + 1)) * (c 48 (3 * a1))) / 10) + c 59 (4 * a2))) 59 (4 * a2 + 2) (c 59 (4 * a2 + 2) - (((c 59 (4 * a2 + 2)) * (c 48 (3 * a1 + 1))) / 10))) 59 (4 * a2 + 1) ((((c 59 (4 * a2 + 2)) * (c 48 (3 * a1 + 1))) / 10) + c 59 (4 * a2 + 1) - (((c 59 (4 * a2 + 1)) * (c 48 (3 * a1))) / 10))) 59 (4 * a2 + 3) (c 59 (4 * a2 + 3) - (((c 59 (4 * a2 + 3)) * (c 48 (3 * a1 + 2))) / 10))) 59 (4 * a2 + 2) ((((c 59 (4 * a2 + 3)) * (c 48 (3 * a1 + 2))) / 10) + c 59 (4 * a2 + 2) - (((c 59 (4 * a2 + 2)) * (c 48 (3 * a1 + 1))) / 10))) 59 (4 * a2) ((((c 59 (4 * a2 + 1)) * (c 48 (3 * a1))) / 10) + c 59 (4 * a2) - ((((((c 59 (4 * a2 + 1)) * (c 48 (3 * a1))) / 10) + c 59 (4 * a2)) * (c 41 23)) / 100))) 59 35 y_20) 59 (j + 3) ≤ 9999 := by
      intro j9 hj9
      obtain ⟨k9, rfl, hk9⟩ := rs_59 hj9
      by_cases e_30 : k9 = a2
      · skip
        have h_31 : (up (up (up (up (up (up (up (up c 59 (4 * a2 + 1) (c 59 (4 * a2 + 1) - (((c 59 (4 * a2 + 1)) * (c 48 (3 * a1))) / 10))) 59 (4 * a2) ((((c 59 (4 * a2 + 1)) * (c 48 (3 * a1))) / 10) + c 59 (4 * a2))) 59 (4 * a2 + 2) (c 59 (4 * a2 + 2) - (((c 59 (4 * a2 + 2)) * (c 48 (3 * a1 + 1))) / 10))) 59 (4 * a2 + 1) ((((c 59 (4 * a2 + 2)) * (c 48 (3 * a1 + 1))) / 10) + c 59 (4 * a2 + 1) - (((c 59 (4 * a2 + 1)) * (c 48 (3 * a1))) / 10))) 59 (4 * a2 + 3) (c 59 (4 * a2 + 3) - (((c 59 (4 * a2 + 3)) * (c 48 (3 * a1 + 2))) / 10))) 59 (4 * a2 + 2) ((((c 59 (4 * a2 + 3)) * (c 48 (3 * a1 + 2))) / 10) + c 59 (4 * a2 + 2) - (((c 59 (4 * a2 + 2)) * (c 48 (3 * a1 + 1))) / 10))) 59 (4 * a2) ((((c 59 (4 * a2 + 1)) * (c 48 (3 * a1))) / 10) + c 59 (4 * a2) - ((((((c 59 (4 * a2 + 1)) * (c 48 (3 * a1))) / 10) + c 59 (4 * a2)) * (c 41 23)) / 100))) 59 35 y_20) 59 (4 * k9) = (((c 59 (4 * a2 + 1)) * (c 48 (3 * a1))) / 10) + c 59 (4 * a2) - ((((((c 59 (4 * a2 + 1)) * (c 48 (3 * a1))) / 10) + c 59 (4 * a2)) * (c 41 23)) / 100) := (congrArg ((up (up (up (up (up (up (up (up c 59 (4 * a2 + 1) (c 59 (4 * a2 + 1) - (((c 59 (4 * a2 + 1)) * (c 48 (3 * a1))) / 10))) 59 (4 * a2) ((((c 59 (4 * a2 + 1)) * (c 48 (3 * a1))) / 10) + c 59 (4 * a2))) 59 (4 * a2 + 2) (c 59 (4 * a2 + 2) - (((c 59 (4 * a2 + 2)) * (c 48 (3 * a1 + 1))) / 10))) 59 (4 * a2 + 1) ((((c 59 (4 * a2 + 2)) * (c 48 (3 * a1 + 1))) / 10) + c 59 (4 * a2 + 1) - (((c 59 (4 * a2 + 1)) * (c 48 (3 * a1))) / 10))) 59 (4 * a2 + 3) (c 59 (4 * a2 + 3) - (((c 59 (4 * a2 + 3)) * (c 48 (3 * a1 + 2))) / 10))) 59 (4 * a2 + 2) ((((c 59 (4 * a2 + 3)) * (c 48 (3 * a1 + 2))) / 10) + c 59 (4 * a2 + 2) - (((c 59 (4 * a2 + 2)) * (c 48 (3 * a1 + 1))) / 10))) 59 (4 * a2) ((((c 59 (4 * a2 + 1)) * (c 48 (3 * a1))) / 10) + c 59 (4 * a2) - ((((((c 59 (4 * a2 + 1)) * (c 48 (3 * a1))) / 10) + c 59 (4 * a2)) * (c 41 23)) / 100))) 59 35 y_20) 59) (show 4 * k9 = 4 * a2 from by omega)).trans ((up_n (by omega)).trans (up_e rfl))
        have h_32 : (up (up (up (up (up (up (up (up c 59 (4 * a2 + 1) (c 59 (4 * a2 + 1) - (((c 59 (4 * a2 + 1)) * (c 48 (3 * a1))) / 10))) 59 (4 * a2) ((((c 59 (4 * a2 + 1)) * (c 48 (3 * a1))) / 10) + c 59 (4 * a2))) 59 (4 * a2 + 2) (c 59 (4 * a2 + 2) - (((c 59 (4 * a2 + 2)) * (c 48 (3 * a1 + 1))) / 10))) 59 (4 * a2 + 1) ((((c 59 (4 * a2 + 2)) * (c 48 (3 * a1 + 1))) / 10) + c 59 (4 * a2 + 1) - (((c 59 (4 * a2 + 1)) * (c 48 (3 * a1))) / 10))) 59 (4 * a2 + 3) (c 59 (4 * a2 + 3) - (((c 59 (4 * a2 + 3)) * (c 48 (3 * a1 + 2))) / 10))) 59 (4 * a2 + 2) ((((c 59 (4 * a2 + 3)) * (c 48 (3 * a1 + 2))) / 10) + c 59 (4 * a2 + 2) - (((c 59 (4 * a2 + 2)) * (c 48 (3 * a1 + 1))) / 10))) 59 (4 * a2) ((((c 59 (4 * a2 + 1)) * (c 48 (3 * a1))) / 10) + c 59 (4 * a2) - ((((((c 59 (4 * a2 + 1)) * (c 48 (3 * a1))) / 10) + c 59 (4 * a2)) * (c 41 23)) / 100))) 59 35 y_20) 59 (4 * k9 + 1) = (((c 59 (4 * a2 + 2)) * (c 48 (3 * a1 + 1))) / 10) + c 59 (4 * a2 + 1) - (((c 59 (4 * a2 + 1)) * (c 48 (3 * a1))) / 10) := (congrArg ((up (up (up (up (up (up (up (up c 59 (4 * a2 + 1) (c 59 (4 * a2 + 1) - (((c 59 (4 * a2 + 1)) * (c 48 (3 * a1))) / 10))) 59 (4 * a2) ((((c 59 (4 * a2 + 1)) * (c 48 (3 * a1))) / 10) + c 59 (4 * a2))) 59 (4 * a2 + 2) (c 59 (4 * a2 + 2) - (((c 59 (4 * a2 + 2)) * (c 48 (3 * a1 + 1))) / 10))) 59 (4 * a2 + 1) ((((c 59 (4 * a2 + 2)) * (c 48 (3 * a1 + 1))) / 10) + c 59 (4 * a2 + 1) - (((c 59 (4 * a2 + 1)) * (c 48 (3 * a1))) / 10))) 59 (4 * a2 + 3) (c 59 (4 * a2 + 3) - (((c 59 (4 * a2 + 3)) * (c 48 (3 * a1 + 2))) / 10))) 59 (4 * a2 + 2) ((((c 59 (4 * a2 + 3)) * (c 48 (3 * a1 + 2))) / 10) + c 59 (4 * a2 + 2) - (((c 59 (4 * a2 + 2)) * (c 48 (3 * a1 + 1))) / 10))) 59 (4 * a2) ((((c 59 (4 * a2 + 1)) * (c 48 (3 * a1))) / 10) + c 59 (4 * a2) - ((((((c 59 (4 * a2 + 1)) * (c 48 (3 * a1))) / 10) + c 59 (4 * a2)) * (c 41 23)) / 100))) 59 35 y_20) 59) (show 4 * k9 + 1 = 4 * a2 + 1 from by omega)).trans ((up_n (by omega)).trans ((up_n (by omega)).trans ((up_n (by omega)).trans ((up_n (by omega)).trans (up_e rfl)))))
        have h_33 : (up (up (up (up (up (up (up (up c 59 (4 * a2 + 1) (c 59 (4 * a2 + 1) - (((c 59 (4 * a2 + 1)) * (c 48 (3 * a1))) / 10))) 59 (4 * a2) ((((c 59 (4 * a2 + 1)) * (c 48 (3 * a1))) / 10) + c 59 (4 * a2))) 59 (4 * a2 + 2) (c 59 (4 * a2 + 2) - (((c 59 (4 * a2 + 2)) * (c 48 (3 * a1 + 1))) / 10))) 59 (4 * a2 + 1) ((((c 59 (4 * a2 + 2)) * (c 48 (3 * a1 + 1))) / 10) + c 59 (4 * a2 + 1) - (((c 59 (4 * a2 + 1)) * (c 48 (3 * a1))) / 10))) 59 (4 * a2 + 3) (c 59 (4 * a2 + 3) - (((c 59 (4 * a2 + 3)) * (c 48 (3 * a1 + 2))) / 10))) 59 (4 * a2 + 2) ((((c 59 (4 * a2 + 3)) * (c 48 (3 * a1 + 2))) / 10) + c 59 (4 * a2 + 2) - (((c 59 (4 * a2 + 2)) * (c 48 (3 * a1 + 1))) / 10))) 59 (4 * a2) ((((c 59 (4 * a2 + 1)) * (c 48 (3 * a1))) / 10) + c 59 (4 * a2) - ((((((c 59 (4 * a2 + 1)) * (c 48 (3 * a1))) / 10) + c 59 (4 * a2)) * (c 41 23)) / 100))) 59 35 y_20) 59 (4 * k9 + 2) = (((c 59 (4 * a2 + 3)) * (c 48 (3 * a1 + 2))) / 10) + c 59 (4 * a2 + 2) - (((c 59 (4 * a2 + 2)) * (c 48 (3 * a1 + 1))) / 10) := (congrArg ((up (up (up (up (up (up (up (up c 59 (4 * a2 + 1) (c 59 (4 * a2 + 1) - (((c 59 (4 * a2 + 1)) * (c 48 (3 * a1))) / 10))) 59 (4 * a2) ((((c 59 (4 * a2 + 1)) * (c 48 (3 * a1))) / 10) + c 59 (4 * a2))) 59 (4 * a2 + 2) (c 59 (4 * a2 + 2) - (((c 59 (4 * a2 + 2)) * (c 48 (3 * a1 + 1))) / 10))) 59 (4 * a2 + 1) ((((c 59 (4 * a2 + 2)) * (c 48 (3 * a1 + 1))) / 10) + c 59 (4 * a2 + 1) - (((c 59 (4 * a2 + 1)) * (c 48 (3 * a1))) / 10))) 59 (4 * a2 + 3) (c 59 (4 * a2 + 3) - (((c 59 (4 * a2 + 3)) * (c 48 (3 * a1 + 2))) / 10))) 59 (4 * a2 + 2) ((((c 59 (4 * a2 + 3)) * (c 48 (3 * a1 + 2))) / 10) + c 59 (4 * a2 + 2) - (((c 59 (4 * a2 + 2)) * (c 48 (3 * a1 + 1))) / 10))) 59 (4 * a2) ((((c 59 (4 * a2 + 1)) * (c 48 (3 * a1))) / 10) + c 59 (4 * a2) - ((((((c 59 (4 * a2 + 1)) * (c 48 (3 * a1))) / 10) + c 59 (4 * a2)) * (c 41 23)) / 100))) 59 35 y_20) 59) (show 4 * k9 + 2 = 4 * a2 + 2 from by omega)).trans ((up_n (by omega)).trans ((up_n (by omega)).trans (up_e rfl)))
        have h_34 : (up (up (up (up (up (up (up (up c 59 (4 * a2 + 1) (c 59 (4 * a2 + 1) - (((c 59 (4 * a2 + 1)) * (c 48 (3 * a1))) / 10))) 59 (4 * a2) ((((c 59 (4 * a2 + 1)) * (c 48 (3 * a1))) / 10) + c 59 (4 * a2))) 59 (4 * a2 + 2) (c 59 (4 * a2 + 2) - (((c 59 (4 * a2 + 2)) * (c 48 (3 * a1 + 1))) / 10))) 59 (4 * a2 + 1) ((((c 59 (4 * a2 + 2)) * (c 48 (3 * a1 + 1))) / 10) + c 59 (4 * a2 + 1) - (((c 59 (4 * a2 + 1)) * (c 48 (3 * a1))) / 10))) 59 (4 * a2 + 3) (c 59 (4 * a2 + 3) - (((c 59 (4 * a2 + 3)) * (c 48 (3 * a1 + 2))) / 10))) 59 (4 * a2 + 2) ((((c 59 (4 * a2 + 3)) * (c 48 (3 * a1 + 2))) / 10) + c 59 (4 * a2 + 2) - (((c 59 (4 * a2 + 2)) * (c 48 (3 * a1 + 1))) / 10))) 59 (4 * a2) ((((c 59 (4 * a2 + 1)) * (c 48 (3 * a1))) / 10) + c 59 (4 * a2) - ((((((c 59 (4 * a2 + 1)) * (c 48 (3 * a1))) / 10) + c 59 (4 * a2)) * (c 41 23)) / 100))) 59 35 y_20) 59 (4 * k9 + 3) = c 59 (4 * a2 + 3) - (((c 59 (4 * a2 + 3)) * (c 48 (3 * a1 + 2))) / 10) := (congrArg ((up (up (up (up (up (up (up (up c 59 (4 * a2 + 1) (c 59 (4 * a2 + 1) - (((c 59 (4 * a2 + 1)) * (c 48 (3 * a1))) / 10))) 59 (4 * a2) ((((c 59 (4 * a2 + 1)) * (c 48 (3 * a1))) / 10) + c 59 (4 * a2))) 59 (4 * a2 + 2) (c 59 (4 * a2 + 2) - (((c 59 (4 * a2 + 2)) * (c 48 (3 * a1 + 1))) / 10))) 59 (4 * a2 + 1) ((((c 59 (4 * a2 + 2)) * (c 48 (3 * a1 + 1))) / 10) + c 59 (4 * a2 + 1) - (((c 59 (4 * a2 + 1)) * (c 48 (3 * a1))) / 10))) 59 (4 * a2 + 3) (c 59 (4 * a2 + 3) - (((c 59 (4 * a2 + 3)) * (c 48 (3 * a1 + 2))) / 10))) 59 (4 * a2 + 2) ((((c 59 (4 * a2 + 3)) * (c 48 (3 * a1 + 2))) / 10) + c 59 (4 * a2 + 2) - (((c 59 (4 * a2 + 2)) * (c 48 (3 * a1 + 1))) / 10))) 59 (4 * a2) ((((c 59 (4 * a2 + 1)) * (c 48 (3 * a1))) / 10) + c 59 (4 * a2) - ((((((c 59 (4 * a2 + 1)) * (c 48 (3 * a1))) / 10) + c 59 (4 * a2)) * (c 41 23)) / 100))) 59 35 y_20) 59) (show 4 * k9 + 3 = 4 * a2 + 3 from by omega)).trans ((up_n (by omega)).trans ((up_n (by omega)).trans ((up_n (by omega)).trans (up_e rfl))))
        omega
      have h_35 := iv_r hI 59 (4 * k9) hj9 (by omega)
      have h_36 := ir_59_g hI (j := 4 * k9) (by omega)
      have h_37 : (up (up (up (up (up (up (up (up c 59 (4 * a2 + 1) (c 59 (4 * a2 + 1) - (((c 59 (4 * a2 + 1)) * (c 48 (3 * a1))) / 10))) 59 (4 * a2) ((((c 59 (4 * a2 + 1)) * (c 48 (3 * a1))) / 10) + c 59 (4 * a2))) 59 (4 * a2 + 2) (c 59 (4 * a2 + 2) - (((c 59 (4 * a2 + 2)) * (c 48 (3 * a1 + 1))) / 10))) 59 (4 * a2 + 1) ((((c 59 (4 * a2 + 2)) * (c 48 (3 * a1 + 1))) / 10) + c 59 (4 * a2 + 1) - (((c 59 (4 * a2 + 1)) * (c 48 (3 * a1))) / 10))) 59 (4 * a2 + 3) (c 59 (4 * a2 + 3) - (((c 59 (4 * a2 + 3)) * (c 48 (3 * a1 + 2))) / 10))) 59 (4 * a2 + 2) ((((c 59 (4 * a2 + 3)) * (c 48 (3 * a1 + 2))) / 10) + c 59 (4 * a2 + 2) - (((c 59 (4 * a2 + 2)) * (c 48 (3 * a1 + 1))) / 10))) 59 (4 * a2) ((((c 59 (4 * a2 + 1)) * (c 48 (3 * a1))) / 10) + c 59 (4 * a2) - ((((((c 59 (4 * a2 + 1)) * (c 48 (3 * a1))) / 10) + c 59 (4 * a2)) * (c 41 23)) / 100))) 59 35 y_20) 59 (4 * k9) = c 59 (4 * k9) := ((up_n (by omega)).trans ((up_n (by omega)).trans ((up_n (by omega)).trans ((up_n (by omega)).trans ((up_n (by omega)).trans ((up_n (by omega)).trans ((up_n (by omega)).trans (up_n (by omega)))))))))
      have h_38 := ir_59_g hI (j := 4 * k9 + 1) (by omega)
      have h_39 : (up (up (up (up (up (up (up (up c 59 (4 * a2 + 1) (c 59 (4 * a2 + 1) - (((c 59 (4 * a2 + 1)) * (c 48 (3 * a1))) / 10))) 59 (4 * a2) ((((c 59 (4 * a2 + 1)) * (c 48 (3 * a1))) / 10) + c 59 (4 * a2))) 59 (4 * a2 + 2) (c 59 (4 * a2 + 2) - (((c 59 (4 * a2 + 2)) * (c 48 (3 * a1 + 1))) / 10))) 59 (4 * a2 + 1) ((((c 59 (4 * a2 + 2)) * (c 48 (3 * a1 + 1))) / 10) + c 59 (4 * a2 + 1) - (((c 59 (4 * a2 + 1)) * (c 48 (3 * a1))) / 10))) 59 (4 * a2 + 3) (c 59 (4 * a2 + 3) - (((c 59 (4 * a2 + 3)) * (c 48 (3 * a1 + 2))) / 10))) 59 (4 * a2 + 2) ((((c 59 (4 * a2 + 3)) * (c 48 (3 * a1 + 2))) / 10) + c 59 (4 * a2 + 2) - (((c 59 (4 * a2 + 2)) * (c 48 (3 * a1 + 1))) / 10))) 59 (4 * a2) ((((c 59 (4 * a2 + 1)) * (c 48 (3 * a1))) / 10) + c 59 (4 * a2) - ((((((c 59 (4 * a2 + 1)) * (c 48 (3 * a1))) / 10) + c 59 (4 * a2)) * (c 41 23)) / 100))) 59 35 y_20) 59 (4 * k9 + 1) = c 59 (4 * k9 + 1) := ((up_n (by omega)).trans ((up_n (by omega)).trans ((up_n (by omega)).trans ((up_n (by omega)).trans ((up_n (by omega)).trans ((up_n (by omega)).trans ((up_n (by omega)).trans (up_n (by omega)))))))))
      have h_40 := ir_59_g hI (j := 4 * k9 + 2) (by omega)
      have h_41 : (up (up (up (up (up (up (up (up c 59 (4 * a2 + 1) (c 59 (4 * a2 + 1) - (((c 59 (4 * a2 + 1)) * (c 48 (3 * a1))) / 10))) 59 (4 * a2) ((((c 59 (4 * a2 + 1)) * (c 48 (3 * a1))) / 10) + c 59 (4 * a2))) 59 (4 * a2 + 2) (c 59 (4 * a2 + 2) - (((c 59 (4 * a2 + 2)) * (c 48 (3 * a1 + 1))) / 10))) 59 (4 * a2 + 1) ((((c 59 (4 * a2 + 2)) * (c 48 (3 * a1 + 1))) / 10) + c 59 (4 * a2 + 1) - (((c 59 (4 * a2 + 1)) * (c 48 (3 * a1))) / 10))) 59 (4 * a2 + 3) (c 59 (4 * a2 + 3) - (((c 59 (4 * a2 + 3)) * (c 48 (3 * a1 + 2))) / 10))) 59 (4 * a2 + 2) ((((c 59 (4 * a2 + 3)) * (c 48 (3 * a1 + 2))) / 10) + c 59 (4 * a2 + 2) - (((c 59 (4 * a2 + 2)) * (c 48 (3 * a1 + 1))) / 10))) 59 (4 * a2) ((((c 59 (4 * a2 + 1)) * (c 48 (3 * a1))) / 10) + c 59 (4 * a2) - ((((((c 59 (4 * a2 + 1)) * (c 48 (3 * a1))) / 10) + c 59 (4 * a2)) * (c 41 23)) / 100))) 59 35 y_20) 59 (4 * k9 + 2) = c 59 (4 * k9 + 2) := ((up_n (by omega)).trans ((up_n (by omega)).trans ((up_n (by omega)).trans ((up_n (by omega)).trans ((up_n (by omega)).trans ((up_n (by omega)).trans ((up_n (by omega)).trans (up_n (by omega)))))))))
      have h_42 := ir_59_g hI (j := 4 * k9 + 3) (by omega)
      have h_43 : (up (up (up (up (up (up (up (up c 59 (4 * a2 + 1) (c 59 (4 * a2 + 1) - (((c 59 (4 * a2 + 1)) * (c 48 (3 * a1))) / 10))) 59 (4 * a2) ((((c 59 (4 * a2 + 1)) * (c 48 (3 * a1))) / 10) + c 59 (4 * a2))) 59 (4 * a2 + 2) (c 59 (4 * a2 + 2) - (((c 59 (4 * a2 + 2)) * (c 48 (3 * a1 + 1))) / 10))) 59 (4 * a2 + 1) ((((c 59 (4 * a2 + 2)) * (c 48 (3 * a1 + 1))) / 10) + c 59 (4 * a2 + 1) - (((c 59 (4 * a2 + 1)) * (c 48 (3 * a1))) / 10))) 59 (4 * a2 + 3) (c 59 (4 * a2 + 3) - (((c 59 (4 * a2 + 3)) * (c 48 (3 * a1 + 2))) / 10))) 59 (4 * a2 + 2) ((((c 59 (4 * a2 + 3)) * (c 48 (3 * a1 + 2))) / 10) + c 59 (4 * a2 + 2) - (((c 59 (4 * a2 + 2)) * (c 48 (3 * a1 + 1))) / 10))) 59 (4 * a2) ((((c 59 (4 * a2 + 1)) * (c 48 (3 * a1))) / 10) + c 59 (4 * a2) - ((((((c 59 (4 * a2 + 1)) * (c 48 (3 * a1))) / 10) + c 59 (4 * a2)) * (c 41 23)) / 100))) 59 35 y_20) 59 (4 * k9 + 3) = c 59 (4 * k9 + 3) := ((up_n (by omega)).trans ((up_n (by omega)).trans ((up_n (by omega)).trans ((up_n (by omega)).trans ((up_n (by omega)).trans ((up_n (by omega)).trans ((up_n (by omega)).trans (up_n (by omega)))))))))
      omega
    have hI_44 := iv_close hI_28 hr_29
    exact K (up (up (up (up (up (up (up (up c 59 (4 * a2 + 1) (c 59 (4 * a2 + 1) - (((c 59 (4 * a2 + 1)) * (c 48 (3 * a1))) / 10))) 59 (4 * a2) ((((c 59 (4 * a2 + 1)) * (c 48 (3 * a1))) / 10) + c 59 (4 * a2))) 59 (4 * a2 + 2) (c 59 (4 * a2 + 2) - (((c 59 (4 * a2 + 2)) * (c 48 (3 * a1 + 1))) / 10))) 59 (4 * a2 + 1) ((((c 59 (4 * a2 + 2)) * (c 48 (3 * a1 + 1))) / 10) + c 59 (4 * a2 + 1) - (((c 59 (4 * a2 + 1)) * (c 48 (3 * a1))) / 10))) 59 (4 * a2 + 3) (c 59 (4 * a2 + 3) - (((c 59 (4 * a2 + 3)) * (c 48 (3 * a1 + 2))) / 10))) 59 (4 * a2 + 2) ((((c 59 (4 * a2 + 3)) * (c 48 (3 * a1 + 2))) / 10) + c 59 (4 * a2 + 2) - (((c 59 (4 * a2 + 2)) * (c 48 (3 * a1 + 1))) / 10))) 59 (4 * a2) ((((c 59 (4 * a2 + 1)) * (c 48 (3 * a1))) / 10) + c 59 (4 * a2) - ((((((c 59 (4 * a2 + 1)) * (c 48 (3 * a1))) / 10) + c 59 (4 * a2)) * (c 41 23)) / 100))) 59 35 y_20) 1 hI_44 (fun a j hm => (up_b (by omega)).trans ((up_b (by omega)).trans ((up_b (by omega)).trans ((up_b (by omega)).trans ((up_b (by omega)).trans ((up_b (by omega)).trans ((up_b (by omega)).trans (up_b (by omega))))))))) ⟨by decide, by decide⟩
  · refine v_if_ne_f (t := 10) rfl (by decide) (by omega) ?_
    refine q_iconst rfl ?_
    refine v_zret rfl rfl (by omega) ?_
    have hr_45 : ∀ j : Int, rs 59 j → c 59 j + c 59 (j + 1) + c 59 (j + 2) + c 59 (j + 3) ≤ 9999 := by
      intro j9 hj9
      obtain ⟨k9, rfl, hk9⟩ := rs_59 hj9
      by_cases e_46 : k9 = a2
      · skip
        have h_47 : c 59 (4 * k9) = c 59 (4 * a2) := (congrArg (c 59) (show 4 * k9 = 4 * a2 from by omega))
        have h_48 : c 59 (4 * k9 + 1) = c 59 (4 * a2 + 1) := (congrArg (c 59) (show 4 * k9 + 1 = 4 * a2 + 1 from by omega))
        have h_49 : c 59 (4 * k9 + 2) = c 59 (4 * a2 + 2) := (congrArg (c 59) (show 4 * k9 + 2 = 4 * a2 + 2 from by omega))
        have h_50 : c 59 (4 * k9 + 3) = c 59 (4 * a2 + 3) := (congrArg (c 59) (show 4 * k9 + 3 = 4 * a2 + 3 from by omega))
        omega
      have h_51 := iv_r hI 59 (4 * k9) hj9 (by omega)
      have h_52 := ir_59_g hI (j := 4 * k9) (by omega)
      have h_53 : c 59 (4 * k9) = c 59 (4 * k9) := rfl
      have h_54 := ir_59_g hI (j := 4 * k9 + 1) (by omega)
      have h_55 : c 59 (4 * k9 + 1) = c 59 (4 * k9 + 1) := rfl
      have h_56 := ir_59_g hI (j := 4 * k9 + 2) (by omega)
      have h_57 : c 59 (4 * k9 + 2) = c 59 (4 * k9 + 2) := rfl
      have h_58 := ir_59_g hI (j := 4 * k9 + 3) (by omega)
      have h_59 : c 59 (4 * k9 + 3) = c 59 (4 * k9 + 3) := rfl
      omega
    have hI_60 := iv_close hIo hr_45
    exact K c 0 hI_60 (fun a j hm => rfl) ⟨by decide, by decide⟩

set_option maxRecDepth 100000 in
set_option maxHeartbeats 4000000 in
theorem s_189 {sc : List Int32} {e : Int} {d u P Q : Nat} {c : ME} {v1 v2 v3 r : Int} {a1 : Int} {a2 : Int} {a3 : Int} {Z : AR → Prop} (hI : Iv u e P Q c) (ha1 : 0 ≤ a1 ∧ a1 ≤ 3) (ha2 : 0 ≤ a2 ∧ a2 ≤ 5) (ha3 : 0 ≤ a3 ∧ a3 ≤ 3) (hv0 : c 49 a1 = v1) (hv1 : c 59 (a1 + 30) = v2) (hv2 : c 59 (4 * a2 + a3) = v3) (hr9 : fal v1 (v2) a3 v3 = r) (K : Z (.inl (some (vi r)), Wd P Q P P c, 0, 0)) : Wp sc (d + 7) 189 0 [(0, .ref 41), (1, vi a1), (2, vi a2), (3, vi a3)] [] (Wd P Q P P c) 0 0 Z := by
  have hP := iv_P hI
  have hQ := iv_Q hI
  have h_1 := ir_49 hI a1
  have h_2 := ir_59 hI (a1 + 30)
  have h_3 := ir_59_g hI (j := 4 * a2 + a3) (by omega)
  refine q_iload_n rfl rfl ?_
  refine q_aload_n rfl rfl ?_
  refine v_gr (t := 49) rfl rfl rfl (by decide) rfl ?_
  refine q_iload_n rfl rfl ?_
  refine v_ia (v := v1) rfl rfl (by decide) (by decide) (by omega) (hv0) ?_
  by_cases h_4 : a3 > v1
  · refine v_ic_gt_t (t := 23) rfl (by decide) (by omega) ?_
    refine q_iload_n rfl rfl ?_
    refine q_aload_n rfl rfl ?_
    refine v_gr (t := 49) rfl rfl rfl (by decide) rfl ?_
    refine q_iload_n rfl rfl ?_
    refine v_ia (v := v1) rfl rfl (by decide) (by decide) (by omega) (hv0) ?_
    refine q_iconst rfl ?_
    refine v_iadd (v := v1 + 1) rfl (by omega) ?_
    by_cases h_5 : a3 ≠ v1 + 1
    · refine v_ic_ne_t (t := 63) rfl (by decide) (by omega) ?_
      refine q_iconst rfl ?_
      refine q_iret rfl rfl ?_
      exact zv (by rw [← hr9]; unfold fal; split <;> first | omega | (split <;> omega)) (K)
    · refine v_ic_ne_f (t := 63) rfl (by decide) (by omega) ?_
      refine q_aload_n rfl rfl ?_
      refine v_gr (t := 59) rfl rfl rfl (by decide) rfl ?_
      refine v_bip rfl (by decide) ?_
      refine q_iload_n rfl rfl ?_
      refine v_iadd (v := a1 + 30) rfl (by omega) ?_
      refine v_ia (v := v2) rfl rfl (by decide) (by decide) (by omega) (hv1) ?_
      refine q_iconst rfl ?_
      by_cases h_6 : v2 ≠ 1
      · refine v_ic_ne_t (t := 63) rfl (by decide) (by omega) ?_
        refine q_iconst rfl ?_
        refine q_iret rfl rfl ?_
        exact zv (by rw [← hr9]; unfold fal; split <;> first | omega | (split <;> omega)) (K)
      · refine v_ic_ne_f (t := 63) rfl (by decide) (by omega) ?_
        refine q_aload_n rfl rfl ?_
        refine v_gr (t := 59) rfl rfl rfl (by decide) rfl ?_
        refine q_iconst rfl ?_
        refine q_iload_n rfl rfl ?_
        refine v_imul (v := 4 * a2) rfl (by omega) ?_
        refine q_iload_n rfl rfl ?_
        refine v_iadd (v := 4 * a2 + a3) rfl (by omega) ?_
        refine v_ia (v := v3) rfl rfl (by decide) (by decide) (by omega) (hv2) ?_
        refine q_iconst rfl ?_
        refine v_idiv (v := (v3 / 2)) rfl (by omega) rfl ?_
        refine q_goto (t := 64) rfl (by decide) ?_
        refine q_iret rfl rfl ?_
        exact zv (by rw [← hr9]; unfold fal; split <;> first | omega | (split <;> omega)) (K)
  · refine v_ic_gt_f (t := 23) rfl (by decide) (by omega) ?_
    refine q_aload_n rfl rfl ?_
    refine v_gr (t := 59) rfl rfl rfl (by decide) rfl ?_
    refine q_iconst rfl ?_
    refine q_iload_n rfl rfl ?_
    refine v_imul (v := 4 * a2) rfl (by omega) ?_
    refine q_iload_n rfl rfl ?_
    refine v_iadd (v := 4 * a2 + a3) rfl (by omega) ?_
    refine v_ia (v := v3) rfl rfl (by decide) (by decide) (by omega) (hv2) ?_
    refine q_goto (t := 64) rfl (by decide) ?_
    refine q_iret rfl rfl ?_
    exact zv (by rw [← hr9]; unfold fal; split <;> first | omega | (split <;> omega)) (K)

set_option maxRecDepth 100000 in
set_option maxHeartbeats 4000000 in
theorem s_190 {sc : List Int32} {e : Int} {d u P Q : Nat} {c : ME} {v1 v2 v3 v4 v5 v6 r : Int} {a1 : Int} {a2 : Int} {Z : AR → Prop} (hI : Iv u e P Q c) (ha1 : 0 ≤ a1 ∧ a1 ≤ 3) (ha2 : 0 ≤ a2 ∧ a2 ≤ 5) (hv0 : c 49 a1 = v1) (hv1 : c 59 (a1 + 30) = v2) (hv2 : c 59 (4 * a2) = v3) (hv3 : c 59 (4 * a2 + 1) = v4) (hv4 : c 59 (4 * a2 + 2) = v5) (hv5 : c 59 (4 * a2 + 3) = v6) (hr9 : fal v1 (v2) 0 v3 + fal v1 (v2) 1 v4 + fal v1 (v2) 2 v5 + fal v1 (v2) 3 v6 = r) (K : Z (.inl (some (vi r)), Wd P Q P P c, 0, 0)) : Wp sc (d + 8) 190 0 [(0, .ref 41), (1, vi a1), (2, vi a2)] [] (Wd P Q P P c) 0 0 Z := by
  have hP := iv_P hI
  have hQ := iv_Q hI
  have h_1 := ir_49 hI a1
  have h_2 := ir_59 hI (a1 + 30)
  have h_3 := ir_59_g hI (j := 4 * a2) (by omega)
  have h_4 := ir_59_g hI (j := 4 * a2 + 1) (by omega)
  have h_5 := ir_59_g hI (j := 4 * a2 + 2) (by omega)
  have h_6 := ir_59_g hI (j := 4 * a2 + 3) (by omega)
  refine q_iconst rfl ?_
  refine q_istore_n rfl (by decide) ?_
  refine q_iconst rfl ?_
  refine q_istore rfl (by decide) ?_
  refine q_iload rfl rfl ?_
  refine q_iconst rfl ?_
  refine v_ic_ge_f (t := 28) rfl (by decide) (by decide) ?_
  refine q_iload_n rfl rfl ?_
  refine q_aload_n rfl rfl ?_
  refine q_iload_n rfl rfl ?_
  refine q_iload_n rfl rfl ?_
  refine q_iload rfl rfl ?_
  have h_7 := fal_rng (m := v1) (t := v2) (g := 0) (x := v3) (by omega)
  refine v_cv rfl rfl rfl rfl (by decide) ⟨⟨rfl, rfl⟩, by decide, rfl⟩ (Nat.le_of_ble_eq_true rfl) (Nat.le_of_ble_eq_true rfl) (s_189 (v1 := v1) (v2 := v2) (v3 := v3) (r := (fal v1 (v2) 0 v3)) (a1 := a1) (a2 := a2) (a3 := 0) hI (show 0 ≤ a1 ∧ a1 ≤ 3 from by omega) (show 0 ≤ a2 ∧ a2 ≤ 5 from by omega) (show 0 ≤ 0 ∧ 0 ≤ 3 from by omega) ((hv0)) ((hv1)) ((congrArg (c 59) (show 4 * a2 + 0 = 4 * a2 from by omega)).trans (hv2)) rfl ?_)
  refine bk_inl ?_
  refine v_iadd (v := (fal v1 (v2) 0 v3)) rfl (by omega) ?_
  refine q_istore_n rfl (by decide) ?_
  refine v_iinc (v := 1) rfl rfl (by decide) (by decide) ?_
  refine q_goto (t := 5) rfl (by decide) ?_
  refine q_iload rfl rfl ?_
  refine q_iconst rfl ?_
  refine v_ic_ge_f (t := 28) rfl (by decide) (by decide) ?_
  refine q_iload_n rfl rfl ?_
  refine q_aload_n rfl rfl ?_
  refine q_iload_n rfl rfl ?_
  refine q_iload_n rfl rfl ?_
  refine q_iload rfl rfl ?_
  have h_8 := fal_rng (m := v1) (t := v2) (g := 1) (x := v4) (by omega)
  refine v_cv rfl rfl rfl rfl (by decide) ⟨⟨rfl, rfl⟩, by decide, rfl⟩ (Nat.le_of_ble_eq_true rfl) (Nat.le_of_ble_eq_true rfl) (s_189 (v1 := v1) (v2 := v2) (v3 := v4) (r := (fal v1 (v2) 1 v4)) (a1 := a1) (a2 := a2) (a3 := 1) hI (show 0 ≤ a1 ∧ a1 ≤ 3 from by omega) (show 0 ≤ a2 ∧ a2 ≤ 5 from by omega) (show 0 ≤ 1 ∧ 1 ≤ 3 from by omega) ((hv0)) ((hv1)) ((hv3)) rfl ?_)
  refine bk_inl ?_
  refine v_iadd (v := (fal v1 (v2) 0 v3) + (fal v1 (v2) 1 v4)) rfl (by omega) ?_
  refine q_istore_n rfl (by decide) ?_
  refine Wp_ls [(3, vi ((fal v1 (v2) 0 v3) + (fal v1 (v2) 1 v4))), (4, vi 1), (0, .ref 41), (1, vi a1), (2, vi a2)] (lsub_cons rfl (lsub_cons rfl (lsub_cons rfl (lsub_cons rfl (lsub_cons rfl lsub_nil))))) ?_
  refine v_iinc (v := 2) rfl rfl (by decide) (by decide) ?_
  refine q_goto (t := 5) rfl (by decide) ?_
  refine q_iload rfl rfl ?_
  refine q_iconst rfl ?_
  refine v_ic_ge_f (t := 28) rfl (by decide) (by decide) ?_
  refine q_iload_n rfl rfl ?_
  refine q_aload_n rfl rfl ?_
  refine q_iload_n rfl rfl ?_
  refine q_iload_n rfl rfl ?_
  refine q_iload rfl rfl ?_
  have h_9 := fal_rng (m := v1) (t := v2) (g := 2) (x := v5) (by omega)
  refine v_cv rfl rfl rfl rfl (by decide) ⟨⟨rfl, rfl⟩, by decide, rfl⟩ (Nat.le_of_ble_eq_true rfl) (Nat.le_of_ble_eq_true rfl) (s_189 (v1 := v1) (v2 := v2) (v3 := v5) (r := (fal v1 (v2) 2 v5)) (a1 := a1) (a2 := a2) (a3 := 2) hI (show 0 ≤ a1 ∧ a1 ≤ 3 from by omega) (show 0 ≤ a2 ∧ a2 ≤ 5 from by omega) (show 0 ≤ 2 ∧ 2 ≤ 3 from by omega) ((hv0)) ((hv1)) ((hv4)) rfl ?_)
  refine bk_inl ?_
  refine v_iadd (v := (fal v1 (v2) 0 v3) + (fal v1 (v2) 1 v4) + (fal v1 (v2) 2 v5)) rfl (by omega) ?_
  refine q_istore_n rfl (by decide) ?_
  refine v_iinc (v := 3) rfl rfl (by decide) (by decide) ?_
  refine q_goto (t := 5) rfl (by decide) ?_
  refine q_iload rfl rfl ?_
  refine q_iconst rfl ?_
  refine v_ic_ge_f (t := 28) rfl (by decide) (by decide) ?_
  refine q_iload_n rfl rfl ?_
  refine q_aload_n rfl rfl ?_
  refine q_iload_n rfl rfl ?_
  refine q_iload_n rfl rfl ?_
  refine q_iload rfl rfl ?_
  have h_10 := fal_rng (m := v1) (t := v2) (g := 3) (x := v6) (by omega)
  refine v_cv rfl rfl rfl rfl (by decide) ⟨⟨rfl, rfl⟩, by decide, rfl⟩ (Nat.le_of_ble_eq_true rfl) (Nat.le_of_ble_eq_true rfl) (s_189 (v1 := v1) (v2 := v2) (v3 := v6) (r := (fal v1 (v2) 3 v6)) (a1 := a1) (a2 := a2) (a3 := 3) hI (show 0 ≤ a1 ∧ a1 ≤ 3 from by omega) (show 0 ≤ a2 ∧ a2 ≤ 5 from by omega) (show 0 ≤ 3 ∧ 3 ≤ 3 from by omega) ((hv0)) ((hv1)) ((hv5)) rfl ?_)
  refine bk_inl ?_
  refine v_iadd (v := (fal v1 (v2) 0 v3) + (fal v1 (v2) 1 v4) + (fal v1 (v2) 2 v5) + (fal v1 (v2) 3 v6)) rfl (by omega) ?_
  refine q_istore_n rfl (by decide) ?_
  refine v_iinc (v := 4) rfl rfl (by decide) (by decide) ?_
  refine Wp_ls [(4, vi 4), (3, vi ((fal v1 (v2) 0 v3) + (fal v1 (v2) 1 v4) + (fal v1 (v2) 2 v5) + (fal v1 (v2) 3 v6))), (0, .ref 41), (1, vi a1), (2, vi a2)] (lsub_cons rfl (lsub_cons rfl (lsub_cons rfl (lsub_cons rfl (lsub_cons rfl lsub_nil))))) ?_
  refine q_goto (t := 5) rfl (by decide) ?_
  refine q_iload rfl rfl ?_
  refine q_iconst rfl ?_
  refine v_ic_ge_t (t := 28) rfl (by decide) (by decide) ?_
  refine q_iload_n rfl rfl ?_
  refine q_iret rfl rfl ?_
  exact zv (by omega) (K)

set_option maxRecDepth 100000 in
set_option maxHeartbeats 4000000 in
theorem s_191 {sc : List Int32} {e : Int} {d u P Q : Nat} {c : ME} {a1 : Int} {a2 : Int} {Z : AR → Prop} (hI : Iv u e P Q c) (ha1 : 0 ≤ a1 ∧ a1 ≤ 5) (ha2 : (-2147483648) ≤ a2 ∧ a2 ≤ 2147483647) (K : ∀ (c2 : ME), Iv u e P Q c2 → (∀ (a : Nat) (j : Int), ¬ ((a = 59 ∧ j = a1 + 24)) → c2 a j = c a j) → Z (.inl (none), Wd P Q P P c2, 0, 0)) : Wp sc (d + 7) 191 0 [(0, .ref 41), (1, vi a1), (2, vi a2)] [] (Wd P Q P P c) 0 0 Z := by
  have hP := iv_P hI
  have hQ := iv_Q hI
  refine q_aload_n rfl rfl ?_
  refine v_gr (t := 59) rfl rfl rfl (by decide) rfl ?_
  refine v_bip rfl (by decide) ?_
  refine q_iload_n rfl rfl ?_
  refine v_iadd (v := a1 + 24) rfl (by omega) ?_
  refine q_iload_n rfl rfl ?_
  refine q_aload_n rfl rfl ?_
  refine v_gr (t := 59) rfl rfl rfl (by decide) rfl ?_
  refine v_bip rfl (by decide) ?_
  refine q_iload_n rfl rfl ?_
  refine v_iadd (v := a1 + 24) rfl (by omega) ?_
  have h_1 := ir_59 hI (a1 + 24)
  refine v_ia (v := c 59 (a1 + 24)) rfl rfl (by decide) (by decide) (by omega) rfl ?_
  by_cases h_2 : a2 ≤ c 59 (a1 + 24)
  · refine v_ic_le_t (t := 25) rfl (by decide) (by omega) ?_
    refine q_aload_n rfl rfl ?_
    refine v_gr (t := 59) rfl rfl rfl (by decide) rfl ?_
    refine v_bip rfl (by decide) ?_
    refine q_iload_n rfl rfl ?_
    refine v_iadd (v := a1 + 24) rfl (by omega) ?_
    refine v_ia (v := c 59 (a1 + 24)) rfl rfl (by decide) (by decide) (by omega) rfl ?_
    refine v_is rfl rfl (by decide) (by decide) (by omega) ?_
    refine q_vret rfl rfl ?_
    have hI_3 := iw_row (a := 59) (j := a1 + 24) (v := c 59 (a1 + 24)) hI (by omega) (Or.inr (by omega)) ⟨by omega, by omega, by omega⟩
    exact K (up c 59 (a1 + 24) (c 59 (a1 + 24))) hI_3 (fun a j hm => up_b (by omega))
  · refine v_ic_le_f (t := 25) rfl (by decide) (by omega) ?_
    refine q_iload_n rfl rfl ?_
    refine q_goto (t := 34) rfl (by decide) ?_
    refine v_is rfl rfl (by decide) (by decide) (by omega) ?_
    refine q_vret rfl rfl ?_
    have hI_4 := iw_row (a := 59) (j := a1 + 24) (v := a2) hI (by omega) (Or.inr (by omega)) ⟨by omega, by omega, by omega⟩
    exact K (up c 59 (a1 + 24) a2) hI_4 (fun a j hm => up_b (by omega))

set_option maxRecDepth 100000 in
set_option maxHeartbeats 4000000 in
theorem s_192 {sc : List Int32} {d P Q : Nat} {c : ME} {a1 : Int} {Z : AR → Prop} (hI : Iv 59 (-1) P Q c) (ha1 : 0 ≤ a1 ∧ a1 ≤ 5) (K : ∀ (c2 : ME), Iv 59 (-1) P Q c2 → (∀ (a : Nat) (j : Int), ¬ ((a = 59 ∧ j = 4 * a1) ∨ (a = 59 ∧ j = 4 * a1 + 1) ∨ (a = 59 ∧ j = 4 * a1 + 2) ∨ (a = 59 ∧ j = 4 * a1 + 3) ∨ (a = 59 ∧ j = a1 + 24)) → c2 a j = c a j) → ((c2 59 (4 * a1) = 0 ∧ c2 59 (4 * a1 + 1) = 0 ∧ c2 59 (4 * a1 + 2) = 0 ∧ c2 59 (4 * a1 + 3) = 0)) → Z (.inl (none), Wd P Q P P c2, 0, 0)) : Wp sc (d + 7) 192 0 [(0, .ref 41), (1, vi a1)] [] (Wd P Q P P c) 0 0 Z := by
  have hP := iv_P hI
  have hQ := iv_Q hI
  refine q_iconst rfl ?_
  refine q_istore_n rfl (by decide) ?_
  refine q_iload_n rfl rfl ?_
  refine q_iconst rfl ?_
  refine v_ic_ge_f (t := 24) rfl (by decide) (by decide) ?_
  refine q_aload_n rfl rfl ?_
  refine v_gr (t := 59) rfl rfl rfl (by decide) rfl ?_
  refine q_iconst rfl ?_
  refine q_iload_n rfl rfl ?_
  refine v_imul (v := 4 * a1) rfl (by omega) ?_
  refine q_iload_n rfl rfl ?_
  refine v_iadd (v := 4 * a1) rfl (by omega) ?_
  refine q_iconst rfl ?_
  refine v_is rfl rfl (by decide) (by decide) (by omega) ?_
  refine v_iinc (v := 1) rfl rfl (by decide) (by decide) ?_
  refine q_goto (t := 2) rfl (by decide) ?_
  refine q_iload_n rfl rfl ?_
  refine q_iconst rfl ?_
  refine v_ic_ge_f (t := 24) rfl (by decide) (by decide) ?_
  refine q_aload_n rfl rfl ?_
  refine v_gr (t := 59) rfl rfl rfl (by decide) rfl ?_
  refine q_iconst rfl ?_
  refine q_iload_n rfl rfl ?_
  refine v_imul (v := 4 * a1) rfl (by omega) ?_
  refine q_iload_n rfl rfl ?_
  refine v_iadd (v := 4 * a1 + 1) rfl (by omega) ?_
  refine q_iconst rfl ?_
  refine v_is rfl rfl (by decide) (by decide) (by omega) ?_
  refine v_iinc (v := 2) rfl rfl (by decide) (by decide) ?_
  refine q_goto (t := 2) rfl (by decide) ?_
  refine q_iload_n rfl rfl ?_
  refine q_iconst rfl ?_
  refine v_ic_ge_f (t := 24) rfl (by decide) (by decide) ?_
  refine q_aload_n rfl rfl ?_
  refine v_gr (t := 59) rfl rfl rfl (by decide) rfl ?_
  refine q_iconst rfl ?_
  refine q_iload_n rfl rfl ?_
  refine v_imul (v := 4 * a1) rfl (by omega) ?_
  refine q_iload_n rfl rfl ?_
  refine v_iadd (v := 4 * a1 + 2) rfl (by omega) ?_
  refine q_iconst rfl ?_
  refine v_is rfl rfl (by decide) (by decide) (by omega) ?_
  refine v_iinc (v := 3) rfl rfl (by decide) (by decide) ?_
  refine q_goto (t := 2) rfl (by decide) ?_
  refine q_iload_n rfl rfl ?_
  refine q_iconst rfl ?_
  refine v_ic_ge_f (t := 24) rfl (by decide) (by decide) ?_
  refine q_aload_n rfl rfl ?_
  refine v_gr (t := 59) rfl rfl rfl (by decide) rfl ?_
  refine q_iconst rfl ?_
  refine q_iload_n rfl rfl ?_
  refine v_imul (v := 4 * a1) rfl (by omega) ?_
  refine q_iload_n rfl rfl ?_
  refine v_iadd (v := 4 * a1 + 3) rfl (by omega) ?_
  refine q_iconst rfl ?_
  refine v_is rfl rfl (by decide) (by decide) (by omega) ?_
  refine v_iinc (v := 4) rfl rfl (by decide) (by decide) ?_
  refine Wp_ls [(2, vi 4), (0, .ref 41), (1, vi a1)] (lsub_cons rfl (lsub_cons rfl (lsub_cons rfl lsub_nil))) ?_
  refine q_goto (t := 2) rfl (by decide) ?_
  refine q_iload_n rfl rfl ?_
  refine q_iconst rfl ?_
  refine v_ic_ge_t (t := 24) rfl (by decide) (by decide) ?_
  refine q_aload_n rfl rfl ?_
  refine v_gr (t := 59) rfl rfl rfl (by decide) rfl ?_
  refine v_bip rfl (by decide) ?_
  refine q_iload_n rfl rfl ?_
  refine v_iadd (v := a1 + 24) rfl (by omega) ?_
  refine q_iconst rfl ?_
  refine v_is rfl rfl (by decide) (by decide) (by omega) ?_
  refine q_vret rfl rfl ?_
  have hI_1 := iw_row (a := 59) (j := 4 * a1) (v := 0) hI (by omega) (Or.inl rfl) ⟨by omega, by omega, by omega⟩
  have hI_2 := iw_row (a := 59) (j := 4 * a1 + 1) (v := 0) hI_1 (by omega) (Or.inl rfl) ⟨by omega, by omega, by omega⟩
  have hI_3 := iw_row (a := 59) (j := 4 * a1 + 2) (v := 0) hI_2 (by omega) (Or.inl rfl) ⟨by omega, by omega, by omega⟩
  have hI_4 := iw_row (a := 59) (j := 4 * a1 + 3) (v := 0) hI_3 (by omega) (Or.inl rfl) ⟨by omega, by omega, by omega⟩
  have hI_5 := iw_row (a := 59) (j := a1 + 24) (v := 0) hI_4 (by omega) (Or.inl rfl) ⟨by omega, by omega, by omega⟩
  have h_6 : (up (up (up (up (up c 59 (4 * a1) 0) 59 (4 * a1 + 1) 0) 59 (4 * a1 + 2) 0) 59 (4 * a1 + 3) 0) 59 (a1 + 24) 0) 59 (4 * a1 + 1) = 0 := ((up_n (by omega)).trans ((up_n (by omega)).trans ((up_n (by omega)).trans (up_e rfl))))
  have h_7 : (up (up (up (up (up c 59 (4 * a1) 0) 59 (4 * a1 + 1) 0) 59 (4 * a1 + 2) 0) 59 (4 * a1 + 3) 0) 59 (a1 + 24) 0) 59 (4 * a1 + 2) = 0 := ((up_n (by omega)).trans ((up_n (by omega)).trans (up_e rfl)))
  have h_8 : (up (up (up (up (up c 59 (4 * a1) 0) 59 (4 * a1 + 1) 0) 59 (4 * a1 + 2) 0) 59 (4 * a1 + 3) 0) 59 (a1 + 24) 0) 59 (4 * a1 + 3) = 0 := ((up_n (by omega)).trans (up_e rfl))
  have h_9 : (up (up (up (up (up c 59 (4 * a1) 0) 59 (4 * a1 + 1) 0) 59 (4 * a1 + 2) 0) 59 (4 * a1 + 3) 0) 59 (a1 + 24) 0) 59 (4 * a1) = 0 := ((up_n (by omega)).trans ((up_n (by omega)).trans ((up_n (by omega)).trans ((up_n (by omega)).trans (up_e rfl)))))
  exact K (up (up (up (up (up c 59 (4 * a1) 0) 59 (4 * a1 + 1) 0) 59 (4 * a1 + 2) 0) 59 (4 * a1 + 3) 0) 59 (a1 + 24) 0) hI_5 (fun a j hm => (up_b (by omega)).trans ((up_b (by omega)).trans ((up_b (by omega)).trans ((up_b (by omega)).trans (up_b (by omega)))))) (by omega)

set_option maxRecDepth 100000 in
set_option maxHeartbeats 4000000 in
theorem s_193 {sc : List Int32} {d P Q : Nat} {c : ME} {a1 : Int} {a2 : Int} {a3 : Int} {a4 : Int} {Z : AR → Prop} (hI : Iv 0 (-1) P Q c) (ha1 : 0 ≤ a1 ∧ a1 ≤ 3) (ha2 : 0 ≤ a2 ∧ a2 ≤ 5) (ha3 : 0 ≤ a3 ∧ a3 ≤ 5) (ha4 : 0 ≤ a4 ∧ a4 ≤ 5) (K : ∀ (c2 : ME) (y : Int), Iv 0 (-1) P Q c2 → (∀ (a : Nat) (j : Int), ¬ (a = 59) → c2 a j = c a j) → 0 ≤ y ∧ y ≤ 1 → Z (.inl (some (vi y)), Wd P Q P P c2, 0, 0)) : Wp sc (d + 9) 193 0 [(0, .ref 41), (1, vi a1), (2, vi a2), (3, vi a3), (4, vi a4)] [] (Wd P Q P P c) 0 0 Z := by
  have hP := iv_P hI
  have hQ := iv_Q hI
  have hIo : Iv 59 (-1) P Q c := iv_open hI
  have hsum_1 := ir_59_r hI (by decide) (j := a2) (by omega)
  have h_2 := ir_59_g hI (j := 4 * a2) (by omega)
  have h_3 := ir_59_g hI (j := 4 * a2 + 1) (by omega)
  have h_4 := ir_59_g hI (j := 4 * a2 + 2) (by omega)
  have h_5 := ir_59_g hI (j := 4 * a2 + 3) (by omega)
  have hsum_6 := ir_59_r hI (by decide) (j := a3) (by omega)
  have h_7 := ir_59_g hI (j := 4 * a3) (by omega)
  have h_8 := ir_59_g hI (j := 4 * a3 + 1) (by omega)
  have h_9 := ir_59_g hI (j := 4 * a3 + 2) (by omega)
  have h_10 := ir_59_g hI (j := 4 * a3 + 3) (by omega)
  have hsum_11 := ir_59_r hI (by decide) (j := a4) (by omega)
  have h_12 := ir_59_g hI (j := 4 * a4) (by omega)
  have h_13 := ir_59_g hI (j := 4 * a4 + 1) (by omega)
  have h_14 := ir_59_g hI (j := 4 * a4 + 2) (by omega)
  have h_15 := ir_59_g hI (j := 4 * a4 + 3) (by omega)
  refine q_aload_n rfl rfl ?_
  refine q_iload_n rfl rfl ?_
  refine v_cv rfl rfl rfl rfl (by decide) ⟨⟨rfl, rfl⟩, by decide, rfl⟩ (Nat.le_of_ble_eq_true rfl) (Nat.le_of_ble_eq_true rfl) (s_187 (v1 := c 59 (4 * a2)) (v2 := c 59 (4 * a2 + 1)) (v3 := c 59 (4 * a2 + 2)) (v4 := c 59 (4 * a2 + 3)) (r := c 59 (4 * a2 + 1) + c 59 (4 * a2 + 2) + c 59 (4 * a2 + 3) + c 59 (4 * a2)) (a1 := a2) hIo (show 0 ≤ a2 ∧ a2 ≤ 5 from by omega) (rfl) (rfl) (rfl) (rfl) (by omega) ?_)
  refine bk_inl ?_
  by_cases h_16 : c 59 (4 * a2 + 1) + c 59 (4 * a2 + 2) + c 59 (4 * a2 + 3) + c 59 (4 * a2) = 0
  · refine v_if_eq_t (t := 25) rfl (by decide) (by omega) ?_
    refine q_iconst rfl ?_
    refine v_zret rfl rfl (by omega) ?_
    have hr_17 : ∀ j : Int, rs 59 j → c 59 j + c 59 (j + 1) + c 59 (j + 2) + c 59 (j + 3) ≤ 9999 := by
      intro j9 hj9
      obtain ⟨k9, rfl, hk9⟩ := rs_59 hj9
      by_cases e_18 : k9 = a2
      · skip
        have h_19 : c 59 (4 * k9) = c 59 (4 * a2) := (congrArg (c 59) (show 4 * k9 = 4 * a2 from by omega))
        have h_20 : c 59 (4 * k9 + 1) = c 59 (4 * a2 + 1) := (congrArg (c 59) (show 4 * k9 + 1 = 4 * a2 + 1 from by omega))
        have h_21 : c 59 (4 * k9 + 2) = c 59 (4 * a2 + 2) := (congrArg (c 59) (show 4 * k9 + 2 = 4 * a2 + 2 from by omega))
        have h_22 : c 59 (4 * k9 + 3) = c 59 (4 * a2 + 3) := (congrArg (c 59) (show 4 * k9 + 3 = 4 * a2 + 3 from by omega))
        omega
      by_cases e_23 : k9 = a3
      · skip
        have h_24 : c 59 (4 * k9) = c 59 (4 * a3) := (congrArg (c 59) (show 4 * k9 = 4 * a3 from by omega))
        have h_25 : c 59 (4 * k9 + 1) = c 59 (4 * a3 + 1) := (congrArg (c 59) (show 4 * k9 + 1 = 4 * a3 + 1 from by omega))
        have h_26 : c 59 (4 * k9 + 2) = c 59 (4 * a3 + 2) := (congrArg (c 59) (show 4 * k9 + 2 = 4 * a3 + 2 from by omega))
        have h_27 : c 59 (4 * k9 + 3) = c 59 (4 * a3 + 3) := (congrArg (c 59) (show 4 * k9 + 3 = 4 * a3 + 3 from by omega))
        omega
      by_cases e_28 : k9 = a4
      · skip
        have h_29 : c 59 (4 * k9) = c 59 (4 * a4) := (congrArg (c 59) (show 4 * k9 = 4 * a4 from by omega))
        have h_30 : c 59 (4 * k9 + 1) = c 59 (4 * a4 + 1) := (congrArg (c 59) (show 4 * k9 + 1 = 4 * a4 + 1 from by omega))
        have h_31 : c 59 (4 * k9 + 2) = c 59 (4 * a4 + 2) := (congrArg (c 59) (show 4 * k9 + 2 = 4 * a4 + 2 from by omega))
        have h_32 : c 59 (4 * k9 + 3) = c 59 (4 * a4 + 3) := (congrArg (c 59) (show 4 * k9 + 3 = 4 * a4 + 3 from by omega))
        omega
      have h_33 := iv_r hI 59 (4 * k9) hj9 (by omega)
      have h_34 := ir_59_g hI (j := 4 * k9) (by omega)
      have h_35 : c 59 (4 * k9) = c 59 (4 * k9) := rfl
      have h_36 := ir_59_g hI (j := 4 * k9 + 1) (by omega)
      have h_37 : c 59 (4 * k9 + 1) = c 59 (4 * k9 + 1) := rfl
      have h_38 := ir_59_g hI (j := 4 * k9 + 2) (by omega)
      have h_39 : c 59 (4 * k9 + 2) = c 59 (4 * k9 + 2) := rfl
      have h_40 := ir_59_g hI (j := 4 * k9 + 3) (by omega)
      have h_41 : c 59 (4 * k9 + 3) = c 59 (4 * k9 + 3) := rfl
      omega
    have hI_42 := iv_close hIo hr_17
    exact K c 0 hI_42 (fun a j hm => rfl) ⟨by decide, by decide⟩
  · refine v_if_eq_f (t := 25) rfl (by decide) (by omega) ?_
    refine q_iload_n rfl rfl ?_
    refine q_iload_n rfl rfl ?_
    by_cases h_43 : a2 = a3
    · refine v_ic_eq_t (t := 25) rfl (by decide) (by omega) ?_
      refine q_iconst rfl ?_
      refine v_zret rfl rfl (by omega) ?_
      have hr_44 : ∀ j : Int, rs 59 j → c 59 j + c 59 (j + 1) + c 59 (j + 2) + c 59 (j + 3) ≤ 9999 := by
        intro j9 hj9
        obtain ⟨k9, rfl, hk9⟩ := rs_59 hj9
        by_cases e_45 : k9 = a2
        · skip
          have h_46 : c 59 (4 * k9) = c 59 (4 * a2) := (congrArg (c 59) (show 4 * k9 = 4 * a2 from by omega))
          have h_47 : c 59 (4 * k9 + 1) = c 59 (4 * a2 + 1) := (congrArg (c 59) (show 4 * k9 + 1 = 4 * a2 + 1 from by omega))
          have h_48 : c 59 (4 * k9 + 2) = c 59 (4 * a2 + 2) := (congrArg (c 59) (show 4 * k9 + 2 = 4 * a2 + 2 from by omega))
          have h_49 : c 59 (4 * k9 + 3) = c 59 (4 * a2 + 3) := (congrArg (c 59) (show 4 * k9 + 3 = 4 * a2 + 3 from by omega))
          omega
        by_cases e_50 : k9 = a3
        · skip
          have h_51 : c 59 (4 * k9) = c 59 (4 * a3) := (congrArg (c 59) (show 4 * k9 = 4 * a3 from by omega))
          have h_52 : c 59 (4 * k9 + 1) = c 59 (4 * a3 + 1) := (congrArg (c 59) (show 4 * k9 + 1 = 4 * a3 + 1 from by omega))
          have h_53 : c 59 (4 * k9 + 2) = c 59 (4 * a3 + 2) := (congrArg (c 59) (show 4 * k9 + 2 = 4 * a3 + 2 from by omega))
          have h_54 : c 59 (4 * k9 + 3) = c 59 (4 * a3 + 3) := (congrArg (c 59) (show 4 * k9 + 3 = 4 * a3 + 3 from by omega))
          omega
        by_cases e_55 : k9 = a4
        · skip
          have h_56 : c 59 (4 * k9) = c 59 (4 * a4) := (congrArg (c 59) (show 4 * k9 = 4 * a4 from by omega))
          have h_57 : c 59 (4 * k9 + 1) = c 59 (4 * a4 + 1) := (congrArg (c 59) (show 4 * k9 + 1 = 4 * a4 + 1 from by omega))
          have h_58 : c 59 (4 * k9 + 2) = c 59 (4 * a4 + 2) := (congrArg (c 59) (show 4 * k9 + 2 = 4 * a4 + 2 from by omega))
          have h_59 : c 59 (4 * k9 + 3) = c 59 (4 * a4 + 3) := (congrArg (c 59) (show 4 * k9 + 3 = 4 * a4 + 3 from by omega))
          omega
        have h_60 := iv_r hI 59 (4 * k9) hj9 (by omega)
        have h_61 := ir_59_g hI (j := 4 * k9) (by omega)
        have h_62 : c 59 (4 * k9) = c 59 (4 * k9) := rfl
        have h_63 := ir_59_g hI (j := 4 * k9 + 1) (by omega)
        have h_64 : c 59 (4 * k9 + 1) = c 59 (4 * k9 + 1) := rfl
        have h_65 := ir_59_g hI (j := 4 * k9 + 2) (by omega)
        have h_66 : c 59 (4 * k9 + 2) = c 59 (4 * k9 + 2) := rfl
        have h_67 := ir_59_g hI (j := 4 * k9 + 3) (by omega)
        have h_68 : c 59 (4 * k9 + 3) = c 59 (4 * k9 + 3) := rfl
        omega
      have hI_69 := iv_close hIo hr_44
      exact K c 0 hI_69 (fun a j hm => rfl) ⟨by decide, by decide⟩
    · refine v_ic_eq_f (t := 25) rfl (by decide) (by omega) ?_
      refine q_iload_n rfl rfl ?_
      refine q_iload rfl rfl ?_
      by_cases h_70 : a2 = a4
      · refine v_ic_eq_t (t := 25) rfl (by decide) (by omega) ?_
        refine q_iconst rfl ?_
        refine v_zret rfl rfl (by omega) ?_
        have hr_71 : ∀ j : Int, rs 59 j → c 59 j + c 59 (j + 1) + c 59 (j + 2) + c 59 (j + 3) ≤ 9999 := by
          intro j9 hj9
          obtain ⟨k9, rfl, hk9⟩ := rs_59 hj9
          by_cases e_72 : k9 = a2
          · skip
            have h_73 : c 59 (4 * k9) = c 59 (4 * a2) := (congrArg (c 59) (show 4 * k9 = 4 * a2 from by omega))
            have h_74 : c 59 (4 * k9 + 1) = c 59 (4 * a2 + 1) := (congrArg (c 59) (show 4 * k9 + 1 = 4 * a2 + 1 from by omega))
            have h_75 : c 59 (4 * k9 + 2) = c 59 (4 * a2 + 2) := (congrArg (c 59) (show 4 * k9 + 2 = 4 * a2 + 2 from by omega))
            have h_76 : c 59 (4 * k9 + 3) = c 59 (4 * a2 + 3) := (congrArg (c 59) (show 4 * k9 + 3 = 4 * a2 + 3 from by omega))
            omega
          by_cases e_77 : k9 = a3
          · skip
            have h_78 : c 59 (4 * k9) = c 59 (4 * a3) := (congrArg (c 59) (show 4 * k9 = 4 * a3 from by omega))
            have h_79 : c 59 (4 * k9 + 1) = c 59 (4 * a3 + 1) := (congrArg (c 59) (show 4 * k9 + 1 = 4 * a3 + 1 from by omega))
            have h_80 : c 59 (4 * k9 + 2) = c 59 (4 * a3 + 2) := (congrArg (c 59) (show 4 * k9 + 2 = 4 * a3 + 2 from by omega))
            have h_81 : c 59 (4 * k9 + 3) = c 59 (4 * a3 + 3) := (congrArg (c 59) (show 4 * k9 + 3 = 4 * a3 + 3 from by omega))
            omega
          by_cases e_82 : k9 = a4
          · skip
            have h_83 : c 59 (4 * k9) = c 59 (4 * a4) := (congrArg (c 59) (show 4 * k9 = 4 * a4 from by omega))
            have h_84 : c 59 (4 * k9 + 1) = c 59 (4 * a4 + 1) := (congrArg (c 59) (show 4 * k9 + 1 = 4 * a4 + 1 from by omega))
            have h_85 : c 59 (4 * k9 + 2) = c 59 (4 * a4 + 2) := (congrArg (c 59) (show 4 * k9 + 2 = 4 * a4 + 2 from by omega))
            have h_86 : c 59 (4 * k9 + 3) = c 59 (4 * a4 + 3) := (congrArg (c 59) (show 4 * k9 + 3 = 4 * a4 + 3 from by omega))
            omega
          have h_87 := iv_r hI 59 (4 * k9) hj9 (by omega)
          have h_88 := ir_59_g hI (j := 4 * k9) (by omega)
          have h_89 : c 59 (4 * k9) = c 59 (4 * k9) := rfl
          have h_90 := ir_59_g hI (j := 4 * k9 + 1) (by omega)
          have h_91 : c 59 (4 * k9 + 1) = c 59 (4 * k9 + 1) := rfl
          have h_92 := ir_59_g hI (j := 4 * k9 + 2) (by omega)
          have h_93 : c 59 (4 * k9 + 2) = c 59 (4 * k9 + 2) := rfl
          have h_94 := ir_59_g hI (j := 4 * k9 + 3) (by omega)
          have h_95 : c 59 (4 * k9 + 3) = c 59 (4 * k9 + 3) := rfl
          omega
        have hI_96 := iv_close hIo hr_71
        exact K c 0 hI_96 (fun a j hm => rfl) ⟨by decide, by decide⟩
      · refine v_ic_eq_f (t := 25) rfl (by decide) (by omega) ?_
        refine q_iload_n rfl rfl ?_
        refine q_iload rfl rfl ?_
        by_cases h_97 : a3 ≠ a4
        · refine v_ic_ne_t (t := 27) rfl (by decide) (by omega) ?_
          refine q_aload_n rfl rfl ?_
          refine q_iload_n rfl rfl ?_
          refine q_iload_n rfl rfl ?_
          have h_98 := ir_49 hI a1
          have h_99 := ir_59 hI (a1 + 30)
          have h_100 := fal_rng (m := c 49 a1) (t := c 59 (a1 + 30)) (g := 0) (x := c 59 (4 * a2)) (by omega)
          have h_101 := fal_rng (m := c 49 a1) (t := c 59 (a1 + 30)) (g := 1) (x := c 59 (4 * a2 + 1)) (by omega)
          have h_102 := fal_rng (m := c 49 a1) (t := c 59 (a1 + 30)) (g := 2) (x := c 59 (4 * a2 + 2)) (by omega)
          have h_103 := fal_rng (m := c 49 a1) (t := c 59 (a1 + 30)) (g := 3) (x := c 59 (4 * a2 + 3)) (by omega)
          refine v_cv rfl rfl rfl rfl (by decide) ⟨⟨rfl, rfl⟩, by decide, rfl⟩ (Nat.le_of_ble_eq_true rfl) (Nat.le_of_ble_eq_true rfl) (s_190 (v1 := c 49 a1) (v2 := c 59 (a1 + 30)) (v3 := c 59 (4 * a2)) (v4 := c 59 (4 * a2 + 1)) (v5 := c 59 (4 * a2 + 2)) (v6 := c 59 (4 * a2 + 3)) (r := (fal (c 49 a1) (c 59 (a1 + 30)) 0 (c 59 (4 * a2))) + (fal (c 49 a1) (c 59 (a1 + 30)) 1 (c 59 (4 * a2 + 1))) + (fal (c 49 a1) (c 59 (a1 + 30)) 2 (c 59 (4 * a2 + 2))) + (fal (c 49 a1) (c 59 (a1 + 30)) 3 (c 59 (4 * a2 + 3)))) (a1 := a1) (a2 := a2) hIo (show 0 ≤ a1 ∧ a1 ≤ 3 from by omega) (show 0 ≤ a2 ∧ a2 ≤ 5 from by omega) (rfl) (rfl) (rfl) (rfl) (rfl) (rfl) rfl ?_)
          refine bk_inl ?_
          refine q_istore rfl (by decide) ?_
          refine q_aload_n rfl rfl ?_
          refine q_iload_n rfl rfl ?_
          refine v_cv rfl rfl rfl rfl (by decide) ⟨⟨rfl, rfl⟩, by decide, rfl⟩ (Nat.le_of_ble_eq_true rfl) (Nat.le_of_ble_eq_true rfl) (s_187 (v1 := c 59 (4 * a3)) (v2 := c 59 (4 * a3 + 1)) (v3 := c 59 (4 * a3 + 2)) (v4 := c 59 (4 * a3 + 3)) (r := c 59 (4 * a3 + 1) + c 59 (4 * a3 + 2) + c 59 (4 * a3 + 3) + c 59 (4 * a3)) (a1 := a3) hIo (show 0 ≤ a3 ∧ a3 ≤ 5 from by omega) (rfl) (rfl) (rfl) (rfl) (by omega) ?_)
          refine bk_inl ?_
          refine q_iload rfl rfl ?_
          refine v_iadd (v := (fal (c 49 a1) (c 59 (a1 + 30)) 0 (c 59 (4 * a2))) + (fal (c 49 a1) (c 59 (a1 + 30)) 1 (c 59 (4 * a2 + 1))) + (fal (c 49 a1) (c 59 (a1 + 30)) 2 (c 59 (4 * a2 + 2))) + (fal (c 49 a1) (c 59 (a1 + 30)) 3 (c 59 (4 * a2 + 3))) + c 59 (4 * a3 + 1) + c 59 (4 * a3 + 2) + c 59 (4 * a3 + 3) + c 59 (4 * a3)) rfl (by omega) ?_
          refine v_sip rfl (by decide) ?_
          by_cases h_104 : (fal (c 49 a1) (c 59 (a1 + 30)) 0 (c 59 (4 * a2))) + (fal (c 49 a1) (c 59 (a1 + 30)) 1 (c 59 (4 * a2 + 1))) + (fal (c 49 a1) (c 59 (a1 + 30)) 2 (c 59 (4 * a2 + 2))) + (fal (c 49 a1) (c 59 (a1 + 30)) 3 (c 59 (4 * a2 + 3))) + c 59 (4 * a3 + 1) + c 59 (4 * a3 + 2) + c 59 (4 * a3 + 3) + c 59 (4 * a3) > 9999
          · refine v_ic_gt_t (t := 70) rfl (by decide) (by omega) ?_
            refine q_iconst rfl ?_
            refine v_zret rfl rfl (by omega) ?_
            have hr_105 : ∀ j : Int, rs 59 j → c 59 j + c 59 (j + 1) + c 59 (j + 2) + c 59 (j + 3) ≤ 9999 := by
              intro j9 hj9
              obtain ⟨k9, rfl, hk9⟩ := rs_59 hj9
              by_cases e_106 : k9 = a2
              · skip
                have h_107 : c 59 (4 * k9) = c 59 (4 * a2) := (congrArg (c 59) (show 4 * k9 = 4 * a2 from by omega))
                have h_108 : c 59 (4 * k9 + 1) = c 59 (4 * a2 + 1) := (congrArg (c 59) (show 4 * k9 + 1 = 4 * a2 + 1 from by omega))
                have h_109 : c 59 (4 * k9 + 2) = c 59 (4 * a2 + 2) := (congrArg (c 59) (show 4 * k9 + 2 = 4 * a2 + 2 from by omega))
                have h_110 : c 59 (4 * k9 + 3) = c 59 (4 * a2 + 3) := (congrArg (c 59) (show 4 * k9 + 3 = 4 * a2 + 3 from by omega))
                omega
              by_cases e_111 : k9 = a3
              · skip
                have h_112 : c 59 (4 * k9) = c 59 (4 * a3) := (congrArg (c 59) (show 4 * k9 = 4 * a3 from by omega))
                have h_113 : c 59 (4 * k9 + 1) = c 59 (4 * a3 + 1) := (congrArg (c 59) (show 4 * k9 + 1 = 4 * a3 + 1 from by omega))
                have h_114 : c 59 (4 * k9 + 2) = c 59 (4 * a3 + 2) := (congrArg (c 59) (show 4 * k9 + 2 = 4 * a3 + 2 from by omega))
                have h_115 : c 59 (4 * k9 + 3) = c 59 (4 * a3 + 3) := (congrArg (c 59) (show 4 * k9 + 3 = 4 * a3 + 3 from by omega))
                omega
              by_cases e_116 : k9 = a4
              · skip
                have h_117 : c 59 (4 * k9) = c 59 (4 * a4) := (congrArg (c 59) (show 4 * k9 = 4 * a4 from by omega))
                have h_118 : c 59 (4 * k9 + 1) = c 59 (4 * a4 + 1) := (congrArg (c 59) (show 4 * k9 + 1 = 4 * a4 + 1 from by omega))
                have h_119 : c 59 (4 * k9 + 2) = c 59 (4 * a4 + 2) := (congrArg (c 59) (show 4 * k9 + 2 = 4 * a4 + 2 from by omega))
                have h_120 : c 59 (4 * k9 + 3) = c 59 (4 * a4 + 3) := (congrArg (c 59) (show 4 * k9 + 3 = 4 * a4 + 3 from by omega))
                omega
              have h_121 := iv_r hI 59 (4 * k9) hj9 (by omega)
              have h_122 := ir_59_g hI (j := 4 * k9) (by omega)
              have h_123 : c 59 (4 * k9) = c 59 (4 * k9) := rfl
              have h_124 := ir_59_g hI (j := 4 * k9 + 1) (by omega)
              have h_125 : c 59 (4 * k9 + 1) = c 59 (4 * k9 + 1) := rfl
              have h_126 := ir_59_g hI (j := 4 * k9 + 2) (by omega)
              have h_127 : c 59 (4 * k9 + 2) = c 59 (4 * k9 + 2) := rfl
              have h_128 := ir_59_g hI (j := 4 * k9 + 3) (by omega)
              have h_129 : c 59 (4 * k9 + 3) = c 59 (4 * k9 + 3) := rfl
              omega
            have hI_130 := iv_close hIo hr_105
            exact K c 0 hI_130 (fun a j hm => rfl) ⟨by decide, by decide⟩
          · refine v_ic_gt_f (t := 70) rfl (by decide) (by omega) ?_
            refine q_aload_n rfl rfl ?_
            refine q_iload rfl rfl ?_
            refine v_cv rfl rfl rfl rfl (by decide) ⟨⟨rfl, rfl⟩, by decide, rfl⟩ (Nat.le_of_ble_eq_true rfl) (Nat.le_of_ble_eq_true rfl) (s_187 (v1 := c 59 (4 * a4)) (v2 := c 59 (4 * a4 + 1)) (v3 := c 59 (4 * a4 + 2)) (v4 := c 59 (4 * a4 + 3)) (r := c 59 (4 * a4 + 1) + c 59 (4 * a4 + 2) + c 59 (4 * a4 + 3) + c 59 (4 * a4)) (a1 := a4) hIo (show 0 ≤ a4 ∧ a4 ≤ 5 from by omega) (rfl) (rfl) (rfl) (rfl) (by omega) ?_)
            refine bk_inl ?_
            refine q_aload_n rfl rfl ?_
            refine q_iload_n rfl rfl ?_
            refine v_cv rfl rfl rfl rfl (by decide) ⟨⟨rfl, rfl⟩, by decide, rfl⟩ (Nat.le_of_ble_eq_true rfl) (Nat.le_of_ble_eq_true rfl) (s_187 (v1 := c 59 (4 * a2)) (v2 := c 59 (4 * a2 + 1)) (v3 := c 59 (4 * a2 + 2)) (v4 := c 59 (4 * a2 + 3)) (r := c 59 (4 * a2 + 1) + c 59 (4 * a2 + 2) + c 59 (4 * a2 + 3) + c 59 (4 * a2)) (a1 := a2) hIo (show 0 ≤ a2 ∧ a2 ≤ 5 from by omega) (rfl) (rfl) (rfl) (rfl) (by omega) ?_)
            refine bk_inl ?_
            refine v_iadd (v := c 59 (4 * a2 + 1) + c 59 (4 * a2 + 2) + c 59 (4 * a2 + 3) + c 59 (4 * a2) + c 59 (4 * a4 + 1) + c 59 (4 * a4 + 2) + c 59 (4 * a4 + 3) + c 59 (4 * a4)) rfl (by omega) ?_
            refine q_iload rfl rfl ?_
            refine v_isub (v := c 59 (4 * a2 + 1) + c 59 (4 * a2 + 2) + c 59 (4 * a2 + 3) + c 59 (4 * a2) + c 59 (4 * a4 + 1) + c 59 (4 * a4 + 2) + c 59 (4 * a4 + 3) + c 59 (4 * a4) - (fal (c 49 a1) (c 59 (a1 + 30)) 0 (c 59 (4 * a2))) - (fal (c 49 a1) (c 59 (a1 + 30)) 1 (c 59 (4 * a2 + 1))) - (fal (c 49 a1) (c 59 (a1 + 30)) 2 (c 59 (4 * a2 + 2))) - (fal (c 49 a1) (c 59 (a1 + 30)) 3 (c 59 (4 * a2 + 3)))) rfl (by omega) ?_
            refine v_sip rfl (by decide) ?_
            by_cases h_131 : c 59 (4 * a2 + 1) + c 59 (4 * a2 + 2) + c 59 (4 * a2 + 3) + c 59 (4 * a2) + c 59 (4 * a4 + 1) + c 59 (4 * a4 + 2) + c 59 (4 * a4 + 3) + c 59 (4 * a4) - (fal (c 49 a1) (c 59 (a1 + 30)) 0 (c 59 (4 * a2))) - (fal (c 49 a1) (c 59 (a1 + 30)) 1 (c 59 (4 * a2 + 1))) - (fal (c 49 a1) (c 59 (a1 + 30)) 2 (c 59 (4 * a2 + 2))) - (fal (c 49 a1) (c 59 (a1 + 30)) 3 (c 59 (4 * a2 + 3))) ≤ 9999
            · refine v_ic_le_t (t := 72) rfl (by decide) (by omega) ?_
              refine q_iconst rfl ?_
              refine q_istore rfl (by decide) ?_
              refine q_iload rfl rfl ?_
              refine q_iconst rfl ?_
              refine v_ic_ge_f (t := 142) rfl (by decide) (by decide) ?_
              refine q_aload_n rfl rfl ?_
              refine q_iload_n rfl rfl ?_
              refine q_iload_n rfl rfl ?_
              refine q_iload rfl rfl ?_
              refine v_cv rfl rfl rfl rfl (by decide) ⟨⟨rfl, rfl⟩, by decide, rfl⟩ (Nat.le_of_ble_eq_true rfl) (Nat.le_of_ble_eq_true rfl) (s_189 (v1 := c 49 a1) (v2 := c 59 (a1 + 30)) (v3 := c 59 (4 * a2)) (r := (fal (c 49 a1) (c 59 (a1 + 30)) 0 (c 59 (4 * a2)))) (a1 := a1) (a2 := a2) (a3 := 0) hIo (show 0 ≤ a1 ∧ a1 ≤ 3 from by omega) (show 0 ≤ a2 ∧ a2 ≤ 5 from by omega) (show 0 ≤ 0 ∧ 0 ≤ 3 from by omega) (rfl) (rfl) ((congrArg (c 59) (show 4 * a2 + 0 = 4 * a2 from by omega))) rfl ?_)
              refine bk_inl ?_
              refine q_istore rfl (by decide) ?_
              refine q_aload_n rfl rfl ?_
              refine v_gr (t := 59) rfl rfl rfl (by decide) rfl ?_
              refine q_iconst rfl ?_
              refine q_iload_n rfl rfl ?_
              refine v_imul (v := 4 * a3) rfl (by omega) ?_
              refine q_iload rfl rfl ?_
              refine v_iadd (v := 4 * a3) rfl (by omega) ?_
              refine q_dup2 rfl ⟨rfl, rfl⟩ ?_
              refine v_ia (v := c 59 (4 * a3)) rfl rfl (by decide) (by decide) (by omega) rfl ?_
              refine q_iload rfl rfl ?_
              refine v_iadd (v := (fal (c 49 a1) (c 59 (a1 + 30)) 0 (c 59 (4 * a2))) + c 59 (4 * a3)) rfl (by omega) ?_
              refine v_is rfl rfl (by decide) (by decide) (by omega) ?_
              refine q_aload_n rfl rfl ?_
              refine v_gr (t := 59) rfl rfl rfl (by decide) rfl ?_
              refine q_iconst rfl ?_
              refine q_iload rfl rfl ?_
              refine v_imul (v := 4 * a4) rfl (by omega) ?_
              refine q_iload rfl rfl ?_
              refine v_iadd (v := 4 * a4) rfl (by omega) ?_
              refine q_dup2 rfl ⟨rfl, rfl⟩ ?_
              refine v_ia (v := c 59 (4 * a4)) rfl rfl (by decide) (by decide) (by omega) (up_n (by omega)) ?_
              refine q_aload_n rfl rfl ?_
              refine v_gr (t := 59) rfl rfl rfl (by decide) rfl ?_
              refine q_iconst rfl ?_
              refine q_iload_n rfl rfl ?_
              refine v_imul (v := 4 * a2) rfl (by omega) ?_
              refine q_iload rfl rfl ?_
              refine v_iadd (v := 4 * a2) rfl (by omega) ?_
              refine v_ia (v := c 59 (4 * a2)) rfl rfl (by decide) (by decide) (by omega) (up_n (by omega)) ?_
              refine q_iload rfl rfl ?_
              refine v_isub (v := c 59 (4 * a2) - (fal (c 49 a1) (c 59 (a1 + 30)) 0 (c 59 (4 * a2)))) rfl (by omega) ?_
              refine v_iadd (v := c 59 (4 * a2) + c 59 (4 * a4) - (fal (c 49 a1) (c 59 (a1 + 30)) 0 (c 59 (4 * a2)))) rfl (by omega) ?_
              refine v_is rfl rfl (by decide) (by decide) (by omega) ?_
              refine v_iinc (v := 1) rfl rfl (by decide) (by decide) ?_
              refine q_goto (t := 75) rfl (by decide) ?_
              refine q_iload rfl rfl ?_
              refine q_iconst rfl ?_
              refine v_ic_ge_f (t := 142) rfl (by decide) (by decide) ?_
              refine q_aload_n rfl rfl ?_
              refine q_iload_n rfl rfl ?_
              refine q_iload_n rfl rfl ?_
              refine q_iload rfl rfl ?_
              have hI_132 := iw_row (a := 59) (j := 4 * a3) (v := (fal (c 49 a1) (c 59 (a1 + 30)) 0 (c 59 (4 * a2))) + c 59 (4 * a3)) hIo (by omega) (Or.inl rfl) ⟨by omega, by omega, by omega⟩
              have hI_133 := iw_row (a := 59) (j := 4 * a4) (v := c 59 (4 * a2) + c 59 (4 * a4) - (fal (c 49 a1) (c 59 (a1 + 30)) 0 (c 59 (4 * a2)))) hI_132 (by omega) (Or.inl rfl) ⟨by omega, by omega, by omega⟩
              refine v_cv rfl rfl rfl rfl (by decide) ⟨⟨rfl, rfl⟩, by decide, rfl⟩ (Nat.le_of_ble_eq_true rfl) (Nat.le_of_ble_eq_true rfl) (s_189 (v1 := c 49 a1) (v2 := c 59 (a1 + 30)) (v3 := c 59 (4 * a2 + 1)) (r := (fal (c 49 a1) (c 59 (a1 + 30)) 1 (c 59 (4 * a2 + 1)))) (a1 := a1) (a2 := a2) (a3 := 1) hI_133 (show 0 ≤ a1 ∧ a1 ≤ 3 from by omega) (show 0 ≤ a2 ∧ a2 ≤ 5 from by omega) (show 0 ≤ 1 ∧ 1 ≤ 3 from by omega) (((up_c (by decide)).trans (up_c (by decide)))) (((up_n (by omega)).trans (up_n (by omega)))) (((up_n (by omega)).trans (up_n (by omega)))) rfl ?_)
              refine bk_inl ?_
              refine q_istore rfl (by decide) ?_
              refine Wp_ls [(7, vi (fal (c 49 a1) (c 59 (a1 + 30)) 1 (c 59 (4 * a2 + 1)))), (6, vi 1), (5, vi ((fal (c 49 a1) (c 59 (a1 + 30)) 0 (c 59 (4 * a2))) + (fal (c 49 a1) (c 59 (a1 + 30)) 1 (c 59 (4 * a2 + 1))) + (fal (c 49 a1) (c 59 (a1 + 30)) 2 (c 59 (4 * a2 + 2))) + (fal (c 49 a1) (c 59 (a1 + 30)) 3 (c 59 (4 * a2 + 3))))), (0, .ref 41), (1, vi a1), (2, vi a2), (3, vi a3), (4, vi a4)] (lsub_cons rfl (lsub_cons rfl (lsub_cons rfl (lsub_cons rfl (lsub_cons rfl (lsub_cons rfl (lsub_cons rfl (lsub_cons rfl lsub_nil)))))))) ?_
              refine q_aload_n rfl rfl ?_
              refine v_gr (t := 59) rfl rfl rfl (by decide) rfl ?_
              refine q_iconst rfl ?_
              refine q_iload_n rfl rfl ?_
              refine v_imul (v := 4 * a3) rfl (by omega) ?_
              refine q_iload rfl rfl ?_
              refine v_iadd (v := 4 * a3 + 1) rfl (by omega) ?_
              refine q_dup2 rfl ⟨rfl, rfl⟩ ?_
              refine v_ia (v := c 59 (4 * a3 + 1)) rfl rfl (by decide) (by decide) (by omega) ((up_n (by omega)).trans (up_n (by omega))) ?_
              refine q_iload rfl rfl ?_
              refine v_iadd (v := (fal (c 49 a1) (c 59 (a1 + 30)) 1 (c 59 (4 * a2 + 1))) + c 59 (4 * a3 + 1)) rfl (by omega) ?_
              refine v_is rfl rfl (by decide) (by decide) (by omega) ?_
              refine q_aload_n rfl rfl ?_
              refine v_gr (t := 59) rfl rfl rfl (by decide) rfl ?_
              refine q_iconst rfl ?_
              refine q_iload rfl rfl ?_
              refine v_imul (v := 4 * a4) rfl (by omega) ?_
              refine q_iload rfl rfl ?_
              refine v_iadd (v := 4 * a4 + 1) rfl (by omega) ?_
              refine q_dup2 rfl ⟨rfl, rfl⟩ ?_
              refine v_ia (v := c 59 (4 * a4 + 1)) rfl rfl (by decide) (by decide) (by omega) ((up_n (by omega)).trans ((up_n (by omega)).trans (up_n (by omega)))) ?_
              refine q_aload_n rfl rfl ?_
              refine v_gr (t := 59) rfl rfl rfl (by decide) rfl ?_
              refine q_iconst rfl ?_
              refine q_iload_n rfl rfl ?_
              refine v_imul (v := 4 * a2) rfl (by omega) ?_
              refine q_iload rfl rfl ?_
              refine v_iadd (v := 4 * a2 + 1) rfl (by omega) ?_
              refine v_ia (v := c 59 (4 * a2 + 1)) rfl rfl (by decide) (by decide) (by omega) ((up_n (by omega)).trans ((up_n (by omega)).trans (up_n (by omega)))) ?_
              refine q_iload rfl rfl ?_
              refine v_isub (v := c 59 (4 * a2 + 1) - (fal (c 49 a1) (c 59 (a1 + 30)) 1 (c 59 (4 * a2 + 1)))) rfl (by omega) ?_
              refine v_iadd (v := c 59 (4 * a2 + 1) + c 59 (4 * a4 + 1) - (fal (c 49 a1) (c 59 (a1 + 30)) 1 (c 59 (4 * a2 + 1)))) rfl (by omega) ?_
              refine v_is rfl rfl (by decide) (by decide) (by omega) ?_
              refine v_iinc (v := 2) rfl rfl (by decide) (by decide) ?_
              refine q_goto (t := 75) rfl (by decide) ?_
              refine q_iload rfl rfl ?_
              refine q_iconst rfl ?_
              refine v_ic_ge_f (t := 142) rfl (by decide) (by decide) ?_
              refine q_aload_n rfl rfl ?_
              refine q_iload_n rfl rfl ?_
              refine q_iload_n rfl rfl ?_
              refine q_iload rfl rfl ?_
              have hI_134 := iw_row (a := 59) (j := 4 * a3 + 1) (v := (fal (c 49 a1) (c 59 (a1 + 30)) 1 (c 59 (4 * a2 + 1))) + c 59 (4 * a3 + 1)) hI_133 (by omega) (Or.inl rfl) ⟨by omega, by omega, by omega⟩
              have hI_135 := iw_row (a := 59) (j := 4 * a4 + 1) (v := c 59 (4 * a2 + 1) + c 59 (4 * a4 + 1) - (fal (c 49 a1) (c 59 (a1 + 30)) 1 (c 59 (4 * a2 + 1)))) hI_134 (by omega) (Or.inl rfl) ⟨by omega, by omega, by omega⟩
              refine v_cv rfl rfl rfl rfl (by decide) ⟨⟨rfl, rfl⟩, by decide, rfl⟩ (Nat.le_of_ble_eq_true rfl) (Nat.le_of_ble_eq_true rfl) (s_189 (v1 := c 49 a1) (v2 := c 59 (a1 + 30)) (v3 := c 59 (4 * a2 + 2)) (r := (fal (c 49 a1) (c 59 (a1 + 30)) 2 (c 59 (4 * a2 + 2)))) (a1 := a1) (a2 := a2) (a3 := 2) hI_135 (show 0 ≤ a1 ∧ a1 ≤ 3 from by omega) (show 0 ≤ a2 ∧ a2 ≤ 5 from by omega) (show 0 ≤ 2 ∧ 2 ≤ 3 from by omega) (((up_c (by decide)).trans ((up_c (by decide)).trans ((up_c (by decide)).trans (up_c (by decide)))))) (((up_n (by omega)).trans ((up_n (by omega)).trans ((up_n (by omega)).trans (up_n (by omega)))))) (((up_n (by omega)).trans ((up_n (by omega)).trans ((up_n (by omega)).trans (up_n (by omega)))))) rfl ?_)
              refine bk_inl ?_
              refine q_istore rfl (by decide) ?_
              refine q_aload_n rfl rfl ?_
              refine v_gr (t := 59) rfl rfl rfl (by decide) rfl ?_
              refine q_iconst rfl ?_
              refine q_iload_n rfl rfl ?_
              refine v_imul (v := 4 * a3) rfl (by omega) ?_
              refine q_iload rfl rfl ?_
              refine v_iadd (v := 4 * a3 + 2) rfl (by omega) ?_
              refine q_dup2 rfl ⟨rfl, rfl⟩ ?_
              refine v_ia (v := c 59 (4 * a3 + 2)) rfl rfl (by decide) (by decide) (by omega) ((up_n (by omega)).trans ((up_n (by omega)).trans ((up_n (by omega)).trans (up_n (by omega))))) ?_
              refine q_iload rfl rfl ?_
              refine v_iadd (v := (fal (c 49 a1) (c 59 (a1 + 30)) 2 (c 59 (4 * a2 + 2))) + c 59 (4 * a3 + 2)) rfl (by omega) ?_
              refine v_is rfl rfl (by decide) (by decide) (by omega) ?_
              refine q_aload_n rfl rfl ?_
              refine v_gr (t := 59) rfl rfl rfl (by decide) rfl ?_
              refine q_iconst rfl ?_
              refine q_iload rfl rfl ?_
              refine v_imul (v := 4 * a4) rfl (by omega) ?_
              refine q_iload rfl rfl ?_
              refine v_iadd (v := 4 * a4 + 2) rfl (by omega) ?_
              refine q_dup2 rfl ⟨rfl, rfl⟩ ?_
              refine v_ia (v := c 59 (4 * a4 + 2)) rfl rfl (by decide) (by decide) (by omega) ((up_n (by omega)).trans ((up_n (by omega)).trans ((up_n (by omega)).trans ((up_n (by omega)).trans (up_n (by omega)))))) ?_
              refine q_aload_n rfl rfl ?_
              refine v_gr (t := 59) rfl rfl rfl (by decide) rfl ?_
              refine q_iconst rfl ?_
              refine q_iload_n rfl rfl ?_
              refine v_imul (v := 4 * a2) rfl (by omega) ?_
              refine q_iload rfl rfl ?_
              refine v_iadd (v := 4 * a2 + 2) rfl (by omega) ?_
              refine v_ia (v := c 59 (4 * a2 + 2)) rfl rfl (by decide) (by decide) (by omega) ((up_n (by omega)).trans ((up_n (by omega)).trans ((up_n (by omega)).trans ((up_n (by omega)).trans (up_n (by omega)))))) ?_
              refine q_iload rfl rfl ?_
              refine v_isub (v := c 59 (4 * a2 + 2) - (fal (c 49 a1) (c 59 (a1 + 30)) 2 (c 59 (4 * a2 + 2)))) rfl (by omega) ?_
              refine v_iadd (v := c 59 (4 * a2 + 2) + c 59 (4 * a4 + 2) - (fal (c 49 a1) (c 59 (a1 + 30)) 2 (c 59 (4 * a2 + 2)))) rfl (by omega) ?_
              refine v_is rfl rfl (by decide) (by decide) (by omega) ?_
              refine v_iinc (v := 3) rfl rfl (by decide) (by decide) ?_
              refine q_goto (t := 75) rfl (by decide) ?_
              refine q_iload rfl rfl ?_
              refine q_iconst rfl ?_
              refine v_ic_ge_f (t := 142) rfl (by decide) (by decide) ?_
              refine q_aload_n rfl rfl ?_
              refine q_iload_n rfl rfl ?_
              refine q_iload_n rfl rfl ?_
              refine q_iload rfl rfl ?_
              have hI_136 := iw_row (a := 59) (j := 4 * a3 + 2) (v := (fal (c 49 a1) (c 59 (a1 + 30)) 2 (c 59 (4 * a2 + 2))) + c 59 (4 * a3 + 2)) hI_135 (by omega) (Or.inl rfl) ⟨by omega, by omega, by omega⟩
              have hI_137 := iw_row (a := 59) (j := 4 * a4 + 2) (v := c 59 (4 * a2 + 2) + c 59 (4 * a4 + 2) - (fal (c 49 a1) (c 59 (a1 + 30)) 2 (c 59 (4 * a2 + 2)))) hI_136 (by omega) (Or.inl rfl) ⟨by omega, by omega, by omega⟩
              refine v_cv rfl rfl rfl rfl (by decide) ⟨⟨rfl, rfl⟩, by decide, rfl⟩ (Nat.le_of_ble_eq_true rfl) (Nat.le_of_ble_eq_true rfl) (s_189 (v1 := c 49 a1) (v2 := c 59 (a1 + 30)) (v3 := c 59 (4 * a2 + 3)) (r := (fal (c 49 a1) (c 59 (a1 + 30)) 3 (c 59 (4 * a2 + 3)))) (a1 := a1) (a2 := a2) (a3 := 3) hI_137 (show 0 ≤ a1 ∧ a1 ≤ 3 from by omega) (show 0 ≤ a2 ∧ a2 ≤ 5 from by omega) (show 0 ≤ 3 ∧ 3 ≤ 3 from by omega) (((up_c (by decide)).trans ((up_c (by decide)).trans ((up_c (by decide)).trans ((up_c (by decide)).trans ((up_c (by decide)).trans (up_c (by decide)))))))) (((up_n (by omega)).trans ((up_n (by omega)).trans ((up_n (by omega)).trans ((up_n (by omega)).trans ((up_n (by omega)).trans (up_n (by omega)))))))) (((up_n (by omega)).trans ((up_n (by omega)).trans ((up_n (by omega)).trans ((up_n (by omega)).trans ((up_n (by omega)).trans (up_n (by omega)))))))) rfl ?_)
              refine bk_inl ?_
              refine q_istore rfl (by decide) ?_
              refine q_aload_n rfl rfl ?_
              refine v_gr (t := 59) rfl rfl rfl (by decide) rfl ?_
              refine q_iconst rfl ?_
              refine q_iload_n rfl rfl ?_
              refine v_imul (v := 4 * a3) rfl (by omega) ?_
              refine q_iload rfl rfl ?_
              refine v_iadd (v := 4 * a3 + 3) rfl (by omega) ?_
              refine q_dup2 rfl ⟨rfl, rfl⟩ ?_
              refine v_ia (v := c 59 (4 * a3 + 3)) rfl rfl (by decide) (by decide) (by omega) ((up_n (by omega)).trans ((up_n (by omega)).trans ((up_n (by omega)).trans ((up_n (by omega)).trans ((up_n (by omega)).trans (up_n (by omega))))))) ?_
              refine q_iload rfl rfl ?_
              refine v_iadd (v := (fal (c 49 a1) (c 59 (a1 + 30)) 3 (c 59 (4 * a2 + 3))) + c 59 (4 * a3 + 3)) rfl (by omega) ?_
              refine v_is rfl rfl (by decide) (by decide) (by omega) ?_
              refine q_aload_n rfl rfl ?_
              refine v_gr (t := 59) rfl rfl rfl (by decide) rfl ?_
              refine q_iconst rfl ?_
              refine q_iload rfl rfl ?_
              refine v_imul (v := 4 * a4) rfl (by omega) ?_
              refine q_iload rfl rfl ?_
              refine v_iadd (v := 4 * a4 + 3) rfl (by omega) ?_
              refine q_dup2 rfl ⟨rfl, rfl⟩ ?_
              refine v_ia (v := c 59 (4 * a4 + 3)) rfl rfl (by decide) (by decide) (by omega) ((up_n (by omega)).trans ((up_n (by omega)).trans ((up_n (by omega)).trans ((up_n (by omega)).trans ((up_n (by omega)).trans ((up_n (by omega)).trans (up_n (by omega)))))))) ?_
              refine q_aload_n rfl rfl ?_
              refine v_gr (t := 59) rfl rfl rfl (by decide) rfl ?_
              refine q_iconst rfl ?_
              refine q_iload_n rfl rfl ?_
              refine v_imul (v := 4 * a2) rfl (by omega) ?_
              refine q_iload rfl rfl ?_
              refine v_iadd (v := 4 * a2 + 3) rfl (by omega) ?_
              refine v_ia (v := c 59 (4 * a2 + 3)) rfl rfl (by decide) (by decide) (by omega) ((up_n (by omega)).trans ((up_n (by omega)).trans ((up_n (by omega)).trans ((up_n (by omega)).trans ((up_n (by omega)).trans ((up_n (by omega)).trans (up_n (by omega)))))))) ?_
              refine q_iload rfl rfl ?_
              refine v_isub (v := c 59 (4 * a2 + 3) - (fal (c 49 a1) (c 59 (a1 + 30)) 3 (c 59 (4 * a2 + 3)))) rfl (by omega) ?_
              refine v_iadd (v := c 59 (4 * a2 + 3) + c 59 (4 * a4 + 3) - (fal (c 49 a1) (c 59 (a1 + 30)) 3 (c 59 (4 * a2 + 3)))) rfl (by omega) ?_
              refine v_is rfl rfl (by decide) (by decide) (by omega) ?_
              refine v_iinc (v := 4) rfl rfl (by decide) (by decide) ?_
              refine Wp_ls [(6, vi 4), (7, vi (fal (c 49 a1) (c 59 (a1 + 30)) 3 (c 59 (4 * a2 + 3)))), (5, vi ((fal (c 49 a1) (c 59 (a1 + 30)) 0 (c 59 (4 * a2))) + (fal (c 49 a1) (c 59 (a1 + 30)) 1 (c 59 (4 * a2 + 1))) + (fal (c 49 a1) (c 59 (a1 + 30)) 2 (c 59 (4 * a2 + 2))) + (fal (c 49 a1) (c 59 (a1 + 30)) 3 (c 59 (4 * a2 + 3))))), (0, .ref 41), (1, vi a1), (2, vi a2), (3, vi a3), (4, vi a4)] (lsub_cons rfl (lsub_cons rfl (lsub_cons rfl (lsub_cons rfl (lsub_cons rfl (lsub_cons rfl (lsub_cons rfl (lsub_cons rfl lsub_nil)))))))) ?_
              refine q_goto (t := 75) rfl (by decide) ?_
              refine q_iload rfl rfl ?_
              refine q_iconst rfl ?_
              refine v_ic_ge_t (t := 142) rfl (by decide) (by decide) ?_
              refine q_iload rfl rfl ?_
              by_cases h_138 : (fal (c 49 a1) (c 59 (a1 + 30)) 0 (c 59 (4 * a2))) + (fal (c 49 a1) (c 59 (a1 + 30)) 1 (c 59 (4 * a2 + 1))) + (fal (c 49 a1) (c 59 (a1 + 30)) 2 (c 59 (4 * a2 + 2))) + (fal (c 49 a1) (c 59 (a1 + 30)) 3 (c 59 (4 * a2 + 3))) ≤ 0
              · refine v_if_le_t (t := 161) rfl (by decide) (by omega) ?_
                refine q_iload rfl rfl ?_
                refine q_aload_n rfl rfl ?_
                refine q_iload_n rfl rfl ?_
                have hI_139 := iw_row (a := 59) (j := 4 * a3 + 3) (v := (fal (c 49 a1) (c 59 (a1 + 30)) 3 (c 59 (4 * a2 + 3))) + c 59 (4 * a3 + 3)) hI_137 (by omega) (Or.inl rfl) ⟨by omega, by omega, by omega⟩
                have hI_140 := iw_row (a := 59) (j := 4 * a4 + 3) (v := c 59 (4 * a2 + 3) + c 59 (4 * a4 + 3) - (fal (c 49 a1) (c 59 (a1 + 30)) 3 (c 59 (4 * a2 + 3)))) hI_139 (by omega) (Or.inl rfl) ⟨by omega, by omega, by omega⟩
                refine v_cv rfl rfl rfl rfl (by decide) ⟨⟨rfl, rfl⟩, by decide, rfl⟩ (Nat.le_of_ble_eq_true rfl) (Nat.le_of_ble_eq_true rfl) (s_187 (v1 := c 59 (4 * a2)) (v2 := c 59 (4 * a2 + 1)) (v3 := c 59 (4 * a2 + 2)) (v4 := c 59 (4 * a2 + 3)) (r := c 59 (4 * a2 + 1) + c 59 (4 * a2 + 2) + c 59 (4 * a2 + 3) + c 59 (4 * a2)) (a1 := a2) hI_140 (show 0 ≤ a2 ∧ a2 ≤ 5 from by omega) (((up_n (by omega)).trans ((up_n (by omega)).trans ((up_n (by omega)).trans ((up_n (by omega)).trans ((up_n (by omega)).trans ((up_n (by omega)).trans ((up_n (by omega)).trans (up_n (by omega)))))))))) (((up_n (by omega)).trans ((up_n (by omega)).trans ((up_n (by omega)).trans ((up_n (by omega)).trans ((up_n (by omega)).trans ((up_n (by omega)).trans ((up_n (by omega)).trans (up_n (by omega)))))))))) (((up_n (by omega)).trans ((up_n (by omega)).trans ((up_n (by omega)).trans ((up_n (by omega)).trans ((up_n (by omega)).trans ((up_n (by omega)).trans ((up_n (by omega)).trans (up_n (by omega)))))))))) (((up_n (by omega)).trans ((up_n (by omega)).trans ((up_n (by omega)).trans ((up_n (by omega)).trans ((up_n (by omega)).trans ((up_n (by omega)).trans ((up_n (by omega)).trans (up_n (by omega)))))))))) (by omega) ?_)
                refine bk_inl ?_
                refine v_ic_ge_f (t := 186) rfl (by decide) (by omega) ?_
                refine q_aload_n rfl rfl ?_
                refine q_iload rfl rfl ?_
                refine q_aload_n rfl rfl ?_
                refine v_gr (t := 59) rfl rfl rfl (by decide) rfl ?_
                refine v_bip rfl (by decide) ?_
                refine q_iload_n rfl rfl ?_
                refine v_iadd (v := a2 + 24) rfl (by omega) ?_
                have h_141 := ir_59 hI (a2 + 24)
                refine v_ia (v := c 59 (a2 + 24)) rfl rfl (by decide) (by decide) (by omega) ((up_n (by omega)).trans ((up_n (by omega)).trans ((up_n (by omega)).trans ((up_n (by omega)).trans ((up_n (by omega)).trans ((up_n (by omega)).trans ((up_n (by omega)).trans (up_n (by omega))))))))) ?_
                refine v_cv rfl rfl rfl rfl (by decide) ⟨⟨rfl, rfl⟩, by decide, rfl⟩ (Nat.le_of_ble_eq_true rfl) (Nat.le_of_ble_eq_true rfl) (s_191 (a1 := a4) (a2 := c 59 (a2 + 24)) hI_140 (show 0 ≤ a4 ∧ a4 ≤ 5 from by omega) (show (-2147483648) ≤ c 59 (a2 + 24) ∧ c 59 (a2 + 24) ≤ 2147483647 from by omega) (fun c_142 hI_143 hF_144 => ?_))
                refine bk_inl ?_
                refine q_aload_n rfl rfl ?_
                refine q_iload_n rfl rfl ?_
                refine v_cv rfl rfl rfl rfl (by decide) ⟨⟨rfl, rfl⟩, by decide, rfl⟩ (Nat.le_of_ble_eq_true rfl) (Nat.le_of_ble_eq_true rfl) (s_192 (a1 := a2) hI_143 (show 0 ≤ a2 ∧ a2 ≤ 5 from by omega) (fun c_145 hI_146 hF_147 h_148 => ?_))
                refine bk_inl ?_
                have h_149 := ir_59_g hI_146 (j := 4 * a2 + 1) (by omega)
                have h_150 := ir_59_g hI_146 (j := 4 * a2 + 2) (by omega)
                have h_151 := ir_59_g hI_146 (j := 4 * a2 + 3) (by omega)
                have h_152 := ir_59_g hI_146 (j := 4 * a2) (by omega)
                refine q_iconst rfl ?_
                refine v_zret rfl rfl (by omega) ?_
                have hr_153 : ∀ j : Int, rs 59 j → c_145 59 j + c_145 59 (j + 1) + c_145 59 (j + 2) + c_145 59 (j + 3) ≤ 9999 := by
                  intro j9 hj9
                  obtain ⟨k9, rfl, hk9⟩ := rs_59 hj9
                  by_cases e_154 : k9 = a2
                  · skip
                    have h_155 : c_145 59 (4 * k9) = c_145 59 (4 * a2) := (congrArg (c_145 59) (show 4 * k9 = 4 * a2 from by omega))
                    have h_156 : c_145 59 (4 * k9 + 1) = c_145 59 (4 * a2 + 1) := (congrArg (c_145 59) (show 4 * k9 + 1 = 4 * a2 + 1 from by omega))
                    have h_157 : c_145 59 (4 * k9 + 2) = c_145 59 (4 * a2 + 2) := (congrArg (c_145 59) (show 4 * k9 + 2 = 4 * a2 + 2 from by omega))
                    have h_158 : c_145 59 (4 * k9 + 3) = c_145 59 (4 * a2 + 3) := (congrArg (c_145 59) (show 4 * k9 + 3 = 4 * a2 + 3 from by omega))
                    omega
                  by_cases e_159 : k9 = a3
                  · skip
                    have h_160 : c_145 59 (4 * k9) = (fal (c 49 a1) (c 59 (a1 + 30)) 0 (c 59 (4 * a2))) + c 59 (4 * a3) := (congrArg (c_145 59) (show 4 * k9 = 4 * a3 from by omega)).trans ((hF_147 59 (4 * a3) (by omega)).trans ((hF_144 59 (4 * a3) (by omega)).trans ((up_n (by omega)).trans ((up_n (by omega)).trans ((up_n (by omega)).trans ((up_n (by omega)).trans ((up_n (by omega)).trans ((up_n (by omega)).trans ((up_n (by omega)).trans (up_e rfl))))))))))
                    have h_161 : c_145 59 (4 * k9 + 1) = (fal (c 49 a1) (c 59 (a1 + 30)) 1 (c 59 (4 * a2 + 1))) + c 59 (4 * a3 + 1) := (congrArg (c_145 59) (show 4 * k9 + 1 = 4 * a3 + 1 from by omega)).trans ((hF_147 59 (4 * a3 + 1) (by omega)).trans ((hF_144 59 (4 * a3 + 1) (by omega)).trans ((up_n (by omega)).trans ((up_n (by omega)).trans ((up_n (by omega)).trans ((up_n (by omega)).trans ((up_n (by omega)).trans (up_e rfl))))))))
                    have h_162 : c_145 59 (4 * k9 + 2) = (fal (c 49 a1) (c 59 (a1 + 30)) 2 (c 59 (4 * a2 + 2))) + c 59 (4 * a3 + 2) := (congrArg (c_145 59) (show 4 * k9 + 2 = 4 * a3 + 2 from by omega)).trans ((hF_147 59 (4 * a3 + 2) (by omega)).trans ((hF_144 59 (4 * a3 + 2) (by omega)).trans ((up_n (by omega)).trans ((up_n (by omega)).trans ((up_n (by omega)).trans (up_e rfl))))))
                    have h_163 : c_145 59 (4 * k9 + 3) = (fal (c 49 a1) (c 59 (a1 + 30)) 3 (c 59 (4 * a2 + 3))) + c 59 (4 * a3 + 3) := (congrArg (c_145 59) (show 4 * k9 + 3 = 4 * a3 + 3 from by omega)).trans ((hF_147 59 (4 * a3 + 3) (by omega)).trans ((hF_144 59 (4 * a3 + 3) (by omega)).trans ((up_n (by omega)).trans (up_e rfl))))
                    omega
                  by_cases e_164 : k9 = a4
                  · skip
                    have h_165 : c_145 59 (4 * k9) = c 59 (4 * a2) + c 59 (4 * a4) - (fal (c 49 a1) (c 59 (a1 + 30)) 0 (c 59 (4 * a2))) := (congrArg (c_145 59) (show 4 * k9 = 4 * a4 from by omega)).trans ((hF_147 59 (4 * a4) (by omega)).trans ((hF_144 59 (4 * a4) (by omega)).trans ((up_n (by omega)).trans ((up_n (by omega)).trans ((up_n (by omega)).trans ((up_n (by omega)).trans ((up_n (by omega)).trans ((up_n (by omega)).trans (up_e rfl)))))))))
                    have h_166 : c_145 59 (4 * k9 + 1) = c 59 (4 * a2 + 1) + c 59 (4 * a4 + 1) - (fal (c 49 a1) (c 59 (a1 + 30)) 1 (c 59 (4 * a2 + 1))) := (congrArg (c_145 59) (show 4 * k9 + 1 = 4 * a4 + 1 from by omega)).trans ((hF_147 59 (4 * a4 + 1) (by omega)).trans ((hF_144 59 (4 * a4 + 1) (by omega)).trans ((up_n (by omega)).trans ((up_n (by omega)).trans ((up_n (by omega)).trans ((up_n (by omega)).trans (up_e rfl)))))))
                    have h_167 : c_145 59 (4 * k9 + 2) = c 59 (4 * a2 + 2) + c 59 (4 * a4 + 2) - (fal (c 49 a1) (c 59 (a1 + 30)) 2 (c 59 (4 * a2 + 2))) := (congrArg (c_145 59) (show 4 * k9 + 2 = 4 * a4 + 2 from by omega)).trans ((hF_147 59 (4 * a4 + 2) (by omega)).trans ((hF_144 59 (4 * a4 + 2) (by omega)).trans ((up_n (by omega)).trans ((up_n (by omega)).trans (up_e rfl)))))
                    have h_168 : c_145 59 (4 * k9 + 3) = c 59 (4 * a2 + 3) + c 59 (4 * a4 + 3) - (fal (c 49 a1) (c 59 (a1 + 30)) 3 (c 59 (4 * a2 + 3))) := (congrArg (c_145 59) (show 4 * k9 + 3 = 4 * a4 + 3 from by omega)).trans ((hF_147 59 (4 * a4 + 3) (by omega)).trans ((hF_144 59 (4 * a4 + 3) (by omega)).trans (up_e rfl)))
                    omega
                  have h_169 := iv_r hI 59 (4 * k9) hj9 (by omega)
                  have h_170 := ir_59_g hI (j := 4 * k9) (by omega)
                  have h_171 : c_145 59 (4 * k9) = c 59 (4 * k9) := ((hF_147 59 (4 * k9) (by omega)).trans ((hF_144 59 (4 * k9) (by omega)).trans ((up_n (by omega)).trans ((up_n (by omega)).trans ((up_n (by omega)).trans ((up_n (by omega)).trans ((up_n (by omega)).trans ((up_n (by omega)).trans ((up_n (by omega)).trans (up_n (by omega)))))))))))
                  have h_172 := ir_59_g hI (j := 4 * k9 + 1) (by omega)
                  have h_173 : c_145 59 (4 * k9 + 1) = c 59 (4 * k9 + 1) := ((hF_147 59 (4 * k9 + 1) (by omega)).trans ((hF_144 59 (4 * k9 + 1) (by omega)).trans ((up_n (by omega)).trans ((up_n (by omega)).trans ((up_n (by omega)).trans ((up_n (by omega)).trans ((up_n (by omega)).trans ((up_n (by omega)).trans ((up_n (by omega)).trans (up_n (by omega)))))))))))
                  have h_174 := ir_59_g hI (j := 4 * k9 + 2) (by omega)
                  have h_175 : c_145 59 (4 * k9 + 2) = c 59 (4 * k9 + 2) := ((hF_147 59 (4 * k9 + 2) (by omega)).trans ((hF_144 59 (4 * k9 + 2) (by omega)).trans ((up_n (by omega)).trans ((up_n (by omega)).trans ((up_n (by omega)).trans ((up_n (by omega)).trans ((up_n (by omega)).trans ((up_n (by omega)).trans ((up_n (by omega)).trans (up_n (by omega)))))))))))
                  have h_176 := ir_59_g hI (j := 4 * k9 + 3) (by omega)
                  have h_177 : c_145 59 (4 * k9 + 3) = c 59 (4 * k9 + 3) := ((hF_147 59 (4 * k9 + 3) (by omega)).trans ((hF_144 59 (4 * k9 + 3) (by omega)).trans ((up_n (by omega)).trans ((up_n (by omega)).trans ((up_n (by omega)).trans ((up_n (by omega)).trans ((up_n (by omega)).trans ((up_n (by omega)).trans ((up_n (by omega)).trans (up_n (by omega)))))))))))
                  omega
                have hI_178 := iv_close hI_146 hr_153
                exact K c_145 1 hI_178 (fun a j hm => (hF_147 a j (by omega)).trans ((hF_144 a j (by omega)).trans ((up_b (by omega)).trans ((up_b (by omega)).trans ((up_b (by omega)).trans ((up_b (by omega)).trans ((up_b (by omega)).trans ((up_b (by omega)).trans ((up_b (by omega)).trans (up_b (by omega))))))))))) ⟨by decide, by decide⟩
              · refine v_if_le_f (t := 161) rfl (by decide) (by omega) ?_
                refine q_aload_n rfl rfl ?_
                refine q_iload_n rfl rfl ?_
                refine q_aload_n rfl rfl ?_
                refine v_gr (t := 59) rfl rfl rfl (by decide) rfl ?_
                refine v_bip rfl (by decide) ?_
                refine q_iload_n rfl rfl ?_
                refine v_iadd (v := a2 + 24) rfl (by omega) ?_
                have h_179 := ir_59 hI (a2 + 24)
                refine v_ia (v := c 59 (a2 + 24)) rfl rfl (by decide) (by decide) (by omega) ((up_n (by omega)).trans ((up_n (by omega)).trans ((up_n (by omega)).trans ((up_n (by omega)).trans ((up_n (by omega)).trans ((up_n (by omega)).trans ((up_n (by omega)).trans (up_n (by omega))))))))) ?_
                have hI_180 := iw_row (a := 59) (j := 4 * a3 + 3) (v := (fal (c 49 a1) (c 59 (a1 + 30)) 3 (c 59 (4 * a2 + 3))) + c 59 (4 * a3 + 3)) hI_137 (by omega) (Or.inl rfl) ⟨by omega, by omega, by omega⟩
                have hI_181 := iw_row (a := 59) (j := 4 * a4 + 3) (v := c 59 (4 * a2 + 3) + c 59 (4 * a4 + 3) - (fal (c 49 a1) (c 59 (a1 + 30)) 3 (c 59 (4 * a2 + 3)))) hI_180 (by omega) (Or.inl rfl) ⟨by omega, by omega, by omega⟩
                refine v_cv rfl rfl rfl rfl (by decide) ⟨⟨rfl, rfl⟩, by decide, rfl⟩ (Nat.le_of_ble_eq_true rfl) (Nat.le_of_ble_eq_true rfl) (s_191 (a1 := a3) (a2 := c 59 (a2 + 24)) hI_181 (show 0 ≤ a3 ∧ a3 ≤ 5 from by omega) (show (-2147483648) ≤ c 59 (a2 + 24) ∧ c 59 (a2 + 24) ≤ 2147483647 from by omega) (fun c_182 hI_183 hF_184 => ?_))
                refine bk_inl ?_
                refine q_iload rfl rfl ?_
                refine q_aload_n rfl rfl ?_
                refine q_iload_n rfl rfl ?_
                refine v_cv rfl rfl rfl rfl (by decide) ⟨⟨rfl, rfl⟩, by decide, rfl⟩ (Nat.le_of_ble_eq_true rfl) (Nat.le_of_ble_eq_true rfl) (s_187 (v1 := c 59 (4 * a2)) (v2 := c 59 (4 * a2 + 1)) (v3 := c 59 (4 * a2 + 2)) (v4 := c 59 (4 * a2 + 3)) (r := c 59 (4 * a2 + 1) + c 59 (4 * a2 + 2) + c 59 (4 * a2 + 3) + c 59 (4 * a2)) (a1 := a2) hI_183 (show 0 ≤ a2 ∧ a2 ≤ 5 from by omega) (((hF_184 59 (4 * a2) (by omega)).trans ((up_n (by omega)).trans ((up_n (by omega)).trans ((up_n (by omega)).trans ((up_n (by omega)).trans ((up_n (by omega)).trans ((up_n (by omega)).trans ((up_n (by omega)).trans (up_n (by omega))))))))))) (((hF_184 59 (4 * a2 + 1) (by omega)).trans ((up_n (by omega)).trans ((up_n (by omega)).trans ((up_n (by omega)).trans ((up_n (by omega)).trans ((up_n (by omega)).trans ((up_n (by omega)).trans ((up_n (by omega)).trans (up_n (by omega))))))))))) (((hF_184 59 (4 * a2 + 2) (by omega)).trans ((up_n (by omega)).trans ((up_n (by omega)).trans ((up_n (by omega)).trans ((up_n (by omega)).trans ((up_n (by omega)).trans ((up_n (by omega)).trans ((up_n (by omega)).trans (up_n (by omega))))))))))) (((hF_184 59 (4 * a2 + 3) (by omega)).trans ((up_n (by omega)).trans ((up_n (by omega)).trans ((up_n (by omega)).trans ((up_n (by omega)).trans ((up_n (by omega)).trans ((up_n (by omega)).trans ((up_n (by omega)).trans (up_n (by omega))))))))))) (by omega) ?_)
                refine bk_inl ?_
                by_cases h_185 : (fal (c 49 a1) (c 59 (a1 + 30)) 0 (c 59 (4 * a2))) + (fal (c 49 a1) (c 59 (a1 + 30)) 1 (c 59 (4 * a2 + 1))) + (fal (c 49 a1) (c 59 (a1 + 30)) 2 (c 59 (4 * a2 + 2))) + (fal (c 49 a1) (c 59 (a1 + 30)) 3 (c 59 (4 * a2 + 3))) ≥ c 59 (4 * a2 + 1) + c 59 (4 * a2 + 2) + c 59 (4 * a2 + 3) + c 59 (4 * a2)
                · refine v_ic_ge_t (t := 186) rfl (by decide) (by omega) ?_
                  refine q_aload_n rfl rfl ?_
                  refine q_iload_n rfl rfl ?_
                  refine v_cv rfl rfl rfl rfl (by decide) ⟨⟨rfl, rfl⟩, by decide, rfl⟩ (Nat.le_of_ble_eq_true rfl) (Nat.le_of_ble_eq_true rfl) (s_192 (a1 := a2) hI_183 (show 0 ≤ a2 ∧ a2 ≤ 5 from by omega) (fun c_186 hI_187 hF_188 h_189 => ?_))
                  refine bk_inl ?_
                  have h_190 := ir_59_g hI_187 (j := 4 * a2 + 1) (by omega)
                  have h_191 := ir_59_g hI_187 (j := 4 * a2 + 2) (by omega)
                  have h_192 := ir_59_g hI_187 (j := 4 * a2 + 3) (by omega)
                  have h_193 := ir_59_g hI_187 (j := 4 * a2) (by omega)
                  refine q_iconst rfl ?_
                  refine v_zret rfl rfl (by omega) ?_
                  have hr_194 : ∀ j : Int, rs 59 j → c_186 59 j + c_186 59 (j + 1) + c_186 59 (j + 2) + c_186 59 (j + 3) ≤ 9999 := by
                    intro j9 hj9
                    obtain ⟨k9, rfl, hk9⟩ := rs_59 hj9
                    by_cases e_195 : k9 = a2
                    · skip
                      have h_196 : c_186 59 (4 * k9) = c_186 59 (4 * a2) := (congrArg (c_186 59) (show 4 * k9 = 4 * a2 from by omega))
                      have h_197 : c_186 59 (4 * k9 + 1) = c_186 59 (4 * a2 + 1) := (congrArg (c_186 59) (show 4 * k9 + 1 = 4 * a2 + 1 from by omega))
                      have h_198 : c_186 59 (4 * k9 + 2) = c_186 59 (4 * a2 + 2) := (congrArg (c_186 59) (show 4 * k9 + 2 = 4 * a2 + 2 from by omega))
                      have h_199 : c_186 59 (4 * k9 + 3) = c_186 59 (4 * a2 + 3) := (congrArg (c_186 59) (show 4 * k9 + 3 = 4 * a2 + 3 from by omega))
                      omega
                    by_cases e_200 : k9 = a3
                    · skip
                      have h_201 : c_186 59 (4 * k9) = (fal (c 49 a1) (c 59 (a1 + 30)) 0 (c 59 (4 * a2))) + c 59 (4 * a3) := (congrArg (c_186 59) (show 4 * k9 = 4 * a3 from by omega)).trans ((hF_188 59 (4 * a3) (by omega)).trans ((hF_184 59 (4 * a3) (by omega)).trans ((up_n (by omega)).trans ((up_n (by omega)).trans ((up_n (by omega)).trans ((up_n (by omega)).trans ((up_n (by omega)).trans ((up_n (by omega)).trans ((up_n (by omega)).trans (up_e rfl))))))))))
                      have h_202 : c_186 59 (4 * k9 + 1) = (fal (c 49 a1) (c 59 (a1 + 30)) 1 (c 59 (4 * a2 + 1))) + c 59 (4 * a3 + 1) := (congrArg (c_186 59) (show 4 * k9 + 1 = 4 * a3 + 1 from by omega)).trans ((hF_188 59 (4 * a3 + 1) (by omega)).trans ((hF_184 59 (4 * a3 + 1) (by omega)).trans ((up_n (by omega)).trans ((up_n (by omega)).trans ((up_n (by omega)).trans ((up_n (by omega)).trans ((up_n (by omega)).trans (up_e rfl))))))))
                      have h_203 : c_186 59 (4 * k9 + 2) = (fal (c 49 a1) (c 59 (a1 + 30)) 2 (c 59 (4 * a2 + 2))) + c 59 (4 * a3 + 2) := (congrArg (c_186 59) (show 4 * k9 + 2 = 4 * a3 + 2 from by omega)).trans ((hF_188 59 (4 * a3 + 2) (by omega)).trans ((hF_184 59 (4 * a3 + 2) (by omega)).trans ((up_n (by omega)).trans ((up_n (by omega)).trans ((up_n (by omega)).trans (up_e rfl))))))
                      have h_204 : c_186 59 (4 * k9 + 3) = (fal (c 49 a1) (c 59 (a1 + 30)) 3 (c 59 (4 * a2 + 3))) + c 59 (4 * a3 + 3) := (congrArg (c_186 59) (show 4 * k9 + 3 = 4 * a3 + 3 from by omega)).trans ((hF_188 59 (4 * a3 + 3) (by omega)).trans ((hF_184 59 (4 * a3 + 3) (by omega)).trans ((up_n (by omega)).trans (up_e rfl))))
                      omega
                    by_cases e_205 : k9 = a4
                    · skip
                      have h_206 : c_186 59 (4 * k9) = c 59 (4 * a2) + c 59 (4 * a4) - (fal (c 49 a1) (c 59 (a1 + 30)) 0 (c 59 (4 * a2))) := (congrArg (c_186 59) (show 4 * k9 = 4 * a4 from by omega)).trans ((hF_188 59 (4 * a4) (by omega)).trans ((hF_184 59 (4 * a4) (by omega)).trans ((up_n (by omega)).trans ((up_n (by omega)).trans ((up_n (by omega)).trans ((up_n (by omega)).trans ((up_n (by omega)).trans ((up_n (by omega)).trans (up_e rfl)))))))))
                      have h_207 : c_186 59 (4 * k9 + 1) = c 59 (4 * a2 + 1) + c 59 (4 * a4 + 1) - (fal (c 49 a1) (c 59 (a1 + 30)) 1 (c 59 (4 * a2 + 1))) := (congrArg (c_186 59) (show 4 * k9 + 1 = 4 * a4 + 1 from by omega)).trans ((hF_188 59 (4 * a4 + 1) (by omega)).trans ((hF_184 59 (4 * a4 + 1) (by omega)).trans ((up_n (by omega)).trans ((up_n (by omega)).trans ((up_n (by omega)).trans ((up_n (by omega)).trans (up_e rfl)))))))
                      have h_208 : c_186 59 (4 * k9 + 2) = c 59 (4 * a2 + 2) + c 59 (4 * a4 + 2) - (fal (c 49 a1) (c 59 (a1 + 30)) 2 (c 59 (4 * a2 + 2))) := (congrArg (c_186 59) (show 4 * k9 + 2 = 4 * a4 + 2 from by omega)).trans ((hF_188 59 (4 * a4 + 2) (by omega)).trans ((hF_184 59 (4 * a4 + 2) (by omega)).trans ((up_n (by omega)).trans ((up_n (by omega)).trans (up_e rfl)))))
                      have h_209 : c_186 59 (4 * k9 + 3) = c 59 (4 * a2 + 3) + c 59 (4 * a4 + 3) - (fal (c 49 a1) (c 59 (a1 + 30)) 3 (c 59 (4 * a2 + 3))) := (congrArg (c_186 59) (show 4 * k9 + 3 = 4 * a4 + 3 from by omega)).trans ((hF_188 59 (4 * a4 + 3) (by omega)).trans ((hF_184 59 (4 * a4 + 3) (by omega)).trans (up_e rfl)))
                      omega
                    have h_210 := iv_r hI 59 (4 * k9) hj9 (by omega)
                    have h_211 := ir_59_g hI (j := 4 * k9) (by omega)
                    have h_212 : c_186 59 (4 * k9) = c 59 (4 * k9) := ((hF_188 59 (4 * k9) (by omega)).trans ((hF_184 59 (4 * k9) (by omega)).trans ((up_n (by omega)).trans ((up_n (by omega)).trans ((up_n (by omega)).trans ((up_n (by omega)).trans ((up_n (by omega)).trans ((up_n (by omega)).trans ((up_n (by omega)).trans (up_n (by omega)))))))))))
                    have h_213 := ir_59_g hI (j := 4 * k9 + 1) (by omega)
                    have h_214 : c_186 59 (4 * k9 + 1) = c 59 (4 * k9 + 1) := ((hF_188 59 (4 * k9 + 1) (by omega)).trans ((hF_184 59 (4 * k9 + 1) (by omega)).trans ((up_n (by omega)).trans ((up_n (by omega)).trans ((up_n (by omega)).trans ((up_n (by omega)).trans ((up_n (by omega)).trans ((up_n (by omega)).trans ((up_n (by omega)).trans (up_n (by omega)))))))))))
                    have h_215 := ir_59_g hI (j := 4 * k9 + 2) (by omega)
                    have h_216 : c_186 59 (4 * k9 + 2) = c 59 (4 * k9 + 2) := ((hF_188 59 (4 * k9 + 2) (by omega)).trans ((hF_184 59 (4 * k9 + 2) (by omega)).trans ((up_n (by omega)).trans ((up_n (by omega)).trans ((up_n (by omega)).trans ((up_n (by omega)).trans ((up_n (by omega)).trans ((up_n (by omega)).trans ((up_n (by omega)).trans (up_n (by omega)))))))))))
                    have h_217 := ir_59_g hI (j := 4 * k9 + 3) (by omega)
                    have h_218 : c_186 59 (4 * k9 + 3) = c 59 (4 * k9 + 3) := ((hF_188 59 (4 * k9 + 3) (by omega)).trans ((hF_184 59 (4 * k9 + 3) (by omega)).trans ((up_n (by omega)).trans ((up_n (by omega)).trans ((up_n (by omega)).trans ((up_n (by omega)).trans ((up_n (by omega)).trans ((up_n (by omega)).trans ((up_n (by omega)).trans (up_n (by omega)))))))))))
                    omega
                  have hI_219 := iv_close hI_187 hr_194
                  exact K c_186 1 hI_219 (fun a j hm => (hF_188 a j (by omega)).trans ((hF_184 a j (by omega)).trans ((up_b (by omega)).trans ((up_b (by omega)).trans ((up_b (by omega)).trans ((up_b (by omega)).trans ((up_b (by omega)).trans ((up_b (by omega)).trans ((up_b (by omega)).trans (up_b (by omega))))))))))) ⟨by decide, by decide⟩
                · refine v_ic_ge_f (t := 186) rfl (by decide) (by omega) ?_
                  refine q_aload_n rfl rfl ?_
                  refine q_iload rfl rfl ?_
                  refine q_aload_n rfl rfl ?_
                  refine v_gr (t := 59) rfl rfl rfl (by decide) rfl ?_
                  refine v_bip rfl (by decide) ?_
                  refine q_iload_n rfl rfl ?_
                  refine v_iadd (v := a2 + 24) rfl (by omega) ?_
                  refine v_ia (v := c 59 (a2 + 24)) rfl rfl (by decide) (by decide) (by omega) ((hF_184 59 (a2 + 24) (by omega)).trans ((up_n (by omega)).trans ((up_n (by omega)).trans ((up_n (by omega)).trans ((up_n (by omega)).trans ((up_n (by omega)).trans ((up_n (by omega)).trans ((up_n (by omega)).trans (up_n (by omega)))))))))) ?_
                  refine v_cv rfl rfl rfl rfl (by decide) ⟨⟨rfl, rfl⟩, by decide, rfl⟩ (Nat.le_of_ble_eq_true rfl) (Nat.le_of_ble_eq_true rfl) (s_191 (a1 := a4) (a2 := c 59 (a2 + 24)) hI_183 (show 0 ≤ a4 ∧ a4 ≤ 5 from by omega) (show (-2147483648) ≤ c 59 (a2 + 24) ∧ c 59 (a2 + 24) ≤ 2147483647 from by omega) (fun c_220 hI_221 hF_222 => ?_))
                  refine bk_inl ?_
                  refine q_aload_n rfl rfl ?_
                  refine q_iload_n rfl rfl ?_
                  refine v_cv rfl rfl rfl rfl (by decide) ⟨⟨rfl, rfl⟩, by decide, rfl⟩ (Nat.le_of_ble_eq_true rfl) (Nat.le_of_ble_eq_true rfl) (s_192 (a1 := a2) hI_221 (show 0 ≤ a2 ∧ a2 ≤ 5 from by omega) (fun c_223 hI_224 hF_225 h_226 => ?_))
                  refine bk_inl ?_
                  have h_227 := ir_59_g hI_224 (j := 4 * a2 + 1) (by omega)
                  have h_228 := ir_59_g hI_224 (j := 4 * a2 + 2) (by omega)
                  have h_229 := ir_59_g hI_224 (j := 4 * a2 + 3) (by omega)
                  have h_230 := ir_59_g hI_224 (j := 4 * a2) (by omega)
                  refine q_iconst rfl ?_
                  refine v_zret rfl rfl (by omega) ?_
                  have hr_231 : ∀ j : Int, rs 59 j → c_223 59 j + c_223 59 (j + 1) + c_223 59 (j + 2) + c_223 59 (j + 3) ≤ 9999 := by
                    intro j9 hj9
                    obtain ⟨k9, rfl, hk9⟩ := rs_59 hj9
                    by_cases e_232 : k9 = a2
                    · skip
                      have h_233 : c_223 59 (4 * k9) = c_223 59 (4 * a2) := (congrArg (c_223 59) (show 4 * k9 = 4 * a2 from by omega))
                      have h_234 : c_223 59 (4 * k9 + 1) = c_223 59 (4 * a2 + 1) := (congrArg (c_223 59) (show 4 * k9 + 1 = 4 * a2 + 1 from by omega))
                      have h_235 : c_223 59 (4 * k9 + 2) = c_223 59 (4 * a2 + 2) := (congrArg (c_223 59) (show 4 * k9 + 2 = 4 * a2 + 2 from by omega))
                      have h_236 : c_223 59 (4 * k9 + 3) = c_223 59 (4 * a2 + 3) := (congrArg (c_223 59) (show 4 * k9 + 3 = 4 * a2 + 3 from by omega))
                      omega
                    by_cases e_237 : k9 = a3
                    · skip
                      have h_238 : c_223 59 (4 * k9) = (fal (c 49 a1) (c 59 (a1 + 30)) 0 (c 59 (4 * a2))) + c 59 (4 * a3) := (congrArg (c_223 59) (show 4 * k9 = 4 * a3 from by omega)).trans ((hF_225 59 (4 * a3) (by omega)).trans ((hF_222 59 (4 * a3) (by omega)).trans ((hF_184 59 (4 * a3) (by omega)).trans ((up_n (by omega)).trans ((up_n (by omega)).trans ((up_n (by omega)).trans ((up_n (by omega)).trans ((up_n (by omega)).trans ((up_n (by omega)).trans ((up_n (by omega)).trans (up_e rfl)))))))))))
                      have h_239 : c_223 59 (4 * k9 + 1) = (fal (c 49 a1) (c 59 (a1 + 30)) 1 (c 59 (4 * a2 + 1))) + c 59 (4 * a3 + 1) := (congrArg (c_223 59) (show 4 * k9 + 1 = 4 * a3 + 1 from by omega)).trans ((hF_225 59 (4 * a3 + 1) (by omega)).trans ((hF_222 59 (4 * a3 + 1) (by omega)).trans ((hF_184 59 (4 * a3 + 1) (by omega)).trans ((up_n (by omega)).trans ((up_n (by omega)).trans ((up_n (by omega)).trans ((up_n (by omega)).trans ((up_n (by omega)).trans (up_e rfl)))))))))
                      have h_240 : c_223 59 (4 * k9 + 2) = (fal (c 49 a1) (c 59 (a1 + 30)) 2 (c 59 (4 * a2 + 2))) + c 59 (4 * a3 + 2) := (congrArg (c_223 59) (show 4 * k9 + 2 = 4 * a3 + 2 from by omega)).trans ((hF_225 59 (4 * a3 + 2) (by omega)).trans ((hF_222 59 (4 * a3 + 2) (by omega)).trans ((hF_184 59 (4 * a3 + 2) (by omega)).trans ((up_n (by omega)).trans ((up_n (by omega)).trans ((up_n (by omega)).trans (up_e rfl)))))))
                      have h_241 : c_223 59 (4 * k9 + 3) = (fal (c 49 a1) (c 59 (a1 + 30)) 3 (c 59 (4 * a2 + 3))) + c 59 (4 * a3 + 3) := (congrArg (c_223 59) (show 4 * k9 + 3 = 4 * a3 + 3 from by omega)).trans ((hF_225 59 (4 * a3 + 3) (by omega)).trans ((hF_222 59 (4 * a3 + 3) (by omega)).trans ((hF_184 59 (4 * a3 + 3) (by omega)).trans ((up_n (by omega)).trans (up_e rfl)))))
                      omega
                    by_cases e_242 : k9 = a4
                    · skip
                      have h_243 : c_223 59 (4 * k9) = c 59 (4 * a2) + c 59 (4 * a4) - (fal (c 49 a1) (c 59 (a1 + 30)) 0 (c 59 (4 * a2))) := (congrArg (c_223 59) (show 4 * k9 = 4 * a4 from by omega)).trans ((hF_225 59 (4 * a4) (by omega)).trans ((hF_222 59 (4 * a4) (by omega)).trans ((hF_184 59 (4 * a4) (by omega)).trans ((up_n (by omega)).trans ((up_n (by omega)).trans ((up_n (by omega)).trans ((up_n (by omega)).trans ((up_n (by omega)).trans ((up_n (by omega)).trans (up_e rfl))))))))))
                      have h_244 : c_223 59 (4 * k9 + 1) = c 59 (4 * a2 + 1) + c 59 (4 * a4 + 1) - (fal (c 49 a1) (c 59 (a1 + 30)) 1 (c 59 (4 * a2 + 1))) := (congrArg (c_223 59) (show 4 * k9 + 1 = 4 * a4 + 1 from by omega)).trans ((hF_225 59 (4 * a4 + 1) (by omega)).trans ((hF_222 59 (4 * a4 + 1) (by omega)).trans ((hF_184 59 (4 * a4 + 1) (by omega)).trans ((up_n (by omega)).trans ((up_n (by omega)).trans ((up_n (by omega)).trans ((up_n (by omega)).trans (up_e rfl))))))))
                      have h_245 : c_223 59 (4 * k9 + 2) = c 59 (4 * a2 + 2) + c 59 (4 * a4 + 2) - (fal (c 49 a1) (c 59 (a1 + 30)) 2 (c 59 (4 * a2 + 2))) := (congrArg (c_223 59) (show 4 * k9 + 2 = 4 * a4 + 2 from by omega)).trans ((hF_225 59 (4 * a4 + 2) (by omega)).trans ((hF_222 59 (4 * a4 + 2) (by omega)).trans ((hF_184 59 (4 * a4 + 2) (by omega)).trans ((up_n (by omega)).trans ((up_n (by omega)).trans (up_e rfl))))))
                      have h_246 : c_223 59 (4 * k9 + 3) = c 59 (4 * a2 + 3) + c 59 (4 * a4 + 3) - (fal (c 49 a1) (c 59 (a1 + 30)) 3 (c 59 (4 * a2 + 3))) := (congrArg (c_223 59) (show 4 * k9 + 3 = 4 * a4 + 3 from by omega)).trans ((hF_225 59 (4 * a4 + 3) (by omega)).trans ((hF_222 59 (4 * a4 + 3) (by omega)).trans ((hF_184 59 (4 * a4 + 3) (by omega)).trans (up_e rfl))))
                      omega
                    have h_247 := iv_r hI 59 (4 * k9) hj9 (by omega)
                    have h_248 := ir_59_g hI (j := 4 * k9) (by omega)
                    have h_249 : c_223 59 (4 * k9) = c 59 (4 * k9) := ((hF_225 59 (4 * k9) (by omega)).trans ((hF_222 59 (4 * k9) (by omega)).trans ((hF_184 59 (4 * k9) (by omega)).trans ((up_n (by omega)).trans ((up_n (by omega)).trans ((up_n (by omega)).trans ((up_n (by omega)).trans ((up_n (by omega)).trans ((up_n (by omega)).trans ((up_n (by omega)).trans (up_n (by omega))))))))))))
                    have h_250 := ir_59_g hI (j := 4 * k9 + 1) (by omega)
                    have h_251 : c_223 59 (4 * k9 + 1) = c 59 (4 * k9 + 1) := ((hF_225 59 (4 * k9 + 1) (by omega)).trans ((hF_222 59 (4 * k9 + 1) (by omega)).trans ((hF_184 59 (4 * k9 + 1) (by omega)).trans ((up_n (by omega)).trans ((up_n (by omega)).trans ((up_n (by omega)).trans ((up_n (by omega)).trans ((up_n (by omega)).trans ((up_n (by omega)).trans ((up_n (by omega)).trans (up_n (by omega))))))))))))
                    have h_252 := ir_59_g hI (j := 4 * k9 + 2) (by omega)
                    have h_253 : c_223 59 (4 * k9 + 2) = c 59 (4 * k9 + 2) := ((hF_225 59 (4 * k9 + 2) (by omega)).trans ((hF_222 59 (4 * k9 + 2) (by omega)).trans ((hF_184 59 (4 * k9 + 2) (by omega)).trans ((up_n (by omega)).trans ((up_n (by omega)).trans ((up_n (by omega)).trans ((up_n (by omega)).trans ((up_n (by omega)).trans ((up_n (by omega)).trans ((up_n (by omega)).trans (up_n (by omega))))))))))))
                    have h_254 := ir_59_g hI (j := 4 * k9 + 3) (by omega)
                    have h_255 : c_223 59 (4 * k9 + 3) = c 59 (4 * k9 + 3) := ((hF_225 59 (4 * k9 + 3) (by omega)).trans ((hF_222 59 (4 * k9 + 3) (by omega)).trans ((hF_184 59 (4 * k9 + 3) (by omega)).trans ((up_n (by omega)).trans ((up_n (by omega)).trans ((up_n (by omega)).trans ((up_n (by omega)).trans ((up_n (by omega)).trans ((up_n (by omega)).trans ((up_n (by omega)).trans (up_n (by omega))))))))))))
                    omega
                  have hI_256 := iv_close hI_224 hr_231
                  exact K c_223 1 hI_256 (fun a j hm => (hF_225 a j (by omega)).trans ((hF_222 a j (by omega)).trans ((hF_184 a j (by omega)).trans ((up_b (by omega)).trans ((up_b (by omega)).trans ((up_b (by omega)).trans ((up_b (by omega)).trans ((up_b (by omega)).trans ((up_b (by omega)).trans ((up_b (by omega)).trans (up_b (by omega)))))))))))) ⟨by decide, by decide⟩
            · refine v_ic_le_f (t := 72) rfl (by decide) (by omega) ?_
              refine q_iconst rfl ?_
              refine v_zret rfl rfl (by omega) ?_
              have hr_257 : ∀ j : Int, rs 59 j → c 59 j + c 59 (j + 1) + c 59 (j + 2) + c 59 (j + 3) ≤ 9999 := by
                intro j9 hj9
                obtain ⟨k9, rfl, hk9⟩ := rs_59 hj9
                by_cases e_258 : k9 = a2
                · skip
                  have h_259 : c 59 (4 * k9) = c 59 (4 * a2) := (congrArg (c 59) (show 4 * k9 = 4 * a2 from by omega))
                  have h_260 : c 59 (4 * k9 + 1) = c 59 (4 * a2 + 1) := (congrArg (c 59) (show 4 * k9 + 1 = 4 * a2 + 1 from by omega))
                  have h_261 : c 59 (4 * k9 + 2) = c 59 (4 * a2 + 2) := (congrArg (c 59) (show 4 * k9 + 2 = 4 * a2 + 2 from by omega))
                  have h_262 : c 59 (4 * k9 + 3) = c 59 (4 * a2 + 3) := (congrArg (c 59) (show 4 * k9 + 3 = 4 * a2 + 3 from by omega))
                  omega
                by_cases e_263 : k9 = a3
                · skip
                  have h_264 : c 59 (4 * k9) = c 59 (4 * a3) := (congrArg (c 59) (show 4 * k9 = 4 * a3 from by omega))
                  have h_265 : c 59 (4 * k9 + 1) = c 59 (4 * a3 + 1) := (congrArg (c 59) (show 4 * k9 + 1 = 4 * a3 + 1 from by omega))
                  have h_266 : c 59 (4 * k9 + 2) = c 59 (4 * a3 + 2) := (congrArg (c 59) (show 4 * k9 + 2 = 4 * a3 + 2 from by omega))
                  have h_267 : c 59 (4 * k9 + 3) = c 59 (4 * a3 + 3) := (congrArg (c 59) (show 4 * k9 + 3 = 4 * a3 + 3 from by omega))
                  omega
                by_cases e_268 : k9 = a4
                · skip
                  have h_269 : c 59 (4 * k9) = c 59 (4 * a4) := (congrArg (c 59) (show 4 * k9 = 4 * a4 from by omega))
                  have h_270 : c 59 (4 * k9 + 1) = c 59 (4 * a4 + 1) := (congrArg (c 59) (show 4 * k9 + 1 = 4 * a4 + 1 from by omega))
                  have h_271 : c 59 (4 * k9 + 2) = c 59 (4 * a4 + 2) := (congrArg (c 59) (show 4 * k9 + 2 = 4 * a4 + 2 from by omega))
                  have h_272 : c 59 (4 * k9 + 3) = c 59 (4 * a4 + 3) := (congrArg (c 59) (show 4 * k9 + 3 = 4 * a4 + 3 from by omega))
                  omega
                have h_273 := iv_r hI 59 (4 * k9) hj9 (by omega)
                have h_274 := ir_59_g hI (j := 4 * k9) (by omega)
                have h_275 : c 59 (4 * k9) = c 59 (4 * k9) := rfl
                have h_276 := ir_59_g hI (j := 4 * k9 + 1) (by omega)
                have h_277 : c 59 (4 * k9 + 1) = c 59 (4 * k9 + 1) := rfl
                have h_278 := ir_59_g hI (j := 4 * k9 + 2) (by omega)
                have h_279 : c 59 (4 * k9 + 2) = c 59 (4 * k9 + 2) := rfl
                have h_280 := ir_59_g hI (j := 4 * k9 + 3) (by omega)
                have h_281 : c 59 (4 * k9 + 3) = c 59 (4 * k9 + 3) := rfl
                omega
              have hI_282 := iv_close hIo hr_257
              exact K c 0 hI_282 (fun a j hm => rfl) ⟨by decide, by decide⟩
        · refine v_ic_ne_f (t := 27) rfl (by decide) (by omega) ?_
          refine q_iconst rfl ?_
          refine v_zret rfl rfl (by omega) ?_
          have hr_283 : ∀ j : Int, rs 59 j → c 59 j + c 59 (j + 1) + c 59 (j + 2) + c 59 (j + 3) ≤ 9999 := by
            intro j9 hj9
            obtain ⟨k9, rfl, hk9⟩ := rs_59 hj9
            by_cases e_284 : k9 = a2
            · skip
              have h_285 : c 59 (4 * k9) = c 59 (4 * a2) := (congrArg (c 59) (show 4 * k9 = 4 * a2 from by omega))
              have h_286 : c 59 (4 * k9 + 1) = c 59 (4 * a2 + 1) := (congrArg (c 59) (show 4 * k9 + 1 = 4 * a2 + 1 from by omega))
              have h_287 : c 59 (4 * k9 + 2) = c 59 (4 * a2 + 2) := (congrArg (c 59) (show 4 * k9 + 2 = 4 * a2 + 2 from by omega))
              have h_288 : c 59 (4 * k9 + 3) = c 59 (4 * a2 + 3) := (congrArg (c 59) (show 4 * k9 + 3 = 4 * a2 + 3 from by omega))
              omega
            by_cases e_289 : k9 = a3
            · skip
              have h_290 : c 59 (4 * k9) = c 59 (4 * a3) := (congrArg (c 59) (show 4 * k9 = 4 * a3 from by omega))
              have h_291 : c 59 (4 * k9 + 1) = c 59 (4 * a3 + 1) := (congrArg (c 59) (show 4 * k9 + 1 = 4 * a3 + 1 from by omega))
              have h_292 : c 59 (4 * k9 + 2) = c 59 (4 * a3 + 2) := (congrArg (c 59) (show 4 * k9 + 2 = 4 * a3 + 2 from by omega))
              have h_293 : c 59 (4 * k9 + 3) = c 59 (4 * a3 + 3) := (congrArg (c 59) (show 4 * k9 + 3 = 4 * a3 + 3 from by omega))
              omega
            by_cases e_294 : k9 = a4
            · skip
              have h_295 : c 59 (4 * k9) = c 59 (4 * a4) := (congrArg (c 59) (show 4 * k9 = 4 * a4 from by omega))
              have h_296 : c 59 (4 * k9 + 1) = c 59 (4 * a4 + 1) := (congrArg (c 59) (show 4 * k9 + 1 = 4 * a4 + 1 from by omega))
              have h_297 : c 59 (4 * k9 + 2) = c 59 (4 * a4 + 2) := (congrArg (c 59) (show 4 * k9 + 2 = 4 * a4 + 2 from by omega))
              have h_298 : c 59 (4 * k9 + 3) = c 59 (4 * a4 + 3) := (congrArg (c 59) (show 4 * k9 + 3 = 4 * a4 + 3 from by omega))
              omega
            have h_299 := iv_r hI 59 (4 * k9) hj9 (by omega)
            have h_300 := ir_59_g hI (j := 4 * k9) (by omega)
            have h_301 : c 59 (4 * k9) = c 59 (4 * k9) := rfl
            have h_302 := ir_59_g hI (j := 4 * k9 + 1) (by omega)
            have h_303 : c 59 (4 * k9 + 1) = c 59 (4 * k9 + 1) := rfl
            have h_304 := ir_59_g hI (j := 4 * k9 + 2) (by omega)
            have h_305 : c 59 (4 * k9 + 2) = c 59 (4 * k9 + 2) := rfl
            have h_306 := ir_59_g hI (j := 4 * k9 + 3) (by omega)
            have h_307 : c 59 (4 * k9 + 3) = c 59 (4 * k9 + 3) := rfl
            omega
          have hI_308 := iv_close hIo hr_283
          exact K c 0 hI_308 (fun a j hm => rfl) ⟨by decide, by decide⟩

set_option maxRecDepth 100000 in
set_option maxHeartbeats 4000000 in
theorem s_194 {sc : List Int32} {d P Q : Nat} {c : ME} {a1 : Int} {a2 : Int} {a3 : Int} {Z : AR → Prop} (hI : Iv 0 (-1) P Q c) (ha1 : 0 ≤ a1 ∧ a1 ≤ 5) (ha2 : 0 ≤ a2 ∧ a2 ≤ 5) (ha3 : 0 ≤ a3 ∧ a3 ≤ 99999) (K : ∀ (c2 : ME) (y : Int), Iv 0 (-1) P Q c2 → (∀ (a : Nat) (j : Int), ¬ (a = 59) → c2 a j = c a j) → 0 ≤ y ∧ y ≤ 1 → Z (.inl (some (vi y)), Wd P Q P P c2, 0, 0)) : Wp sc (d + 8) 194 0 [(0, .ref 41), (1, vi a1), (2, vi a2), (3, vi a3)] [] (Wd P Q P P c) 0 0 Z := by
  have hP := iv_P hI
  have hQ := iv_Q hI
  have hIo : Iv 59 (-1) P Q c := iv_open hI
  have hsum_1 := ir_59_r hI (by decide) (j := a1) (by omega)
  have h_2 := ir_59_g hI (j := 4 * a1) (by omega)
  have h_3 := ir_59_g hI (j := 4 * a1 + 1) (by omega)
  have h_4 := ir_59_g hI (j := 4 * a1 + 2) (by omega)
  have h_5 := ir_59_g hI (j := 4 * a1 + 3) (by omega)
  have hsum_6 := ir_59_r hI (by decide) (j := a2) (by omega)
  have h_7 := ir_59_g hI (j := 4 * a2) (by omega)
  have h_8 := ir_59_g hI (j := 4 * a2 + 1) (by omega)
  have h_9 := ir_59_g hI (j := 4 * a2 + 2) (by omega)
  have h_10 := ir_59_g hI (j := 4 * a2 + 3) (by omega)
  refine q_iload_n rfl rfl ?_
  by_cases h_11 : a3 = 0
  · refine v_if_eq_t (t := 31) rfl (by decide) (by omega) ?_
    refine q_iconst rfl ?_
    refine v_zret rfl rfl (by omega) ?_
    have hr_12 : ∀ j : Int, rs 59 j → c 59 j + c 59 (j + 1) + c 59 (j + 2) + c 59 (j + 3) ≤ 9999 := by
      intro j9 hj9
      obtain ⟨k9, rfl, hk9⟩ := rs_59 hj9
      by_cases e_13 : k9 = a1
      · skip
        have h_14 : c 59 (4 * k9) = c 59 (4 * a1) := (congrArg (c 59) (show 4 * k9 = 4 * a1 from by omega))
        have h_15 : c 59 (4 * k9 + 1) = c 59 (4 * a1 + 1) := (congrArg (c 59) (show 4 * k9 + 1 = 4 * a1 + 1 from by omega))
        have h_16 : c 59 (4 * k9 + 2) = c 59 (4 * a1 + 2) := (congrArg (c 59) (show 4 * k9 + 2 = 4 * a1 + 2 from by omega))
        have h_17 : c 59 (4 * k9 + 3) = c 59 (4 * a1 + 3) := (congrArg (c 59) (show 4 * k9 + 3 = 4 * a1 + 3 from by omega))
        omega
      by_cases e_18 : k9 = a2
      · skip
        have h_19 : c 59 (4 * k9) = c 59 (4 * a2) := (congrArg (c 59) (show 4 * k9 = 4 * a2 from by omega))
        have h_20 : c 59 (4 * k9 + 1) = c 59 (4 * a2 + 1) := (congrArg (c 59) (show 4 * k9 + 1 = 4 * a2 + 1 from by omega))
        have h_21 : c 59 (4 * k9 + 2) = c 59 (4 * a2 + 2) := (congrArg (c 59) (show 4 * k9 + 2 = 4 * a2 + 2 from by omega))
        have h_22 : c 59 (4 * k9 + 3) = c 59 (4 * a2 + 3) := (congrArg (c 59) (show 4 * k9 + 3 = 4 * a2 + 3 from by omega))
        omega
      have h_23 := iv_r hI 59 (4 * k9) hj9 (by omega)
      have h_24 := ir_59_g hI (j := 4 * k9) (by omega)
      have h_25 : c 59 (4 * k9) = c 59 (4 * k9) := rfl
      have h_26 := ir_59_g hI (j := 4 * k9 + 1) (by omega)
      have h_27 : c 59 (4 * k9 + 1) = c 59 (4 * k9 + 1) := rfl
      have h_28 := ir_59_g hI (j := 4 * k9 + 2) (by omega)
      have h_29 : c 59 (4 * k9 + 2) = c 59 (4 * k9 + 2) := rfl
      have h_30 := ir_59_g hI (j := 4 * k9 + 3) (by omega)
      have h_31 : c 59 (4 * k9 + 3) = c 59 (4 * k9 + 3) := rfl
      omega
    have hI_32 := iv_close hIo hr_12
    exact K c 0 hI_32 (fun a j hm => rfl) ⟨by decide, by decide⟩
  · refine v_if_eq_f (t := 31) rfl (by decide) (by omega) ?_
    refine q_aload_n rfl rfl ?_
    refine q_iload_n rfl rfl ?_
    refine v_cv rfl rfl rfl rfl (by decide) ⟨⟨rfl, rfl⟩, by decide, rfl⟩ (Nat.le_of_ble_eq_true rfl) (Nat.le_of_ble_eq_true rfl) (s_187 (v1 := c 59 (4 * a1)) (v2 := c 59 (4 * a1 + 1)) (v3 := c 59 (4 * a1 + 2)) (v4 := c 59 (4 * a1 + 3)) (r := c 59 (4 * a1 + 1) + c 59 (4 * a1 + 2) + c 59 (4 * a1 + 3) + c 59 (4 * a1)) (a1 := a1) hIo (show 0 ≤ a1 ∧ a1 ≤ 5 from by omega) (rfl) (rfl) (rfl) (rfl) (by omega) ?_)
    refine bk_inl ?_
    refine q_iload_n rfl rfl ?_
    by_cases h_33 : c 59 (4 * a1 + 1) + c 59 (4 * a1 + 2) + c 59 (4 * a1 + 3) + c 59 (4 * a1) < a3
    · refine v_ic_lt_t (t := 31) rfl (by decide) (by omega) ?_
      refine q_iconst rfl ?_
      refine v_zret rfl rfl (by omega) ?_
      have hr_34 : ∀ j : Int, rs 59 j → c 59 j + c 59 (j + 1) + c 59 (j + 2) + c 59 (j + 3) ≤ 9999 := by
        intro j9 hj9
        obtain ⟨k9, rfl, hk9⟩ := rs_59 hj9
        by_cases e_35 : k9 = a1
        · skip
          have h_36 : c 59 (4 * k9) = c 59 (4 * a1) := (congrArg (c 59) (show 4 * k9 = 4 * a1 from by omega))
          have h_37 : c 59 (4 * k9 + 1) = c 59 (4 * a1 + 1) := (congrArg (c 59) (show 4 * k9 + 1 = 4 * a1 + 1 from by omega))
          have h_38 : c 59 (4 * k9 + 2) = c 59 (4 * a1 + 2) := (congrArg (c 59) (show 4 * k9 + 2 = 4 * a1 + 2 from by omega))
          have h_39 : c 59 (4 * k9 + 3) = c 59 (4 * a1 + 3) := (congrArg (c 59) (show 4 * k9 + 3 = 4 * a1 + 3 from by omega))
          omega
        by_cases e_40 : k9 = a2
        · skip
          have h_41 : c 59 (4 * k9) = c 59 (4 * a2) := (congrArg (c 59) (show 4 * k9 = 4 * a2 from by omega))
          have h_42 : c 59 (4 * k9 + 1) = c 59 (4 * a2 + 1) := (congrArg (c 59) (show 4 * k9 + 1 = 4 * a2 + 1 from by omega))
          have h_43 : c 59 (4 * k9 + 2) = c 59 (4 * a2 + 2) := (congrArg (c 59) (show 4 * k9 + 2 = 4 * a2 + 2 from by omega))
          have h_44 : c 59 (4 * k9 + 3) = c 59 (4 * a2 + 3) := (congrArg (c 59) (show 4 * k9 + 3 = 4 * a2 + 3 from by omega))
          omega
        have h_45 := iv_r hI 59 (4 * k9) hj9 (by omega)
        have h_46 := ir_59_g hI (j := 4 * k9) (by omega)
        have h_47 : c 59 (4 * k9) = c 59 (4 * k9) := rfl
        have h_48 := ir_59_g hI (j := 4 * k9 + 1) (by omega)
        have h_49 : c 59 (4 * k9 + 1) = c 59 (4 * k9 + 1) := rfl
        have h_50 := ir_59_g hI (j := 4 * k9 + 2) (by omega)
        have h_51 : c 59 (4 * k9 + 2) = c 59 (4 * k9 + 2) := rfl
        have h_52 := ir_59_g hI (j := 4 * k9 + 3) (by omega)
        have h_53 : c 59 (4 * k9 + 3) = c 59 (4 * k9 + 3) := rfl
        omega
      have hI_54 := iv_close hIo hr_34
      exact K c 0 hI_54 (fun a j hm => rfl) ⟨by decide, by decide⟩
    · refine v_ic_lt_f (t := 31) rfl (by decide) (by omega) ?_
      refine q_iload_n rfl rfl ?_
      refine q_iload_n rfl rfl ?_
      by_cases h_55 : a1 = a2
      · refine v_ic_eq_t (t := 31) rfl (by decide) (by omega) ?_
        refine q_iconst rfl ?_
        refine v_zret rfl rfl (by omega) ?_
        have hr_56 : ∀ j : Int, rs 59 j → c 59 j + c 59 (j + 1) + c 59 (j + 2) + c 59 (j + 3) ≤ 9999 := by
          intro j9 hj9
          obtain ⟨k9, rfl, hk9⟩ := rs_59 hj9
          by_cases e_57 : k9 = a1
          · skip
            have h_58 : c 59 (4 * k9) = c 59 (4 * a1) := (congrArg (c 59) (show 4 * k9 = 4 * a1 from by omega))
            have h_59 : c 59 (4 * k9 + 1) = c 59 (4 * a1 + 1) := (congrArg (c 59) (show 4 * k9 + 1 = 4 * a1 + 1 from by omega))
            have h_60 : c 59 (4 * k9 + 2) = c 59 (4 * a1 + 2) := (congrArg (c 59) (show 4 * k9 + 2 = 4 * a1 + 2 from by omega))
            have h_61 : c 59 (4 * k9 + 3) = c 59 (4 * a1 + 3) := (congrArg (c 59) (show 4 * k9 + 3 = 4 * a1 + 3 from by omega))
            omega
          by_cases e_62 : k9 = a2
          · skip
            have h_63 : c 59 (4 * k9) = c 59 (4 * a2) := (congrArg (c 59) (show 4 * k9 = 4 * a2 from by omega))
            have h_64 : c 59 (4 * k9 + 1) = c 59 (4 * a2 + 1) := (congrArg (c 59) (show 4 * k9 + 1 = 4 * a2 + 1 from by omega))
            have h_65 : c 59 (4 * k9 + 2) = c 59 (4 * a2 + 2) := (congrArg (c 59) (show 4 * k9 + 2 = 4 * a2 + 2 from by omega))
            have h_66 : c 59 (4 * k9 + 3) = c 59 (4 * a2 + 3) := (congrArg (c 59) (show 4 * k9 + 3 = 4 * a2 + 3 from by omega))
            omega
          have h_67 := iv_r hI 59 (4 * k9) hj9 (by omega)
          have h_68 := ir_59_g hI (j := 4 * k9) (by omega)
          have h_69 : c 59 (4 * k9) = c 59 (4 * k9) := rfl
          have h_70 := ir_59_g hI (j := 4 * k9 + 1) (by omega)
          have h_71 : c 59 (4 * k9 + 1) = c 59 (4 * k9 + 1) := rfl
          have h_72 := ir_59_g hI (j := 4 * k9 + 2) (by omega)
          have h_73 : c 59 (4 * k9 + 2) = c 59 (4 * k9 + 2) := rfl
          have h_74 := ir_59_g hI (j := 4 * k9 + 3) (by omega)
          have h_75 : c 59 (4 * k9 + 3) = c 59 (4 * k9 + 3) := rfl
          omega
        have hI_76 := iv_close hIo hr_56
        exact K c 0 hI_76 (fun a j hm => rfl) ⟨by decide, by decide⟩
      · refine v_ic_eq_f (t := 31) rfl (by decide) (by omega) ?_
        refine q_aload_n rfl rfl ?_
        refine q_iload_n rfl rfl ?_
        refine v_cv rfl rfl rfl rfl (by decide) ⟨⟨rfl, rfl⟩, by decide, rfl⟩ (Nat.le_of_ble_eq_true rfl) (Nat.le_of_ble_eq_true rfl) (s_187 (v1 := c 59 (4 * a2)) (v2 := c 59 (4 * a2 + 1)) (v3 := c 59 (4 * a2 + 2)) (v4 := c 59 (4 * a2 + 3)) (r := c 59 (4 * a2 + 1) + c 59 (4 * a2 + 2) + c 59 (4 * a2 + 3) + c 59 (4 * a2)) (a1 := a2) hIo (show 0 ≤ a2 ∧ a2 ≤ 5 from by omega) (rfl) (rfl) (rfl) (rfl) (by omega) ?_)
        refine bk_inl ?_
        refine q_iload_n rfl rfl ?_
        refine v_iadd (v := a3 + c 59 (4 * a2 + 1) + c 59 (4 * a2 + 2) + c 59 (4 * a2 + 3) + c 59 (4 * a2)) rfl (by omega) ?_
        refine v_sip rfl (by decide) ?_
        by_cases h_77 : a3 + c 59 (4 * a2 + 1) + c 59 (4 * a2 + 2) + c 59 (4 * a2 + 3) + c 59 (4 * a2) ≤ 9999
        · refine v_ic_le_t (t := 33) rfl (by decide) (by omega) ?_
          refine q_iload_n rfl rfl ?_
          refine q_istore rfl (by decide) ?_
          refine q_iconst rfl ?_
          refine q_istore rfl (by decide) ?_
          refine q_iload rfl rfl ?_
          refine q_iconst rfl ?_
          refine v_ic_ge_f (t := 124) rfl (by decide) (by decide) ?_
          refine q_aload_n rfl rfl ?_
          refine v_gr (t := 59) rfl rfl rfl (by decide) rfl ?_
          refine q_iconst rfl ?_
          refine q_iload_n rfl rfl ?_
          refine v_imul (v := 4 * a1) rfl (by omega) ?_
          refine q_iload rfl rfl ?_
          refine v_iadd (v := 4 * a1) rfl (by omega) ?_
          refine v_ia (v := c 59 (4 * a1)) rfl rfl (by decide) (by decide) (by omega) rfl ?_
          refine q_iload rfl rfl ?_
          by_cases h_78 : c 59 (4 * a1) ≥ a3
          · refine v_ic_ge_t (t := 75) rfl (by decide) (by omega) ?_
            refine q_iload rfl rfl ?_
            refine q_istore rfl (by decide) ?_
            refine q_aload_n rfl rfl ?_
            refine v_gr (t := 59) rfl rfl rfl (by decide) rfl ?_
            refine q_iconst rfl ?_
            refine q_iload_n rfl rfl ?_
            refine v_imul (v := 4 * a1) rfl (by omega) ?_
            refine q_iload rfl rfl ?_
            refine v_iadd (v := 4 * a1) rfl (by omega) ?_
            refine q_dup2 rfl ⟨rfl, rfl⟩ ?_
            refine v_ia (v := c 59 (4 * a1)) rfl rfl (by decide) (by decide) (by omega) rfl ?_
            refine q_iload rfl rfl ?_
            refine v_isub (v := c 59 (4 * a1) - a3) rfl (by omega) ?_
            refine v_is rfl rfl (by decide) (by decide) (by omega) ?_
            refine q_aload_n rfl rfl ?_
            refine v_gr (t := 59) rfl rfl rfl (by decide) rfl ?_
            refine q_iconst rfl ?_
            refine q_iload_n rfl rfl ?_
            refine v_imul (v := 4 * a2) rfl (by omega) ?_
            refine q_iload rfl rfl ?_
            refine v_iadd (v := 4 * a2) rfl (by omega) ?_
            refine q_dup2 rfl ⟨rfl, rfl⟩ ?_
            refine v_ia (v := c 59 (4 * a2)) rfl rfl (by decide) (by decide) (by omega) (up_n (by omega)) ?_
            refine q_iload rfl rfl ?_
            refine v_iadd (v := a3 + c 59 (4 * a2)) rfl (by omega) ?_
            refine v_is rfl rfl (by decide) (by decide) (by omega) ?_
            refine q_iload rfl rfl ?_
            refine q_iload rfl rfl ?_
            refine v_isub (v := 0) rfl (by decide) ?_
            refine q_istore rfl (by decide) ?_
            refine v_iinc (v := 1) rfl rfl (by decide) (by decide) ?_
            refine Wp_ls [(5, vi 1), (4, vi 0), (6, vi a3), (0, .ref 41), (1, vi a1), (2, vi a2), (3, vi a3)] (lsub_cons rfl (lsub_cons rfl (lsub_cons rfl (lsub_cons rfl (lsub_cons rfl (lsub_cons rfl (lsub_cons rfl lsub_nil))))))) ?_
            refine q_goto (t := 39) rfl (by decide) ?_
            refine q_iload rfl rfl ?_
            refine q_iconst rfl ?_
            refine v_ic_ge_f (t := 124) rfl (by decide) (by decide) ?_
            refine q_aload_n rfl rfl ?_
            refine v_gr (t := 59) rfl rfl rfl (by decide) rfl ?_
            refine q_iconst rfl ?_
            refine q_iload_n rfl rfl ?_
            refine v_imul (v := 4 * a1) rfl (by omega) ?_
            refine q_iload rfl rfl ?_
            refine v_iadd (v := 4 * a1 + 1) rfl (by omega) ?_
            refine v_ia (v := c 59 (4 * a1 + 1)) rfl rfl (by decide) (by decide) (by omega) ((up_n (by omega)).trans (up_n (by omega))) ?_
            refine q_iload rfl rfl ?_
            refine v_ic_ge_t (t := 75) rfl (by decide) (by omega) ?_
            refine q_iload rfl rfl ?_
            refine q_istore rfl (by decide) ?_
            refine q_aload_n rfl rfl ?_
            refine v_gr (t := 59) rfl rfl rfl (by decide) rfl ?_
            refine q_iconst rfl ?_
            refine q_iload_n rfl rfl ?_
            refine v_imul (v := 4 * a1) rfl (by omega) ?_
            refine q_iload rfl rfl ?_
            refine v_iadd (v := 4 * a1 + 1) rfl (by omega) ?_
            refine q_dup2 rfl ⟨rfl, rfl⟩ ?_
            refine v_ia (v := c 59 (4 * a1 + 1)) rfl rfl (by decide) (by decide) (by omega) ((up_n (by omega)).trans (up_n (by omega))) ?_
            refine q_iload rfl rfl ?_
            refine v_isub (v := c 59 (4 * a1 + 1)) rfl (by omega) ?_
            refine v_is rfl rfl (by decide) (by decide) (by omega) ?_
            refine q_aload_n rfl rfl ?_
            refine v_gr (t := 59) rfl rfl rfl (by decide) rfl ?_
            refine q_iconst rfl ?_
            refine q_iload_n rfl rfl ?_
            refine v_imul (v := 4 * a2) rfl (by omega) ?_
            refine q_iload rfl rfl ?_
            refine v_iadd (v := 4 * a2 + 1) rfl (by omega) ?_
            refine q_dup2 rfl ⟨rfl, rfl⟩ ?_
            refine v_ia (v := c 59 (4 * a2 + 1)) rfl rfl (by decide) (by decide) (by omega) ((up_n (by omega)).trans ((up_n (by omega)).trans (up_n (by omega)))) ?_
            refine q_iload rfl rfl ?_
            refine v_iadd (v := c 59 (4 * a2 + 1)) rfl (by omega) ?_
            refine v_is rfl rfl (by decide) (by decide) (by omega) ?_
            refine q_iload rfl rfl ?_
            refine q_iload rfl rfl ?_
            refine v_isub (v := 0) rfl (by decide) ?_
            refine q_istore rfl (by decide) ?_
            refine v_iinc (v := 2) rfl rfl (by decide) (by decide) ?_
            refine q_goto (t := 39) rfl (by decide) ?_
            refine q_iload rfl rfl ?_
            refine q_iconst rfl ?_
            refine v_ic_ge_f (t := 124) rfl (by decide) (by decide) ?_
            refine q_aload_n rfl rfl ?_
            refine v_gr (t := 59) rfl rfl rfl (by decide) rfl ?_
            refine q_iconst rfl ?_
            refine q_iload_n rfl rfl ?_
            refine v_imul (v := 4 * a1) rfl (by omega) ?_
            refine q_iload rfl rfl ?_
            refine v_iadd (v := 4 * a1 + 2) rfl (by omega) ?_
            refine v_ia (v := c 59 (4 * a1 + 2)) rfl rfl (by decide) (by decide) (by omega) ((up_n (by omega)).trans ((up_n (by omega)).trans ((up_n (by omega)).trans (up_n (by omega))))) ?_
            refine q_iload rfl rfl ?_
            refine v_ic_ge_t (t := 75) rfl (by decide) (by omega) ?_
            refine q_iload rfl rfl ?_
            refine q_istore rfl (by decide) ?_
            refine q_aload_n rfl rfl ?_
            refine v_gr (t := 59) rfl rfl rfl (by decide) rfl ?_
            refine q_iconst rfl ?_
            refine q_iload_n rfl rfl ?_
            refine v_imul (v := 4 * a1) rfl (by omega) ?_
            refine q_iload rfl rfl ?_
            refine v_iadd (v := 4 * a1 + 2) rfl (by omega) ?_
            refine q_dup2 rfl ⟨rfl, rfl⟩ ?_
            refine v_ia (v := c 59 (4 * a1 + 2)) rfl rfl (by decide) (by decide) (by omega) ((up_n (by omega)).trans ((up_n (by omega)).trans ((up_n (by omega)).trans (up_n (by omega))))) ?_
            refine q_iload rfl rfl ?_
            refine v_isub (v := c 59 (4 * a1 + 2)) rfl (by omega) ?_
            refine v_is rfl rfl (by decide) (by decide) (by omega) ?_
            refine q_aload_n rfl rfl ?_
            refine v_gr (t := 59) rfl rfl rfl (by decide) rfl ?_
            refine q_iconst rfl ?_
            refine q_iload_n rfl rfl ?_
            refine v_imul (v := 4 * a2) rfl (by omega) ?_
            refine q_iload rfl rfl ?_
            refine v_iadd (v := 4 * a2 + 2) rfl (by omega) ?_
            refine q_dup2 rfl ⟨rfl, rfl⟩ ?_
            refine v_ia (v := c 59 (4 * a2 + 2)) rfl rfl (by decide) (by decide) (by omega) ((up_n (by omega)).trans ((up_n (by omega)).trans ((up_n (by omega)).trans ((up_n (by omega)).trans (up_n (by omega)))))) ?_
            refine q_iload rfl rfl ?_
            refine v_iadd (v := c 59 (4 * a2 + 2)) rfl (by omega) ?_
            refine v_is rfl rfl (by decide) (by decide) (by omega) ?_
            refine q_iload rfl rfl ?_
            refine q_iload rfl rfl ?_
            refine v_isub (v := 0) rfl (by decide) ?_
            refine q_istore rfl (by decide) ?_
            refine Wp_ls [(4, vi 0), (6, vi 0), (5, vi 2), (0, .ref 41), (1, vi a1), (2, vi a2), (3, vi a3)] (lsub_cons rfl (lsub_cons rfl (lsub_cons rfl (lsub_cons rfl (lsub_cons rfl (lsub_cons rfl (lsub_cons rfl lsub_nil))))))) ?_
            refine v_iinc (v := 3) rfl rfl (by decide) (by decide) ?_
            refine q_goto (t := 39) rfl (by decide) ?_
            refine q_iload rfl rfl ?_
            refine q_iconst rfl ?_
            refine v_ic_ge_f (t := 124) rfl (by decide) (by decide) ?_
            refine q_aload_n rfl rfl ?_
            refine v_gr (t := 59) rfl rfl rfl (by decide) rfl ?_
            refine q_iconst rfl ?_
            refine q_iload_n rfl rfl ?_
            refine v_imul (v := 4 * a1) rfl (by omega) ?_
            refine q_iload rfl rfl ?_
            refine v_iadd (v := 4 * a1 + 3) rfl (by omega) ?_
            refine v_ia (v := c 59 (4 * a1 + 3)) rfl rfl (by decide) (by decide) (by omega) ((up_n (by omega)).trans ((up_n (by omega)).trans ((up_n (by omega)).trans ((up_n (by omega)).trans ((up_n (by omega)).trans (up_n (by omega))))))) ?_
            refine q_iload rfl rfl ?_
            refine v_ic_ge_t (t := 75) rfl (by decide) (by omega) ?_
            refine q_iload rfl rfl ?_
            refine q_istore rfl (by decide) ?_
            refine q_aload_n rfl rfl ?_
            refine v_gr (t := 59) rfl rfl rfl (by decide) rfl ?_
            refine q_iconst rfl ?_
            refine q_iload_n rfl rfl ?_
            refine v_imul (v := 4 * a1) rfl (by omega) ?_
            refine q_iload rfl rfl ?_
            refine v_iadd (v := 4 * a1 + 3) rfl (by omega) ?_
            refine q_dup2 rfl ⟨rfl, rfl⟩ ?_
            refine v_ia (v := c 59 (4 * a1 + 3)) rfl rfl (by decide) (by decide) (by omega) ((up_n (by omega)).trans ((up_n (by omega)).trans ((up_n (by omega)).trans ((up_n (by omega)).trans ((up_n (by omega)).trans (up_n (by omega))))))) ?_
            refine q_iload rfl rfl ?_
            refine v_isub (v := c 59 (4 * a1 + 3)) rfl (by omega) ?_
            refine v_is rfl rfl (by decide) (by decide) (by omega) ?_
            refine q_aload_n rfl rfl ?_
            refine v_gr (t := 59) rfl rfl rfl (by decide) rfl ?_
            refine q_iconst rfl ?_
            refine q_iload_n rfl rfl ?_
            refine v_imul (v := 4 * a2) rfl (by omega) ?_
            refine q_iload rfl rfl ?_
            refine v_iadd (v := 4 * a2 + 3) rfl (by omega) ?_
            refine q_dup2 rfl ⟨rfl, rfl⟩ ?_
            refine v_ia (v := c 59 (4 * a2 + 3)) rfl rfl (by decide) (by decide) (by omega) ((up_n (by omega)).trans ((up_n (by omega)).trans ((up_n (by omega)).trans ((up_n (by omega)).trans ((up_n (by omega)).trans ((up_n (by omega)).trans (up_n (by omega)))))))) ?_
            refine q_iload rfl rfl ?_
            refine v_iadd (v := c 59 (4 * a2 + 3)) rfl (by omega) ?_
            refine v_is rfl rfl (by decide) (by decide) (by omega) ?_
            refine q_iload rfl rfl ?_
            refine q_iload rfl rfl ?_
            refine v_isub (v := 0) rfl (by decide) ?_
            refine q_istore rfl (by decide) ?_
            refine v_iinc (v := 4) rfl rfl (by decide) (by decide) ?_
            refine q_goto (t := 39) rfl (by decide) ?_
            refine q_iload rfl rfl ?_
            refine q_iconst rfl ?_
            refine v_ic_ge_t (t := 124) rfl (by decide) (by decide) ?_
            refine q_aload_n rfl rfl ?_
            refine q_iload_n rfl rfl ?_
            refine q_aload_n rfl rfl ?_
            refine v_gr (t := 59) rfl rfl rfl (by decide) rfl ?_
            refine v_bip rfl (by decide) ?_
            refine q_iload_n rfl rfl ?_
            refine v_iadd (v := a1 + 24) rfl (by omega) ?_
            have h_79 := ir_59 hI (a1 + 24)
            refine v_ia (v := c 59 (a1 + 24)) rfl rfl (by decide) (by decide) (by omega) ((up_n (by omega)).trans ((up_n (by omega)).trans ((up_n (by omega)).trans ((up_n (by omega)).trans ((up_n (by omega)).trans ((up_n (by omega)).trans ((up_n (by omega)).trans (up_n (by omega))))))))) ?_
            have hI_80 := iw_row (a := 59) (j := 4 * a1) (v := c 59 (4 * a1) - a3) hIo (by omega) (Or.inl rfl) ⟨by omega, by omega, by omega⟩
            have hI_81 := iw_row (a := 59) (j := 4 * a2) (v := a3 + c 59 (4 * a2)) hI_80 (by omega) (Or.inl rfl) ⟨by omega, by omega, by omega⟩
            have hI_82 := iw_row (a := 59) (j := 4 * a1 + 1) (v := c 59 (4 * a1 + 1)) hI_81 (by omega) (Or.inl rfl) ⟨by omega, by omega, by omega⟩
            have hI_83 := iw_row (a := 59) (j := 4 * a2 + 1) (v := c 59 (4 * a2 + 1)) hI_82 (by omega) (Or.inl rfl) ⟨by omega, by omega, by omega⟩
            have hI_84 := iw_row (a := 59) (j := 4 * a1 + 2) (v := c 59 (4 * a1 + 2)) hI_83 (by omega) (Or.inl rfl) ⟨by omega, by omega, by omega⟩
            have hI_85 := iw_row (a := 59) (j := 4 * a2 + 2) (v := c 59 (4 * a2 + 2)) hI_84 (by omega) (Or.inl rfl) ⟨by omega, by omega, by omega⟩
            have hI_86 := iw_row (a := 59) (j := 4 * a1 + 3) (v := c 59 (4 * a1 + 3)) hI_85 (by omega) (Or.inl rfl) ⟨by omega, by omega, by omega⟩
            have hI_87 := iw_row (a := 59) (j := 4 * a2 + 3) (v := c 59 (4 * a2 + 3)) hI_86 (by omega) (Or.inl rfl) ⟨by omega, by omega, by omega⟩
            refine v_cv rfl rfl rfl rfl (by decide) ⟨⟨rfl, rfl⟩, by decide, rfl⟩ (Nat.le_of_ble_eq_true rfl) (Nat.le_of_ble_eq_true rfl) (s_191 (a1 := a2) (a2 := c 59 (a1 + 24)) hI_87 (show 0 ≤ a2 ∧ a2 ≤ 5 from by omega) (show (-2147483648) ≤ c 59 (a1 + 24) ∧ c 59 (a1 + 24) ≤ 2147483647 from by omega) (fun c_88 hI_89 hF_90 => ?_))
            refine bk_inl ?_
            refine q_aload_n rfl rfl ?_
            refine q_iload_n rfl rfl ?_
            refine v_cv rfl rfl rfl rfl (by decide) ⟨⟨rfl, rfl⟩, by decide, rfl⟩ (Nat.le_of_ble_eq_true rfl) (Nat.le_of_ble_eq_true rfl) (s_187 (v1 := c 59 (4 * a1) - a3) (v2 := c 59 (4 * a1 + 1)) (v3 := c 59 (4 * a1 + 2)) (v4 := c 59 (4 * a1 + 3)) (r := c 59 (4 * a1 + 1) + c 59 (4 * a1 + 2) + c 59 (4 * a1 + 3) + c 59 (4 * a1) - a3) (a1 := a1) hI_89 (show 0 ≤ a1 ∧ a1 ≤ 5 from by omega) (((hF_90 59 (4 * a1) (by omega)).trans ((up_n (by omega)).trans ((up_n (by omega)).trans ((up_n (by omega)).trans ((up_n (by omega)).trans ((up_n (by omega)).trans ((up_n (by omega)).trans ((up_n (by omega)).trans (up_e rfl)))))))))) (((hF_90 59 (4 * a1 + 1) (by omega)).trans ((up_n (by omega)).trans ((up_n (by omega)).trans ((up_n (by omega)).trans ((up_n (by omega)).trans ((up_n (by omega)).trans (up_e rfl)))))))) (((hF_90 59 (4 * a1 + 2) (by omega)).trans ((up_n (by omega)).trans ((up_n (by omega)).trans ((up_n (by omega)).trans (up_e rfl)))))) (((hF_90 59 (4 * a1 + 3) (by omega)).trans ((up_n (by omega)).trans (up_e rfl)))) (by omega) ?_)
            refine bk_inl ?_
            by_cases h_91 : c 59 (4 * a1 + 1) + c 59 (4 * a1 + 2) + c 59 (4 * a1 + 3) + c 59 (4 * a1) - a3 ≠ 0
            · refine v_if_ne_t (t := 151) rfl (by decide) (by omega) ?_
              refine q_iconst rfl ?_
              refine v_zret rfl rfl (by omega) ?_
              have hr_92 : ∀ j : Int, rs 59 j → c_88 59 j + c_88 59 (j + 1) + c_88 59 (j + 2) + c_88 59 (j + 3) ≤ 9999 := by
                intro j9 hj9
                obtain ⟨k9, rfl, hk9⟩ := rs_59 hj9
                by_cases e_93 : k9 = a1
                · skip
                  have h_94 : c_88 59 (4 * k9) = c 59 (4 * a1) - a3 := (congrArg (c_88 59) (show 4 * k9 = 4 * a1 from by omega)).trans ((hF_90 59 (4 * a1) (by omega)).trans ((up_n (by omega)).trans ((up_n (by omega)).trans ((up_n (by omega)).trans ((up_n (by omega)).trans ((up_n (by omega)).trans ((up_n (by omega)).trans ((up_n (by omega)).trans (up_e rfl)))))))))
                  have h_95 : c_88 59 (4 * k9 + 1) = c 59 (4 * a1 + 1) := (congrArg (c_88 59) (show 4 * k9 + 1 = 4 * a1 + 1 from by omega)).trans ((hF_90 59 (4 * a1 + 1) (by omega)).trans ((up_n (by omega)).trans ((up_n (by omega)).trans ((up_n (by omega)).trans ((up_n (by omega)).trans ((up_n (by omega)).trans (up_e rfl)))))))
                  have h_96 : c_88 59 (4 * k9 + 2) = c 59 (4 * a1 + 2) := (congrArg (c_88 59) (show 4 * k9 + 2 = 4 * a1 + 2 from by omega)).trans ((hF_90 59 (4 * a1 + 2) (by omega)).trans ((up_n (by omega)).trans ((up_n (by omega)).trans ((up_n (by omega)).trans (up_e rfl)))))
                  have h_97 : c_88 59 (4 * k9 + 3) = c 59 (4 * a1 + 3) := (congrArg (c_88 59) (show 4 * k9 + 3 = 4 * a1 + 3 from by omega)).trans ((hF_90 59 (4 * a1 + 3) (by omega)).trans ((up_n (by omega)).trans (up_e rfl)))
                  omega
                by_cases e_98 : k9 = a2
                · skip
                  have h_99 : c_88 59 (4 * k9) = a3 + c 59 (4 * a2) := (congrArg (c_88 59) (show 4 * k9 = 4 * a2 from by omega)).trans ((hF_90 59 (4 * a2) (by omega)).trans ((up_n (by omega)).trans ((up_n (by omega)).trans ((up_n (by omega)).trans ((up_n (by omega)).trans ((up_n (by omega)).trans ((up_n (by omega)).trans (up_e rfl))))))))
                  have h_100 : c_88 59 (4 * k9 + 1) = c 59 (4 * a2 + 1) := (congrArg (c_88 59) (show 4 * k9 + 1 = 4 * a2 + 1 from by omega)).trans ((hF_90 59 (4 * a2 + 1) (by omega)).trans ((up_n (by omega)).trans ((up_n (by omega)).trans ((up_n (by omega)).trans ((up_n (by omega)).trans (up_e rfl))))))
                  have h_101 : c_88 59 (4 * k9 + 2) = c 59 (4 * a2 + 2) := (congrArg (c_88 59) (show 4 * k9 + 2 = 4 * a2 + 2 from by omega)).trans ((hF_90 59 (4 * a2 + 2) (by omega)).trans ((up_n (by omega)).trans ((up_n (by omega)).trans (up_e rfl))))
                  have h_102 : c_88 59 (4 * k9 + 3) = c 59 (4 * a2 + 3) := (congrArg (c_88 59) (show 4 * k9 + 3 = 4 * a2 + 3 from by omega)).trans ((hF_90 59 (4 * a2 + 3) (by omega)).trans (up_e rfl))
                  omega
                have h_103 := iv_r hI 59 (4 * k9) hj9 (by omega)
                have h_104 := ir_59_g hI (j := 4 * k9) (by omega)
                have h_105 : c_88 59 (4 * k9) = c 59 (4 * k9) := ((hF_90 59 (4 * k9) (by omega)).trans ((up_n (by omega)).trans ((up_n (by omega)).trans ((up_n (by omega)).trans ((up_n (by omega)).trans ((up_n (by omega)).trans ((up_n (by omega)).trans ((up_n (by omega)).trans (up_n (by omega))))))))))
                have h_106 := ir_59_g hI (j := 4 * k9 + 1) (by omega)
                have h_107 : c_88 59 (4 * k9 + 1) = c 59 (4 * k9 + 1) := ((hF_90 59 (4 * k9 + 1) (by omega)).trans ((up_n (by omega)).trans ((up_n (by omega)).trans ((up_n (by omega)).trans ((up_n (by omega)).trans ((up_n (by omega)).trans ((up_n (by omega)).trans ((up_n (by omega)).trans (up_n (by omega))))))))))
                have h_108 := ir_59_g hI (j := 4 * k9 + 2) (by omega)
                have h_109 : c_88 59 (4 * k9 + 2) = c 59 (4 * k9 + 2) := ((hF_90 59 (4 * k9 + 2) (by omega)).trans ((up_n (by omega)).trans ((up_n (by omega)).trans ((up_n (by omega)).trans ((up_n (by omega)).trans ((up_n (by omega)).trans ((up_n (by omega)).trans ((up_n (by omega)).trans (up_n (by omega))))))))))
                have h_110 := ir_59_g hI (j := 4 * k9 + 3) (by omega)
                have h_111 : c_88 59 (4 * k9 + 3) = c 59 (4 * k9 + 3) := ((hF_90 59 (4 * k9 + 3) (by omega)).trans ((up_n (by omega)).trans ((up_n (by omega)).trans ((up_n (by omega)).trans ((up_n (by omega)).trans ((up_n (by omega)).trans ((up_n (by omega)).trans ((up_n (by omega)).trans (up_n (by omega))))))))))
                omega
              have hI_112 := iv_close hI_89 hr_92
              exact K c_88 1 hI_112 (fun a j hm => (hF_90 a j (by omega)).trans ((up_b (by omega)).trans ((up_b (by omega)).trans ((up_b (by omega)).trans ((up_b (by omega)).trans ((up_b (by omega)).trans ((up_b (by omega)).trans ((up_b (by omega)).trans (up_b (by omega)))))))))) ⟨by decide, by decide⟩
            · refine v_if_ne_f (t := 151) rfl (by decide) (by omega) ?_
              refine q_aload_n rfl rfl ?_
              refine q_iload_n rfl rfl ?_
              refine v_cv rfl rfl rfl rfl (by decide) ⟨⟨rfl, rfl⟩, by decide, rfl⟩ (Nat.le_of_ble_eq_true rfl) (Nat.le_of_ble_eq_true rfl) (s_192 (a1 := a1) hI_89 (show 0 ≤ a1 ∧ a1 ≤ 5 from by omega) (fun c_113 hI_114 hF_115 h_116 => ?_))
              refine bk_inl ?_
              have h_117 := ir_59_g hI_114 (j := 4 * a1 + 1) (by omega)
              have h_118 := ir_59_g hI_114 (j := 4 * a1 + 2) (by omega)
              have h_119 := ir_59_g hI_114 (j := 4 * a1 + 3) (by omega)
              have h_120 := ir_59_g hI_114 (j := 4 * a1) (by omega)
              refine q_iconst rfl ?_
              refine v_zret rfl rfl (by omega) ?_
              have hr_121 : ∀ j : Int, rs 59 j → c_113 59 j + c_113 59 (j + 1) + c_113 59 (j + 2) + c_113 59 (j + 3) ≤ 9999 := by
                intro j9 hj9
                obtain ⟨k9, rfl, hk9⟩ := rs_59 hj9
                by_cases e_122 : k9 = a1
                · skip
                  have h_123 : c_113 59 (4 * k9) = c_113 59 (4 * a1) := (congrArg (c_113 59) (show 4 * k9 = 4 * a1 from by omega))
                  have h_124 : c_113 59 (4 * k9 + 1) = c_113 59 (4 * a1 + 1) := (congrArg (c_113 59) (show 4 * k9 + 1 = 4 * a1 + 1 from by omega))
                  have h_125 : c_113 59 (4 * k9 + 2) = c_113 59 (4 * a1 + 2) := (congrArg (c_113 59) (show 4 * k9 + 2 = 4 * a1 + 2 from by omega))
                  have h_126 : c_113 59 (4 * k9 + 3) = c_113 59 (4 * a1 + 3) := (congrArg (c_113 59) (show 4 * k9 + 3 = 4 * a1 + 3 from by omega))
                  omega
                by_cases e_127 : k9 = a2
                · skip
                  have h_128 : c_113 59 (4 * k9) = a3 + c 59 (4 * a2) := (congrArg (c_113 59) (show 4 * k9 = 4 * a2 from by omega)).trans ((hF_115 59 (4 * a2) (by omega)).trans ((hF_90 59 (4 * a2) (by omega)).trans ((up_n (by omega)).trans ((up_n (by omega)).trans ((up_n (by omega)).trans ((up_n (by omega)).trans ((up_n (by omega)).trans ((up_n (by omega)).trans (up_e rfl)))))))))
                  have h_129 : c_113 59 (4 * k9 + 1) = c 59 (4 * a2 + 1) := (congrArg (c_113 59) (show 4 * k9 + 1 = 4 * a2 + 1 from by omega)).trans ((hF_115 59 (4 * a2 + 1) (by omega)).trans ((hF_90 59 (4 * a2 + 1) (by omega)).trans ((up_n (by omega)).trans ((up_n (by omega)).trans ((up_n (by omega)).trans ((up_n (by omega)).trans (up_e rfl)))))))
                  have h_130 : c_113 59 (4 * k9 + 2) = c 59 (4 * a2 + 2) := (congrArg (c_113 59) (show 4 * k9 + 2 = 4 * a2 + 2 from by omega)).trans ((hF_115 59 (4 * a2 + 2) (by omega)).trans ((hF_90 59 (4 * a2 + 2) (by omega)).trans ((up_n (by omega)).trans ((up_n (by omega)).trans (up_e rfl)))))
                  have h_131 : c_113 59 (4 * k9 + 3) = c 59 (4 * a2 + 3) := (congrArg (c_113 59) (show 4 * k9 + 3 = 4 * a2 + 3 from by omega)).trans ((hF_115 59 (4 * a2 + 3) (by omega)).trans ((hF_90 59 (4 * a2 + 3) (by omega)).trans (up_e rfl)))
                  omega
                have h_132 := iv_r hI 59 (4 * k9) hj9 (by omega)
                have h_133 := ir_59_g hI (j := 4 * k9) (by omega)
                have h_134 : c_113 59 (4 * k9) = c 59 (4 * k9) := ((hF_115 59 (4 * k9) (by omega)).trans ((hF_90 59 (4 * k9) (by omega)).trans ((up_n (by omega)).trans ((up_n (by omega)).trans ((up_n (by omega)).trans ((up_n (by omega)).trans ((up_n (by omega)).trans ((up_n (by omega)).trans ((up_n (by omega)).trans (up_n (by omega)))))))))))
                have h_135 := ir_59_g hI (j := 4 * k9 + 1) (by omega)
                have h_136 : c_113 59 (4 * k9 + 1) = c 59 (4 * k9 + 1) := ((hF_115 59 (4 * k9 + 1) (by omega)).trans ((hF_90 59 (4 * k9 + 1) (by omega)).trans ((up_n (by omega)).trans ((up_n (by omega)).trans ((up_n (by omega)).trans ((up_n (by omega)).trans ((up_n (by omega)).trans ((up_n (by omega)).trans ((up_n (by omega)).trans (up_n (by omega)))))))))))
                have h_137 := ir_59_g hI (j := 4 * k9 + 2) (by omega)
                have h_138 : c_113 59 (4 * k9 + 2) = c 59 (4 * k9 + 2) := ((hF_115 59 (4 * k9 + 2) (by omega)).trans ((hF_90 59 (4 * k9 + 2) (by omega)).trans ((up_n (by omega)).trans ((up_n (by omega)).trans ((up_n (by omega)).trans ((up_n (by omega)).trans ((up_n (by omega)).trans ((up_n (by omega)).trans ((up_n (by omega)).trans (up_n (by omega)))))))))))
                have h_139 := ir_59_g hI (j := 4 * k9 + 3) (by omega)
                have h_140 : c_113 59 (4 * k9 + 3) = c 59 (4 * k9 + 3) := ((hF_115 59 (4 * k9 + 3) (by omega)).trans ((hF_90 59 (4 * k9 + 3) (by omega)).trans ((up_n (by omega)).trans ((up_n (by omega)).trans ((up_n (by omega)).trans ((up_n (by omega)).trans ((up_n (by omega)).trans ((up_n (by omega)).trans ((up_n (by omega)).trans (up_n (by omega)))))))))))
                omega
              have hI_141 := iv_close hI_114 hr_121
              exact K c_113 1 hI_141 (fun a j hm => (hF_115 a j (by omega)).trans ((hF_90 a j (by omega)).trans ((up_b (by omega)).trans ((up_b (by omega)).trans ((up_b (by omega)).trans ((up_b (by omega)).trans ((up_b (by omega)).trans ((up_b (by omega)).trans ((up_b (by omega)).trans (up_b (by omega))))))))))) ⟨by decide, by decide⟩
          · refine v_ic_ge_f (t := 75) rfl (by decide) (by omega) ?_
            refine q_aload_n rfl rfl ?_
            refine v_gr (t := 59) rfl rfl rfl (by decide) rfl ?_
            refine q_iconst rfl ?_
            refine q_iload_n rfl rfl ?_
            refine v_imul (v := 4 * a1) rfl (by omega) ?_
            refine q_iload rfl rfl ?_
            refine v_iadd (v := 4 * a1) rfl (by omega) ?_
            refine v_ia (v := c 59 (4 * a1)) rfl rfl (by decide) (by decide) (by omega) rfl ?_
            refine q_goto (t := 77) rfl (by decide) ?_
            refine q_istore rfl (by decide) ?_
            refine q_aload_n rfl rfl ?_
            refine v_gr (t := 59) rfl rfl rfl (by decide) rfl ?_
            refine q_iconst rfl ?_
            refine q_iload_n rfl rfl ?_
            refine v_imul (v := 4 * a1) rfl (by omega) ?_
            refine q_iload rfl rfl ?_
            refine v_iadd (v := 4 * a1) rfl (by omega) ?_
            refine q_dup2 rfl ⟨rfl, rfl⟩ ?_
            refine v_ia (v := c 59 (4 * a1)) rfl rfl (by decide) (by decide) (by omega) rfl ?_
            refine q_iload rfl rfl ?_
            refine v_isub (v := 0) rfl (by decide) ?_
            refine v_is rfl rfl (by decide) (by decide) (by omega) ?_
            refine q_aload_n rfl rfl ?_
            refine v_gr (t := 59) rfl rfl rfl (by decide) rfl ?_
            refine q_iconst rfl ?_
            refine q_iload_n rfl rfl ?_
            refine v_imul (v := 4 * a2) rfl (by omega) ?_
            refine q_iload rfl rfl ?_
            refine v_iadd (v := 4 * a2) rfl (by omega) ?_
            refine q_dup2 rfl ⟨rfl, rfl⟩ ?_
            refine v_ia (v := c 59 (4 * a2)) rfl rfl (by decide) (by decide) (by omega) (up_n (by omega)) ?_
            refine q_iload rfl rfl ?_
            refine v_iadd (v := c 59 (4 * a1) + c 59 (4 * a2)) rfl (by omega) ?_
            refine v_is rfl rfl (by decide) (by decide) (by omega) ?_
            refine q_iload rfl rfl ?_
            refine q_iload rfl rfl ?_
            refine v_isub (v := a3 - c 59 (4 * a1)) rfl (by omega) ?_
            refine q_istore rfl (by decide) ?_
            refine v_iinc (v := 1) rfl rfl (by decide) (by decide) ?_
            refine Wp_ls [(5, vi 1), (4, vi (a3 - c 59 (4 * a1))), (6, vi (c 59 (4 * a1))), (0, .ref 41), (1, vi a1), (2, vi a2), (3, vi a3)] (lsub_cons rfl (lsub_cons rfl (lsub_cons rfl (lsub_cons rfl (lsub_cons rfl (lsub_cons rfl (lsub_cons rfl lsub_nil))))))) ?_
            refine q_goto (t := 39) rfl (by decide) ?_
            refine q_iload rfl rfl ?_
            refine q_iconst rfl ?_
            refine v_ic_ge_f (t := 124) rfl (by decide) (by decide) ?_
            refine q_aload_n rfl rfl ?_
            refine v_gr (t := 59) rfl rfl rfl (by decide) rfl ?_
            refine q_iconst rfl ?_
            refine q_iload_n rfl rfl ?_
            refine v_imul (v := 4 * a1) rfl (by omega) ?_
            refine q_iload rfl rfl ?_
            refine v_iadd (v := 4 * a1 + 1) rfl (by omega) ?_
            refine v_ia (v := c 59 (4 * a1 + 1)) rfl rfl (by decide) (by decide) (by omega) ((up_n (by omega)).trans (up_n (by omega))) ?_
            refine q_iload rfl rfl ?_
            by_cases h_142 : c 59 (4 * a1 + 1) ≥ a3 - c 59 (4 * a1)
            · refine v_ic_ge_t (t := 75) rfl (by decide) (by omega) ?_
              refine q_iload rfl rfl ?_
              refine q_istore rfl (by decide) ?_
              refine q_aload_n rfl rfl ?_
              refine v_gr (t := 59) rfl rfl rfl (by decide) rfl ?_
              refine q_iconst rfl ?_
              refine q_iload_n rfl rfl ?_
              refine v_imul (v := 4 * a1) rfl (by omega) ?_
              refine q_iload rfl rfl ?_
              refine v_iadd (v := 4 * a1 + 1) rfl (by omega) ?_
              refine q_dup2 rfl ⟨rfl, rfl⟩ ?_
              refine v_ia (v := c 59 (4 * a1 + 1)) rfl rfl (by decide) (by decide) (by omega) ((up_n (by omega)).trans (up_n (by omega))) ?_
              refine q_iload rfl rfl ?_
              refine v_isub (v := c 59 (4 * a1 + 1) + c 59 (4 * a1) - a3) rfl (by omega) ?_
              refine v_is rfl rfl (by decide) (by decide) (by omega) ?_
              refine q_aload_n rfl rfl ?_
              refine v_gr (t := 59) rfl rfl rfl (by decide) rfl ?_
              refine q_iconst rfl ?_
              refine q_iload_n rfl rfl ?_
              refine v_imul (v := 4 * a2) rfl (by omega) ?_
              refine q_iload rfl rfl ?_
              refine v_iadd (v := 4 * a2 + 1) rfl (by omega) ?_
              refine q_dup2 rfl ⟨rfl, rfl⟩ ?_
              refine v_ia (v := c 59 (4 * a2 + 1)) rfl rfl (by decide) (by decide) (by omega) ((up_n (by omega)).trans ((up_n (by omega)).trans (up_n (by omega)))) ?_
              refine q_iload rfl rfl ?_
              refine v_iadd (v := a3 + c 59 (4 * a2 + 1) - c 59 (4 * a1)) rfl (by omega) ?_
              refine v_is rfl rfl (by decide) (by decide) (by omega) ?_
              refine q_iload rfl rfl ?_
              refine q_iload rfl rfl ?_
              refine v_isub (v := 0) rfl (by decide) ?_
              refine q_istore rfl (by decide) ?_
              refine v_iinc (v := 2) rfl rfl (by decide) (by decide) ?_
              refine q_goto (t := 39) rfl (by decide) ?_
              refine q_iload rfl rfl ?_
              refine q_iconst rfl ?_
              refine v_ic_ge_f (t := 124) rfl (by decide) (by decide) ?_
              refine q_aload_n rfl rfl ?_
              refine v_gr (t := 59) rfl rfl rfl (by decide) rfl ?_
              refine q_iconst rfl ?_
              refine q_iload_n rfl rfl ?_
              refine v_imul (v := 4 * a1) rfl (by omega) ?_
              refine q_iload rfl rfl ?_
              refine v_iadd (v := 4 * a1 + 2) rfl (by omega) ?_
              refine v_ia (v := c 59 (4 * a1 + 2)) rfl rfl (by decide) (by decide) (by omega) ((up_n (by omega)).trans ((up_n (by omega)).trans ((up_n (by omega)).trans (up_n (by omega))))) ?_
              refine q_iload rfl rfl ?_
              refine v_ic_ge_t (t := 75) rfl (by decide) (by omega) ?_
              refine q_iload rfl rfl ?_
              refine q_istore rfl (by decide) ?_
              refine q_aload_n rfl rfl ?_
              refine v_gr (t := 59) rfl rfl rfl (by decide) rfl ?_
              refine q_iconst rfl ?_
              refine q_iload_n rfl rfl ?_
              refine v_imul (v := 4 * a1) rfl (by omega) ?_
              refine q_iload rfl rfl ?_
              refine v_iadd (v := 4 * a1 + 2) rfl (by omega) ?_
              refine q_dup2 rfl ⟨rfl, rfl⟩ ?_
              refine v_ia (v := c 59 (4 * a1 + 2)) rfl rfl (by decide) (by decide) (by omega) ((up_n (by omega)).trans ((up_n (by omega)).trans ((up_n (by omega)).trans (up_n (by omega))))) ?_
              refine q_iload rfl rfl ?_
              refine v_isub (v := c 59 (4 * a1 + 2)) rfl (by omega) ?_
              refine v_is rfl rfl (by decide) (by decide) (by omega) ?_
              refine q_aload_n rfl rfl ?_
              refine v_gr (t := 59) rfl rfl rfl (by decide) rfl ?_
              refine q_iconst rfl ?_
              refine q_iload_n rfl rfl ?_
              refine v_imul (v := 4 * a2) rfl (by omega) ?_
              refine q_iload rfl rfl ?_
              refine v_iadd (v := 4 * a2 + 2) rfl (by omega) ?_
              refine q_dup2 rfl ⟨rfl, rfl⟩ ?_
              refine v_ia (v := c 59 (4 * a2 + 2)) rfl rfl (by decide) (by decide) (by omega) ((up_n (by omega)).trans ((up_n (by omega)).trans ((up_n (by omega)).trans ((up_n (by omega)).trans (up_n (by omega)))))) ?_
              refine q_iload rfl rfl ?_
              refine v_iadd (v := c 59 (4 * a2 + 2)) rfl (by omega) ?_
              refine v_is rfl rfl (by decide) (by decide) (by omega) ?_
              refine q_iload rfl rfl ?_
              refine q_iload rfl rfl ?_
              refine v_isub (v := 0) rfl (by decide) ?_
              refine q_istore rfl (by decide) ?_
              refine Wp_ls [(4, vi 0), (6, vi 0), (5, vi 2), (0, .ref 41), (1, vi a1), (2, vi a2), (3, vi a3)] (lsub_cons rfl (lsub_cons rfl (lsub_cons rfl (lsub_cons rfl (lsub_cons rfl (lsub_cons rfl (lsub_cons rfl lsub_nil))))))) ?_
              refine v_iinc (v := 3) rfl rfl (by decide) (by decide) ?_
              refine q_goto (t := 39) rfl (by decide) ?_
              refine q_iload rfl rfl ?_
              refine q_iconst rfl ?_
              refine v_ic_ge_f (t := 124) rfl (by decide) (by decide) ?_
              refine q_aload_n rfl rfl ?_
              refine v_gr (t := 59) rfl rfl rfl (by decide) rfl ?_
              refine q_iconst rfl ?_
              refine q_iload_n rfl rfl ?_
              refine v_imul (v := 4 * a1) rfl (by omega) ?_
              refine q_iload rfl rfl ?_
              refine v_iadd (v := 4 * a1 + 3) rfl (by omega) ?_
              refine v_ia (v := c 59 (4 * a1 + 3)) rfl rfl (by decide) (by decide) (by omega) ((up_n (by omega)).trans ((up_n (by omega)).trans ((up_n (by omega)).trans ((up_n (by omega)).trans ((up_n (by omega)).trans (up_n (by omega))))))) ?_
              refine q_iload rfl rfl ?_
              refine v_ic_ge_t (t := 75) rfl (by decide) (by omega) ?_
              refine q_iload rfl rfl ?_
              refine q_istore rfl (by decide) ?_
              refine q_aload_n rfl rfl ?_
              refine v_gr (t := 59) rfl rfl rfl (by decide) rfl ?_
              refine q_iconst rfl ?_
              refine q_iload_n rfl rfl ?_
              refine v_imul (v := 4 * a1) rfl (by omega) ?_
              refine q_iload rfl rfl ?_
              refine v_iadd (v := 4 * a1 + 3) rfl (by omega) ?_
              refine q_dup2 rfl ⟨rfl, rfl⟩ ?_
              refine v_ia (v := c 59 (4 * a1 + 3)) rfl rfl (by decide) (by decide) (by omega) ((up_n (by omega)).trans ((up_n (by omega)).trans ((up_n (by omega)).trans ((up_n (by omega)).trans ((up_n (by omega)).trans (up_n (by omega))))))) ?_
              refine q_iload rfl rfl ?_
              refine v_isub (v := c 59 (4 * a1 + 3)) rfl (by omega) ?_
              refine v_is rfl rfl (by decide) (by decide) (by omega) ?_
              refine q_aload_n rfl rfl ?_
              refine v_gr (t := 59) rfl rfl rfl (by decide) rfl ?_
              refine q_iconst rfl ?_
              refine q_iload_n rfl rfl ?_
              refine v_imul (v := 4 * a2) rfl (by omega) ?_
              refine q_iload rfl rfl ?_
              refine v_iadd (v := 4 * a2 + 3) rfl (by omega) ?_
              refine q_dup2 rfl ⟨rfl, rfl⟩ ?_
              refine v_ia (v := c 59 (4 * a2 + 3)) rfl rfl (by decide) (by decide) (by omega) ((up_n (by omega)).trans ((up_n (by omega)).trans ((up_n (by omega)).trans ((up_n (by omega)).trans ((up_n (by omega)).trans ((up_n (by omega)).trans (up_n (by omega)))))))) ?_
              refine q_iload rfl rfl ?_
              refine v_iadd (v := c 59 (4 * a2 + 3)) rfl (by omega) ?_
              refine v_is rfl rfl (by decide) (by decide) (by omega) ?_
              refine q_iload rfl rfl ?_
              refine q_iload rfl rfl ?_
              refine v_isub (v := 0) rfl (by decide) ?_
              refine q_istore rfl (by decide) ?_
              refine v_iinc (v := 4) rfl rfl (by decide) (by decide) ?_
              refine q_goto (t := 39) rfl (by decide) ?_
              refine q_iload rfl rfl ?_
              refine q_iconst rfl ?_
              refine v_ic_ge_t (t := 124) rfl (by decide) (by decide) ?_
              refine q_aload_n rfl rfl ?_
              refine q_iload_n rfl rfl ?_
              refine q_aload_n rfl rfl ?_
              refine v_gr (t := 59) rfl rfl rfl (by decide) rfl ?_
              refine v_bip rfl (by decide) ?_
              refine q_iload_n rfl rfl ?_
              refine v_iadd (v := a1 + 24) rfl (by omega) ?_
              have h_143 := ir_59 hI (a1 + 24)
              refine v_ia (v := c 59 (a1 + 24)) rfl rfl (by decide) (by decide) (by omega) ((up_n (by omega)).trans ((up_n (by omega)).trans ((up_n (by omega)).trans ((up_n (by omega)).trans ((up_n (by omega)).trans ((up_n (by omega)).trans ((up_n (by omega)).trans (up_n (by omega))))))))) ?_
              have hI_144 := iw_row (a := 59) (j := 4 * a1) (v := 0) hIo (by omega) (Or.inl rfl) ⟨by omega, by omega, by omega⟩
              have hI_145 := iw_row (a := 59) (j := 4 * a2) (v := c 59 (4 * a1) + c 59 (4 * a2)) hI_144 (by omega) (Or.inl rfl) ⟨by omega, by omega, by omega⟩
              have hI_146 := iw_row (a := 59) (j := 4 * a1 + 1) (v := c 59 (4 * a1 + 1) + c 59 (4 * a1) - a3) hI_145 (by omega) (Or.inl rfl) ⟨by omega, by omega, by omega⟩
              have hI_147 := iw_row (a := 59) (j := 4 * a2 + 1) (v := a3 + c 59 (4 * a2 + 1) - c 59 (4 * a1)) hI_146 (by omega) (Or.inl rfl) ⟨by omega, by omega, by omega⟩
              have hI_148 := iw_row (a := 59) (j := 4 * a1 + 2) (v := c 59 (4 * a1 + 2)) hI_147 (by omega) (Or.inl rfl) ⟨by omega, by omega, by omega⟩
              have hI_149 := iw_row (a := 59) (j := 4 * a2 + 2) (v := c 59 (4 * a2 + 2)) hI_148 (by omega) (Or.inl rfl) ⟨by omega, by omega, by omega⟩
              have hI_150 := iw_row (a := 59) (j := 4 * a1 + 3) (v := c 59 (4 * a1 + 3)) hI_149 (by omega) (Or.inl rfl) ⟨by omega, by omega, by omega⟩
              have hI_151 := iw_row (a := 59) (j := 4 * a2 + 3) (v := c 59 (4 * a2 + 3)) hI_150 (by omega) (Or.inl rfl) ⟨by omega, by omega, by omega⟩
              refine v_cv rfl rfl rfl rfl (by decide) ⟨⟨rfl, rfl⟩, by decide, rfl⟩ (Nat.le_of_ble_eq_true rfl) (Nat.le_of_ble_eq_true rfl) (s_191 (a1 := a2) (a2 := c 59 (a1 + 24)) hI_151 (show 0 ≤ a2 ∧ a2 ≤ 5 from by omega) (show (-2147483648) ≤ c 59 (a1 + 24) ∧ c 59 (a1 + 24) ≤ 2147483647 from by omega) (fun c_152 hI_153 hF_154 => ?_))
              refine bk_inl ?_
              refine q_aload_n rfl rfl ?_
              refine q_iload_n rfl rfl ?_
              refine v_cv rfl rfl rfl rfl (by decide) ⟨⟨rfl, rfl⟩, by decide, rfl⟩ (Nat.le_of_ble_eq_true rfl) (Nat.le_of_ble_eq_true rfl) (s_187 (v1 := 0) (v2 := c 59 (4 * a1 + 1) + c 59 (4 * a1) - a3) (v3 := c 59 (4 * a1 + 2)) (v4 := c 59 (4 * a1 + 3)) (r := c 59 (4 * a1 + 1) + c 59 (4 * a1 + 2) + c 59 (4 * a1 + 3) + c 59 (4 * a1) - a3) (a1 := a1) hI_153 (show 0 ≤ a1 ∧ a1 ≤ 5 from by omega) (((hF_154 59 (4 * a1) (by omega)).trans ((up_n (by omega)).trans ((up_n (by omega)).trans ((up_n (by omega)).trans ((up_n (by omega)).trans ((up_n (by omega)).trans ((up_n (by omega)).trans ((up_n (by omega)).trans (up_e rfl)))))))))) (((hF_154 59 (4 * a1 + 1) (by omega)).trans ((up_n (by omega)).trans ((up_n (by omega)).trans ((up_n (by omega)).trans ((up_n (by omega)).trans ((up_n (by omega)).trans (up_e rfl)))))))) (((hF_154 59 (4 * a1 + 2) (by omega)).trans ((up_n (by omega)).trans ((up_n (by omega)).trans ((up_n (by omega)).trans (up_e rfl)))))) (((hF_154 59 (4 * a1 + 3) (by omega)).trans ((up_n (by omega)).trans (up_e rfl)))) (by omega) ?_)
              refine bk_inl ?_
              by_cases h_155 : c 59 (4 * a1 + 1) + c 59 (4 * a1 + 2) + c 59 (4 * a1 + 3) + c 59 (4 * a1) - a3 ≠ 0
              · refine v_if_ne_t (t := 151) rfl (by decide) (by omega) ?_
                refine q_iconst rfl ?_
                refine v_zret rfl rfl (by omega) ?_
                have hr_156 : ∀ j : Int, rs 59 j → c_152 59 j + c_152 59 (j + 1) + c_152 59 (j + 2) + c_152 59 (j + 3) ≤ 9999 := by
                  intro j9 hj9
                  obtain ⟨k9, rfl, hk9⟩ := rs_59 hj9
                  by_cases e_157 : k9 = a1
                  · skip
                    have h_158 : c_152 59 (4 * k9) = 0 := (congrArg (c_152 59) (show 4 * k9 = 4 * a1 from by omega)).trans ((hF_154 59 (4 * a1) (by omega)).trans ((up_n (by omega)).trans ((up_n (by omega)).trans ((up_n (by omega)).trans ((up_n (by omega)).trans ((up_n (by omega)).trans ((up_n (by omega)).trans ((up_n (by omega)).trans (up_e rfl)))))))))
                    have h_159 : c_152 59 (4 * k9 + 1) = c 59 (4 * a1 + 1) + c 59 (4 * a1) - a3 := (congrArg (c_152 59) (show 4 * k9 + 1 = 4 * a1 + 1 from by omega)).trans ((hF_154 59 (4 * a1 + 1) (by omega)).trans ((up_n (by omega)).trans ((up_n (by omega)).trans ((up_n (by omega)).trans ((up_n (by omega)).trans ((up_n (by omega)).trans (up_e rfl)))))))
                    have h_160 : c_152 59 (4 * k9 + 2) = c 59 (4 * a1 + 2) := (congrArg (c_152 59) (show 4 * k9 + 2 = 4 * a1 + 2 from by omega)).trans ((hF_154 59 (4 * a1 + 2) (by omega)).trans ((up_n (by omega)).trans ((up_n (by omega)).trans ((up_n (by omega)).trans (up_e rfl)))))
                    have h_161 : c_152 59 (4 * k9 + 3) = c 59 (4 * a1 + 3) := (congrArg (c_152 59) (show 4 * k9 + 3 = 4 * a1 + 3 from by omega)).trans ((hF_154 59 (4 * a1 + 3) (by omega)).trans ((up_n (by omega)).trans (up_e rfl)))
                    omega
                  by_cases e_162 : k9 = a2
                  · skip
                    have h_163 : c_152 59 (4 * k9) = c 59 (4 * a1) + c 59 (4 * a2) := (congrArg (c_152 59) (show 4 * k9 = 4 * a2 from by omega)).trans ((hF_154 59 (4 * a2) (by omega)).trans ((up_n (by omega)).trans ((up_n (by omega)).trans ((up_n (by omega)).trans ((up_n (by omega)).trans ((up_n (by omega)).trans ((up_n (by omega)).trans (up_e rfl))))))))
                    have h_164 : c_152 59 (4 * k9 + 1) = a3 + c 59 (4 * a2 + 1) - c 59 (4 * a1) := (congrArg (c_152 59) (show 4 * k9 + 1 = 4 * a2 + 1 from by omega)).trans ((hF_154 59 (4 * a2 + 1) (by omega)).trans ((up_n (by omega)).trans ((up_n (by omega)).trans ((up_n (by omega)).trans ((up_n (by omega)).trans (up_e rfl))))))
                    have h_165 : c_152 59 (4 * k9 + 2) = c 59 (4 * a2 + 2) := (congrArg (c_152 59) (show 4 * k9 + 2 = 4 * a2 + 2 from by omega)).trans ((hF_154 59 (4 * a2 + 2) (by omega)).trans ((up_n (by omega)).trans ((up_n (by omega)).trans (up_e rfl))))
                    have h_166 : c_152 59 (4 * k9 + 3) = c 59 (4 * a2 + 3) := (congrArg (c_152 59) (show 4 * k9 + 3 = 4 * a2 + 3 from by omega)).trans ((hF_154 59 (4 * a2 + 3) (by omega)).trans (up_e rfl))
                    omega
                  have h_167 := iv_r hI 59 (4 * k9) hj9 (by omega)
                  have h_168 := ir_59_g hI (j := 4 * k9) (by omega)
                  have h_169 : c_152 59 (4 * k9) = c 59 (4 * k9) := ((hF_154 59 (4 * k9) (by omega)).trans ((up_n (by omega)).trans ((up_n (by omega)).trans ((up_n (by omega)).trans ((up_n (by omega)).trans ((up_n (by omega)).trans ((up_n (by omega)).trans ((up_n (by omega)).trans (up_n (by omega))))))))))
                  have h_170 := ir_59_g hI (j := 4 * k9 + 1) (by omega)
                  have h_171 : c_152 59 (4 * k9 + 1) = c 59 (4 * k9 + 1) := ((hF_154 59 (4 * k9 + 1) (by omega)).trans ((up_n (by omega)).trans ((up_n (by omega)).trans ((up_n (by omega)).trans ((up_n (by omega)).trans ((up_n (by omega)).trans ((up_n (by omega)).trans ((up_n (by omega)).trans (up_n (by omega))))))))))
                  have h_172 := ir_59_g hI (j := 4 * k9 + 2) (by omega)
                  have h_173 : c_152 59 (4 * k9 + 2) = c 59 (4 * k9 + 2) := ((hF_154 59 (4 * k9 + 2) (by omega)).trans ((up_n (by omega)).trans ((up_n (by omega)).trans ((up_n (by omega)).trans ((up_n (by omega)).trans ((up_n (by omega)).trans ((up_n (by omega)).trans ((up_n (by omega)).trans (up_n (by omega))))))))))
                  have h_174 := ir_59_g hI (j := 4 * k9 + 3) (by omega)
                  have h_175 : c_152 59 (4 * k9 + 3) = c 59 (4 * k9 + 3) := ((hF_154 59 (4 * k9 + 3) (by omega)).trans ((up_n (by omega)).trans ((up_n (by omega)).trans ((up_n (by omega)).trans ((up_n (by omega)).trans ((up_n (by omega)).trans ((up_n (by omega)).trans ((up_n (by omega)).trans (up_n (by omega))))))))))
                  omega
                have hI_176 := iv_close hI_153 hr_156
                exact K c_152 1 hI_176 (fun a j hm => (hF_154 a j (by omega)).trans ((up_b (by omega)).trans ((up_b (by omega)).trans ((up_b (by omega)).trans ((up_b (by omega)).trans ((up_b (by omega)).trans ((up_b (by omega)).trans ((up_b (by omega)).trans (up_b (by omega)))))))))) ⟨by decide, by decide⟩
              · refine v_if_ne_f (t := 151) rfl (by decide) (by omega) ?_
                refine q_aload_n rfl rfl ?_
                refine q_iload_n rfl rfl ?_
                refine v_cv rfl rfl rfl rfl (by decide) ⟨⟨rfl, rfl⟩, by decide, rfl⟩ (Nat.le_of_ble_eq_true rfl) (Nat.le_of_ble_eq_true rfl) (s_192 (a1 := a1) hI_153 (show 0 ≤ a1 ∧ a1 ≤ 5 from by omega) (fun c_177 hI_178 hF_179 h_180 => ?_))
                refine bk_inl ?_
                have h_181 := ir_59_g hI_178 (j := 4 * a1 + 1) (by omega)
                have h_182 := ir_59_g hI_178 (j := 4 * a1 + 2) (by omega)
                have h_183 := ir_59_g hI_178 (j := 4 * a1 + 3) (by omega)
                have h_184 := ir_59_g hI_178 (j := 4 * a1) (by omega)
                refine q_iconst rfl ?_
                refine v_zret rfl rfl (by omega) ?_
                have hr_185 : ∀ j : Int, rs 59 j → c_177 59 j + c_177 59 (j + 1) + c_177 59 (j + 2) + c_177 59 (j + 3) ≤ 9999 := by
                  intro j9 hj9
                  obtain ⟨k9, rfl, hk9⟩ := rs_59 hj9
                  by_cases e_186 : k9 = a1
                  · skip
                    have h_187 : c_177 59 (4 * k9) = c_177 59 (4 * a1) := (congrArg (c_177 59) (show 4 * k9 = 4 * a1 from by omega))
                    have h_188 : c_177 59 (4 * k9 + 1) = c_177 59 (4 * a1 + 1) := (congrArg (c_177 59) (show 4 * k9 + 1 = 4 * a1 + 1 from by omega))
                    have h_189 : c_177 59 (4 * k9 + 2) = c_177 59 (4 * a1 + 2) := (congrArg (c_177 59) (show 4 * k9 + 2 = 4 * a1 + 2 from by omega))
                    have h_190 : c_177 59 (4 * k9 + 3) = c_177 59 (4 * a1 + 3) := (congrArg (c_177 59) (show 4 * k9 + 3 = 4 * a1 + 3 from by omega))
                    omega
                  by_cases e_191 : k9 = a2
                  · skip
                    have h_192 : c_177 59 (4 * k9) = c 59 (4 * a1) + c 59 (4 * a2) := (congrArg (c_177 59) (show 4 * k9 = 4 * a2 from by omega)).trans ((hF_179 59 (4 * a2) (by omega)).trans ((hF_154 59 (4 * a2) (by omega)).trans ((up_n (by omega)).trans ((up_n (by omega)).trans ((up_n (by omega)).trans ((up_n (by omega)).trans ((up_n (by omega)).trans ((up_n (by omega)).trans (up_e rfl)))))))))
                    have h_193 : c_177 59 (4 * k9 + 1) = a3 + c 59 (4 * a2 + 1) - c 59 (4 * a1) := (congrArg (c_177 59) (show 4 * k9 + 1 = 4 * a2 + 1 from by omega)).trans ((hF_179 59 (4 * a2 + 1) (by omega)).trans ((hF_154 59 (4 * a2 + 1) (by omega)).trans ((up_n (by omega)).trans ((up_n (by omega)).trans ((up_n (by omega)).trans ((up_n (by omega)).trans (up_e rfl)))))))
                    have h_194 : c_177 59 (4 * k9 + 2) = c 59 (4 * a2 + 2) := (congrArg (c_177 59) (show 4 * k9 + 2 = 4 * a2 + 2 from by omega)).trans ((hF_179 59 (4 * a2 + 2) (by omega)).trans ((hF_154 59 (4 * a2 + 2) (by omega)).trans ((up_n (by omega)).trans ((up_n (by omega)).trans (up_e rfl)))))
                    have h_195 : c_177 59 (4 * k9 + 3) = c 59 (4 * a2 + 3) := (congrArg (c_177 59) (show 4 * k9 + 3 = 4 * a2 + 3 from by omega)).trans ((hF_179 59 (4 * a2 + 3) (by omega)).trans ((hF_154 59 (4 * a2 + 3) (by omega)).trans (up_e rfl)))
                    omega
                  have h_196 := iv_r hI 59 (4 * k9) hj9 (by omega)
                  have h_197 := ir_59_g hI (j := 4 * k9) (by omega)
                  have h_198 : c_177 59 (4 * k9) = c 59 (4 * k9) := ((hF_179 59 (4 * k9) (by omega)).trans ((hF_154 59 (4 * k9) (by omega)).trans ((up_n (by omega)).trans ((up_n (by omega)).trans ((up_n (by omega)).trans ((up_n (by omega)).trans ((up_n (by omega)).trans ((up_n (by omega)).trans ((up_n (by omega)).trans (up_n (by omega)))))))))))
                  have h_199 := ir_59_g hI (j := 4 * k9 + 1) (by omega)
                  have h_200 : c_177 59 (4 * k9 + 1) = c 59 (4 * k9 + 1) := ((hF_179 59 (4 * k9 + 1) (by omega)).trans ((hF_154 59 (4 * k9 + 1) (by omega)).trans ((up_n (by omega)).trans ((up_n (by omega)).trans ((up_n (by omega)).trans ((up_n (by omega)).trans ((up_n (by omega)).trans ((up_n (by omega)).trans ((up_n (by omega)).trans (up_n (by omega)))))))))))
                  have h_201 := ir_59_g hI (j := 4 * k9 + 2) (by omega)
                  have h_202 : c_177 59 (4 * k9 + 2) = c 59 (4 * k9 + 2) := ((hF_179 59 (4 * k9 + 2) (by omega)).trans ((hF_154 59 (4 * k9 + 2) (by omega)).trans ((up_n (by omega)).trans ((up_n (by omega)).trans ((up_n (by omega)).trans ((up_n (by omega)).trans ((up_n (by omega)).trans ((up_n (by omega)).trans ((up_n (by omega)).trans (up_n (by omega)))))))))))
                  have h_203 := ir_59_g hI (j := 4 * k9 + 3) (by omega)
                  have h_204 : c_177 59 (4 * k9 + 3) = c 59 (4 * k9 + 3) := ((hF_179 59 (4 * k9 + 3) (by omega)).trans ((hF_154 59 (4 * k9 + 3) (by omega)).trans ((up_n (by omega)).trans ((up_n (by omega)).trans ((up_n (by omega)).trans ((up_n (by omega)).trans ((up_n (by omega)).trans ((up_n (by omega)).trans ((up_n (by omega)).trans (up_n (by omega)))))))))))
                  omega
                have hI_205 := iv_close hI_178 hr_185
                exact K c_177 1 hI_205 (fun a j hm => (hF_179 a j (by omega)).trans ((hF_154 a j (by omega)).trans ((up_b (by omega)).trans ((up_b (by omega)).trans ((up_b (by omega)).trans ((up_b (by omega)).trans ((up_b (by omega)).trans ((up_b (by omega)).trans ((up_b (by omega)).trans (up_b (by omega))))))))))) ⟨by decide, by decide⟩
            · refine v_ic_ge_f (t := 75) rfl (by decide) (by omega) ?_
              refine q_aload_n rfl rfl ?_
              refine v_gr (t := 59) rfl rfl rfl (by decide) rfl ?_
              refine q_iconst rfl ?_
              refine q_iload_n rfl rfl ?_
              refine v_imul (v := 4 * a1) rfl (by omega) ?_
              refine q_iload rfl rfl ?_
              refine v_iadd (v := 4 * a1 + 1) rfl (by omega) ?_
              refine v_ia (v := c 59 (4 * a1 + 1)) rfl rfl (by decide) (by decide) (by omega) ((up_n (by omega)).trans (up_n (by omega))) ?_
              refine q_goto (t := 77) rfl (by decide) ?_
              refine q_istore rfl (by decide) ?_
              refine q_aload_n rfl rfl ?_
              refine v_gr (t := 59) rfl rfl rfl (by decide) rfl ?_
              refine q_iconst rfl ?_
              refine q_iload_n rfl rfl ?_
              refine v_imul (v := 4 * a1) rfl (by omega) ?_
              refine q_iload rfl rfl ?_
              refine v_iadd (v := 4 * a1 + 1) rfl (by omega) ?_
              refine q_dup2 rfl ⟨rfl, rfl⟩ ?_
              refine v_ia (v := c 59 (4 * a1 + 1)) rfl rfl (by decide) (by decide) (by omega) ((up_n (by omega)).trans (up_n (by omega))) ?_
              refine q_iload rfl rfl ?_
              refine v_isub (v := 0) rfl (by decide) ?_
              refine v_is rfl rfl (by decide) (by decide) (by omega) ?_
              refine q_aload_n rfl rfl ?_
              refine v_gr (t := 59) rfl rfl rfl (by decide) rfl ?_
              refine q_iconst rfl ?_
              refine q_iload_n rfl rfl ?_
              refine v_imul (v := 4 * a2) rfl (by omega) ?_
              refine q_iload rfl rfl ?_
              refine v_iadd (v := 4 * a2 + 1) rfl (by omega) ?_
              refine q_dup2 rfl ⟨rfl, rfl⟩ ?_
              refine v_ia (v := c 59 (4 * a2 + 1)) rfl rfl (by decide) (by decide) (by omega) ((up_n (by omega)).trans ((up_n (by omega)).trans (up_n (by omega)))) ?_
              refine q_iload rfl rfl ?_
              refine v_iadd (v := c 59 (4 * a1 + 1) + c 59 (4 * a2 + 1)) rfl (by omega) ?_
              refine v_is rfl rfl (by decide) (by decide) (by omega) ?_
              refine q_iload rfl rfl ?_
              refine q_iload rfl rfl ?_
              refine v_isub (v := a3 - c 59 (4 * a1 + 1) - c 59 (4 * a1)) rfl (by omega) ?_
              refine q_istore rfl (by decide) ?_
              refine v_iinc (v := 2) rfl rfl (by decide) (by decide) ?_
              refine q_goto (t := 39) rfl (by decide) ?_
              refine q_iload rfl rfl ?_
              refine q_iconst rfl ?_
              refine v_ic_ge_f (t := 124) rfl (by decide) (by decide) ?_
              refine q_aload_n rfl rfl ?_
              refine v_gr (t := 59) rfl rfl rfl (by decide) rfl ?_
              refine q_iconst rfl ?_
              refine q_iload_n rfl rfl ?_
              refine v_imul (v := 4 * a1) rfl (by omega) ?_
              refine q_iload rfl rfl ?_
              refine v_iadd (v := 4 * a1 + 2) rfl (by omega) ?_
              refine v_ia (v := c 59 (4 * a1 + 2)) rfl rfl (by decide) (by decide) (by omega) ((up_n (by omega)).trans ((up_n (by omega)).trans ((up_n (by omega)).trans (up_n (by omega))))) ?_
              refine q_iload rfl rfl ?_
              by_cases h_206 : c 59 (4 * a1 + 2) ≥ a3 - c 59 (4 * a1 + 1) - c 59 (4 * a1)
              · refine v_ic_ge_t (t := 75) rfl (by decide) (by omega) ?_
                refine q_iload rfl rfl ?_
                refine q_istore rfl (by decide) ?_
                refine q_aload_n rfl rfl ?_
                refine v_gr (t := 59) rfl rfl rfl (by decide) rfl ?_
                refine q_iconst rfl ?_
                refine q_iload_n rfl rfl ?_
                refine v_imul (v := 4 * a1) rfl (by omega) ?_
                refine q_iload rfl rfl ?_
                refine v_iadd (v := 4 * a1 + 2) rfl (by omega) ?_
                refine q_dup2 rfl ⟨rfl, rfl⟩ ?_
                refine v_ia (v := c 59 (4 * a1 + 2)) rfl rfl (by decide) (by decide) (by omega) ((up_n (by omega)).trans ((up_n (by omega)).trans ((up_n (by omega)).trans (up_n (by omega))))) ?_
                refine q_iload rfl rfl ?_
                refine v_isub (v := c 59 (4 * a1 + 1) + c 59 (4 * a1 + 2) + c 59 (4 * a1) - a3) rfl (by omega) ?_
                refine v_is rfl rfl (by decide) (by decide) (by omega) ?_
                refine q_aload_n rfl rfl ?_
                refine v_gr (t := 59) rfl rfl rfl (by decide) rfl ?_
                refine q_iconst rfl ?_
                refine q_iload_n rfl rfl ?_
                refine v_imul (v := 4 * a2) rfl (by omega) ?_
                refine q_iload rfl rfl ?_
                refine v_iadd (v := 4 * a2 + 2) rfl (by omega) ?_
                refine q_dup2 rfl ⟨rfl, rfl⟩ ?_
                refine v_ia (v := c 59 (4 * a2 + 2)) rfl rfl (by decide) (by decide) (by omega) ((up_n (by omega)).trans ((up_n (by omega)).trans ((up_n (by omega)).trans ((up_n (by omega)).trans (up_n (by omega)))))) ?_
                refine q_iload rfl rfl ?_
                refine v_iadd (v := a3 + c 59 (4 * a2 + 2) - c 59 (4 * a1 + 1) - c 59 (4 * a1)) rfl (by omega) ?_
                refine v_is rfl rfl (by decide) (by decide) (by omega) ?_
                refine q_iload rfl rfl ?_
                refine q_iload rfl rfl ?_
                refine v_isub (v := 0) rfl (by decide) ?_
                refine q_istore rfl (by decide) ?_
                refine Wp_ls [(4, vi 0), (6, vi (a3 - c 59 (4 * a1 + 1) - c 59 (4 * a1))), (5, vi 2), (0, .ref 41), (1, vi a1), (2, vi a2), (3, vi a3)] (lsub_cons rfl (lsub_cons rfl (lsub_cons rfl (lsub_cons rfl (lsub_cons rfl (lsub_cons rfl (lsub_cons rfl lsub_nil))))))) ?_
                refine v_iinc (v := 3) rfl rfl (by decide) (by decide) ?_
                refine q_goto (t := 39) rfl (by decide) ?_
                refine q_iload rfl rfl ?_
                refine q_iconst rfl ?_
                refine v_ic_ge_f (t := 124) rfl (by decide) (by decide) ?_
                refine q_aload_n rfl rfl ?_
                refine v_gr (t := 59) rfl rfl rfl (by decide) rfl ?_
                refine q_iconst rfl ?_
                refine q_iload_n rfl rfl ?_
                refine v_imul (v := 4 * a1) rfl (by omega) ?_
                refine q_iload rfl rfl ?_
                refine v_iadd (v := 4 * a1 + 3) rfl (by omega) ?_
                refine v_ia (v := c 59 (4 * a1 + 3)) rfl rfl (by decide) (by decide) (by omega) ((up_n (by omega)).trans ((up_n (by omega)).trans ((up_n (by omega)).trans ((up_n (by omega)).trans ((up_n (by omega)).trans (up_n (by omega))))))) ?_
                refine q_iload rfl rfl ?_
                refine v_ic_ge_t (t := 75) rfl (by decide) (by omega) ?_
                refine q_iload rfl rfl ?_
                refine q_istore rfl (by decide) ?_
                refine q_aload_n rfl rfl ?_
                refine v_gr (t := 59) rfl rfl rfl (by decide) rfl ?_
                refine q_iconst rfl ?_
                refine q_iload_n rfl rfl ?_
                refine v_imul (v := 4 * a1) rfl (by omega) ?_
                refine q_iload rfl rfl ?_
                refine v_iadd (v := 4 * a1 + 3) rfl (by omega) ?_
                refine q_dup2 rfl ⟨rfl, rfl⟩ ?_
                refine v_ia (v := c 59 (4 * a1 + 3)) rfl rfl (by decide) (by decide) (by omega) ((up_n (by omega)).trans ((up_n (by omega)).trans ((up_n (by omega)).trans ((up_n (by omega)).trans ((up_n (by omega)).trans (up_n (by omega))))))) ?_
                refine q_iload rfl rfl ?_
                refine v_isub (v := c 59 (4 * a1 + 3)) rfl (by omega) ?_
                refine v_is rfl rfl (by decide) (by decide) (by omega) ?_
                refine q_aload_n rfl rfl ?_
                refine v_gr (t := 59) rfl rfl rfl (by decide) rfl ?_
                refine q_iconst rfl ?_
                refine q_iload_n rfl rfl ?_
                refine v_imul (v := 4 * a2) rfl (by omega) ?_
                refine q_iload rfl rfl ?_
                refine v_iadd (v := 4 * a2 + 3) rfl (by omega) ?_
                refine q_dup2 rfl ⟨rfl, rfl⟩ ?_
                refine v_ia (v := c 59 (4 * a2 + 3)) rfl rfl (by decide) (by decide) (by omega) ((up_n (by omega)).trans ((up_n (by omega)).trans ((up_n (by omega)).trans ((up_n (by omega)).trans ((up_n (by omega)).trans ((up_n (by omega)).trans (up_n (by omega)))))))) ?_
                refine q_iload rfl rfl ?_
                refine v_iadd (v := c 59 (4 * a2 + 3)) rfl (by omega) ?_
                refine v_is rfl rfl (by decide) (by decide) (by omega) ?_
                refine q_iload rfl rfl ?_
                refine q_iload rfl rfl ?_
                refine v_isub (v := 0) rfl (by decide) ?_
                refine q_istore rfl (by decide) ?_
                refine v_iinc (v := 4) rfl rfl (by decide) (by decide) ?_
                refine q_goto (t := 39) rfl (by decide) ?_
                refine q_iload rfl rfl ?_
                refine q_iconst rfl ?_
                refine v_ic_ge_t (t := 124) rfl (by decide) (by decide) ?_
                refine q_aload_n rfl rfl ?_
                refine q_iload_n rfl rfl ?_
                refine q_aload_n rfl rfl ?_
                refine v_gr (t := 59) rfl rfl rfl (by decide) rfl ?_
                refine v_bip rfl (by decide) ?_
                refine q_iload_n rfl rfl ?_
                refine v_iadd (v := a1 + 24) rfl (by omega) ?_
                have h_207 := ir_59 hI (a1 + 24)
                refine v_ia (v := c 59 (a1 + 24)) rfl rfl (by decide) (by decide) (by omega) ((up_n (by omega)).trans ((up_n (by omega)).trans ((up_n (by omega)).trans ((up_n (by omega)).trans ((up_n (by omega)).trans ((up_n (by omega)).trans ((up_n (by omega)).trans (up_n (by omega))))))))) ?_
                have hI_208 := iw_row (a := 59) (j := 4 * a1) (v := 0) hIo (by omega) (Or.inl rfl) ⟨by omega, by omega, by omega⟩
                have hI_209 := iw_row (a := 59) (j := 4 * a2) (v := c 59 (4 * a1) + c 59 (4 * a2)) hI_208 (by omega) (Or.inl rfl) ⟨by omega, by omega, by omega⟩
                have hI_210 := iw_row (a := 59) (j := 4 * a1 + 1) (v := 0) hI_209 (by omega) (Or.inl rfl) ⟨by omega, by omega, by omega⟩
                have hI_211 := iw_row (a := 59) (j := 4 * a2 + 1) (v := c 59 (4 * a1 + 1) + c 59 (4 * a2 + 1)) hI_210 (by omega) (Or.inl rfl) ⟨by omega, by omega, by omega⟩
                have hI_212 := iw_row (a := 59) (j := 4 * a1 + 2) (v := c 59 (4 * a1 + 1) + c 59 (4 * a1 + 2) + c 59 (4 * a1) - a3) hI_211 (by omega) (Or.inl rfl) ⟨by omega, by omega, by omega⟩
                have hI_213 := iw_row (a := 59) (j := 4 * a2 + 2) (v := a3 + c 59 (4 * a2 + 2) - c 59 (4 * a1 + 1) - c 59 (4 * a1)) hI_212 (by omega) (Or.inl rfl) ⟨by omega, by omega, by omega⟩
                have hI_214 := iw_row (a := 59) (j := 4 * a1 + 3) (v := c 59 (4 * a1 + 3)) hI_213 (by omega) (Or.inl rfl) ⟨by omega, by omega, by omega⟩
                have hI_215 := iw_row (a := 59) (j := 4 * a2 + 3) (v := c 59 (4 * a2 + 3)) hI_214 (by omega) (Or.inl rfl) ⟨by omega, by omega, by omega⟩
                refine v_cv rfl rfl rfl rfl (by decide) ⟨⟨rfl, rfl⟩, by decide, rfl⟩ (Nat.le_of_ble_eq_true rfl) (Nat.le_of_ble_eq_true rfl) (s_191 (a1 := a2) (a2 := c 59 (a1 + 24)) hI_215 (show 0 ≤ a2 ∧ a2 ≤ 5 from by omega) (show (-2147483648) ≤ c 59 (a1 + 24) ∧ c 59 (a1 + 24) ≤ 2147483647 from by omega) (fun c_216 hI_217 hF_218 => ?_))
                refine bk_inl ?_
                refine q_aload_n rfl rfl ?_
                refine q_iload_n rfl rfl ?_
                refine v_cv rfl rfl rfl rfl (by decide) ⟨⟨rfl, rfl⟩, by decide, rfl⟩ (Nat.le_of_ble_eq_true rfl) (Nat.le_of_ble_eq_true rfl) (s_187 (v1 := 0) (v2 := 0) (v3 := c 59 (4 * a1 + 1) + c 59 (4 * a1 + 2) + c 59 (4 * a1) - a3) (v4 := c 59 (4 * a1 + 3)) (r := c 59 (4 * a1 + 1) + c 59 (4 * a1 + 2) + c 59 (4 * a1 + 3) + c 59 (4 * a1) - a3) (a1 := a1) hI_217 (show 0 ≤ a1 ∧ a1 ≤ 5 from by omega) (((hF_218 59 (4 * a1) (by omega)).trans ((up_n (by omega)).trans ((up_n (by omega)).trans ((up_n (by omega)).trans ((up_n (by omega)).trans ((up_n (by omega)).trans ((up_n (by omega)).trans ((up_n (by omega)).trans (up_e rfl)))))))))) (((hF_218 59 (4 * a1 + 1) (by omega)).trans ((up_n (by omega)).trans ((up_n (by omega)).trans ((up_n (by omega)).trans ((up_n (by omega)).trans ((up_n (by omega)).trans (up_e rfl)))))))) (((hF_218 59 (4 * a1 + 2) (by omega)).trans ((up_n (by omega)).trans ((up_n (by omega)).trans ((up_n (by omega)).trans (up_e rfl)))))) (((hF_218 59 (4 * a1 + 3) (by omega)).trans ((up_n (by omega)).trans (up_e rfl)))) (by omega) ?_)
                refine bk_inl ?_
                by_cases h_219 : c 59 (4 * a1 + 1) + c 59 (4 * a1 + 2) + c 59 (4 * a1 + 3) + c 59 (4 * a1) - a3 ≠ 0
                · refine v_if_ne_t (t := 151) rfl (by decide) (by omega) ?_
                  refine q_iconst rfl ?_
                  refine v_zret rfl rfl (by omega) ?_
                  have hr_220 : ∀ j : Int, rs 59 j → c_216 59 j + c_216 59 (j + 1) + c_216 59 (j + 2) + c_216 59 (j + 3) ≤ 9999 := by
                    intro j9 hj9
                    obtain ⟨k9, rfl, hk9⟩ := rs_59 hj9
                    by_cases e_221 : k9 = a1
                    · skip
                      have h_222 : c_216 59 (4 * k9) = 0 := (congrArg (c_216 59) (show 4 * k9 = 4 * a1 from by omega)).trans ((hF_218 59 (4 * a1) (by omega)).trans ((up_n (by omega)).trans ((up_n (by omega)).trans ((up_n (by omega)).trans ((up_n (by omega)).trans ((up_n (by omega)).trans ((up_n (by omega)).trans ((up_n (by omega)).trans (up_e rfl)))))))))
                      have h_223 : c_216 59 (4 * k9 + 1) = 0 := (congrArg (c_216 59) (show 4 * k9 + 1 = 4 * a1 + 1 from by omega)).trans ((hF_218 59 (4 * a1 + 1) (by omega)).trans ((up_n (by omega)).trans ((up_n (by omega)).trans ((up_n (by omega)).trans ((up_n (by omega)).trans ((up_n (by omega)).trans (up_e rfl)))))))
                      have h_224 : c_216 59 (4 * k9 + 2) = c 59 (4 * a1 + 1) + c 59 (4 * a1 + 2) + c 59 (4 * a1) - a3 := (congrArg (c_216 59) (show 4 * k9 + 2 = 4 * a1 + 2 from by omega)).trans ((hF_218 59 (4 * a1 + 2) (by omega)).trans ((up_n (by omega)).trans ((up_n (by omega)).trans ((up_n (by omega)).trans (up_e rfl)))))
                      have h_225 : c_216 59 (4 * k9 + 3) = c 59 (4 * a1 + 3) := (congrArg (c_216 59) (show 4 * k9 + 3 = 4 * a1 + 3 from by omega)).trans ((hF_218 59 (4 * a1 + 3) (by omega)).trans ((up_n (by omega)).trans (up_e rfl)))
                      omega
                    by_cases e_226 : k9 = a2
                    · skip
                      have h_227 : c_216 59 (4 * k9) = c 59 (4 * a1) + c 59 (4 * a2) := (congrArg (c_216 59) (show 4 * k9 = 4 * a2 from by omega)).trans ((hF_218 59 (4 * a2) (by omega)).trans ((up_n (by omega)).trans ((up_n (by omega)).trans ((up_n (by omega)).trans ((up_n (by omega)).trans ((up_n (by omega)).trans ((up_n (by omega)).trans (up_e rfl))))))))
                      have h_228 : c_216 59 (4 * k9 + 1) = c 59 (4 * a1 + 1) + c 59 (4 * a2 + 1) := (congrArg (c_216 59) (show 4 * k9 + 1 = 4 * a2 + 1 from by omega)).trans ((hF_218 59 (4 * a2 + 1) (by omega)).trans ((up_n (by omega)).trans ((up_n (by omega)).trans ((up_n (by omega)).trans ((up_n (by omega)).trans (up_e rfl))))))
                      have h_229 : c_216 59 (4 * k9 + 2) = a3 + c 59 (4 * a2 + 2) - c 59 (4 * a1 + 1) - c 59 (4 * a1) := (congrArg (c_216 59) (show 4 * k9 + 2 = 4 * a2 + 2 from by omega)).trans ((hF_218 59 (4 * a2 + 2) (by omega)).trans ((up_n (by omega)).trans ((up_n (by omega)).trans (up_e rfl))))
                      have h_230 : c_216 59 (4 * k9 + 3) = c 59 (4 * a2 + 3) := (congrArg (c_216 59) (show 4 * k9 + 3 = 4 * a2 + 3 from by omega)).trans ((hF_218 59 (4 * a2 + 3) (by omega)).trans (up_e rfl))
                      omega
                    have h_231 := iv_r hI 59 (4 * k9) hj9 (by omega)
                    have h_232 := ir_59_g hI (j := 4 * k9) (by omega)
                    have h_233 : c_216 59 (4 * k9) = c 59 (4 * k9) := ((hF_218 59 (4 * k9) (by omega)).trans ((up_n (by omega)).trans ((up_n (by omega)).trans ((up_n (by omega)).trans ((up_n (by omega)).trans ((up_n (by omega)).trans ((up_n (by omega)).trans ((up_n (by omega)).trans (up_n (by omega))))))))))
                    have h_234 := ir_59_g hI (j := 4 * k9 + 1) (by omega)
                    have h_235 : c_216 59 (4 * k9 + 1) = c 59 (4 * k9 + 1) := ((hF_218 59 (4 * k9 + 1) (by omega)).trans ((up_n (by omega)).trans ((up_n (by omega)).trans ((up_n (by omega)).trans ((up_n (by omega)).trans ((up_n (by omega)).trans ((up_n (by omega)).trans ((up_n (by omega)).trans (up_n (by omega))))))))))
                    have h_236 := ir_59_g hI (j := 4 * k9 + 2) (by omega)
                    have h_237 : c_216 59 (4 * k9 + 2) = c 59 (4 * k9 + 2) := ((hF_218 59 (4 * k9 + 2) (by omega)).trans ((up_n (by omega)).trans ((up_n (by omega)).trans ((up_n (by omega)).trans ((up_n (by omega)).trans ((up_n (by omega)).trans ((up_n (by omega)).trans ((up_n (by omega)).trans (up_n (by omega))))))))))
                    have h_238 := ir_59_g hI (j := 4 * k9 + 3) (by omega)
                    have h_239 : c_216 59 (4 * k9 + 3) = c 59 (4 * k9 + 3) := ((hF_218 59 (4 * k9 + 3) (by omega)).trans ((up_n (by omega)).trans ((up_n (by omega)).trans ((up_n (by omega)).trans ((up_n (by omega)).trans ((up_n (by omega)).trans ((up_n (by omega)).trans ((up_n (by omega)).trans (up_n (by omega))))))))))
                    omega
                  have hI_240 := iv_close hI_217 hr_220
                  exact K c_216 1 hI_240 (fun a j hm => (hF_218 a j (by omega)).trans ((up_b (by omega)).trans ((up_b (by omega)).trans ((up_b (by omega)).trans ((up_b (by omega)).trans ((up_b (by omega)).trans ((up_b (by omega)).trans ((up_b (by omega)).trans (up_b (by omega)))))))))) ⟨by decide, by decide⟩
                · refine v_if_ne_f (t := 151) rfl (by decide) (by omega) ?_
                  refine q_aload_n rfl rfl ?_
                  refine q_iload_n rfl rfl ?_
                  refine v_cv rfl rfl rfl rfl (by decide) ⟨⟨rfl, rfl⟩, by decide, rfl⟩ (Nat.le_of_ble_eq_true rfl) (Nat.le_of_ble_eq_true rfl) (s_192 (a1 := a1) hI_217 (show 0 ≤ a1 ∧ a1 ≤ 5 from by omega) (fun c_241 hI_242 hF_243 h_244 => ?_))
                  refine bk_inl ?_
                  have h_245 := ir_59_g hI_242 (j := 4 * a1 + 1) (by omega)
                  have h_246 := ir_59_g hI_242 (j := 4 * a1 + 2) (by omega)
                  have h_247 := ir_59_g hI_242 (j := 4 * a1 + 3) (by omega)
                  have h_248 := ir_59_g hI_242 (j := 4 * a1) (by omega)
                  refine q_iconst rfl ?_
                  refine v_zret rfl rfl (by omega) ?_
                  have hr_249 : ∀ j : Int, rs 59 j → c_241 59 j + c_241 59 (j + 1) + c_241 59 (j + 2) + c_241 59 (j + 3) ≤ 9999 := by
                    intro j9 hj9
                    obtain ⟨k9, rfl, hk9⟩ := rs_59 hj9
                    by_cases e_250 : k9 = a1
                    · skip
                      have h_251 : c_241 59 (4 * k9) = c_241 59 (4 * a1) := (congrArg (c_241 59) (show 4 * k9 = 4 * a1 from by omega))
                      have h_252 : c_241 59 (4 * k9 + 1) = c_241 59 (4 * a1 + 1) := (congrArg (c_241 59) (show 4 * k9 + 1 = 4 * a1 + 1 from by omega))
                      have h_253 : c_241 59 (4 * k9 + 2) = c_241 59 (4 * a1 + 2) := (congrArg (c_241 59) (show 4 * k9 + 2 = 4 * a1 + 2 from by omega))
                      have h_254 : c_241 59 (4 * k9 + 3) = c_241 59 (4 * a1 + 3) := (congrArg (c_241 59) (show 4 * k9 + 3 = 4 * a1 + 3 from by omega))
                      omega
                    by_cases e_255 : k9 = a2
                    · skip
                      have h_256 : c_241 59 (4 * k9) = c 59 (4 * a1) + c 59 (4 * a2) := (congrArg (c_241 59) (show 4 * k9 = 4 * a2 from by omega)).trans ((hF_243 59 (4 * a2) (by omega)).trans ((hF_218 59 (4 * a2) (by omega)).trans ((up_n (by omega)).trans ((up_n (by omega)).trans ((up_n (by omega)).trans ((up_n (by omega)).trans ((up_n (by omega)).trans ((up_n (by omega)).trans (up_e rfl)))))))))
                      have h_257 : c_241 59 (4 * k9 + 1) = c 59 (4 * a1 + 1) + c 59 (4 * a2 + 1) := (congrArg (c_241 59) (show 4 * k9 + 1 = 4 * a2 + 1 from by omega)).trans ((hF_243 59 (4 * a2 + 1) (by omega)).trans ((hF_218 59 (4 * a2 + 1) (by omega)).trans ((up_n (by omega)).trans ((up_n (by omega)).trans ((up_n (by omega)).trans ((up_n (by omega)).trans (up_e rfl)))))))
                      have h_258 : c_241 59 (4 * k9 + 2) = a3 + c 59 (4 * a2 + 2) - c 59 (4 * a1 + 1) - c 59 (4 * a1) := (congrArg (c_241 59) (show 4 * k9 + 2 = 4 * a2 + 2 from by omega)).trans ((hF_243 59 (4 * a2 + 2) (by omega)).trans ((hF_218 59 (4 * a2 + 2) (by omega)).trans ((up_n (by omega)).trans ((up_n (by omega)).trans (up_e rfl)))))
                      have h_259 : c_241 59 (4 * k9 + 3) = c 59 (4 * a2 + 3) := (congrArg (c_241 59) (show 4 * k9 + 3 = 4 * a2 + 3 from by omega)).trans ((hF_243 59 (4 * a2 + 3) (by omega)).trans ((hF_218 59 (4 * a2 + 3) (by omega)).trans (up_e rfl)))
                      omega
                    have h_260 := iv_r hI 59 (4 * k9) hj9 (by omega)
                    have h_261 := ir_59_g hI (j := 4 * k9) (by omega)
                    have h_262 : c_241 59 (4 * k9) = c 59 (4 * k9) := ((hF_243 59 (4 * k9) (by omega)).trans ((hF_218 59 (4 * k9) (by omega)).trans ((up_n (by omega)).trans ((up_n (by omega)).trans ((up_n (by omega)).trans ((up_n (by omega)).trans ((up_n (by omega)).trans ((up_n (by omega)).trans ((up_n (by omega)).trans (up_n (by omega)))))))))))
                    have h_263 := ir_59_g hI (j := 4 * k9 + 1) (by omega)
                    have h_264 : c_241 59 (4 * k9 + 1) = c 59 (4 * k9 + 1) := ((hF_243 59 (4 * k9 + 1) (by omega)).trans ((hF_218 59 (4 * k9 + 1) (by omega)).trans ((up_n (by omega)).trans ((up_n (by omega)).trans ((up_n (by omega)).trans ((up_n (by omega)).trans ((up_n (by omega)).trans ((up_n (by omega)).trans ((up_n (by omega)).trans (up_n (by omega)))))))))))
                    have h_265 := ir_59_g hI (j := 4 * k9 + 2) (by omega)
                    have h_266 : c_241 59 (4 * k9 + 2) = c 59 (4 * k9 + 2) := ((hF_243 59 (4 * k9 + 2) (by omega)).trans ((hF_218 59 (4 * k9 + 2) (by omega)).trans ((up_n (by omega)).trans ((up_n (by omega)).trans ((up_n (by omega)).trans ((up_n (by omega)).trans ((up_n (by omega)).trans ((up_n (by omega)).trans ((up_n (by omega)).trans (up_n (by omega)))))))))))
                    have h_267 := ir_59_g hI (j := 4 * k9 + 3) (by omega)
                    have h_268 : c_241 59 (4 * k9 + 3) = c 59 (4 * k9 + 3) := ((hF_243 59 (4 * k9 + 3) (by omega)).trans ((hF_218 59 (4 * k9 + 3) (by omega)).trans ((up_n (by omega)).trans ((up_n (by omega)).trans ((up_n (by omega)).trans ((up_n (by omega)).trans ((up_n (by omega)).trans ((up_n (by omega)).trans ((up_n (by omega)).trans (up_n (by omega)))))))))))
                    omega
                  have hI_269 := iv_close hI_242 hr_249
                  exact K c_241 1 hI_269 (fun a j hm => (hF_243 a j (by omega)).trans ((hF_218 a j (by omega)).trans ((up_b (by omega)).trans ((up_b (by omega)).trans ((up_b (by omega)).trans ((up_b (by omega)).trans ((up_b (by omega)).trans ((up_b (by omega)).trans ((up_b (by omega)).trans (up_b (by omega))))))))))) ⟨by decide, by decide⟩
              · refine v_ic_ge_f (t := 75) rfl (by decide) (by omega) ?_
                refine q_aload_n rfl rfl ?_
                refine v_gr (t := 59) rfl rfl rfl (by decide) rfl ?_
                refine q_iconst rfl ?_
                refine q_iload_n rfl rfl ?_
                refine v_imul (v := 4 * a1) rfl (by omega) ?_
                refine q_iload rfl rfl ?_
                refine v_iadd (v := 4 * a1 + 2) rfl (by omega) ?_
                refine v_ia (v := c 59 (4 * a1 + 2)) rfl rfl (by decide) (by decide) (by omega) ((up_n (by omega)).trans ((up_n (by omega)).trans ((up_n (by omega)).trans (up_n (by omega))))) ?_
                refine q_goto (t := 77) rfl (by decide) ?_
                refine q_istore rfl (by decide) ?_
                refine q_aload_n rfl rfl ?_
                refine v_gr (t := 59) rfl rfl rfl (by decide) rfl ?_
                refine q_iconst rfl ?_
                refine q_iload_n rfl rfl ?_
                refine v_imul (v := 4 * a1) rfl (by omega) ?_
                refine q_iload rfl rfl ?_
                refine v_iadd (v := 4 * a1 + 2) rfl (by omega) ?_
                refine q_dup2 rfl ⟨rfl, rfl⟩ ?_
                refine v_ia (v := c 59 (4 * a1 + 2)) rfl rfl (by decide) (by decide) (by omega) ((up_n (by omega)).trans ((up_n (by omega)).trans ((up_n (by omega)).trans (up_n (by omega))))) ?_
                refine q_iload rfl rfl ?_
                refine v_isub (v := 0) rfl (by decide) ?_
                refine v_is rfl rfl (by decide) (by decide) (by omega) ?_
                refine q_aload_n rfl rfl ?_
                refine v_gr (t := 59) rfl rfl rfl (by decide) rfl ?_
                refine q_iconst rfl ?_
                refine q_iload_n rfl rfl ?_
                refine v_imul (v := 4 * a2) rfl (by omega) ?_
                refine q_iload rfl rfl ?_
                refine v_iadd (v := 4 * a2 + 2) rfl (by omega) ?_
                refine q_dup2 rfl ⟨rfl, rfl⟩ ?_
                refine v_ia (v := c 59 (4 * a2 + 2)) rfl rfl (by decide) (by decide) (by omega) ((up_n (by omega)).trans ((up_n (by omega)).trans ((up_n (by omega)).trans ((up_n (by omega)).trans (up_n (by omega)))))) ?_
                refine q_iload rfl rfl ?_
                refine v_iadd (v := c 59 (4 * a1 + 2) + c 59 (4 * a2 + 2)) rfl (by omega) ?_
                refine v_is rfl rfl (by decide) (by decide) (by omega) ?_
                refine q_iload rfl rfl ?_
                refine q_iload rfl rfl ?_
                refine v_isub (v := a3 - c 59 (4 * a1 + 1) - c 59 (4 * a1 + 2) - c 59 (4 * a1)) rfl (by omega) ?_
                refine q_istore rfl (by decide) ?_
                refine Wp_ls [(4, vi (a3 - c 59 (4 * a1 + 1) - c 59 (4 * a1 + 2) - c 59 (4 * a1))), (6, vi (c 59 (4 * a1 + 2))), (5, vi 2), (0, .ref 41), (1, vi a1), (2, vi a2), (3, vi a3)] (lsub_cons rfl (lsub_cons rfl (lsub_cons rfl (lsub_cons rfl (lsub_cons rfl (lsub_cons rfl (lsub_cons rfl lsub_nil))))))) ?_
                refine v_iinc (v := 3) rfl rfl (by decide) (by decide) ?_
                refine q_goto (t := 39) rfl (by decide) ?_
                refine q_iload rfl rfl ?_
                refine q_iconst rfl ?_
                refine v_ic_ge_f (t := 124) rfl (by decide) (by decide) ?_
                refine q_aload_n rfl rfl ?_
                refine v_gr (t := 59) rfl rfl rfl (by decide) rfl ?_
                refine q_iconst rfl ?_
                refine q_iload_n rfl rfl ?_
                refine v_imul (v := 4 * a1) rfl (by omega) ?_
                refine q_iload rfl rfl ?_
                refine v_iadd (v := 4 * a1 + 3) rfl (by omega) ?_
                refine v_ia (v := c 59 (4 * a1 + 3)) rfl rfl (by decide) (by decide) (by omega) ((up_n (by omega)).trans ((up_n (by omega)).trans ((up_n (by omega)).trans ((up_n (by omega)).trans ((up_n (by omega)).trans (up_n (by omega))))))) ?_
                refine q_iload rfl rfl ?_
                refine v_ic_ge_t (t := 75) rfl (by decide) (by omega) ?_
                refine q_iload rfl rfl ?_
                refine q_istore rfl (by decide) ?_
                refine q_aload_n rfl rfl ?_
                refine v_gr (t := 59) rfl rfl rfl (by decide) rfl ?_
                refine q_iconst rfl ?_
                refine q_iload_n rfl rfl ?_
                refine v_imul (v := 4 * a1) rfl (by omega) ?_
                refine q_iload rfl rfl ?_
                refine v_iadd (v := 4 * a1 + 3) rfl (by omega) ?_
                refine q_dup2 rfl ⟨rfl, rfl⟩ ?_
                refine v_ia (v := c 59 (4 * a1 + 3)) rfl rfl (by decide) (by decide) (by omega) ((up_n (by omega)).trans ((up_n (by omega)).trans ((up_n (by omega)).trans ((up_n (by omega)).trans ((up_n (by omega)).trans (up_n (by omega))))))) ?_
                refine q_iload rfl rfl ?_
                refine v_isub (v := c 59 (4 * a1 + 1) + c 59 (4 * a1 + 2) + c 59 (4 * a1 + 3) + c 59 (4 * a1) - a3) rfl (by omega) ?_
                refine v_is rfl rfl (by decide) (by decide) (by omega) ?_
                refine q_aload_n rfl rfl ?_
                refine v_gr (t := 59) rfl rfl rfl (by decide) rfl ?_
                refine q_iconst rfl ?_
                refine q_iload_n rfl rfl ?_
                refine v_imul (v := 4 * a2) rfl (by omega) ?_
                refine q_iload rfl rfl ?_
                refine v_iadd (v := 4 * a2 + 3) rfl (by omega) ?_
                refine q_dup2 rfl ⟨rfl, rfl⟩ ?_
                refine v_ia (v := c 59 (4 * a2 + 3)) rfl rfl (by decide) (by decide) (by omega) ((up_n (by omega)).trans ((up_n (by omega)).trans ((up_n (by omega)).trans ((up_n (by omega)).trans ((up_n (by omega)).trans ((up_n (by omega)).trans (up_n (by omega)))))))) ?_
                refine q_iload rfl rfl ?_
                refine v_iadd (v := a3 + c 59 (4 * a2 + 3) - c 59 (4 * a1 + 1) - c 59 (4 * a1 + 2) - c 59 (4 * a1)) rfl (by omega) ?_
                refine v_is rfl rfl (by decide) (by decide) (by omega) ?_
                refine q_iload rfl rfl ?_
                refine q_iload rfl rfl ?_
                refine v_isub (v := 0) rfl (by decide) ?_
                refine q_istore rfl (by decide) ?_
                refine v_iinc (v := 4) rfl rfl (by decide) (by decide) ?_
                refine q_goto (t := 39) rfl (by decide) ?_
                refine q_iload rfl rfl ?_
                refine q_iconst rfl ?_
                refine v_ic_ge_t (t := 124) rfl (by decide) (by decide) ?_
                refine q_aload_n rfl rfl ?_
                refine q_iload_n rfl rfl ?_
                refine q_aload_n rfl rfl ?_
                refine v_gr (t := 59) rfl rfl rfl (by decide) rfl ?_
                refine v_bip rfl (by decide) ?_
                refine q_iload_n rfl rfl ?_
                refine v_iadd (v := a1 + 24) rfl (by omega) ?_
                have h_270 := ir_59 hI (a1 + 24)
                refine v_ia (v := c 59 (a1 + 24)) rfl rfl (by decide) (by decide) (by omega) ((up_n (by omega)).trans ((up_n (by omega)).trans ((up_n (by omega)).trans ((up_n (by omega)).trans ((up_n (by omega)).trans ((up_n (by omega)).trans ((up_n (by omega)).trans (up_n (by omega))))))))) ?_
                have hI_271 := iw_row (a := 59) (j := 4 * a1) (v := 0) hIo (by omega) (Or.inl rfl) ⟨by omega, by omega, by omega⟩
                have hI_272 := iw_row (a := 59) (j := 4 * a2) (v := c 59 (4 * a1) + c 59 (4 * a2)) hI_271 (by omega) (Or.inl rfl) ⟨by omega, by omega, by omega⟩
                have hI_273 := iw_row (a := 59) (j := 4 * a1 + 1) (v := 0) hI_272 (by omega) (Or.inl rfl) ⟨by omega, by omega, by omega⟩
                have hI_274 := iw_row (a := 59) (j := 4 * a2 + 1) (v := c 59 (4 * a1 + 1) + c 59 (4 * a2 + 1)) hI_273 (by omega) (Or.inl rfl) ⟨by omega, by omega, by omega⟩
                have hI_275 := iw_row (a := 59) (j := 4 * a1 + 2) (v := 0) hI_274 (by omega) (Or.inl rfl) ⟨by omega, by omega, by omega⟩
                have hI_276 := iw_row (a := 59) (j := 4 * a2 + 2) (v := c 59 (4 * a1 + 2) + c 59 (4 * a2 + 2)) hI_275 (by omega) (Or.inl rfl) ⟨by omega, by omega, by omega⟩
                have hI_277 := iw_row (a := 59) (j := 4 * a1 + 3) (v := c 59 (4 * a1 + 1) + c 59 (4 * a1 + 2) + c 59 (4 * a1 + 3) + c 59 (4 * a1) - a3) hI_276 (by omega) (Or.inl rfl) ⟨by omega, by omega, by omega⟩
                have hI_278 := iw_row (a := 59) (j := 4 * a2 + 3) (v := a3 + c 59 (4 * a2 + 3) - c 59 (4 * a1 + 1) - c 59 (4 * a1 + 2) - c 59 (4 * a1)) hI_277 (by omega) (Or.inl rfl) ⟨by omega, by omega, by omega⟩
                refine v_cv rfl rfl rfl rfl (by decide) ⟨⟨rfl, rfl⟩, by decide, rfl⟩ (Nat.le_of_ble_eq_true rfl) (Nat.le_of_ble_eq_true rfl) (s_191 (a1 := a2) (a2 := c 59 (a1 + 24)) hI_278 (show 0 ≤ a2 ∧ a2 ≤ 5 from by omega) (show (-2147483648) ≤ c 59 (a1 + 24) ∧ c 59 (a1 + 24) ≤ 2147483647 from by omega) (fun c_279 hI_280 hF_281 => ?_))
                refine bk_inl ?_
                refine q_aload_n rfl rfl ?_
                refine q_iload_n rfl rfl ?_
                refine v_cv rfl rfl rfl rfl (by decide) ⟨⟨rfl, rfl⟩, by decide, rfl⟩ (Nat.le_of_ble_eq_true rfl) (Nat.le_of_ble_eq_true rfl) (s_187 (v1 := 0) (v2 := 0) (v3 := 0) (v4 := c 59 (4 * a1 + 1) + c 59 (4 * a1 + 2) + c 59 (4 * a1 + 3) + c 59 (4 * a1) - a3) (r := c 59 (4 * a1 + 1) + c 59 (4 * a1 + 2) + c 59 (4 * a1 + 3) + c 59 (4 * a1) - a3) (a1 := a1) hI_280 (show 0 ≤ a1 ∧ a1 ≤ 5 from by omega) (((hF_281 59 (4 * a1) (by omega)).trans ((up_n (by omega)).trans ((up_n (by omega)).trans ((up_n (by omega)).trans ((up_n (by omega)).trans ((up_n (by omega)).trans ((up_n (by omega)).trans ((up_n (by omega)).trans (up_e rfl)))))))))) (((hF_281 59 (4 * a1 + 1) (by omega)).trans ((up_n (by omega)).trans ((up_n (by omega)).trans ((up_n (by omega)).trans ((up_n (by omega)).trans ((up_n (by omega)).trans (up_e rfl)))))))) (((hF_281 59 (4 * a1 + 2) (by omega)).trans ((up_n (by omega)).trans ((up_n (by omega)).trans ((up_n (by omega)).trans (up_e rfl)))))) (((hF_281 59 (4 * a1 + 3) (by omega)).trans ((up_n (by omega)).trans (up_e rfl)))) (by omega) ?_)
                refine bk_inl ?_
                by_cases h_282 : c 59 (4 * a1 + 1) + c 59 (4 * a1 + 2) + c 59 (4 * a1 + 3) + c 59 (4 * a1) - a3 ≠ 0
                · refine v_if_ne_t (t := 151) rfl (by decide) (by omega) ?_
                  refine q_iconst rfl ?_
                  refine v_zret rfl rfl (by omega) ?_
                  have hr_283 : ∀ j : Int, rs 59 j → c_279 59 j + c_279 59 (j + 1) + c_279 59 (j + 2) + c_279 59 (j + 3) ≤ 9999 := by
                    intro j9 hj9
                    obtain ⟨k9, rfl, hk9⟩ := rs_59 hj9
                    by_cases e_284 : k9 = a1
                    · skip
                      have h_285 : c_279 59 (4 * k9) = 0 := (congrArg (c_279 59) (show 4 * k9 = 4 * a1 from by omega)).trans ((hF_281 59 (4 * a1) (by omega)).trans ((up_n (by omega)).trans ((up_n (by omega)).trans ((up_n (by omega)).trans ((up_n (by omega)).trans ((up_n (by omega)).trans ((up_n (by omega)).trans ((up_n (by omega)).trans (up_e rfl)))))))))
                      have h_286 : c_279 59 (4 * k9 + 1) = 0 := (congrArg (c_279 59) (show 4 * k9 + 1 = 4 * a1 + 1 from by omega)).trans ((hF_281 59 (4 * a1 + 1) (by omega)).trans ((up_n (by omega)).trans ((up_n (by omega)).trans ((up_n (by omega)).trans ((up_n (by omega)).trans ((up_n (by omega)).trans (up_e rfl)))))))
                      have h_287 : c_279 59 (4 * k9 + 2) = 0 := (congrArg (c_279 59) (show 4 * k9 + 2 = 4 * a1 + 2 from by omega)).trans ((hF_281 59 (4 * a1 + 2) (by omega)).trans ((up_n (by omega)).trans ((up_n (by omega)).trans ((up_n (by omega)).trans (up_e rfl)))))
                      have h_288 : c_279 59 (4 * k9 + 3) = c 59 (4 * a1 + 1) + c 59 (4 * a1 + 2) + c 59 (4 * a1 + 3) + c 59 (4 * a1) - a3 := (congrArg (c_279 59) (show 4 * k9 + 3 = 4 * a1 + 3 from by omega)).trans ((hF_281 59 (4 * a1 + 3) (by omega)).trans ((up_n (by omega)).trans (up_e rfl)))
                      omega
                    by_cases e_289 : k9 = a2
                    · skip
                      have h_290 : c_279 59 (4 * k9) = c 59 (4 * a1) + c 59 (4 * a2) := (congrArg (c_279 59) (show 4 * k9 = 4 * a2 from by omega)).trans ((hF_281 59 (4 * a2) (by omega)).trans ((up_n (by omega)).trans ((up_n (by omega)).trans ((up_n (by omega)).trans ((up_n (by omega)).trans ((up_n (by omega)).trans ((up_n (by omega)).trans (up_e rfl))))))))
                      have h_291 : c_279 59 (4 * k9 + 1) = c 59 (4 * a1 + 1) + c 59 (4 * a2 + 1) := (congrArg (c_279 59) (show 4 * k9 + 1 = 4 * a2 + 1 from by omega)).trans ((hF_281 59 (4 * a2 + 1) (by omega)).trans ((up_n (by omega)).trans ((up_n (by omega)).trans ((up_n (by omega)).trans ((up_n (by omega)).trans (up_e rfl))))))
                      have h_292 : c_279 59 (4 * k9 + 2) = c 59 (4 * a1 + 2) + c 59 (4 * a2 + 2) := (congrArg (c_279 59) (show 4 * k9 + 2 = 4 * a2 + 2 from by omega)).trans ((hF_281 59 (4 * a2 + 2) (by omega)).trans ((up_n (by omega)).trans ((up_n (by omega)).trans (up_e rfl))))
                      have h_293 : c_279 59 (4 * k9 + 3) = a3 + c 59 (4 * a2 + 3) - c 59 (4 * a1 + 1) - c 59 (4 * a1 + 2) - c 59 (4 * a1) := (congrArg (c_279 59) (show 4 * k9 + 3 = 4 * a2 + 3 from by omega)).trans ((hF_281 59 (4 * a2 + 3) (by omega)).trans (up_e rfl))
                      omega
                    have h_294 := iv_r hI 59 (4 * k9) hj9 (by omega)
                    have h_295 := ir_59_g hI (j := 4 * k9) (by omega)
                    have h_296 : c_279 59 (4 * k9) = c 59 (4 * k9) := ((hF_281 59 (4 * k9) (by omega)).trans ((up_n (by omega)).trans ((up_n (by omega)).trans ((up_n (by omega)).trans ((up_n (by omega)).trans ((up_n (by omega)).trans ((up_n (by omega)).trans ((up_n (by omega)).trans (up_n (by omega))))))))))
                    have h_297 := ir_59_g hI (j := 4 * k9 + 1) (by omega)
                    have h_298 : c_279 59 (4 * k9 + 1) = c 59 (4 * k9 + 1) := ((hF_281 59 (4 * k9 + 1) (by omega)).trans ((up_n (by omega)).trans ((up_n (by omega)).trans ((up_n (by omega)).trans ((up_n (by omega)).trans ((up_n (by omega)).trans ((up_n (by omega)).trans ((up_n (by omega)).trans (up_n (by omega))))))))))
                    have h_299 := ir_59_g hI (j := 4 * k9 + 2) (by omega)
                    have h_300 : c_279 59 (4 * k9 + 2) = c 59 (4 * k9 + 2) := ((hF_281 59 (4 * k9 + 2) (by omega)).trans ((up_n (by omega)).trans ((up_n (by omega)).trans ((up_n (by omega)).trans ((up_n (by omega)).trans ((up_n (by omega)).trans ((up_n (by omega)).trans ((up_n (by omega)).trans (up_n (by omega))))))))))
                    have h_301 := ir_59_g hI (j := 4 * k9 + 3) (by omega)
                    have h_302 : c_279 59 (4 * k9 + 3) = c 59 (4 * k9 + 3) := ((hF_281 59 (4 * k9 + 3) (by omega)).trans ((up_n (by omega)).trans ((up_n (by omega)).trans ((up_n (by omega)).trans ((up_n (by omega)).trans ((up_n (by omega)).trans ((up_n (by omega)).trans ((up_n (by omega)).trans (up_n (by omega))))))))))
                    omega
                  have hI_303 := iv_close hI_280 hr_283
                  exact K c_279 1 hI_303 (fun a j hm => (hF_281 a j (by omega)).trans ((up_b (by omega)).trans ((up_b (by omega)).trans ((up_b (by omega)).trans ((up_b (by omega)).trans ((up_b (by omega)).trans ((up_b (by omega)).trans ((up_b (by omega)).trans (up_b (by omega)))))))))) ⟨by decide, by decide⟩
                · refine v_if_ne_f (t := 151) rfl (by decide) (by omega) ?_
                  refine q_aload_n rfl rfl ?_
                  refine q_iload_n rfl rfl ?_
                  refine v_cv rfl rfl rfl rfl (by decide) ⟨⟨rfl, rfl⟩, by decide, rfl⟩ (Nat.le_of_ble_eq_true rfl) (Nat.le_of_ble_eq_true rfl) (s_192 (a1 := a1) hI_280 (show 0 ≤ a1 ∧ a1 ≤ 5 from by omega) (fun c_304 hI_305 hF_306 h_307 => ?_))
                  refine bk_inl ?_
                  have h_308 := ir_59_g hI_305 (j := 4 * a1 + 1) (by omega)
                  have h_309 := ir_59_g hI_305 (j := 4 * a1 + 2) (by omega)
                  have h_310 := ir_59_g hI_305 (j := 4 * a1 + 3) (by omega)
                  have h_311 := ir_59_g hI_305 (j := 4 * a1) (by omega)
                  refine q_iconst rfl ?_
                  refine v_zret rfl rfl (by omega) ?_
                  have hr_312 : ∀ j : Int, rs 59 j → c_304 59 j + c_304 59 (j + 1) + c_304 59 (j + 2) + c_304 59 (j + 3) ≤ 9999 := by
                    intro j9 hj9
                    obtain ⟨k9, rfl, hk9⟩ := rs_59 hj9
                    by_cases e_313 : k9 = a1
                    · skip
                      have h_314 : c_304 59 (4 * k9) = c_304 59 (4 * a1) := (congrArg (c_304 59) (show 4 * k9 = 4 * a1 from by omega))
                      have h_315 : c_304 59 (4 * k9 + 1) = c_304 59 (4 * a1 + 1) := (congrArg (c_304 59) (show 4 * k9 + 1 = 4 * a1 + 1 from by omega))
                      have h_316 : c_304 59 (4 * k9 + 2) = c_304 59 (4 * a1 + 2) := (congrArg (c_304 59) (show 4 * k9 + 2 = 4 * a1 + 2 from by omega))
                      have h_317 : c_304 59 (4 * k9 + 3) = c_304 59 (4 * a1 + 3) := (congrArg (c_304 59) (show 4 * k9 + 3 = 4 * a1 + 3 from by omega))
                      omega
                    by_cases e_318 : k9 = a2
                    · skip
                      have h_319 : c_304 59 (4 * k9) = c 59 (4 * a1) + c 59 (4 * a2) := (congrArg (c_304 59) (show 4 * k9 = 4 * a2 from by omega)).trans ((hF_306 59 (4 * a2) (by omega)).trans ((hF_281 59 (4 * a2) (by omega)).trans ((up_n (by omega)).trans ((up_n (by omega)).trans ((up_n (by omega)).trans ((up_n (by omega)).trans ((up_n (by omega)).trans ((up_n (by omega)).trans (up_e rfl)))))))))
                      have h_320 : c_304 59 (4 * k9 + 1) = c 59 (4 * a1 + 1) + c 59 (4 * a2 + 1) := (congrArg (c_304 59) (show 4 * k9 + 1 = 4 * a2 + 1 from by omega)).trans ((hF_306 59 (4 * a2 + 1) (by omega)).trans ((hF_281 59 (4 * a2 + 1) (by omega)).trans ((up_n (by omega)).trans ((up_n (by omega)).trans ((up_n (by omega)).trans ((up_n (by omega)).trans (up_e rfl)))))))
                      have h_321 : c_304 59 (4 * k9 + 2) = c 59 (4 * a1 + 2) + c 59 (4 * a2 + 2) := (congrArg (c_304 59) (show 4 * k9 + 2 = 4 * a2 + 2 from by omega)).trans ((hF_306 59 (4 * a2 + 2) (by omega)).trans ((hF_281 59 (4 * a2 + 2) (by omega)).trans ((up_n (by omega)).trans ((up_n (by omega)).trans (up_e rfl)))))
                      have h_322 : c_304 59 (4 * k9 + 3) = a3 + c 59 (4 * a2 + 3) - c 59 (4 * a1 + 1) - c 59 (4 * a1 + 2) - c 59 (4 * a1) := (congrArg (c_304 59) (show 4 * k9 + 3 = 4 * a2 + 3 from by omega)).trans ((hF_306 59 (4 * a2 + 3) (by omega)).trans ((hF_281 59 (4 * a2 + 3) (by omega)).trans (up_e rfl)))
                      omega
                    have h_323 := iv_r hI 59 (4 * k9) hj9 (by omega)
                    have h_324 := ir_59_g hI (j := 4 * k9) (by omega)
                    have h_325 : c_304 59 (4 * k9) = c 59 (4 * k9) := ((hF_306 59 (4 * k9) (by omega)).trans ((hF_281 59 (4 * k9) (by omega)).trans ((up_n (by omega)).trans ((up_n (by omega)).trans ((up_n (by omega)).trans ((up_n (by omega)).trans ((up_n (by omega)).trans ((up_n (by omega)).trans ((up_n (by omega)).trans (up_n (by omega)))))))))))
                    have h_326 := ir_59_g hI (j := 4 * k9 + 1) (by omega)
                    have h_327 : c_304 59 (4 * k9 + 1) = c 59 (4 * k9 + 1) := ((hF_306 59 (4 * k9 + 1) (by omega)).trans ((hF_281 59 (4 * k9 + 1) (by omega)).trans ((up_n (by omega)).trans ((up_n (by omega)).trans ((up_n (by omega)).trans ((up_n (by omega)).trans ((up_n (by omega)).trans ((up_n (by omega)).trans ((up_n (by omega)).trans (up_n (by omega)))))))))))
                    have h_328 := ir_59_g hI (j := 4 * k9 + 2) (by omega)
                    have h_329 : c_304 59 (4 * k9 + 2) = c 59 (4 * k9 + 2) := ((hF_306 59 (4 * k9 + 2) (by omega)).trans ((hF_281 59 (4 * k9 + 2) (by omega)).trans ((up_n (by omega)).trans ((up_n (by omega)).trans ((up_n (by omega)).trans ((up_n (by omega)).trans ((up_n (by omega)).trans ((up_n (by omega)).trans ((up_n (by omega)).trans (up_n (by omega)))))))))))
                    have h_330 := ir_59_g hI (j := 4 * k9 + 3) (by omega)
                    have h_331 : c_304 59 (4 * k9 + 3) = c 59 (4 * k9 + 3) := ((hF_306 59 (4 * k9 + 3) (by omega)).trans ((hF_281 59 (4 * k9 + 3) (by omega)).trans ((up_n (by omega)).trans ((up_n (by omega)).trans ((up_n (by omega)).trans ((up_n (by omega)).trans ((up_n (by omega)).trans ((up_n (by omega)).trans ((up_n (by omega)).trans (up_n (by omega)))))))))))
                    omega
                  have hI_332 := iv_close hI_305 hr_312
                  exact K c_304 1 hI_332 (fun a j hm => (hF_306 a j (by omega)).trans ((hF_281 a j (by omega)).trans ((up_b (by omega)).trans ((up_b (by omega)).trans ((up_b (by omega)).trans ((up_b (by omega)).trans ((up_b (by omega)).trans ((up_b (by omega)).trans ((up_b (by omega)).trans (up_b (by omega))))))))))) ⟨by decide, by decide⟩
        · refine v_ic_le_f (t := 33) rfl (by decide) (by omega) ?_
          refine q_iconst rfl ?_
          refine v_zret rfl rfl (by omega) ?_
          have hr_333 : ∀ j : Int, rs 59 j → c 59 j + c 59 (j + 1) + c 59 (j + 2) + c 59 (j + 3) ≤ 9999 := by
            intro j9 hj9
            obtain ⟨k9, rfl, hk9⟩ := rs_59 hj9
            by_cases e_334 : k9 = a1
            · skip
              have h_335 : c 59 (4 * k9) = c 59 (4 * a1) := (congrArg (c 59) (show 4 * k9 = 4 * a1 from by omega))
              have h_336 : c 59 (4 * k9 + 1) = c 59 (4 * a1 + 1) := (congrArg (c 59) (show 4 * k9 + 1 = 4 * a1 + 1 from by omega))
              have h_337 : c 59 (4 * k9 + 2) = c 59 (4 * a1 + 2) := (congrArg (c 59) (show 4 * k9 + 2 = 4 * a1 + 2 from by omega))
              have h_338 : c 59 (4 * k9 + 3) = c 59 (4 * a1 + 3) := (congrArg (c 59) (show 4 * k9 + 3 = 4 * a1 + 3 from by omega))
              omega
            by_cases e_339 : k9 = a2
            · skip
              have h_340 : c 59 (4 * k9) = c 59 (4 * a2) := (congrArg (c 59) (show 4 * k9 = 4 * a2 from by omega))
              have h_341 : c 59 (4 * k9 + 1) = c 59 (4 * a2 + 1) := (congrArg (c 59) (show 4 * k9 + 1 = 4 * a2 + 1 from by omega))
              have h_342 : c 59 (4 * k9 + 2) = c 59 (4 * a2 + 2) := (congrArg (c 59) (show 4 * k9 + 2 = 4 * a2 + 2 from by omega))
              have h_343 : c 59 (4 * k9 + 3) = c 59 (4 * a2 + 3) := (congrArg (c 59) (show 4 * k9 + 3 = 4 * a2 + 3 from by omega))
              omega
            have h_344 := iv_r hI 59 (4 * k9) hj9 (by omega)
            have h_345 := ir_59_g hI (j := 4 * k9) (by omega)
            have h_346 : c 59 (4 * k9) = c 59 (4 * k9) := rfl
            have h_347 := ir_59_g hI (j := 4 * k9 + 1) (by omega)
            have h_348 : c 59 (4 * k9 + 1) = c 59 (4 * k9 + 1) := rfl
            have h_349 := ir_59_g hI (j := 4 * k9 + 2) (by omega)
            have h_350 : c 59 (4 * k9 + 2) = c 59 (4 * k9 + 2) := rfl
            have h_351 := ir_59_g hI (j := 4 * k9 + 3) (by omega)
            have h_352 : c 59 (4 * k9 + 3) = c 59 (4 * k9 + 3) := rfl
            omega
          have hI_353 := iv_close hIo hr_333
          exact K c 0 hI_353 (fun a j hm => rfl) ⟨by decide, by decide⟩

set_option maxRecDepth 100000 in
set_option maxHeartbeats 4000000 in
theorem s_195 {sc : List Int32} {e : Int} {d u P Q : Nat} {c : ME} {a1 : Int} {a2 : Int} {a3 : Int} {a4 : Int} {a5 : Int} {a6 : Int} {a7 : Int} {Z : AR → Prop} (hI : Iv u e P Q c) (ha1 : 0 ≤ a1 ∧ a1 ≤ 9999) (ha2 : 0 ≤ a2 ∧ a2 ≤ 9999) (ha3 : 0 ≤ a3 ∧ a3 ≤ 9999) (ha4 : 0 ≤ a4 ∧ a4 ≤ 9999) (ha5 : (-2147483648) ≤ a5 ∧ a5 ≤ 2147483647) (ha6 : (-2147483648) ≤ a6 ∧ a6 ≤ 2147483647) (ha7 : (-2147483648) ≤ a7 ∧ a7 ≤ 2147483647) (K : ∀ (c2 : ME) (y : Int), Iv u e P Q c2 → (∀ (a : Nat) (j : Int), ¬ (a = 54 ∨ a = 55) → c2 a j = c a j) → 0 ≤ y ∧ y ≤ 99 → Z (.inl (some (vi y)), Wd P Q P P c2, 0, 0)) : Wp sc (d + 10) 195 0 [(0, .ref 41), (1, vi a1), (2, vi a2), (3, vi a3), (4, vi a4), (5, vi a5), (6, vi a6), (7, vi a7)] [] (Wd P Q P P c) 0 0 Z := by
  have hP := iv_P hI
  have hQ := iv_Q hI
  refine q_aload_n rfl rfl ?_
  refine v_gr (t := 55) rfl rfl rfl (by decide) rfl ?_
  refine q_iconst rfl ?_
  refine q_iload_n rfl rfl ?_
  refine v_is rfl rfl (by decide) (by decide) (by decide) ?_
  refine q_aload_n rfl rfl ?_
  refine v_gr (t := 55) rfl rfl rfl (by decide) rfl ?_
  refine q_iconst rfl ?_
  refine q_iload_n rfl rfl ?_
  refine v_is rfl rfl (by decide) (by decide) (by decide) ?_
  refine q_aload_n rfl rfl ?_
  refine v_gr (t := 55) rfl rfl rfl (by decide) rfl ?_
  refine q_iconst rfl ?_
  refine q_iload_n rfl rfl ?_
  refine v_is rfl rfl (by decide) (by decide) (by decide) ?_
  refine q_aload_n rfl rfl ?_
  refine v_gr (t := 55) rfl rfl rfl (by decide) rfl ?_
  refine q_iconst rfl ?_
  refine q_iload rfl rfl ?_
  refine v_is rfl rfl (by decide) (by decide) (by decide) ?_
  refine q_aload_n rfl rfl ?_
  refine v_gr (t := 55) rfl rfl rfl (by decide) rfl ?_
  refine q_iconst rfl ?_
  refine q_iload_n rfl rfl ?_
  refine q_iload_n rfl rfl ?_
  refine v_iadd (v := a1 + a2) rfl (by omega) ?_
  refine q_iload_n rfl rfl ?_
  refine v_iadd (v := a1 + a2 + a3) rfl (by omega) ?_
  refine q_iload rfl rfl ?_
  refine v_iadd (v := a1 + a2 + a3 + a4) rfl (by omega) ?_
  refine v_is rfl rfl (by decide) (by decide) (by decide) ?_
  refine q_aload_n rfl rfl ?_
  refine v_gr (t := 55) rfl rfl rfl (by decide) rfl ?_
  refine q_iconst rfl ?_
  refine q_iload rfl rfl ?_
  refine v_is rfl rfl (by decide) (by decide) (by decide) ?_
  refine q_aload_n rfl rfl ?_
  refine v_gr (t := 55) rfl rfl rfl (by decide) rfl ?_
  refine v_bip rfl (by decide) ?_
  refine q_iload rfl rfl ?_
  refine v_is rfl rfl (by decide) (by decide) (by decide) ?_
  refine q_aload_n rfl rfl ?_
  refine v_gr (t := 55) rfl rfl rfl (by decide) rfl ?_
  refine v_bip rfl (by decide) ?_
  refine q_iload rfl rfl ?_
  refine v_is rfl rfl (by decide) (by decide) (by decide) ?_
  refine q_aload_n rfl rfl ?_
  have hI_1 := iw_55 (j := 0) (v := a1) hI ⟨by omega, by omega⟩
  have hI_2 := iw_55 (j := 1) (v := a2) hI_1 ⟨by omega, by omega⟩
  have hI_3 := iw_55 (j := 2) (v := a3) hI_2 ⟨by omega, by omega⟩
  have hI_4 := iw_55 (j := 3) (v := a4) hI_3 ⟨by omega, by omega⟩
  have hI_5 := iw_55 (j := 4) (v := a1 + a2 + a3 + a4) hI_4 ⟨by omega, by omega⟩
  have hI_6 := iw_55 (j := 5) (v := a5) hI_5 ⟨by omega, by omega⟩
  have hI_7 := iw_55 (j := 6) (v := a6) hI_6 ⟨by omega, by omega⟩
  have hI_8 := iw_55 (j := 7) (v := a7) hI_7 ⟨by omega, by omega⟩
  have h_9 : (up (up (up (up (up (up (up (up c 55 0 a1) 55 1 a2) 55 2 a3) 55 3 a4) 55 4 (a1 + a2 + a3 + a4)) 55 5 a5) 55 6 a6) 55 7 a7) 55 4 = a1 + a2 + a3 + a4 := ((up_n (by decide)).trans ((up_n (by decide)).trans ((up_n (by decide)).trans (up_e rfl))))
  have h_10 : (up (up (up (up (up (up (up (up c 55 0 a1) 55 1 a2) 55 2 a3) 55 3 a4) 55 4 (a1 + a2 + a3 + a4)) 55 5 a5) 55 6 a6) 55 7 a7) 55 0 = a1 := ((up_n (by decide)).trans ((up_n (by decide)).trans ((up_n (by decide)).trans ((up_n (by decide)).trans ((up_n (by decide)).trans ((up_n (by decide)).trans ((up_n (by decide)).trans (up_e rfl))))))))
  refine v_cv rfl rfl rfl rfl (by decide) ⟨⟨rfl, rfl⟩, by decide, rfl⟩ (Nat.le_of_ble_eq_true rfl) (Nat.le_of_ble_eq_true rfl) (s_180 hI_8 (by omega) (by omega) (fun c_11 y_14 hI_12 hF_13 hy_14 => ?_))
  refine bk_inl ?_
  refine q_iret rfl rfl ?_
  exact K c_11 y_14 hI_12 (fun a j hm => (hF_13 a j (by omega)).trans ((up_b (by omega)).trans ((up_b (by omega)).trans ((up_b (by omega)).trans ((up_b (by omega)).trans ((up_b (by omega)).trans ((up_b (by omega)).trans ((up_b (by omega)).trans (up_b (by omega)))))))))) ⟨by omega, by omega⟩

