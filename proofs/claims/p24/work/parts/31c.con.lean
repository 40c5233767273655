/-! ===== contracts 3 ===== -/
set_option maxRecDepth 100000 in
set_option maxHeartbeats 4000000 in
theorem s_44 {sc : List Int32} {d P Q sh s : Nat} {c : ME} {a1 : Int} {a2 : Int} {Z : AR → Prop} (hI : Iv 0 (-1) P Q c) (hs : (sh = 37 ∧ s = 38) ∨ (sh = 39 ∧ s = 40)) (ha1 : 0 ≤ a1 ∧ a1 ≤ 3) (ha2 : 0 ≤ a2 ∧ a2 ≤ 5) (K : ∀ (c2 : ME) (y : Int), Iv 0 (-1) P Q c2 → (∀ (a : Nat) (j : Int), ¬ (a = s) → c2 a j = c a j) → 0 ≤ y ∧ y ≤ 1 → Z (.inl (some (vi y)), Wd P Q P P c2, 0, 0)) : Wp sc (d + 8) 44 0 [(0, .ref sh), (1, vi a1), (2, vi a2)] [] (Wd P Q P P c) 0 0 Z := by
  have hP := iv_P hI
  have hQ := iv_Q hI
  have hIo : Iv s (-1) P Q c := iv_open hI
  have hsum_1 := ir_s_r hI hs (by omega) (j := a2) (by omega)
  have h_2 := ir_s_g hI hs (j := 4 * a2) (by omega)
  have h_3 := ir_s_g hI hs (j := 4 * a2 + 1) (by omega)
  have h_4 := ir_s_g hI hs (j := 4 * a2 + 2) (by omega)
  have h_5 := ir_s_g hI hs (j := 4 * a2 + 3) (by omega)
  refine q_aload_n rfl rfl ?_
  refine q_iload_n rfl rfl ?_
  refine v_cv rfl rfl rfl (ck_sh hs) (by omega) ⟨⟨rfl, rfl⟩, by decide, rfl⟩ (Nat.le_of_ble_eq_true rfl) (Nat.le_of_ble_eq_true rfl) (s_43 (v1 := c s (4 * a2)) (v2 := c s (4 * a2 + 1)) (v3 := c s (4 * a2 + 2)) (v4 := c s (4 * a2 + 3)) (r := c s (4 * a2 + 1) + c s (4 * a2 + 2) + c s (4 * a2 + 3) + c s (4 * a2)) (a1 := a2) hIo hs (show 0 ≤ a2 ∧ a2 ≤ 5 from by omega) (rfl) (rfl) (rfl) (rfl) (by omega) ?_)
  refine bk_inl ?_
  by_cases h_6 : c s (4 * a2 + 1) + c s (4 * a2 + 2) + c s (4 * a2 + 3) + c s (4 * a2) ≠ 0
  · refine v_if_ne_t (t := 10) rfl (by decide) (by omega) ?_
    refine q_iload_n rfl rfl ?_
    refine q_iconst rfl ?_
    refine v_imul (v := 4 * a2) rfl (by omega) ?_
    refine q_istore_n rfl (by decide) ?_
    refine q_aload_n rfl rfl ?_
    refine v_gr (t := s) rfl rfl (ck_sh hs) (by omega) rfl ?_
    refine q_iload_n rfl rfl ?_
    refine q_iconst rfl ?_
    refine v_iadd (v := 4 * a2 + 1) rfl (by omega) ?_
    refine v_ia (v := c s (4 * a2 + 1)) rfl (ck_s hs) (by omega) (by decide) (by omega) rfl ?_
    refine q_aload_n rfl rfl ?_
    refine v_gr (t := P) rfl rfl (ck_sh hs) (by omega) rfl ?_
    refine q_iload_n rfl rfl ?_
    refine q_iconst rfl ?_
    refine v_cv rfl rfl rfl (ck_p0 hP) (by omega) ⟨⟨rfl, rfl⟩, by decide, rfl⟩ (Nat.le_of_ble_eq_true rfl) (Nat.le_of_ble_eq_true rfl) (s_29 (a1 := a1) (a2 := 0) hIo hP (show 0 ≤ a1 ∧ a1 ≤ 3 from by omega) (show 0 ≤ 0 ∧ 0 ≤ 2 from by omega) (fun y_7 hy_7 => ?_))
    refine bk_inl ?_
    have h_8 : 0 ≤ (c s (4 * a2 + 1)) * y_7 ∧ (c s (4 * a2 + 1)) * y_7 ≤ 10 * (c s (4 * a2 + 1)) := mul_bd (by omega) (by omega) (by omega)
    have h_9 : 0 ≤ (c s (4 * a2 + 1)) * y_7 ∧ (c s (4 * a2 + 1)) * y_7 ≤ 9999 * y_7 := mul_bd2 (by omega) (by omega) (by omega)
    refine v_imul (v := ((c s (4 * a2 + 1)) * y_7)) rfl rfl ?_
    refine v_bip rfl (by decide) ?_
    refine v_idiv (v := (((c s (4 * a2 + 1)) * y_7) / 10)) rfl (by omega) rfl ?_
    refine q_istore rfl (by decide) ?_
    refine q_aload_n rfl rfl ?_
    refine v_gr (t := s) rfl rfl (ck_sh hs) (by omega) rfl ?_
    refine q_iload_n rfl rfl ?_
    refine q_iconst rfl ?_
    refine v_iadd (v := 4 * a2 + 2) rfl (by omega) ?_
    refine v_ia (v := c s (4 * a2 + 2)) rfl (ck_s hs) (by omega) (by decide) (by omega) rfl ?_
    refine q_aload_n rfl rfl ?_
    refine v_gr (t := P) rfl rfl (ck_sh hs) (by omega) rfl ?_
    refine q_iload_n rfl rfl ?_
    refine q_iconst rfl ?_
    refine v_cv rfl rfl rfl (ck_p0 hP) (by omega) ⟨⟨rfl, rfl⟩, by decide, rfl⟩ (Nat.le_of_ble_eq_true rfl) (Nat.le_of_ble_eq_true rfl) (s_29 (a1 := a1) (a2 := 1) hIo hP (show 0 ≤ a1 ∧ a1 ≤ 3 from by omega) (show 0 ≤ 1 ∧ 1 ≤ 2 from by omega) (fun y_10 hy_10 => ?_))
    refine bk_inl ?_
    have h_11 : 0 ≤ (c s (4 * a2 + 2)) * y_10 ∧ (c s (4 * a2 + 2)) * y_10 ≤ 10 * (c s (4 * a2 + 2)) := mul_bd (by omega) (by omega) (by omega)
    have h_12 : 0 ≤ (c s (4 * a2 + 2)) * y_10 ∧ (c s (4 * a2 + 2)) * y_10 ≤ 9999 * y_10 := mul_bd2 (by omega) (by omega) (by omega)
    refine v_imul (v := ((c s (4 * a2 + 2)) * y_10)) rfl rfl ?_
    refine v_bip rfl (by decide) ?_
    refine v_idiv (v := (((c s (4 * a2 + 2)) * y_10) / 10)) rfl (by omega) rfl ?_
    refine q_istore rfl (by decide) ?_
    refine q_aload_n rfl rfl ?_
    refine v_gr (t := s) rfl rfl (ck_sh hs) (by omega) rfl ?_
    refine q_iload_n rfl rfl ?_
    refine q_iconst rfl ?_
    refine v_iadd (v := 4 * a2 + 3) rfl (by omega) ?_
    refine v_ia (v := c s (4 * a2 + 3)) rfl (ck_s hs) (by omega) (by decide) (by omega) rfl ?_
    refine q_aload_n rfl rfl ?_
    refine v_gr (t := P) rfl rfl (ck_sh hs) (by omega) rfl ?_
    refine q_iload_n rfl rfl ?_
    refine q_iconst rfl ?_
    refine v_cv rfl rfl rfl (ck_p0 hP) (by omega) ⟨⟨rfl, rfl⟩, by decide, rfl⟩ (Nat.le_of_ble_eq_true rfl) (Nat.le_of_ble_eq_true rfl) (s_29 (a1 := a1) (a2 := 2) hIo hP (show 0 ≤ a1 ∧ a1 ≤ 3 from by omega) (show 0 ≤ 2 ∧ 2 ≤ 2 from by omega) (fun y_13 hy_13 => ?_))
    refine bk_inl ?_
    have h_14 : 0 ≤ (c s (4 * a2 + 3)) * y_13 ∧ (c s (4 * a2 + 3)) * y_13 ≤ 10 * (c s (4 * a2 + 3)) := mul_bd (by omega) (by omega) (by omega)
    have h_15 : 0 ≤ (c s (4 * a2 + 3)) * y_13 ∧ (c s (4 * a2 + 3)) * y_13 ≤ 9999 * y_13 := mul_bd2 (by omega) (by omega) (by omega)
    refine v_imul (v := ((c s (4 * a2 + 3)) * y_13)) rfl rfl ?_
    refine v_bip rfl (by decide) ?_
    refine v_idiv (v := (((c s (4 * a2 + 3)) * y_13) / 10)) rfl (by omega) rfl ?_
    refine q_istore rfl (by decide) ?_
    refine q_aload_n rfl rfl ?_
    refine v_gr (t := s) rfl rfl (ck_sh hs) (by omega) rfl ?_
    refine q_iload_n rfl rfl ?_
    refine q_dup2 rfl ⟨rfl, rfl⟩ ?_
    refine v_ia (v := c s (4 * a2)) rfl (ck_s hs) (by omega) (by decide) (by omega) rfl ?_
    refine q_iload rfl rfl ?_
    refine v_iadd (v := (((c s (4 * a2 + 1)) * y_7) / 10) + c s (4 * a2)) rfl (by omega) ?_
    refine v_is rfl (ck_s hs) (by omega) (by decide) (by omega) ?_
    refine q_aload_n rfl rfl ?_
    refine v_gr (t := s) rfl rfl (ck_sh hs) (by omega) rfl ?_
    refine q_iload_n rfl rfl ?_
    refine q_iconst rfl ?_
    refine v_iadd (v := 4 * a2 + 1) rfl (by omega) ?_
    refine q_dup2 rfl ⟨rfl, rfl⟩ ?_
    refine v_ia (v := c s (4 * a2 + 1)) rfl (ck_s hs) (by omega) (by decide) (by omega) (up_n (by omega)) ?_
    refine q_iload rfl rfl ?_
    refine q_iload rfl rfl ?_
    refine v_isub (v := (((c s (4 * a2 + 2)) * y_10) / 10) - (((c s (4 * a2 + 1)) * y_7) / 10)) rfl (by omega) ?_
    refine v_iadd (v := (((c s (4 * a2 + 2)) * y_10) / 10) + c s (4 * a2 + 1) - (((c s (4 * a2 + 1)) * y_7) / 10)) rfl (by omega) ?_
    refine v_is rfl (ck_s hs) (by omega) (by decide) (by omega) ?_
    refine q_aload_n rfl rfl ?_
    refine v_gr (t := s) rfl rfl (ck_sh hs) (by omega) rfl ?_
    refine q_iload_n rfl rfl ?_
    refine q_iconst rfl ?_
    refine v_iadd (v := 4 * a2 + 2) rfl (by omega) ?_
    refine q_dup2 rfl ⟨rfl, rfl⟩ ?_
    refine v_ia (v := c s (4 * a2 + 2)) rfl (ck_s hs) (by omega) (by decide) (by omega) ((up_n (by omega)).trans (up_n (by omega))) ?_
    refine q_iload rfl rfl ?_
    refine q_iload rfl rfl ?_
    refine v_isub (v := (((c s (4 * a2 + 3)) * y_13) / 10) - (((c s (4 * a2 + 2)) * y_10) / 10)) rfl (by omega) ?_
    refine v_iadd (v := (((c s (4 * a2 + 3)) * y_13) / 10) + c s (4 * a2 + 2) - (((c s (4 * a2 + 2)) * y_10) / 10)) rfl (by omega) ?_
    refine v_is rfl (ck_s hs) (by omega) (by decide) (by omega) ?_
    refine q_aload_n rfl rfl ?_
    refine v_gr (t := s) rfl rfl (ck_sh hs) (by omega) rfl ?_
    refine q_iload_n rfl rfl ?_
    refine q_iconst rfl ?_
    refine v_iadd (v := 4 * a2 + 3) rfl (by omega) ?_
    refine q_dup2 rfl ⟨rfl, rfl⟩ ?_
    refine v_ia (v := c s (4 * a2 + 3)) rfl (ck_s hs) (by omega) (by decide) (by omega) ((up_n (by omega)).trans ((up_n (by omega)).trans (up_n (by omega)))) ?_
    refine q_iload rfl rfl ?_
    refine v_isub (v := c s (4 * a2 + 3) - (((c s (4 * a2 + 3)) * y_13) / 10)) rfl (by omega) ?_
    refine v_is rfl (ck_s hs) (by omega) (by decide) (by omega) ?_
    refine q_aload_n rfl rfl ?_
    refine v_gr (t := s) rfl rfl (ck_sh hs) (by omega) rfl ?_
    refine q_iload_n rfl rfl ?_
    refine v_ia (v := (((c s (4 * a2 + 1)) * y_7) / 10) + c s (4 * a2)) rfl (ck_s hs) (by omega) (by decide) (by omega) ((up_n (by omega)).trans ((up_n (by omega)).trans ((up_n (by omega)).trans (up_e rfl)))) ?_
    refine q_aload_n rfl rfl ?_
    refine v_gr (t := P) rfl rfl (ck_sh hs) (by omega) rfl ?_
    have h_16 := ir_p0_3 hI hP
    refine v_gi (z := 3) (v := c P 3) rfl rfl (ck_p0 hP) (by omega) rfl rfl ((up_c (by omega)).trans ((up_c (by omega)).trans ((up_c (by omega)).trans (up_c (by omega))))) ?_
    have h_17 : 0 ≤ ((((c s (4 * a2 + 1)) * y_7) / 10) + c s (4 * a2)) * (c P 3) ∧ ((((c s (4 * a2 + 1)) * y_7) / 10) + c s (4 * a2)) * (c P 3) ≤ 50 * ((((c s (4 * a2 + 1)) * y_7) / 10) + c s (4 * a2)) := mul_bd (by omega) (by omega) (by omega)
    have h_18 : 0 ≤ ((((c s (4 * a2 + 1)) * y_7) / 10) + c s (4 * a2)) * (c P 3) ∧ ((((c s (4 * a2 + 1)) * y_7) / 10) + c s (4 * a2)) * (c P 3) ≤ 9999 * (c P 3) := mul_bd2 (by omega) (by omega) (by omega)
    refine v_imul (v := (((((c s (4 * a2 + 1)) * y_7) / 10) + c s (4 * a2)) * (c P 3))) rfl rfl ?_
    refine v_bip rfl (by decide) ?_
    refine v_idiv (v := ((((((c s (4 * a2 + 1)) * y_7) / 10) + c s (4 * a2)) * (c P 3)) / 100)) rfl (by omega) rfl ?_
    refine q_istore rfl (by decide) ?_
    refine Wp_ls [(7, vi ((((((c s (4 * a2 + 1)) * y_7) / 10) + c s (4 * a2)) * (c P 3)) / 100)), (6, vi (((c s (4 * a2 + 3)) * y_13) / 10)), (5, vi (((c s (4 * a2 + 2)) * y_10) / 10)), (4, vi (((c s (4 * a2 + 1)) * y_7) / 10)), (3, vi (4 * a2)), (0, .ref sh), (1, vi a1), (2, vi a2)] (lsub_cons rfl (lsub_cons rfl (lsub_cons rfl (lsub_cons rfl (lsub_cons rfl (lsub_cons rfl (lsub_cons rfl (lsub_cons rfl lsub_nil)))))))) ?_
    refine q_aload_n rfl rfl ?_
    refine v_gr (t := s) rfl rfl (ck_sh hs) (by omega) rfl ?_
    refine q_iload_n rfl rfl ?_
    refine q_dup2 rfl ⟨rfl, rfl⟩ ?_
    refine v_ia (v := (((c s (4 * a2 + 1)) * y_7) / 10) + c s (4 * a2)) rfl (ck_s hs) (by omega) (by decide) (by omega) ((up_n (by omega)).trans ((up_n (by omega)).trans ((up_n (by omega)).trans (up_e rfl)))) ?_
    refine q_iload rfl rfl ?_
    refine v_isub (v := (((c s (4 * a2 + 1)) * y_7) / 10) + c s (4 * a2) - ((((((c s (4 * a2 + 1)) * y_7) / 10) + c s (4 * a2)) * (c P 3)) / 100)) rfl (by omega) ?_
    refine v_is rfl (ck_s hs) (by omega) (by decide) (by omega) ?_
    refine q_aload_n rfl rfl ?_
    refine v_gr (t := s) rfl rfl (ck_sh hs) (by omega) rfl ?_
    refine v_bip rfl (by decide) ?_
    refine q_dup2 rfl ⟨rfl, rfl⟩ ?_
    have h_19 := ir_s hI hs 32
    refine v_ia (v := c s 32) rfl (ck_s hs) (by omega) (by decide) (by decide) ((up_n (by omega)).trans ((up_n (by omega)).trans ((up_n (by omega)).trans ((up_n (by omega)).trans (up_n (by omega)))))) ?_
    refine q_iload rfl rfl ?_
    refine v_iadd (v := ((((((c s (4 * a2 + 1)) * y_7) / 10) + c s (4 * a2)) * (c P 3)) / 100) + c s 32) rfl (by omega) ?_
    refine v_nrm (fun y_20 hy_20 => ?_)
    refine v_is rfl (ck_s hs) (by omega) (by decide) (by decide) ?_
    refine q_iconst rfl ?_
    refine v_zret rfl rfl (by omega) ?_
    have hI_21 := iw_row (a := s) (j := 4 * a2) (v := (((c s (4 * a2 + 1)) * y_7) / 10) + c s (4 * a2)) hIo (by omega) (Or.inl rfl) ⟨by omega, by omega, by omega⟩
    have hI_22 := iw_row (a := s) (j := 4 * a2 + 1) (v := (((c s (4 * a2 + 2)) * y_10) / 10) + c s (4 * a2 + 1) - (((c s (4 * a2 + 1)) * y_7) / 10)) hI_21 (by omega) (Or.inl rfl) ⟨by omega, by omega, by omega⟩
    have hI_23 := iw_row (a := s) (j := 4 * a2 + 2) (v := (((c s (4 * a2 + 3)) * y_13) / 10) + c s (4 * a2 + 2) - (((c s (4 * a2 + 2)) * y_10) / 10)) hI_22 (by omega) (Or.inl rfl) ⟨by omega, by omega, by omega⟩
    have hI_24 := iw_row (a := s) (j := 4 * a2 + 3) (v := c s (4 * a2 + 3) - (((c s (4 * a2 + 3)) * y_13) / 10)) hI_23 (by omega) (Or.inl rfl) ⟨by omega, by omega, by omega⟩
    have hI_25 := iw_row (a := s) (j := 4 * a2) (v := (((c s (4 * a2 + 1)) * y_7) / 10) + c s (4 * a2) - ((((((c s (4 * a2 + 1)) * y_7) / 10) + c s (4 * a2)) * (c P 3)) / 100)) hI_24 (by omega) (Or.inl rfl) ⟨by omega, by omega, by omega⟩
    have hI_26 := iw_row (a := s) (j := 32) (v := y_20) hI_25 (by omega) (Or.inr (by omega)) ⟨by omega, by omega, by omega⟩
    have hr_27 : ∀ j : Int, rs s j → (up (up (up (up (up (up c s (4 * a2) ((((c s (4 * a2 + 1)) * y_7) / 10) + c s (4 * a2))) s (4 * a2 + 1) ((((c s (4 * a2 + 2)) * y_10) / 10) + c s (4 * a2 + 1) - (((c s (4 * a2 + 1)) * y_7) / 10))) s (4 * a2 + 2) ((((c s (4 * a2 + 3)) * y_13) / 10) + c s (4 * a2 + 2) - (((c s (4 * a2 + 2)) * y_10) / 10))) s (4 * a2 + 3) (c s (4 * a2 + 3) - (((c s (4 * a2 + 3)) * y_13) / 10))) s (4 * a2) ((((c s (4 * a2 + 1)) * y_7) / 10) + c s (4 * a2) - ((((((c s (4 * a2 + 1)) * y_7) / 10) + c s (4 * a2)) * (c P 3)) / 100))) s 32 y_20) s j + (up (up (up (up (up (up c s (4 * a2) ((((c s (4 * a2 + 1)) * y_7) / 10) + c s (4 * a2))) s (4 * a2 + 1) ((((c s (4 * a2 + 2)) * y_10) / 10) + c s (4 * a2 + 1) - (((c s (4 * a2 + 1)) * y_7) / 10))) s (4 * a2 + 2) ((((c s (4 * a2 + 3)) * y_13) / 10) + c s (4 * a2 + 2) - (((c s (4 * a2 + 2)) * y_10) / 10))) s (4 * a2 + 3) (c s (4 * a2 + 3) - (((c s (4 * a2 + 3)) * y_13) / 10))) s (4 * a2) ((((c s (4 * a2 + 1)) * y_7) / 10) + c s (4 * a2) - ((((((c s (4 * a2 + 1)) * y_7) / 10) + c s (4 * a2)) * (c P 3)) / 100))) s 32 y_20) s (j + 1) + (up (up (up (up (up (up c s (4 * a2) ((((c s (4 * a2 + 1)) * y_7) / 10) + c s (4 * a2))) s (4 * a2 + 1) ((((c s (4 * a2 + 2)) * y_10) / 10) + c s (4 * a2 + 1) - (((c s (4 * a2 + 1)) * y_7) / 10))) s (4 * a2 + 2) ((((c s (4 * a2 + 3)) * y_13) / 10) + c s (4 * a2 + 2) - (((c s (4 * a2 + 2)) * y_10) / 10))) s (4 * a2 + 3) (c s (4 * a2 + 3) - (((c s (4 * a2 + 3)) * y_13) / 10))) s (4 * a2) ((((c s (4 * a2 + 1)) * y_7) / 10) + c s (4 * a2) - ((((((c s (4 * a2 + 1)) * y_7) / 10) + c s (4 * a2)) * (c P 3)) / 100))) s 32 y_20) s (j + 2) + (up (up (up (up (up (up c s (4 * a2) ((((c s (4 * a2 + 1)) * y_7) / 10) + c s (4 * a2))) s (4 * a2 + 1) ((((c s (4 * a2 + 2)) * y_10) / 10) + c s (4 * a2 + 1) - (((c s (4 * a2 + 1)) * y_7) / 10))) s (4 * a2 + 2) ((((c s (4 * a2 + 3)) * y_13) / 10) + c s (4 * a2 + 2) - (((c s (4 * a2 + 2)) * y_10) / 10))) s (4 * a2 + 3) (c s (4 * a2 + 3) - (((c s (4 * a2 + 3)) * y_13) / 10))) s (4 * a2) ((((c s (4 * a2 + 1)) * y_7) / 10) + c s (4 * a2) - ((((((c s (4 * a2 + 1)) * y_7) / 10) + c s (4 * a2)) * (c P 3)) / 100))) s 32 y_20) s (j + 3) ≤ 9999 := by
      intro j9 hj9
      obtain ⟨k9, rfl, hk9⟩ := rs_s hs hj9
      by_cases e_28 : k9 = a2
      · skip
        have h_29 : (up (up (up (up (up (up c s (4 * a2) ((((c s (4 * a2 + 1)) * y_7) / 10) + c s (4 * a2))) s (4 * a2 + 1) ((((c s (4 * a2 + 2)) * y_10) / 10) + c s (4 * a2 + 1) - (((c s (4 * a2 + 1)) * y_7) / 10))) s (4 * a2 + 2) ((((c s (4 * a2 + 3)) * y_13) / 10) + c s (4 * a2 + 2) - (((c s (4 * a2 + 2)) * y_10) / 10))) s (4 * a2 + 3) (c s (4 * a2 + 3) - (((c s (4 * a2 + 3)) * y_13) / 10))) s (4 * a2) ((((c s (4 * a2 + 1)) * y_7) / 10) + c s (4 * a2) - ((((((c s (4 * a2 + 1)) * y_7) / 10) + c s (4 * a2)) * (c P 3)) / 100))) s 32 y_20) s (4 * k9) = (((c s (4 * a2 + 1)) * y_7) / 10) + c s (4 * a2) - ((((((c s (4 * a2 + 1)) * y_7) / 10) + c s (4 * a2)) * (c P 3)) / 100) := (congrArg ((up (up (up (up (up (up c s (4 * a2) ((((c s (4 * a2 + 1)) * y_7) / 10) + c s (4 * a2))) s (4 * a2 + 1) ((((c s (4 * a2 + 2)) * y_10) / 10) + c s (4 * a2 + 1) - (((c s (4 * a2 + 1)) * y_7) / 10))) s (4 * a2 + 2) ((((c s (4 * a2 + 3)) * y_13) / 10) + c s (4 * a2 + 2) - (((c s (4 * a2 + 2)) * y_10) / 10))) s (4 * a2 + 3) (c s (4 * a2 + 3) - (((c s (4 * a2 + 3)) * y_13) / 10))) s (4 * a2) ((((c s (4 * a2 + 1)) * y_7) / 10) + c s (4 * a2) - ((((((c s (4 * a2 + 1)) * y_7) / 10) + c s (4 * a2)) * (c P 3)) / 100))) s 32 y_20) s) (show 4 * k9 = 4 * a2 from by omega)).trans ((up_n (by omega)).trans (up_e rfl))
        have h_30 : (up (up (up (up (up (up c s (4 * a2) ((((c s (4 * a2 + 1)) * y_7) / 10) + c s (4 * a2))) s (4 * a2 + 1) ((((c s (4 * a2 + 2)) * y_10) / 10) + c s (4 * a2 + 1) - (((c s (4 * a2 + 1)) * y_7) / 10))) s (4 * a2 + 2) ((((c s (4 * a2 + 3)) * y_13) / 10) + c s (4 * a2 + 2) - (((c s (4 * a2 + 2)) * y_10) / 10))) s (4 * a2 + 3) (c s (4 * a2 + 3) - (((c s (4 * a2 + 3)) * y_13) / 10))) s (4 * a2) ((((c s (4 * a2 + 1)) * y_7) / 10) + c s (4 * a2) - ((((((c s (4 * a2 + 1)) * y_7) / 10) + c s (4 * a2)) * (c P 3)) / 100))) s 32 y_20) s (4 * k9 + 1) = (((c s (4 * a2 + 2)) * y_10) / 10) + c s (4 * a2 + 1) - (((c s (4 * a2 + 1)) * y_7) / 10) := (congrArg ((up (up (up (up (up (up c s (4 * a2) ((((c s (4 * a2 + 1)) * y_7) / 10) + c s (4 * a2))) s (4 * a2 + 1) ((((c s (4 * a2 + 2)) * y_10) / 10) + c s (4 * a2 + 1) - (((c s (4 * a2 + 1)) * y_7) / 10))) s (4 * a2 + 2) ((((c s (4 * a2 + 3)) * y_13) / 10) + c s (4 * a2 + 2) - (((c s (4 * a2 + 2)) * y_10) / 10))) s (4 * a2 + 3) (c s (4 * a2 + 3) - (((c s (4 * a2 + 3)) * y_13) / 10))) s (4 * a2) ((((c s (4 * a2 + 1)) * y_7) / 10) + c s (4 * a2) - ((((((c s (4 * a2 + 1)) * y_7) / 10) + c s (4 * a2)) * (c P 3)) / 100))) s 32 y_20) s) (show 4 * k9 + 1 = 4 * a2 + 1 from by omega)).trans ((up_n (by omega)).trans ((up_n (by omega)).trans ((up_n (by omega)).trans ((up_n (by omega)).trans (up_e rfl)))))
        have h_31 : (up (up (up (up (up (up c s (4 * a2) ((((c s (4 * a2 + 1)) * y_7) / 10) + c s (4 * a2))) s (4 * a2 + 1) ((((c s (4 * a2 + 2)) * y_10) / 10) + c s (4 * a2 + 1) - (((c s (4 * a2 + 1)) * y_7) / 10))) s (4 * a2 + 2) ((((c s (4 * a2 + 3)) * y_13) / 10) + c s (4 * a2 + 2) - (((c s (4 * a2 + 2)) * y_10) / 10))) s (4 * a2 + 3) (c s (4 * a2 + 3) - (((c s (4 * a2 + 3)) * y_13) / 10))) s (4 * a2) ((((c s (4 * a2 + 1)) * y_7) / 10) + c s (4 * a2) - ((((((c s (4 * a2 + 1)) * y_7) / 10) + c s (4 * a2)) * (c P 3)) / 100))) s 32 y_20) s (4 * k9 + 2) = (((c s (4 * a2 + 3)) * y_13) / 10) + c s (4 * a2 + 2) - (((c s (4 * a2 + 2)) * y_10) / 10) := (congrArg ((up (up (up (up (up (up c s (4 * a2) ((((c s (4 * a2 + 1)) * y_7) / 10) + c s (4 * a2))) s (4 * a2 + 1) ((((c s (4 * a2 + 2)) * y_10) / 10) + c s (4 * a2 + 1) - (((c s (4 * a2 + 1)) * y_7) / 10))) s (4 * a2 + 2) ((((c s (4 * a2 + 3)) * y_13) / 10) + c s (4 * a2 + 2) - (((c s (4 * a2 + 2)) * y_10) / 10))) s (4 * a2 + 3) (c s (4 * a2 + 3) - (((c s (4 * a2 + 3)) * y_13) / 10))) s (4 * a2) ((((c s (4 * a2 + 1)) * y_7) / 10) + c s (4 * a2) - ((((((c s (4 * a2 + 1)) * y_7) / 10) + c s (4 * a2)) * (c P 3)) / 100))) s 32 y_20) s) (show 4 * k9 + 2 = 4 * a2 + 2 from by omega)).trans ((up_n (by omega)).trans ((up_n (by omega)).trans ((up_n (by omega)).trans (up_e rfl))))
        have h_32 : (up (up (up (up (up (up c s (4 * a2) ((((c s (4 * a2 + 1)) * y_7) / 10) + c s (4 * a2))) s (4 * a2 + 1) ((((c s (4 * a2 + 2)) * y_10) / 10) + c s (4 * a2 + 1) - (((c s (4 * a2 + 1)) * y_7) / 10))) s (4 * a2 + 2) ((((c s (4 * a2 + 3)) * y_13) / 10) + c s (4 * a2 + 2) - (((c s (4 * a2 + 2)) * y_10) / 10))) s (4 * a2 + 3) (c s (4 * a2 + 3) - (((c s (4 * a2 + 3)) * y_13) / 10))) s (4 * a2) ((((c s (4 * a2 + 1)) * y_7) / 10) + c s (4 * a2) - ((((((c s (4 * a2 + 1)) * y_7) / 10) + c s (4 * a2)) * (c P 3)) / 100))) s 32 y_20) s (4 * k9 + 3) = c s (4 * a2 + 3) - (((c s (4 * a2 + 3)) * y_13) / 10) := (congrArg ((up (up (up (up (up (up c s (4 * a2) ((((c s (4 * a2 + 1)) * y_7) / 10) + c s (4 * a2))) s (4 * a2 + 1) ((((c s (4 * a2 + 2)) * y_10) / 10) + c s (4 * a2 + 1) - (((c s (4 * a2 + 1)) * y_7) / 10))) s (4 * a2 + 2) ((((c s (4 * a2 + 3)) * y_13) / 10) + c s (4 * a2 + 2) - (((c s (4 * a2 + 2)) * y_10) / 10))) s (4 * a2 + 3) (c s (4 * a2 + 3) - (((c s (4 * a2 + 3)) * y_13) / 10))) s (4 * a2) ((((c s (4 * a2 + 1)) * y_7) / 10) + c s (4 * a2) - ((((((c s (4 * a2 + 1)) * y_7) / 10) + c s (4 * a2)) * (c P 3)) / 100))) s 32 y_20) s) (show 4 * k9 + 3 = 4 * a2 + 3 from by omega)).trans ((up_n (by omega)).trans ((up_n (by omega)).trans (up_e rfl)))
        omega
      have h_33 := iv_r hI s (4 * k9) hj9 (by omega)
      have h_34 := ir_s_g hI hs (j := 4 * k9) (by omega)
      have h_35 : (up (up (up (up (up (up c s (4 * a2) ((((c s (4 * a2 + 1)) * y_7) / 10) + c s (4 * a2))) s (4 * a2 + 1) ((((c s (4 * a2 + 2)) * y_10) / 10) + c s (4 * a2 + 1) - (((c s (4 * a2 + 1)) * y_7) / 10))) s (4 * a2 + 2) ((((c s (4 * a2 + 3)) * y_13) / 10) + c s (4 * a2 + 2) - (((c s (4 * a2 + 2)) * y_10) / 10))) s (4 * a2 + 3) (c s (4 * a2 + 3) - (((c s (4 * a2 + 3)) * y_13) / 10))) s (4 * a2) ((((c s (4 * a2 + 1)) * y_7) / 10) + c s (4 * a2) - ((((((c s (4 * a2 + 1)) * y_7) / 10) + c s (4 * a2)) * (c P 3)) / 100))) s 32 y_20) s (4 * k9) = c s (4 * k9) := ((up_n (by omega)).trans ((up_n (by omega)).trans ((up_n (by omega)).trans ((up_n (by omega)).trans ((up_n (by omega)).trans (up_n (by omega)))))))
      have h_36 := ir_s_g hI hs (j := 4 * k9 + 1) (by omega)
      have h_37 : (up (up (up (up (up (up c s (4 * a2) ((((c s (4 * a2 + 1)) * y_7) / 10) + c s (4 * a2))) s (4 * a2 + 1) ((((c s (4 * a2 + 2)) * y_10) / 10) + c s (4 * a2 + 1) - (((c s (4 * a2 + 1)) * y_7) / 10))) s (4 * a2 + 2) ((((c s (4 * a2 + 3)) * y_13) / 10) + c s (4 * a2 + 2) - (((c s (4 * a2 + 2)) * y_10) / 10))) s (4 * a2 + 3) (c s (4 * a2 + 3) - (((c s (4 * a2 + 3)) * y_13) / 10))) s (4 * a2) ((((c s (4 * a2 + 1)) * y_7) / 10) + c s (4 * a2) - ((((((c s (4 * a2 + 1)) * y_7) / 10) + c s (4 * a2)) * (c P 3)) / 100))) s 32 y_20) s (4 * k9 + 1) = c s (4 * k9 + 1) := ((up_n (by omega)).trans ((up_n (by omega)).trans ((up_n (by omega)).trans ((up_n (by omega)).trans ((up_n (by omega)).trans (up_n (by omega)))))))
      have h_38 := ir_s_g hI hs (j := 4 * k9 + 2) (by omega)
      have h_39 : (up (up (up (up (up (up c s (4 * a2) ((((c s (4 * a2 + 1)) * y_7) / 10) + c s (4 * a2))) s (4 * a2 + 1) ((((c s (4 * a2 + 2)) * y_10) / 10) + c s (4 * a2 + 1) - (((c s (4 * a2 + 1)) * y_7) / 10))) s (4 * a2 + 2) ((((c s (4 * a2 + 3)) * y_13) / 10) + c s (4 * a2 + 2) - (((c s (4 * a2 + 2)) * y_10) / 10))) s (4 * a2 + 3) (c s (4 * a2 + 3) - (((c s (4 * a2 + 3)) * y_13) / 10))) s (4 * a2) ((((c s (4 * a2 + 1)) * y_7) / 10) + c s (4 * a2) - ((((((c s (4 * a2 + 1)) * y_7) / 10) + c s (4 * a2)) * (c P 3)) / 100))) s 32 y_20) s (4 * k9 + 2) = c s (4 * k9 + 2) := ((up_n (by omega)).trans ((up_n (by omega)).trans ((up_n (by omega)).trans ((up_n (by omega)).trans ((up_n (by omega)).trans (up_n (by omega)))))))
      have h_40 := ir_s_g hI hs (j := 4 * k9 + 3) (by omega)
      have h_41 : (up (up (up (up (up (up c s (4 * a2) ((((c s (4 * a2 + 1)) * y_7) / 10) + c s (4 * a2))) s (4 * a2 + 1) ((((c s (4 * a2 + 2)) * y_10) / 10) + c s (4 * a2 + 1) - (((c s (4 * a2 + 1)) * y_7) / 10))) s (4 * a2 + 2) ((((c s (4 * a2 + 3)) * y_13) / 10) + c s (4 * a2 + 2) - (((c s (4 * a2 + 2)) * y_10) / 10))) s (4 * a2 + 3) (c s (4 * a2 + 3) - (((c s (4 * a2 + 3)) * y_13) / 10))) s (4 * a2) ((((c s (4 * a2 + 1)) * y_7) / 10) + c s (4 * a2) - ((((((c s (4 * a2 + 1)) * y_7) / 10) + c s (4 * a2)) * (c P 3)) / 100))) s 32 y_20) s (4 * k9 + 3) = c s (4 * k9 + 3) := ((up_n (by omega)).trans ((up_n (by omega)).trans ((up_n (by omega)).trans ((up_n (by omega)).trans ((up_n (by omega)).trans (up_n (by omega)))))))
      omega
    have hI_42 := iv_close hI_26 hr_27
    exact K (up (up (up (up (up (up c s (4 * a2) ((((c s (4 * a2 + 1)) * y_7) / 10) + c s (4 * a2))) s (4 * a2 + 1) ((((c s (4 * a2 + 2)) * y_10) / 10) + c s (4 * a2 + 1) - (((c s (4 * a2 + 1)) * y_7) / 10))) s (4 * a2 + 2) ((((c s (4 * a2 + 3)) * y_13) / 10) + c s (4 * a2 + 2) - (((c s (4 * a2 + 2)) * y_10) / 10))) s (4 * a2 + 3) (c s (4 * a2 + 3) - (((c s (4 * a2 + 3)) * y_13) / 10))) s (4 * a2) ((((c s (4 * a2 + 1)) * y_7) / 10) + c s (4 * a2) - ((((((c s (4 * a2 + 1)) * y_7) / 10) + c s (4 * a2)) * (c P 3)) / 100))) s 32 y_20) 1 hI_42 (fun a j hm => (up_b (by omega)).trans ((up_b (by omega)).trans ((up_b (by omega)).trans ((up_b (by omega)).trans ((up_b (by omega)).trans (up_b (by omega))))))) ⟨by decide, by decide⟩
  · refine v_if_ne_f (t := 10) rfl (by decide) (by omega) ?_
    refine q_iconst rfl ?_
    refine v_zret rfl rfl (by omega) ?_
    have hr_43 : ∀ j : Int, rs s j → c s j + c s (j + 1) + c s (j + 2) + c s (j + 3) ≤ 9999 := by
      intro j9 hj9
      obtain ⟨k9, rfl, hk9⟩ := rs_s hs hj9
      by_cases e_44 : k9 = a2
      · skip
        have h_45 : c s (4 * k9) = c s (4 * a2) := (congrArg (c s) (show 4 * k9 = 4 * a2 from by omega))
        have h_46 : c s (4 * k9 + 1) = c s (4 * a2 + 1) := (congrArg (c s) (show 4 * k9 + 1 = 4 * a2 + 1 from by omega))
        have h_47 : c s (4 * k9 + 2) = c s (4 * a2 + 2) := (congrArg (c s) (show 4 * k9 + 2 = 4 * a2 + 2 from by omega))
        have h_48 : c s (4 * k9 + 3) = c s (4 * a2 + 3) := (congrArg (c s) (show 4 * k9 + 3 = 4 * a2 + 3 from by omega))
        omega
      have h_49 := iv_r hI s (4 * k9) hj9 (by omega)
      have h_50 := ir_s_g hI hs (j := 4 * k9) (by omega)
      have h_51 : c s (4 * k9) = c s (4 * k9) := rfl
      have h_52 := ir_s_g hI hs (j := 4 * k9 + 1) (by omega)
      have h_53 : c s (4 * k9 + 1) = c s (4 * k9 + 1) := rfl
      have h_54 := ir_s_g hI hs (j := 4 * k9 + 2) (by omega)
      have h_55 : c s (4 * k9 + 2) = c s (4 * k9 + 2) := rfl
      have h_56 := ir_s_g hI hs (j := 4 * k9 + 3) (by omega)
      have h_57 : c s (4 * k9 + 3) = c s (4 * k9 + 3) := rfl
      omega
    have hI_58 := iv_close hIo hr_43
    exact K c 0 hI_58 (fun a j hm => rfl) ⟨by decide, by decide⟩

set_option maxRecDepth 100000 in
set_option maxHeartbeats 4000000 in
theorem s_45 {sc : List Int32} {e : Int} {d u P Q sh s : Nat} {c : ME} {v1 r : Int} {a1 : Int} {a2 : Int} {Z : AR → Prop} (hI : Iv u e P Q c) (hs : (sh = 37 ∧ s = 38) ∨ (sh = 39 ∧ s = 40)) (ha1 : 0 ≤ a1 ∧ a1 ≤ 5) (ha2 : 0 ≤ a2 ∧ a2 ≤ 3) (hv0 : c s (4 * a1 + a2) = v1) (hr9 : v1 = r) (K : Z (.inl (some (vi r)), Wd P Q P P c, 0, 0)) : Wp sc (d + 7) 45 0 [(0, .ref sh), (1, vi a1), (2, vi a2)] [] (Wd P Q P P c) 0 0 Z := by
  have hP := iv_P hI
  have hQ := iv_Q hI
  have h_1 := ir_s_g hI hs (j := 4 * a1 + a2) (by omega)
  refine q_aload_n rfl rfl ?_
  refine v_gr (t := s) rfl rfl (ck_sh hs) (by omega) rfl ?_
  refine q_iload_n rfl rfl ?_
  refine q_iconst rfl ?_
  refine v_imul (v := 4 * a1) rfl (by omega) ?_
  refine q_iload_n rfl rfl ?_
  refine v_iadd (v := 4 * a1 + a2) rfl (by omega) ?_
  refine v_ia (v := v1) rfl (ck_s hs) (by omega) (by decide) (by omega) (hv0) ?_
  refine q_iret rfl rfl ?_
  exact zv (by omega) (K)

set_option maxRecDepth 100000 in
set_option maxHeartbeats 4000000 in
theorem s_46 {sc : List Int32} {e : Int} {d u P Q sh s : Nat} {c : ME} {v1 r : Int} {a1 : Int} {Z : AR → Prop} (hI : Iv u e P Q c) (hs : (sh = 37 ∧ s = 38) ∨ (sh = 39 ∧ s = 40)) (ha1 : 0 ≤ a1 ∧ a1 ≤ 3) (hv0 : c s 30 = v1) (hr9 : tb v1 a1 = r) (K : Z (.inl (some (vi r)), Wd P Q P P c, 0, 0)) : Wp sc (d + 7) 46 0 [(0, .ref sh), (1, vi a1)] [] (Wd P Q P P c) 0 0 Z := by
  refine q_aload_n rfl rfl ?_
  refine v_gr (t := s) rfl rfl (ck_sh hs) (by omega) rfl ?_
  refine v_bip rfl (by decide) ?_
  refine v_ia (v := v1) rfl (ck_s hs) (by omega) (by decide) (by decide) hv0 ?_
  refine q_iload_n rfl rfl ?_
  refine q_ishr rfl ?_
  refine q_iconst rfl ?_
  refine q_iand rfl ?_
  refine q_iconst rfl ?_
  by_cases h : ((Int32.ofInt v1 >>> (Int32.ofInt a1 &&& 31)) &&& 1) = 1
  · refine q_ic_ne_f (t := 19) rfl (by decide) (fun q => q h) ?_
    refine q_iconst rfl ?_
    refine q_goto (t := 20) rfl (by decide) ?_
    refine v_zret (a := 1) rfl rfl (by decide) ?_
    exact zv (by rw [← hr9]; unfold tb; rw [if_pos h]) K
  · refine q_ic_ne_t (t := 19) rfl (by decide) h ?_
    refine q_iconst rfl ?_
    refine v_zret (a := 0) rfl rfl (by decide) ?_
    exact zv (by rw [← hr9]; unfold tb; rw [if_neg h]) K

set_option maxRecDepth 100000 in
set_option maxHeartbeats 4000000 in
theorem s_47 {sc : List Int32} {e : Int} {d u P Q sh s : Nat} {c : ME} {v1 v2 r : Int} {a1 : Int} {a2 : Int} {a3 : Int} {Z : AR → Prop} (hI : Iv u e P Q c) (hs : (sh = 37 ∧ s = 38) ∨ (sh = 39 ∧ s = 40)) (ha1 : 0 ≤ a1 ∧ a1 ≤ 3) (ha2 : 0 ≤ a2 ∧ a2 ≤ 3) (ha3 : 0 ≤ a3 ∧ a3 ≤ 9999) (hv0 : c (P + 3) a1 = v1) (hv1 : c s 30 = v2) (hr9 : fal v1 (tb v2 a1) a2 a3 = r) (K : Z (.inl (some (vi r)), Wd P Q P P c, 0, 0)) : Wp sc (d + 8) 47 0 [(0, .ref sh), (1, vi a1), (2, vi a2), (3, vi a3)] [] (Wd P Q P P c) 0 0 Z := by
  have hP := iv_P hI
  have hQ := iv_Q hI
  have h_1 := ir_p3 hI hP a1
  have h_2 := ir_s hI hs 30
  refine q_aload_n rfl rfl ?_
  refine v_gr (t := P) rfl rfl (ck_sh hs) (by omega) rfl ?_
  refine v_gr (t := (P + 3)) rfl rfl (ck_p0 hP) (by omega) rfl ?_
  refine q_iload_n rfl rfl ?_
  refine v_ia (v := v1) rfl (ck_p3 hP) (by omega) (by decide) (by omega) (hv0) ?_
  refine q_istore rfl (by decide) ?_
  refine q_iload_n rfl rfl ?_
  refine q_iload rfl rfl ?_
  by_cases h_3 : a2 > v1
  · refine v_ic_gt_t (t := 19) rfl (by decide) (by omega) ?_
    refine q_iload_n rfl rfl ?_
    refine q_iload rfl rfl ?_
    refine q_iconst rfl ?_
    refine v_iadd (v := v1 + 1) rfl (by omega) ?_
    by_cases h_4 : a2 ≠ v1 + 1
    · refine v_ic_ne_t (t := 41) rfl (by decide) (by omega) ?_
      refine q_iconst rfl ?_
      refine q_iret rfl rfl ?_
      exact zv (by rw [← hr9]; unfold fal; split <;> first | omega | (split <;> omega)) (K)
    · refine v_ic_ne_f (t := 41) rfl (by decide) (by omega) ?_
      refine q_aload_n rfl rfl ?_
      refine q_iload_n rfl rfl ?_
      have h_5 := tb_rng v2 a1
      refine v_cv rfl rfl rfl (ck_sh hs) (by omega) ⟨⟨rfl, rfl⟩, by decide, rfl⟩ (Nat.le_of_ble_eq_true rfl) (Nat.le_of_ble_eq_true rfl) (s_46 (v1 := v2) (r := (tb v2 a1)) (a1 := a1) hI hs (show 0 ≤ a1 ∧ a1 ≤ 3 from by omega) ((hv1)) rfl ?_)
      refine bk_inl ?_
      by_cases h_6 : (tb v2 a1) = 0
      · refine v_if_eq_t (t := 41) rfl (by decide) (by omega) ?_
        refine q_iconst rfl ?_
        refine q_iret rfl rfl ?_
        exact zv (by rw [← hr9]; unfold fal; split <;> first | omega | (split <;> omega)) (K)
      · refine v_if_eq_f (t := 41) rfl (by decide) (by omega) ?_
        refine q_iload_n rfl rfl ?_
        refine q_iconst rfl ?_
        refine v_idiv (v := (a3 / 2)) rfl (by omega) rfl ?_
        refine q_goto (t := 42) rfl (by decide) ?_
        refine q_iret rfl rfl ?_
        exact zv (by rw [← hr9]; unfold fal; split <;> first | omega | (split <;> omega)) (K)
  · refine v_ic_gt_f (t := 19) rfl (by decide) (by omega) ?_
    refine q_iload_n rfl rfl ?_
    refine q_iret rfl rfl ?_
    exact zv (by rw [← hr9]; unfold fal; split <;> first | omega | (split <;> omega)) (K)

set_option maxRecDepth 100000 in
set_option maxHeartbeats 4000000 in
theorem s_48 {sc : List Int32} {e : Int} {d u P Q sh s : Nat} {c : ME} {v1 v2 v3 r : Int} {a1 : Int} {a2 : Int} {a3 : Int} {Z : AR → Prop} (hI : Iv u e P Q c) (hs : (sh = 37 ∧ s = 38) ∨ (sh = 39 ∧ s = 40)) (ha1 : 0 ≤ a1 ∧ a1 ≤ 3) (ha2 : 0 ≤ a2 ∧ a2 ≤ 5) (ha3 : 0 ≤ a3 ∧ a3 ≤ 3) (hv0 : c (P + 3) a1 = v1) (hv1 : c s 30 = v2) (hv2 : c s (4 * a2 + a3) = v3) (hr9 : fal v1 (tb v2 a1) a3 v3 = r) (K : Z (.inl (some (vi r)), Wd P Q P P c, 0, 0)) : Wp sc (d + 9) 48 0 [(0, .ref sh), (1, vi a1), (2, vi a2), (3, vi a3)] [] (Wd P Q P P c) 0 0 Z := by
  have hP := iv_P hI
  have hQ := iv_Q hI
  have h_1 := ir_p3 hI hP a1
  have h_2 := ir_s hI hs 30
  have h_3 := ir_s_g hI hs (j := 4 * a2 + a3) (by omega)
  refine q_aload_n rfl rfl ?_
  refine q_iload_n rfl rfl ?_
  refine q_iload_n rfl rfl ?_
  refine q_aload_n rfl rfl ?_
  refine q_iload_n rfl rfl ?_
  refine q_iload_n rfl rfl ?_
  refine v_cv rfl rfl rfl (ck_sh hs) (by omega) ⟨⟨rfl, rfl⟩, by decide, rfl⟩ (Nat.le_of_ble_eq_true rfl) (Nat.le_of_ble_eq_true rfl) (s_45 (v1 := v3) (r := v3) (a1 := a2) (a2 := a3) hI hs (show 0 ≤ a2 ∧ a2 ≤ 5 from by omega) (show 0 ≤ a3 ∧ a3 ≤ 3 from by omega) ((hv2)) (by omega) ?_)
  refine bk_inl ?_
  have h_4 := fal_rng (m := v1) (t := tb v2 a1) (g := a3) (x := v3) (by omega)
  refine v_cv rfl rfl rfl (ck_sh hs) (by omega) ⟨⟨rfl, rfl⟩, by decide, rfl⟩ (Nat.le_of_ble_eq_true rfl) (Nat.le_of_ble_eq_true rfl) (s_47 (v1 := v1) (v2 := v2) (r := (fal v1 (tb v2 a1) a3 v3)) (a1 := a1) (a2 := a3) (a3 := v3) hI hs (show 0 ≤ a1 ∧ a1 ≤ 3 from by omega) (show 0 ≤ a3 ∧ a3 ≤ 3 from by omega) (show 0 ≤ v3 ∧ v3 ≤ 9999 from by omega) ((hv0)) ((hv1)) rfl ?_)
  refine bk_inl ?_
  refine q_iret rfl rfl ?_
  exact zv hr9 (K)

set_option maxRecDepth 100000 in
set_option maxHeartbeats 4000000 in
theorem s_49 {sc : List Int32} {e : Int} {d u P Q sh s : Nat} {c : ME} {v1 v2 v3 v4 v5 v6 r : Int} {a1 : Int} {a2 : Int} {Z : AR → Prop} (hI : Iv u e P Q c) (hs : (sh = 37 ∧ s = 38) ∨ (sh = 39 ∧ s = 40)) (ha1 : 0 ≤ a1 ∧ a1 ≤ 3) (ha2 : 0 ≤ a2 ∧ a2 ≤ 5) (hv0 : c (P + 3) a1 = v1) (hv1 : c s 30 = v2) (hv2 : c s (4 * a2) = v3) (hv3 : c s (4 * a2 + 1) = v4) (hv4 : c s (4 * a2 + 2) = v5) (hv5 : c s (4 * a2 + 3) = v6) (hr9 : fal v1 (tb v2 a1) 0 v3 + fal v1 (tb v2 a1) 1 v4 + fal v1 (tb v2 a1) 2 v5 + fal v1 (tb v2 a1) 3 v6 = r) (K : Z (.inl (some (vi r)), Wd P Q P P c, 0, 0)) : Wp sc (d + 10) 49 0 [(0, .ref sh), (1, vi a1), (2, vi a2)] [] (Wd P Q P P c) 0 0 Z := by
  have hP := iv_P hI
  have hQ := iv_Q hI
  have h_1 := ir_p3 hI hP a1
  have h_2 := ir_s hI hs 30
  have h_3 := ir_s_g hI hs (j := 4 * a2) (by omega)
  have h_4 := ir_s_g hI hs (j := 4 * a2 + 1) (by omega)
  have h_5 := ir_s_g hI hs (j := 4 * a2 + 2) (by omega)
  have h_6 := ir_s_g hI hs (j := 4 * a2 + 3) (by omega)
  refine q_iconst rfl ?_
  refine q_istore_n rfl (by decide) ?_
  refine q_iconst rfl ?_
  refine q_istore rfl (by decide) ?_
  refine q_iload rfl rfl ?_
  refine q_iconst rfl ?_
  refine v_ic_ge_f (t := 28) rfl (by decide) (by decide) ?_
  refine q_iload_n rfl rfl ?_
  refine q_aload_n rfl rfl ?_
  refine q_iload_n rfl rfl ?_
  refine q_iload_n rfl rfl ?_
  refine q_iload rfl rfl ?_
  have h_7 := fal_rng (m := v1) (t := tb v2 a1) (g := 0) (x := v3) (by omega)
  refine v_cv rfl rfl rfl (ck_sh hs) (by omega) ⟨⟨rfl, rfl⟩, by decide, rfl⟩ (Nat.le_of_ble_eq_true rfl) (Nat.le_of_ble_eq_true rfl) (s_48 (v1 := v1) (v2 := v2) (v3 := v3) (r := (fal v1 (tb v2 a1) 0 v3)) (a1 := a1) (a2 := a2) (a3 := 0) hI hs (show 0 ≤ a1 ∧ a1 ≤ 3 from by omega) (show 0 ≤ a2 ∧ a2 ≤ 5 from by omega) (show 0 ≤ 0 ∧ 0 ≤ 3 from by omega) ((hv0)) ((hv1)) ((congrArg (c s) (show 4 * a2 + 0 = 4 * a2 from by omega)).trans (hv2)) rfl ?_)
  refine bk_inl ?_
  refine v_iadd (v := (fal v1 (tb v2 a1) 0 v3)) rfl (by omega) ?_
  refine q_istore_n rfl (by decide) ?_
  refine v_iinc (v := 1) rfl rfl (by decide) (by decide) ?_
  refine q_goto (t := 5) rfl (by decide) ?_
  refine q_iload rfl rfl ?_
  refine q_iconst rfl ?_
  refine v_ic_ge_f (t := 28) rfl (by decide) (by decide) ?_
  refine q_iload_n rfl rfl ?_
  refine q_aload_n rfl rfl ?_
  refine q_iload_n rfl rfl ?_
  refine q_iload_n rfl rfl ?_
  refine q_iload rfl rfl ?_
  have h_8 := fal_rng (m := v1) (t := tb v2 a1) (g := 1) (x := v4) (by omega)
  refine v_cv rfl rfl rfl (ck_sh hs) (by omega) ⟨⟨rfl, rfl⟩, by decide, rfl⟩ (Nat.le_of_ble_eq_true rfl) (Nat.le_of_ble_eq_true rfl) (s_48 (v1 := v1) (v2 := v2) (v3 := v4) (r := (fal v1 (tb v2 a1) 1 v4)) (a1 := a1) (a2 := a2) (a3 := 1) hI hs (show 0 ≤ a1 ∧ a1 ≤ 3 from by omega) (show 0 ≤ a2 ∧ a2 ≤ 5 from by omega) (show 0 ≤ 1 ∧ 1 ≤ 3 from by omega) ((hv0)) ((hv1)) ((hv3)) rfl ?_)
  refine bk_inl ?_
  refine v_iadd (v := (fal v1 (tb v2 a1) 0 v3) + (fal v1 (tb v2 a1) 1 v4)) rfl (by omega) ?_
  refine q_istore_n rfl (by decide) ?_
  refine Wp_ls [(3, vi ((fal v1 (tb v2 a1) 0 v3) + (fal v1 (tb v2 a1) 1 v4))), (4, vi 1), (0, .ref sh), (1, vi a1), (2, vi a2)] (lsub_cons rfl (lsub_cons rfl (lsub_cons rfl (lsub_cons rfl (lsub_cons rfl lsub_nil))))) ?_
  refine v_iinc (v := 2) rfl rfl (by decide) (by decide) ?_
  refine q_goto (t := 5) rfl (by decide) ?_
  refine q_iload rfl rfl ?_
  refine q_iconst rfl ?_
  refine v_ic_ge_f (t := 28) rfl (by decide) (by decide) ?_
  refine q_iload_n rfl rfl ?_
  refine q_aload_n rfl rfl ?_
  refine q_iload_n rfl rfl ?_
  refine q_iload_n rfl rfl ?_
  refine q_iload rfl rfl ?_
  have h_9 := fal_rng (m := v1) (t := tb v2 a1) (g := 2) (x := v5) (by omega)
  refine v_cv rfl rfl rfl (ck_sh hs) (by omega) ⟨⟨rfl, rfl⟩, by decide, rfl⟩ (Nat.le_of_ble_eq_true rfl) (Nat.le_of_ble_eq_true rfl) (s_48 (v1 := v1) (v2 := v2) (v3 := v5) (r := (fal v1 (tb v2 a1) 2 v5)) (a1 := a1) (a2 := a2) (a3 := 2) hI hs (show 0 ≤ a1 ∧ a1 ≤ 3 from by omega) (show 0 ≤ a2 ∧ a2 ≤ 5 from by omega) (show 0 ≤ 2 ∧ 2 ≤ 3 from by omega) ((hv0)) ((hv1)) ((hv4)) rfl ?_)
  refine bk_inl ?_
  refine v_iadd (v := (fal v1 (tb v2 a1) 0 v3) + (fal v1 (tb v2 a1) 1 v4) + (fal v1 (tb v2 a1) 2 v5)) rfl (by omega) ?_
  refine q_istore_n rfl (by decide) ?_
  refine v_iinc (v := 3) rfl rfl (by decide) (by decide) ?_
  refine q_goto (t := 5) rfl (by decide) ?_
  refine q_iload rfl rfl ?_
  refine q_iconst rfl ?_
  refine v_ic_ge_f (t := 28) rfl (by decide) (by decide) ?_
  refine q_iload_n rfl rfl ?_
  refine q_aload_n rfl rfl ?_
  refine q_iload_n rfl rfl ?_
  refine q_iload_n rfl rfl ?_
  refine q_iload rfl rfl ?_
  have h_10 := fal_rng (m := v1) (t := tb v2 a1) (g := 3) (x := v6) (by omega)
  refine v_cv rfl rfl rfl (ck_sh hs) (by omega) ⟨⟨rfl, rfl⟩, by decide, rfl⟩ (Nat.le_of_ble_eq_true rfl) (Nat.le_of_ble_eq_true rfl) (s_48 (v1 := v1) (v2 := v2) (v3 := v6) (r := (fal v1 (tb v2 a1) 3 v6)) (a1 := a1) (a2 := a2) (a3 := 3) hI hs (show 0 ≤ a1 ∧ a1 ≤ 3 from by omega) (show 0 ≤ a2 ∧ a2 ≤ 5 from by omega) (show 0 ≤ 3 ∧ 3 ≤ 3 from by omega) ((hv0)) ((hv1)) ((hv5)) rfl ?_)
  refine bk_inl ?_
  refine v_iadd (v := (fal v1 (tb v2 a1) 0 v3) + (fal v1 (tb v2 a1) 1 v4) + (fal v1 (tb v2 a1) 2 v5) + (fal v1 (tb v2 a1) 3 v6)) rfl (by omega) ?_
  refine q_istore_n rfl (by decide) ?_
  refine v_iinc (v := 4) rfl rfl (by decide) (by decide) ?_
  refine Wp_ls [(4, vi 4), (3, vi ((fal v1 (tb v2 a1) 0 v3) + (fal v1 (tb v2 a1) 1 v4) + (fal v1 (tb v2 a1) 2 v5) + (fal v1 (tb v2 a1) 3 v6))), (0, .ref sh), (1, vi a1), (2, vi a2)] (lsub_cons rfl (lsub_cons rfl (lsub_cons rfl (lsub_cons rfl (lsub_cons rfl lsub_nil))))) ?_
  refine q_goto (t := 5) rfl (by decide) ?_
  refine q_iload rfl rfl ?_
  refine q_iconst rfl ?_
  refine v_ic_ge_t (t := 28) rfl (by decide) (by decide) ?_
  refine q_iload_n rfl rfl ?_
  refine q_iret rfl rfl ?_
  exact zv (by omega) (K)

set_option maxRecDepth 100000 in
set_option maxHeartbeats 4000000 in
theorem s_51 {sc : List Int32} {e : Int} {d u P Q sh s : Nat} {c : ME} {a1 : Int} {Z : AR → Prop} (hI : Iv u e P Q c) (hs : (sh = 37 ∧ s = 38) ∨ (sh = 39 ∧ s = 40)) (ha1 : 0 ≤ a1 ∧ a1 ≤ 5) (K : ∀ (y : Int), (-2147483648) ≤ y ∧ y ≤ 2147483647 → Z (.inl (some (vi y)), Wd P Q P P c, 0, 0)) : Wp sc (d + 7) 51 0 [(0, .ref sh), (1, vi a1)] [] (Wd P Q P P c) 0 0 Z := by
  have hP := iv_P hI
  have hQ := iv_Q hI
  refine q_aload_n rfl rfl ?_
  refine v_gr (t := s) rfl rfl (ck_sh hs) (by omega) rfl ?_
  refine v_bip rfl (by decide) ?_
  refine q_iload_n rfl rfl ?_
  refine v_iadd (v := a1 + 24) rfl (by omega) ?_
  have h_1 := ir_s hI hs (a1 + 24)
  refine v_ia (v := c s (a1 + 24)) rfl (ck_s hs) (by omega) (by decide) (by omega) rfl ?_
  refine q_iret rfl rfl ?_
  exact K (c s (a1 + 24)) ⟨by omega, by omega⟩

set_option maxRecDepth 100000 in
set_option maxHeartbeats 4000000 in
theorem s_52 {sc : List Int32} {d P Q sh s : Nat} {c : ME} {a1 : Int} {a2 : Int} {a3 : Int} {a4 : Int} {Z : AR → Prop} (hI : Iv s (-1) P Q c) (hs : (sh = 37 ∧ s = 38) ∨ (sh = 39 ∧ s = 40)) (ha1 : 0 ≤ a1 ∧ a1 ≤ 5) (ha2 : 0 ≤ a2 ∧ a2 ≤ 5) (ha3 : 0 ≤ a3 ∧ a3 ≤ 3) (ha4 : 0 ≤ a4 ∧ a4 ≤ 9999) (hq0 : (a1 < a2) ∨ (a1 > a2)) (hq1 : (a4 ≤ c s (4 * a1 + a3))) (hq2 : (a4 + c s (4 * a2 + a3) ≤ 9999)) (K : ∀ (c2 : ME), Iv s (-1) P Q c2 → (∀ (a : Nat) (j : Int), ¬ ((a = s ∧ j = 4 * a1 + a3) ∨ (a = s ∧ j = 4 * a2 + a3) ∨ (a = s ∧ j = a2 + 24)) → c2 a j = c a j) → ((c2 s (4 * a1 + a3) = c s (4 * a1 + a3) - a4 ∧ c2 s (4 * a2 + a3) = a4 + c s (4 * a2 + a3))) → Z (.inl (none), Wd P Q P P c2, 0, 0)) : Wp sc (d + 8) 52 0 [(0, .ref sh), (1, vi a1), (2, vi a2), (3, vi a3), (4, vi a4)] [] (Wd P Q P P c) 0 0 Z := by
  have hP := iv_P hI
  have hQ := iv_Q hI
  have h_1 := ir_s_g hI hs (j := 4 * a1 + a3) (by omega)
  have h_2 := ir_s_g hI hs (j := 4 * a2 + a3) (by omega)
  refine q_iload rfl rfl ?_
  by_cases h_3 : a4 ≤ 0
  · refine v_if_le_t (t := 57) rfl (by decide) (by omega) ?_
    refine q_vret rfl rfl ?_
    exact K c hI (fun a j hm => rfl) (by omega)
  · refine v_if_le_f (t := 57) rfl (by decide) (by omega) ?_
    refine q_aload_n rfl rfl ?_
    refine v_gr (t := s) rfl rfl (ck_sh hs) (by omega) rfl ?_
    refine q_iload_n rfl rfl ?_
    refine q_iconst rfl ?_
    refine v_imul (v := 4 * a1) rfl (by omega) ?_
    refine q_iload_n rfl rfl ?_
    refine v_iadd (v := 4 * a1 + a3) rfl (by omega) ?_
    refine q_dup2 rfl ⟨rfl, rfl⟩ ?_
    refine v_ia (v := c s (4 * a1 + a3)) rfl (ck_s hs) (by omega) (by decide) (by omega) rfl ?_
    refine q_iload rfl rfl ?_
    refine v_isub (v := c s (4 * a1 + a3) - a4) rfl (by omega) ?_
    refine v_is rfl (ck_s hs) (by omega) (by decide) (by omega) ?_
    refine q_aload_n rfl rfl ?_
    refine v_gr (t := s) rfl rfl (ck_sh hs) (by omega) rfl ?_
    refine q_iload_n rfl rfl ?_
    refine q_iconst rfl ?_
    refine v_imul (v := 4 * a2) rfl (by omega) ?_
    refine q_iload_n rfl rfl ?_
    refine v_iadd (v := 4 * a2 + a3) rfl (by omega) ?_
    refine q_dup2 rfl ⟨rfl, rfl⟩ ?_
    refine v_ia (v := c s (4 * a2 + a3)) rfl (ck_s hs) (by omega) (by decide) (by omega) (up_n (by omega)) ?_
    refine q_iload rfl rfl ?_
    refine v_iadd (v := a4 + c s (4 * a2 + a3)) rfl (by omega) ?_
    refine v_is rfl (ck_s hs) (by omega) (by decide) (by omega) ?_
    refine q_aload_n rfl rfl ?_
    refine v_gr (t := s) rfl rfl (ck_sh hs) (by omega) rfl ?_
    refine v_bip rfl (by decide) ?_
    refine q_iload_n rfl rfl ?_
    refine v_iadd (v := a2 + 24) rfl (by omega) ?_
    refine q_aload_n rfl rfl ?_
    refine q_iload_n rfl rfl ?_
    have hI_4 := iw_row (a := s) (j := 4 * a1 + a3) (v := c s (4 * a1 + a3) - a4) hI (by omega) (Or.inl rfl) ⟨by omega, by omega, by omega⟩
    have hI_5 := iw_row (a := s) (j := 4 * a2 + a3) (v := a4 + c s (4 * a2 + a3)) hI_4 (by omega) (Or.inl rfl) ⟨by omega, by omega, by omega⟩
    refine v_cv rfl rfl rfl (ck_sh hs) (by omega) ⟨⟨rfl, rfl⟩, by decide, rfl⟩ (Nat.le_of_ble_eq_true rfl) (Nat.le_of_ble_eq_true rfl) (s_51 (a1 := a2) hI_5 hs (show 0 ≤ a2 ∧ a2 ≤ 5 from by omega) (fun y_6 hy_6 => ?_))
    refine bk_inl ?_
    refine q_aload_n rfl rfl ?_
    refine q_iload_n rfl rfl ?_
    refine v_cv rfl rfl rfl (ck_sh hs) (by omega) ⟨⟨rfl, rfl⟩, by decide, rfl⟩ (Nat.le_of_ble_eq_true rfl) (Nat.le_of_ble_eq_true rfl) (s_51 (a1 := a1) hI_5 hs (show 0 ≤ a1 ∧ a1 ≤ 5 from by omega) (fun y_7 hy_7 => ?_))
    refine bk_inl ?_
    refine v_maxx rfl rfl (by omega) (Nat.le_of_ble_eq_true rfl) ⟨by omega, by omega, by omega, by omega⟩ (fun y_8 hy_8 => ?_)
    refine v_is rfl (ck_s hs) (by omega) (by decide) (by omega) ?_
    refine q_vret rfl rfl ?_
    have hI_9 := iw_row (a := s) (j := a2 + 24) (v := y_8) hI_5 (by omega) (Or.inr (by omega)) ⟨by omega, by omega, by omega⟩
    have h_10 : (up (up (up c s (4 * a1 + a3) (c s (4 * a1 + a3) - a4)) s (4 * a2 + a3) (a4 + c s (4 * a2 + a3))) s (a2 + 24) y_8) s (4 * a1 + a3) = c s (4 * a1 + a3) - a4 := ((up_n (by omega)).trans ((up_n (by omega)).trans (up_e rfl)))
    have h_11 : (up (up (up c s (4 * a1 + a3) (c s (4 * a1 + a3) - a4)) s (4 * a2 + a3) (a4 + c s (4 * a2 + a3))) s (a2 + 24) y_8) s (4 * a2 + a3) = a4 + c s (4 * a2 + a3) := ((up_n (by omega)).trans (up_e rfl))
    exact K (up (up (up c s (4 * a1 + a3) (c s (4 * a1 + a3) - a4)) s (4 * a2 + a3) (a4 + c s (4 * a2 + a3))) s (a2 + 24) y_8) hI_9 (fun a j hm => (up_b (by omega)).trans ((up_b (by omega)).trans (up_b (by omega)))) (by omega)

