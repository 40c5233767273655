/-! ===== contracts 6 ===== -/
set_option maxRecDepth 100000 in
set_option maxHeartbeats 4000000 in
theorem s_55 {sc : List Int32} {d P Q sh s : Nat} {c : ME} {a1 : Int} {a2 : Int} {Z : AR → Prop} (hI : Iv 0 (-1) P Q c) (hs : (sh = 37 ∧ s = 38) ∨ (sh = 39 ∧ s = 40)) (ha1 : 0 ≤ a1 ∧ a1 ≤ 5) (ha2 : 0 ≤ a2 ∧ a2 ≤ 5) (K : ∀ (c2 : ME) (y : Int), Iv 0 (-1) P Q c2 → (∀ (a : Nat) (j : Int), ¬ (a = s) → c2 a j = c a j) → 0 ≤ y ∧ y ≤ 1 → Z (.inl (some (vi y)), Wd P Q P P c2, 0, 0)) : Wp sc (d + 10) 55 0 [(0, .ref sh), (1, vi a1), (2, vi a2)] [] (Wd P Q P P c) 0 0 Z := by
  have hP := iv_P hI
  have hQ := iv_Q hI
  refine q_aload_n rfl rfl ?_
  refine q_iload_n rfl rfl ?_
  have h_1 := ir_s_g hI hs (j := 4 * a1) (by omega)
  have h_2 := ir_s_g hI hs (j := 4 * a1 + 1) (by omega)
  have h_3 := ir_s_g hI hs (j := 4 * a1 + 2) (by omega)
  have h_4 := ir_s_g hI hs (j := 4 * a1 + 3) (by omega)
  refine v_cv rfl rfl rfl (ck_sh hs) (by omega) ⟨⟨rfl, rfl⟩, by decide, rfl⟩ (Nat.le_of_ble_eq_true rfl) (Nat.le_of_ble_eq_true rfl) (s_43 (v1 := c s (4 * a1)) (v2 := c s (4 * a1 + 1)) (v3 := c s (4 * a1 + 2)) (v4 := c s (4 * a1 + 3)) (r := c s (4 * a1 + 1) + c s (4 * a1 + 2) + c s (4 * a1 + 3) + c s (4 * a1)) (a1 := a1) hI hs (show 0 ≤ a1 ∧ a1 ≤ 5 from by omega) (rfl) (rfl) (rfl) (rfl) (by omega) ?_)
  refine bk_inl ?_
  refine q_istore_n rfl (by decide) ?_
  refine q_iload_n rfl rfl ?_
  by_cases h_5 : c s (4 * a1 + 1) + c s (4 * a1 + 2) + c s (4 * a1 + 3) + c s (4 * a1) ≤ 0
  · refine v_if_le_t (t := 24) rfl (by decide) (by omega) ?_
    refine q_iconst rfl ?_
    refine v_zret rfl rfl (by omega) ?_
    exact K c 0 hI (fun a j hm => rfl) ⟨by decide, by decide⟩
  · refine v_if_le_f (t := 24) rfl (by decide) (by omega) ?_
    refine q_aload_n rfl rfl ?_
    refine q_iload_n rfl rfl ?_
    refine q_iload_n rfl rfl ?_
    refine q_iload_n rfl rfl ?_
    refine v_cv rfl rfl rfl (ck_sh hs) (by omega) ⟨⟨rfl, rfl⟩, by decide, rfl⟩ (Nat.le_of_ble_eq_true rfl) (Nat.le_of_ble_eq_true rfl) (s_54 (a1 := a1) (a2 := a2) (a3 := c s (4 * a1 + 1) + c s (4 * a1 + 2) + c s (4 * a1 + 3) + c s (4 * a1)) hI hs (show 0 ≤ a1 ∧ a1 ≤ 5 from by omega) (show 0 ≤ a2 ∧ a2 ≤ 5 from by omega) (show 0 ≤ c s (4 * a1 + 1) + c s (4 * a1 + 2) + c s (4 * a1 + 3) + c s (4 * a1) ∧ c s (4 * a1 + 1) + c s (4 * a1 + 2) + c s (4 * a1 + 3) + c s (4 * a1) ≤ 99999 from by omega) (fun c_6 y_9 hI_7 hF_8 hy_9 => ?_))
    refine bk_inl ?_
    by_cases h_10 : y_9 = 0
    · refine v_if_eq_t (t := 24) rfl (by decide) (by omega) ?_
      refine q_iconst rfl ?_
      refine v_zret rfl rfl (by omega) ?_
      exact K c_6 0 hI_7 (fun a j hm => hF_8 a j (by omega)) ⟨by decide, by decide⟩
    · refine v_if_eq_f (t := 24) rfl (by decide) (by omega) ?_
      refine q_iconst rfl ?_
      refine q_goto (t := 25) rfl (by decide) ?_
      refine v_zret rfl rfl (by omega) ?_
      exact K c_6 1 hI_7 (fun a j hm => hF_8 a j (by omega)) ⟨by decide, by decide⟩

set_option maxRecDepth 100000 in
set_option maxHeartbeats 4000000 in
theorem s_56 {sc : List Int32} {e : Int} {d u P Q sh s : Nat} {c : ME} {a1 : Int} {Z : AR → Prop} (hI : Iv u e P Q c) (hs : (sh = 37 ∧ s = 38) ∨ (sh = 39 ∧ s = 40)) (ha1 : 0 ≤ a1 ∧ a1 ≤ 5) (K : ∀ (c2 : ME) (y : Int), Iv u e P Q c2 → (∀ (a : Nat) (j : Int), ¬ (a = (P + 10) ∨ a = (P + 11)) → c2 a j = c a j) → 0 ≤ y ∧ y ≤ 99 → Z (.inl (some (vi y)), Wd P Q P P c2, 0, 0)) : Wp sc (d + 9) 56 0 [(0, .ref sh), (1, vi a1)] [] (Wd P Q P P c) 0 0 Z := by
  have hP := iv_P hI
  have hQ := iv_Q hI
  refine q_iload_n rfl rfl ?_
  refine q_iconst rfl ?_
  refine v_imul (v := 4 * a1) rfl (by omega) ?_
  refine q_istore_n rfl (by decide) ?_
  refine q_aload_n rfl rfl ?_
  refine v_gr (t := P) rfl rfl (ck_sh hs) (by omega) rfl ?_
  refine v_gr (t := (P + 7)) rfl rfl (ck_p0 hP) (by omega) rfl ?_
  refine q_aload_n rfl rfl ?_
  refine v_gr (t := s) rfl rfl (ck_sh hs) (by omega) rfl ?_
  refine q_iload_n rfl rfl ?_
  have h_1 := ir_s_g hI hs (j := 4 * a1) (by omega)
  refine v_ia (v := c s (4 * a1)) rfl (ck_s hs) (by omega) (by decide) (by omega) rfl ?_
  refine q_aload_n rfl rfl ?_
  refine v_gr (t := s) rfl rfl (ck_sh hs) (by omega) rfl ?_
  refine q_iload_n rfl rfl ?_
  refine q_iconst rfl ?_
  refine v_iadd (v := 4 * a1 + 1) rfl (by omega) ?_
  have h_2 := ir_s_g hI hs (j := 4 * a1 + 1) (by omega)
  refine v_ia (v := c s (4 * a1 + 1)) rfl (ck_s hs) (by omega) (by decide) (by omega) rfl ?_
  refine q_aload_n rfl rfl ?_
  refine v_gr (t := s) rfl rfl (ck_sh hs) (by omega) rfl ?_
  refine q_iload_n rfl rfl ?_
  refine q_iconst rfl ?_
  refine v_iadd (v := 4 * a1 + 2) rfl (by omega) ?_
  have h_3 := ir_s_g hI hs (j := 4 * a1 + 2) (by omega)
  refine v_ia (v := c s (4 * a1 + 2)) rfl (ck_s hs) (by omega) (by decide) (by omega) rfl ?_
  refine q_aload_n rfl rfl ?_
  refine v_gr (t := s) rfl rfl (ck_sh hs) (by omega) rfl ?_
  refine q_iload_n rfl rfl ?_
  refine q_iconst rfl ?_
  refine v_iadd (v := 4 * a1 + 3) rfl (by omega) ?_
  have h_4 := ir_s_g hI hs (j := 4 * a1 + 3) (by omega)
  refine v_ia (v := c s (4 * a1 + 3)) rfl (ck_s hs) (by omega) (by decide) (by omega) rfl ?_
  refine q_aload_n rfl rfl ?_
  refine q_iload_n rfl rfl ?_
  refine v_cv rfl rfl rfl (ck_sh hs) (by omega) ⟨⟨rfl, rfl⟩, by decide, rfl⟩ (Nat.le_of_ble_eq_true rfl) (Nat.le_of_ble_eq_true rfl) (s_51 (a1 := a1) hI hs (show 0 ≤ a1 ∧ a1 ≤ 5 from by omega) (fun y_5 hy_5 => ?_))
  refine bk_inl ?_
  refine q_aload_n rfl rfl ?_
  refine v_gr (t := s) rfl rfl (ck_sh hs) (by omega) rfl ?_
  refine v_bip rfl (by decide) ?_
  have h_6 := ir_s hI hs 31
  refine v_ia (v := c s 31) rfl (ck_s hs) (by omega) (by decide) (by decide) rfl ?_
  refine q_iload_n rfl rfl ?_
  refine v_cv rfl rfl rfl (ck_p7 hP) (by omega) ⟨⟨rfl, rfl⟩, by decide, rfl⟩ (Nat.le_of_ble_eq_true rfl) (Nat.le_of_ble_eq_true rfl) (s_20 (a1 := c s (4 * a1)) (a2 := c s (4 * a1 + 1)) (a3 := c s (4 * a1 + 2)) (a4 := c s (4 * a1 + 3)) (a5 := y_5) (a6 := c s 31) (a7 := a1) hI hP (show 0 ≤ c s (4 * a1) ∧ c s (4 * a1) ≤ 9999 from by omega) (show 0 ≤ c s (4 * a1 + 1) ∧ c s (4 * a1 + 1) ≤ 9999 from by omega) (show 0 ≤ c s (4 * a1 + 2) ∧ c s (4 * a1 + 2) ≤ 9999 from by omega) (show 0 ≤ c s (4 * a1 + 3) ∧ c s (4 * a1 + 3) ≤ 9999 from by omega) (show (-2147483648) ≤ y_5 ∧ y_5 ≤ 2147483647 from by omega) (show (-2147483648) ≤ c s 31 ∧ c s 31 ≤ 2147483647 from by omega) (show (-2147483648) ≤ a1 ∧ a1 ≤ 2147483647 from by omega) (fun c_7 y_10 hI_8 hF_9 hy_10 => ?_))
  refine bk_inl ?_
  refine q_iret rfl rfl ?_
  exact K c_7 y_10 hI_8 (fun a j hm => hF_9 a j (by omega)) ⟨by omega, by omega⟩

set_option maxRecDepth 100000 in
set_option maxHeartbeats 4000000 in
theorem s_57 {sc : List Int32} {e : Int} {d u P Q sh s : Nat} {c : ME} {a1 : Int} {Z : AR → Prop} (hI : Iv u e P Q c) (hs : (sh = 37 ∧ s = 38) ∨ (sh = 39 ∧ s = 40)) (ha1 : 0 ≤ a1 ∧ a1 ≤ 5) (K : ∀ (c2 : ME) (y : Int), Iv u e P Q c2 → (∀ (a : Nat) (j : Int), ¬ (a = (P + 10) ∨ a = (P + 11)) → c2 a j = c a j) → 0 ≤ y ∧ y ≤ 1 → Z (.inl (some (vi y)), Wd P Q P P c2, 0, 0)) : Wp sc (d + 10) 57 0 [(0, .ref sh), (1, vi a1)] [] (Wd P Q P P c) 0 0 Z := by
  have hP := iv_P hI
  have hQ := iv_Q hI
  refine q_aload_n rfl rfl ?_
  refine q_iload_n rfl rfl ?_
  have h_1 := ir_s_g hI hs (j := 4 * a1) (by omega)
  have h_2 := ir_s_g hI hs (j := 4 * a1 + 1) (by omega)
  have h_3 := ir_s_g hI hs (j := 4 * a1 + 2) (by omega)
  have h_4 := ir_s_g hI hs (j := 4 * a1 + 3) (by omega)
  refine v_cv rfl rfl rfl (ck_sh hs) (by omega) ⟨⟨rfl, rfl⟩, by decide, rfl⟩ (Nat.le_of_ble_eq_true rfl) (Nat.le_of_ble_eq_true rfl) (s_43 (v1 := c s (4 * a1)) (v2 := c s (4 * a1 + 1)) (v3 := c s (4 * a1 + 2)) (v4 := c s (4 * a1 + 3)) (r := c s (4 * a1 + 1) + c s (4 * a1 + 2) + c s (4 * a1 + 3) + c s (4 * a1)) (a1 := a1) hI hs (show 0 ≤ a1 ∧ a1 ≤ 5 from by omega) (rfl) (rfl) (rfl) (rfl) (by omega) ?_)
  refine bk_inl ?_
  by_cases h_5 : c s (4 * a1 + 1) + c s (4 * a1 + 2) + c s (4 * a1 + 3) + c s (4 * a1) ≤ 0
  · refine v_if_le_t (t := 22) rfl (by decide) (by omega) ?_
    refine q_iconst rfl ?_
    refine v_zret rfl rfl (by omega) ?_
    exact K c 0 hI (fun a j hm => rfl) ⟨by decide, by decide⟩
  · refine v_if_le_f (t := 22) rfl (by decide) (by omega) ?_
    refine q_aload_n rfl rfl ?_
    refine q_iload_n rfl rfl ?_
    refine v_cv rfl rfl rfl (ck_sh hs) (by omega) ⟨⟨rfl, rfl⟩, by decide, rfl⟩ (Nat.le_of_ble_eq_true rfl) (Nat.le_of_ble_eq_true rfl) (s_56 (a1 := a1) hI hs (show 0 ≤ a1 ∧ a1 ≤ 5 from by omega) (fun c_6 y_9 hI_7 hF_8 hy_9 => ?_))
    refine bk_inl ?_
    refine v_bip rfl (by decide) ?_
    by_cases h_10 : y_9 < 50
    · refine v_ic_lt_t (t := 22) rfl (by decide) (by omega) ?_
      refine q_iconst rfl ?_
      refine v_zret rfl rfl (by omega) ?_
      exact K c_6 0 hI_7 (fun a j hm => hF_8 a j (by omega)) ⟨by decide, by decide⟩
    · refine v_ic_lt_f (t := 22) rfl (by decide) (by omega) ?_
      refine q_iconst rfl ?_
      refine q_goto (t := 23) rfl (by decide) ?_
      refine v_zret rfl rfl (by omega) ?_
      exact K c_6 1 hI_7 (fun a j hm => hF_8 a j (by omega)) ⟨by decide, by decide⟩

set_option maxRecDepth 100000 in
set_option maxHeartbeats 4000000 in
theorem s_58 {sc : List Int32} {d P Q sh s : Nat} {c : ME} {a1 : Int} {Z : AR → Prop} (hI : Iv 0 (-1) P Q c) (hs : (sh = 37 ∧ s = 38) ∨ (sh = 39 ∧ s = 40)) (ha1 : 0 ≤ a1 ∧ a1 ≤ 5) (K : ∀ (c2 : ME) (y : Int), Iv 0 (-1) P Q c2 → (∀ (a : Nat) (j : Int), ¬ (a = s ∨ a = (P + 10) ∨ a = (P + 11)) → c2 a j = c a j) → 0 ≤ y ∧ y ≤ 1 → Z (.inl (some (vi y)), Wd P Q P P c2, 0, 0)) : Wp sc (d + 11) 58 0 [(0, .ref sh), (1, vi a1)] [] (Wd P Q P P c) 0 0 Z := by
  have hP := iv_P hI
  have hQ := iv_Q hI
  have hIo : Iv s (-1) P Q c := iv_open hI
  have hsum_1 := ir_s_r hI hs (by omega) (j := a1) (by omega)
  have h_2 := ir_s_g hI hs (j := 4 * a1) (by omega)
  have h_3 := ir_s_g hI hs (j := 4 * a1 + 1) (by omega)
  have h_4 := ir_s_g hI hs (j := 4 * a1 + 2) (by omega)
  have h_5 := ir_s_g hI hs (j := 4 * a1 + 3) (by omega)
  refine q_aload_n rfl rfl ?_
  refine q_iload_n rfl rfl ?_
  refine v_cv rfl rfl rfl (ck_sh hs) (by omega) ⟨⟨rfl, rfl⟩, by decide, rfl⟩ (Nat.le_of_ble_eq_true rfl) (Nat.le_of_ble_eq_true rfl) (s_57 (a1 := a1) hIo hs (show 0 ≤ a1 ∧ a1 ≤ 5 from by omega) (fun c_6 y_9 hI_7 hF_8 hy_9 => ?_))
  refine bk_inl ?_
  by_cases h_10 : y_9 ≠ 0
  · refine v_if_ne_t (t := 10) rfl (by decide) (by omega) ?_
    refine q_aload_n rfl rfl ?_
    refine v_gr (t := s) rfl rfl (ck_sh hs) (by omega) rfl ?_
    refine v_bip rfl (by decide) ?_
    refine q_dup2 rfl ⟨rfl, rfl⟩ ?_
    have h_11 := ir_s hI hs 33
    have kn_12 : Hid (c_6 s 33 = c s 33) := hF_8 s 33 (by omega)
    refine v_ia (v := c s 33) rfl (ck_s hs) (by omega) (by decide) (by decide) (hid kn_12) ?_
    refine q_aload_n rfl rfl ?_
    refine q_iload_n rfl rfl ?_
    have kn_13 : Hid (c_6 s (4 * a1) = c s (4 * a1)) := hF_8 s (4 * a1) (by omega)
    have kn_14 : Hid (c_6 s (4 * a1 + 1) = c s (4 * a1 + 1)) := hF_8 s (4 * a1 + 1) (by omega)
    have kn_15 : Hid (c_6 s (4 * a1 + 2) = c s (4 * a1 + 2)) := hF_8 s (4 * a1 + 2) (by omega)
    have kn_16 : Hid (c_6 s (4 * a1 + 3) = c s (4 * a1 + 3)) := hF_8 s (4 * a1 + 3) (by omega)
    refine v_cv rfl rfl rfl (ck_sh hs) (by omega) ⟨⟨rfl, rfl⟩, by decide, rfl⟩ (Nat.le_of_ble_eq_true rfl) (Nat.le_of_ble_eq_true rfl) (s_43 (v1 := c s (4 * a1)) (v2 := c s (4 * a1 + 1)) (v3 := c s (4 * a1 + 2)) (v4 := c s (4 * a1 + 3)) (r := c s (4 * a1 + 1) + c s (4 * a1 + 2) + c s (4 * a1 + 3) + c s (4 * a1)) (a1 := a1) hI_7 hs (show 0 ≤ a1 ∧ a1 ≤ 5 from by omega) ((hid kn_13)) ((hid kn_14)) ((hid kn_15)) ((hid kn_16)) (by omega) ?_)
    refine bk_inl ?_
    refine v_bip rfl (by decide) ?_
    refine v_idiv (v := ((c s (4 * a1 + 1) + c s (4 * a1 + 2) + c s (4 * a1 + 3) + c s (4 * a1)) / 10)) rfl (by omega) rfl ?_
    refine v_iadd (v := ((c s (4 * a1 + 1) + c s (4 * a1 + 2) + c s (4 * a1 + 3) + c s (4 * a1)) / 10) + c s 33) rfl (by omega) ?_
    refine v_nrm (fun y_17 hy_17 => ?_)
    refine v_is rfl (ck_s hs) (by omega) (by decide) (by decide) ?_
    refine q_iconst rfl ?_
    refine q_istore_n rfl (by decide) ?_
    refine q_iload_n rfl rfl ?_
    refine q_iconst rfl ?_
    refine v_ic_ge_f (t := 52) rfl (by decide) (by decide) ?_
    refine q_aload_n rfl rfl ?_
    refine v_gr (t := s) rfl rfl (ck_sh hs) (by omega) rfl ?_
    refine q_iload_n rfl rfl ?_
    refine q_iconst rfl ?_
    refine v_imul (v := 4 * a1) rfl (by omega) ?_
    refine q_iload_n rfl rfl ?_
    refine v_iadd (v := 4 * a1) rfl (by omega) ?_
    refine q_iconst rfl ?_
    refine v_is rfl (ck_s hs) (by omega) (by decide) (by omega) ?_
    refine v_iinc (v := 1) rfl rfl (by decide) (by decide) ?_
    refine q_goto (t := 30) rfl (by decide) ?_
    refine q_iload_n rfl rfl ?_
    refine q_iconst rfl ?_
    refine v_ic_ge_f (t := 52) rfl (by decide) (by decide) ?_
    refine q_aload_n rfl rfl ?_
    refine v_gr (t := s) rfl rfl (ck_sh hs) (by omega) rfl ?_
    refine q_iload_n rfl rfl ?_
    refine q_iconst rfl ?_
    refine v_imul (v := 4 * a1) rfl (by omega) ?_
    refine q_iload_n rfl rfl ?_
    refine v_iadd (v := 4 * a1 + 1) rfl (by omega) ?_
    refine q_iconst rfl ?_
    refine v_is rfl (ck_s hs) (by omega) (by decide) (by omega) ?_
    refine v_iinc (v := 2) rfl rfl (by decide) (by decide) ?_
    refine q_goto (t := 30) rfl (by decide) ?_
    refine q_iload_n rfl rfl ?_
    refine q_iconst rfl ?_
    refine v_ic_ge_f (t := 52) rfl (by decide) (by decide) ?_
    refine q_aload_n rfl rfl ?_
    refine v_gr (t := s) rfl rfl (ck_sh hs) (by omega) rfl ?_
    refine q_iload_n rfl rfl ?_
    refine q_iconst rfl ?_
    refine v_imul (v := 4 * a1) rfl (by omega) ?_
    refine q_iload_n rfl rfl ?_
    refine v_iadd (v := 4 * a1 + 2) rfl (by omega) ?_
    refine q_iconst rfl ?_
    refine v_is rfl (ck_s hs) (by omega) (by decide) (by omega) ?_
    refine v_iinc (v := 3) rfl rfl (by decide) (by decide) ?_
    refine q_goto (t := 30) rfl (by decide) ?_
    refine q_iload_n rfl rfl ?_
    refine q_iconst rfl ?_
    refine v_ic_ge_f (t := 52) rfl (by decide) (by decide) ?_
    refine q_aload_n rfl rfl ?_
    refine v_gr (t := s) rfl rfl (ck_sh hs) (by omega) rfl ?_
    refine q_iload_n rfl rfl ?_
    refine q_iconst rfl ?_
    refine v_imul (v := 4 * a1) rfl (by omega) ?_
    refine q_iload_n rfl rfl ?_
    refine v_iadd (v := 4 * a1 + 3) rfl (by omega) ?_
    refine q_iconst rfl ?_
    refine v_is rfl (ck_s hs) (by omega) (by decide) (by omega) ?_
    refine v_iinc (v := 4) rfl rfl (by decide) (by decide) ?_
    refine Wp_ls [(2, vi 4), (0, .ref sh), (1, vi a1)] (lsub_cons rfl (lsub_cons rfl (lsub_cons rfl lsub_nil))) ?_
    refine q_goto (t := 30) rfl (by decide) ?_
    refine q_iload_n rfl rfl ?_
    refine q_iconst rfl ?_
    refine v_ic_ge_t (t := 52) rfl (by decide) (by decide) ?_
    refine q_aload_n rfl rfl ?_
    refine v_gr (t := s) rfl rfl (ck_sh hs) (by omega) rfl ?_
    refine v_bip rfl (by decide) ?_
    refine q_iload_n rfl rfl ?_
    refine v_iadd (v := a1 + 24) rfl (by omega) ?_
    refine q_iconst rfl ?_
    refine v_is rfl (ck_s hs) (by omega) (by decide) (by omega) ?_
    refine q_iconst rfl ?_
    refine v_zret rfl rfl (by omega) ?_
    have hI_18 := iw_row (a := s) (j := 33) (v := y_17) hI_7 (by omega) (Or.inr (by omega)) ⟨by omega, by omega, by omega⟩
    have hI_19 := iw_row (a := s) (j := 4 * a1) (v := 0) hI_18 (by omega) (Or.inl rfl) ⟨by omega, by omega, by omega⟩
    have hI_20 := iw_row (a := s) (j := 4 * a1 + 1) (v := 0) hI_19 (by omega) (Or.inl rfl) ⟨by omega, by omega, by omega⟩
    have hI_21 := iw_row (a := s) (j := 4 * a1 + 2) (v := 0) hI_20 (by omega) (Or.inl rfl) ⟨by omega, by omega, by omega⟩
    have hI_22 := iw_row (a := s) (j := 4 * a1 + 3) (v := 0) hI_21 (by omega) (Or.inl rfl) ⟨by omega, by omega, by omega⟩
    have hI_23 := iw_row (a := s) (j := a1 + 24) (v := 0) hI_22 (by omega) (Or.inl rfl) ⟨by omega, by omega, by omega⟩
    have hr_24 : ∀ j : Int, rs s j → (up (up (up (up (up (up c_6 s 33 y_17) s (4 * a1) 0) s (4 * a1 + 1) 0) s (4 * a1 + 2) 0) s (4 * a1 + 3) 0) s (a1 + 24) 0) s j + (up (up (up (up (up (up c_6 s 33 y_17) s (4 * a1) 0) s (4 * a1 + 1) 0) s (4 * a1 + 2) 0) s (4 * a1 + 3) 0) s (a1 + 24) 0) s (j + 1) + (up (up (up (up (up (up c_6 s 33 y_17) s (4 * a1) 0) s (4 * a1 + 1) 0) s (4 * a1 + 2) 0) s (4 * a1 + 3) 0) s (a1 + 24) 0) s (j + 2) + (up (up (up (up (up (up c_6 s 33 y_17) s (4 * a1) 0) s (4 * a1 + 1) 0) s (4 * a1 + 2) 0) s (4 * a1 + 3) 0) s (a1 + 24) 0) s (j + 3) ≤ 9999 := by
      intro j9 hj9
      obtain ⟨k9, rfl, hk9⟩ := rs_s hs hj9
      by_cases e_25 : k9 = a1
      · skip
        have h_26 : (up (up (up (up (up (up c_6 s 33 y_17) s (4 * a1) 0) s (4 * a1 + 1) 0) s (4 * a1 + 2) 0) s (4 * a1 + 3) 0) s (a1 + 24) 0) s (4 * k9) = 0 := (congrArg ((up (up (up (up (up (up c_6 s 33 y_17) s (4 * a1) 0) s (4 * a1 + 1) 0) s (4 * a1 + 2) 0) s (4 * a1 + 3) 0) s (a1 + 24) 0) s) (show 4 * k9 = 4 * a1 from by omega)).trans ((up_n (by omega)).trans ((up_n (by omega)).trans ((up_n (by omega)).trans ((up_n (by omega)).trans (up_e rfl)))))
        have h_27 : (up (up (up (up (up (up c_6 s 33 y_17) s (4 * a1) 0) s (4 * a1 + 1) 0) s (4 * a1 + 2) 0) s (4 * a1 + 3) 0) s (a1 + 24) 0) s (4 * k9 + 1) = 0 := (congrArg ((up (up (up (up (up (up c_6 s 33 y_17) s (4 * a1) 0) s (4 * a1 + 1) 0) s (4 * a1 + 2) 0) s (4 * a1 + 3) 0) s (a1 + 24) 0) s) (show 4 * k9 + 1 = 4 * a1 + 1 from by omega)).trans ((up_n (by omega)).trans ((up_n (by omega)).trans ((up_n (by omega)).trans (up_e rfl))))
        have h_28 : (up (up (up (up (up (up c_6 s 33 y_17) s (4 * a1) 0) s (4 * a1 + 1) 0) s (4 * a1 + 2) 0) s (4 * a1 + 3) 0) s (a1 + 24) 0) s (4 * k9 + 2) = 0 := (congrArg ((up (up (up (up (up (up c_6 s 33 y_17) s (4 * a1) 0) s (4 * a1 + 1) 0) s (4 * a1 + 2) 0) s (4 * a1 + 3) 0) s (a1 + 24) 0) s) (show 4 * k9 + 2 = 4 * a1 + 2 from by omega)).trans ((up_n (by omega)).trans ((up_n (by omega)).trans (up_e rfl)))
        have h_29 : (up (up (up (up (up (up c_6 s 33 y_17) s (4 * a1) 0) s (4 * a1 + 1) 0) s (4 * a1 + 2) 0) s (4 * a1 + 3) 0) s (a1 + 24) 0) s (4 * k9 + 3) = 0 := (congrArg ((up (up (up (up (up (up c_6 s 33 y_17) s (4 * a1) 0) s (4 * a1 + 1) 0) s (4 * a1 + 2) 0) s (4 * a1 + 3) 0) s (a1 + 24) 0) s) (show 4 * k9 + 3 = 4 * a1 + 3 from by omega)).trans ((up_n (by omega)).trans (up_e rfl))
        omega
      have h_30 := iv_r hI s (4 * k9) hj9 (by omega)
      have h_31 := ir_s_g hI hs (j := 4 * k9) (by omega)
      have kn_32 : Hid (c_6 s (4 * k9) = c s (4 * k9)) := hF_8 s (4 * k9) (by omega)
      have h_33 : (up (up (up (up (up (up c_6 s 33 y_17) s (4 * a1) 0) s (4 * a1 + 1) 0) s (4 * a1 + 2) 0) s (4 * a1 + 3) 0) s (a1 + 24) 0) s (4 * k9) = c s (4 * k9) := ((up_n (by omega)).trans ((up_n (by omega)).trans ((up_n (by omega)).trans ((up_n (by omega)).trans ((up_n (by omega)).trans ((up_n (by omega)).trans (hid kn_32)))))))
      have h_34 := ir_s_g hI hs (j := 4 * k9 + 1) (by omega)
      have kn_35 : Hid (c_6 s (4 * k9 + 1) = c s (4 * k9 + 1)) := hF_8 s (4 * k9 + 1) (by omega)
      have h_36 : (up (up (up (up (up (up c_6 s 33 y_17) s (4 * a1) 0) s (4 * a1 + 1) 0) s (4 * a1 + 2) 0) s (4 * a1 + 3) 0) s (a1 + 24) 0) s (4 * k9 + 1) = c s (4 * k9 + 1) := ((up_n (by omega)).trans ((up_n (by omega)).trans ((up_n (by omega)).trans ((up_n (by omega)).trans ((up_n (by omega)).trans ((up_n (by omega)).trans (hid kn_35)))))))
      have h_37 := ir_s_g hI hs (j := 4 * k9 + 2) (by omega)
      have kn_38 : Hid (c_6 s (4 * k9 + 2) = c s (4 * k9 + 2)) := hF_8 s (4 * k9 + 2) (by omega)
      have h_39 : (up (up (up (up (up (up c_6 s 33 y_17) s (4 * a1) 0) s (4 * a1 + 1) 0) s (4 * a1 + 2) 0) s (4 * a1 + 3) 0) s (a1 + 24) 0) s (4 * k9 + 2) = c s (4 * k9 + 2) := ((up_n (by omega)).trans ((up_n (by omega)).trans ((up_n (by omega)).trans ((up_n (by omega)).trans ((up_n (by omega)).trans ((up_n (by omega)).trans (hid kn_38)))))))
      have h_40 := ir_s_g hI hs (j := 4 * k9 + 3) (by omega)
      have kn_41 : Hid (c_6 s (4 * k9 + 3) = c s (4 * k9 + 3)) := hF_8 s (4 * k9 + 3) (by omega)
      have h_42 : (up (up (up (up (up (up c_6 s 33 y_17) s (4 * a1) 0) s (4 * a1 + 1) 0) s (4 * a1 + 2) 0) s (4 * a1 + 3) 0) s (a1 + 24) 0) s (4 * k9 + 3) = c s (4 * k9 + 3) := ((up_n (by omega)).trans ((up_n (by omega)).trans ((up_n (by omega)).trans ((up_n (by omega)).trans ((up_n (by omega)).trans ((up_n (by omega)).trans (hid kn_41)))))))
      omega
    have hI_43 := iv_close hI_23 hr_24
    exact K (up (up (up (up (up (up c_6 s 33 y_17) s (4 * a1) 0) s (4 * a1 + 1) 0) s (4 * a1 + 2) 0) s (4 * a1 + 3) 0) s (a1 + 24) 0) 1 hI_43 (fun a j hm => (up_b (by omega)).trans ((up_b (by omega)).trans ((up_b (by omega)).trans ((up_b (by omega)).trans ((up_b (by omega)).trans ((up_b (by omega)).trans (hF_8 a j (by omega)))))))) ⟨by decide, by decide⟩
  · refine v_if_ne_f (t := 10) rfl (by decide) (by omega) ?_
    refine q_iconst rfl ?_
    refine v_zret rfl rfl (by omega) ?_
    have hr_44 : ∀ j : Int, rs s j → c_6 s j + c_6 s (j + 1) + c_6 s (j + 2) + c_6 s (j + 3) ≤ 9999 := by
      intro j9 hj9
      obtain ⟨k9, rfl, hk9⟩ := rs_s hs hj9
      by_cases e_45 : k9 = a1
      · skip
        have kn_46 : Hid (c_6 s (4 * a1) = c s (4 * a1)) := hF_8 s (4 * a1) (by omega)
        have h_47 : c_6 s (4 * k9) = c s (4 * a1) := (congrArg (c_6 s) (show 4 * k9 = 4 * a1 from by omega)).trans (hid kn_46)
        have kn_48 : Hid (c_6 s (4 * a1 + 1) = c s (4 * a1 + 1)) := hF_8 s (4 * a1 + 1) (by omega)
        have h_49 : c_6 s (4 * k9 + 1) = c s (4 * a1 + 1) := (congrArg (c_6 s) (show 4 * k9 + 1 = 4 * a1 + 1 from by omega)).trans (hid kn_48)
        have kn_50 : Hid (c_6 s (4 * a1 + 2) = c s (4 * a1 + 2)) := hF_8 s (4 * a1 + 2) (by omega)
        have h_51 : c_6 s (4 * k9 + 2) = c s (4 * a1 + 2) := (congrArg (c_6 s) (show 4 * k9 + 2 = 4 * a1 + 2 from by omega)).trans (hid kn_50)
        have kn_52 : Hid (c_6 s (4 * a1 + 3) = c s (4 * a1 + 3)) := hF_8 s (4 * a1 + 3) (by omega)
        have h_53 : c_6 s (4 * k9 + 3) = c s (4 * a1 + 3) := (congrArg (c_6 s) (show 4 * k9 + 3 = 4 * a1 + 3 from by omega)).trans (hid kn_52)
        omega
      have h_54 := iv_r hI s (4 * k9) hj9 (by omega)
      have h_55 := ir_s_g hI hs (j := 4 * k9) (by omega)
      have kn_56 : Hid (c_6 s (4 * k9) = c s (4 * k9)) := hF_8 s (4 * k9) (by omega)
      have h_57 : c_6 s (4 * k9) = c s (4 * k9) := (hid kn_56)
      have h_58 := ir_s_g hI hs (j := 4 * k9 + 1) (by omega)
      have kn_59 : Hid (c_6 s (4 * k9 + 1) = c s (4 * k9 + 1)) := hF_8 s (4 * k9 + 1) (by omega)
      have h_60 : c_6 s (4 * k9 + 1) = c s (4 * k9 + 1) := (hid kn_59)
      have h_61 := ir_s_g hI hs (j := 4 * k9 + 2) (by omega)
      have kn_62 : Hid (c_6 s (4 * k9 + 2) = c s (4 * k9 + 2)) := hF_8 s (4 * k9 + 2) (by omega)
      have h_63 : c_6 s (4 * k9 + 2) = c s (4 * k9 + 2) := (hid kn_62)
      have h_64 := ir_s_g hI hs (j := 4 * k9 + 3) (by omega)
      have kn_65 : Hid (c_6 s (4 * k9 + 3) = c s (4 * k9 + 3)) := hF_8 s (4 * k9 + 3) (by omega)
      have h_66 : c_6 s (4 * k9 + 3) = c s (4 * k9 + 3) := (hid kn_65)
      omega
    have hI_67 := iv_close hI_7 hr_44
    exact K c_6 0 hI_67 (fun a j hm => hF_8 a j (by omega)) ⟨by decide, by decide⟩

set_option maxRecDepth 100000 in
set_option maxHeartbeats 4000000 in
theorem s_59_l {sc : List Int32} {e : Int} {d u P Q sh s : Nat} {c : ME} {Z : AR → Prop} (hI : Iv u e P Q c) (hs : (sh = 37 ∧ s = 38) ∨ (sh = 39 ∧ s = 40)) (K : ∀ (c2 : ME), Iv u e P Q c2 → (∀ (a : Nat) (j : Int), ¬ (a = s) → c2 a j = c a j) → Z (.inl (none), Wd P Q P P c2, 0, 0)) : ∀ n : Nat, (∀ (c2 : ME) (v1 : Int), Iv u e P Q c2 → (∀ (a : Nat) (j : Int), ¬ (a = s) → c2 a j = c a j) → 0 ≤ v1 ∧ v1 ≤ 6 → 13 - 2 * v1 < (n : Int) → Wp sc (d + 8) 59 2 [(0, .ref sh), (1, vi v1)] [] (Wd P Q P P c2) 0 0 Z)
  | 0 => by intro c2 v1 hI2 hF hv1 hm9; have hP := iv_P hI; have hQ := iv_Q hI; exfalso; omega
  | n + 1 => by
    have hP := iv_P hI
    have hQ := iv_Q hI
    have ih := s_59_l (sc := sc) (d := d) hI hs K n
    intro c2 v1 hI2 hF hv1 hm9
    refine q_iload_n rfl rfl ?_
    refine q_aload_n rfl rfl ?_
    refine v_gr (t := P) rfl rfl (ck_sh hs) (by omega) rfl ?_
    have h_1 := ir_p0_0 hI hP
    have kn_2 : Hid (c2 P 0 = c P 0) := hF P 0 (by omega)
    refine v_gi (z := 0) (v := c P 0) rfl rfl (ck_p0 hP) (by omega) rfl rfl (hid kn_2) ?_
    by_cases h_3 : v1 ≥ c P 0
    · refine v_ic_ge_t (t := 40) rfl (by decide) (by omega) ?_
      refine q_aload_n rfl rfl ?_
      refine v_gr (t := s) rfl rfl (ck_sh hs) (by omega) rfl ?_
      refine v_bip rfl (by decide) ?_
      refine q_dup2 rfl ⟨rfl, rfl⟩ ?_
      have h_4 := ir_s hI2 hs 31
      refine v_ia (v := c2 s 31) rfl (ck_s hs) (by omega) (by decide) (by decide) rfl ?_
      refine q_iconst rfl ?_
      refine v_iadd (v := c2 s 31 + 1) rfl (by omega) ?_
      refine v_nrm (fun y_5 hy_5 => ?_)
      refine v_is rfl (ck_s hs) (by omega) (by decide) (by decide) ?_
      refine q_vret rfl rfl ?_
      have hI_6 := iw_row (a := s) (j := 31) (v := y_5) hI2 (by omega) (Or.inr (by omega)) ⟨by omega, by omega, by omega⟩
      exact K (up c2 s 31 y_5) hI_6 (fun a j hm => (up_b (by omega)).trans (hF a j (by omega)))
    · refine v_ic_ge_f (t := 40) rfl (by decide) (by omega) ?_
      refine q_aload_n rfl rfl ?_
      refine q_iload_n rfl rfl ?_
      have h_7 := ir_s_g hI2 hs (j := 4 * v1) (by omega)
      have h_8 := ir_s_g hI2 hs (j := 4 * v1 + 1) (by omega)
      have h_9 := ir_s_g hI2 hs (j := 4 * v1 + 2) (by omega)
      have h_10 := ir_s_g hI2 hs (j := 4 * v1 + 3) (by omega)
      refine v_cv rfl rfl rfl (ck_sh hs) (by omega) ⟨⟨rfl, rfl⟩, by decide, rfl⟩ (Nat.le_of_ble_eq_true rfl) (Nat.le_of_ble_eq_true rfl) (s_43 (v1 := c2 s (4 * v1)) (v2 := c2 s (4 * v1 + 1)) (v3 := c2 s (4 * v1 + 2)) (v4 := c2 s (4 * v1 + 3)) (r := c2 s (4 * v1 + 1) + c2 s (4 * v1 + 2) + c2 s (4 * v1 + 3) + c2 s (4 * v1)) (a1 := v1) hI2 hs (show 0 ≤ v1 ∧ v1 ≤ 5 from by omega) (rfl) (rfl) (rfl) (rfl) (by omega) ?_)
      refine bk_inl ?_
      by_cases h_11 : c2 s (4 * v1 + 1) + c2 s (4 * v1 + 2) + c2 s (4 * v1 + 3) + c2 s (4 * v1) ≤ 0
      · refine v_if_le_t (t := 34) rfl (by decide) (by omega) ?_
        refine v_iinc (v := v1 + 1) rfl rfl (by decide) (by omega) ?_
        refine q_goto (t := 2) rfl (by decide) ?_
        refine Wp_ls [(0, .ref sh), (1, vi (v1 + 1))] (lsub_cons rfl (lsub_cons rfl lsub_nil)) ?_
        exact ih c2 (v1 + 1) hI2 (fun a j hm => hF a j (by omega)) ⟨by omega, by omega⟩ (by omega)
      · refine v_if_le_f (t := 34) rfl (by decide) (by omega) ?_
        refine q_aload_n rfl rfl ?_
        refine v_gr (t := s) rfl rfl (ck_sh hs) (by omega) rfl ?_
        refine v_bip rfl (by decide) ?_
        refine q_iload_n rfl rfl ?_
        refine v_iadd (v := v1 + 24) rfl (by omega) ?_
        refine q_dup2 rfl ⟨rfl, rfl⟩ ?_
        have h_12 := ir_s hI2 hs (v1 + 24)
        refine v_ia (v := c2 s (v1 + 24)) rfl (ck_s hs) (by omega) (by decide) (by omega) rfl ?_
        refine q_iconst rfl ?_
        refine v_iadd (v := c2 s (v1 + 24) + 1) rfl (by omega) ?_
        refine v_nrm (fun y_13 hy_13 => ?_)
        refine v_is rfl (ck_s hs) (by omega) (by decide) (by omega) ?_
        refine v_iinc (v := v1 + 1) rfl rfl (by decide) (by omega) ?_
        refine q_goto (t := 2) rfl (by decide) ?_
        have hI_14 := iw_row (a := s) (j := v1 + 24) (v := y_13) hI2 (by omega) (Or.inr (by omega)) ⟨by omega, by omega, by omega⟩
        refine Wp_ls [(0, .ref sh), (1, vi (v1 + 1))] (lsub_cons rfl (lsub_cons rfl lsub_nil)) ?_
        exact ih (up c2 s (v1 + 24) y_13) (v1 + 1) hI_14 (fun a j hm => (up_b (by omega)).trans (hF a j (by omega))) ⟨by omega, by omega⟩ (by omega)
set_option maxRecDepth 100000 in
set_option maxHeartbeats 4000000 in
theorem s_59 {sc : List Int32} {e : Int} {d u P Q sh s : Nat} {c : ME} {Z : AR → Prop} (hI : Iv u e P Q c) (hs : (sh = 37 ∧ s = 38) ∨ (sh = 39 ∧ s = 40)) (K : ∀ (c2 : ME), Iv u e P Q c2 → (∀ (a : Nat) (j : Int), ¬ (a = s) → c2 a j = c a j) → Z (.inl (none), Wd P Q P P c2, 0, 0)) : Wp sc (d + 8) 59 0 [(0, .ref sh)] [] (Wd P Q P P c) 0 0 Z := by
  have hP := iv_P hI
  have hQ := iv_Q hI
  refine q_iconst rfl ?_
  refine q_istore_n rfl (by decide) ?_
  refine Wp_ls [(0, .ref sh), (1, vi 0)] (lsub_cons rfl (lsub_cons rfl lsub_nil)) ?_
  exact (s_59_l (sc := sc) (d := d) hI hs K 16) c 0 hI (fun a j hm => rfl) ⟨by decide, by decide⟩ (by omega)

set_option maxRecDepth 100000 in
set_option maxHeartbeats 4000000 in
theorem s_60 {sc : List Int32} {e : Int} {d u P Q sh s : Nat} {c : ME} {Z : AR → Prop} (hI : Iv u e P Q c) (hs : (sh = 37 ∧ s = 38) ∨ (sh = 39 ∧ s = 40)) (K : ∀ (c2 : ME) (y : Int), Iv u e P Q c2 → (∀ (a : Nat) (j : Int), ¬ (a = s) → c2 a j = c a j) → 0 ≤ y ∧ y ≤ 1 → Z (.inl (some (vi y)), Wd P Q P P c2, 0, 0)) : Wp sc (d + 9) 60 0 [(0, .ref sh)] [] (Wd P Q P P c) 0 0 Z := by
  have hP := iv_P hI
  have hQ := iv_Q hI
  refine q_aload_n rfl rfl ?_
  refine v_gr (t := s) rfl rfl (ck_sh hs) (by omega) rfl ?_
  refine v_bip rfl (by decide) ?_
  have h_1 := ir_s hI hs 31
  refine v_ia (v := c s 31) rfl (ck_s hs) (by omega) (by decide) (by decide) rfl ?_
  refine v_sip rfl (by decide) ?_
  by_cases h_2 : c s 31 < 400
  · refine v_ic_lt_t (t := 15) rfl (by decide) (by omega) ?_
    refine q_aload_n rfl rfl ?_
    refine v_cv rfl rfl rfl (ck_sh hs) (by omega) ⟨⟨rfl, rfl⟩, by decide, rfl⟩ (Nat.le_of_ble_eq_true rfl) (Nat.le_of_ble_eq_true rfl) (s_59 hI hs (fun c_3 hI_4 hF_5 => ?_))
    refine bk_inl ?_
    refine q_iconst rfl ?_
    refine v_zret rfl rfl (by omega) ?_
    exact K c_3 1 hI_4 (fun a j hm => hF_5 a j (by omega)) ⟨by decide, by decide⟩
  · refine v_ic_lt_f (t := 15) rfl (by decide) (by omega) ?_
    refine q_iconst rfl ?_
    refine v_zret rfl rfl (by omega) ?_
    exact K c 0 hI (fun a j hm => rfl) ⟨by decide, by decide⟩

set_option maxRecDepth 100000 in
set_option maxHeartbeats 4000000 in
theorem s_61 {sc : List Int32} {e : Int} {d u P Q sh s : Nat} {c : ME} {a1 : Int} {Z : AR → Prop} (hI : Iv u e P Q c) (hs : (sh = 37 ∧ s = 38) ∨ (sh = 39 ∧ s = 40)) (ha1 : (-2147483648) ≤ a1 ∧ a1 ≤ 2147483647) (K : ∀ (c2 : ME), Iv u e P Q c2 → (∀ (a : Nat) (j : Int), ¬ (a = s) → c2 a j = c a j) → Z (.inl (none), Wd P Q P P c2, 0, 0)) : Wp sc (d + 7) 61 0 [(0, .ref sh), (1, vi a1)] [] (Wd P Q P P c) 0 0 Z := by
  have hP := iv_P hI
  have hQ := iv_Q hI
  refine q_aload_n rfl rfl ?_
  refine v_gr (t := s) rfl rfl (ck_sh hs) (by omega) rfl ?_
  refine v_bip rfl (by decide) ?_
  refine q_dup2 rfl ⟨rfl, rfl⟩ ?_
  have h_1 := ir_s hI hs 30
  refine v_ia (v := c s 30) rfl (ck_s hs) (by omega) (by decide) (by decide) rfl ?_
  refine q_iconst rfl ?_
  refine q_iload_n rfl rfl ?_
  refine v_ishlx rfl (fun y_2 hy_2 => ?_)
  refine v_ixorx rfl (fun y_3 hy_3 => ?_)
  refine v_is rfl (ck_s hs) (by omega) (by decide) (by decide) ?_
  refine q_vret rfl rfl ?_
  have hI_4 := iw_row (a := s) (j := 30) (v := y_3) hI (by omega) (Or.inr (by omega)) ⟨by omega, by omega, by omega⟩
  exact K (up c s 30 y_3) hI_4 (fun a j hm => up_b (by omega))

set_option maxRecDepth 100000 in
set_option maxHeartbeats 4000000 in
theorem s_62 {sc : List Int32} {d P Q : Nat} {c : ME} {t : Int} {Z : AR → Prop} (hI : Iv 0 (-1) P Q c) (ht : 0 ≤ t ∧ t ≤ 37) (K : ∀ (c2 : ME) (y : Int), Iv 0 (-1) P Q c2 → (∀ (a : Nat) (j : Int), ¬ (a = 38 ∨ a = (P + 10) ∨ a = (P + 11)) → c2 a j = c a j) → 0 ≤ y ∧ y ≤ 1 → Z (.inl (some (vi y)), Wd P Q P P c2, 0, 0)) : Wp sc (d + 12) 62 0 [(0, .ref 7), (1, .ref 37), (2, vi (5 * t))] [] (Wd P Q P P c) 0 0 Z := by
  have hP := iv_P hI
  have hQ := iv_Q hI
  have h_1 := ir_8 hI (5 * t)
  have h_2 := ir_8 hI (5 * t + 1)
  have h_3 := ir_8 hI (5 * t + 2)
  have h_4 := ir_8_2 hI (j := 5 * t + 2) (by omega)
  have h_5 := ir_8 hI (5 * t + 3)
  have h_6 := ir_8 hI (5 * t + 4)
  have hso := ir_so (a := 8) hI (by unfold Sg; omega) (t := t) (by omega) (by omega)
  refine q_aload_n rfl rfl ?_
  refine v_gr (t := 8) rfl rfl rfl (by decide) rfl ?_
  refine q_iload_n rfl rfl ?_
  refine q_iconst rfl ?_
  refine v_iadd (v := 5 * t + 1) rfl (by omega) ?_
  refine v_ia (v := c 8 (5 * t + 1)) rfl rfl (by decide) (by decide) (by omega) rfl ?_
  refine q_istore_n rfl (by decide) ?_
  refine q_aload_n rfl rfl ?_
  refine v_gr (t := 8) rfl rfl rfl (by decide) rfl ?_
  refine q_iload_n rfl rfl ?_
  refine q_iconst rfl ?_
  refine v_iadd (v := 5 * t + 2) rfl (by omega) ?_
  refine v_ia (v := c 8 (5 * t + 2)) rfl rfl (by decide) (by decide) (by omega) rfl ?_
  refine q_istore rfl (by decide) ?_
  refine q_aload_n rfl rfl ?_
  refine v_gr (t := 8) rfl rfl rfl (by decide) rfl ?_
  refine q_iload_n rfl rfl ?_
  refine q_iconst rfl ?_
  refine v_iadd (v := 5 * t + 3) rfl (by omega) ?_
  refine v_ia (v := c 8 (5 * t + 3)) rfl rfl (by decide) (by decide) (by omega) rfl ?_
  refine q_istore rfl (by decide) ?_
  refine q_aload_n rfl rfl ?_
  refine v_gr (t := 8) rfl rfl rfl (by decide) rfl ?_
  refine q_iload_n rfl rfl ?_
  refine v_ia (v := c 8 (5 * t)) rfl rfl (by decide) (by decide) (by omega) rfl ?_
  by_cases h_7 : c 8 (5 * t) = 0
  · skip
    refine v_tsw_i (t := 76) 0 rfl (by omega) (by decide) rfl (by decide) ?_
    refine q_aload_n rfl rfl ?_
    refine q_iload_n rfl rfl ?_
    refine q_iload rfl rfl ?_
    refine v_cv rfl rfl rfl rfl (by decide) ⟨⟨rfl, rfl⟩, by decide, rfl⟩ (Nat.le_of_ble_eq_true rfl) (Nat.le_of_ble_eq_true rfl) (s_44 (a1 := c 8 (5 * t + 1)) (a2 := c 8 (5 * t + 2)) hI (by omega) (show 0 ≤ c 8 (5 * t + 1) ∧ c 8 (5 * t + 1) ≤ 3 from by omega) (show 0 ≤ c 8 (5 * t + 2) ∧ c 8 (5 * t + 2) ≤ 5 from by omega) (fun c_8 y_11 hI_9 hF_10 hy_11 => ?_))
    refine bk_inl ?_
    refine v_zret rfl rfl (by omega) ?_
    exact K c_8 y_11 hI_9 (fun a j hm => hF_10 a j (by omega)) ⟨by omega, by omega⟩
  by_cases h_12 : c 8 (5 * t) = 1
  · skip
    refine v_tsw_i (t := 84) 1 rfl (by omega) (by decide) rfl (by decide) ?_
    refine q_aload_n rfl rfl ?_
    refine q_iload_n rfl rfl ?_
    refine q_iload rfl rfl ?_
    refine q_iload rfl rfl ?_
    refine q_aload_n rfl rfl ?_
    refine v_gr (t := 8) rfl rfl rfl (by decide) rfl ?_
    refine q_iload_n rfl rfl ?_
    refine q_iconst rfl ?_
    refine v_iadd (v := 5 * t + 4) rfl (by omega) ?_
    refine v_ia (v := c 8 (5 * t + 4)) rfl rfl (by decide) (by decide) (by omega) rfl ?_
    refine v_cv rfl rfl rfl rfl (by decide) ⟨⟨rfl, rfl⟩, by decide, rfl⟩ (Nat.le_of_ble_eq_true rfl) (Nat.le_of_ble_eq_true rfl) (s_53 (a1 := c 8 (5 * t + 1)) (a2 := c 8 (5 * t + 2)) (a3 := c 8 (5 * t + 3)) (a4 := c 8 (5 * t + 4)) hI (by omega) (show 0 ≤ c 8 (5 * t + 1) ∧ c 8 (5 * t + 1) ≤ 3 from by omega) (show 0 ≤ c 8 (5 * t + 2) ∧ c 8 (5 * t + 2) ≤ 5 from by omega) (show 0 ≤ c 8 (5 * t + 3) ∧ c 8 (5 * t + 3) ≤ 5 from by omega) (show 0 ≤ c 8 (5 * t + 4) ∧ c 8 (5 * t + 4) ≤ 5 from by omega) (fun c_13 y_16 hI_14 hF_15 hy_16 => ?_))
    refine bk_inl ?_
    refine v_zret rfl rfl (by omega) ?_
    exact K c_13 y_16 hI_14 (fun a j hm => hF_15 a j (by omega)) ⟨by omega, by omega⟩
  by_cases h_17 : c 8 (5 * t) = 2
  · skip
    refine v_tsw_i (t := 102) 2 rfl (by omega) (by decide) rfl (by decide) ?_
    refine q_aload_n rfl rfl ?_
    refine q_iload_n rfl rfl ?_
    refine q_iload rfl rfl ?_
    refine v_cv rfl rfl rfl rfl (by decide) ⟨⟨rfl, rfl⟩, by decide, rfl⟩ (Nat.le_of_ble_eq_true rfl) (Nat.le_of_ble_eq_true rfl) (s_55 (a1 := c 8 (5 * t + 1)) (a2 := c 8 (5 * t + 2)) hI (by omega) (show 0 ≤ c 8 (5 * t + 1) ∧ c 8 (5 * t + 1) ≤ 5 from by omega) (show 0 ≤ c 8 (5 * t + 2) ∧ c 8 (5 * t + 2) ≤ 5 from by omega) (fun c_18 y_21 hI_19 hF_20 hy_21 => ?_))
    refine bk_inl ?_
    refine v_zret rfl rfl (by omega) ?_
    exact K c_18 y_21 hI_19 (fun a j hm => hF_20 a j (by omega)) ⟨by omega, by omega⟩
  by_cases h_22 : c 8 (5 * t) = 3
  · skip
    refine v_tsw_i (t := 110) 3 rfl (by omega) (by decide) rfl (by decide) ?_
    refine q_aload_n rfl rfl ?_
    refine q_iload_n rfl rfl ?_
    refine q_iload rfl rfl ?_
    refine q_iload rfl rfl ?_
    refine v_cv rfl rfl rfl rfl (by decide) ⟨⟨rfl, rfl⟩, by decide, rfl⟩ (Nat.le_of_ble_eq_true rfl) (Nat.le_of_ble_eq_true rfl) (s_54 (a1 := c 8 (5 * t + 1)) (a2 := c 8 (5 * t + 2)) (a3 := c 8 (5 * t + 3)) hI (by omega) (show 0 ≤ c 8 (5 * t + 1) ∧ c 8 (5 * t + 1) ≤ 5 from by omega) (show 0 ≤ c 8 (5 * t + 2) ∧ c 8 (5 * t + 2) ≤ 5 from by omega) (show 0 ≤ c 8 (5 * t + 3) ∧ c 8 (5 * t + 3) ≤ 99999 from by omega) (fun c_23 y_26 hI_24 hF_25 hy_26 => ?_))
    refine bk_inl ?_
    refine v_zret rfl rfl (by omega) ?_
    exact K c_23 y_26 hI_24 (fun a j hm => hF_25 a j (by omega)) ⟨by omega, by omega⟩
  by_cases h_27 : c 8 (5 * t) = 4
  · skip
    refine v_tsw_i (t := 131) 4 rfl (by omega) (by decide) rfl (by decide) ?_
    refine q_aload_n rfl rfl ?_
    refine q_iload_n rfl rfl ?_
    refine v_cv rfl rfl rfl rfl (by decide) ⟨⟨rfl, rfl⟩, by decide, rfl⟩ (Nat.le_of_ble_eq_true rfl) (Nat.le_of_ble_eq_true rfl) (s_61 (a1 := c 8 (5 * t + 1)) hI (by omega) (show (-2147483648) ≤ c 8 (5 * t + 1) ∧ c 8 (5 * t + 1) ≤ 2147483647 from by omega) (fun c_28 hI_29 hF_30 => ?_))
    refine bk_inl ?_
    refine q_iconst rfl ?_
    refine v_zret rfl rfl (by omega) ?_
    exact K c_28 1 hI_29 (fun a j hm => hF_30 a j (by omega)) ⟨by decide, by decide⟩
  by_cases h_31 : c 8 (5 * t) = 5
  · skip
    refine v_tsw_i (t := 120) 5 rfl (by omega) (by decide) rfl (by decide) ?_
    refine q_aload_n rfl rfl ?_
    refine q_iload_n rfl rfl ?_
    refine v_cv rfl rfl rfl rfl (by decide) ⟨⟨rfl, rfl⟩, by decide, rfl⟩ (Nat.le_of_ble_eq_true rfl) (Nat.le_of_ble_eq_true rfl) (s_58 (a1 := c 8 (5 * t + 1)) hI (by omega) (show 0 ≤ c 8 (5 * t + 1) ∧ c 8 (5 * t + 1) ≤ 5 from by omega) (fun c_32 y_35 hI_33 hF_34 hy_35 => ?_))
    refine bk_inl ?_
    refine v_zret rfl rfl (by omega) ?_
    exact K c_32 y_35 hI_33 (fun a j hm => hF_34 a j (by omega)) ⟨by omega, by omega⟩
  by_cases h_36 : c 8 (5 * t) = 6
  · skip
    refine v_tsw_i (t := 126) 6 rfl (by omega) (by decide) rfl (by decide) ?_
    refine q_aload_n rfl rfl ?_
    refine v_cv rfl rfl rfl rfl (by decide) ⟨⟨rfl, rfl⟩, by decide, rfl⟩ (Nat.le_of_ble_eq_true rfl) (Nat.le_of_ble_eq_true rfl) (s_60 hI (by omega) (fun c_37 y_40 hI_38 hF_39 hy_40 => ?_))
    refine bk_inl ?_
    refine v_zret rfl rfl (by omega) ?_
    exact K c_37 y_40 hI_38 (fun a j hm => hF_39 a j (by omega)) ⟨by omega, by omega⟩
  refine v_tsw_o (t := 131) rfl (by omega) (by decide) ?_
  refine q_aload_n rfl rfl ?_
  refine q_iload_n rfl rfl ?_
  refine v_cv rfl rfl rfl rfl (by decide) ⟨⟨rfl, rfl⟩, by decide, rfl⟩ (Nat.le_of_ble_eq_true rfl) (Nat.le_of_ble_eq_true rfl) (s_61 (a1 := c 8 (5 * t + 1)) hI (by omega) (show (-2147483648) ≤ c 8 (5 * t + 1) ∧ c 8 (5 * t + 1) ≤ 2147483647 from by omega) (fun c_41 hI_42 hF_43 => ?_))
  refine bk_inl ?_
  refine q_iconst rfl ?_
  refine v_zret rfl rfl (by omega) ?_
  exact K c_41 1 hI_42 (fun a j hm => hF_43 a j (by omega)) ⟨by decide, by decide⟩

set_option maxRecDepth 100000 in
set_option maxHeartbeats 4000000 in
theorem s_63_l {sc : List Int32} {d P Q : Nat} {c : ME} {a2 : Int} {a3 : Int} {a4 : Int} {Z : AR → Prop} (hI : Iv 0 (-1) P Q c) (ha2 : 0 ≤ a2 ∧ a2 ≤ 38) (ha3 : 0 ≤ a3 ∧ a3 ≤ 38) (ha4 : 0 ≤ a4 ∧ a4 ≤ 7) (H63 : ∀ (c : ME) (a2 : Int) (a3 : Int) (Z : AR → Prop), a4 + 1 ≤ 7 → Iv 0 (-1) P Q c → 0 ≤ a2 ∧ a2 ≤ 38 → 0 ≤ a3 ∧ a3 ≤ 38 → (∀ c2 : ME, Iv 0 (-1) P Q c2 → (∀ (a : Nat) (j : Int), ¬ ((a = 7 ∧ j = 1) ∨ (a = 7 ∧ j = 3) ∨ (a = 7 ∧ j = 4) ∨ a = 38 ∨ a = (P + 10) ∨ a = (P + 11)) → c2 a j = c a j) → (c2 7 1 ≥ c 7 1) → Z (.inl none, Wd P Q P P c2, 0, 0)) → Wp sc (d + 13) 63 0 [(0, .ref 7), (1, .ref 37), (2, vi a2), (3, vi a3), (4, vi (a4 + 1))] [] (Wd P Q P P c) 0 0 Z) (K : ∀ (c2 : ME), Iv 0 (-1) P Q c2 → (∀ (a : Nat) (j : Int), ¬ ((a = 7 ∧ j = 1) ∨ (a = 7 ∧ j = 3) ∨ (a = 7 ∧ j = 4) ∨ a = 38 ∨ a = (P + 10) ∨ a = (P + 11)) → c2 a j = c a j) → ((c2 7 1 ≥ c 7 1)) → Z (.inl (none), Wd P Q P P c2, 0, 0)) : ∀ n : Nat, (∀ (c2 : ME) (v5 : Int), Iv 0 (-1) P Q c2 → (∀ (a : Nat) (j : Int), ¬ ((a = 7 ∧ j = 1) ∨ (a = 7 ∧ j = 3) ∨ (a = 7 ∧ j = 4) ∨ a = 38 ∨ a = (P + 10) ∨ a = (P + 11)) → c2 a j = c a j) → 0 ≤ v5 ∧ v5 ≤ 38 → ((c2 7 1 ≥ c 7 1)) → 40002000 - 200010 * c2 7 1 < (n : Int) → Wp sc (d + 14) 63 3 [(0, .ref 7), (1, .ref 37), (2, vi a2), (3, vi a3), (4, vi a4), (5, vi v5)] [] (Wd P Q P P c2) 0 0 Z) ∧ (∀ (c2 : ME) (v5 : Int) (v6 : Int) (v7 : Int) (v8 : Int), Iv 0 (-1) P Q c2 → (∀ (a : Nat) (j : Int), ¬ ((a = 7 ∧ j = 1) ∨ (a = 7 ∧ j = 3) ∨ (a = 7 ∧ j = 4) ∨ a = 38 ∨ a = (P + 10) ∨ a = (P + 11)) → c2 a j = c a j) → 1 ≤ v5 ∧ v5 ≤ 38 → 0 ≤ v6 ∧ v6 ≤ 185 → 0 ≤ v7 ∧ v7 ≤ 38 → 0 ≤ v8 ∧ v8 ≤ 99999 → ((v6 = 5 * v5 - 5)) → ((v6 ≥ 0)) → ((a4 ≤ 6)) → ((c2 7 1 ≥ c 7 1)) → 40202003 - 200010 * c2 7 1 - 2 * v8 < (n : Int) → Wp sc (d + 14) 63 71 [(0, .ref 7), (1, .ref 37), (2, vi a2), (3, vi a3), (4, vi a4), (5, vi v5), (6, vi v6), (7, vi v7), (8, vi v8)] [] (Wd P Q P P c2) 0 0 Z)
  | 0 => by exact ⟨by (intro c2 v5 hI2 hF hv5 hx0 hm9; have hP := iv_P hI; have hQ := iv_Q hI; have h_45 := ir_7_1 hI2; exfalso; omega), by (intro c2 v5 v6 v7 v8 hI2 hF hv5 hv6 hv7 hv8 hx0 hx1 hx2 hx3 hm9; have hP := iv_P hI; have hQ := iv_Q hI; have h_46 := ir_7_1 hI2; exfalso; omega)⟩
  | n + 1 => by
    have hP := iv_P hI
    have hQ := iv_Q hI
    have ih := s_63_l (sc := sc) (d := d) hI ha2 ha3 ha4 H63 K n
    refine ⟨?_, ?_⟩
    · skip
      intro c2 v5 hI2 hF hv5 hx0 hm9
      have h_1 := ir_7_1 hI
      have h_2 := ir_7_1 hI2
      refine q_iload rfl rfl ?_
      refine q_iload_n rfl rfl ?_
      by_cases h_3 : v5 ≥ a3
      · refine v_ic_ge_t (t := 162) rfl (by decide) (by omega) ?_
        refine q_vret rfl rfl ?_
        exact K c2 hI2 (fun a j hm => hF a j (by omega)) (by omega)
      · refine v_ic_ge_f (t := 162) rfl (by decide) (by omega) ?_
        refine q_aload_n rfl rfl ?_
        refine v_gi (z := 1) (v := c2 7 1) rfl rfl rfl (by decide) rfl rfl rfl ?_
        refine v_sip rfl (by decide) ?_
        by_cases h_4 : c2 7 1 ≥ 200
        · refine v_ic_ge_t (t := 162) rfl (by decide) (by omega) ?_
          refine q_vret rfl rfl ?_
          exact K c2 hI2 (fun a j hm => hF a j (by omega)) (by omega)
        · refine v_ic_ge_f (t := 162) rfl (by decide) (by omega) ?_
          refine q_iload rfl rfl ?_
          refine v_bip rfl (by decide) ?_
          by_cases h_5 : a4 > 6
          · refine v_ic_gt_t (t := 162) rfl (by decide) (by omega) ?_
            refine q_vret rfl rfl ?_
            exact K c2 hI2 (fun a j hm => hF a j (by omega)) (by omega)
          · refine v_ic_gt_f (t := 162) rfl (by decide) (by omega) ?_
            refine q_iload rfl rfl ?_
            refine q_iconst rfl ?_
            refine v_imul (v := 5 * v5) rfl (by omega) ?_
            refine q_istore rfl (by decide) ?_
            refine q_aload_n rfl rfl ?_
            refine q_dup rfl rfl ?_
            refine v_gi (z := 1) (v := c2 7 1) rfl rfl rfl (by decide) rfl rfl rfl ?_
            refine q_iconst rfl ?_
            refine v_iadd (v := c2 7 1 + 1) rfl (by omega) ?_
            refine v_pi (z := 1) rfl rfl rfl (by decide) rfl rfl rfl (by decide) ?_
            refine v_iinc (v := v5 + 1) rfl rfl (by decide) (by omega) ?_
            refine q_aload_n rfl rfl ?_
            refine v_gr (t := 8) rfl rfl rfl (by decide) rfl ?_
            refine q_iload rfl rfl ?_
            have h_6 := ir_8 hI (5 * v5)
            have kn_7 : Hid (c2 8 (5 * v5) = c 8 (5 * v5)) := hF 8 (5 * v5) (by omega)
            refine v_ia (v := c 8 (5 * v5)) rfl rfl (by decide) (by decide) (by omega) ((up_c (by decide)).trans (hid kn_7)) ?_
            refine v_bip rfl (by decide) ?_
            by_cases h_8 : c 8 (5 * v5) ≠ 7
            · refine v_ic_ne_t (t := 126) rfl (by decide) (by omega) ?_
              refine q_aload_n rfl rfl ?_
              refine q_aload_n rfl rfl ?_
              refine q_iload rfl rfl ?_
              have hI_9 := iw_7_1 (v := c2 7 1 + 1) hI2 ⟨by omega, by omega⟩
              refine v_cv rfl rfl rfl rfl (by decide) ⟨⟨rfl, rfl⟩, by decide, rfl⟩ (Nat.le_of_ble_eq_true rfl) (Nat.le_of_ble_eq_true rfl) (s_62 (t := v5) hI_9 (show 0 ≤ v5 ∧ v5 ≤ 37 from by omega) (fun c_10 y_13 hI_11 hF_12 hy_13 => ?_))
              refine bk_inl ?_
              by_cases h_14 : y_13 = 0
              · refine v_if_eq_t (t := 149) rfl (by decide) (by omega) ?_
                refine q_aload_n rfl rfl ?_
                refine q_dup rfl rfl ?_
                have h_15 := ir_7_4 hI2
                have kn_16 : Hid (c_10 7 4 = c2 7 4) := (hF_12 7 4 (by omega)).trans (up_n (by decide))
                refine v_gi (z := 4) (v := c2 7 4) rfl rfl rfl (by decide) rfl rfl (hid kn_16) ?_
                refine q_iconst rfl ?_
                refine v_iadd (v := c2 7 4 + 1) rfl (by omega) ?_
                refine v_nrm (fun y_17 hy_17 => ?_)
                refine v_pi (z := 4) rfl rfl rfl (by decide) rfl rfl rfl (by decide) ?_
                refine q_goto (t := 3) rfl (by decide) ?_
                have hI_18 := iw_7_4 (v := y_17) hI_11 ⟨by omega, by omega⟩
                refine Wp_ls [(0, .ref 7), (1, .ref 37), (2, vi a2), (3, vi a3), (4, vi a4), (5, vi (v5 + 1))] (lsub_cons rfl (lsub_cons rfl (lsub_cons rfl (lsub_cons rfl (lsub_cons rfl (lsub_cons rfl lsub_nil)))))) ?_
                have kn_19 : Hid (c_10 7 1 = c2 7 1 + 1) := (hF_12 7 1 (by omega)).trans (up_e rfl)
                have h_20 : (up c_10 7 4 y_17) 7 1 = c2 7 1 + 1 := ((up_n (by decide)).trans (hid kn_19))
                exact ih.1 (up c_10 7 4 y_17) (v5 + 1) hI_18 (fun a j hm => (up_b (by omega)).trans ((hF_12 a j (by omega)).trans ((up_b (by omega)).trans (hF a j (by omega))))) ⟨by omega, by omega⟩ (by omega) (by omega)
              · refine v_if_eq_f (t := 149) rfl (by decide) (by omega) ?_
                refine q_aload_n rfl rfl ?_
                refine q_dup rfl rfl ?_
                have h_21 := ir_7_3 hI2
                have kn_22 : Hid (c_10 7 3 = c2 7 3) := (hF_12 7 3 (by omega)).trans (up_n (by decide))
                refine v_gi (z := 3) (v := c2 7 3) rfl rfl rfl (by decide) rfl rfl (hid kn_22) ?_
                refine q_iconst rfl ?_
                refine v_iadd (v := c2 7 3 + 1) rfl (by omega) ?_
                refine v_nrm (fun y_23 hy_23 => ?_)
                refine v_pi (z := 3) rfl rfl rfl (by decide) rfl rfl rfl (by decide) ?_
                refine q_goto (t := 159) rfl (by decide) ?_
                refine q_goto (t := 3) rfl (by decide) ?_
                have hI_24 := iw_7_3 (v := y_23) hI_11 ⟨by omega, by omega⟩
                refine Wp_ls [(0, .ref 7), (1, .ref 37), (2, vi a2), (3, vi a3), (4, vi a4), (5, vi (v5 + 1))] (lsub_cons rfl (lsub_cons rfl (lsub_cons rfl (lsub_cons rfl (lsub_cons rfl (lsub_cons rfl lsub_nil)))))) ?_
                have kn_25 : Hid (c_10 7 1 = c2 7 1 + 1) := (hF_12 7 1 (by omega)).trans (up_e rfl)
                have h_26 : (up c_10 7 3 y_23) 7 1 = c2 7 1 + 1 := ((up_n (by decide)).trans (hid kn_25))
                exact ih.1 (up c_10 7 3 y_23) (v5 + 1) hI_24 (fun a j hm => (up_b (by omega)).trans ((hF_12 a j (by omega)).trans ((up_b (by omega)).trans (hF a j (by omega))))) ⟨by omega, by omega⟩ (by omega) (by omega)
            · refine v_ic_ne_f (t := 126) rfl (by decide) (by omega) ?_
              refine q_aload_n rfl rfl ?_
              refine v_gr (t := 8) rfl rfl rfl (by decide) rfl ?_
              refine q_iload rfl rfl ?_
              refine q_iconst rfl ?_
              refine v_iadd (v := 5 * v5 + 2) rfl (by omega) ?_
              have h_27 := ir_8 hI (5 * v5 + 2)
              have h_28 := ir_8_2 hI (j := 5 * v5 + 2) (by omega)
              have kn_29 : Hid (c2 8 (5 * v5 + 2) = c 8 (5 * v5 + 2)) := hF 8 (5 * v5 + 2) (by omega)
              refine v_ia (v := c 8 (5 * v5 + 2)) rfl rfl (by decide) (by decide) (by omega) ((up_c (by decide)).trans (hid kn_29)) ?_
              refine q_istore rfl (by decide) ?_
              refine q_iconst rfl ?_
              refine q_istore rfl (by decide) ?_
              have hI_30 := iw_7_1 (v := c2 7 1 + 1) hI2 ⟨by omega, by omega⟩
              refine Wp_ls [(0, .ref 7), (1, .ref 37), (2, vi a2), (3, vi a3), (4, vi a4), (5, vi (v5 + 1)), (6, vi (5 * v5)), (7, vi (c 8 (5 * v5 + 2))), (8, vi 0)] (lsub_cons rfl (lsub_cons rfl (lsub_cons rfl (lsub_cons rfl (lsub_cons rfl (lsub_cons rfl (lsub_cons rfl (lsub_cons rfl (lsub_cons rfl lsub_nil))))))))) ?_
              have h_31 : (up c2 7 1 (c2 7 1 + 1)) 7 1 = c2 7 1 + 1 := (up_e rfl)
              exact ih.2 (up c2 7 1 (c2 7 1 + 1)) (v5 + 1) (5 * v5) (c 8 (5 * v5 + 2)) 0 hI_30 (fun a j hm => (up_b (by omega)).trans (hF a j (by omega))) ⟨by omega, by omega⟩ ⟨by omega, by omega⟩ ⟨by omega, by omega⟩ ⟨by decide, by decide⟩ (by omega) (by omega) (by omega) (by omega) (by omega)
    · skip
      intro c2 v5 v6 v7 v8 hI2 hF hv5 hv6 hv7 hv8 hx0 hx1 hx2 hx3 hm9
      have h_32 := ir_7_1 hI
      have h_33 := ir_7_1 hI2
      refine q_iload rfl rfl ?_
      refine q_aload_n rfl rfl ?_
      refine v_gr (t := 8) rfl rfl rfl (by decide) rfl ?_
      refine q_iload rfl rfl ?_
      refine q_iconst rfl ?_
      refine v_iadd (v := v6 + 1) rfl (by omega) ?_
      have h_34 := ir_8 hI (v6 + 1)
      have kn_35 : Hid (c2 8 (v6 + 1) = c 8 (v6 + 1)) := hF 8 (v6 + 1) (by omega)
      refine v_ia (v := c 8 (v6 + 1)) rfl rfl (by decide) (by decide) (by omega) (hid kn_35) ?_
      by_cases h_36 : v8 ≥ c 8 (v6 + 1)
      · refine v_ic_ge_t (t := 114) rfl (by decide) (by omega) ?_
        refine q_iload rfl rfl ?_
        refine q_iload rfl rfl ?_
        refine v_maxx rfl rfl (by omega) (Nat.le_of_ble_eq_true rfl) ⟨by omega, by omega, by omega, by omega⟩ (fun y_37 hy_37 => ?_)
        refine q_istore rfl (by decide) ?_
        refine q_goto (t := 159) rfl (by decide) ?_
        refine q_goto (t := 3) rfl (by decide) ?_
        refine Wp_ls [(0, .ref 7), (1, .ref 37), (2, vi a2), (3, vi a3), (4, vi a4), (5, vi y_37)] (lsub_cons rfl (lsub_cons rfl (lsub_cons rfl (lsub_cons rfl (lsub_cons rfl (lsub_cons rfl lsub_nil)))))) ?_
        exact ih.1 c2 y_37 hI2 (fun a j hm => hF a j (by omega)) ⟨by omega, by omega⟩ (by omega) (by omega)
      · refine v_ic_ge_f (t := 114) rfl (by decide) (by omega) ?_
        refine q_aload_n rfl rfl ?_
        refine v_gi (z := 1) (v := c2 7 1) rfl rfl rfl (by decide) rfl rfl rfl ?_
        refine v_sip rfl (by decide) ?_
        by_cases h_38 : c2 7 1 ≥ 200
        · refine v_ic_ge_t (t := 114) rfl (by decide) (by omega) ?_
          refine q_iload rfl rfl ?_
          refine q_iload rfl rfl ?_
          refine v_maxx rfl rfl (by omega) (Nat.le_of_ble_eq_true rfl) ⟨by omega, by omega, by omega, by omega⟩ (fun y_39 hy_39 => ?_)
          refine q_istore rfl (by decide) ?_
          refine q_goto (t := 159) rfl (by decide) ?_
          refine q_goto (t := 3) rfl (by decide) ?_
          refine Wp_ls [(0, .ref 7), (1, .ref 37), (2, vi a2), (3, vi a3), (4, vi a4), (5, vi y_39)] (lsub_cons rfl (lsub_cons rfl (lsub_cons rfl (lsub_cons rfl (lsub_cons rfl (lsub_cons rfl lsub_nil)))))) ?_
          exact ih.1 c2 y_39 hI2 (fun a j hm => hF a j (by omega)) ⟨by omega, by omega⟩ (by omega) (by omega)
        · refine v_ic_ge_f (t := 114) rfl (by decide) (by omega) ?_
          refine q_aload_n rfl rfl ?_
          refine q_aload_n rfl rfl ?_
          refine q_iload rfl rfl ?_
          refine q_iload rfl rfl ?_
          refine q_iload rfl rfl ?_
          refine q_iconst rfl ?_
          refine v_iadd (v := a4 + 1) rfl (by omega) ?_
          refine v_cv rfl rfl rfl rfl (by decide) ⟨⟨rfl, rfl⟩, by decide, rfl⟩ (Nat.le_of_ble_eq_true rfl) (Nat.le_of_ble_eq_true rfl) (H63 _ v5 v7 _ (by omega) hI2 (by omega) (by omega) (fun c_40 hI_41 hF_42 h_43 => ?_))
          refine bk_inl ?_
          have h_44 := ir_7_1 hI_41
          refine v_iinc (v := v8 + 1) rfl rfl (by decide) (by omega) ?_
          refine q_goto (t := 71) rfl (by decide) ?_
          refine Wp_ls [(0, .ref 7), (1, .ref 37), (2, vi a2), (3, vi a3), (4, vi a4), (5, vi v5), (6, vi v6), (7, vi v7), (8, vi (v8 + 1))] (lsub_cons rfl (lsub_cons rfl (lsub_cons rfl (lsub_cons rfl (lsub_cons rfl (lsub_cons rfl (lsub_cons rfl (lsub_cons rfl (lsub_cons rfl lsub_nil))))))))) ?_
          exact ih.2 c_40 v5 v6 v7 (v8 + 1) hI_41 (fun a j hm => (hF_42 a j (by omega)).trans (hF a j (by omega))) ⟨by omega, by omega⟩ ⟨by omega, by omega⟩ ⟨by omega, by omega⟩ ⟨by omega, by omega⟩ (by omega) (by omega) (by omega) (by omega) (by omega)
set_option maxRecDepth 100000 in
set_option maxHeartbeats 4000000 in
theorem s_63 {sc : List Int32} {d P Q : Nat} {c : ME} {a2 : Int} {a3 : Int} {a4 : Int} {Z : AR → Prop} (hI : Iv 0 (-1) P Q c) (ha2 : 0 ≤ a2 ∧ a2 ≤ 38) (ha3 : 0 ≤ a3 ∧ a3 ≤ 38) (ha4 : 0 ≤ a4 ∧ a4 ≤ 7) (H63 : ∀ (c : ME) (a2 : Int) (a3 : Int) (Z : AR → Prop), a4 + 1 ≤ 7 → Iv 0 (-1) P Q c → 0 ≤ a2 ∧ a2 ≤ 38 → 0 ≤ a3 ∧ a3 ≤ 38 → (∀ c2 : ME, Iv 0 (-1) P Q c2 → (∀ (a : Nat) (j : Int), ¬ ((a = 7 ∧ j = 1) ∨ (a = 7 ∧ j = 3) ∨ (a = 7 ∧ j = 4) ∨ a = 38 ∨ a = (P + 10) ∨ a = (P + 11)) → c2 a j = c a j) → (c2 7 1 ≥ c 7 1) → Z (.inl none, Wd P Q P P c2, 0, 0)) → Wp sc (d + 13) 63 0 [(0, .ref 7), (1, .ref 37), (2, vi a2), (3, vi a3), (4, vi (a4 + 1))] [] (Wd P Q P P c) 0 0 Z) (K : ∀ (c2 : ME), Iv 0 (-1) P Q c2 → (∀ (a : Nat) (j : Int), ¬ ((a = 7 ∧ j = 1) ∨ (a = 7 ∧ j = 3) ∨ (a = 7 ∧ j = 4) ∨ a = 38 ∨ a = (P + 10) ∨ a = (P + 11)) → c2 a j = c a j) → ((c2 7 1 ≥ c 7 1)) → Z (.inl (none), Wd P Q P P c2, 0, 0)) : Wp sc (d + 14) 63 0 [(0, .ref 7), (1, .ref 37), (2, vi a2), (3, vi a3), (4, vi a4)] [] (Wd P Q P P c) 0 0 Z := by
  have hP := iv_P hI
  have hQ := iv_Q hI
  refine q_iload_n rfl rfl ?_
  refine q_istore rfl (by decide) ?_
  refine Wp_ls [(0, .ref 7), (1, .ref 37), (2, vi a2), (3, vi a3), (4, vi a4), (5, vi a2)] (lsub_cons rfl (lsub_cons rfl (lsub_cons rfl (lsub_cons rfl (lsub_cons rfl (lsub_cons rfl lsub_nil)))))) ?_
  have h_47 := ir_7_1 hI
  exact (s_63_l (sc := sc) (d := d) hI ha2 ha3 ha4 H63 K 40300000).1 c a2 hI (fun a j hm => rfl) ⟨by omega, by omega⟩ (by omega) (by omega)
set_option maxRecDepth 100000 in
set_option maxHeartbeats 4000000 in
theorem r_63_n {sc : List Int32} {d P Q : Nat} : ∀ (m : Nat) (c : ME) (a4 : Int) (a2 : Int) (a3 : Int) (Z : AR → Prop), a4 + (m : Int) = 7 → 0 ≤ a4 → Iv 0 (-1) P Q c → 0 ≤ a2 ∧ a2 ≤ 38 → 0 ≤ a3 ∧ a3 ≤ 38 → (∀ c2 : ME, Iv 0 (-1) P Q c2 → (∀ (a : Nat) (j : Int), ¬ ((a = 7 ∧ j = 1) ∨ (a = 7 ∧ j = 3) ∨ (a = 7 ∧ j = 4) ∨ a = 38 ∨ a = (P + 10) ∨ a = (P + 11)) → c2 a j = c a j) → (c2 7 1 ≥ c 7 1) → Z (.inl none, Wd P Q P P c2, 0, 0)) → Wp sc (d + 1 * m + 14) 63 0 [(0, .ref 7), (1, .ref 37), (2, vi a2), (3, vi a3), (4, vi a4)] [] (Wd P Q P P c) 0 0 Z
  | 0, c, a4, a2, a3, Z, hm, h0, hI, ha2, ha3, K => s_63 (d := d) (a4 := a4) hI ha2 ha3 (show 0 ≤ a4 ∧ a4 ≤ 7 from ⟨by omega, by omega⟩) (fun c9 a29 a39 Z9 hc => absurd hc (by omega)) K
  | m + 1, c, a4, a2, a3, Z, hm, h0, hI, ha2, ha3, K => by
    have ih := r_63_n (sc := sc) (d := d) (P := P) (Q := Q) m
    rw [show d + 1 * (m + 1) + 14 = (d + 1 * m + 1) + 14 by omega]
    refine s_63 (d := d + 1 * m + 1) (a4 := a4) hI ha2 ha3 (show 0 ≤ a4 ∧ a4 ≤ 7 from ⟨by omega, by omega⟩) (fun c9 a29 a39 Z9 hc hI9 ha29 ha39 K9 => ?_) K
    have r := ih c9 (a4 + 1) a29 a39 Z9 (by omega) (by omega) hI9 ha29 ha39 K9
    rw [show d + 1 * m + 14 = (d + 1 * m + 1) + 13 by omega] at r
    exact r
set_option maxRecDepth 100000 in
set_option maxHeartbeats 4000000 in
theorem r_63 {sc : List Int32} {d P Q : Nat} {c : ME} {a4 : Int} {a2 : Int} {a3 : Int} {Z : AR → Prop} (hI : Iv 0 (-1) P Q c) (ha2 : 0 ≤ a2 ∧ a2 ≤ 38) (ha3 : 0 ≤ a3 ∧ a3 ≤ 38) (ha4 : 0 ≤ a4 ∧ a4 ≤ 7) (K : (∀ c2 : ME, Iv 0 (-1) P Q c2 → (∀ (a : Nat) (j : Int), ¬ ((a = 7 ∧ j = 1) ∨ (a = 7 ∧ j = 3) ∨ (a = 7 ∧ j = 4) ∨ a = 38 ∨ a = (P + 10) ∨ a = (P + 11)) → c2 a j = c a j) → (c2 7 1 ≥ c 7 1) → Z (.inl none, Wd P Q P P c2, 0, 0))) : Wp sc (d + 21) 63 0 [(0, .ref 7), (1, .ref 37), (2, vi a2), (3, vi a3), (4, vi a4)] [] (Wd P Q P P c) 0 0 Z := by
  obtain ⟨m, hm⟩ : ∃ m : Nat, (m : Int) = 7 - a4 := ⟨(7 - a4).toNat, by omega⟩
  rw [show d + 21 = (d + 7 - 1 * m) + 1 * m + 14 by omega]
  exact r_63_n m c a4 a2 a3 Z (by omega) (by omega) hI ha2 ha3 K

set_option maxRecDepth 100000 in
set_option maxHeartbeats 4000000 in
theorem s_65a_5_l {sc : List Int32} {d P Q T : Nat} {c : ME} {Z : AR → Prop} (hI : Iv 38 (-1) P Q c)  (K : ∀ (c2 : ME), Iv 0 (-1) P Q c2 → (∀ (a : Nat) (j : Int), ¬ (a = 38) → c2 a j = c a j) → Z (.inl (none), Wd P Q P T c2, 0, 0)) : ∀ n : Nat, (∀ (c2 : ME) (v2 : Int), Iv 38 (-1) P Q c2 → (∀ (a : Nat) (j : Int), ¬ (a = 38) → c2 a j = c a j) → 0 ≤ v2 ∧ v2 ≤ 34 → (∀ j : Int, 0 ≤ j → j < v2 → j < 24 → c2 38 j ≤ 999) → 69 - 2 * v2 < (n : Int) → Wp sc (d + 7) 65 7 [(0, .ref 37), (1, .ref P), (2, vi v2)] [] (Wd P Q P T c2) 0 0 Z)
  | 0 => by intro c2 v2 hI2 hF hv2 hx0 hm9; have hP := iv_P hI; have hQ := iv_Q hI; exfalso; omega
  | n + 1 => by
    have hP := iv_P hI
    have hQ := iv_Q hI
    have ih := s_65a_5_l (sc := sc) (d := d) hI K n
    intro c2 v2 hI2 hF hv2 hx0 hm9
    refine q_iload_n rfl rfl ?_
    refine v_bip rfl (by decide) ?_
    by_cases h_1 : v2 ≥ 34
    · refine v_ic_ge_t (t := 51) rfl (by decide) (by omega) ?_
      refine q_vret rfl rfl ?_
      have hI_2 := iv_close hI2 (fun j hj => by
        have q9 : j % 4 = 0 ∧ 0 ≤ j ∧ j < 24 := hj
        have q0 := hx0 j (by omega) (by omega) (by omega)
        have q1 := hx0 (j + 1) (by omega) (by omega) (by omega)
        have q2 := hx0 (j + 2) (by omega) (by omega) (by omega)
        have q3 := hx0 (j + 3) (by omega) (by omega) (by omega)
        omega)
      exact K c2 hI_2 (fun a j hm => hF a j (by omega))
    · refine v_ic_ge_f (t := 51) rfl (by decide) (by omega) ?_
      refine q_aload_n rfl rfl ?_
      refine v_gr (t := 38) rfl rfl rfl (by decide) rfl ?_
      refine q_iload_n rfl rfl ?_
      refine q_iload_n rfl rfl ?_
      refine q_aload_n rfl rfl ?_
      refine v_gr (t := P) rfl rfl rfl (by decide) rfl ?_
      have h_3 := ir_p0_0 hI hP
      have kn_4 : Hid (c2 P 0 = c P 0) := hF P 0 (by omega)
      refine v_gi (z := 0) (v := c P 0) rfl rfl (ck_p0 hP) (by omega) rfl rfl (hid kn_4) ?_
      refine q_iconst rfl ?_
      refine v_imul (v := 4 * c P 0) rfl (by omega) ?_
      by_cases h_5 : v2 ≥ 4 * c P 0
      · refine v_ic_ge_t (t := 43) rfl (by decide) (by omega) ?_
        refine q_iconst rfl ?_
        refine v_is rfl rfl (by decide) (by decide) (by omega) ?_
        refine v_iinc (v := v2 + 1) rfl rfl (by decide) (by omega) ?_
        refine q_goto (t := 7) rfl (by decide) ?_
        have hI_6 := iw_row (a := 38) (j := v2) (v := 0) hI2 (by omega) (Or.inl rfl) ⟨by omega, by omega, by omega⟩
        refine Wp_ls [(0, .ref 37), (1, .ref P), (2, vi (v2 + 1))] (lsub_cons rfl (lsub_cons rfl (lsub_cons rfl lsub_nil))) ?_
        have hr_7 : ∀ j : Int, 0 ≤ j → j < v2 + 1 → j < 24 → (up c2 38 v2 0) 38 j ≤ 999 := by
          intro j hj1 hj2 hj3
          by_cases e9 : j = v2
          · have q9 : (up c2 38 v2 0) 38 j = 0 := up_e e9
            rw [q9]
            omega
          · have q9 : (up c2 38 v2 0) 38 j = c2 38 j := up_n e9
            rw [q9]
            exact hx0 j hj1 (by omega) hj3
        exact ih (up c2 38 v2 0) (v2 + 1) hI_6 (fun a j hm => (up_b (by omega)).trans (hF a j (by omega))) ⟨by omega, by omega⟩ hr_7 (by omega)
      · refine v_ic_ge_f (t := 43) rfl (by decide) (by omega) ?_
        refine q_aload_n rfl rfl ?_
        refine v_gr (t := P) rfl rfl rfl (by decide) rfl ?_
        refine v_gr (t := (P + 1)) rfl rfl (ck_p0 hP) (by omega) rfl ?_
        refine q_iload_n rfl rfl ?_
        have h_8 := ir_p1 hI hP v2
        have kn_9 : Hid (c2 (P + 1) v2 = c (P + 1) v2) := hF (P + 1) v2 (by omega)
        refine v_ia (v := c (P + 1) v2) rfl (ck_p1 hP) (by omega) (by decide) (by omega) (hid kn_9) ?_
        refine q_goto (t := 44) rfl (by decide) ?_
        refine v_is rfl rfl (by decide) (by decide) (by omega) ?_
        refine v_iinc (v := v2 + 1) rfl rfl (by decide) (by omega) ?_
        refine q_goto (t := 7) rfl (by decide) ?_
        have hI_10 := iw_row (a := 38) (j := v2) (v := c (P + 1) v2) hI2 (by omega) (Or.inl rfl) ⟨by omega, by omega, by omega⟩
        refine Wp_ls [(0, .ref 37), (1, .ref P), (2, vi (v2 + 1))] (lsub_cons rfl (lsub_cons rfl (lsub_cons rfl lsub_nil))) ?_
        have hr_11 : ∀ j : Int, 0 ≤ j → j < v2 + 1 → j < 24 → (up c2 38 v2 (c (P + 1) v2)) 38 j ≤ 999 := by
          intro j hj1 hj2 hj3
          by_cases e9 : j = v2
          · have q9 : (up c2 38 v2 (c (P + 1) v2)) 38 j = c (P + 1) v2 := up_e e9
            rw [q9]
            omega
          · have q9 : (up c2 38 v2 (c (P + 1) v2)) 38 j = c2 38 j := up_n e9
            rw [q9]
            exact hx0 j hj1 (by omega) hj3
        exact ih (up c2 38 v2 (c (P + 1) v2)) (v2 + 1) hI_10 (fun a j hm => (up_b (by omega)).trans (hF a j (by omega))) ⟨by omega, by omega⟩ hr_11 (by omega)
set_option maxRecDepth 100000 in
set_option maxHeartbeats 4000000 in
theorem s_65a_5 {sc : List Int32} {d P Q T : Nat} {c : ME} {Z : AR → Prop} (hI : Iv 38 (-1) P Q c)  (K : ∀ (c2 : ME), Iv 0 (-1) P Q c2 → (∀ (a : Nat) (j : Int), ¬ (a = 38) → c2 a j = c a j) → Z (.inl (none), Wd P Q P T c2, 0, 0)) : Wp sc (d + 7) 65 5 [(0, .ref 37), (1, .ref P)] [] (Wd P Q P T c) 0 0 Z := by
  have hP := iv_P hI
  have hQ := iv_Q hI
  refine q_iconst rfl ?_
  refine q_istore_n rfl (by decide) ?_
  refine Wp_ls [(0, .ref 37), (1, .ref P), (2, vi 0)] (lsub_cons rfl (lsub_cons rfl (lsub_cons rfl lsub_nil))) ?_
  have hr_12 : ∀ j : Int, 0 ≤ j → j < 0 → j < 24 → c 38 j ≤ 999 := by
    intro j hj1 hj2 hj3
    omega
  exact (s_65a_5_l (sc := sc) (d := d) hI K 72) c 0 hI (fun a j hm => rfl) ⟨by decide, by decide⟩ hr_12 (by omega)
set_option maxRecDepth 100000 in
set_option maxHeartbeats 4000000 in
theorem s_65b_5_l {sc : List Int32} {d P Q : Nat} {c : ME} {Z : AR → Prop} (hI : Iv 40 (-1) P Q c)  (K : ∀ (c2 : ME), Iv 0 (-1) P Q c2 → (∀ (a : Nat) (j : Int), ¬ (a = 40) → c2 a j = c a j) → Z (.inl (none), Wd P Q P P c2, 0, 0)) : ∀ n : Nat, (∀ (c2 : ME) (v2 : Int), Iv 40 (-1) P Q c2 → (∀ (a : Nat) (j : Int), ¬ (a = 40) → c2 a j = c a j) → 0 ≤ v2 ∧ v2 ≤ 34 → (∀ j : Int, 0 ≤ j → j < v2 → j < 24 → c2 40 j ≤ 999) → 69 - 2 * v2 < (n : Int) → Wp sc (d + 7) 65 7 [(0, .ref 39), (1, .ref P), (2, vi v2)] [] (Wd P Q P P c2) 0 0 Z)
  | 0 => by intro c2 v2 hI2 hF hv2 hx0 hm9; have hP := iv_P hI; have hQ := iv_Q hI; exfalso; omega
  | n + 1 => by
    have hP := iv_P hI
    have hQ := iv_Q hI
    have ih := s_65b_5_l (sc := sc) (d := d) hI K n
    intro c2 v2 hI2 hF hv2 hx0 hm9
    refine q_iload_n rfl rfl ?_
    refine v_bip rfl (by decide) ?_
    by_cases h_1 : v2 ≥ 34
    · refine v_ic_ge_t (t := 51) rfl (by decide) (by omega) ?_
      refine q_vret rfl rfl ?_
      have hI_2 := iv_close hI2 (fun j hj => by
        have q9 : j % 4 = 0 ∧ 0 ≤ j ∧ j < 24 := hj
        have q0 := hx0 j (by omega) (by omega) (by omega)
        have q1 := hx0 (j + 1) (by omega) (by omega) (by omega)
        have q2 := hx0 (j + 2) (by omega) (by omega) (by omega)
        have q3 := hx0 (j + 3) (by omega) (by omega) (by omega)
        omega)
      exact K c2 hI_2 (fun a j hm => hF a j (by omega))
    · refine v_ic_ge_f (t := 51) rfl (by decide) (by omega) ?_
      refine q_aload_n rfl rfl ?_
      refine v_gr (t := 40) rfl rfl rfl (by decide) rfl ?_
      refine q_iload_n rfl rfl ?_
      refine q_iload_n rfl rfl ?_
      refine q_aload_n rfl rfl ?_
      refine v_gr (t := P) rfl rfl rfl (by decide) rfl ?_
      have h_3 := ir_p0_0 hI hP
      have kn_4 : Hid (c2 P 0 = c P 0) := hF P 0 (by omega)
      refine v_gi (z := 0) (v := c P 0) rfl rfl (ck_p0 hP) (by omega) rfl rfl (hid kn_4) ?_
      refine q_iconst rfl ?_
      refine v_imul (v := 4 * c P 0) rfl (by omega) ?_
      by_cases h_5 : v2 ≥ 4 * c P 0
      · refine v_ic_ge_t (t := 43) rfl (by decide) (by omega) ?_
        refine q_iconst rfl ?_
        refine v_is rfl rfl (by decide) (by decide) (by omega) ?_
        refine v_iinc (v := v2 + 1) rfl rfl (by decide) (by omega) ?_
        refine q_goto (t := 7) rfl (by decide) ?_
        have hI_6 := iw_row (a := 40) (j := v2) (v := 0) hI2 (by omega) (Or.inl rfl) ⟨by omega, by omega, by omega⟩
        refine Wp_ls [(0, .ref 39), (1, .ref P), (2, vi (v2 + 1))] (lsub_cons rfl (lsub_cons rfl (lsub_cons rfl lsub_nil))) ?_
        have hr_7 : ∀ j : Int, 0 ≤ j → j < v2 + 1 → j < 24 → (up c2 40 v2 0) 40 j ≤ 999 := by
          intro j hj1 hj2 hj3
          by_cases e9 : j = v2
          · have q9 : (up c2 40 v2 0) 40 j = 0 := up_e e9
            rw [q9]
            omega
          · have q9 : (up c2 40 v2 0) 40 j = c2 40 j := up_n e9
            rw [q9]
            exact hx0 j hj1 (by omega) hj3
        exact ih (up c2 40 v2 0) (v2 + 1) hI_6 (fun a j hm => (up_b (by omega)).trans (hF a j (by omega))) ⟨by omega, by omega⟩ hr_7 (by omega)
      · refine v_ic_ge_f (t := 43) rfl (by decide) (by omega) ?_
        refine q_aload_n rfl rfl ?_
        refine v_gr (t := P) rfl rfl rfl (by decide) rfl ?_
        refine v_gr (t := (P + 1)) rfl rfl (ck_p0 hP) (by omega) rfl ?_
        refine q_iload_n rfl rfl ?_
        have h_8 := ir_p1 hI hP v2
        have kn_9 : Hid (c2 (P + 1) v2 = c (P + 1) v2) := hF (P + 1) v2 (by omega)
        refine v_ia (v := c (P + 1) v2) rfl (ck_p1 hP) (by omega) (by decide) (by omega) (hid kn_9) ?_
        refine q_goto (t := 44) rfl (by decide) ?_
        refine v_is rfl rfl (by decide) (by decide) (by omega) ?_
        refine v_iinc (v := v2 + 1) rfl rfl (by decide) (by omega) ?_
        refine q_goto (t := 7) rfl (by decide) ?_
        have hI_10 := iw_row (a := 40) (j := v2) (v := c (P + 1) v2) hI2 (by omega) (Or.inl rfl) ⟨by omega, by omega, by omega⟩
        refine Wp_ls [(0, .ref 39), (1, .ref P), (2, vi (v2 + 1))] (lsub_cons rfl (lsub_cons rfl (lsub_cons rfl lsub_nil))) ?_
        have hr_11 : ∀ j : Int, 0 ≤ j → j < v2 + 1 → j < 24 → (up c2 40 v2 (c (P + 1) v2)) 40 j ≤ 999 := by
          intro j hj1 hj2 hj3
          by_cases e9 : j = v2
          · have q9 : (up c2 40 v2 (c (P + 1) v2)) 40 j = c (P + 1) v2 := up_e e9
            rw [q9]
            omega
          · have q9 : (up c2 40 v2 (c (P + 1) v2)) 40 j = c2 40 j := up_n e9
            rw [q9]
            exact hx0 j hj1 (by omega) hj3
        exact ih (up c2 40 v2 (c (P + 1) v2)) (v2 + 1) hI_10 (fun a j hm => (up_b (by omega)).trans (hF a j (by omega))) ⟨by omega, by omega⟩ hr_11 (by omega)
set_option maxRecDepth 100000 in
set_option maxHeartbeats 4000000 in
theorem s_65b_5 {sc : List Int32} {d P Q : Nat} {c : ME} {Z : AR → Prop} (hI : Iv 40 (-1) P Q c)  (K : ∀ (c2 : ME), Iv 0 (-1) P Q c2 → (∀ (a : Nat) (j : Int), ¬ (a = 40) → c2 a j = c a j) → Z (.inl (none), Wd P Q P P c2, 0, 0)) : Wp sc (d + 7) 65 5 [(0, .ref 39), (1, .ref P)] [] (Wd P Q P P c) 0 0 Z := by
  have hP := iv_P hI
  have hQ := iv_Q hI
  refine q_iconst rfl ?_
  refine q_istore_n rfl (by decide) ?_
  refine Wp_ls [(0, .ref 39), (1, .ref P), (2, vi 0)] (lsub_cons rfl (lsub_cons rfl (lsub_cons rfl lsub_nil))) ?_
  have hr_12 : ∀ j : Int, 0 ≤ j → j < 0 → j < 24 → c 40 j ≤ 999 := by
    intro j hj1 hj2 hj3
    omega
  exact (s_65b_5_l (sc := sc) (d := d) hI K 72) c 0 hI (fun a j hm => rfl) ⟨by decide, by decide⟩ hr_12 (by omega)
set_option maxRecDepth 100000 in
set_option maxHeartbeats 4000000 in
theorem s_65a {sc : List Int32} {d P Q N T : Nat} {c : ME} {Z : AR → Prop} (hI : Iv 0 (-1) P Q c) (K : ∀ c2 : ME, Iv 0 (-1) P Q c2 → (∀ (a : Nat) (j : Int), ¬ (a = 38) → c2 a j = c a j) → Z (.inl none, Wd P Q P T c2, 0, 0)) : Wp sc (d + 8) 65 0 [(0, .ref 37), (1, .ref P)] [] (Wd P Q N T c) 0 0 Z := by
  refine q_aload_n rfl rfl ?_
  refine q_aload_n rfl rfl ?_
  refine v_pr (P' := P) (Q' := Q) (N' := P) (T' := T) rfl rfl rfl rfl (by decide) (by decide) (fun c => rfl) rfl (by decide) (fun b hb => ck_x37 hb) ?_
  exact s_65a_5 (d := d + 1) (iv_open hI) K
set_option maxRecDepth 100000 in
set_option maxHeartbeats 4000000 in
theorem s_65b {sc : List Int32} {d P Q N T : Nat} {c : ME} {Z : AR → Prop} (hI : Iv 0 (-1) P Q c) (K : ∀ c2 : ME, Iv 0 (-1) P Q c2 → (∀ (a : Nat) (j : Int), ¬ (a = 40) → c2 a j = c a j) → Z (.inl none, Wd P Q P P c2, 0, 0)) : Wp sc (d + 8) 65 0 [(0, .ref 39), (1, .ref P)] [] (Wd P Q P T c) 0 0 Z := by
  refine q_aload_n rfl rfl ?_
  refine q_aload_n rfl rfl ?_
  refine v_pr (P' := P) (Q' := Q) (N' := P) (T' := P) rfl rfl rfl rfl (by decide) (by decide) (fun c => rfl) rfl (by decide) (fun b hb => ck_x39 hb) ?_
  exact s_65b_5 (d := d + 1) (iv_open hI) K

set_option maxRecDepth 100000 in
set_option maxHeartbeats 4000000 in
theorem s_66 {sc : List Int32} {d P Q : Nat} {c : ME} {Z : AR → Prop} (hI : Iv 0 (-1) P Q c)  (K : ∀ (c2 : ME), Iv 0 (-1) P Q c2 → (∀ (a : Nat) (j : Int), ¬ (a = 40) → c2 a j = c a j) → Z (.inl (none), Wd P Q P P c2, 0, 0)) : Wp sc (d + 7) 66 0 [(0, .ref 39), (1, .ref 37)] [] (Wd P Q P P c) 0 0 Z := by
  have hP := iv_P hI
  have hQ := iv_Q hI
  refine q_aload_n rfl rfl ?_
  refine v_gr (t := 38) rfl rfl rfl (by decide) rfl ?_
  refine q_iconst rfl ?_
  refine q_aload_n rfl rfl ?_
  refine v_gr (t := 40) rfl rfl rfl (by decide) rfl ?_
  refine q_iconst rfl ?_
  refine v_bip rfl (by decide) ?_
  refine v_cpy rfl rfl rfl (by decide) rfl (by decide) rfl rfl (by omega) (Nat.le_of_ble_eq_true rfl) (by omega) ?_
  refine q_vret rfl rfl ?_
  have hI_1 := cp_38_40 hI
  exact K (upc c 38 0 40 0 34) hI_1 (fun a j hm => upc_c (by omega))

set_option maxRecDepth 100000 in
set_option maxHeartbeats 4000000 in
theorem s_67_l {sc : List Int32} {e : Int} {d u P Q sh s : Nat} {c : ME} {a1 : Int} {Z : AR → Prop} (hI : Iv u e P Q c) (hs : (sh = 37 ∧ s = 38) ∨ (sh = 39 ∧ s = 40)) (ha1 : 0 ≤ a1 ∧ a1 ≤ 5) (K : ∀ (y : Int), (-2147483648) ≤ y ∧ y ≤ 2147483647 → Z (.inl (some (vi y)), Wd P Q P P c, 0, 0)) : ∀ n : Nat, (∀ (v2 : Int) (v3 : Int), (-2147483648) ≤ v2 ∧ v2 ≤ 2147483647 → 0 ≤ v3 ∧ v3 ≤ 4 → 9 - 2 * v3 < (n : Int) → Wp sc (d + 8) 67 4 [(0, .ref sh), (1, vi a1), (2, vi v2), (3, vi v3)] [] (Wd P Q P P c) 0 0 Z)
  | 0 => by intro v2 v3 hv2 hv3 hm9; have hP := iv_P hI; have hQ := iv_Q hI; exfalso; omega
  | n + 1 => by
    have hP := iv_P hI
    have hQ := iv_Q hI
    have ih := s_67_l (sc := sc) (d := d) hI hs ha1 K n
    intro v2 v3 hv2 hv3 hm9
    refine q_iload_n rfl rfl ?_
    refine q_iconst rfl ?_
    by_cases h_1 : v3 ≥ 4
    · refine v_ic_ge_t (t := 32) rfl (by decide) (by omega) ?_
      refine q_iload_n rfl rfl ?_
      refine q_iret rfl rfl ?_
      exact K v2 ⟨by omega, by omega⟩
    · refine v_ic_ge_f (t := 32) rfl (by decide) (by omega) ?_
      refine q_iload_n rfl rfl ?_
      refine q_aload_n rfl rfl ?_
      refine q_iload_n rfl rfl ?_
      refine q_iload_n rfl rfl ?_
      have h_2 := ir_s_g hI hs (j := 4 * a1 + v3) (by omega)
      refine v_cv rfl rfl rfl (ck_sh hs) (by omega) ⟨⟨rfl, rfl⟩, by decide, rfl⟩ (Nat.le_of_ble_eq_true rfl) (Nat.le_of_ble_eq_true rfl) (s_45 (v1 := c s (4 * a1 + v3)) (r := c s (4 * a1 + v3)) (a1 := a1) (a2 := v3) hI hs (show 0 ≤ a1 ∧ a1 ≤ 5 from by omega) (show 0 ≤ v3 ∧ v3 ≤ 3 from by omega) (rfl) (by omega) ?_)
      refine bk_inl ?_
      by_cases h_3 : c s (4 * a1 + v3) ≤ 0
      · refine v_if_le_t (t := 23) rfl (by decide) (by omega) ?_
        refine q_iconst rfl ?_
        refine v_iadd (v := v2) rfl (by omega) ?_
        refine q_istore_n rfl (by decide) ?_
        refine v_iinc (v := v3 + 1) rfl rfl (by decide) (by omega) ?_
        refine q_goto (t := 4) rfl (by decide) ?_
        refine Wp_ls [(0, .ref sh), (1, vi a1), (2, vi v2), (3, vi (v3 + 1))] (lsub_cons rfl (lsub_cons rfl (lsub_cons rfl (lsub_cons rfl lsub_nil)))) ?_
        exact ih v2 (v3 + 1) ⟨by omega, by omega⟩ ⟨by omega, by omega⟩ (by omega)
      · refine v_if_le_f (t := 23) rfl (by decide) (by omega) ?_
        refine q_iconst rfl ?_
        refine q_goto (t := 24) rfl (by decide) ?_
        refine v_iadd (v := v2 + 1) rfl (by omega) ?_
        refine v_nrm (fun y_4 hy_4 => ?_)
        refine q_istore_n rfl (by decide) ?_
        refine v_iinc (v := v3 + 1) rfl rfl (by decide) (by omega) ?_
        refine q_goto (t := 4) rfl (by decide) ?_
        refine Wp_ls [(0, .ref sh), (1, vi a1), (2, vi y_4), (3, vi (v3 + 1))] (lsub_cons rfl (lsub_cons rfl (lsub_cons rfl (lsub_cons rfl lsub_nil)))) ?_
        exact ih y_4 (v3 + 1) ⟨by omega, by omega⟩ ⟨by omega, by omega⟩ (by omega)
set_option maxRecDepth 100000 in
set_option maxHeartbeats 4000000 in
theorem s_67 {sc : List Int32} {e : Int} {d u P Q sh s : Nat} {c : ME} {a1 : Int} {Z : AR → Prop} (hI : Iv u e P Q c) (hs : (sh = 37 ∧ s = 38) ∨ (sh = 39 ∧ s = 40)) (ha1 : 0 ≤ a1 ∧ a1 ≤ 5) (K : ∀ (y : Int), (-2147483648) ≤ y ∧ y ≤ 2147483647 → Z (.inl (some (vi y)), Wd P Q P P c, 0, 0)) : Wp sc (d + 8) 67 0 [(0, .ref sh), (1, vi a1)] [] (Wd P Q P P c) 0 0 Z := by
  have hP := iv_P hI
  have hQ := iv_Q hI
  refine q_iconst rfl ?_
  refine q_istore_n rfl (by decide) ?_
  refine q_iconst rfl ?_
  refine q_istore_n rfl (by decide) ?_
  refine Wp_ls [(0, .ref sh), (1, vi a1), (2, vi 0), (3, vi 0)] (lsub_cons rfl (lsub_cons rfl (lsub_cons rfl (lsub_cons rfl lsub_nil)))) ?_
  exact (s_67_l (sc := sc) (d := d) hI hs ha1 K 12) 0 0 ⟨by decide, by decide⟩ ⟨by decide, by decide⟩ (by omega)

set_option maxRecDepth 100000 in
set_option maxHeartbeats 4000000 in
theorem s_68 {sc : List Int32} {e : Int} {d u P Q sh s : Nat} {c : ME} {a1 : Int} {Z : AR → Prop} (hI : Iv u e P Q c) (hs : (sh = 37 ∧ s = 38) ∨ (sh = 39 ∧ s = 40)) (ha1 : 0 ≤ a1 ∧ a1 ≤ 5) (K : ∀ (y : Int), (-2147483648) ≤ y ∧ y ≤ 2147483647 → Z (.inl (some (vi y)), Wd P Q P P c, 0, 0)) : Wp sc (d + 8) 68 0 [(0, .ref sh), (1, vi a1)] [] (Wd P Q P P c) 0 0 Z := by
  have hP := iv_P hI
  have hQ := iv_Q hI
  refine q_aload_n rfl rfl ?_
  refine q_iload_n rfl rfl ?_
  have h_1 := ir_s_g hI hs (j := 4 * a1) (by omega)
  have h_2 := ir_s_g hI hs (j := 4 * a1 + 1) (by omega)
  have h_3 := ir_s_g hI hs (j := 4 * a1 + 2) (by omega)
  have h_4 := ir_s_g hI hs (j := 4 * a1 + 3) (by omega)
  refine v_cv rfl rfl rfl (ck_sh hs) (by omega) ⟨⟨rfl, rfl⟩, by decide, rfl⟩ (Nat.le_of_ble_eq_true rfl) (Nat.le_of_ble_eq_true rfl) (s_43 (v1 := c s (4 * a1)) (v2 := c s (4 * a1 + 1)) (v3 := c s (4 * a1 + 2)) (v4 := c s (4 * a1 + 3)) (r := c s (4 * a1 + 1) + c s (4 * a1 + 2) + c s (4 * a1 + 3) + c s (4 * a1)) (a1 := a1) hI hs (show 0 ≤ a1 ∧ a1 ≤ 5 from by omega) (rfl) (rfl) (rfl) (rfl) (by omega) ?_)
  refine bk_inl ?_
  refine q_istore_n rfl (by decide) ?_
  refine q_iload_n rfl rfl ?_
  by_cases h_5 : c s (4 * a1 + 1) + c s (4 * a1 + 2) + c s (4 * a1 + 3) + c s (4 * a1) ≤ 0
  · refine v_if_le_t (t := 25) rfl (by decide) (by omega) ?_
    refine q_iconst rfl ?_
    refine q_iret rfl rfl ?_
    exact K 0 ⟨by decide, by decide⟩
  · refine v_if_le_f (t := 25) rfl (by decide) (by omega) ?_
    refine v_sip rfl (by decide) ?_
    refine q_aload_n rfl rfl ?_
    refine q_iload_n rfl rfl ?_
    refine q_iconst rfl ?_
    refine v_cv rfl rfl rfl (ck_sh hs) (by omega) ⟨⟨rfl, rfl⟩, by decide, rfl⟩ (Nat.le_of_ble_eq_true rfl) (Nat.le_of_ble_eq_true rfl) (s_45 (v1 := c s (4 * a1)) (r := c s (4 * a1)) (a1 := a1) (a2 := 0) hI hs (show 0 ≤ a1 ∧ a1 ≤ 5 from by omega) (show 0 ≤ 0 ∧ 0 ≤ 3 from by omega) ((congrArg (c s) (show 4 * a1 + 0 = 4 * a1 from by omega))) (by omega) ?_)
    refine bk_inl ?_
    refine v_imul (v := 1000 * c s (4 * a1)) rfl (by omega) ?_
    refine q_iload_n rfl rfl ?_
    refine v_idivx rfl ⟨by omega, by omega, by omega⟩ (fun y_6 hy_6 => ?_)
    refine q_goto (t := 26) rfl (by decide) ?_
    refine q_iret rfl rfl ?_
    exact K y_6 ⟨by omega, by omega⟩

set_option maxRecDepth 100000 in
set_option maxHeartbeats 4000000 in
theorem s_69_l {sc : List Int32} {e : Int} {d u P Q sh s : Nat} {c : ME} {Z : AR → Prop} (hI : Iv u e P Q c) (hs : (sh = 37 ∧ s = 38) ∨ (sh = 39 ∧ s = 40)) (K : ∀ (y : Int), (-2147483648) ≤ y ∧ y ≤ 2147483647 → Z (.inl (some (vi y)), Wd P Q P P c, 0, 0)) : ∀ n : Nat, (∀ (v1 : Int) (v2 : Int), (-2147483648) ≤ v1 ∧ v1 ≤ 2147483647 → 0 ≤ v2 ∧ v2 ≤ 6 → 13 - 2 * v2 < (n : Int) → Wp sc (d + 8) 69 4 [(0, .ref sh), (1, vi v1), (2, vi v2)] [] (Wd P Q P P c) 0 0 Z)
  | 0 => by intro v1 v2 hv1 hv2 hm9; have hP := iv_P hI; have hQ := iv_Q hI; exfalso; omega
  | n + 1 => by
    have hP := iv_P hI
    have hQ := iv_Q hI
    have ih := s_69_l (sc := sc) (d := d) hI hs K n
    intro v1 v2 hv1 hv2 hm9
    refine q_iload_n rfl rfl ?_
    refine q_aload_n rfl rfl ?_
    refine v_gr (t := P) rfl rfl (ck_sh hs) (by omega) rfl ?_
    have h_1 := ir_p0_0 hI hP
    refine v_gi (z := 0) (v := c P 0) rfl rfl (ck_p0 hP) (by omega) rfl rfl rfl ?_
    by_cases h_2 : v2 ≥ c P 0
    · refine v_ic_ge_t (t := 29) rfl (by decide) (by omega) ?_
      refine q_iload_n rfl rfl ?_
      refine q_iret rfl rfl ?_
      exact K v1 ⟨by omega, by omega⟩
    · refine v_ic_ge_f (t := 29) rfl (by decide) (by omega) ?_
      refine q_iload_n rfl rfl ?_
      refine q_aload_n rfl rfl ?_
      refine q_iload_n rfl rfl ?_
      have h_3 := ir_s_g hI hs (j := 4 * v2) (by omega)
      have h_4 := ir_s_g hI hs (j := 4 * v2 + 1) (by omega)
      have h_5 := ir_s_g hI hs (j := 4 * v2 + 2) (by omega)
      have h_6 := ir_s_g hI hs (j := 4 * v2 + 3) (by omega)
      refine v_cv rfl rfl rfl (ck_sh hs) (by omega) ⟨⟨rfl, rfl⟩, by decide, rfl⟩ (Nat.le_of_ble_eq_true rfl) (Nat.le_of_ble_eq_true rfl) (s_43 (v1 := c s (4 * v2)) (v2 := c s (4 * v2 + 1)) (v3 := c s (4 * v2 + 2)) (v4 := c s (4 * v2 + 3)) (r := c s (4 * v2 + 1) + c s (4 * v2 + 2) + c s (4 * v2 + 3) + c s (4 * v2)) (a1 := v2) hI hs (show 0 ≤ v2 ∧ v2 ≤ 5 from by omega) (rfl) (rfl) (rfl) (rfl) (by omega) ?_)
      refine bk_inl ?_
      refine v_iadd (v := c s (4 * v2 + 1) + c s (4 * v2 + 2) + c s (4 * v2 + 3) + c s (4 * v2) + v1) rfl (by omega) ?_
      refine v_nrm (fun y_7 hy_7 => ?_)
      refine q_istore_n rfl (by decide) ?_
      refine v_iinc (v := v2 + 1) rfl rfl (by decide) (by omega) ?_
      refine q_goto (t := 4) rfl (by decide) ?_
      refine Wp_ls [(0, .ref sh), (1, vi y_7), (2, vi (v2 + 1))] (lsub_cons rfl (lsub_cons rfl (lsub_cons rfl lsub_nil))) ?_
      exact ih y_7 (v2 + 1) ⟨by omega, by omega⟩ ⟨by omega, by omega⟩ (by omega)
set_option maxRecDepth 100000 in
set_option maxHeartbeats 4000000 in
theorem s_69 {sc : List Int32} {e : Int} {d u P Q sh s : Nat} {c : ME} {Z : AR → Prop} (hI : Iv u e P Q c) (hs : (sh = 37 ∧ s = 38) ∨ (sh = 39 ∧ s = 40)) (K : ∀ (y : Int), (-2147483648) ≤ y ∧ y ≤ 2147483647 → Z (.inl (some (vi y)), Wd P Q P P c, 0, 0)) : Wp sc (d + 8) 69 0 [(0, .ref sh)] [] (Wd P Q P P c) 0 0 Z := by
  have hP := iv_P hI
  have hQ := iv_Q hI
  refine q_iconst rfl ?_
  refine q_istore_n rfl (by decide) ?_
  refine q_iconst rfl ?_
  refine q_istore_n rfl (by decide) ?_
  refine Wp_ls [(0, .ref sh), (1, vi 0), (2, vi 0)] (lsub_cons rfl (lsub_cons rfl (lsub_cons rfl lsub_nil))) ?_
  exact (s_69_l (sc := sc) (d := d) hI hs K 16) 0 0 ⟨by decide, by decide⟩ ⟨by decide, by decide⟩ (by omega)

set_option maxRecDepth 100000 in
set_option maxHeartbeats 4000000 in
theorem s_70_l {sc : List Int32} {e : Int} {d u P Q sh s : Nat} {c : ME} {Z : AR → Prop} (hI : Iv u e P Q c) (hs : (sh = 37 ∧ s = 38) ∨ (sh = 39 ∧ s = 40)) (K : ∀ (y : Int), (-2147483648) ≤ y ∧ y ≤ 2147483647 → Z (.inl (some (vi y)), Wd P Q P P c, 0, 0)) : ∀ n : Nat, (∀ (v1 : Int) (v2 : Int), (-2147483648) ≤ v1 ∧ v1 ≤ 2147483647 → 0 ≤ v2 ∧ v2 ≤ 6 → 13 - 2 * v2 < (n : Int) → Wp sc (d + 8) 70 4 [(0, .ref sh), (1, vi v1), (2, vi v2)] [] (Wd P Q P P c) 0 0 Z)
  | 0 => by intro v1 v2 hv1 hv2 hm9; have hP := iv_P hI; have hQ := iv_Q hI; exfalso; omega
  | n + 1 => by
    have hP := iv_P hI
    have hQ := iv_Q hI
    have ih := s_70_l (sc := sc) (d := d) hI hs K n
    intro v1 v2 hv1 hv2 hm9
    refine q_iload_n rfl rfl ?_
    refine q_aload_n rfl rfl ?_
    refine v_gr (t := P) rfl rfl (ck_sh hs) (by omega) rfl ?_
    have h_1 := ir_p0_0 hI hP
    refine v_gi (z := 0) (v := c P 0) rfl rfl (ck_p0 hP) (by omega) rfl rfl rfl ?_
    by_cases h_2 : v2 ≥ c P 0
    · refine v_ic_ge_t (t := 35) rfl (by decide) (by omega) ?_
      refine q_iload_n rfl rfl ?_
      refine q_iret rfl rfl ?_
      exact K v1 ⟨by omega, by omega⟩
    · refine v_ic_ge_f (t := 35) rfl (by decide) (by omega) ?_
      refine q_aload_n rfl rfl ?_
      refine q_iload_n rfl rfl ?_
      have h_3 := ir_s_g hI hs (j := 4 * v2) (by omega)
      have h_4 := ir_s_g hI hs (j := 4 * v2 + 1) (by omega)
      have h_5 := ir_s_g hI hs (j := 4 * v2 + 2) (by omega)
      have h_6 := ir_s_g hI hs (j := 4 * v2 + 3) (by omega)
      refine v_cv rfl rfl rfl (ck_sh hs) (by omega) ⟨⟨rfl, rfl⟩, by decide, rfl⟩ (Nat.le_of_ble_eq_true rfl) (Nat.le_of_ble_eq_true rfl) (s_43 (v1 := c s (4 * v2)) (v2 := c s (4 * v2 + 1)) (v3 := c s (4 * v2 + 2)) (v4 := c s (4 * v2 + 3)) (r := c s (4 * v2 + 1) + c s (4 * v2 + 2) + c s (4 * v2 + 3) + c s (4 * v2)) (a1 := v2) hI hs (show 0 ≤ v2 ∧ v2 ≤ 5 from by omega) (rfl) (rfl) (rfl) (rfl) (by omega) ?_)
      refine bk_inl ?_
      by_cases h_7 : c s (4 * v2 + 1) + c s (4 * v2 + 2) + c s (4 * v2 + 3) + c s (4 * v2) ≠ 0
      · refine v_if_ne_t (t := 29) rfl (by decide) (by omega) ?_
        refine v_iinc (v := v2 + 1) rfl rfl (by decide) (by omega) ?_
        refine q_goto (t := 4) rfl (by decide) ?_
        refine Wp_ls [(0, .ref sh), (1, vi v1), (2, vi (v2 + 1))] (lsub_cons rfl (lsub_cons rfl (lsub_cons rfl lsub_nil))) ?_
        exact ih v1 (v2 + 1) ⟨by omega, by omega⟩ ⟨by omega, by omega⟩ (by omega)
      · refine v_if_ne_f (t := 29) rfl (by decide) (by omega) ?_
        refine q_iload_n rfl rfl ?_
        refine q_iconst rfl ?_
        refine q_iload_n rfl rfl ?_
        refine v_shl1 rfl ⟨by omega, by omega⟩ (fun y_8 hy_8 => ?_)
        refine v_iorx rfl (fun y_9 hy_9 => ?_)
        refine q_istore_n rfl (by decide) ?_
        refine v_iinc (v := v2 + 1) rfl rfl (by decide) (by omega) ?_
        refine q_goto (t := 4) rfl (by decide) ?_
        refine Wp_ls [(0, .ref sh), (1, vi y_9), (2, vi (v2 + 1))] (lsub_cons rfl (lsub_cons rfl (lsub_cons rfl lsub_nil))) ?_
        exact ih y_9 (v2 + 1) ⟨by omega, by omega⟩ ⟨by omega, by omega⟩ (by omega)
set_option maxRecDepth 100000 in
set_option maxHeartbeats 4000000 in
theorem s_70 {sc : List Int32} {e : Int} {d u P Q sh s : Nat} {c : ME} {Z : AR → Prop} (hI : Iv u e P Q c) (hs : (sh = 37 ∧ s = 38) ∨ (sh = 39 ∧ s = 40)) (K : ∀ (y : Int), (-2147483648) ≤ y ∧ y ≤ 2147483647 → Z (.inl (some (vi y)), Wd P Q P P c, 0, 0)) : Wp sc (d + 8) 70 0 [(0, .ref sh)] [] (Wd P Q P P c) 0 0 Z := by
  have hP := iv_P hI
  have hQ := iv_Q hI
  refine q_iconst rfl ?_
  refine q_istore_n rfl (by decide) ?_
  refine q_iconst rfl ?_
  refine q_istore_n rfl (by decide) ?_
  refine Wp_ls [(0, .ref sh), (1, vi 0), (2, vi 0)] (lsub_cons rfl (lsub_cons rfl (lsub_cons rfl lsub_nil))) ?_
  exact (s_70_l (sc := sc) (d := d) hI hs K 16) 0 0 ⟨by decide, by decide⟩ ⟨by decide, by decide⟩ (by omega)

set_option maxRecDepth 100000 in
set_option maxHeartbeats 4000000 in
theorem s_72 {sc : List Int32} {e : Int} {d u P Q : Nat} {c : ME} {a1 : Int} {Z : AR → Prop} (hI : Iv u e P Q c) (ha1 : 0 ≤ a1 ∧ a1 ≤ 20) (K : ∀ (y : Int), 0 ≤ y ∧ y ≤ 1 → ((y = 0) ∨ (a1 + c 1 3 ≤ 600)) → Z (.inl (some (vi y)), Wd P Q P P c, 0, 0)) : Wp sc (d + 7) 72 0 [(0, .ref 1), (1, vi a1)] [] (Wd P Q P P c) 0 0 Z := by
  have hP := iv_P hI
  have hQ := iv_Q hI
  refine q_aload_n rfl rfl ?_
  have h_1 := ir_1_3 hI
  refine v_gi (z := 3) (v := c 1 3) rfl rfl rfl (by decide) rfl rfl rfl ?_
  refine q_iload_n rfl rfl ?_
  refine v_iadd (v := a1 + c 1 3) rfl (by omega) ?_
  refine q_aload_n rfl rfl ?_
  refine v_gr (t := 2) rfl rfl rfl (by decide) rfl ?_
  refine v_al rfl rfl (by decide) (by decide) ?_
  by_cases h_2 : a1 + c 1 3 > 600
  · refine v_ic_gt_t (t := 18) rfl (by decide) (by omega) ?_
    refine q_iconst rfl ?_
    refine v_zret rfl rfl (by omega) ?_
    exact K 0 ⟨by decide, by decide⟩ (by omega)
  · refine v_ic_gt_f (t := 18) rfl (by decide) (by omega) ?_
    refine q_iconst rfl ?_
    refine q_goto (t := 19) rfl (by decide) ?_
    refine v_zret rfl rfl (by omega) ?_
    exact K 1 ⟨by decide, by decide⟩ (by omega)

set_option maxRecDepth 100000 in
set_option maxHeartbeats 4000000 in
theorem s_73_l {sc : List Int32} {e : Int} {d u P Q : Nat} {c : ME} {a1 : Int} {Z : AR → Prop} (hI : Iv u e P Q c) (ha1 : (-2147483648) ≤ a1 ∧ a1 ≤ 2147483647) (K : ∀ (c2 : ME), Iv u e P Q c2 → (∀ (a : Nat) (j : Int), ¬ ((a = 1 ∧ j = 3) ∨ a = 2) → c2 a j = c a j) → Z (.inl (none), Wd P Q P P c2, 0, 0)) : ∀ n : Nat, (∀ (c2 : ME) (v2 : Int), Iv u e P Q c2 → (∀ (a : Nat) (j : Int), ¬ ((a = 1 ∧ j = 3) ∨ a = 2) → c2 a j = c a j) → (-8) ≤ v2 ∧ v2 ≤ 24 → 2 * v2 + 17 < (n : Int) → Wp sc (d + 8) 73 3 [(0, .ref 1), (1, vi a1), (2, vi v2)] [] (Wd P Q P P c2) 0 0 Z)
  | 0 => by intro c2 v2 hI2 hF hv2 hm9; have hP := iv_P hI; have hQ := iv_Q hI; exfalso; omega
  | n + 1 => by
    have hP := iv_P hI
    have hQ := iv_Q hI
    have ih := s_73_l (sc := sc) (d := d) hI ha1 K n
    intro c2 v2 hI2 hF hv2 hm9
    refine q_iload_n rfl rfl ?_
    by_cases h_1 : v2 < 0
    · refine v_if_lt_t (t := 44) rfl (by decide) (by omega) ?_
      refine q_vret rfl rfl ?_
      exact K c2 hI2 (fun a j hm => hF a j (by omega))
    · refine v_if_lt_f (t := 44) rfl (by decide) (by omega) ?_
      refine q_aload_n rfl rfl ?_
      refine q_iconst rfl ?_
      have h_2 := ir_1_3 hI2
      refine v_cv rfl rfl rfl rfl (by decide) ⟨⟨rfl, rfl⟩, by decide, rfl⟩ (Nat.le_of_ble_eq_true rfl) (Nat.le_of_ble_eq_true rfl) (s_72 (a1 := 1) hI2 (show 0 ≤ 1 ∧ 1 ≤ 20 from by omega) (fun y_3 hy_3 h_4 => ?_))
      refine bk_inl ?_
      by_cases h_5 : y_3 = 0
      · refine v_if_eq_t (t := 44) rfl (by decide) (by omega) ?_
        refine q_vret rfl rfl ?_
        exact K c2 hI2 (fun a j hm => hF a j (by omega))
      · refine v_if_eq_f (t := 44) rfl (by decide) (by omega) ?_
        refine q_aload_n rfl rfl ?_
        refine v_gr (t := 2) rfl rfl rfl (by decide) rfl ?_
        refine q_aload_n rfl rfl ?_
        refine v_gi (z := 3) (v := c2 1 3) rfl rfl rfl (by decide) rfl rfl rfl ?_
        refine q_iload_n rfl rfl ?_
        refine q_iload_n rfl rfl ?_
        refine v_ishrx rfl (fun y_6 hy_6 => ?_)
        refine v_i2b rfl ?_
        refine v_bs rfl rfl (by decide) (by decide) (by omega) ?_
        refine q_aload_n rfl rfl ?_
        refine q_dup rfl rfl ?_
        refine v_gi (z := 3) (v := c2 1 3) rfl rfl rfl (by decide) rfl rfl (up_c (by decide)) ?_
        refine q_iconst rfl ?_
        refine v_iadd (v := c2 1 3 + 1) rfl (by omega) ?_
        refine v_pi (z := 3) rfl rfl rfl (by decide) rfl rfl rfl (by decide) ?_
        refine v_iinc (v := v2 - 8) rfl rfl (by decide) (by omega) ?_
        refine q_goto (t := 3) rfl (by decide) ?_
        have hI_7 := iw_2 (j := c2 1 3) (v := (sb (sb y_6))) hI2 ⟨by omega, by omega⟩
        have hI_8 := iw_1_3 (v := c2 1 3 + 1) hI_7 ⟨by omega, by omega⟩
        refine Wp_ls [(0, .ref 1), (1, vi a1), (2, vi (v2 - 8))] (lsub_cons rfl (lsub_cons rfl (lsub_cons rfl lsub_nil))) ?_
        exact ih (up (up c2 2 (c2 1 3) (sb (sb y_6))) 1 3 (c2 1 3 + 1)) (v2 - 8) hI_8 (fun a j hm => (up_b (by omega)).trans ((up_b (by omega)).trans (hF a j (by omega)))) ⟨by omega, by omega⟩ (by omega)
set_option maxRecDepth 100000 in
set_option maxHeartbeats 4000000 in
theorem s_73 {sc : List Int32} {e : Int} {d u P Q : Nat} {c : ME} {a1 : Int} {Z : AR → Prop} (hI : Iv u e P Q c) (ha1 : (-2147483648) ≤ a1 ∧ a1 ≤ 2147483647) (K : ∀ (c2 : ME), Iv u e P Q c2 → (∀ (a : Nat) (j : Int), ¬ ((a = 1 ∧ j = 3) ∨ a = 2) → c2 a j = c a j) → Z (.inl (none), Wd P Q P P c2, 0, 0)) : Wp sc (d + 8) 73 0 [(0, .ref 1), (1, vi a1)] [] (Wd P Q P P c) 0 0 Z := by
  have hP := iv_P hI
  have hQ := iv_Q hI
  refine v_bip rfl (by decide) ?_
  refine q_istore_n rfl (by decide) ?_
  refine Wp_ls [(0, .ref 1), (1, vi a1), (2, vi 24)] (lsub_cons rfl (lsub_cons rfl (lsub_cons rfl lsub_nil))) ?_
  exact (s_73_l (sc := sc) (d := d) hI ha1 K 68) c 24 hI (fun a j hm => rfl) ⟨by decide, by decide⟩ (by omega)

set_option maxRecDepth 100000 in
set_option maxHeartbeats 4000000 in
theorem s_74 {sc : List Int32} {e : Int} {d u P Q : Nat} {c : ME} {a1 : Int} {Z : AR → Prop} (hI : Iv u e P Q c) (ha1 : 0 ≤ a1 ∧ a1 ≤ 600) (K : ∀ (c2 : ME), Iv u e P Q c2 → (∀ (a : Nat) (j : Int), ¬ ((a = 1 ∧ j = 1) ∨ (a = 1 ∧ j = 2) ∨ (a = 1 ∧ j = 3) ∨ (a = 1 ∧ j = 4) ∨ (a = 1 ∧ j = 5)) → c2 a j = c a j) → ((c2 1 3 = 0)) → Z (.inl (none), Wd P Q P P c2, 0, 0)) : Wp sc (d + 7) 74 0 [(0, .ref 1), (1, vi a1)] [] (Wd P Q P P c) 0 0 Z := by
  have hP := iv_P hI
  have hQ := iv_Q hI
  refine q_aload_n rfl rfl ?_
  refine q_iload_n rfl rfl ?_
  refine q_aload_n rfl rfl ?_
  have h_1 := ir_1_3 hI
  refine v_gi (z := 3) (v := c 1 3) rfl rfl rfl (by decide) rfl rfl rfl ?_
  refine v_minx rfl rfl (by omega) (Nat.le_of_ble_eq_true rfl) ⟨by omega, by omega, by omega, by omega⟩ (fun y_2 hy_2 => ?_)
  refine v_pi (z := 1) rfl rfl rfl (by decide) rfl rfl rfl (by decide) ?_
  refine q_aload_n rfl rfl ?_
  refine q_iconst rfl ?_
  refine v_pi (z := 2) rfl rfl rfl (by decide) rfl rfl rfl (by decide) ?_
  refine q_aload_n rfl rfl ?_
  refine q_iconst rfl ?_
  refine v_pi (z := 3) rfl rfl rfl (by decide) rfl rfl rfl (by decide) ?_
  refine q_aload_n rfl rfl ?_
  refine q_iconst rfl ?_
  refine v_pi (z := 4) rfl rfl rfl (by decide) rfl rfl rfl (by decide) ?_
  refine q_aload_n rfl rfl ?_
  refine q_iconst rfl ?_
  refine v_pi (z := 5) rfl rfl rfl (by decide) rfl rfl rfl (by decide) ?_
  refine q_vret rfl rfl ?_
  have hI_3 := iw_1_1 (v := y_2) hI ⟨by omega, by omega⟩
  have hI_4 := iw_1_2 (v := 0) hI_3 ⟨by decide, by decide⟩
  have hI_5 := iw_1_3 (v := 0) hI_4 ⟨by decide, by decide⟩
  have hI_6 := iw_1_4 (v := 0) hI_5 ⟨by decide, by decide⟩
  have hI_7 := iw_1_5 (v := (-1)) hI_6 ⟨by decide, by decide⟩
  have h_8 : (up (up (up (up (up c 1 1 y_2) 1 2 0) 1 3 0) 1 4 0) 1 5 (-1)) 1 3 = 0 := ((up_n (by decide)).trans ((up_n (by decide)).trans (up_e rfl)))
  exact K (up (up (up (up (up c 1 1 y_2) 1 2 0) 1 3 0) 1 4 0) 1 5 (-1)) hI_7 (fun a j hm => (up_b (by omega)).trans ((up_b (by omega)).trans ((up_b (by omega)).trans ((up_b (by omega)).trans (up_b (by omega)))))) (by omega)

set_option maxRecDepth 100000 in
set_option maxHeartbeats 4000000 in
theorem s_76 {sc : List Int32} {e : Int} {d u P Q : Nat} {c : ME} {a1 : Int} {Z : AR → Prop} (hI : Iv u e P Q c) (ha1 : 1 ≤ a1 ∧ a1 ≤ 16) (K : ∀ (c2 : ME) (y : Int), Iv u e P Q c2 → (∀ (a : Nat) (j : Int), ¬ ((a = 9 ∧ j = 0)) → c2 a j = c a j) → 0 ≤ y ∧ y ≤ 15 → ((y < a1)) → Z (.inl (some (vi y)), Wd P Q P P c2, 0, 0)) : Wp sc (d + 7) 76 0 [(0, .ref 9), (1, vi a1)] [] (Wd P Q P P c) 0 0 Z := by
  have hP := iv_P hI
  have hQ := iv_Q hI
  refine q_aload_n rfl rfl ?_
  refine q_aload_n rfl rfl ?_
  have h_1 := ir_9_0 hI
  refine v_gi (z := 0) (v := c 9 0) rfl rfl rfl (by decide) rfl rfl rfl ?_
  refine v_ldc (n := 1103515245) rfl rfl (by decide +kernel) ?_
  refine v_imul (v := 1103515245 * c 9 0) rfl (by omega) ?_
  refine v_nrm (fun y_2 hy_2 => ?_)
  refine v_sip rfl (by decide) ?_
  refine v_iadd (v := y_2 + 12345) rfl (by omega) ?_
  refine v_nrm (fun y_3 hy_3 => ?_)
  refine v_pi (z := 0) rfl rfl rfl (by decide) rfl rfl rfl (by decide) ?_
  refine q_iload_n rfl rfl ?_
  refine v_if_le_f (t := 35) rfl (by decide) (by omega) ?_
  refine q_aload_n rfl rfl ?_
  refine v_gi (z := 0) (v := y_3) rfl rfl rfl (by decide) rfl rfl (up_e rfl) ?_
  refine v_bip rfl (by decide) ?_
  refine v_iushrx rfl (fun y_4 hy_4 => ?_)
  refine v_sip rfl (by decide) ?_
  refine v_and15 (v := (y_4 % 32768)) rfl rfl ?_
  refine q_iload_n rfl rfl ?_
  have h_5 : 0 ≤ ((y_4 % 32768) % a1) ∧ ((y_4 % 32768) % a1) < a1 := rem_bd (by omega)
  refine v_irem (v := ((y_4 % 32768) % a1)) rfl (by omega) rfl ?_
  refine q_goto (t := 36) rfl (by decide) ?_
  refine q_iret rfl rfl ?_
  have hI_6 := iw_9_0 (v := y_3) hI ⟨by omega, by omega⟩
  exact K (up c 9 0 y_3) ((y_4 % 32768) % a1) hI_6 (fun a j hm => up_b (by omega)) ⟨by omega, by omega⟩ (by omega)

set_option maxRecDepth 100000 in
set_option maxHeartbeats 4000000 in
theorem s_77_l {sc : List Int32} {d P Q : Nat} {c : ME} {a2 : Int} {a3 : Int} {a4 : Int} {Z : AR → Prop} (hI : Iv 0 (-1) P Q c) (ha2 : (-2147483648) ≤ a2 ∧ a2 ≤ 2147483647) (ha3 : 0 ≤ a3 ∧ a3 ≤ 16) (ha4 : 1 ≤ a4 ∧ a4 ≤ 48) (K : ∀ (c2 : ME), Iv 0 (-1) P Q c2 → (∀ (a : Nat) (j : Int), ¬ ((a = 9 ∧ j = 0) ∨ a = 40 ∨ a = (P + 10) ∨ a = (P + 11)) → c2 a j = c a j) → Z (.inl (none), Wd P Q P P c2, 0, 0)) : ∀ n : Nat, (∀ (c2 : ME) (v5 : Int) (v6 : Int) (v7 : Int) (v8 : Int), Iv 0 (-1) P Q c2 → (∀ (a : Nat) (j : Int), ¬ ((a = 9 ∧ j = 0) ∨ a = 40 ∨ a = (P + 10) ∨ a = (P + 11)) → c2 a j = c a j) → 0 ≤ v5 ∧ v5 ≤ 6 → 0 ≤ v6 ∧ v6 ≤ 4 → 0 ≤ v7 ∧ v7 ≤ 4 → 0 ≤ v8 ∧ v8 ≤ 48 → 97 - 2 * v8 < (n : Int) → Wp sc (d + 12) 77 35 [(0, .ref 9), (1, .ref 39), (2, vi a2), (3, vi a3), (4, vi a4), (5, vi v5), (6, vi v6), (7, vi v7), (8, vi v8)] [] (Wd P Q P P c2) 0 0 Z)
  | 0 => by intro c2 v5 v6 v7 v8 hI2 hF hv5 hv6 hv7 hv8 hm9; have hP := iv_P hI; have hQ := iv_Q hI; exfalso; omega
  | n + 1 => by
    have hP := iv_P hI
    have hQ := iv_Q hI
    have ih := s_77_l (sc := sc) (d := d) hI ha2 ha3 ha4 K n
    intro c2 v5 v6 v7 v8 hI2 hF hv5 hv6 hv7 hv8 hm9
    refine q_iload rfl rfl ?_
    refine q_iload rfl rfl ?_
    by_cases h_1 : v8 ≥ a4
    · refine v_ic_ge_t (t := 159) rfl (by decide) (by omega) ?_
      refine q_vret rfl rfl ?_
      exact K c2 hI2 (fun a j hm => hF a j (by omega))
    · refine v_ic_ge_f (t := 159) rfl (by decide) (by omega) ?_
      refine q_iload rfl rfl ?_
      by_cases h_2 : v5 ≤ 0
      · refine v_if_le_t (t := 73) rfl (by decide) (by omega) ?_
        refine q_iload rfl rfl ?_
        refine q_iconst rfl ?_
        refine v_ic_lt_t (t := 133) rfl (by decide) (by omega) ?_
        refine q_iload rfl rfl ?_
        refine v_if_le_t (t := 149) rfl (by decide) (by omega) ?_
        refine q_aload_n rfl rfl ?_
        refine v_cv rfl rfl rfl rfl (by decide) ⟨⟨rfl, rfl⟩, by decide, rfl⟩ (Nat.le_of_ble_eq_true rfl) (Nat.le_of_ble_eq_true rfl) (s_59 hI2 (by omega) (fun c_3 hI_4 hF_5 => ?_))
        refine bk_inl ?_
        refine v_iinc (v := v8 + 1) rfl rfl (by decide) (by omega) ?_
        refine q_goto (t := 35) rfl (by decide) ?_
        refine Wp_ls [(0, .ref 9), (1, .ref 39), (2, vi a2), (3, vi a3), (4, vi a4), (5, vi v5), (6, vi v6), (7, vi v7), (8, vi (v8 + 1))] (lsub_cons rfl (lsub_cons rfl (lsub_cons rfl (lsub_cons rfl (lsub_cons rfl (lsub_cons rfl (lsub_cons rfl (lsub_cons rfl (lsub_cons rfl lsub_nil))))))))) ?_
        exact ih c_3 v5 v6 v7 (v8 + 1) hI_4 (fun a j hm => (hF_5 a j (by omega)).trans (hF a j (by omega))) ⟨by omega, by omega⟩ ⟨by omega, by omega⟩ ⟨by omega, by omega⟩ ⟨by omega, by omega⟩ (by omega)
      · refine v_if_le_f (t := 73) rfl (by decide) (by omega) ?_
        refine q_iload rfl rfl ?_
        by_cases h_6 : v6 ≤ 0
        · refine v_if_le_t (t := 73) rfl (by decide) (by omega) ?_
          refine q_iload rfl rfl ?_
          refine q_iconst rfl ?_
          by_cases h_7 : v5 < 3
          · refine v_ic_lt_t (t := 133) rfl (by decide) (by omega) ?_
            refine q_iload rfl rfl ?_
            refine v_if_le_f (t := 149) rfl (by decide) (by omega) ?_
            refine q_aload_n rfl rfl ?_
            refine q_aload_n rfl rfl ?_
            refine q_iload rfl rfl ?_
            refine v_cv rfl rfl rfl rfl (by decide) ⟨⟨rfl, rfl⟩, by decide, rfl⟩ (Nat.le_of_ble_eq_true rfl) (Nat.le_of_ble_eq_true rfl) (s_76 (a1 := v5) hI2 (show 1 ≤ v5 ∧ v5 ≤ 16 from by omega) (fun c_8 y_11 hI_9 hF_10 hy_11 h_12 => ?_))
            refine bk_inl ?_
            refine v_cv rfl rfl rfl rfl (by decide) ⟨⟨rfl, rfl⟩, by decide, rfl⟩ (Nat.le_of_ble_eq_true rfl) (Nat.le_of_ble_eq_true rfl) (s_58 (a1 := y_11) hI_9 (by omega) (show 0 ≤ y_11 ∧ y_11 ≤ 5 from by omega) (fun c_13 y_16 hI_14 hF_15 hy_16 => ?_))
            refine bk_inl ?_
            refine q_pop rfl rfl ?_
            refine q_aload_n rfl rfl ?_
            refine v_cv rfl rfl rfl rfl (by decide) ⟨⟨rfl, rfl⟩, by decide, rfl⟩ (Nat.le_of_ble_eq_true rfl) (Nat.le_of_ble_eq_true rfl) (s_59 hI_14 (by omega) (fun c_17 hI_18 hF_19 => ?_))
            refine bk_inl ?_
            refine v_iinc (v := v8 + 1) rfl rfl (by decide) (by omega) ?_
            refine q_goto (t := 35) rfl (by decide) ?_
            refine Wp_ls [(0, .ref 9), (1, .ref 39), (2, vi a2), (3, vi a3), (4, vi a4), (5, vi v5), (6, vi v6), (7, vi v7), (8, vi (v8 + 1))] (lsub_cons rfl (lsub_cons rfl (lsub_cons rfl (lsub_cons rfl (lsub_cons rfl (lsub_cons rfl (lsub_cons rfl (lsub_cons rfl (lsub_cons rfl lsub_nil))))))))) ?_
            exact ih c_17 v5 v6 v7 (v8 + 1) hI_18 (fun a j hm => (hF_19 a j (by omega)).trans ((hF_15 a j (by omega)).trans ((hF_10 a j (by omega)).trans (hF a j (by omega))))) ⟨by omega, by omega⟩ ⟨by omega, by omega⟩ ⟨by omega, by omega⟩ ⟨by omega, by omega⟩ (by omega)
          · refine v_ic_lt_f (t := 133) rfl (by decide) (by omega) ?_
            refine q_iload rfl rfl ?_
            by_cases h_20 : v7 ≤ 0
            · refine v_if_le_t (t := 133) rfl (by decide) (by omega) ?_
              refine q_iload rfl rfl ?_
              refine v_if_le_f (t := 149) rfl (by decide) (by omega) ?_
              refine q_aload_n rfl rfl ?_
              refine q_aload_n rfl rfl ?_
              refine q_iload rfl rfl ?_
              refine v_cv rfl rfl rfl rfl (by decide) ⟨⟨rfl, rfl⟩, by decide, rfl⟩ (Nat.le_of_ble_eq_true rfl) (Nat.le_of_ble_eq_true rfl) (s_76 (a1 := v5) hI2 (show 1 ≤ v5 ∧ v5 ≤ 16 from by omega) (fun c_21 y_24 hI_22 hF_23 hy_24 h_25 => ?_))
              refine bk_inl ?_
              refine v_cv rfl rfl rfl rfl (by decide) ⟨⟨rfl, rfl⟩, by decide, rfl⟩ (Nat.le_of_ble_eq_true rfl) (Nat.le_of_ble_eq_true rfl) (s_58 (a1 := y_24) hI_22 (by omega) (show 0 ≤ y_24 ∧ y_24 ≤ 5 from by omega) (fun c_26 y_29 hI_27 hF_28 hy_29 => ?_))
              refine bk_inl ?_
              refine q_pop rfl rfl ?_
              refine q_aload_n rfl rfl ?_
              refine v_cv rfl rfl rfl rfl (by decide) ⟨⟨rfl, rfl⟩, by decide, rfl⟩ (Nat.le_of_ble_eq_true rfl) (Nat.le_of_ble_eq_true rfl) (s_59 hI_27 (by omega) (fun c_30 hI_31 hF_32 => ?_))
              refine bk_inl ?_
              refine v_iinc (v := v8 + 1) rfl rfl (by decide) (by omega) ?_
              refine q_goto (t := 35) rfl (by decide) ?_
              refine Wp_ls [(0, .ref 9), (1, .ref 39), (2, vi a2), (3, vi a3), (4, vi a4), (5, vi v5), (6, vi v6), (7, vi v7), (8, vi (v8 + 1))] (lsub_cons rfl (lsub_cons rfl (lsub_cons rfl (lsub_cons rfl (lsub_cons rfl (lsub_cons rfl (lsub_cons rfl (lsub_cons rfl (lsub_cons rfl lsub_nil))))))))) ?_
              exact ih c_30 v5 v6 v7 (v8 + 1) hI_31 (fun a j hm => (hF_32 a j (by omega)).trans ((hF_28 a j (by omega)).trans ((hF_23 a j (by omega)).trans (hF a j (by omega))))) ⟨by omega, by omega⟩ ⟨by omega, by omega⟩ ⟨by omega, by omega⟩ ⟨by omega, by omega⟩ (by omega)
            · refine v_if_le_f (t := 133) rfl (by decide) (by omega) ?_
              refine q_aload_n rfl rfl ?_
              refine q_iload rfl rfl ?_
              refine v_cv rfl rfl rfl rfl (by decide) ⟨⟨rfl, rfl⟩, by decide, rfl⟩ (Nat.le_of_ble_eq_true rfl) (Nat.le_of_ble_eq_true rfl) (s_76 (a1 := v7) hI2 (show 1 ≤ v7 ∧ v7 ≤ 16 from by omega) (fun c_33 y_36 hI_34 hF_35 hy_36 h_37 => ?_))
              refine bk_inl ?_
              refine q_istore rfl (by decide) ?_
              refine q_aload_n rfl rfl ?_
              refine q_iload rfl rfl ?_
              refine v_cv rfl rfl rfl rfl (by decide) ⟨⟨rfl, rfl⟩, by decide, rfl⟩ (Nat.le_of_ble_eq_true rfl) (Nat.le_of_ble_eq_true rfl) (s_76 (a1 := v5) hI_34 (show 1 ≤ v5 ∧ v5 ≤ 16 from by omega) (fun c_38 y_41 hI_39 hF_40 hy_41 h_42 => ?_))
              refine bk_inl ?_
              refine q_istore rfl (by decide) ?_
              refine q_aload_n rfl rfl ?_
              refine v_bip rfl (by decide) ?_
              refine v_cv rfl rfl rfl rfl (by decide) ⟨⟨rfl, rfl⟩, by decide, rfl⟩ (Nat.le_of_ble_eq_true rfl) (Nat.le_of_ble_eq_true rfl) (s_76 (a1 := 16) hI_39 (show 1 ≤ 16 ∧ 16 ≤ 16 from by omega) (fun c_43 y_46 hI_44 hF_45 hy_46 h_47 => ?_))
              refine bk_inl ?_
              refine q_iload_n rfl rfl ?_
              by_cases h_48 : y_46 ≥ a3
              · refine v_ic_ge_t (t := 133) rfl (by decide) (by omega) ?_
                refine q_iload rfl rfl ?_
                refine v_if_le_f (t := 149) rfl (by decide) (by omega) ?_
                refine q_aload_n rfl rfl ?_
                refine q_aload_n rfl rfl ?_
                refine q_iload rfl rfl ?_
                refine v_cv rfl rfl rfl rfl (by decide) ⟨⟨rfl, rfl⟩, by decide, rfl⟩ (Nat.le_of_ble_eq_true rfl) (Nat.le_of_ble_eq_true rfl) (s_76 (a1 := v5) hI_44 (show 1 ≤ v5 ∧ v5 ≤ 16 from by omega) (fun c_49 y_52 hI_50 hF_51 hy_52 h_53 => ?_))
                refine bk_inl ?_
                refine v_cv rfl rfl rfl rfl (by decide) ⟨⟨rfl, rfl⟩, by decide, rfl⟩ (Nat.le_of_ble_eq_true rfl) (Nat.le_of_ble_eq_true rfl) (s_58 (a1 := y_52) hI_50 (by omega) (show 0 ≤ y_52 ∧ y_52 ≤ 5 from by omega) (fun c_54 y_57 hI_55 hF_56 hy_57 => ?_))
                refine bk_inl ?_
                refine q_pop rfl rfl ?_
                refine q_aload_n rfl rfl ?_
                refine v_cv rfl rfl rfl rfl (by decide) ⟨⟨rfl, rfl⟩, by decide, rfl⟩ (Nat.le_of_ble_eq_true rfl) (Nat.le_of_ble_eq_true rfl) (s_59 hI_55 (by omega) (fun c_58 hI_59 hF_60 => ?_))
                refine bk_inl ?_
                refine v_iinc (v := v8 + 1) rfl rfl (by decide) (by omega) ?_
                refine q_goto (t := 35) rfl (by decide) ?_
                refine Wp_ls [(0, .ref 9), (1, .ref 39), (2, vi a2), (3, vi a3), (4, vi a4), (5, vi v5), (6, vi v6), (7, vi v7), (8, vi (v8 + 1))] (lsub_cons rfl (lsub_cons rfl (lsub_cons rfl (lsub_cons rfl (lsub_cons rfl (lsub_cons rfl (lsub_cons rfl (lsub_cons rfl (lsub_cons rfl lsub_nil))))))))) ?_
                exact ih c_58 v5 v6 v7 (v8 + 1) hI_59 (fun a j hm => (hF_60 a j (by omega)).trans ((hF_56 a j (by omega)).trans ((hF_51 a j (by omega)).trans ((hF_45 a j (by omega)).trans ((hF_40 a j (by omega)).trans ((hF_35 a j (by omega)).trans (hF a j (by omega)))))))) ⟨by omega, by omega⟩ ⟨by omega, by omega⟩ ⟨by omega, by omega⟩ ⟨by omega, by omega⟩ (by omega)
              · refine v_ic_ge_f (t := 133) rfl (by decide) (by omega) ?_
                refine q_aload_n rfl rfl ?_
                refine q_iload rfl rfl ?_
                refine q_iload rfl rfl ?_
                refine q_iload rfl rfl ?_
                refine q_iconst rfl ?_
                refine v_iadd (v := y_41 + 1) rfl (by omega) ?_
                refine q_iload rfl rfl ?_
                have h_61 : 0 ≤ ((y_41 + 1) % v5) ∧ ((y_41 + 1) % v5) < v5 := rem_bd (by omega)
                refine v_irem (v := ((y_41 + 1) % v5)) rfl (by omega) rfl ?_
                refine q_iload rfl rfl ?_
                refine q_iconst rfl ?_
                refine v_iadd (v := y_41 + 2) rfl (by omega) ?_
                refine q_iload rfl rfl ?_
                have h_62 : 0 ≤ ((y_41 + 2) % v5) ∧ ((y_41 + 2) % v5) < v5 := rem_bd (by omega)
                refine v_irem (v := ((y_41 + 2) % v5)) rfl (by omega) rfl ?_
                refine v_cv rfl rfl rfl rfl (by decide) ⟨⟨rfl, rfl⟩, by decide, rfl⟩ (Nat.le_of_ble_eq_true rfl) (Nat.le_of_ble_eq_true rfl) (s_53 (a1 := y_36) (a2 := y_41) (a3 := ((y_41 + 1) % v5)) (a4 := ((y_41 + 2) % v5)) hI_44 (by omega) (show 0 ≤ y_36 ∧ y_36 ≤ 3 from by omega) (show 0 ≤ y_41 ∧ y_41 ≤ 5 from by omega) (show 0 ≤ ((y_41 + 1) % v5) ∧ ((y_41 + 1) % v5) ≤ 5 from by omega) (show 0 ≤ ((y_41 + 2) % v5) ∧ ((y_41 + 2) % v5) ≤ 5 from by omega) (fun c_63 y_66 hI_64 hF_65 hy_66 => ?_))
                refine bk_inl ?_
                refine q_pop rfl rfl ?_
                refine q_iload rfl rfl ?_
                refine v_if_le_f (t := 149) rfl (by decide) (by omega) ?_
                refine q_aload_n rfl rfl ?_
                refine q_aload_n rfl rfl ?_
                refine q_iload rfl rfl ?_
                refine v_cv rfl rfl rfl rfl (by decide) ⟨⟨rfl, rfl⟩, by decide, rfl⟩ (Nat.le_of_ble_eq_true rfl) (Nat.le_of_ble_eq_true rfl) (s_76 (a1 := v5) hI_64 (show 1 ≤ v5 ∧ v5 ≤ 16 from by omega) (fun c_67 y_70 hI_68 hF_69 hy_70 h_71 => ?_))
                refine bk_inl ?_
                refine v_cv rfl rfl rfl rfl (by decide) ⟨⟨rfl, rfl⟩, by decide, rfl⟩ (Nat.le_of_ble_eq_true rfl) (Nat.le_of_ble_eq_true rfl) (s_58 (a1 := y_70) hI_68 (by omega) (show 0 ≤ y_70 ∧ y_70 ≤ 5 from by omega) (fun c_72 y_75 hI_73 hF_74 hy_75 => ?_))
                refine bk_inl ?_
                refine q_pop rfl rfl ?_
                refine q_aload_n rfl rfl ?_
                refine v_cv rfl rfl rfl rfl (by decide) ⟨⟨rfl, rfl⟩, by decide, rfl⟩ (Nat.le_of_ble_eq_true rfl) (Nat.le_of_ble_eq_true rfl) (s_59 hI_73 (by omega) (fun c_76 hI_77 hF_78 => ?_))
                refine bk_inl ?_
                refine v_iinc (v := v8 + 1) rfl rfl (by decide) (by omega) ?_
                refine q_goto (t := 35) rfl (by decide) ?_
                refine Wp_ls [(0, .ref 9), (1, .ref 39), (2, vi a2), (3, vi a3), (4, vi a4), (5, vi v5), (6, vi v6), (7, vi v7), (8, vi (v8 + 1))] (lsub_cons rfl (lsub_cons rfl (lsub_cons rfl (lsub_cons rfl (lsub_cons rfl (lsub_cons rfl (lsub_cons rfl (lsub_cons rfl (lsub_cons rfl lsub_nil))))))))) ?_
                exact ih c_76 v5 v6 v7 (v8 + 1) hI_77 (fun a j hm => (hF_78 a j (by omega)).trans ((hF_74 a j (by omega)).trans ((hF_69 a j (by omega)).trans ((hF_65 a j (by omega)).trans ((hF_45 a j (by omega)).trans ((hF_40 a j (by omega)).trans ((hF_35 a j (by omega)).trans (hF a j (by omega))))))))) ⟨by omega, by omega⟩ ⟨by omega, by omega⟩ ⟨by omega, by omega⟩ ⟨by omega, by omega⟩ (by omega)
        · refine v_if_le_f (t := 73) rfl (by decide) (by omega) ?_
          refine q_aload_n rfl rfl ?_
          refine q_iload rfl rfl ?_
          refine v_cv rfl rfl rfl rfl (by decide) ⟨⟨rfl, rfl⟩, by decide, rfl⟩ (Nat.le_of_ble_eq_true rfl) (Nat.le_of_ble_eq_true rfl) (s_76 (a1 := v6) hI2 (show 1 ≤ v6 ∧ v6 ≤ 16 from by omega) (fun c_79 y_82 hI_80 hF_81 hy_82 h_83 => ?_))
          refine bk_inl ?_
          refine q_istore rfl (by decide) ?_
          refine q_aload_n rfl rfl ?_
          refine q_iload rfl rfl ?_
          refine q_aload_n rfl rfl ?_
          refine q_iload rfl rfl ?_
          refine v_cv rfl rfl rfl rfl (by decide) ⟨⟨rfl, rfl⟩, by decide, rfl⟩ (Nat.le_of_ble_eq_true rfl) (Nat.le_of_ble_eq_true rfl) (s_76 (a1 := v5) hI_80 (show 1 ≤ v5 ∧ v5 ≤ 16 from by omega) (fun c_84 y_87 hI_85 hF_86 hy_87 h_88 => ?_))
          refine bk_inl ?_
          refine v_cv rfl rfl rfl rfl (by decide) ⟨⟨rfl, rfl⟩, by decide, rfl⟩ (Nat.le_of_ble_eq_true rfl) (Nat.le_of_ble_eq_true rfl) (s_44 (a1 := y_82) (a2 := y_87) hI_85 (by omega) (show 0 ≤ y_82 ∧ y_82 ≤ 3 from by omega) (show 0 ≤ y_87 ∧ y_87 ≤ 5 from by omega) (fun c_89 y_92 hI_90 hF_91 hy_92 => ?_))
          refine bk_inl ?_
          refine q_pop rfl rfl ?_
          refine q_iload rfl rfl ?_
          refine q_iconst rfl ?_
          by_cases h_93 : v5 < 3
          · refine v_ic_lt_t (t := 133) rfl (by decide) (by omega) ?_
            refine q_iload rfl rfl ?_
            refine v_if_le_f (t := 149) rfl (by decide) (by omega) ?_
            refine q_aload_n rfl rfl ?_
            refine q_aload_n rfl rfl ?_
            refine q_iload rfl rfl ?_
            refine v_cv rfl rfl rfl rfl (by decide) ⟨⟨rfl, rfl⟩, by decide, rfl⟩ (Nat.le_of_ble_eq_true rfl) (Nat.le_of_ble_eq_true rfl) (s_76 (a1 := v5) hI_90 (show 1 ≤ v5 ∧ v5 ≤ 16 from by omega) (fun c_94 y_97 hI_95 hF_96 hy_97 h_98 => ?_))
            refine bk_inl ?_
            refine v_cv rfl rfl rfl rfl (by decide) ⟨⟨rfl, rfl⟩, by decide, rfl⟩ (Nat.le_of_ble_eq_true rfl) (Nat.le_of_ble_eq_true rfl) (s_58 (a1 := y_97) hI_95 (by omega) (show 0 ≤ y_97 ∧ y_97 ≤ 5 from by omega) (fun c_99 y_102 hI_100 hF_101 hy_102 => ?_))
            refine bk_inl ?_
            refine q_pop rfl rfl ?_
            refine q_aload_n rfl rfl ?_
            refine v_cv rfl rfl rfl rfl (by decide) ⟨⟨rfl, rfl⟩, by decide, rfl⟩ (Nat.le_of_ble_eq_true rfl) (Nat.le_of_ble_eq_true rfl) (s_59 hI_100 (by omega) (fun c_103 hI_104 hF_105 => ?_))
            refine bk_inl ?_
            refine v_iinc (v := v8 + 1) rfl rfl (by decide) (by omega) ?_
            refine q_goto (t := 35) rfl (by decide) ?_
            refine Wp_ls [(0, .ref 9), (1, .ref 39), (2, vi a2), (3, vi a3), (4, vi a4), (5, vi v5), (6, vi v6), (7, vi v7), (8, vi (v8 + 1))] (lsub_cons rfl (lsub_cons rfl (lsub_cons rfl (lsub_cons rfl (lsub_cons rfl (lsub_cons rfl (lsub_cons rfl (lsub_cons rfl (lsub_cons rfl lsub_nil))))))))) ?_
            exact ih c_103 v5 v6 v7 (v8 + 1) hI_104 (fun a j hm => (hF_105 a j (by omega)).trans ((hF_101 a j (by omega)).trans ((hF_96 a j (by omega)).trans ((hF_91 a j (by omega)).trans ((hF_86 a j (by omega)).trans ((hF_81 a j (by omega)).trans (hF a j (by omega)))))))) ⟨by omega, by omega⟩ ⟨by omega, by omega⟩ ⟨by omega, by omega⟩ ⟨by omega, by omega⟩ (by omega)
          · refine v_ic_lt_f (t := 133) rfl (by decide) (by omega) ?_
            refine q_iload rfl rfl ?_
            by_cases h_106 : v7 ≤ 0
            · refine v_if_le_t (t := 133) rfl (by decide) (by omega) ?_
              refine q_iload rfl rfl ?_
              refine v_if_le_f (t := 149) rfl (by decide) (by omega) ?_
              refine q_aload_n rfl rfl ?_
              refine q_aload_n rfl rfl ?_
              refine q_iload rfl rfl ?_
              refine v_cv rfl rfl rfl rfl (by decide) ⟨⟨rfl, rfl⟩, by decide, rfl⟩ (Nat.le_of_ble_eq_true rfl) (Nat.le_of_ble_eq_true rfl) (s_76 (a1 := v5) hI_90 (show 1 ≤ v5 ∧ v5 ≤ 16 from by omega) (fun c_107 y_110 hI_108 hF_109 hy_110 h_111 => ?_))
              refine bk_inl ?_
              refine v_cv rfl rfl rfl rfl (by decide) ⟨⟨rfl, rfl⟩, by decide, rfl⟩ (Nat.le_of_ble_eq_true rfl) (Nat.le_of_ble_eq_true rfl) (s_58 (a1 := y_110) hI_108 (by omega) (show 0 ≤ y_110 ∧ y_110 ≤ 5 from by omega) (fun c_112 y_115 hI_113 hF_114 hy_115 => ?_))
              refine bk_inl ?_
              refine q_pop rfl rfl ?_
              refine q_aload_n rfl rfl ?_
              refine v_cv rfl rfl rfl rfl (by decide) ⟨⟨rfl, rfl⟩, by decide, rfl⟩ (Nat.le_of_ble_eq_true rfl) (Nat.le_of_ble_eq_true rfl) (s_59 hI_113 (by omega) (fun c_116 hI_117 hF_118 => ?_))
              refine bk_inl ?_
              refine v_iinc (v := v8 + 1) rfl rfl (by decide) (by omega) ?_
              refine q_goto (t := 35) rfl (by decide) ?_
              refine Wp_ls [(0, .ref 9), (1, .ref 39), (2, vi a2), (3, vi a3), (4, vi a4), (5, vi v5), (6, vi v6), (7, vi v7), (8, vi (v8 + 1))] (lsub_cons rfl (lsub_cons rfl (lsub_cons rfl (lsub_cons rfl (lsub_cons rfl (lsub_cons rfl (lsub_cons rfl (lsub_cons rfl (lsub_cons rfl lsub_nil))))))))) ?_
              exact ih c_116 v5 v6 v7 (v8 + 1) hI_117 (fun a j hm => (hF_118 a j (by omega)).trans ((hF_114 a j (by omega)).trans ((hF_109 a j (by omega)).trans ((hF_91 a j (by omega)).trans ((hF_86 a j (by omega)).trans ((hF_81 a j (by omega)).trans (hF a j (by omega)))))))) ⟨by omega, by omega⟩ ⟨by omega, by omega⟩ ⟨by omega, by omega⟩ ⟨by omega, by omega⟩ (by omega)
            · refine v_if_le_f (t := 133) rfl (by decide) (by omega) ?_
              refine q_aload_n rfl rfl ?_
              refine q_iload rfl rfl ?_
              refine v_cv rfl rfl rfl rfl (by decide) ⟨⟨rfl, rfl⟩, by decide, rfl⟩ (Nat.le_of_ble_eq_true rfl) (Nat.le_of_ble_eq_true rfl) (s_76 (a1 := v7) hI_90 (show 1 ≤ v7 ∧ v7 ≤ 16 from by omega) (fun c_119 y_122 hI_120 hF_121 hy_122 h_123 => ?_))
              refine bk_inl ?_
              refine q_istore rfl (by decide) ?_
              refine q_aload_n rfl rfl ?_
              refine q_iload rfl rfl ?_
              refine v_cv rfl rfl rfl rfl (by decide) ⟨⟨rfl, rfl⟩, by decide, rfl⟩ (Nat.le_of_ble_eq_true rfl) (Nat.le_of_ble_eq_true rfl) (s_76 (a1 := v5) hI_120 (show 1 ≤ v5 ∧ v5 ≤ 16 from by omega) (fun c_124 y_127 hI_125 hF_126 hy_127 h_128 => ?_))
              refine bk_inl ?_
              refine q_istore rfl (by decide) ?_
              refine q_aload_n rfl rfl ?_
              refine v_bip rfl (by decide) ?_
              refine v_cv rfl rfl rfl rfl (by decide) ⟨⟨rfl, rfl⟩, by decide, rfl⟩ (Nat.le_of_ble_eq_true rfl) (Nat.le_of_ble_eq_true rfl) (s_76 (a1 := 16) hI_125 (show 1 ≤ 16 ∧ 16 ≤ 16 from by omega) (fun c_129 y_132 hI_130 hF_131 hy_132 h_133 => ?_))
              refine bk_inl ?_
              refine q_iload_n rfl rfl ?_
              by_cases h_134 : y_132 ≥ a3
              · refine v_ic_ge_t (t := 133) rfl (by decide) (by omega) ?_
                refine q_iload rfl rfl ?_
                refine v_if_le_f (t := 149) rfl (by decide) (by omega) ?_
                refine q_aload_n rfl rfl ?_
                refine q_aload_n rfl rfl ?_
                refine q_iload rfl rfl ?_
                refine v_cv rfl rfl rfl rfl (by decide) ⟨⟨rfl, rfl⟩, by decide, rfl⟩ (Nat.le_of_ble_eq_true rfl) (Nat.le_of_ble_eq_true rfl) (s_76 (a1 := v5) hI_130 (show 1 ≤ v5 ∧ v5 ≤ 16 from by omega) (fun c_135 y_138 hI_136 hF_137 hy_138 h_139 => ?_))
                refine bk_inl ?_
                refine v_cv rfl rfl rfl rfl (by decide) ⟨⟨rfl, rfl⟩, by decide, rfl⟩ (Nat.le_of_ble_eq_true rfl) (Nat.le_of_ble_eq_true rfl) (s_58 (a1 := y_138) hI_136 (by omega) (show 0 ≤ y_138 ∧ y_138 ≤ 5 from by omega) (fun c_140 y_143 hI_141 hF_142 hy_143 => ?_))
                refine bk_inl ?_
                refine q_pop rfl rfl ?_
                refine q_aload_n rfl rfl ?_
                refine v_cv rfl rfl rfl rfl (by decide) ⟨⟨rfl, rfl⟩, by decide, rfl⟩ (Nat.le_of_ble_eq_true rfl) (Nat.le_of_ble_eq_true rfl) (s_59 hI_141 (by omega) (fun c_144 hI_145 hF_146 => ?_))
                refine bk_inl ?_
                refine v_iinc (v := v8 + 1) rfl rfl (by decide) (by omega) ?_
                refine q_goto (t := 35) rfl (by decide) ?_
                refine Wp_ls [(0, .ref 9), (1, .ref 39), (2, vi a2), (3, vi a3), (4, vi a4), (5, vi v5), (6, vi v6), (7, vi v7), (8, vi (v8 + 1))] (lsub_cons rfl (lsub_cons rfl (lsub_cons rfl (lsub_cons rfl (lsub_cons rfl (lsub_cons rfl (lsub_cons rfl (lsub_cons rfl (lsub_cons rfl lsub_nil))))))))) ?_
                exact ih c_144 v5 v6 v7 (v8 + 1) hI_145 (fun a j hm => (hF_146 a j (by omega)).trans ((hF_142 a j (by omega)).trans ((hF_137 a j (by omega)).trans ((hF_131 a j (by omega)).trans ((hF_126 a j (by omega)).trans ((hF_121 a j (by omega)).trans ((hF_91 a j (by omega)).trans ((hF_86 a j (by omega)).trans ((hF_81 a j (by omega)).trans (hF a j (by omega))))))))))) ⟨by omega, by omega⟩ ⟨by omega, by omega⟩ ⟨by omega, by omega⟩ ⟨by omega, by omega⟩ (by omega)
              · refine v_ic_ge_f (t := 133) rfl (by decide) (by omega) ?_
                refine q_aload_n rfl rfl ?_
                refine q_iload rfl rfl ?_
                refine q_iload rfl rfl ?_
                refine q_iload rfl rfl ?_
                refine q_iconst rfl ?_
                refine v_iadd (v := y_127 + 1) rfl (by omega) ?_
                refine q_iload rfl rfl ?_
                have h_147 : 0 ≤ ((y_127 + 1) % v5) ∧ ((y_127 + 1) % v5) < v5 := rem_bd (by omega)
                refine v_irem (v := ((y_127 + 1) % v5)) rfl (by omega) rfl ?_
                refine q_iload rfl rfl ?_
                refine q_iconst rfl ?_
                refine v_iadd (v := y_127 + 2) rfl (by omega) ?_
                refine q_iload rfl rfl ?_
                have h_148 : 0 ≤ ((y_127 + 2) % v5) ∧ ((y_127 + 2) % v5) < v5 := rem_bd (by omega)
                refine v_irem (v := ((y_127 + 2) % v5)) rfl (by omega) rfl ?_
                refine v_cv rfl rfl rfl rfl (by decide) ⟨⟨rfl, rfl⟩, by decide, rfl⟩ (Nat.le_of_ble_eq_true rfl) (Nat.le_of_ble_eq_true rfl) (s_53 (a1 := y_122) (a2 := y_127) (a3 := ((y_127 + 1) % v5)) (a4 := ((y_127 + 2) % v5)) hI_130 (by omega) (show 0 ≤ y_122 ∧ y_122 ≤ 3 from by omega) (show 0 ≤ y_127 ∧ y_127 ≤ 5 from by omega) (show 0 ≤ ((y_127 + 1) % v5) ∧ ((y_127 + 1) % v5) ≤ 5 from by omega) (show 0 ≤ ((y_127 + 2) % v5) ∧ ((y_127 + 2) % v5) ≤ 5 from by omega) (fun c_149 y_152 hI_150 hF_151 hy_152 => ?_))
                refine bk_inl ?_
                refine q_pop rfl rfl ?_
                refine q_iload rfl rfl ?_
                refine v_if_le_f (t := 149) rfl (by decide) (by omega) ?_
                refine q_aload_n rfl rfl ?_
                refine q_aload_n rfl rfl ?_
                refine q_iload rfl rfl ?_
                refine v_cv rfl rfl rfl rfl (by decide) ⟨⟨rfl, rfl⟩, by decide, rfl⟩ (Nat.le_of_ble_eq_true rfl) (Nat.le_of_ble_eq_true rfl) (s_76 (a1 := v5) hI_150 (show 1 ≤ v5 ∧ v5 ≤ 16 from by omega) (fun c_153 y_156 hI_154 hF_155 hy_156 h_157 => ?_))
                refine bk_inl ?_
                refine v_cv rfl rfl rfl rfl (by decide) ⟨⟨rfl, rfl⟩, by decide, rfl⟩ (Nat.le_of_ble_eq_true rfl) (Nat.le_of_ble_eq_true rfl) (s_58 (a1 := y_156) hI_154 (by omega) (show 0 ≤ y_156 ∧ y_156 ≤ 5 from by omega) (fun c_158 y_161 hI_159 hF_160 hy_161 => ?_))
                refine bk_inl ?_
                refine q_pop rfl rfl ?_
                refine q_aload_n rfl rfl ?_
                refine v_cv rfl rfl rfl rfl (by decide) ⟨⟨rfl, rfl⟩, by decide, rfl⟩ (Nat.le_of_ble_eq_true rfl) (Nat.le_of_ble_eq_true rfl) (s_59 hI_159 (by omega) (fun c_162 hI_163 hF_164 => ?_))
                refine bk_inl ?_
                refine v_iinc (v := v8 + 1) rfl rfl (by decide) (by omega) ?_
                refine q_goto (t := 35) rfl (by decide) ?_
                refine Wp_ls [(0, .ref 9), (1, .ref 39), (2, vi a2), (3, vi a3), (4, vi a4), (5, vi v5), (6, vi v6), (7, vi v7), (8, vi (v8 + 1))] (lsub_cons rfl (lsub_cons rfl (lsub_cons rfl (lsub_cons rfl (lsub_cons rfl (lsub_cons rfl (lsub_cons rfl (lsub_cons rfl (lsub_cons rfl lsub_nil))))))))) ?_
                exact ih c_162 v5 v6 v7 (v8 + 1) hI_163 (fun a j hm => (hF_164 a j (by omega)).trans ((hF_160 a j (by omega)).trans ((hF_155 a j (by omega)).trans ((hF_151 a j (by omega)).trans ((hF_131 a j (by omega)).trans ((hF_126 a j (by omega)).trans ((hF_121 a j (by omega)).trans ((hF_91 a j (by omega)).trans ((hF_86 a j (by omega)).trans ((hF_81 a j (by omega)).trans (hF a j (by omega)))))))))))) ⟨by omega, by omega⟩ ⟨by omega, by omega⟩ ⟨by omega, by omega⟩ ⟨by omega, by omega⟩ (by omega)
set_option maxRecDepth 100000 in
set_option maxHeartbeats 4000000 in
theorem s_77 {sc : List Int32} {d P Q : Nat} {c : ME} {a2 : Int} {a3 : Int} {a4 : Int} {Z : AR → Prop} (hI : Iv 0 (-1) P Q c) (ha2 : (-2147483648) ≤ a2 ∧ a2 ≤ 2147483647) (ha3 : 0 ≤ a3 ∧ a3 ≤ 16) (ha4 : 1 ≤ a4 ∧ a4 ≤ 48) (K : ∀ (c2 : ME), Iv 0 (-1) P Q c2 → (∀ (a : Nat) (j : Int), ¬ ((a = 9 ∧ j = 0) ∨ a = 40 ∨ a = (P + 10) ∨ a = (P + 11)) → c2 a j = c a j) → Z (.inl (none), Wd P Q P P c2, 0, 0)) : Wp sc (d + 12) 77 0 [(0, .ref 9), (1, .ref 39), (2, vi a2), (3, vi a3), (4, vi a4)] [] (Wd P Q P P c) 0 0 Z := by
  have hP := iv_P hI
  have hQ := iv_Q hI
  refine q_aload_n rfl rfl ?_
  refine q_iload_n rfl rfl ?_
  refine v_pi (z := 0) rfl rfl rfl (by decide) rfl rfl rfl (by decide) ?_
  refine q_aload_n rfl rfl ?_
  refine v_gr (t := P) rfl rfl rfl (by decide) rfl ?_
  have h_165 := ir_p0_0 hI hP
  refine v_gi (z := 0) (v := c P 0) rfl rfl (ck_p0 hP) (by omega) rfl rfl (up_c (by omega)) ?_
  refine q_istore rfl (by decide) ?_
  refine q_aload_n rfl rfl ?_
  refine v_gr (t := P) rfl rfl rfl (by decide) rfl ?_
  have h_166 := ir_p0_1 hI hP
  refine v_gi (z := 1) (v := c P 1) rfl rfl (ck_p0 hP) (by omega) rfl rfl (up_c (by omega)) ?_
  refine q_istore rfl (by decide) ?_
  refine q_aload_n rfl rfl ?_
  refine v_gr (t := P) rfl rfl rfl (by decide) rfl ?_
  have h_167 := ir_p0_2 hI hP
  refine v_gi (z := 2) (v := c P 2) rfl rfl (ck_p0 hP) (by omega) rfl rfl (up_c (by omega)) ?_
  refine q_istore rfl (by decide) ?_
  refine q_iconst rfl ?_
  refine q_istore rfl (by decide) ?_
  have hI_168 := iw_9_0 (v := a2) hI ⟨by omega, by omega⟩
  refine Wp_ls [(0, .ref 9), (1, .ref 39), (2, vi a2), (3, vi a3), (4, vi a4), (5, vi (c P 0)), (6, vi (c P 1)), (7, vi (c P 2)), (8, vi 0)] (lsub_cons rfl (lsub_cons rfl (lsub_cons rfl (lsub_cons rfl (lsub_cons rfl (lsub_cons rfl (lsub_cons rfl (lsub_cons rfl (lsub_cons rfl lsub_nil))))))))) ?_
  exact (s_77_l (sc := sc) (d := d) hI ha2 ha3 ha4 K 100) (up c 9 0 a2) (c P 0) (c P 1) (c P 2) 0 hI_168 (fun a j hm => up_b (by omega)) ⟨by omega, by omega⟩ ⟨by omega, by omega⟩ ⟨by omega, by omega⟩ ⟨by decide, by decide⟩ (by omega)

set_option maxRecDepth 100000 in
set_option maxHeartbeats 4000000 in
theorem s_79 {sc : List Int32} {e : Int} {d u P Q : Nat} {c : ME} {a1 : Int} {a2 : Int} {a3 : Int} {a4 : Int} {a5 : Int} {Z : AR → Prop} (hI : Iv u e P Q c) (ha1 : (-2147483648) ≤ a1 ∧ a1 ≤ 2147483647) (ha2 : (-2147483648) ≤ a2 ∧ a2 ≤ 2147483647) (ha3 : (-2147483648) ≤ a3 ∧ a3 ≤ 2147483647) (ha4 : (-2147483648) ≤ a4 ∧ a4 ≤ 2147483647) (ha5 : (-2147483648) ≤ a5 ∧ a5 ≤ 2147483647) (K : ∀ (c2 : ME) (y : Int), Iv u e P Q c2 → (∀ (a : Nat) (j : Int), ¬ ((a = 1 ∧ j = 3) ∨ a = 2) → c2 a j = c a j) → (-1) ≤ y ∧ y ≤ 600 → Z (.inl (some (vi y)), Wd P Q P P c2, 0, 0)) : Wp sc (d + 9) 79 0 [(0, .ref 0), (1, vi a1), (2, vi a2), (3, vi a3), (4, vi a4), (5, vi a5)] [] (Wd P Q P P c) 0 0 Z := by
  have hP := iv_P hI
  have hQ := iv_Q hI
  refine q_aload_n rfl rfl ?_
  refine v_gr (t := 1) rfl rfl rfl (by decide) rfl ?_
  refine v_bip rfl (by decide) ?_
  have h_1 := ir_1_3 hI
  refine v_cv rfl rfl rfl rfl (by decide) ⟨⟨rfl, rfl⟩, by decide, rfl⟩ (Nat.le_of_ble_eq_true rfl) (Nat.le_of_ble_eq_true rfl) (s_72 (a1 := 20) hI (show 0 ≤ 20 ∧ 20 ≤ 20 from by omega) (fun y_2 hy_2 h_3 => ?_))
  refine bk_inl ?_
  by_cases h_4 : y_2 ≠ 0
  · refine v_if_ne_t (t := 14) rfl (by decide) (by omega) ?_
    refine q_aload_n rfl rfl ?_
    refine v_gr (t := 1) rfl rfl rfl (by decide) rfl ?_
    refine q_iload_n rfl rfl ?_
    refine v_cv rfl rfl rfl rfl (by decide) ⟨⟨rfl, rfl⟩, by decide, rfl⟩ (Nat.le_of_ble_eq_true rfl) (Nat.le_of_ble_eq_true rfl) (s_73 (a1 := a1) hI (show (-2147483648) ≤ a1 ∧ a1 ≤ 2147483647 from by omega) (fun c_5 hI_6 hF_7 => ?_))
    refine bk_inl ?_
    refine q_aload_n rfl rfl ?_
    refine v_gr (t := 1) rfl rfl rfl (by decide) rfl ?_
    refine q_iload_n rfl rfl ?_
    refine v_cv rfl rfl rfl rfl (by decide) ⟨⟨rfl, rfl⟩, by decide, rfl⟩ (Nat.le_of_ble_eq_true rfl) (Nat.le_of_ble_eq_true rfl) (s_73 (a1 := a2) hI_6 (show (-2147483648) ≤ a2 ∧ a2 ≤ 2147483647 from by omega) (fun c_8 hI_9 hF_10 => ?_))
    refine bk_inl ?_
    refine q_aload_n rfl rfl ?_
    refine v_gr (t := 1) rfl rfl rfl (by decide) rfl ?_
    refine q_iload_n rfl rfl ?_
    refine v_cv rfl rfl rfl rfl (by decide) ⟨⟨rfl, rfl⟩, by decide, rfl⟩ (Nat.le_of_ble_eq_true rfl) (Nat.le_of_ble_eq_true rfl) (s_73 (a1 := a3) hI_9 (show (-2147483648) ≤ a3 ∧ a3 ≤ 2147483647 from by omega) (fun c_11 hI_12 hF_13 => ?_))
    refine bk_inl ?_
    refine q_aload_n rfl rfl ?_
    refine v_gr (t := 1) rfl rfl rfl (by decide) rfl ?_
    refine q_iload rfl rfl ?_
    refine v_cv rfl rfl rfl rfl (by decide) ⟨⟨rfl, rfl⟩, by decide, rfl⟩ (Nat.le_of_ble_eq_true rfl) (Nat.le_of_ble_eq_true rfl) (s_73 (a1 := a4) hI_12 (show (-2147483648) ≤ a4 ∧ a4 ≤ 2147483647 from by omega) (fun c_14 hI_15 hF_16 => ?_))
    refine bk_inl ?_
    refine q_aload_n rfl rfl ?_
    refine v_gr (t := 1) rfl rfl rfl (by decide) rfl ?_
    refine q_iload rfl rfl ?_
    refine v_cv rfl rfl rfl rfl (by decide) ⟨⟨rfl, rfl⟩, by decide, rfl⟩ (Nat.le_of_ble_eq_true rfl) (Nat.le_of_ble_eq_true rfl) (s_73 (a1 := a5) hI_15 (show (-2147483648) ≤ a5 ∧ a5 ≤ 2147483647 from by omega) (fun c_17 hI_18 hF_19 => ?_))
    refine bk_inl ?_
    refine q_aload_n rfl rfl ?_
    refine v_gr (t := 1) rfl rfl rfl (by decide) rfl ?_
    have h_20 := ir_1_3 hI_18
    refine v_gi (z := 3) (v := c_17 1 3) rfl rfl rfl (by decide) rfl rfl rfl ?_
    refine q_iret rfl rfl ?_
    exact K c_17 (c_17 1 3) hI_18 (fun a j hm => (hF_19 a j (by omega)).trans ((hF_16 a j (by omega)).trans ((hF_13 a j (by omega)).trans ((hF_10 a j (by omega)).trans (hF_7 a j (by omega)))))) ⟨by omega, by omega⟩
  · refine v_if_ne_f (t := 14) rfl (by decide) (by omega) ?_
    refine q_iconst rfl ?_
    refine q_iret rfl rfl ?_
    exact K c (-1) hI (fun a j hm => rfl) ⟨by decide, by decide⟩

set_option maxRecDepth 100000 in
set_option maxHeartbeats 4000000 in
theorem s_84t {sc : List Int32} {d P Q : Nat} {c : ME} {Z : AR → Prop} (hI : Iv 0 (-1) P Q c)  (K : ∀ (c2 : ME) (y : Int), Iv 0 (-1) P Q c2 → (∀ (a : Nat) (j : Int), ¬ (a = 38 ∨ a = 40 ∨ (a = 3 ∧ j = 3) ∨ (a = 3 ∧ j = 4) ∨ (a = 0 ∧ j = 11)) → c2 a j = c a j) → (-2147483648) ≤ y ∧ y ≤ 2147483647 → Z (.inl (some (vi y)), Wd P Q P P c2, 0, 0)) : Wp sc (d + 13) 84 47 [(0, .ref 0)] [] (Wd P Q Q Q c) 0 0 Z := by
  have hP := iv_P hI
  have hQ := iv_Q hI
  refine q_aload_n rfl rfl ?_
  refine v_gr (t := 37) rfl rfl rfl (by decide) rfl ?_
  refine q_aload_n rfl rfl ?_
  refine v_gr (t := P) rfl rfl rfl (by decide) rfl ?_
  refine v_cv rfl rfl rfl rfl (by decide) ⟨⟨rfl, rfl⟩, by decide, rfl⟩ (Nat.le_of_ble_eq_true rfl) (Nat.le_of_ble_eq_true rfl) (s_65a hI (fun c_1 hI_2 hF_3 => ?_))
  refine bk_inl ?_
  refine q_aload_n rfl rfl ?_
  refine v_gr (t := 39) rfl rfl rfl (by decide) rfl ?_
  refine q_aload_n rfl rfl ?_
  refine v_gr (t := P) rfl rfl rfl (by decide) rfl ?_
  refine v_cv rfl rfl rfl rfl (by decide) ⟨⟨rfl, rfl⟩, by decide, rfl⟩ (Nat.le_of_ble_eq_true rfl) (Nat.le_of_ble_eq_true rfl) (s_65b hI_2 (fun c_4 hI_5 hF_6 => ?_))
  refine bk_inl ?_
  refine q_aload_n rfl rfl ?_
  refine v_gr (t := 3) rfl rfl rfl (by decide) rfl ?_
  refine v_cv rfl rfl rfl rfl (by decide) ⟨⟨rfl, rfl⟩, by decide, rfl⟩ (Nat.le_of_ble_eq_true rfl) (Nat.le_of_ble_eq_true rfl) (s_22 hI_5 (fun c_7 hI_8 hF_9 => ?_))
  refine bk_inl ?_
  refine q_aload_n rfl rfl ?_
  refine q_iconst rfl ?_
  refine v_pi (z := 11) rfl rfl rfl (by decide) rfl rfl rfl (by decide) ?_
  refine q_aload_n rfl rfl ?_
  refine q_aload_n rfl rfl ?_
  refine v_gr (t := P) rfl rfl rfl (by decide) rfl ?_
  have h_10 := ir_p0_0 hI hP
  have kn_11 : Hid (c_1 P 0 = c P 0) := hF_3 P 0 (by omega)
  have kn_12 : Hid (c_4 P 0 = c P 0) := (hF_6 P 0 (by omega)).trans (hid kn_11)
  have kn_13 : Hid (c_7 P 0 = c P 0) := (hF_9 P 0 (by omega)).trans (hid kn_12)
  refine v_gi (z := 0) (v := c P 0) rfl rfl (ck_p0 hP) (by omega) rfl rfl ((up_c (by omega)).trans (hid kn_13)) ?_
  refine v_cv rfl rfl rfl rfl (by decide) ⟨⟨rfl, rfl⟩, by decide, rfl⟩ (Nat.le_of_ble_eq_true rfl) (Nat.le_of_ble_eq_true rfl) ?_
  refine q_aload_n rfl rfl ?_
  refine v_gr (t := 1) rfl rfl rfl (by decide) rfl ?_
  refine v_cv rfl rfl rfl rfl (by decide) ⟨⟨rfl, rfl⟩, by decide, rfl⟩ (Nat.le_of_ble_eq_true rfl) (Nat.le_of_ble_eq_true rfl) ?_
  refine q_aload_n rfl rfl ?_
  have h_14 := ir_1_4 hI
  have kn_15 : Hid (c_1 1 4 = c 1 4) := hF_3 1 4 (by omega)
  have kn_16 : Hid (c_4 1 4 = c 1 4) := (hF_6 1 4 (by omega)).trans (hid kn_15)
  have kn_17 : Hid (c_7 1 4 = c 1 4) := (hF_9 1 4 (by omega)).trans (hid kn_16)
  refine v_gi (z := 4) (v := c 1 4) rfl rfl rfl (by decide) rfl rfl ((up_c (by decide)).trans (hid kn_17)) ?_
  by_cases h_18 : c 1 4 ≠ 0
  · refine v_if_ne_t (t := 11) rfl (by decide) (by omega) ?_
    refine q_iconst rfl ?_
    refine v_zret rfl rfl (by omega) ?_
    refine bk_inl ?_
    refine v_if_eq_t (t := 14) rfl (by decide) (by decide) ?_
    refine q_aload_n rfl rfl ?_
    refine v_gr (t := 1) rfl rfl rfl (by decide) rfl ?_
    refine v_gi (z := 4) (v := c 1 4) rfl rfl rfl (by decide) rfl rfl ((up_c (by decide)).trans (hid kn_17)) ?_
    refine v_bip rfl (by decide) ?_
    refine v_isub (v := c 1 4 - 10) rfl (by omega) ?_
    refine q_iret rfl rfl ?_
    refine bk_inl ?_
    refine q_iret rfl rfl ?_
    have hI_19 := iw_0_11 (v := 0) hI_8 ⟨by decide, by decide⟩
    exact K (up c_7 0 11 0) (c 1 4 - 10) hI_19 (fun a j hm => (up_b (by omega)).trans ((hF_9 a j (by omega)).trans ((hF_6 a j (by omega)).trans (hF_3 a j (by omega))))) ⟨by omega, by omega⟩
  · refine v_if_ne_f (t := 11) rfl (by decide) (by omega) ?_
    refine q_iconst rfl ?_
    refine q_goto (t := 12) rfl (by decide) ?_
    refine v_zret rfl rfl (by omega) ?_
    refine bk_inl ?_
    refine v_if_eq_f (t := 14) rfl (by decide) (by decide) ?_
    refine q_iload_n rfl rfl ?_
    refine q_goto (t := 24) rfl (by decide) ?_
    refine q_iret rfl rfl ?_
    refine bk_inl ?_
    refine q_iret rfl rfl ?_
    have hI_20 := iw_0_11 (v := 0) hI_8 ⟨by decide, by decide⟩
    exact K (up c_7 0 11 0) (c P 0) hI_20 (fun a j hm => (up_b (by omega)).trans ((hF_9 a j (by omega)).trans ((hF_6 a j (by omega)).trans (hF_3 a j (by omega))))) ⟨by omega, by omega⟩
set_option maxRecDepth 100000 in
set_option maxHeartbeats 4000000 in
theorem s_84 {sc : List Int32} {d P Q : Nat} {c : ME} {a1 : Int} {Z : AR → Prop} (hI : Iv 0 (-1) P Q c) (ha1 : (-2147483648) ≤ a1 ∧ a1 ≤ 2147483647) (T101 : ∀ c2 : ME, Iv 0 (-1) P Q c2 → (∀ (a : Nat) (j : Int), ¬ ((a = 1 ∧ j = 1) ∨ (a = 1 ∧ j = 2) ∨ (a = 1 ∧ j = 3) ∨ (a = 1 ∧ j = 4) ∨ (a = 1 ∧ j = 5) ∨ (a = 0 ∧ j = 13) ∨ a = 38 ∨ a = 40 ∨ (a = 3 ∧ j = 3) ∨ (a = 3 ∧ j = 4) ∨ (a = 0 ∧ j = 11) ∨ (13 ≤ a ∧ a ≤ 36)) → c2 a j = c a j) → ((c2 1 3 = c 1 3)) → ((a1 < 0) ∨ (a1 > c 1 3) ∨ (a1 > 600)) → Z (.inr 101, Wd P Q P P c2, 1, 6)) (K : ∀ (P2 Q2 : Nat) (c2 : ME) (y : Int), Iv 0 (-1) P2 Q2 c2 → (∀ (a : Nat) (j : Int), ¬ ((a = 1 ∧ j = 1) ∨ (a = 1 ∧ j = 2) ∨ (a = 1 ∧ j = 3) ∨ (a = 1 ∧ j = 4) ∨ (a = 1 ∧ j = 5) ∨ (a = 0 ∧ j = 13) ∨ a = 38 ∨ a = 40 ∨ (a = 3 ∧ j = 3) ∨ (a = 3 ∧ j = 4) ∨ (a = 0 ∧ j = 11) ∨ (13 ≤ a ∧ a ≤ 36)) → c2 a j = c a j) → ((-2147483648) ≤ y ∧ y ≤ 2147483647) → (c2 1 3 = 0 ∧ a1 ≥ 0 ∧ a1 ≤ c 1 3 ∧ a1 ≤ 600) → Z (.inl (some (vi y)), Wd P2 Q2 P2 P2 c2, 0, 0)) : Wp sc (d + 13) 84 0 [(0, .ref 0), (1, vi a1)] [] (Wd P Q P P c) 0 0 Z := by
  have hP := iv_P hI
  have hQ := iv_Q hI
  refine q_aload_n rfl rfl ?_
  refine q_iload_n rfl rfl ?_
  refine v_sip rfl (by decide) ?_
  refine v_cv rfl rfl rfl rfl (by decide) ⟨⟨rfl, rfl⟩, by decide, rfl⟩ (Nat.le_of_ble_eq_true rfl) (Nat.le_of_ble_eq_true rfl) ?_
  refine q_aload_n rfl rfl ?_
  refine q_iload_n rfl rfl ?_
  refine q_iconst rfl ?_
  refine q_iload_n rfl rfl ?_
  refine q_aload_n rfl rfl ?_
  refine v_gr (t := 1) rfl rfl rfl (by decide) rfl ?_
  have h_1 := ir_1_3 hI
  refine v_gi (z := 3) (v := c 1 3) rfl rfl rfl (by decide) rfl rfl rfl ?_
  refine v_min_g rfl rfl (by omega) (Nat.le_of_ble_eq_true rfl) (by omega) ?_
  refine q_call rfl rfl rfl rfl ?_
  refine q_iload_n rfl rfl ?_
  refine q_iload_n rfl rfl ?_
  by_cases h_2 : a1 < 0
  · refine v_ic_lt_t (t := 14) rfl (by decide) (by omega) ?_
    refine q_iconst rfl ?_
    refine v_zret rfl rfl (by omega) ?_
    refine bk_inl ?_
    refine v_cv rfl rfl rfl rfl (by decide) ⟨⟨rfl, rfl⟩, by decide, rfl⟩ (Nat.le_of_ble_eq_true rfl) (Nat.le_of_ble_eq_true rfl) ?_
    refine q_iload_n rfl rfl ?_
    refine v_if_ne_f (t := 25) rfl (by decide) (by decide) ?_
    refine q_aload_n rfl rfl ?_
    refine q_dup rfl rfl ?_
    have h_3 := ir_0_13 hI
    refine v_gi (z := 13) (v := c 0 13) rfl rfl rfl (by decide) rfl rfl rfl ?_
    refine q_iconst rfl ?_
    refine v_iadd (v := c 0 13 + 1) rfl (by omega) ?_
    refine v_nrm (fun y_4 hy_4 => ?_)
    refine v_pi (z := 13) rfl rfl rfl (by decide) rfl rfl rfl (by decide) ?_
    refine v_new rfl rfl (by decide) (by omega) (Nat.le_of_ble_eq_true rfl) (by decide) rfl ?_
    refine bk_out rfl rfl ?_
    refine bk_out rfl rfl ?_
    have hI_5 := iw_0_13 (v := y_4) hI ⟨by omega, by omega⟩
    have h_6 : (up c 0 13 y_4) 1 3 = c 1 3 := (up_c (by decide))
    exact T101 _ hI_5 (fun a j hm => up_b (by omega)) (by omega) (by omega)
  · refine v_ic_lt_f (t := 14) rfl (by decide) (by omega) ?_
    refine q_iload_n rfl rfl ?_
    refine q_iload_n rfl rfl ?_
    by_cases h_7 : a1 > c 1 3
    · refine v_ic_gt_t (t := 14) rfl (by decide) (by omega) ?_
      refine q_iconst rfl ?_
      refine v_zret rfl rfl (by omega) ?_
      refine bk_inl ?_
      refine v_cv rfl rfl rfl rfl (by decide) ⟨⟨rfl, rfl⟩, by decide, rfl⟩ (Nat.le_of_ble_eq_true rfl) (Nat.le_of_ble_eq_true rfl) ?_
      refine q_iload_n rfl rfl ?_
      refine v_if_ne_f (t := 25) rfl (by decide) (by decide) ?_
      refine q_aload_n rfl rfl ?_
      refine q_dup rfl rfl ?_
      have h_8 := ir_0_13 hI
      refine v_gi (z := 13) (v := c 0 13) rfl rfl rfl (by decide) rfl rfl rfl ?_
      refine q_iconst rfl ?_
      refine v_iadd (v := c 0 13 + 1) rfl (by omega) ?_
      refine v_nrm (fun y_9 hy_9 => ?_)
      refine v_pi (z := 13) rfl rfl rfl (by decide) rfl rfl rfl (by decide) ?_
      refine v_new rfl rfl (by decide) (by omega) (Nat.le_of_ble_eq_true rfl) (by decide) rfl ?_
      refine bk_out rfl rfl ?_
      refine bk_out rfl rfl ?_
      have hI_10 := iw_0_13 (v := y_9) hI ⟨by omega, by omega⟩
      have h_11 : (up c 0 13 y_9) 1 3 = c 1 3 := (up_c (by decide))
      exact T101 _ hI_10 (fun a j hm => up_b (by omega)) (by omega) (by omega)
    · refine v_ic_gt_f (t := 14) rfl (by decide) (by omega) ?_
      refine q_iconst rfl ?_
      refine q_goto (t := 15) rfl (by decide) ?_
      refine v_zret rfl rfl (by omega) ?_
      refine bk_inl ?_
      refine v_cv rfl rfl rfl rfl (by decide) ⟨⟨rfl, rfl⟩, by decide, rfl⟩ (Nat.le_of_ble_eq_true rfl) (Nat.le_of_ble_eq_true rfl) ?_
      refine q_iload_n rfl rfl ?_
      refine v_if_ne_t (t := 25) rfl (by decide) (by decide) ?_
      refine q_vret rfl rfl ?_
      refine bk_inl ?_
      refine q_aload_n rfl rfl ?_
      refine v_gr (t := 1) rfl rfl rfl (by decide) rfl ?_
      refine q_iload_n rfl rfl ?_
      refine v_cv rfl rfl rfl rfl (by decide) ⟨⟨rfl, rfl⟩, by decide, rfl⟩ (Nat.le_of_ble_eq_true rfl) (Nat.le_of_ble_eq_true rfl) (s_74 (a1 := a1) hI (show 0 ≤ a1 ∧ a1 ≤ 600 from by omega) (fun c_12 hI_13 hF_14 h_15 => ?_))
      refine bk_inl ?_
      have h_16 := ir_1_3 hI_13
      refine q_vret rfl rfl ?_
      refine bk_inl ?_
      refine q_aload_n rfl rfl ?_
      refine v_gr (t := Q) rfl rfl rfl (by decide) rfl ?_
      refine q_aload_n rfl rfl ?_
      refine v_gr (t := 1) rfl rfl rfl (by decide) rfl ?_
      refine v_cv rfl rfl rfl (ck_p0 hQ) (by omega) ⟨⟨rfl, rfl⟩, by decide, rfl⟩ (Nat.le_of_ble_eq_true rfl) (Nat.le_of_ble_eq_true rfl) (s_34 hI_13 hQ (fun c_17 hI_18 hF_19 => ?_))
      refine bk_inl ?_
      refine q_aload_n rfl rfl ?_
      refine v_gr (t := 1) rfl rfl rfl (by decide) rfl ?_
      refine v_cv rfl rfl rfl rfl (by decide) ⟨⟨rfl, rfl⟩, by decide, rfl⟩ (Nat.le_of_ble_eq_true rfl) (Nat.le_of_ble_eq_true rfl) ?_
      refine q_aload_n rfl rfl ?_
      have h_20 := ir_1_4 hI_18
      refine v_gi (z := 4) (v := c_17 1 4) rfl rfl rfl (by decide) rfl rfl rfl ?_
      by_cases h_21 : c_17 1 4 ≠ 0
      · refine v_if_ne_t (t := 11) rfl (by decide) (by omega) ?_
        refine q_iconst rfl ?_
        refine v_zret rfl rfl (by omega) ?_
        refine bk_inl ?_
        refine v_if_eq_t (t := 81) rfl (by decide) (by decide) ?_
        refine q_aload_n rfl rfl ?_
        refine q_aload_n rfl rfl ?_
        refine v_gr (t := P) rfl rfl rfl (by decide) rfl ?_
        have h_22 := ir_p0_0 hI hP
        have kn_23 : Hid (c_12 P 0 = c P 0) := hF_14 P 0 (by omega)
        have kn_24 : Hid (c_17 P 0 = c P 0) := (hF_19 P 0 (by omega)).trans (hid kn_23)
        refine v_gi (z := 0) (v := c P 0) rfl rfl (ck_p0 hP) (by omega) rfl rfl (hid kn_24) ?_
        refine v_cv rfl rfl rfl rfl (by decide) ⟨⟨rfl, rfl⟩, by decide, rfl⟩ (Nat.le_of_ble_eq_true rfl) (Nat.le_of_ble_eq_true rfl) ?_
        refine q_aload_n rfl rfl ?_
        refine v_gr (t := 1) rfl rfl rfl (by decide) rfl ?_
        refine v_cv rfl rfl rfl rfl (by decide) ⟨⟨rfl, rfl⟩, by decide, rfl⟩ (Nat.le_of_ble_eq_true rfl) (Nat.le_of_ble_eq_true rfl) ?_
        refine q_aload_n rfl rfl ?_
        refine v_gi (z := 4) (v := c_17 1 4) rfl rfl rfl (by decide) rfl rfl rfl ?_
        refine v_if_ne_t (t := 11) rfl (by decide) (by omega) ?_
        refine q_iconst rfl ?_
        refine v_zret rfl rfl (by omega) ?_
        refine bk_inl ?_
        refine v_if_eq_t (t := 14) rfl (by decide) (by decide) ?_
        refine q_aload_n rfl rfl ?_
        refine v_gr (t := 1) rfl rfl rfl (by decide) rfl ?_
        refine v_gi (z := 4) (v := c_17 1 4) rfl rfl rfl (by decide) rfl rfl rfl ?_
        refine v_bip rfl (by decide) ?_
        refine v_isub (v := c_17 1 4 - 10) rfl (by omega) ?_
        refine q_iret rfl rfl ?_
        refine bk_inl ?_
        refine q_iret rfl rfl ?_
        have kn_25 : Hid (c_17 1 3 = c_12 1 3) := hF_19 1 3 (by omega)
        have h_26 : c_17 1 3 = c_12 1 3 := (hid kn_25)
        exact K P Q c_17 (c_17 1 4 - 10) hI_18 (fun a j hm => (hF_19 a j (by omega)).trans (hF_14 a j (by omega))) ⟨by omega, by omega⟩ (by omega)
      · refine v_if_ne_f (t := 11) rfl (by decide) (by omega) ?_
        refine q_iconst rfl ?_
        refine q_goto (t := 12) rfl (by decide) ?_
        refine v_zret rfl rfl (by omega) ?_
        refine bk_inl ?_
        refine v_if_eq_f (t := 81) rfl (by decide) (by decide) ?_
        refine q_aload_n rfl rfl ?_
        refine v_gr (t := P) rfl rfl rfl (by decide) rfl ?_
        refine q_astore_n rfl (by decide) ?_
        refine q_aload_n rfl rfl ?_
        refine q_aload_n rfl rfl ?_
        refine v_gr (t := Q) rfl rfl rfl (by decide) rfl ?_
        refine v_pr (P' := Q) (Q' := Q) (N' := P) (T' := P) rfl rfl rfl rfl (by decide) (by decide) (fun c => rfl) rfl (by decide) (fun b hb => ck_x0 hb) ?_
        refine q_aload_n rfl rfl ?_
        refine q_aload_n rfl rfl ?_
        refine v_pr (P' := Q) (Q' := P) (N' := P) (T' := P) rfl rfl rfl rfl (by decide) (by decide) (fun c => rfl) rfl (by decide) (fun b hb => ck_x0 hb) ?_
        have kn_27 : Hid (c_17 1 3 = c_12 1 3) := hF_19 1 3 (by omega)
        have hz9 : c_17 1 3 = 0 := ((hid kn_27)).trans (by omega)
        refine Wp_ls [(0, .ref 0)] (lsub_cons rfl lsub_nil) ?_
        exact s_84t (P := Q) (Q := P) (iv_swap hI_18) (fun c9 y9 hI9 hF9 hy9 => K Q P c9 y9 hI9 (fun a j hm => (hF9 a j (by omega)).trans ((hF_19 a j (by omega)).trans (hF_14 a j (by omega)))) hy9 ⟨(hF9 1 3 (by omega)).trans hz9, by omega, by omega, by omega⟩)

set_option maxRecDepth 100000 in
set_option maxHeartbeats 4000000 in
theorem s_85 {sc : List Int32} {e : Int} {d u P Q : Nat} {c : ME} {a1 : Int} {Z : AR → Prop} (hI : Iv u e P Q c) (ha1 : (-2147483648) ≤ a1 ∧ a1 ≤ 2147483647) (T101 : ∀ c2 : ME, Iv u e P Q c2 → (∀ (a : Nat) (j : Int), ¬ ((a = 1 ∧ j = 1) ∨ (a = 1 ∧ j = 2) ∨ (a = 1 ∧ j = 3) ∨ (a = 1 ∧ j = 4) ∨ (a = 1 ∧ j = 5) ∨ (a = 0 ∧ j = 13) ∨ (a = (P + 7) ∧ j = 5) ∨ a = (P + 9) ∨ (a = (P + 7) ∧ j = 4) ∨ a = (P + 8)) → c2 a j = c a j) → ((c2 1 3 = c 1 3)) → ((a1 < 0) ∨ (a1 > c 1 3) ∨ (a1 > 150)) → Z (.inr 101, Wd P Q P P c2, 1, 6)) (K : ∀ (c2 : ME) (y : Int), Iv u e P Q c2 → (∀ (a : Nat) (j : Int), ¬ ((a = 1 ∧ j = 1) ∨ (a = 1 ∧ j = 2) ∨ (a = 1 ∧ j = 3) ∨ (a = 1 ∧ j = 4) ∨ (a = 1 ∧ j = 5) ∨ (a = 0 ∧ j = 13) ∨ (a = (P + 7) ∧ j = 5) ∨ a = (P + 9) ∨ (a = (P + 7) ∧ j = 4) ∨ a = (P + 8)) → c2 a j = c a j) → (-2147483648) ≤ y ∧ y ≤ 2147483647 → ((c2 1 3 = 0 ∧ a1 ≥ 0 ∧ a1 ≤ c 1 3 ∧ a1 ≤ 150)) → Z (.inl (some (vi y)), Wd P Q P P c2, 0, 0)) : Wp sc (d + 34) 85 0 [(0, .ref 0), (1, vi a1)] [] (Wd P Q P P c) 0 0 Z := by
  have hP := iv_P hI
  have hQ := iv_Q hI
  refine q_aload_n rfl rfl ?_
  refine q_iload_n rfl rfl ?_
  refine v_sip rfl (by decide) ?_
  refine v_cv rfl rfl rfl rfl (by decide) ⟨⟨rfl, rfl⟩, by decide, rfl⟩ (Nat.le_of_ble_eq_true rfl) (Nat.le_of_ble_eq_true rfl) ?_
  refine q_aload_n rfl rfl ?_
  refine q_iload_n rfl rfl ?_
  refine q_iconst rfl ?_
  refine q_iload_n rfl rfl ?_
  refine q_aload_n rfl rfl ?_
  refine v_gr (t := 1) rfl rfl rfl (by decide) rfl ?_
  have h_1 := ir_1_3 hI
  refine v_gi (z := 3) (v := c 1 3) rfl rfl rfl (by decide) rfl rfl rfl ?_
  refine v_minx rfl rfl (by omega) (Nat.le_of_ble_eq_true rfl) ⟨by omega, by omega, by omega, by omega⟩ (fun y_2 hy_2 => ?_)
  refine q_call rfl rfl rfl rfl ?_
  refine q_iload_n rfl rfl ?_
  refine q_iload_n rfl rfl ?_
  by_cases h_3 : a1 < 0
  · refine v_ic_lt_t (t := 14) rfl (by decide) (by omega) ?_
    refine q_iconst rfl ?_
    refine v_zret rfl rfl (by omega) ?_
    refine bk_inl ?_
    refine v_cv rfl rfl rfl rfl (by decide) ⟨⟨rfl, rfl⟩, by decide, rfl⟩ (Nat.le_of_ble_eq_true rfl) (Nat.le_of_ble_eq_true rfl) ?_
    refine q_iload_n rfl rfl ?_
    refine v_if_ne_f (t := 25) rfl (by decide) (by decide) ?_
    refine q_aload_n rfl rfl ?_
    refine q_dup rfl rfl ?_
    have h_4 := ir_0_13 hI
    refine v_gi (z := 13) (v := c 0 13) rfl rfl rfl (by decide) rfl rfl rfl ?_
    refine q_iconst rfl ?_
    refine v_iadd (v := c 0 13 + 1) rfl (by omega) ?_
    refine v_nrm (fun y_5 hy_5 => ?_)
    refine v_pi (z := 13) rfl rfl rfl (by decide) rfl rfl rfl (by decide) ?_
    refine v_new rfl rfl (by decide) (by omega) (Nat.le_of_ble_eq_true rfl) (by decide) rfl ?_
    refine bk_out rfl rfl ?_
    refine bk_out rfl rfl ?_
    have hI_6 := iw_0_13 (v := y_5) hI ⟨by omega, by omega⟩
    have h_7 : (up c 0 13 y_5) 1 3 = c 1 3 := (up_c (by decide))
    exact T101 _ hI_6 (fun a j hm => up_b (by omega)) (by omega) (by omega)
  · refine v_ic_lt_f (t := 14) rfl (by decide) (by omega) ?_
    refine q_iload_n rfl rfl ?_
    refine q_iload_n rfl rfl ?_
    by_cases h_8 : a1 > y_2
    · refine v_ic_gt_t (t := 14) rfl (by decide) (by omega) ?_
      refine q_iconst rfl ?_
      refine v_zret rfl rfl (by omega) ?_
      refine bk_inl ?_
      refine v_cv rfl rfl rfl rfl (by decide) ⟨⟨rfl, rfl⟩, by decide, rfl⟩ (Nat.le_of_ble_eq_true rfl) (Nat.le_of_ble_eq_true rfl) ?_
      refine q_iload_n rfl rfl ?_
      refine v_if_ne_f (t := 25) rfl (by decide) (by decide) ?_
      refine q_aload_n rfl rfl ?_
      refine q_dup rfl rfl ?_
      have h_9 := ir_0_13 hI
      refine v_gi (z := 13) (v := c 0 13) rfl rfl rfl (by decide) rfl rfl rfl ?_
      refine q_iconst rfl ?_
      refine v_iadd (v := c 0 13 + 1) rfl (by omega) ?_
      refine v_nrm (fun y_10 hy_10 => ?_)
      refine v_pi (z := 13) rfl rfl rfl (by decide) rfl rfl rfl (by decide) ?_
      refine v_new rfl rfl (by decide) (by omega) (Nat.le_of_ble_eq_true rfl) (by decide) rfl ?_
      refine bk_out rfl rfl ?_
      refine bk_out rfl rfl ?_
      have hI_11 := iw_0_13 (v := y_10) hI ⟨by omega, by omega⟩
      have h_12 : (up c 0 13 y_10) 1 3 = c 1 3 := (up_c (by decide))
      exact T101 _ hI_11 (fun a j hm => up_b (by omega)) (by omega) (by omega)
    · refine v_ic_gt_f (t := 14) rfl (by decide) (by omega) ?_
      refine q_iconst rfl ?_
      refine q_goto (t := 15) rfl (by decide) ?_
      refine v_zret rfl rfl (by omega) ?_
      refine bk_inl ?_
      refine v_cv rfl rfl rfl rfl (by decide) ⟨⟨rfl, rfl⟩, by decide, rfl⟩ (Nat.le_of_ble_eq_true rfl) (Nat.le_of_ble_eq_true rfl) ?_
      refine q_iload_n rfl rfl ?_
      refine v_if_ne_t (t := 25) rfl (by decide) (by decide) ?_
      refine q_vret rfl rfl ?_
      refine bk_inl ?_
      refine q_aload_n rfl rfl ?_
      refine v_gr (t := 1) rfl rfl rfl (by decide) rfl ?_
      refine q_iload_n rfl rfl ?_
      refine v_cv rfl rfl rfl rfl (by decide) ⟨⟨rfl, rfl⟩, by decide, rfl⟩ (Nat.le_of_ble_eq_true rfl) (Nat.le_of_ble_eq_true rfl) (s_74 (a1 := a1) hI (show 0 ≤ a1 ∧ a1 ≤ 600 from by omega) (fun c_13 hI_14 hF_15 h_16 => ?_))
      refine bk_inl ?_
      have h_17 := ir_1_3 hI_14
      refine q_vret rfl rfl ?_
      refine bk_inl ?_
      refine q_aload_n rfl rfl ?_
      refine v_gr (t := P) rfl rfl rfl (by decide) rfl ?_
      refine v_gr (t := (P + 7)) rfl rfl (ck_p0 hP) (by omega) rfl ?_
      refine q_aload_n rfl rfl ?_
      refine v_gr (t := 1) rfl rfl rfl (by decide) rfl ?_
      refine v_cv rfl rfl rfl (ck_p7 hP) (by omega) ⟨⟨rfl, rfl⟩, by decide, rfl⟩ (Nat.le_of_ble_eq_true rfl) (Nat.le_of_ble_eq_true rfl) (s_17 hI_14 hP (fun c_18 hI_19 hF_20 => ?_))
      refine bk_inl ?_
      refine q_aload_n rfl rfl ?_
      refine q_iconst rfl ?_
      refine v_cv rfl rfl rfl rfl (by decide) ⟨⟨rfl, rfl⟩, by decide, rfl⟩ (Nat.le_of_ble_eq_true rfl) (Nat.le_of_ble_eq_true rfl) ?_
      refine q_aload_n rfl rfl ?_
      refine v_gr (t := 1) rfl rfl rfl (by decide) rfl ?_
      refine v_cv rfl rfl rfl rfl (by decide) ⟨⟨rfl, rfl⟩, by decide, rfl⟩ (Nat.le_of_ble_eq_true rfl) (Nat.le_of_ble_eq_true rfl) ?_
      refine q_aload_n rfl rfl ?_
      have h_21 := ir_1_4 hI_19
      refine v_gi (z := 4) (v := c_18 1 4) rfl rfl rfl (by decide) rfl rfl rfl ?_
      by_cases h_22 : c_18 1 4 ≠ 0
      · refine v_if_ne_t (t := 11) rfl (by decide) (by omega) ?_
        refine q_iconst rfl ?_
        refine v_zret rfl rfl (by omega) ?_
        refine bk_inl ?_
        refine v_if_eq_t (t := 14) rfl (by decide) (by decide) ?_
        refine q_aload_n rfl rfl ?_
        refine v_gr (t := 1) rfl rfl rfl (by decide) rfl ?_
        refine v_gi (z := 4) (v := c_18 1 4) rfl rfl rfl (by decide) rfl rfl rfl ?_
        refine v_bip rfl (by decide) ?_
        refine v_isub (v := c_18 1 4 - 10) rfl (by omega) ?_
        refine q_iret rfl rfl ?_
        refine bk_inl ?_
        refine q_iret rfl rfl ?_
        have kn_23 : Hid (c_18 1 3 = c_13 1 3) := hF_20 1 3 (by omega)
        have h_24 : c_18 1 3 = c_13 1 3 := (hid kn_23)
        exact K c_18 (c_18 1 4 - 10) hI_19 (fun a j hm => (hF_20 a j (by omega)).trans (hF_15 a j (by omega))) ⟨by omega, by omega⟩ (by omega)
      · refine v_if_ne_f (t := 11) rfl (by decide) (by omega) ?_
        refine q_iconst rfl ?_
        refine q_goto (t := 12) rfl (by decide) ?_
        refine v_zret rfl rfl (by omega) ?_
        refine bk_inl ?_
        refine v_if_eq_f (t := 14) rfl (by decide) (by decide) ?_
        refine q_iload_n rfl rfl ?_
        refine q_goto (t := 24) rfl (by decide) ?_
        refine q_iret rfl rfl ?_
        refine bk_inl ?_
        refine q_iret rfl rfl ?_
        have kn_25 : Hid (c_18 1 3 = c_13 1 3) := hF_20 1 3 (by omega)
        have h_26 : c_18 1 3 = c_13 1 3 := (hid kn_25)
        exact K c_18 1 hI_19 (fun a j hm => (hF_20 a j (by omega)).trans (hF_15 a j (by omega))) ⟨by decide, by decide⟩ (by omega)

