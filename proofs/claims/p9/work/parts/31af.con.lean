/-! ===== contracts 6 ===== -/
theorem q_db9ef1f4a {x0 x1 x2 x3 : Int} (f0 : 0 ≤ x0 ∧ x0 ≤ 9999) (f1 : 0 ≤ x1 ∧ x1 ≤ 9999) (f2 : 0 ≤ x2 ∧ x2 ≤ 9999) (f3 : 0 ≤ x3 ∧ x3 ≤ 9999) : x1 + x2 + x3 + x0 ≤ 2147483647 := by omega
theorem q_e98859194 {x0 x1 x2 x3 : Int} (f0 : ¬ (x0 + x1 + x2 + x3 ≤ 0)) : 0 ≤ x0 + x1 + x2 + x3 := by omega
theorem q_386a854c4 {x0 x1 x2 x3 : Int} (f0 : 0 ≤ x0 ∧ x0 ≤ 9999) (f1 : 0 ≤ x1 ∧ x1 ≤ 9999) (f2 : 0 ≤ x2 ∧ x2 ≤ 9999) (f3 : 0 ≤ x3 ∧ x3 ≤ 9999) : x1 + x2 + x3 + x0 ≤ 99999 := by omega
set_option maxRecDepth 100000 in
set_option maxHeartbeats 4000000 in
theorem s_55 {sc : List Int32} {d P Q sh s : Nat} {c : ME} {a1 : Int} {a2 : Int} {Z : AR → Prop} (hI : Iv 0 (-1) P Q c) (hs : (sh = 37 ∧ s = 38) ∨ (sh = 39 ∧ s = 40)) (ha1 : 0 ≤ a1 ∧ a1 ≤ 5) (ha2 : 0 ≤ a2 ∧ a2 ≤ 5) (K : ∀ (c2 : ME) (y : Int), Iv 0 (-1) P Q c2 → (∀ (a : Nat) (j : Int), ¬ (a = s) → c2 a j = c a j) → 0 ≤ y ∧ y ≤ 1 → Z (.inl (some (vi y)), Wd P Q P P c2, 0, 0)) : Wp sc (d + 10) 55 0 [(0, .ref sh), (1, vi a1), (2, vi a2)] [] (Wd P Q P P c) 0 0 Z := by
  have hP := iv_P hI
  have hQ := iv_Q hI
  refine q_aload_n rfl rfl (q_iload_n rfl rfl ?_)
  have h_1 := ir_s_g hI hs (j := 4 * a1) (by first | exact q_9f1d5ffdc ha1 | omega)
  have h_2 := ir_s_g hI hs (j := 4 * a1 + 1) (by first | exact q_0a2ee6f8f ha1 | omega)
  have h_3 := ir_s_g hI hs (j := 4 * a1 + 2) (by first | exact q_e07a293a2 ha1 | omega)
  have h_4 := ir_s_g hI hs (j := 4 * a1 + 3) (by first | exact q_d09cb0b73 ha1 | omega)
  refine v_cv rfl rfl rfl (ck_sh hs) (by omega) ⟨⟨rfl, rfl⟩, by decide, rfl⟩ (Nat.le_of_ble_eq_true rfl) (Nat.le_of_ble_eq_true rfl) (s_43 (v1 := c s (4 * a1)) (v2 := c s (4 * a1 + 1)) (v3 := c s (4 * a1 + 2)) (v4 := c s (4 * a1 + 3)) (r := c s (4 * a1 + 1) + c s (4 * a1 + 2) + c s (4 * a1 + 3) + c s (4 * a1)) (a1 := a1) hI hs (show 0 ≤ a1 ∧ a1 ≤ 5 from ha1) (rfl) (rfl) (rfl) (rfl) (by omega) (bk_inl (q_istore_n rfl (Nat.le_of_ble_eq_true rfl) (q_iload_n rfl rfl ?_))))
  by_cases h_5 : c s (4 * a1 + 1) + c s (4 * a1 + 2) + c s (4 * a1 + 3) + c s (4 * a1) ≤ 0
  · refine v_if_le_t (t := 24) rfl rfl ⟨by first | exact q_e052ef40e h_1 h_2 h_3 h_4 | omega, h_5, by decide⟩ (q_iconst rfl (v_zret rfl rfl (by decide) ?_))
    exact K c 0 hI (fun a j hm => rfl) ⟨by decide, by decide⟩
  · refine v_if_le_f (t := 24) rfl rfl ⟨by decide, (Int.not_le.mp h_5), by first | exact q_db9ef1f4a h_1 h_2 h_3 h_4 | omega⟩ (q_aload_n rfl rfl (q_iload_n rfl rfl (q_iload_n rfl rfl (q_iload_n rfl rfl (v_cv rfl rfl rfl (ck_sh hs) (by omega) ⟨⟨rfl, rfl⟩, by decide, rfl⟩ (Nat.le_of_ble_eq_true rfl) (Nat.le_of_ble_eq_true rfl) (s_54 (a1 := a1) (a2 := a2) (a3 := c s (4 * a1 + 1) + c s (4 * a1 + 2) + c s (4 * a1 + 3) + c s (4 * a1)) hI hs (show 0 ≤ a1 ∧ a1 ≤ 5 from ha1) (show 0 ≤ a2 ∧ a2 ≤ 5 from ha2) (show 0 ≤ c s (4 * a1 + 1) + c s (4 * a1 + 2) + c s (4 * a1 + 3) + c s (4 * a1) ∧ c s (4 * a1 + 1) + c s (4 * a1 + 2) + c s (4 * a1 + 3) + c s (4 * a1) ≤ 99999 from ⟨by first | exact q_e98859194 h_5 | omega, by first | exact q_386a854c4 h_1 h_2 h_3 h_4 | omega⟩) (fun c_6 y_9 hI_7 hF_8 hy_9 => (bk_inl ?_))))))))
    by_cases h_10 : y_9 = 0
    · refine v_if_eq_t (t := 24) rfl rfl h_10 (q_iconst rfl (v_zret rfl rfl (by decide) ?_))
      exact K c_6 0 hI_7 (fun a j hm => hF_8 a j (fun h => hm h)) ⟨by decide, by decide⟩
    · refine v_if_eq_f (t := 24) rfl rfl ⟨h_10, ⟨(Int.le_trans (by decide) hy_9.1), (Int.le_trans hy_9.2 (by decide))⟩, by decide, by decide⟩ (q_iconst rfl (q_goto (t := 25) rfl rfl (v_zret rfl rfl (by decide) ?_)))
      exact K c_6 1 hI_7 (fun a j hm => hF_8 a j (fun h => hm h)) ⟨by decide, by decide⟩

set_option maxRecDepth 100000 in
set_option maxHeartbeats 4000000 in
theorem s_56 {sc : List Int32} {e : Int} {d u P Q sh s : Nat} {c : ME} {a1 : Int} {Z : AR → Prop} (hI : Iv u e P Q c) (hs : (sh = 37 ∧ s = 38) ∨ (sh = 39 ∧ s = 40)) (ha1 : 0 ≤ a1 ∧ a1 ≤ 5) (K : ∀ (c2 : ME) (y : Int), Iv u e P Q c2 → (∀ (a : Nat) (j : Int), ¬ (a = (P + 10) ∨ a = (P + 11)) → c2 a j = c a j) → 0 ≤ y ∧ y ≤ 99 → Z (.inl (some (vi y)), Wd P Q P P c2, 0, 0)) : Wp sc (d + 9) 56 0 [(0, .ref sh), (1, vi a1)] [] (Wd P Q P P c) 0 0 Z := by
  have hP := iv_P hI
  have hQ := iv_Q hI
  refine q_iload_n rfl rfl (q_iconst rfl (v_imul (v := 4 * a1) rfl (by omega) (q_istore_n rfl (Nat.le_of_ble_eq_true rfl) (q_aload_n rfl rfl (v_gr (t := P) rfl rfl (ck_sh hs) (by omega) rfl (v_gr (t := (P + 7)) rfl rfl (ck_p0 hP) (a68z hP) rfl (q_aload_n rfl rfl ?_)))))))
  refine v_gr (t := s) rfl rfl (ck_sh hs) (by omega) rfl (q_iload_n rfl rfl ?_)
  have h_1 := ir_s_g hI hs (j := 4 * a1) (by first | exact q_9f1d5ffdc ha1 | omega)
  refine v_ia (v := c s (4 * a1)) rfl (ck_s hs) (by omega) (by decide) ⟨by first | exact q_c065257af ha1 | omega, by first | exact q_b7e642788 ha1 | omega⟩ rfl (q_aload_n rfl rfl (v_gr (t := s) rfl rfl (ck_sh hs) (by omega) rfl (q_iload_n rfl rfl (q_iconst rfl (v_iadd (v := 4 * a1 + 1) rfl rfl ?_)))))
  have h_2 := ir_s_g hI hs (j := 4 * a1 + 1) (by first | exact q_0a2ee6f8f ha1 | omega)
  refine v_ia (v := c s (4 * a1 + 1)) rfl (ck_s hs) (by omega) (by decide) ⟨by first | exact q_83fdbd35d ha1 | omega, by first | exact q_ee7209ea0 ha1 | omega⟩ rfl (q_aload_n rfl rfl (v_gr (t := s) rfl rfl (ck_sh hs) (by omega) rfl (q_iload_n rfl rfl (q_iconst rfl (v_iadd (v := 4 * a1 + 2) rfl rfl ?_)))))
  have h_3 := ir_s_g hI hs (j := 4 * a1 + 2) (by first | exact q_e07a293a2 ha1 | omega)
  refine v_ia (v := c s (4 * a1 + 2)) rfl (ck_s hs) (by omega) (by decide) ⟨by first | exact q_0f37a0c6e ha1 | omega, by first | exact q_d136047ff ha1 | omega⟩ rfl (q_aload_n rfl rfl (v_gr (t := s) rfl rfl (ck_sh hs) (by omega) rfl (q_iload_n rfl rfl (q_iconst rfl (v_iadd (v := 4 * a1 + 3) rfl rfl ?_)))))
  have h_4 := ir_s_g hI hs (j := 4 * a1 + 3) (by first | exact q_d09cb0b73 ha1 | omega)
  refine v_ia (v := c s (4 * a1 + 3)) rfl (ck_s hs) (by omega) (by decide) ⟨by first | exact q_f6be69137 ha1 | omega, by first | exact q_c79de31f2 ha1 | omega⟩ rfl (q_aload_n rfl rfl (q_iload_n rfl rfl (v_cv rfl rfl rfl (ck_sh hs) (by omega) ⟨⟨rfl, rfl⟩, by decide, rfl⟩ (Nat.le_of_ble_eq_true rfl) (Nat.le_of_ble_eq_true rfl) (s_51 (a1 := a1) hI hs (show 0 ≤ a1 ∧ a1 ≤ 5 from ha1) (fun y_5 hy_5 => (bk_inl (q_aload_n rfl rfl (v_gr (t := s) rfl rfl (ck_sh hs) (by omega) rfl (v_bip rfl (by decide) ?_)))))))))
  have h_6 := ir_s hI hs 31
  refine v_ia (v := c s 31) rfl (ck_s hs) (by omega) (by decide) (by decide) rfl (q_iload_n rfl rfl (v_cv rfl rfl rfl (ck_p7 hP) (a68 hP rfl) ⟨⟨rfl, rfl⟩, by decide, rfl⟩ (Nat.le_of_ble_eq_true rfl) (Nat.le_of_ble_eq_true rfl) (s_20 (a1 := c s (4 * a1)) (a2 := c s (4 * a1 + 1)) (a3 := c s (4 * a1 + 2)) (a4 := c s (4 * a1 + 3)) (a5 := y_5) (a6 := c s 31) (a7 := a1) hI hP (show 0 ≤ c s (4 * a1) ∧ c s (4 * a1) ≤ 9999 from h_1) (show 0 ≤ c s (4 * a1 + 1) ∧ c s (4 * a1 + 1) ≤ 9999 from h_2) (show 0 ≤ c s (4 * a1 + 2) ∧ c s (4 * a1 + 2) ≤ 9999 from h_3) (show 0 ≤ c s (4 * a1 + 3) ∧ c s (4 * a1 + 3) ≤ 9999 from h_4) (show (-2147483648) ≤ y_5 ∧ y_5 ≤ 2147483647 from hy_5) (show (-2147483648) ≤ c s 31 ∧ c s 31 ≤ 2147483647 from h_6) (show (-2147483648) ≤ a1 ∧ a1 ≤ 2147483647 from ⟨(Int.le_trans (by decide) ha1.1), (Int.le_trans ha1.2 (by decide))⟩) (fun c_7 y_10 hI_8 hF_9 hy_10 => (bk_inl (q_iret rfl rfl ?_))))))
  exact K c_7 y_10 hI_8 (fun a j hm => hF_9 a j (fun q => q.elim (fun h => hm (Or.inl h)) (fun h => hm (Or.inr h)))) hy_10

set_option maxRecDepth 100000 in
set_option maxHeartbeats 4000000 in
theorem s_57 {sc : List Int32} {e : Int} {d u P Q sh s : Nat} {c : ME} {a1 : Int} {Z : AR → Prop} (hI : Iv u e P Q c) (hs : (sh = 37 ∧ s = 38) ∨ (sh = 39 ∧ s = 40)) (ha1 : 0 ≤ a1 ∧ a1 ≤ 5) (K : ∀ (c2 : ME) (y : Int), Iv u e P Q c2 → (∀ (a : Nat) (j : Int), ¬ (a = (P + 10) ∨ a = (P + 11)) → c2 a j = c a j) → 0 ≤ y ∧ y ≤ 1 → Z (.inl (some (vi y)), Wd P Q P P c2, 0, 0)) : Wp sc (d + 10) 57 0 [(0, .ref sh), (1, vi a1)] [] (Wd P Q P P c) 0 0 Z := by
  have hP := iv_P hI
  have hQ := iv_Q hI
  refine q_aload_n rfl rfl (q_iload_n rfl rfl ?_)
  have h_1 := ir_s_g hI hs (j := 4 * a1) (by first | exact q_9f1d5ffdc ha1 | omega)
  have h_2 := ir_s_g hI hs (j := 4 * a1 + 1) (by first | exact q_0a2ee6f8f ha1 | omega)
  have h_3 := ir_s_g hI hs (j := 4 * a1 + 2) (by first | exact q_e07a293a2 ha1 | omega)
  have h_4 := ir_s_g hI hs (j := 4 * a1 + 3) (by first | exact q_d09cb0b73 ha1 | omega)
  refine v_cv rfl rfl rfl (ck_sh hs) (by omega) ⟨⟨rfl, rfl⟩, by decide, rfl⟩ (Nat.le_of_ble_eq_true rfl) (Nat.le_of_ble_eq_true rfl) (s_43 (v1 := c s (4 * a1)) (v2 := c s (4 * a1 + 1)) (v3 := c s (4 * a1 + 2)) (v4 := c s (4 * a1 + 3)) (r := c s (4 * a1 + 1) + c s (4 * a1 + 2) + c s (4 * a1 + 3) + c s (4 * a1)) (a1 := a1) hI hs (show 0 ≤ a1 ∧ a1 ≤ 5 from ha1) (rfl) (rfl) (rfl) (rfl) (by omega) (bk_inl ?_))
  by_cases h_5 : c s (4 * a1 + 1) + c s (4 * a1 + 2) + c s (4 * a1 + 3) + c s (4 * a1) ≤ 0
  · refine v_if_le_t (t := 22) rfl rfl ⟨by first | exact q_e052ef40e h_1 h_2 h_3 h_4 | omega, h_5, by decide⟩ (q_iconst rfl (v_zret rfl rfl (by decide) ?_))
    exact K c 0 hI (fun a j hm => rfl) ⟨by decide, by decide⟩
  · refine v_if_le_f (t := 22) rfl rfl ⟨by decide, (Int.not_le.mp h_5), by first | exact q_db9ef1f4a h_1 h_2 h_3 h_4 | omega⟩ (q_aload_n rfl rfl (q_iload_n rfl rfl (v_cv rfl rfl rfl (ck_sh hs) (by omega) ⟨⟨rfl, rfl⟩, by decide, rfl⟩ (Nat.le_of_ble_eq_true rfl) (Nat.le_of_ble_eq_true rfl) (s_56 (a1 := a1) hI hs (show 0 ≤ a1 ∧ a1 ≤ 5 from ha1) (fun c_6 y_9 hI_7 hF_8 hy_9 => (bk_inl (v_bip rfl (by decide) ?_)))))))
    by_cases h_10 : y_9 < 50
    · refine v_ic_lt_t (t := 22) rfl rfl ⟨(Int.le_trans (by decide) hy_9.1), h_10, by decide⟩ (q_iconst rfl (v_zret rfl rfl (by decide) ?_))
      exact K c_6 0 hI_7 (fun a j hm => hF_8 a j (fun q => q.elim (fun h => hm (Or.inl h)) (fun h => hm (Or.inr h)))) ⟨by decide, by decide⟩
    · refine v_ic_lt_f (t := 22) rfl rfl ⟨by decide, (Int.not_lt.mp h_10), (Int.le_trans hy_9.2 (by decide))⟩ (q_iconst rfl (q_goto (t := 23) rfl rfl (v_zret rfl rfl (by decide) ?_)))
      exact K c_6 1 hI_7 (fun a j hm => hF_8 a j (fun q => q.elim (fun h => hm (Or.inl h)) (fun h => hm (Or.inr h)))) ⟨by decide, by decide⟩
