/-! ===== contracts 6 ===== -/
theorem q_db9ef1f4a {x0 x1 x2 x3 : Int} (f0 : 0 ≤ x0 ∧ x0 ≤ 9999) (f1 : 0 ≤ x1 ∧ x1 ≤ 9999) (f2 : 0 ≤ x2 ∧ x2 ≤ 9999) (f3 : 0 ≤ x3 ∧ x3 ≤ 9999) : x1 + x2 + x3 + x0 ≤ 2147483647 := by omega
theorem q_e98859194 {x0 x1 x2 x3 : Int} (f0 : ¬ (x0 + x1 + x2 + x3 ≤ 0)) : 0 ≤ x0 + x1 + x2 + x3 := by omega
theorem q_386a854c4 {x0 x1 x2 x3 : Int} (f0 : 0 ≤ x0 ∧ x0 ≤ 9999) (f1 : 0 ≤ x1 ∧ x1 ≤ 9999) (f2 : 0 ≤ x2 ∧ x2 ≤ 9999) (f3 : 0 ≤ x3 ∧ x3 ≤ 9999) : x1 + x2 + x3 + x0 ≤ 99999 := by omega
theorem c_55_0 : mLk 55 0 = some (.aload_n 0, 1) := rfl
theorem c_55_1 : mLk 55 1 = some (.iload_n 1, 1) := rfl
theorem c_55_2 : mLk 55 2 = some (.invokevirtual 38, 3) := rfl
theorem c_55_5 : mLk 55 5 = some (.istore_n 3, 1) := rfl
theorem c_55_6 : mLk 55 6 = some (.iload_n 3, 1) := rfl
theorem c_55_7 : mLk 55 7 = some (.ifCond .le 17, 3) := rfl
theorem c_55_24 : mLk 55 24 = some (.iconst 0, 1) := rfl
theorem c_55_25 : mLk 55 25 = some (.ireturn, 1) := rfl
theorem c_55_10 : mLk 55 10 = some (.aload_n 0, 1) := rfl
theorem c_55_11 : mLk 55 11 = some (.iload_n 1, 1) := rfl
theorem c_55_12 : mLk 55 12 = some (.iload_n 2, 1) := rfl
theorem c_55_13 : mLk 55 13 = some (.iload_n 3, 1) := rfl
theorem c_55_14 : mLk 55 14 = some (.invokevirtual 89, 3) := rfl
theorem c_55_17 : mLk 55 17 = some (.ifCond .eq 7, 3) := rfl
theorem c_55_20 : mLk 55 20 = some (.iconst 1, 1) := rfl
theorem c_55_21 : mLk 55 21 = some (.goto 4, 3) := rfl
theorem c_56_0 : mLk 56 0 = some (.iload_n 1, 1) := rfl
theorem c_56_1 : mLk 56 1 = some (.iconst 4, 1) := rfl
theorem c_56_2 : mLk 56 2 = some (.imul, 1) := rfl
theorem c_56_3 : mLk 56 3 = some (.istore_n 2, 1) := rfl
theorem c_56_4 : mLk 56 4 = some (.aload_n 0, 1) := rfl
theorem c_56_5 : mLk 56 5 = some (.getfield 15, 3) := rfl
theorem c_56_8 : mLk 56 8 = some (.getfield 42, 3) := rfl
theorem c_56_11 : mLk 56 11 = some (.aload_n 0, 1) := rfl
theorem c_56_12 : mLk 56 12 = some (.getfield 11, 3) := rfl
theorem c_56_15 : mLk 56 15 = some (.iload_n 2, 1) := rfl
theorem c_56_16 : mLk 56 16 = some (.iaload, 1) := rfl
theorem c_56_17 : mLk 56 17 = some (.aload_n 0, 1) := rfl
theorem c_56_18 : mLk 56 18 = some (.getfield 11, 3) := rfl
theorem c_56_21 : mLk 56 21 = some (.iload_n 2, 1) := rfl
theorem c_56_22 : mLk 56 22 = some (.iconst 1, 1) := rfl
theorem c_56_23 : mLk 56 23 = some (.iadd, 1) := rfl
theorem c_56_24 : mLk 56 24 = some (.iaload, 1) := rfl
theorem c_56_25 : mLk 56 25 = some (.aload_n 0, 1) := rfl
theorem c_56_26 : mLk 56 26 = some (.getfield 11, 3) := rfl
theorem c_56_29 : mLk 56 29 = some (.iload_n 2, 1) := rfl
theorem c_56_30 : mLk 56 30 = some (.iconst 2, 1) := rfl
theorem c_56_31 : mLk 56 31 = some (.iadd, 1) := rfl
theorem c_56_32 : mLk 56 32 = some (.iaload, 1) := rfl
theorem c_56_33 : mLk 56 33 = some (.aload_n 0, 1) := rfl
theorem c_56_34 : mLk 56 34 = some (.getfield 11, 3) := rfl
theorem c_56_37 : mLk 56 37 = some (.iload_n 2, 1) := rfl
theorem c_56_38 : mLk 56 38 = some (.iconst 3, 1) := rfl
theorem c_56_39 : mLk 56 39 = some (.iadd, 1) := rfl
theorem c_56_40 : mLk 56 40 = some (.iaload, 1) := rfl
theorem c_56_41 : mLk 56 41 = some (.aload_n 0, 1) := rfl
theorem c_56_42 : mLk 56 42 = some (.iload_n 1, 1) := rfl
theorem c_56_43 : mLk 56 43 = some (.invokevirtual 46, 3) := rfl
theorem c_56_46 : mLk 56 46 = some (.aload_n 0, 1) := rfl
theorem c_56_47 : mLk 56 47 = some (.getfield 11, 3) := rfl
theorem c_56_50 : mLk 56 50 = some (.bipush 31, 2) := rfl
theorem c_56_52 : mLk 56 52 = some (.iaload, 1) := rfl
theorem c_56_53 : mLk 56 53 = some (.iload_n 1, 1) := rfl
theorem c_56_54 : mLk 56 54 = some (.invokevirtual 49, 3) := rfl
theorem c_56_57 : mLk 56 57 = some (.ireturn, 1) := rfl
theorem c_57_0 : mLk 57 0 = some (.aload_n 0, 1) := rfl
theorem c_57_1 : mLk 57 1 = some (.iload_n 1, 1) := rfl
theorem c_57_2 : mLk 57 2 = some (.invokevirtual 38, 3) := rfl
theorem c_57_5 : mLk 57 5 = some (.ifCond .le 17, 3) := rfl
theorem c_57_22 : mLk 57 22 = some (.iconst 0, 1) := rfl
theorem c_57_23 : mLk 57 23 = some (.ireturn, 1) := rfl
theorem c_57_8 : mLk 57 8 = some (.aload_n 0, 1) := rfl
theorem c_57_9 : mLk 57 9 = some (.iload_n 1, 1) := rfl
theorem c_57_10 : mLk 57 10 = some (.invokevirtual 55, 3) := rfl
theorem c_57_13 : mLk 57 13 = some (.bipush 50, 2) := rfl
theorem c_57_15 : mLk 57 15 = some (.if_icmp .lt 7, 3) := rfl
theorem c_57_18 : mLk 57 18 = some (.iconst 1, 1) := rfl
theorem c_57_19 : mLk 57 19 = some (.goto 4, 3) := rfl
theorem kf_4_42 : a_lk (kF 4) 42 = some (2, 12) := rfl
theorem km_4_49 : a_lk (kM 4) 49 = some (0, 20) := rfl
theorem km_4_55 : a_lk (kM 4) 55 = some (0, 56) := rfl
theorem km_4_89 : a_lk (kM 4) 89 = some (0, 54) := rfl
set_option maxRecDepth 100000 in
set_option maxHeartbeats 4000000 in
theorem s_55 {sc : List Int32} {d P Q sh s : Nat} {c : ME} {a1 : Int} {a2 : Int} {Z : AR → Prop} (hI : Iv 0 (-1) P Q c) (hs : (sh = 37 ∧ s = 38) ∨ (sh = 39 ∧ s = 40)) (ha1 : 0 ≤ a1 ∧ a1 ≤ 5) (ha2 : 0 ≤ a2 ∧ a2 ≤ 5) (K : ∀ (c2 : ME) (y : Int), Iv 0 (-1) P Q c2 → (∀ (a : Nat) (j : Int), ¬ (a = s) → c2 a j = c a j) → 0 ≤ y ∧ y ≤ 1 → Z (.inl (some (vi y)), Wd P Q P P c2, 0, 0)) : Wp sc (d + 10) 55 0 [(0, .ref sh), (1, vi a1), (2, vi a2)] [] (Wd P Q P P c) 0 0 Z := by
  have hP := iv_P hI
  have hQ := iv_Q hI
  refine q_aload_n c_55_0 rfl (q_iload_n c_55_1 rfl ?_)
  have h_1 := ir_s_g hI hs (j := 4 * a1) ((q_9f1d5ffdc ha1))
  have h_2 := ir_s_g hI hs (j := 4 * a1 + 1) ((q_0a2ee6f8f ha1))
  have h_3 := ir_s_g hI hs (j := 4 * a1 + 2) ((q_e07a293a2 ha1))
  have h_4 := ir_s_g hI hs (j := 4 * a1 + 3) ((q_d09cb0b73 ha1))
  refine v_cv c_55_2 km_4_38 rfl (ck_sh hs) (by omega) ⟨⟨rfl, rfl⟩, of_decide_eq_true rfl, rfl⟩ (Nat.le_of_ble_eq_true rfl) (Nat.le_of_ble_eq_true rfl) (s_43 (v1 := c s (4 * a1)) (v2 := c s (4 * a1 + 1)) (v3 := c s (4 * a1 + 2)) (v4 := c s (4 * a1 + 3)) (r := c s (4 * a1 + 1) + c s (4 * a1 + 2) + c s (4 * a1 + 3) + c s (4 * a1)) (a1 := a1) hI hs (show 0 ≤ a1 ∧ a1 ≤ 5 from ha1) (rfl) (rfl) (rfl) (rfl) (by omega) (bk_inl (q_istore_n c_55_5 (Nat.le_of_ble_eq_true rfl) (q_iload_n c_55_6 rfl ?_))))
  by_cases h_5 : c s (4 * a1 + 1) + c s (4 * a1 + 2) + c s (4 * a1 + 3) + c s (4 * a1) ≤ 0
  · refine v_if_le_t (t := 24) c_55_7 rfl ⟨(q_e052ef40e h_1 h_2 h_3 h_4), h_5, of_decide_eq_true rfl⟩ (q_iconst c_55_24 (v_zret c_55_25 rfl (of_decide_eq_true rfl) ?_))
    exact K c 0 hI (fun a j hm => rfl) ⟨of_decide_eq_true rfl, of_decide_eq_true rfl⟩
  · refine v_if_le_f (t := 24) c_55_7 rfl ⟨of_decide_eq_true rfl, (Int.not_le.mp h_5), (q_db9ef1f4a h_1 h_2 h_3 h_4)⟩ (q_aload_n c_55_10 rfl (q_iload_n c_55_11 rfl (q_iload_n c_55_12 rfl (q_iload_n c_55_13 rfl (v_cv c_55_14 km_4_89 rfl (ck_sh hs) (by omega) ⟨⟨rfl, rfl⟩, of_decide_eq_true rfl, rfl⟩ (Nat.le_of_ble_eq_true rfl) (Nat.le_of_ble_eq_true rfl) (s_54 (a1 := a1) (a2 := a2) (a3 := c s (4 * a1 + 1) + c s (4 * a1 + 2) + c s (4 * a1 + 3) + c s (4 * a1)) hI hs (show 0 ≤ a1 ∧ a1 ≤ 5 from ha1) (show 0 ≤ a2 ∧ a2 ≤ 5 from ha2) (show 0 ≤ c s (4 * a1 + 1) + c s (4 * a1 + 2) + c s (4 * a1 + 3) + c s (4 * a1) ∧ c s (4 * a1 + 1) + c s (4 * a1 + 2) + c s (4 * a1 + 3) + c s (4 * a1) ≤ 99999 from ⟨(q_e98859194 h_5), (q_386a854c4 h_1 h_2 h_3 h_4)⟩) (fun c_6 y_9 hI_7 hF_8 hy_9 => (bk_inl ?_))))))))
    by_cases h_10 : y_9 = 0
    · refine v_if_eq_t (t := 24) c_55_17 rfl h_10 (q_iconst c_55_24 (v_zret c_55_25 rfl (of_decide_eq_true rfl) ?_))
      exact K c_6 0 hI_7 (fun a j hm => hF_8 a j hm) ⟨of_decide_eq_true rfl, of_decide_eq_true rfl⟩
    · refine v_if_eq_f (t := 24) c_55_17 rfl ⟨h_10, ⟨(lel hy_9.1 rfl), (ler hy_9.2 rfl)⟩, of_decide_eq_true rfl, of_decide_eq_true rfl⟩ (q_iconst c_55_20 (q_goto (t := 25) c_55_21 rfl (v_zret c_55_25 rfl (of_decide_eq_true rfl) ?_)))
      exact K c_6 1 hI_7 (fun a j hm => hF_8 a j hm) ⟨of_decide_eq_true rfl, of_decide_eq_true rfl⟩

set_option maxRecDepth 100000 in
set_option maxHeartbeats 4000000 in
theorem s_56 {sc : List Int32} {e : Int} {d u P Q sh s : Nat} {c : ME} {a1 : Int} {Z : AR → Prop} (hI : Iv u e P Q c) (hs : (sh = 37 ∧ s = 38) ∨ (sh = 39 ∧ s = 40)) (ha1 : 0 ≤ a1 ∧ a1 ≤ 5) (K : ∀ (c2 : ME) (y : Int), Iv u e P Q c2 → (∀ (a : Nat) (j : Int), ¬ (a = (P + 10) ∨ a = (P + 11)) → c2 a j = c a j) → 0 ≤ y ∧ y ≤ 99 → Z (.inl (some (vi y)), Wd P Q P P c2, 0, 0)) : Wp sc (d + 9) 56 0 [(0, .ref sh), (1, vi a1)] [] (Wd P Q P P c) 0 0 Z := by
  have hP := iv_P hI
  have hQ := iv_Q hI
  refine q_iload_n c_56_0 rfl (q_iconst c_56_1 (v_imul (v := 4 * a1) c_56_2 (by omega) (q_istore_n c_56_3 (Nat.le_of_ble_eq_true rfl) (q_aload_n c_56_4 rfl (v_gr (t := P) c_56_5 kf_4_15 (ck_sh hs) (by omega) rfl (v_gr (t := (P + 7)) c_56_8 kf_4_42 (ck_p0 hP) (a68z hP) rfl (q_aload_n c_56_11 rfl ?_)))))))
  refine v_gr (t := s) c_56_12 kf_4_11 (ck_sh hs) (by omega) rfl (q_iload_n c_56_15 rfl ?_)
  have h_1 := ir_s_g hI hs (j := 4 * a1) ((q_9f1d5ffdc ha1))
  refine v_ia (v := c s (4 * a1)) c_56_16 (ck_s hs) (by omega) (of_decide_eq_true rfl) ⟨(q_c065257af ha1), (q_b7e642788 ha1)⟩ rfl (q_aload_n c_56_17 rfl (v_gr (t := s) c_56_18 kf_4_11 (ck_sh hs) (by omega) rfl (q_iload_n c_56_21 rfl (q_iconst c_56_22 (v_iadd (v := 4 * a1 + 1) c_56_23 rfl ?_)))))
  have h_2 := ir_s_g hI hs (j := 4 * a1 + 1) ((q_0a2ee6f8f ha1))
  refine v_ia (v := c s (4 * a1 + 1)) c_56_24 (ck_s hs) (by omega) (of_decide_eq_true rfl) ⟨(q_83fdbd35d ha1), (q_ee7209ea0 ha1)⟩ rfl (q_aload_n c_56_25 rfl (v_gr (t := s) c_56_26 kf_4_11 (ck_sh hs) (by omega) rfl (q_iload_n c_56_29 rfl (q_iconst c_56_30 (v_iadd (v := 4 * a1 + 2) c_56_31 rfl ?_)))))
  have h_3 := ir_s_g hI hs (j := 4 * a1 + 2) ((q_e07a293a2 ha1))
  refine v_ia (v := c s (4 * a1 + 2)) c_56_32 (ck_s hs) (by omega) (of_decide_eq_true rfl) ⟨(q_0f37a0c6e ha1), (q_d136047ff ha1)⟩ rfl (q_aload_n c_56_33 rfl (v_gr (t := s) c_56_34 kf_4_11 (ck_sh hs) (by omega) rfl (q_iload_n c_56_37 rfl (q_iconst c_56_38 (v_iadd (v := 4 * a1 + 3) c_56_39 rfl ?_)))))
  have h_4 := ir_s_g hI hs (j := 4 * a1 + 3) ((q_d09cb0b73 ha1))
  refine v_ia (v := c s (4 * a1 + 3)) c_56_40 (ck_s hs) (by omega) (of_decide_eq_true rfl) ⟨(q_f6be69137 ha1), (q_c79de31f2 ha1)⟩ rfl (q_aload_n c_56_41 rfl (q_iload_n c_56_42 rfl (v_cv c_56_43 km_4_46 rfl (ck_sh hs) (by omega) ⟨⟨rfl, rfl⟩, of_decide_eq_true rfl, rfl⟩ (Nat.le_of_ble_eq_true rfl) (Nat.le_of_ble_eq_true rfl) (s_51 (a1 := a1) hI hs (show 0 ≤ a1 ∧ a1 ≤ 5 from ha1) (fun y_5 hy_5 => (bk_inl (q_aload_n c_56_46 rfl (v_gr (t := s) c_56_47 kf_4_11 (ck_sh hs) (by omega) rfl (v_bip c_56_50 (of_decide_eq_true rfl) ?_)))))))))
  have h_6 := ir_s hI hs 31
  refine v_ia (v := c s 31) c_56_52 (ck_s hs) (by omega) (of_decide_eq_true rfl) (of_decide_eq_true rfl) rfl (q_iload_n c_56_53 rfl (v_cv c_56_54 km_4_49 rfl (ck_p7 hP) (a68 hP rfl) ⟨⟨rfl, rfl⟩, of_decide_eq_true rfl, rfl⟩ (Nat.le_of_ble_eq_true rfl) (Nat.le_of_ble_eq_true rfl) (s_20 (a1 := c s (4 * a1)) (a2 := c s (4 * a1 + 1)) (a3 := c s (4 * a1 + 2)) (a4 := c s (4 * a1 + 3)) (a5 := y_5) (a6 := c s 31) (a7 := a1) hI hP (show 0 ≤ c s (4 * a1) ∧ c s (4 * a1) ≤ 9999 from h_1) (show 0 ≤ c s (4 * a1 + 1) ∧ c s (4 * a1 + 1) ≤ 9999 from h_2) (show 0 ≤ c s (4 * a1 + 2) ∧ c s (4 * a1 + 2) ≤ 9999 from h_3) (show 0 ≤ c s (4 * a1 + 3) ∧ c s (4 * a1 + 3) ≤ 9999 from h_4) (show (-2147483648) ≤ y_5 ∧ y_5 ≤ 2147483647 from hy_5) (show (-2147483648) ≤ c s 31 ∧ c s 31 ≤ 2147483647 from h_6) (show (-2147483648) ≤ a1 ∧ a1 ≤ 2147483647 from ⟨(lel ha1.1 rfl), (ler ha1.2 rfl)⟩) (fun c_7 y_10 hI_8 hF_9 hy_10 => (bk_inl (q_iret c_56_57 rfl ?_))))))
  exact K c_7 y_10 hI_8 (fun a j hm => hF_9 a j hm) hy_10

set_option maxRecDepth 100000 in
set_option maxHeartbeats 4000000 in
theorem s_57 {sc : List Int32} {e : Int} {d u P Q sh s : Nat} {c : ME} {a1 : Int} {Z : AR → Prop} (hI : Iv u e P Q c) (hs : (sh = 37 ∧ s = 38) ∨ (sh = 39 ∧ s = 40)) (ha1 : 0 ≤ a1 ∧ a1 ≤ 5) (K : ∀ (c2 : ME) (y : Int), Iv u e P Q c2 → (∀ (a : Nat) (j : Int), ¬ (a = (P + 10) ∨ a = (P + 11)) → c2 a j = c a j) → 0 ≤ y ∧ y ≤ 1 → Z (.inl (some (vi y)), Wd P Q P P c2, 0, 0)) : Wp sc (d + 10) 57 0 [(0, .ref sh), (1, vi a1)] [] (Wd P Q P P c) 0 0 Z := by
  have hP := iv_P hI
  have hQ := iv_Q hI
  refine q_aload_n c_57_0 rfl (q_iload_n c_57_1 rfl ?_)
  have h_1 := ir_s_g hI hs (j := 4 * a1) ((q_9f1d5ffdc ha1))
  have h_2 := ir_s_g hI hs (j := 4 * a1 + 1) ((q_0a2ee6f8f ha1))
  have h_3 := ir_s_g hI hs (j := 4 * a1 + 2) ((q_e07a293a2 ha1))
  have h_4 := ir_s_g hI hs (j := 4 * a1 + 3) ((q_d09cb0b73 ha1))
  refine v_cv c_57_2 km_4_38 rfl (ck_sh hs) (by omega) ⟨⟨rfl, rfl⟩, of_decide_eq_true rfl, rfl⟩ (Nat.le_of_ble_eq_true rfl) (Nat.le_of_ble_eq_true rfl) (s_43 (v1 := c s (4 * a1)) (v2 := c s (4 * a1 + 1)) (v3 := c s (4 * a1 + 2)) (v4 := c s (4 * a1 + 3)) (r := c s (4 * a1 + 1) + c s (4 * a1 + 2) + c s (4 * a1 + 3) + c s (4 * a1)) (a1 := a1) hI hs (show 0 ≤ a1 ∧ a1 ≤ 5 from ha1) (rfl) (rfl) (rfl) (rfl) (by omega) (bk_inl ?_))
  by_cases h_5 : c s (4 * a1 + 1) + c s (4 * a1 + 2) + c s (4 * a1 + 3) + c s (4 * a1) ≤ 0
  · refine v_if_le_t (t := 22) c_57_5 rfl ⟨(q_e052ef40e h_1 h_2 h_3 h_4), h_5, of_decide_eq_true rfl⟩ (q_iconst c_57_22 (v_zret c_57_23 rfl (of_decide_eq_true rfl) ?_))
    exact K c 0 hI (fun a j hm => rfl) ⟨of_decide_eq_true rfl, of_decide_eq_true rfl⟩
  · refine v_if_le_f (t := 22) c_57_5 rfl ⟨of_decide_eq_true rfl, (Int.not_le.mp h_5), (q_db9ef1f4a h_1 h_2 h_3 h_4)⟩ (q_aload_n c_57_8 rfl (q_iload_n c_57_9 rfl (v_cv c_57_10 km_4_55 rfl (ck_sh hs) (by omega) ⟨⟨rfl, rfl⟩, of_decide_eq_true rfl, rfl⟩ (Nat.le_of_ble_eq_true rfl) (Nat.le_of_ble_eq_true rfl) (s_56 (a1 := a1) hI hs (show 0 ≤ a1 ∧ a1 ≤ 5 from ha1) (fun c_6 y_9 hI_7 hF_8 hy_9 => (bk_inl (v_bip c_57_13 (of_decide_eq_true rfl) ?_)))))))
    by_cases h_10 : y_9 < 50
    · refine v_ic_lt_t (t := 22) c_57_15 rfl ⟨(lel hy_9.1 rfl), h_10, of_decide_eq_true rfl⟩ (q_iconst c_57_22 (v_zret c_57_23 rfl (of_decide_eq_true rfl) ?_))
      exact K c_6 0 hI_7 (fun a j hm => hF_8 a j hm) ⟨of_decide_eq_true rfl, of_decide_eq_true rfl⟩
    · refine v_ic_lt_f (t := 22) c_57_15 rfl ⟨of_decide_eq_true rfl, (Int.not_lt.mp h_10), (ler hy_9.2 rfl)⟩ (q_iconst c_57_18 (q_goto (t := 23) c_57_19 rfl (v_zret c_57_23 rfl (of_decide_eq_true rfl) ?_)))
      exact K c_6 1 hI_7 (fun a j hm => hF_8 a j hm) ⟨of_decide_eq_true rfl, of_decide_eq_true rfl⟩
