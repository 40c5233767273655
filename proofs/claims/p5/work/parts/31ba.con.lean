/-! ===== contracts 14 ===== -/
theorem q_a49915bbb {x0 : Int} (f0 : 0 ≤ x0 ∧ x0 ≤ 5) : 4 * x0 < 37 := by omega
theorem q_7a0c0a739 {x0 : Int} (f0 : 0 ≤ x0 ∧ x0 ≤ 5) : 4 * x0 + 1 < 37 := by omega
theorem q_36e1404d4 {x0 : Int} (f0 : 0 ≤ x0 ∧ x0 ≤ 5) : 4 * x0 + 2 < 37 := by omega
theorem q_6b2d832d4 {x0 : Int} (f0 : 0 ≤ x0 ∧ x0 ≤ 5) : 4 * x0 + 3 < 37 := by omega
theorem c_186_0 : mLk 186 0 = some (.aload_n 0, 1) := rfl
theorem c_186_1 : mLk 186 1 = some (.aload_n 0, 1) := rfl
theorem c_186_2 : mLk 186 2 = some (.getfield 65, 3) := rfl
theorem c_186_5 : mLk 186 5 = some (.aload_n 0, 1) := rfl
theorem c_186_6 : mLk 186 6 = some (.getfield 68, 3) := rfl
theorem c_186_9 : mLk 186 9 = some (.bipush 37, 2) := rfl
theorem c_186_11 : mLk 186 11 = some (.invokevirtual 169, 3) := rfl
theorem c_187_0 : mLk 187 0 = some (.iconst 0, 1) := rfl
theorem c_187_1 : mLk 187 1 = some (.istore_n 2, 1) := rfl
theorem c_187_2 : mLk 187 2 = some (.iconst 0, 1) := rfl
theorem c_187_3 : mLk 187 3 = some (.istore_n 3, 1) := rfl
theorem c_187_4 : mLk 187 4 = some (.iload_n 3, 1) := rfl
theorem c_187_5 : mLk 187 5 = some (.iconst 4, 1) := rfl
theorem c_187_6 : mLk 187 6 = some (.if_icmp .ge 22, 3) := rfl
theorem c_187_9 : mLk 187 9 = some (.iload_n 2, 1) := rfl
theorem c_187_10 : mLk 187 10 = some (.aload_n 0, 1) := rfl
theorem c_187_11 : mLk 187 11 = some (.getfield 68, 3) := rfl
theorem c_187_14 : mLk 187 14 = some (.iconst 4, 1) := rfl
theorem c_187_15 : mLk 187 15 = some (.iload_n 1, 1) := rfl
theorem c_187_16 : mLk 187 16 = some (.imul, 1) := rfl
theorem c_187_17 : mLk 187 17 = some (.iload_n 3, 1) := rfl
theorem c_187_18 : mLk 187 18 = some (.iadd, 1) := rfl
theorem c_187_19 : mLk 187 19 = some (.iaload, 1) := rfl
theorem c_187_20 : mLk 187 20 = some (.iadd, 1) := rfl
theorem c_187_21 : mLk 187 21 = some (.istore_n 2, 1) := rfl
theorem c_187_22 : mLk 187 22 = some (.iinc 3 1, 3) := rfl
theorem c_187_25 : mLk 187 25 = some (.goto (-21), 3) := rfl
theorem c_187_28 : mLk 187 28 = some (.iload_n 2, 1) := rfl
theorem c_187_29 : mLk 187 29 = some (.ireturn, 1) := rfl
theorem kf_8_68 : a_lk (kF 8) 68 = some (8, 41) := rfl
set_option maxRecDepth 100000 in
set_option maxHeartbeats 4000000 in
theorem s_186 {sc : List Int32} {d P Q : Nat} {c : ME} {Z : AR → Prop} (hI : Iv 0 (-1) P Q c)  (K : ∀ (c2 : ME), Iv 0 (-1) P Q c2 → (∀ (a : Nat) (j : Int), ¬ (a = 59) → c2 a j = c a j) → Z (.inl (none), Wd P Q P P c2, 0, 0)) : Wp sc (d + 7) 186 0 [(0, .ref 41)] [] (Wd P Q P P c) 0 0 Z := by
  have hP := iv_P hI
  have hQ := iv_Q hI
  refine q_aload_n c_186_0 rfl (q_aload_n c_186_1 rfl (v_gr (t := 58) c_186_2 kf_8_65 rfl (Nat.le_of_ble_eq_true rfl) rfl (q_aload_n c_186_5 rfl (v_gr (t := 59) c_186_6 kf_8_68 rfl (Nat.le_of_ble_eq_true rfl) rfl (v_bip c_186_9 (of_decide_eq_true rfl) (v_cv c_186_11 km_8_169 rfl rfl (Nat.le_of_ble_eq_true rfl) ⟨⟨rfl, rfl⟩, Nat.le_of_ble_eq_true rfl, rfl⟩ (Nat.le_of_ble_eq_true rfl) (Nat.le_of_ble_eq_true rfl) (s_148 (f := 58) (t := 59) (nf := 37) (nt := 37) (n := 37) rfl rfl (of_decide_eq_true rfl) (of_decide_eq_true rfl) (of_decide_eq_true rfl) (of_decide_eq_true rfl) (of_decide_eq_true rfl) (by omega) (bk_inl ?_))))))))
  refine q_vret rfl rfl ?_
  have hI_1 := cp_58_59 hI
  exact K (upc c 58 0 59 0 37) hI_1 (fun a j hm => upc_c (fun h => hm h))

set_option maxRecDepth 100000 in
set_option maxHeartbeats 4000000 in
theorem s_187 {sc : List Int32} {e : Int} {d u P Q : Nat} {c : ME} {v1 v2 v3 v4 r : Int} {a1 : Int} {Z : AR → Prop} (hI : Iv u e P Q c) (ha1 : 0 ≤ a1 ∧ a1 ≤ 5) (hv0 : c 59 (4 * a1) = v1) (hv1 : c 59 (4 * a1 + 1) = v2) (hv2 : c 59 (4 * a1 + 2) = v3) (hv3 : c 59 (4 * a1 + 3) = v4) (hr9 : v1 + v2 + v3 + v4 = r) (K : Z (.inl (some (vi r)), Wd P Q P P c, 0, 0)) : Wp sc (d + 7) 187 0 [(0, .ref 41), (1, vi a1)] [] (Wd P Q P P c) 0 0 Z := by
  have hP := iv_P hI
  have hQ := iv_Q hI
  have h_1 := ir_59_g hI (j := 4 * a1) ((q_9f1d5ffdc ha1))
  have h_2 := ir_59_g hI (j := 4 * a1 + 1) ((q_0a2ee6f8f ha1))
  have h_3 := ir_59_g hI (j := 4 * a1 + 2) ((q_e07a293a2 ha1))
  have h_4 := ir_59_g hI (j := 4 * a1 + 3) ((q_d09cb0b73 ha1))
  refine q_iconst c_187_0 (q_istore_n c_187_1 (Nat.le_of_ble_eq_true rfl) (q_iconst c_187_2 (q_istore_n c_187_3 (Nat.le_of_ble_eq_true rfl) (q_iload_n c_187_4 rfl (q_iconst c_187_5 (v_ic_ge_f (t := 28) c_187_6 rfl (of_decide_eq_true rfl) (q_iload_n c_187_9 rfl ?_)))))))
  refine q_aload_n c_187_10 rfl (v_gr (t := 59) c_187_11 kf_8_68 rfl (Nat.le_of_ble_eq_true rfl) rfl (q_iconst c_187_14 (q_iload_n c_187_15 rfl (v_imul (v := 4 * a1) c_187_16 rfl (q_iload_n c_187_17 rfl (v_iadd (v := 4 * a1) c_187_18 (by omega) (v_ia (v := v1) c_187_19 rfl (of_decide_eq_true rfl) (of_decide_eq_true rfl) ⟨(q_c065257af ha1), (q_a49915bbb ha1)⟩ (hv0) ?_)))))))
  refine v_iadd (v := v1) c_187_20 (by omega) (q_istore_n c_187_21 (Nat.le_of_ble_eq_true rfl) (v_iinc (v := 1) c_187_22 rfl (Nat.le_of_ble_eq_true rfl) (of_decide_eq_true rfl) (q_goto (t := 4) c_187_25 rfl (q_iload_n c_187_4 rfl (q_iconst c_187_5 (v_ic_ge_f (t := 28) c_187_6 rfl (of_decide_eq_true rfl) (q_iload_n c_187_9 rfl ?_)))))))
  refine q_aload_n c_187_10 rfl (v_gr (t := 59) c_187_11 kf_8_68 rfl (Nat.le_of_ble_eq_true rfl) rfl (q_iconst c_187_14 (q_iload_n c_187_15 rfl (v_imul (v := 4 * a1) c_187_16 rfl (q_iload_n c_187_17 rfl (v_iadd (v := 4 * a1 + 1) c_187_18 rfl (v_ia (v := v2) c_187_19 rfl (of_decide_eq_true rfl) (of_decide_eq_true rfl) ⟨(q_83fdbd35d ha1), (q_7a0c0a739 ha1)⟩ (hv1) ?_)))))))
  refine v_iadd (v := v1 + v2) c_187_20 rfl (q_istore_n c_187_21 (Nat.le_of_ble_eq_true rfl) (Wp_ls [(2, vi (v1 + v2)), (3, vi 1), (0, .ref 41), (1, vi a1)] (lsub_cons rfl (lsub_cons rfl (lsub_cons rfl (lsub_cons rfl lsub_nil)))) (v_iinc (v := 2) c_187_22 rfl (Nat.le_of_ble_eq_true rfl) (of_decide_eq_true rfl) (q_goto (t := 4) c_187_25 rfl (q_iload_n c_187_4 rfl (q_iconst c_187_5 (v_ic_ge_f (t := 28) c_187_6 rfl (of_decide_eq_true rfl) ?_)))))))
  refine q_iload_n c_187_9 rfl (q_aload_n c_187_10 rfl (v_gr (t := 59) c_187_11 kf_8_68 rfl (Nat.le_of_ble_eq_true rfl) rfl (q_iconst c_187_14 (q_iload_n c_187_15 rfl (v_imul (v := 4 * a1) c_187_16 rfl (q_iload_n c_187_17 rfl (v_iadd (v := 4 * a1 + 2) c_187_18 rfl ?_)))))))
  refine v_ia (v := v3) c_187_19 rfl (of_decide_eq_true rfl) (of_decide_eq_true rfl) ⟨(q_0f37a0c6e ha1), (q_36e1404d4 ha1)⟩ (hv2) (v_iadd (v := v1 + v2 + v3) c_187_20 rfl (q_istore_n c_187_21 (Nat.le_of_ble_eq_true rfl) (v_iinc (v := 3) c_187_22 rfl (Nat.le_of_ble_eq_true rfl) (of_decide_eq_true rfl) (q_goto (t := 4) c_187_25 rfl (q_iload_n c_187_4 rfl (q_iconst c_187_5 (v_ic_ge_f (t := 28) c_187_6 rfl (of_decide_eq_true rfl) ?_)))))))
  refine q_iload_n c_187_9 rfl (q_aload_n c_187_10 rfl (v_gr (t := 59) c_187_11 kf_8_68 rfl (Nat.le_of_ble_eq_true rfl) rfl (q_iconst c_187_14 (q_iload_n c_187_15 rfl (v_imul (v := 4 * a1) c_187_16 rfl (q_iload_n c_187_17 rfl (v_iadd (v := 4 * a1 + 3) c_187_18 rfl ?_)))))))
  refine v_ia (v := v4) c_187_19 rfl (of_decide_eq_true rfl) (of_decide_eq_true rfl) ⟨(q_f6be69137 ha1), (q_6b2d832d4 ha1)⟩ (hv3) (v_iadd (v := v1 + v2 + v3 + v4) c_187_20 rfl (q_istore_n c_187_21 (Nat.le_of_ble_eq_true rfl) (v_iinc (v := 4) c_187_22 rfl (Nat.le_of_ble_eq_true rfl) (of_decide_eq_true rfl) (Wp_ls [(3, vi 4), (2, vi (v1 + v2 + v3 + v4)), (0, .ref 41), (1, vi a1)] (lsub_cons rfl (lsub_cons rfl (lsub_cons rfl (lsub_cons rfl lsub_nil)))) (q_goto (t := 4) c_187_25 rfl (q_iload_n c_187_4 rfl (q_iconst c_187_5 ?_)))))))
  refine v_ic_ge_t (t := 28) c_187_6 rfl (of_decide_eq_true rfl) (q_iload_n c_187_28 rfl (q_iret c_187_29 rfl ?_))
  exact zv (by omega) (K)
