/-! ===== contracts 6 ===== -/
theorem c_79_0 : mLk 79 0 = some (.aload_n 0, 1) := rfl
theorem c_79_1 : mLk 79 1 = some (.getfield 10, 3) := rfl
theorem c_79_4 : mLk 79 4 = some (.bipush 20, 2) := rfl
theorem c_79_6 : mLk 79 6 = some (.invokevirtual 69, 3) := rfl
theorem c_79_9 : mLk 79 9 = some (.ifCond .ne 5, 3) := rfl
theorem c_79_14 : mLk 79 14 = some (.aload_n 0, 1) := rfl
theorem c_79_15 : mLk 79 15 = some (.getfield 10, 3) := rfl
theorem c_79_18 : mLk 79 18 = some (.iload_n 1, 1) := rfl
theorem c_79_19 : mLk 79 19 = some (.invokevirtual 73, 3) := rfl
theorem c_79_22 : mLk 79 22 = some (.aload_n 0, 1) := rfl
theorem c_79_23 : mLk 79 23 = some (.getfield 10, 3) := rfl
theorem c_79_26 : mLk 79 26 = some (.iload_n 2, 1) := rfl
theorem c_79_27 : mLk 79 27 = some (.invokevirtual 73, 3) := rfl
theorem c_79_30 : mLk 79 30 = some (.aload_n 0, 1) := rfl
theorem c_79_31 : mLk 79 31 = some (.getfield 10, 3) := rfl
theorem c_79_34 : mLk 79 34 = some (.iload_n 3, 1) := rfl
theorem c_79_35 : mLk 79 35 = some (.invokevirtual 73, 3) := rfl
theorem c_79_38 : mLk 79 38 = some (.aload_n 0, 1) := rfl
theorem c_79_39 : mLk 79 39 = some (.getfield 10, 3) := rfl
theorem c_79_42 : mLk 79 42 = some (.iload 4, 2) := rfl
theorem c_79_44 : mLk 79 44 = some (.invokevirtual 73, 3) := rfl
theorem c_79_47 : mLk 79 47 = some (.aload_n 0, 1) := rfl
theorem c_79_48 : mLk 79 48 = some (.getfield 10, 3) := rfl
theorem c_79_51 : mLk 79 51 = some (.iload 5, 2) := rfl
theorem c_79_53 : mLk 79 53 = some (.invokevirtual 73, 3) := rfl
theorem c_79_56 : mLk 79 56 = some (.aload_n 0, 1) := rfl
theorem c_79_57 : mLk 79 57 = some (.getfield 10, 3) := rfl
theorem c_79_60 : mLk 79 60 = some (.getfield 77, 3) := rfl
theorem c_79_63 : mLk 79 63 = some (.ireturn, 1) := rfl
theorem c_79_12 : mLk 79 12 = some (.iconst (-1), 1) := rfl
theorem c_79_13 : mLk 79 13 = some (.ireturn, 1) := rfl
theorem kf_7_10 : a_lk (kF 7) 10 = some (7, 0) := rfl
theorem kf_7_77 : a_lk (kF 7) 77 = some (5, 3) := rfl
theorem km_7_69 : a_lk (kM 7) 69 = some (0, 72) := rfl
theorem km_7_73 : a_lk (kM 7) 73 = some (0, 73) := rfl
set_option maxRecDepth 100000 in
set_option maxHeartbeats 4000000 in
theorem s_79 {sc : List Int32} {e : Int} {d u P Q : Nat} {c : ME} {a1 : Int} {a2 : Int} {a3 : Int} {a4 : Int} {a5 : Int} {Z : AR → Prop} (hI : Iv u e P Q c) (ha1 : (-2147483648) ≤ a1 ∧ a1 ≤ 2147483647) (ha2 : (-2147483648) ≤ a2 ∧ a2 ≤ 2147483647) (ha3 : (-2147483648) ≤ a3 ∧ a3 ≤ 2147483647) (ha4 : (-2147483648) ≤ a4 ∧ a4 ≤ 2147483647) (ha5 : (-2147483648) ≤ a5 ∧ a5 ≤ 2147483647) (K : ∀ (c2 : ME) (y : Int), Iv u e P Q c2 → (∀ (a : Nat) (j : Int), ¬ ((a = 1 ∧ j = 3) ∨ a = 2) → c2 a j = c a j) → (-1) ≤ y ∧ y ≤ 600 → Z (.inl (some (vi y)), Wd P Q P P c2, 0, 0)) : Wp sc (d + 9) 79 0 [(0, .ref 0), (1, vi a1), (2, vi a2), (3, vi a3), (4, vi a4), (5, vi a5)] [] (Wd P Q P P c) 0 0 Z := by
  have hP := iv_P hI
  have hQ := iv_Q hI
  refine q_aload_n c_79_0 rfl (v_gr (t := 1) c_79_1 kf_7_10 rfl (Nat.le_of_ble_eq_true rfl) rfl (v_bip c_79_4 (of_decide_eq_true rfl) ?_))
  have h_1 := ir_1_3 hI
  refine v_cv c_79_6 km_7_69 rfl rfl (Nat.le_of_ble_eq_true rfl) ⟨⟨rfl, rfl⟩, Nat.le_of_ble_eq_true rfl, rfl⟩ (Nat.le_of_ble_eq_true rfl) (Nat.le_of_ble_eq_true rfl) (s_72 (a1 := 20) hI (show 0 ≤ 20 ∧ 20 ≤ 20 from ⟨of_decide_eq_true rfl, of_decide_eq_true rfl⟩) (fun y_2 hy_2 h_3 => (bk_inl ?_)))
  by_cases h_4 : y_2 ≠ 0
  · refine v_if_ne_t (t := 14) c_79_9 rfl ⟨h_4, ⟨(lel hy_2.1 rfl), (ler hy_2.2 rfl)⟩, of_decide_eq_true rfl, of_decide_eq_true rfl⟩ (q_aload_n c_79_14 rfl (v_gr (t := 1) c_79_15 kf_7_10 rfl (Nat.le_of_ble_eq_true rfl) rfl (q_iload_n c_79_18 rfl (v_cv c_79_19 km_7_73 rfl rfl (Nat.le_of_ble_eq_true rfl) ⟨⟨rfl, rfl⟩, Nat.le_of_ble_eq_true rfl, rfl⟩ (Nat.le_of_ble_eq_true rfl) (Nat.le_of_ble_eq_true rfl) (s_73 (a1 := a1) hI (show (-2147483648) ≤ a1 ∧ a1 ≤ 2147483647 from ha1) (fun c_5 hI_6 hF_7 => (bk_inl (q_aload_n c_79_22 rfl (v_gr (t := 1) c_79_23 kf_7_10 rfl (Nat.le_of_ble_eq_true rfl) rfl ?_)))))))))
    refine q_iload_n c_79_26 rfl (v_cv c_79_27 km_7_73 rfl rfl (Nat.le_of_ble_eq_true rfl) ⟨⟨rfl, rfl⟩, Nat.le_of_ble_eq_true rfl, rfl⟩ (Nat.le_of_ble_eq_true rfl) (Nat.le_of_ble_eq_true rfl) (s_73 (a1 := a2) hI_6 (show (-2147483648) ≤ a2 ∧ a2 ≤ 2147483647 from ha2) (fun c_8 hI_9 hF_10 => (bk_inl (q_aload_n c_79_30 rfl (v_gr (t := 1) c_79_31 kf_7_10 rfl (Nat.le_of_ble_eq_true rfl) rfl (q_iload_n c_79_34 rfl (v_cv c_79_35 km_7_73 rfl rfl (Nat.le_of_ble_eq_true rfl) ⟨⟨rfl, rfl⟩, Nat.le_of_ble_eq_true rfl, rfl⟩ (Nat.le_of_ble_eq_true rfl) (Nat.le_of_ble_eq_true rfl) (s_73 (a1 := a3) hI_9 (show (-2147483648) ≤ a3 ∧ a3 ≤ 2147483647 from ha3) (fun c_11 hI_12 hF_13 => (bk_inl ?_)))))))))))
    refine q_aload_n c_79_38 rfl (v_gr (t := 1) c_79_39 kf_7_10 rfl (Nat.le_of_ble_eq_true rfl) rfl (q_iload c_79_42 rfl (v_cv c_79_44 km_7_73 rfl rfl (Nat.le_of_ble_eq_true rfl) ⟨⟨rfl, rfl⟩, Nat.le_of_ble_eq_true rfl, rfl⟩ (Nat.le_of_ble_eq_true rfl) (Nat.le_of_ble_eq_true rfl) (s_73 (a1 := a4) hI_12 (show (-2147483648) ≤ a4 ∧ a4 ≤ 2147483647 from ha4) (fun c_14 hI_15 hF_16 => (bk_inl (q_aload_n c_79_47 rfl (v_gr (t := 1) c_79_48 kf_7_10 rfl (Nat.le_of_ble_eq_true rfl) rfl (q_iload c_79_51 rfl ?_)))))))))
    refine v_cv c_79_53 km_7_73 rfl rfl (Nat.le_of_ble_eq_true rfl) ⟨⟨rfl, rfl⟩, Nat.le_of_ble_eq_true rfl, rfl⟩ (Nat.le_of_ble_eq_true rfl) (Nat.le_of_ble_eq_true rfl) (s_73 (a1 := a5) hI_15 (show (-2147483648) ≤ a5 ∧ a5 ≤ 2147483647 from ha5) (fun c_17 hI_18 hF_19 => (bk_inl (q_aload_n c_79_56 rfl (v_gr (t := 1) c_79_57 kf_7_10 rfl (Nat.le_of_ble_eq_true rfl) rfl ?_)))))
    have h_20 := ir_1_3 hI_18
    refine v_gi (z := 3) (v := c_17 1 3) c_79_60 kf_7_77 rfl (Nat.le_of_ble_eq_true rfl) rfl rfl rfl (q_iret c_79_63 rfl ?_)
    exact K c_17 (c_17 1 3) hI_18 (fun a j hm => (hF_19 a j hm).trans ((hF_16 a j hm).trans ((hF_13 a j hm).trans ((hF_10 a j hm).trans (hF_7 a j hm))))) ⟨(lel h_20.1 rfl), h_20.2⟩
  · refine v_if_ne_f (t := 14) c_79_9 rfl (Decidable.not_not.mp h_4) (q_iconst c_79_12 (q_iret c_79_13 rfl ?_))
    exact K c (-1) hI (fun a j hm => rfl) ⟨of_decide_eq_true rfl, of_decide_eq_true rfl⟩
