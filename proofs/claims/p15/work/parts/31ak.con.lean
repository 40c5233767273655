/-! ===== contracts 6 ===== -/
set_option maxRecDepth 100000 in
set_option maxHeartbeats 4000000 in
theorem s_79 {sc : List Int32} {e : Int} {d u P Q : Nat} {c : ME} {a1 : Int} {a2 : Int} {a3 : Int} {a4 : Int} {a5 : Int} {Z : AR → Prop} (hI : Iv u e P Q c) (ha1 : (-2147483648) ≤ a1 ∧ a1 ≤ 2147483647) (ha2 : (-2147483648) ≤ a2 ∧ a2 ≤ 2147483647) (ha3 : (-2147483648) ≤ a3 ∧ a3 ≤ 2147483647) (ha4 : (-2147483648) ≤ a4 ∧ a4 ≤ 2147483647) (ha5 : (-2147483648) ≤ a5 ∧ a5 ≤ 2147483647) (K : ∀ (c2 : ME) (y : Int), Iv u e P Q c2 → (∀ (a : Nat) (j : Int), ¬ ((a = 1 ∧ j = 3) ∨ a = 2) → c2 a j = c a j) → (-1) ≤ y ∧ y ≤ 600 → Z (.inl (some (vi y)), Wd P Q P P c2, 0, 0)) : Wp sc (d + 9) 79 0 [(0, .ref 0), (1, vi a1), (2, vi a2), (3, vi a3), (4, vi a4), (5, vi a5)] [] (Wd P Q P P c) 0 0 Z := by
  have hP := iv_P hI
  have hQ := iv_Q hI
  refine q_aload_n rfl rfl ?_
  refine v_gr (t := 1) rfl rfl rfl (by decide) rfl ?_
  refine v_bip rfl (by decide) ?_
  have h_1 := ir_1_3 hI
  refine v_cv rfl rfl rfl rfl (by decide) ⟨⟨rfl, rfl⟩, by decide, rfl⟩ (Nat.le_of_ble_eq_true rfl) (Nat.le_of_ble_eq_true rfl) (s_72 (a1 := 20) hI (show 0 ≤ 20 ∧ 20 ≤ 20 from ⟨by decide, by decide⟩) (fun y_2 hy_2 h_3 => ?_))
  refine bk_inl ?_
  by_cases h_4 : y_2 ≠ 0
  · refine v_if_ne_t (t := 14) rfl (by decide) ⟨h_4, ⟨(Int.le_trans (by decide) hy_2.1), (Int.le_trans hy_2.2 (by decide))⟩, by decide, by decide⟩ ?_
    refine q_aload_n rfl rfl ?_
    refine v_gr (t := 1) rfl rfl rfl (by decide) rfl ?_
    refine q_iload_n rfl rfl ?_
    refine v_cv rfl rfl rfl rfl (by decide) ⟨⟨rfl, rfl⟩, by decide, rfl⟩ (Nat.le_of_ble_eq_true rfl) (Nat.le_of_ble_eq_true rfl) (s_73 (a1 := a1) hI (show (-2147483648) ≤ a1 ∧ a1 ≤ 2147483647 from ha1) (fun c_5 hI_6 hF_7 => ?_))
    refine bk_inl ?_
    refine q_aload_n rfl rfl ?_
    refine v_gr (t := 1) rfl rfl rfl (by decide) rfl ?_
    refine q_iload_n rfl rfl ?_
    refine v_cv rfl rfl rfl rfl (by decide) ⟨⟨rfl, rfl⟩, by decide, rfl⟩ (Nat.le_of_ble_eq_true rfl) (Nat.le_of_ble_eq_true rfl) (s_73 (a1 := a2) hI_6 (show (-2147483648) ≤ a2 ∧ a2 ≤ 2147483647 from ha2) (fun c_8 hI_9 hF_10 => ?_))
    refine bk_inl ?_
    refine q_aload_n rfl rfl ?_
    refine v_gr (t := 1) rfl rfl rfl (by decide) rfl ?_
    refine q_iload_n rfl rfl ?_
    refine v_cv rfl rfl rfl rfl (by decide) ⟨⟨rfl, rfl⟩, by decide, rfl⟩ (Nat.le_of_ble_eq_true rfl) (Nat.le_of_ble_eq_true rfl) (s_73 (a1 := a3) hI_9 (show (-2147483648) ≤ a3 ∧ a3 ≤ 2147483647 from ha3) (fun c_11 hI_12 hF_13 => ?_))
    refine bk_inl ?_
    refine q_aload_n rfl rfl ?_
    refine v_gr (t := 1) rfl rfl rfl (by decide) rfl ?_
    refine q_iload rfl rfl ?_
    refine v_cv rfl rfl rfl rfl (by decide) ⟨⟨rfl, rfl⟩, by decide, rfl⟩ (Nat.le_of_ble_eq_true rfl) (Nat.le_of_ble_eq_true rfl) (s_73 (a1 := a4) hI_12 (show (-2147483648) ≤ a4 ∧ a4 ≤ 2147483647 from ha4) (fun c_14 hI_15 hF_16 => ?_))
    refine bk_inl ?_
    refine q_aload_n rfl rfl ?_
    refine v_gr (t := 1) rfl rfl rfl (by decide) rfl ?_
    refine q_iload rfl rfl ?_
    refine v_cv rfl rfl rfl rfl (by decide) ⟨⟨rfl, rfl⟩, by decide, rfl⟩ (Nat.le_of_ble_eq_true rfl) (Nat.le_of_ble_eq_true rfl) (s_73 (a1 := a5) hI_15 (show (-2147483648) ≤ a5 ∧ a5 ≤ 2147483647 from ha5) (fun c_17 hI_18 hF_19 => ?_))
    refine bk_inl ?_
    refine q_aload_n rfl rfl ?_
    refine v_gr (t := 1) rfl rfl rfl (by decide) rfl ?_
    have h_20 := ir_1_3 hI_18
    refine v_gi (z := 3) (v := c_17 1 3) rfl rfl rfl (by decide) rfl rfl rfl ?_
    refine q_iret rfl rfl ?_
    exact K c_17 (c_17 1 3) hI_18 (fun a j hm => (hF_19 a j (fun q => q.elim (fun h => hm (Or.inl h)) (fun h => hm (Or.inr h)))).trans ((hF_16 a j (fun q => q.elim (fun h => hm (Or.inl h)) (fun h => hm (Or.inr h)))).trans ((hF_13 a j (fun q => q.elim (fun h => hm (Or.inl h)) (fun h => hm (Or.inr h)))).trans ((hF_10 a j (fun q => q.elim (fun h => hm (Or.inl h)) (fun h => hm (Or.inr h)))).trans (hF_7 a j (fun q => q.elim (fun h => hm (Or.inl h)) (fun h => hm (Or.inr h)))))))) ⟨(Int.le_trans (by decide) h_20.1), h_20.2⟩
  · refine v_if_ne_f (t := 14) rfl (by decide) (Decidable.not_not.mp h_4) ?_
    refine q_iconst rfl ?_
    refine q_iret rfl rfl ?_
    exact K c (-1) hI (fun a j hm => rfl) ⟨by decide, by decide⟩
