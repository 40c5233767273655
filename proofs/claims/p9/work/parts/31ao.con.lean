/-! ===== contracts 9 ===== -/
theorem q_c6ed8760d {x0 : Int} (f0 : 0 ≤ x0 ∧ x0 ≤ 9999) : 0 ≤ x0 := by omega
theorem q_ad61fcb20 {x0 : Int} (f0 : 0 ≤ x0 ∧ x0 ≤ 8) : (-2147483648) ≤ x0 := by omega
theorem q_68855c780 {x0 : Int} (f0 : 0 ≤ x0 ∧ x0 ≤ 8) : x0 ≤ 2147483647 := by omega
theorem q_ee9fc688f {x0 x1 : Int} (f0 : 0 ≤ x0 ∧ x0 ≤ 8) (f1 : ¬ (x1 ≥ x0)) : x1 < 8 := by omega
theorem q_d3303858b {x0 x1 : Int} (f0 : 0 ≤ x0 ∧ x0 ≤ 8) (f1 : ¬ (x1 ≥ x0)) : x1 + 1 ≤ 8 := by omega
theorem q_0023c4fc8 {x0 x1 x2 x3 : Int} (f0 : ¬ (x0 + x1 + x2 + x3 ≤ 0)) : (-2147483648) ≤ x0 + x1 + x2 + x3 := by omega
theorem q_71a18878d {x0 x1 : Int} (f0 : 0 ≤ x0 ∧ x0 ≤ 6) (f1 : ¬ (x1 ≥ x0)) : x1 < 6 := by omega
theorem q_8ed797edd {x0 x1 : Int} (f0 : ¬ (x0 > x1)) (f1 : 0 ≤ x1 ∧ x1 ≤ 63) : x0 + 1 ≤ 64 := by omega
theorem q_9f800265d {x0 x1 : Int} (f0 : 0 ≤ x0 ∧ x0 ≤ 9999) (f1 : 0 ≤ x1 ∧ x1 ≤ 10000) : (-2147483648) ≤ x1 - x0 := by omega
theorem q_547ca4f0e {x0 x1 : Int} (f0 : 0 ≤ x0 ∧ x0 ≤ 9999) (f1 : 0 ≤ x1 ∧ x1 ≤ 10000) : x1 - x0 ≤ 2147483647 := by omega
theorem q_7266516b7 {x0 : Int} (f0 : ¬ (x0 ≥ 32)) : x0 + 1 ≤ 32 := by omega
theorem q_40332f6ca {x0 x1 : Int} (f0 : 0 ≤ x0 ∧ x0 ≤ 4) (f1 : ¬ (x1 ≥ x0)) : x1 ≤ 3 := by omega
theorem q_0171b43c7 {x0 x1 : Int} (f0 : 0 ≤ x0 ∧ x0 ≤ 3) (f1 : (x1 ≤ 5)) : 4 * x1 + x0 < 24 := by omega
theorem q_06579a4a5 {x0 : Int} (f0 : (x0 ≤ 5)) : x0 ≤ 5 := by omega
set_option maxRecDepth 100000 in
set_option maxHeartbeats 4000000 in
theorem s_114_l {sc : List Int32} {e : Int} {d u P Q : Nat} {c : ME} {a1 : Int} {a2 : Int} {Z : AR → Prop} (hI : Iv u e P Q c) (ha1 : (-2147483648) ≤ a1 ∧ a1 ≤ 2147483647) (ha2 : (-2147483648) ≤ a2 ∧ a2 ≤ 2147483647) (T100 : ∀ c2 : ME, Iv u e P Q c2 → (∀ (a : Nat) (j : Int), ¬ ((a = 0 ∧ j = 12) ∨ (a = 0 ∧ j = 13) ∨ a = 12) → c2 a j = c a j) → Z (.inr 100, Wd P Q P P c2, 1, 6)) (T101 : ∀ c2 : ME, Iv u e P Q c2 → (∀ (a : Nat) (j : Int), ¬ ((a = 0 ∧ j = 12) ∨ (a = 0 ∧ j = 13) ∨ a = 12) → c2 a j = c a j) → Z (.inr 101, Wd P Q P P c2, 1, 6)) (K : ∀ (c2 : ME) (y : Int), Iv u e P Q c2 → (∀ (a : Nat) (j : Int), ¬ ((a = 0 ∧ j = 12) ∨ (a = 0 ∧ j = 13) ∨ a = 12) → c2 a j = c a j) → (-2147483648) ≤ y ∧ y ≤ 2147483647 → Z (.inl (some (vi y)), Wd P Q P P c2, 0, 0)) : ∀ n : Nat, (∀ (c2 : ME) (v3 : Int) (v4 : Int), Iv u e P Q c2 → (∀ (a : Nat) (j : Int), ¬ ((a = 0 ∧ j = 12) ∨ (a = 0 ∧ j = 13) ∨ a = 12) → c2 a j = c a j) → (-2147483648) ≤ v3 ∧ v3 ≤ 2147483647 → 0 ≤ v4 ∧ v4 ≤ 4 → ((a1 ≥ 0 ∧ a1 ≤ 5)) → 28 - 2 * v4 < (n : Int) → Wp sc (d + 10) 114 36 [(0, .ref 0), (1, vi a1), (2, vi a2), (3, vi v3), (4, vi v4)] [] (Wd P Q P P c2) 0 0 Z) ∧ (∀ (c2 : ME) (v3 : Int) (v4 : Int) (v5 : Int), Iv u e P Q c2 → (∀ (a : Nat) (j : Int), ¬ ((a = 0 ∧ j = 12) ∨ (a = 0 ∧ j = 13) ∨ a = 12) → c2 a j = c a j) → (-2147483648) ≤ v3 ∧ v3 ≤ 2147483647 → (-2147483648) ≤ v4 ∧ v4 ≤ 2147483647 → 0 ≤ v5 ∧ v5 ≤ 8 → ((a1 ≥ 0 ∧ a1 ≤ 5)) → 17 - 2 * v5 < (n : Int) → Wp sc (d + 10) 114 81 [(0, .ref 0), (1, vi a1), (2, vi a2), (3, vi v3), (4, vi v4), (5, vi v5)] [] (Wd P Q P P c2) 0 0 Z)
  | 0 => by exact ⟨by (intro c2 v3 v4 hI2 hF hv3 hv4 hx0 hm9; have hP := iv_P hI; have hQ := iv_Q hI; exfalso; omega), by (intro c2 v3 v4 v5 hI2 hF hv3 hv4 hv5 hx0 hm9; have hP := iv_P hI; have hQ := iv_Q hI; exfalso; omega)⟩
  | n + 1 => by
    have hP := iv_P hI
    have hQ := iv_Q hI
    have ih := s_114_l (sc := sc) (d := d) hI ha1 ha2 T100 T101 K n
    refine ⟨?_, ?_⟩
    · skip
      intro c2 v3 v4 hI2 hF hv3 hv4 hx0 hm9
      refine q_iload rfl rfl (q_iconst rfl ?_)
      by_cases h_1 : v4 ≥ 4
      · refine v_ic_ge_t (t := 75) rfl rfl ⟨by decide, h_1, (Int.le_trans hv4.2 (by decide))⟩ (q_iconst rfl (q_istore rfl (Nat.le_of_ble_eq_true rfl) (q_iconst rfl (q_istore rfl (Nat.le_of_ble_eq_true rfl) (Wp_ls [(0, .ref 0), (1, vi a1), (2, vi a2), (3, vi v3), (4, vi 0), (5, vi 0)] (lsub_cons rfl (lsub_cons rfl (lsub_cons rfl (lsub_cons rfl (lsub_cons rfl (lsub_cons rfl lsub_nil)))))) ?_)))))
        exact ih.2 c2 v3 0 0 hI2 (fun a j hm => hF a j (fun q => q.elim (fun h => hm (Or.inl h)) (fun q => q.elim (fun h => hm (Or.inr (Or.inl h))) (fun h => hm (Or.inr (Or.inr h)))))) hv3 ⟨by decide, by decide⟩ ⟨by decide, by decide⟩ ⟨by omega, by omega⟩ (by omega)
      · refine v_ic_ge_f (t := 75) rfl rfl ⟨(Int.le_trans (by decide) hv4.1), (Int.not_le.mp h_1), by decide⟩ (q_aload_n rfl rfl (v_gr (t := 12) rfl rfl rfl (Nat.le_of_ble_eq_true rfl) rfl (q_iload rfl rfl (q_aload_n rfl rfl (v_gr (t := 37) rfl rfl rfl (Nat.le_of_ble_eq_true rfl) rfl (q_iload_n rfl rfl (q_iload rfl rfl ?_)))))))
        have h_2 := ir_38_g hI (j := 4 * a1 + v4) (by omega)
        have kn_3 : Hid (c2 38 (4 * a1 + v4) = c 38 (4 * a1 + v4)) := hF 38 (4 * a1 + v4) (fun q => q.elim (fun h => absurd h.1 (nn rfl)) (fun q => q.elim (fun h => absurd h.1 (nn rfl)) (fun h => absurd h (nn rfl))))
        refine v_cv rfl rfl rfl rfl (Nat.le_of_ble_eq_true rfl) ⟨⟨rfl, rfl⟩, Nat.le_of_ble_eq_true rfl, rfl⟩ (Nat.le_of_ble_eq_true rfl) (Nat.le_of_ble_eq_true rfl) (s_45 (v1 := c 38 (4 * a1 + v4)) (r := c 38 (4 * a1 + v4)) (a1 := a1) (a2 := v4) hI2 (.inl ⟨rfl, rfl⟩) (show 0 ≤ a1 ∧ a1 ≤ 5 from ⟨by omega, by omega⟩) (show 0 ≤ v4 ∧ v4 ≤ 3 from ⟨hv4.1, by first | exact q_482ef8d41 h_1 | omega⟩) ((hid kn_3)) (by omega) (bk_inl (v_is rfl rfl (by decide) (by decide) ⟨hv4.1, by first | exact q_2e808647e h_1 | omega⟩ (q_iload_n rfl rfl (q_aload_n rfl rfl (v_gr (t := 12) rfl rfl rfl (Nat.le_of_ble_eq_true rfl) rfl (q_iload rfl rfl (v_ia (v := c 38 (4 * a1 + v4)) rfl rfl (by decide) (by decide) ⟨hv4.1, by first | exact q_2e808647e h_1 | omega⟩ (up_e rfl) ?_))))))))
        refine v_iadd (v := c 38 (4 * a1 + v4) + v3) rfl (by omega) (v_nrm (fun y_4 hy_4 => (q_istore_n rfl (Nat.le_of_ble_eq_true rfl) (v_iinc (v := v4 + 1) rfl rfl (Nat.le_of_ble_eq_true rfl) rfl (q_goto (t := 36) rfl rfl ?_)))))
        have hI_5 := iw_12 (j := v4) (v := c 38 (4 * a1 + v4)) hI2 ⟨by first | exact q_c6ed8760d h_2 | omega, by first | exact q_f52da7857 h_2 | omega⟩
        refine Wp_ls [(0, .ref 0), (1, vi a1), (2, vi a2), (3, vi y_4), (4, vi (v4 + 1))] (lsub_cons rfl (lsub_cons rfl (lsub_cons rfl (lsub_cons rfl (lsub_cons rfl lsub_nil))))) ?_
        exact ih.1 (up c2 12 v4 (c 38 (4 * a1 + v4))) y_4 (v4 + 1) hI_5 (fun a j hm => (up_b (Decidable.or_iff_not_imp_left.mpr (fun h1 h2 => hm (Or.inr (Or.inr (Decidable.not_not.mp h1)))))).trans (hF a j (fun q => q.elim (fun h => hm (Or.inl h)) (fun q => q.elim (fun h => hm (Or.inr (Or.inl h))) (fun h => hm (Or.inr (Or.inr h))))))) hy_4 ⟨by first | exact rgp_l hv4.1 (by decide) | omega, by first | exact q_121241f94 h_1 | omega⟩ ⟨by omega, by omega⟩ (by omega)
    · skip
      intro c2 v3 v4 v5 hI2 hF hv3 hv4 hv5 hx0 hm9
      refine q_iload rfl rfl (q_iload_n rfl rfl ?_)
      by_cases h_6 : v5 > a2
      · refine v_ic_gt_t (t := 128) rfl rfl ⟨ha2.1, h_6, (Int.le_trans hv5.2 (by decide))⟩ (q_iload_n rfl rfl (q_aload_n rfl rfl (v_gr (t := P) rfl rfl rfl (Nat.le_of_ble_eq_true rfl) rfl ?_)))
        have h_7 := ir_p0_4 hI hP
        have kn_8 : Hid (c2 P 4 = c P 4) := hF P 4 (fun q => q.elim (fun h => absurd h.1 (np0 hP rfl)) (fun q => q.elim (fun h => absurd h.1 (np0 hP rfl)) (fun h => absurd h (np0 hP rfl))))
        refine v_gi (z := 4) (v := c P 4) rfl rfl (ck_p0 hP) (a68z hP) rfl rfl (hid kn_8) ?_
        by_cases h_9 : a2 ≠ c P 4
        · refine v_ic_ne_t (t := 143) rfl rfl ⟨h_9, ⟨ha2.1, ha2.2⟩, by first | exact q_ad61fcb20 h_7 | omega, by first | exact q_68855c780 h_7 | omega⟩ (q_iload rfl rfl (q_iret rfl rfl ?_))
          exact K c2 v4 hI2 (fun a j hm => hF a j (fun q => q.elim (fun h => hm (Or.inl h)) (fun q => q.elim (fun h => hm (Or.inr (Or.inl h))) (fun h => hm (Or.inr (Or.inr h)))))) hv4
        · refine v_ic_ne_f (t := 143) rfl rfl (Decidable.not_not.mp h_9) (q_iload_n rfl rfl (q_goto (t := 145) rfl rfl (q_iret rfl rfl ?_)))
          exact K c2 v3 hI2 (fun a j hm => hF a j (fun q => q.elim (fun h => hm (Or.inl h)) (fun q => q.elim (fun h => hm (Or.inr (Or.inl h))) (fun h => hm (Or.inr (Or.inr h)))))) hv3
      · refine v_ic_gt_f (t := 128) rfl rfl ⟨(Int.le_trans (by decide) hv5.1), (Int.not_lt.mp h_6), ha2.2⟩ (q_iload rfl rfl (q_aload_n rfl rfl (v_gr (t := P) rfl rfl rfl (Nat.le_of_ble_eq_true rfl) rfl ?_)))
        have h_10 := ir_p0_4 hI hP
        have kn_11 : Hid (c2 P 4 = c P 4) := hF P 4 (fun q => q.elim (fun h => absurd h.1 (np0 hP rfl)) (fun q => q.elim (fun h => absurd h.1 (np0 hP rfl)) (fun h => absurd h (np0 hP rfl))))
        refine v_gi (z := 4) (v := c P 4) rfl rfl (ck_p0 hP) (a68z hP) rfl rfl (hid kn_11) ?_
        by_cases h_12 : v5 ≥ c P 4
        · refine v_ic_ge_t (t := 128) rfl rfl ⟨by first | exact q_ad61fcb20 h_10 | omega, h_12, (Int.le_trans hv5.2 (by decide))⟩ (q_iload_n rfl rfl (q_aload_n rfl rfl (v_gr (t := P) rfl rfl rfl (Nat.le_of_ble_eq_true rfl) rfl (v_gi (z := 4) (v := c P 4) rfl rfl (ck_p0 hP) (a68z hP) rfl rfl (hid kn_11) ?_))))
          by_cases h_13 : a2 ≠ c P 4
          · refine v_ic_ne_t (t := 143) rfl rfl ⟨h_13, ⟨ha2.1, ha2.2⟩, by first | exact q_ad61fcb20 h_10 | omega, by first | exact q_68855c780 h_10 | omega⟩ (q_iload rfl rfl (q_iret rfl rfl ?_))
            exact K c2 v4 hI2 (fun a j hm => hF a j (fun q => q.elim (fun h => hm (Or.inl h)) (fun q => q.elim (fun h => hm (Or.inr (Or.inl h))) (fun h => hm (Or.inr (Or.inr h)))))) hv4
          · refine v_ic_ne_f (t := 143) rfl rfl (Decidable.not_not.mp h_13) (q_iload_n rfl rfl (q_goto (t := 145) rfl rfl (q_iret rfl rfl ?_)))
            exact K c2 v3 hI2 (fun a j hm => hF a j (fun q => q.elim (fun h => hm (Or.inl h)) (fun q => q.elim (fun h => hm (Or.inr (Or.inl h))) (fun h => hm (Or.inr (Or.inr h)))))) hv3
        · refine v_ic_ge_f (t := 128) rfl rfl ⟨(Int.le_trans (by decide) hv5.1), (Int.not_le.mp h_12), by first | exact q_68855c780 h_10 | omega⟩ (q_iload_n rfl rfl (q_aload_n rfl rfl (q_aload_n rfl rfl (v_gr (t := P) rfl rfl rfl (Nat.le_of_ble_eq_true rfl) rfl (v_gr (t := (P + 4)) rfl rfl (ck_p0 hP) (a68z hP) rfl (q_iload rfl rfl ?_))))))
          have h_14 := ir_p4 hI hP v5
          have h_15 := ir_p4_x hI hP (j := v5) (by omega) (by omega)
          have kn_16 : Hid (c2 (P + 4) v5 = c (P + 4) v5) := hF (P + 4) v5 (fun q => q.elim (fun h => absurd h.1 (np hP rfl rfl)) (fun q => q.elim (fun h => absurd h.1 (np hP rfl rfl)) (fun h => absurd h (np hP rfl rfl))))
          refine v_ia (v := c (P + 4) v5) rfl (ck_p4 hP) (a68 hP rfl) (by decide) ⟨hv5.1, by first | exact q_ee9fc688f h_10 h_12 | omega⟩ (hid kn_16) (v_cv rfl rfl rfl rfl (Nat.le_of_ble_eq_true rfl) ⟨⟨rfl, rfl⟩, Nat.le_of_ble_eq_true rfl, rfl⟩ (Nat.le_of_ble_eq_true rfl) (Nat.le_of_ble_eq_true rfl) (s_113 (a1 := c (P + 4) v5) hI2 (show 0 ≤ c (P + 4) v5 ∧ c (P + 4) v5 ≤ 3 from ⟨by omega, by omega⟩) (fun c_17 y_20 hI_18 hF_19 hy_20 => (bk_inl (v_isub (v := v3 - y_20) rfl rfl (v_nrm (fun y_21 hy_21 => (q_istore rfl (Nat.le_of_ble_eq_true rfl) (q_iload_n rfl rfl (q_iload rfl rfl ?_))))))))))
          refine v_isub (v := v3 - y_21) rfl rfl (v_nrm (fun y_22 hy_22 => (q_istore_n rfl (Nat.le_of_ble_eq_true rfl) (v_iinc (v := v5 + 1) rfl rfl (Nat.le_of_ble_eq_true rfl) rfl (q_goto (t := 81) rfl rfl (Wp_ls [(0, .ref 0), (1, vi a1), (2, vi a2), (3, vi y_22), (4, vi y_21), (5, vi (v5 + 1))] (lsub_cons rfl (lsub_cons rfl (lsub_cons rfl (lsub_cons rfl (lsub_cons rfl (lsub_cons rfl lsub_nil)))))) ?_))))))
          exact ih.2 c_17 y_22 y_21 (v5 + 1) hI_18 (fun a j hm => (hF_19 a j (fun h => hm (Or.inr (Or.inr h)))).trans (hF a j (fun q => q.elim (fun h => hm (Or.inl h)) (fun q => q.elim (fun h => hm (Or.inr (Or.inl h))) (fun h => hm (Or.inr (Or.inr h))))))) hy_22 hy_21 ⟨by first | exact rgp_l hv5.1 (by decide) | omega, by first | exact q_d3303858b h_10 h_12 | omega⟩ ⟨by omega, by omega⟩ (by omega)
set_option maxRecDepth 100000 in
set_option maxHeartbeats 4000000 in
theorem s_114 {sc : List Int32} {e : Int} {d u P Q : Nat} {c : ME} {a1 : Int} {a2 : Int} {Z : AR → Prop} (hI : Iv u e P Q c) (ha1 : (-2147483648) ≤ a1 ∧ a1 ≤ 2147483647) (ha2 : (-2147483648) ≤ a2 ∧ a2 ≤ 2147483647) (T100 : ∀ c2 : ME, Iv u e P Q c2 → (∀ (a : Nat) (j : Int), ¬ ((a = 0 ∧ j = 12) ∨ (a = 0 ∧ j = 13) ∨ a = 12) → c2 a j = c a j) → Z (.inr 100, Wd P Q P P c2, 1, 6)) (T101 : ∀ c2 : ME, Iv u e P Q c2 → (∀ (a : Nat) (j : Int), ¬ ((a = 0 ∧ j = 12) ∨ (a = 0 ∧ j = 13) ∨ a = 12) → c2 a j = c a j) → Z (.inr 101, Wd P Q P P c2, 1, 6)) (K : ∀ (c2 : ME) (y : Int), Iv u e P Q c2 → (∀ (a : Nat) (j : Int), ¬ ((a = 0 ∧ j = 12) ∨ (a = 0 ∧ j = 13) ∨ a = 12) → c2 a j = c a j) → (-2147483648) ≤ y ∧ y ≤ 2147483647 → Z (.inl (some (vi y)), Wd P Q P P c2, 0, 0)) : Wp sc (d + 10) 114 0 [(0, .ref 0), (1, vi a1), (2, vi a2)] [] (Wd P Q P P c) 0 0 Z := by
  have hP := iv_P hI
  have hQ := iv_Q hI
  refine q_aload_n rfl rfl (q_iload_n rfl rfl (v_cv rfl rfl rfl rfl (Nat.le_of_ble_eq_true rfl) ⟨⟨rfl, rfl⟩, Nat.le_of_ble_eq_true rfl, rfl⟩ (Nat.le_of_ble_eq_true rfl) (Nat.le_of_ble_eq_true rfl) (q_aload_n rfl rfl (q_iload_n rfl rfl (q_iconst rfl (q_aload_n rfl rfl (v_gr (t := P) rfl rfl rfl (Nat.le_of_ble_eq_true rfl) rfl ?_)))))))
  have h_23 := ir_p0_0 hI hP
  refine v_gi (z := 0) (v := c P 0) rfl rfl (ck_p0 hP) (a68z hP) rfl rfl rfl (q_iconst rfl (v_isub (v := c P 0 - 1) rfl rfl (q_call rfl rfl rfl rfl (q_iload_n rfl rfl (q_iload_n rfl rfl ?_)))))
  by_cases h_24 : a1 < 0
  · refine v_ic_lt_t (t := 14) rfl rfl ⟨ha1.1, h_24, by decide⟩ (q_iconst rfl (v_zret rfl rfl (by decide) (bk_inl (v_cv rfl rfl rfl rfl (Nat.le_of_ble_eq_true rfl) ⟨⟨rfl, rfl⟩, Nat.le_of_ble_eq_true rfl, rfl⟩ (Nat.le_of_ble_eq_true rfl) (Nat.le_of_ble_eq_true rfl) (q_iload_n rfl rfl (v_if_ne_f (t := 25) rfl rfl (by decide) (q_aload_n rfl rfl ?_)))))))
    refine q_dup rfl rfl ?_
    have h_25 := ir_0_12 hI
    refine v_gi (z := 12) (v := c 0 12) rfl rfl rfl (Nat.le_of_ble_eq_true rfl) rfl rfl rfl (q_iconst rfl (v_iadd (v := c 0 12 + 1) rfl rfl (v_nrm (fun y_26 hy_26 => (v_pi (z := 12) rfl rfl rfl (Nat.le_of_ble_eq_true rfl) rfl rfl rfl (by decide) (v_new rfl rfl (by decide) (by omega) (Nat.le_of_ble_eq_true rfl) (by decide) rfl (bk_out rfl rfl (bk_out rfl rfl ?_))))))))
    have hI_27 := iw_0_12 (v := y_26) hI ⟨hy_26.1, hy_26.2⟩
    exact T100 _ hI_27 (fun a j hm => up_b (Decidable.or_iff_not_imp_left.mpr (fun h1 h2 => hm (Or.inl ⟨Decidable.not_not.mp h1, h2⟩))))
  · refine v_ic_lt_f (t := 14) rfl rfl ⟨by decide, (Int.not_lt.mp h_24), ha1.2⟩ (q_iload_n rfl rfl (q_iload_n rfl rfl ?_))
    by_cases h_28 : a1 > c P 0 - 1
    · refine v_ic_gt_t (t := 14) rfl rfl ⟨by first | exact rgm_l h_23.1 (by decide) | omega, h_28, ha1.2⟩ (q_iconst rfl (v_zret rfl rfl (by decide) (bk_inl (v_cv rfl rfl rfl rfl (Nat.le_of_ble_eq_true rfl) ⟨⟨rfl, rfl⟩, Nat.le_of_ble_eq_true rfl, rfl⟩ (Nat.le_of_ble_eq_true rfl) (Nat.le_of_ble_eq_true rfl) (q_iload_n rfl rfl (v_if_ne_f (t := 25) rfl rfl (by decide) (q_aload_n rfl rfl ?_)))))))
      refine q_dup rfl rfl ?_
      have h_29 := ir_0_12 hI
      refine v_gi (z := 12) (v := c 0 12) rfl rfl rfl (Nat.le_of_ble_eq_true rfl) rfl rfl rfl (q_iconst rfl (v_iadd (v := c 0 12 + 1) rfl rfl (v_nrm (fun y_30 hy_30 => (v_pi (z := 12) rfl rfl rfl (Nat.le_of_ble_eq_true rfl) rfl rfl rfl (by decide) (v_new rfl rfl (by decide) (by omega) (Nat.le_of_ble_eq_true rfl) (by decide) rfl (bk_out rfl rfl (bk_out rfl rfl ?_))))))))
      have hI_31 := iw_0_12 (v := y_30) hI ⟨hy_30.1, hy_30.2⟩
      exact T100 _ hI_31 (fun a j hm => up_b (Decidable.or_iff_not_imp_left.mpr (fun h1 h2 => hm (Or.inl ⟨Decidable.not_not.mp h1, h2⟩))))
    · refine v_ic_gt_f (t := 14) rfl rfl ⟨ha1.1, (Int.not_lt.mp h_28), by first | exact rgm_h h_23.2 (by decide) | omega⟩ (q_iconst rfl (q_goto (t := 15) rfl rfl (v_zret rfl rfl (by decide) (bk_inl (v_cv rfl rfl rfl rfl (Nat.le_of_ble_eq_true rfl) ⟨⟨rfl, rfl⟩, Nat.le_of_ble_eq_true rfl, rfl⟩ (Nat.le_of_ble_eq_true rfl) (Nat.le_of_ble_eq_true rfl) (q_iload_n rfl rfl (v_if_ne_t (t := 25) rfl rfl (by decide) ?_)))))))
      refine q_vret rfl rfl (bk_inl (q_vret rfl rfl (bk_inl (q_aload_n rfl rfl (q_iload_n rfl rfl ?_)))))
      by_cases h_32 : a2 < 0
      · refine v_if_lt_t (t := 14) rfl rfl ⟨ha2.1, h_32, by decide⟩ (q_iconst rfl (v_cv rfl rfl rfl rfl (Nat.le_of_ble_eq_true rfl) ⟨⟨rfl, rfl⟩, Nat.le_of_ble_eq_true rfl, rfl⟩ (Nat.le_of_ble_eq_true rfl) (Nat.le_of_ble_eq_true rfl) (q_iload_n rfl rfl (v_if_ne_f (t := 25) rfl rfl (by decide) (q_aload_n rfl rfl (q_dup rfl rfl ?_))))))
        have h_33 := ir_0_13 hI
        refine v_gi (z := 13) (v := c 0 13) rfl rfl rfl (Nat.le_of_ble_eq_true rfl) rfl rfl rfl (q_iconst rfl (v_iadd (v := c 0 13 + 1) rfl rfl (v_nrm (fun y_34 hy_34 => (v_pi (z := 13) rfl rfl rfl (Nat.le_of_ble_eq_true rfl) rfl rfl rfl (by decide) (v_new rfl rfl (by decide) (by omega) (Nat.le_of_ble_eq_true rfl) (by decide) rfl (bk_out rfl rfl ?_)))))))
        have hI_35 := iw_0_13 (v := y_34) hI ⟨hy_34.1, hy_34.2⟩
        exact T101 _ hI_35 (fun a j hm => up_b (Decidable.or_iff_not_imp_left.mpr (fun h1 h2 => hm (Or.inr (Or.inl ⟨Decidable.not_not.mp h1, h2⟩)))))
      · refine v_if_lt_f (t := 14) rfl rfl ⟨by decide, (Int.not_lt.mp h_32), ha2.2⟩ (q_iconst rfl (q_goto (t := 15) rfl rfl (v_cv rfl rfl rfl rfl (Nat.le_of_ble_eq_true rfl) ⟨⟨rfl, rfl⟩, Nat.le_of_ble_eq_true rfl, rfl⟩ (Nat.le_of_ble_eq_true rfl) (Nat.le_of_ble_eq_true rfl) (q_iload_n rfl rfl (v_if_ne_t (t := 25) rfl rfl (by decide) (q_vret rfl rfl (bk_inl ?_)))))))
        refine q_iload_n rfl rfl (q_aload_n rfl rfl (v_gr (t := P) rfl rfl rfl (Nat.le_of_ble_eq_true rfl) rfl ?_))
        have h_36 := ir_p0_4 hI hP
        refine v_gi (z := 4) (v := c P 4) rfl rfl (ck_p0 hP) (a68z hP) rfl rfl rfl ?_
        by_cases h_37 : a2 ≤ c P 4
        · refine v_ic_le_t (t := 31) rfl rfl ⟨ha2.1, h_37, (Int.le_trans h_36.2 (by decide))⟩ (q_iconst rfl (q_istore_n rfl (Nat.le_of_ble_eq_true rfl) (q_iconst rfl (q_istore rfl (Nat.le_of_ble_eq_true rfl) (Wp_ls [(0, .ref 0), (1, vi a1), (2, vi a2), (3, vi 0), (4, vi 0)] (lsub_cons rfl (lsub_cons rfl (lsub_cons rfl (lsub_cons rfl (lsub_cons rfl lsub_nil))))) ?_)))))
          exact (s_114_l (sc := sc) (d := d) hI ha1 ha2 T100 T101 K 31).1 c 0 0 hI (fun a j hm => rfl) ⟨by decide, by decide⟩ ⟨by decide, by decide⟩ ⟨by first | exact q_720657ba9 h_24 | omega, by first | exact q_3a2e67ab0 h_23 h_28 | omega⟩ (by omega)
        · refine v_ic_le_f (t := 31) rfl rfl ⟨(Int.le_trans (by decide) h_36.1), (Int.not_le.mp h_37), ha2.2⟩ (q_iconst rfl (q_iret rfl rfl ?_))
          exact K c (-1) hI (fun a j hm => rfl) ⟨by decide, by decide⟩

set_option maxRecDepth 100000 in
set_option maxHeartbeats 4000000 in
theorem s_115_l {sc : List Int32} {e : Int} {d u P Q : Nat} {c : ME} {a1 : Int} {Z : AR → Prop} (hI : Iv u e P Q c) (ha1 : (-2147483648) ≤ a1 ∧ a1 ≤ 2147483647) (T100 : ∀ c2 : ME, Iv u e P Q c2 → (∀ (a : Nat) (j : Int), ¬ ((a = 0 ∧ j = 12)) → c2 a j = c a j) → Z (.inr 100, Wd P Q P P c2, 1, 6)) (K : ∀ (c2 : ME) (y : Int), Iv u e P Q c2 → (∀ (a : Nat) (j : Int), ¬ ((a = 0 ∧ j = 12)) → c2 a j = c a j) → (-2147483648) ≤ y ∧ y ≤ 2147483647 → Z (.inl (some (vi y)), Wd P Q P P c2, 0, 0)) : ∀ n : Nat, (∀ (c2 : ME) (v2 : Int) (v3 : Int), Iv u e P Q c2 → (∀ (a : Nat) (j : Int), ¬ ((a = 0 ∧ j = 12)) → c2 a j = c a j) → (-2147483648) ≤ v2 ∧ v2 ≤ 2147483647 → 0 ≤ v3 ∧ v3 ≤ 6 → ((a1 ≥ 0 ∧ a1 ≤ 3)) → 13 - 2 * v3 < (n : Int) → Wp sc (d + 11) 115 9 [(0, .ref 0), (1, vi a1), (2, vi v2), (3, vi v3)] [] (Wd P Q P P c2) 0 0 Z)
  | 0 => by intro c2 v2 v3 hI2 hF hv2 hv3 hx0 hm9; have hP := iv_P hI; have hQ := iv_Q hI; exfalso; omega
  | n + 1 => by
    have hP := iv_P hI
    have hQ := iv_Q hI
    have ih := s_115_l (sc := sc) (d := d) hI ha1 T100 K n
    intro c2 v2 v3 hI2 hF hv2 hv3 hx0 hm9
    refine q_iload_n rfl rfl (q_aload_n rfl rfl (v_gr (t := P) rfl rfl rfl (Nat.le_of_ble_eq_true rfl) rfl ?_))
    have h_1 := ir_p0_0 hI hP
    have kn_2 : Hid (c2 P 0 = c P 0) := hF P 0 (fun h => absurd h.1 (np0 hP rfl))
    refine v_gi (z := 0) (v := c P 0) rfl rfl (ck_p0 hP) (a68z hP) rfl rfl (hid kn_2) ?_
    by_cases h_3 : v3 ≥ c P 0
    · refine v_ic_ge_t (t := 61) rfl rfl ⟨by first | exact q_730ab5169 h_1 | omega, h_3, (Int.le_trans hv3.2 (by decide))⟩ (q_iload_n rfl rfl (q_iret rfl rfl ?_))
      exact K c2 v2 hI2 (fun a j hm => hF a j (fun h => hm h)) hv2
    · refine v_ic_ge_f (t := 61) rfl rfl ⟨(Int.le_trans (by decide) hv3.1), (Int.not_le.mp h_3), by first | exact q_b289b7db2 h_1 | omega⟩ (q_aload_n rfl rfl (v_gr (t := 37) rfl rfl rfl (Nat.le_of_ble_eq_true rfl) rfl (q_iload_n rfl rfl ?_)))
      have h_4 := ir_38_g hI (j := 4 * v3) (by first | exact q_aa51b186e h_1 h_3 | omega)
      have kn_5 : Hid (c2 38 (4 * v3) = c 38 (4 * v3)) := hF 38 (4 * v3) (fun h => absurd h.1 (nn rfl))
      have h_6 := ir_38_g hI (j := 4 * v3 + 1) (by first | exact q_57851f9de h_1 h_3 | omega)
      have kn_7 : Hid (c2 38 (4 * v3 + 1) = c 38 (4 * v3 + 1)) := hF 38 (4 * v3 + 1) (fun h => absurd h.1 (nn rfl))
      have h_8 := ir_38_g hI (j := 4 * v3 + 2) (by first | exact q_7296e74e6 h_1 h_3 | omega)
      have kn_9 : Hid (c2 38 (4 * v3 + 2) = c 38 (4 * v3 + 2)) := hF 38 (4 * v3 + 2) (fun h => absurd h.1 (nn rfl))
      have h_10 := ir_38_g hI (j := 4 * v3 + 3) (by first | exact q_b15525c4c h_1 h_3 | omega)
      have kn_11 : Hid (c2 38 (4 * v3 + 3) = c 38 (4 * v3 + 3)) := hF 38 (4 * v3 + 3) (fun h => absurd h.1 (nn rfl))
      refine v_cv rfl rfl rfl rfl (Nat.le_of_ble_eq_true rfl) ⟨⟨rfl, rfl⟩, Nat.le_of_ble_eq_true rfl, rfl⟩ (Nat.le_of_ble_eq_true rfl) (Nat.le_of_ble_eq_true rfl) (s_43 (v1 := c 38 (4 * v3)) (v2 := c 38 (4 * v3 + 1)) (v3 := c 38 (4 * v3 + 2)) (v4 := c 38 (4 * v3 + 3)) (r := c 38 (4 * v3 + 1) + c 38 (4 * v3 + 2) + c 38 (4 * v3 + 3) + c 38 (4 * v3)) (a1 := v3) hI2 (.inl ⟨rfl, rfl⟩) (show 0 ≤ v3 ∧ v3 ≤ 5 from ⟨hv3.1, by first | exact q_d63a8538e h_1 h_3 | omega⟩) ((hid kn_5)) ((hid kn_7)) ((hid kn_9)) ((hid kn_11)) (by omega) (bk_inl (q_istore rfl (Nat.le_of_ble_eq_true rfl) (q_iload rfl rfl ?_))))
      by_cases h_12 : c 38 (4 * v3 + 1) + c 38 (4 * v3 + 2) + c 38 (4 * v3 + 3) + c 38 (4 * v3) ≤ 0
      · refine v_if_le_t (t := 55) rfl rfl ⟨by first | exact q_94559468f h_10 h_4 h_6 h_8 | omega, h_12, by decide⟩ (v_iinc (v := v3 + 1) rfl rfl (Nat.le_of_ble_eq_true rfl) rfl (q_goto (t := 9) rfl rfl (Wp_ls [(0, .ref 0), (1, vi a1), (2, vi v2), (3, vi (v3 + 1))] (lsub_cons rfl (lsub_cons rfl (lsub_cons rfl (lsub_cons rfl lsub_nil)))) ?_)))
        exact ih c2 v2 (v3 + 1) hI2 (fun a j hm => hF a j (fun h => hm h)) hv2 ⟨by first | exact rgp_l hv3.1 (by decide) | omega, by first | exact q_4a76cd9c7 h_1 h_3 | omega⟩ ⟨by omega, by omega⟩ (by omega)
      · refine v_if_le_f (t := 55) rfl rfl ⟨by decide, (Int.not_le.mp h_12), by first | exact q_f81653045 h_10 h_4 h_6 h_8 | omega⟩ (q_aload_n rfl rfl (v_gr (t := 37) rfl rfl rfl (Nat.le_of_ble_eq_true rfl) rfl (q_iload_n rfl rfl (q_iload_n rfl rfl ?_))))
        have h_13 := ir_p3 hI hP a1
        have kn_14 : Hid (c2 (P + 3) a1 = c (P + 3) a1) := hF (P + 3) a1 (fun h => absurd h.1 (np hP rfl rfl))
        have h_15 := ir_38 hI 30
        have kn_16 : Hid (c2 38 30 = c 38 30) := hF 38 30 (fun h => absurd h.1 (nn rfl))
        have h_17 := fal_rng (m := c (P + 3) a1) (t := tb (c 38 30) a1) (g := 0) (x := c 38 (4 * v3)) (by omega)
        have h_18 := fal_rng (m := c (P + 3) a1) (t := tb (c 38 30) a1) (g := 1) (x := c 38 (4 * v3 + 1)) (by omega)
        have h_19 := fal_rng (m := c (P + 3) a1) (t := tb (c 38 30) a1) (g := 2) (x := c 38 (4 * v3 + 2)) (by omega)
        have h_20 := fal_rng (m := c (P + 3) a1) (t := tb (c 38 30) a1) (g := 3) (x := c 38 (4 * v3 + 3)) (by omega)
        refine v_cv rfl rfl rfl rfl (Nat.le_of_ble_eq_true rfl) ⟨⟨rfl, rfl⟩, Nat.le_of_ble_eq_true rfl, rfl⟩ (Nat.le_of_ble_eq_true rfl) (Nat.le_of_ble_eq_true rfl) (s_49 (v1 := c (P + 3) a1) (v2 := c 38 30) (v3 := c 38 (4 * v3)) (v4 := c 38 (4 * v3 + 1)) (v5 := c 38 (4 * v3 + 2)) (v6 := c 38 (4 * v3 + 3)) (r := (fal (c (P + 3) a1) (tb (c 38 30) a1) 0 (c 38 (4 * v3))) + (fal (c (P + 3) a1) (tb (c 38 30) a1) 1 (c 38 (4 * v3 + 1))) + (fal (c (P + 3) a1) (tb (c 38 30) a1) 2 (c 38 (4 * v3 + 2))) + (fal (c (P + 3) a1) (tb (c 38 30) a1) 3 (c 38 (4 * v3 + 3)))) (a1 := a1) (a2 := v3) hI2 (.inl ⟨rfl, rfl⟩) (show 0 ≤ a1 ∧ a1 ≤ 3 from ⟨by omega, by omega⟩) (show 0 ≤ v3 ∧ v3 ≤ 5 from ⟨hv3.1, by first | exact q_d63a8538e h_1 h_3 | omega⟩) ((hid kn_14)) ((hid kn_16)) ((hid kn_5)) ((hid kn_7)) ((hid kn_9)) ((hid kn_11)) rfl (bk_inl (q_iload rfl rfl ?_)))
        by_cases h_21 : (fal (c (P + 3) a1) (tb (c 38 30) a1) 0 (c 38 (4 * v3))) + (fal (c (P + 3) a1) (tb (c 38 30) a1) 1 (c 38 (4 * v3 + 1))) + (fal (c (P + 3) a1) (tb (c 38 30) a1) 2 (c 38 (4 * v3 + 2))) + (fal (c (P + 3) a1) (tb (c 38 30) a1) 3 (c 38 (4 * v3 + 3))) ≠ c 38 (4 * v3 + 1) + c 38 (4 * v3 + 2) + c 38 (4 * v3 + 3) + c 38 (4 * v3)
        · refine v_ic_ne_t (t := 55) rfl rfl ⟨h_21, ⟨by first | (clear ha1 hv2 hv3 hx0 h_1 h_3 h_4 h_6 h_8 h_10 h_12 h_13 h_15; omega) | omega, by omega⟩, by first | exact q_0023c4fc8 h_12 | (clear ha1 hv2 hv3 hx0 h_1 h_3 h_4 h_6 h_8 h_10 h_13 h_15 h_17 h_18 h_19 h_20; omega) | omega, by first | exact q_f81653045 h_10 h_4 h_6 h_8 | (clear ha1 hv2 hv3 hx0 h_1 h_3 h_12 h_13 h_15 h_17 h_18 h_19 h_20; omega) | omega⟩ (v_iinc (v := v3 + 1) rfl rfl (Nat.le_of_ble_eq_true rfl) rfl (q_goto (t := 9) rfl rfl (Wp_ls [(0, .ref 0), (1, vi a1), (2, vi v2), (3, vi (v3 + 1))] (lsub_cons rfl (lsub_cons rfl (lsub_cons rfl (lsub_cons rfl lsub_nil)))) ?_)))
          exact ih c2 v2 (v3 + 1) hI2 (fun a j hm => hF a j (fun h => hm h)) hv2 ⟨by first | exact rgp_l hv3.1 (by decide) | omega, by first | exact q_4a76cd9c7 h_1 h_3 | (clear ha1 hv2 hv3 hx0 h_4 h_6 h_8 h_10 h_12 h_13 h_15 h_17 h_18 h_19 h_20 h_21; omega) | omega⟩ ⟨by first | (clear ha1 hv2 hv3 h_1 h_3 h_4 h_6 h_8 h_10 h_12 h_13 h_15 h_17 h_18 h_19 h_20 h_21; omega) | omega, by first | (clear ha1 hv2 hv3 h_1 h_3 h_4 h_6 h_8 h_10 h_12 h_13 h_15 h_17 h_18 h_19 h_20 h_21; omega) | omega⟩ (by omega)
        · refine v_ic_ne_f (t := 55) rfl rfl (Decidable.not_not.mp h_21) (q_iload_n rfl rfl (q_iconst rfl (q_iload_n rfl rfl (v_shl1 rfl ⟨by omega, by omega⟩ (fun y_22 hy_22 => (v_iorx rfl (fun y_23 hy_23 => (q_istore_n rfl (Nat.le_of_ble_eq_true rfl) (v_iinc (v := v3 + 1) rfl rfl (Nat.le_of_ble_eq_true rfl) rfl ?_)))))))))
          refine q_goto (t := 9) rfl rfl (Wp_ls [(0, .ref 0), (1, vi a1), (2, vi y_23), (3, vi (v3 + 1))] (lsub_cons rfl (lsub_cons rfl (lsub_cons rfl (lsub_cons rfl lsub_nil)))) ?_)
          exact ih c2 y_23 (v3 + 1) hI2 (fun a j hm => hF a j (fun h => hm h)) hy_23 ⟨by first | exact rgp_l hv3.1 (by decide) | omega, by first | exact q_4a76cd9c7 h_1 h_3 | (clear ha1 hv2 hv3 hx0 h_4 h_6 h_8 h_10 h_12 h_13 h_15 h_17 h_18 h_19 h_20 h_21; omega) | omega⟩ ⟨by first | (clear ha1 hv2 hv3 h_1 h_3 h_4 h_6 h_8 h_10 h_12 h_13 h_15 h_17 h_18 h_19 h_20 h_21; omega) | omega, by first | (clear ha1 hv2 hv3 h_1 h_3 h_4 h_6 h_8 h_10 h_12 h_13 h_15 h_17 h_18 h_19 h_20 h_21; omega) | omega⟩ (by omega)
set_option maxRecDepth 100000 in
set_option maxHeartbeats 4000000 in
theorem s_115 {sc : List Int32} {e : Int} {d u P Q : Nat} {c : ME} {a1 : Int} {Z : AR → Prop} (hI : Iv u e P Q c) (ha1 : (-2147483648) ≤ a1 ∧ a1 ≤ 2147483647) (T100 : ∀ c2 : ME, Iv u e P Q c2 → (∀ (a : Nat) (j : Int), ¬ ((a = 0 ∧ j = 12)) → c2 a j = c a j) → Z (.inr 100, Wd P Q P P c2, 1, 6)) (K : ∀ (c2 : ME) (y : Int), Iv u e P Q c2 → (∀ (a : Nat) (j : Int), ¬ ((a = 0 ∧ j = 12)) → c2 a j = c a j) → (-2147483648) ≤ y ∧ y ≤ 2147483647 → Z (.inl (some (vi y)), Wd P Q P P c2, 0, 0)) : Wp sc (d + 11) 115 0 [(0, .ref 0), (1, vi a1)] [] (Wd P Q P P c) 0 0 Z := by
  have hP := iv_P hI
  have hQ := iv_Q hI
  refine q_aload_n rfl rfl (q_iload_n rfl rfl (v_cv rfl rfl rfl rfl (Nat.le_of_ble_eq_true rfl) ⟨⟨rfl, rfl⟩, Nat.le_of_ble_eq_true rfl, rfl⟩ (Nat.le_of_ble_eq_true rfl) (Nat.le_of_ble_eq_true rfl) (q_aload_n rfl rfl (q_iload_n rfl rfl (q_iconst rfl (q_aload_n rfl rfl (v_gr (t := P) rfl rfl rfl (Nat.le_of_ble_eq_true rfl) rfl ?_)))))))
  have h_24 := ir_p0_2 hI hP
  refine v_gi (z := 2) (v := c P 2) rfl rfl (ck_p0 hP) (a68z hP) rfl rfl rfl (q_iconst rfl (v_isub (v := c P 2 - 1) rfl rfl (q_call rfl rfl rfl rfl (q_iload_n rfl rfl (q_iload_n rfl rfl ?_)))))
  by_cases h_25 : a1 < 0
  · refine v_ic_lt_t (t := 14) rfl rfl ⟨ha1.1, h_25, by decide⟩ (q_iconst rfl (v_zret rfl rfl (by decide) (bk_inl (v_cv rfl rfl rfl rfl (Nat.le_of_ble_eq_true rfl) ⟨⟨rfl, rfl⟩, Nat.le_of_ble_eq_true rfl, rfl⟩ (Nat.le_of_ble_eq_true rfl) (Nat.le_of_ble_eq_true rfl) (q_iload_n rfl rfl (v_if_ne_f (t := 25) rfl rfl (by decide) (q_aload_n rfl rfl ?_)))))))
    refine q_dup rfl rfl ?_
    have h_26 := ir_0_12 hI
    refine v_gi (z := 12) (v := c 0 12) rfl rfl rfl (Nat.le_of_ble_eq_true rfl) rfl rfl rfl (q_iconst rfl (v_iadd (v := c 0 12 + 1) rfl rfl (v_nrm (fun y_27 hy_27 => (v_pi (z := 12) rfl rfl rfl (Nat.le_of_ble_eq_true rfl) rfl rfl rfl (by decide) (v_new rfl rfl (by decide) (by omega) (Nat.le_of_ble_eq_true rfl) (by decide) rfl (bk_out rfl rfl (bk_out rfl rfl ?_))))))))
    have hI_28 := iw_0_12 (v := y_27) hI ⟨hy_27.1, hy_27.2⟩
    exact T100 _ hI_28 (fun a j hm => up_b (Decidable.or_iff_not_imp_left.mpr (fun h1 h2 => hm ⟨Decidable.not_not.mp h1, h2⟩)))
  · refine v_ic_lt_f (t := 14) rfl rfl ⟨by decide, (Int.not_lt.mp h_25), ha1.2⟩ (q_iload_n rfl rfl (q_iload_n rfl rfl ?_))
    by_cases h_29 : a1 > c P 2 - 1
    · refine v_ic_gt_t (t := 14) rfl rfl ⟨by first | exact rgm_l h_24.1 (by decide) | omega, h_29, ha1.2⟩ (q_iconst rfl (v_zret rfl rfl (by decide) (bk_inl (v_cv rfl rfl rfl rfl (Nat.le_of_ble_eq_true rfl) ⟨⟨rfl, rfl⟩, Nat.le_of_ble_eq_true rfl, rfl⟩ (Nat.le_of_ble_eq_true rfl) (Nat.le_of_ble_eq_true rfl) (q_iload_n rfl rfl (v_if_ne_f (t := 25) rfl rfl (by decide) (q_aload_n rfl rfl ?_)))))))
      refine q_dup rfl rfl ?_
      have h_30 := ir_0_12 hI
      refine v_gi (z := 12) (v := c 0 12) rfl rfl rfl (Nat.le_of_ble_eq_true rfl) rfl rfl rfl (q_iconst rfl (v_iadd (v := c 0 12 + 1) rfl rfl (v_nrm (fun y_31 hy_31 => (v_pi (z := 12) rfl rfl rfl (Nat.le_of_ble_eq_true rfl) rfl rfl rfl (by decide) (v_new rfl rfl (by decide) (by omega) (Nat.le_of_ble_eq_true rfl) (by decide) rfl (bk_out rfl rfl (bk_out rfl rfl ?_))))))))
      have hI_32 := iw_0_12 (v := y_31) hI ⟨hy_31.1, hy_31.2⟩
      exact T100 _ hI_32 (fun a j hm => up_b (Decidable.or_iff_not_imp_left.mpr (fun h1 h2 => hm ⟨Decidable.not_not.mp h1, h2⟩)))
    · refine v_ic_gt_f (t := 14) rfl rfl ⟨ha1.1, (Int.not_lt.mp h_29), by first | exact rgm_h h_24.2 (by decide) | omega⟩ (q_iconst rfl (q_goto (t := 15) rfl rfl (v_zret rfl rfl (by decide) (bk_inl (v_cv rfl rfl rfl rfl (Nat.le_of_ble_eq_true rfl) ⟨⟨rfl, rfl⟩, Nat.le_of_ble_eq_true rfl, rfl⟩ (Nat.le_of_ble_eq_true rfl) (Nat.le_of_ble_eq_true rfl) (q_iload_n rfl rfl (v_if_ne_t (t := 25) rfl rfl (by decide) ?_)))))))
      refine q_vret rfl rfl (bk_inl (q_vret rfl rfl (bk_inl (q_iconst rfl (q_istore_n rfl (Nat.le_of_ble_eq_true rfl) (q_iconst rfl (q_istore_n rfl (Nat.le_of_ble_eq_true rfl) ?_)))))))
      refine Wp_ls [(0, .ref 0), (1, vi a1), (2, vi 0), (3, vi 0)] (lsub_cons rfl (lsub_cons rfl (lsub_cons rfl (lsub_cons rfl lsub_nil)))) ?_
      exact (s_115_l (sc := sc) (d := d) hI ha1 T100 K 16) c 0 0 hI (fun a j hm => rfl) ⟨by decide, by decide⟩ ⟨by decide, by decide⟩ ⟨by first | exact q_720657ba9 h_25 | omega, by first | exact q_1b5e4f74b h_24 h_29 | omega⟩ (by omega)

set_option maxRecDepth 100000 in
set_option maxHeartbeats 4000000 in
theorem s_116_l {sc : List Int32} {e : Int} {d u P Q : Nat} {c : ME} {a1 : Int} {a2 : Int} {Z : AR → Prop} (hI : Iv u e P Q c) (ha1 : (-2147483648) ≤ a1 ∧ a1 ≤ 2147483647) (ha2 : (-2147483648) ≤ a2 ∧ a2 ≤ 2147483647) (T100 : ∀ c2 : ME, Iv u e P Q c2 → (∀ (a : Nat) (j : Int), ¬ ((a = 0 ∧ j = 12) ∨ (a = 0 ∧ j = 13)) → c2 a j = c a j) → Z (.inr 100, Wd P Q P P c2, 1, 6)) (T101 : ∀ c2 : ME, Iv u e P Q c2 → (∀ (a : Nat) (j : Int), ¬ ((a = 0 ∧ j = 12) ∨ (a = 0 ∧ j = 13)) → c2 a j = c a j) → Z (.inr 101, Wd P Q P P c2, 1, 6)) (K : ∀ (c2 : ME) (y : Int), Iv u e P Q c2 → (∀ (a : Nat) (j : Int), ¬ ((a = 0 ∧ j = 12) ∨ (a = 0 ∧ j = 13)) → c2 a j = c a j) → (-2147483648) ≤ y ∧ y ≤ 2147483647 → Z (.inl (some (vi y)), Wd P Q P P c2, 0, 0)) : ∀ n : Nat, (∀ (c2 : ME) (v3 : Int) (v4 : Int), Iv u e P Q c2 → (∀ (a : Nat) (j : Int), ¬ ((a = 0 ∧ j = 12) ∨ (a = 0 ∧ j = 13)) → c2 a j = c a j) → (-2147483648) ≤ v3 ∧ v3 ≤ 2147483647 → 0 ≤ v4 ∧ v4 ≤ 6 → ((a1 ≥ 0 ∧ a1 ≤ 3)) → 13 - 2 * v4 < (n : Int) → Wp sc (d + 11) 116 20 [(0, .ref 0), (1, vi a1), (2, vi a2), (3, vi v3), (4, vi v4)] [] (Wd P Q P P c2) 0 0 Z)
  | 0 => by intro c2 v3 v4 hI2 hF hv3 hv4 hx0 hm9; have hP := iv_P hI; have hQ := iv_Q hI; exfalso; omega
  | n + 1 => by
    have hP := iv_P hI
    have hQ := iv_Q hI
    have ih := s_116_l (sc := sc) (d := d) hI ha1 ha2 T100 T101 K n
    intro c2 v3 v4 hI2 hF hv3 hv4 hx0 hm9
    refine q_iload rfl rfl (q_aload_n rfl rfl (v_gr (t := P) rfl rfl rfl (Nat.le_of_ble_eq_true rfl) rfl ?_))
    have h_1 := ir_p0_0 hI hP
    have kn_2 : Hid (c2 P 0 = c P 0) := hF P 0 (fun q => q.elim (fun h => absurd h.1 (np0 hP rfl)) (fun h => absurd h.1 (np0 hP rfl)))
    refine v_gi (z := 0) (v := c P 0) rfl rfl (ck_p0 hP) (a68z hP) rfl rfl (hid kn_2) ?_
    by_cases h_3 : v4 ≥ c P 0
    · refine v_ic_ge_t (t := 51) rfl rfl ⟨by first | exact q_730ab5169 h_1 | omega, h_3, (Int.le_trans hv4.2 (by decide))⟩ (q_iload_n rfl rfl ?_)
      by_cases h_4 : a2 ≠ 0
      · refine v_if_ne_t (t := 59) rfl rfl ⟨h_4, ⟨ha2.1, ha2.2⟩, by decide, by decide⟩ (q_aload_n rfl rfl (v_gr (t := 37) rfl rfl rfl (Nat.le_of_ble_eq_true rfl) rfl (v_cv rfl rfl rfl rfl (Nat.le_of_ble_eq_true rfl) ⟨⟨rfl, rfl⟩, Nat.le_of_ble_eq_true rfl, rfl⟩ (Nat.le_of_ble_eq_true rfl) (Nat.le_of_ble_eq_true rfl) (s_69 hI2 (.inl ⟨rfl, rfl⟩) (fun y_5 hy_5 => (bk_inl (q_iload_n rfl rfl (v_isub (v := y_5 - v3) rfl rfl (v_nrm (fun y_6 hy_6 => ?_))))))))))
        refine q_iret rfl rfl ?_
        exact K c2 y_6 hI2 (fun a j hm => hF a j (fun q => q.elim (fun h => hm (Or.inl h)) (fun h => hm (Or.inr h)))) hy_6
      · refine v_if_ne_f (t := 59) rfl rfl (Decidable.not_not.mp h_4) (q_iload_n rfl rfl (q_goto (t := 68) rfl rfl (q_iret rfl rfl ?_)))
        exact K c2 v3 hI2 (fun a j hm => hF a j (fun q => q.elim (fun h => hm (Or.inl h)) (fun h => hm (Or.inr h)))) hv3
    · refine v_ic_ge_f (t := 51) rfl rfl ⟨(Int.le_trans (by decide) hv4.1), (Int.not_le.mp h_3), by first | exact q_b289b7db2 h_1 | omega⟩ (q_iload_n rfl rfl (q_aload_n rfl rfl (v_gr (t := 37) rfl rfl rfl (Nat.le_of_ble_eq_true rfl) rfl (q_iload_n rfl rfl (q_iload rfl rfl ?_)))))
      have h_7 := ir_p3 hI hP a1
      have kn_8 : Hid (c2 (P + 3) a1 = c (P + 3) a1) := hF (P + 3) a1 (fun q => q.elim (fun h => absurd h.1 (np hP rfl rfl)) (fun h => absurd h.1 (np hP rfl rfl)))
      have h_9 := ir_38 hI 30
      have kn_10 : Hid (c2 38 30 = c 38 30) := hF 38 30 (fun q => q.elim (fun h => absurd h.1 (nn rfl)) (fun h => absurd h.1 (nn rfl)))
      have h_11 := ir_38_g hI (j := 4 * v4) (by first | exact q_aa51b186e h_1 h_3 | omega)
      have kn_12 : Hid (c2 38 (4 * v4) = c 38 (4 * v4)) := hF 38 (4 * v4) (fun q => q.elim (fun h => absurd h.1 (nn rfl)) (fun h => absurd h.1 (nn rfl)))
      have h_13 := ir_38_g hI (j := 4 * v4 + 1) (by first | exact q_57851f9de h_1 h_3 | omega)
      have kn_14 : Hid (c2 38 (4 * v4 + 1) = c 38 (4 * v4 + 1)) := hF 38 (4 * v4 + 1) (fun q => q.elim (fun h => absurd h.1 (nn rfl)) (fun h => absurd h.1 (nn rfl)))
      have h_15 := ir_38_g hI (j := 4 * v4 + 2) (by first | exact q_7296e74e6 h_1 h_3 | omega)
      have kn_16 : Hid (c2 38 (4 * v4 + 2) = c 38 (4 * v4 + 2)) := hF 38 (4 * v4 + 2) (fun q => q.elim (fun h => absurd h.1 (nn rfl)) (fun h => absurd h.1 (nn rfl)))
      have h_17 := ir_38_g hI (j := 4 * v4 + 3) (by first | exact q_b15525c4c h_1 h_3 | omega)
      have kn_18 : Hid (c2 38 (4 * v4 + 3) = c 38 (4 * v4 + 3)) := hF 38 (4 * v4 + 3) (fun q => q.elim (fun h => absurd h.1 (nn rfl)) (fun h => absurd h.1 (nn rfl)))
      have h_19 := fal_rng (m := c (P + 3) a1) (t := tb (c 38 30) a1) (g := 0) (x := c 38 (4 * v4)) (by omega)
      have h_20 := fal_rng (m := c (P + 3) a1) (t := tb (c 38 30) a1) (g := 1) (x := c 38 (4 * v4 + 1)) (by omega)
      have h_21 := fal_rng (m := c (P + 3) a1) (t := tb (c 38 30) a1) (g := 2) (x := c 38 (4 * v4 + 2)) (by omega)
      have h_22 := fal_rng (m := c (P + 3) a1) (t := tb (c 38 30) a1) (g := 3) (x := c 38 (4 * v4 + 3)) (by omega)
      refine v_cv rfl rfl rfl rfl (Nat.le_of_ble_eq_true rfl) ⟨⟨rfl, rfl⟩, Nat.le_of_ble_eq_true rfl, rfl⟩ (Nat.le_of_ble_eq_true rfl) (Nat.le_of_ble_eq_true rfl) (s_49 (v1 := c (P + 3) a1) (v2 := c 38 30) (v3 := c 38 (4 * v4)) (v4 := c 38 (4 * v4 + 1)) (v5 := c 38 (4 * v4 + 2)) (v6 := c 38 (4 * v4 + 3)) (r := (fal (c (P + 3) a1) (tb (c 38 30) a1) 0 (c 38 (4 * v4))) + (fal (c (P + 3) a1) (tb (c 38 30) a1) 1 (c 38 (4 * v4 + 1))) + (fal (c (P + 3) a1) (tb (c 38 30) a1) 2 (c 38 (4 * v4 + 2))) + (fal (c (P + 3) a1) (tb (c 38 30) a1) 3 (c 38 (4 * v4 + 3)))) (a1 := a1) (a2 := v4) hI2 (.inl ⟨rfl, rfl⟩) (show 0 ≤ a1 ∧ a1 ≤ 3 from ⟨by omega, by omega⟩) (show 0 ≤ v4 ∧ v4 ≤ 5 from ⟨hv4.1, by first | exact q_d63a8538e h_1 h_3 | omega⟩) ((hid kn_8)) ((hid kn_10)) ((hid kn_12)) ((hid kn_14)) ((hid kn_16)) ((hid kn_18)) rfl (bk_inl (v_iadd (v := (fal (c (P + 3) a1) (tb (c 38 30) a1) 0 (c 38 (4 * v4))) + (fal (c (P + 3) a1) (tb (c 38 30) a1) 1 (c 38 (4 * v4 + 1))) + (fal (c (P + 3) a1) (tb (c 38 30) a1) 2 (c 38 (4 * v4 + 2))) + (fal (c (P + 3) a1) (tb (c 38 30) a1) 3 (c 38 (4 * v4 + 3))) + v3) rfl (by first | (clear ha1 ha2 hv3 hv4 hx0 h_1 h_3 h_7 h_9 h_11 h_13 h_15 h_17 h_19 h_20 h_21 h_22; omega) | omega) (v_nrm (fun y_23 hy_23 => (q_istore_n rfl (Nat.le_of_ble_eq_true rfl) (v_iinc (v := v4 + 1) rfl rfl (Nat.le_of_ble_eq_true rfl) rfl (q_goto (t := 20) rfl rfl (Wp_ls [(0, .ref 0), (1, vi a1), (2, vi a2), (3, vi y_23), (4, vi (v4 + 1))] (lsub_cons rfl (lsub_cons rfl (lsub_cons rfl (lsub_cons rfl (lsub_cons rfl lsub_nil))))) ?_)))))))))
      exact ih c2 y_23 (v4 + 1) hI2 (fun a j hm => hF a j (fun q => q.elim (fun h => hm (Or.inl h)) (fun h => hm (Or.inr h)))) hy_23 ⟨by first | exact rgp_l hv4.1 (by decide) | omega, by first | exact q_4a76cd9c7 h_1 h_3 | (clear ha1 ha2 hv3 hv4 hx0 h_7 h_9 h_11 h_13 h_15 h_17 h_19 h_20 h_21 h_22; omega) | omega⟩ ⟨by first | (clear ha1 ha2 hv3 hv4 h_1 h_3 h_7 h_9 h_11 h_13 h_15 h_17 h_19 h_20 h_21 h_22; omega) | omega, by first | (clear ha1 ha2 hv3 hv4 h_1 h_3 h_7 h_9 h_11 h_13 h_15 h_17 h_19 h_20 h_21 h_22; omega) | omega⟩ (by omega)
set_option maxRecDepth 100000 in
set_option maxHeartbeats 4000000 in
theorem s_116 {sc : List Int32} {e : Int} {d u P Q : Nat} {c : ME} {a1 : Int} {a2 : Int} {Z : AR → Prop} (hI : Iv u e P Q c) (ha1 : (-2147483648) ≤ a1 ∧ a1 ≤ 2147483647) (ha2 : (-2147483648) ≤ a2 ∧ a2 ≤ 2147483647) (T100 : ∀ c2 : ME, Iv u e P Q c2 → (∀ (a : Nat) (j : Int), ¬ ((a = 0 ∧ j = 12) ∨ (a = 0 ∧ j = 13)) → c2 a j = c a j) → Z (.inr 100, Wd P Q P P c2, 1, 6)) (T101 : ∀ c2 : ME, Iv u e P Q c2 → (∀ (a : Nat) (j : Int), ¬ ((a = 0 ∧ j = 12) ∨ (a = 0 ∧ j = 13)) → c2 a j = c a j) → Z (.inr 101, Wd P Q P P c2, 1, 6)) (K : ∀ (c2 : ME) (y : Int), Iv u e P Q c2 → (∀ (a : Nat) (j : Int), ¬ ((a = 0 ∧ j = 12) ∨ (a = 0 ∧ j = 13)) → c2 a j = c a j) → (-2147483648) ≤ y ∧ y ≤ 2147483647 → Z (.inl (some (vi y)), Wd P Q P P c2, 0, 0)) : Wp sc (d + 11) 116 0 [(0, .ref 0), (1, vi a1), (2, vi a2)] [] (Wd P Q P P c) 0 0 Z := by
  have hP := iv_P hI
  have hQ := iv_Q hI
  refine q_aload_n rfl rfl (q_iload_n rfl rfl (v_cv rfl rfl rfl rfl (Nat.le_of_ble_eq_true rfl) ⟨⟨rfl, rfl⟩, Nat.le_of_ble_eq_true rfl, rfl⟩ (Nat.le_of_ble_eq_true rfl) (Nat.le_of_ble_eq_true rfl) (q_aload_n rfl rfl (q_iload_n rfl rfl (q_iconst rfl (q_aload_n rfl rfl (v_gr (t := P) rfl rfl rfl (Nat.le_of_ble_eq_true rfl) rfl ?_)))))))
  have h_24 := ir_p0_2 hI hP
  refine v_gi (z := 2) (v := c P 2) rfl rfl (ck_p0 hP) (a68z hP) rfl rfl rfl (q_iconst rfl (v_isub (v := c P 2 - 1) rfl rfl (q_call rfl rfl rfl rfl (q_iload_n rfl rfl (q_iload_n rfl rfl ?_)))))
  by_cases h_25 : a1 < 0
  · refine v_ic_lt_t (t := 14) rfl rfl ⟨ha1.1, h_25, by decide⟩ (q_iconst rfl (v_zret rfl rfl (by decide) (bk_inl (v_cv rfl rfl rfl rfl (Nat.le_of_ble_eq_true rfl) ⟨⟨rfl, rfl⟩, Nat.le_of_ble_eq_true rfl, rfl⟩ (Nat.le_of_ble_eq_true rfl) (Nat.le_of_ble_eq_true rfl) (q_iload_n rfl rfl (v_if_ne_f (t := 25) rfl rfl (by decide) (q_aload_n rfl rfl ?_)))))))
    refine q_dup rfl rfl ?_
    have h_26 := ir_0_12 hI
    refine v_gi (z := 12) (v := c 0 12) rfl rfl rfl (Nat.le_of_ble_eq_true rfl) rfl rfl rfl (q_iconst rfl (v_iadd (v := c 0 12 + 1) rfl rfl (v_nrm (fun y_27 hy_27 => (v_pi (z := 12) rfl rfl rfl (Nat.le_of_ble_eq_true rfl) rfl rfl rfl (by decide) (v_new rfl rfl (by decide) (by omega) (Nat.le_of_ble_eq_true rfl) (by decide) rfl (bk_out rfl rfl (bk_out rfl rfl ?_))))))))
    have hI_28 := iw_0_12 (v := y_27) hI ⟨hy_27.1, hy_27.2⟩
    exact T100 _ hI_28 (fun a j hm => up_b (Decidable.or_iff_not_imp_left.mpr (fun h1 h2 => hm (Or.inl ⟨Decidable.not_not.mp h1, h2⟩))))
  · refine v_ic_lt_f (t := 14) rfl rfl ⟨by decide, (Int.not_lt.mp h_25), ha1.2⟩ (q_iload_n rfl rfl (q_iload_n rfl rfl ?_))
    by_cases h_29 : a1 > c P 2 - 1
    · refine v_ic_gt_t (t := 14) rfl rfl ⟨by first | exact rgm_l h_24.1 (by decide) | omega, h_29, ha1.2⟩ (q_iconst rfl (v_zret rfl rfl (by decide) (bk_inl (v_cv rfl rfl rfl rfl (Nat.le_of_ble_eq_true rfl) ⟨⟨rfl, rfl⟩, Nat.le_of_ble_eq_true rfl, rfl⟩ (Nat.le_of_ble_eq_true rfl) (Nat.le_of_ble_eq_true rfl) (q_iload_n rfl rfl (v_if_ne_f (t := 25) rfl rfl (by decide) (q_aload_n rfl rfl ?_)))))))
      refine q_dup rfl rfl ?_
      have h_30 := ir_0_12 hI
      refine v_gi (z := 12) (v := c 0 12) rfl rfl rfl (Nat.le_of_ble_eq_true rfl) rfl rfl rfl (q_iconst rfl (v_iadd (v := c 0 12 + 1) rfl rfl (v_nrm (fun y_31 hy_31 => (v_pi (z := 12) rfl rfl rfl (Nat.le_of_ble_eq_true rfl) rfl rfl rfl (by decide) (v_new rfl rfl (by decide) (by omega) (Nat.le_of_ble_eq_true rfl) (by decide) rfl (bk_out rfl rfl (bk_out rfl rfl ?_))))))))
      have hI_32 := iw_0_12 (v := y_31) hI ⟨hy_31.1, hy_31.2⟩
      exact T100 _ hI_32 (fun a j hm => up_b (Decidable.or_iff_not_imp_left.mpr (fun h1 h2 => hm (Or.inl ⟨Decidable.not_not.mp h1, h2⟩))))
    · refine v_ic_gt_f (t := 14) rfl rfl ⟨ha1.1, (Int.not_lt.mp h_29), by first | exact rgm_h h_24.2 (by decide) | omega⟩ (q_iconst rfl (q_goto (t := 15) rfl rfl (v_zret rfl rfl (by decide) (bk_inl (v_cv rfl rfl rfl rfl (Nat.le_of_ble_eq_true rfl) ⟨⟨rfl, rfl⟩, Nat.le_of_ble_eq_true rfl, rfl⟩ (Nat.le_of_ble_eq_true rfl) (Nat.le_of_ble_eq_true rfl) (q_iload_n rfl rfl (v_if_ne_t (t := 25) rfl rfl (by decide) ?_)))))))
      refine q_vret rfl rfl (bk_inl (q_vret rfl rfl (bk_inl (q_aload_n rfl rfl (q_iload_n rfl rfl (q_iconst rfl (q_iconst rfl ?_)))))))
      refine q_call rfl rfl rfl rfl (q_iload_n rfl rfl (q_iload_n rfl rfl ?_))
      by_cases h_33 : a2 < 0
      · refine v_ic_lt_t (t := 14) rfl rfl ⟨ha2.1, h_33, by decide⟩ (q_iconst rfl (v_zret rfl rfl (by decide) (bk_inl (v_cv rfl rfl rfl rfl (Nat.le_of_ble_eq_true rfl) ⟨⟨rfl, rfl⟩, Nat.le_of_ble_eq_true rfl, rfl⟩ (Nat.le_of_ble_eq_true rfl) (Nat.le_of_ble_eq_true rfl) (q_iload_n rfl rfl (v_if_ne_f (t := 25) rfl rfl (by decide) (q_aload_n rfl rfl ?_)))))))
        refine q_dup rfl rfl ?_
        have h_34 := ir_0_13 hI
        refine v_gi (z := 13) (v := c 0 13) rfl rfl rfl (Nat.le_of_ble_eq_true rfl) rfl rfl rfl (q_iconst rfl (v_iadd (v := c 0 13 + 1) rfl rfl (v_nrm (fun y_35 hy_35 => (v_pi (z := 13) rfl rfl rfl (Nat.le_of_ble_eq_true rfl) rfl rfl rfl (by decide) (v_new rfl rfl (by decide) (by omega) (Nat.le_of_ble_eq_true rfl) (by decide) rfl (bk_out rfl rfl ?_)))))))
        have hI_36 := iw_0_13 (v := y_35) hI ⟨hy_35.1, hy_35.2⟩
        exact T101 _ hI_36 (fun a j hm => up_b (Decidable.or_iff_not_imp_left.mpr (fun h1 h2 => hm (Or.inr ⟨Decidable.not_not.mp h1, h2⟩))))
      · refine v_ic_lt_f (t := 14) rfl rfl ⟨by decide, (Int.not_lt.mp h_33), ha2.2⟩ (q_iload_n rfl rfl (q_iload_n rfl rfl ?_))
        by_cases h_37 : a2 > 1
        · refine v_ic_gt_t (t := 14) rfl rfl ⟨by decide, h_37, ha2.2⟩ (q_iconst rfl (v_zret rfl rfl (by decide) (bk_inl (v_cv rfl rfl rfl rfl (Nat.le_of_ble_eq_true rfl) ⟨⟨rfl, rfl⟩, Nat.le_of_ble_eq_true rfl, rfl⟩ (Nat.le_of_ble_eq_true rfl) (Nat.le_of_ble_eq_true rfl) (q_iload_n rfl rfl (v_if_ne_f (t := 25) rfl rfl (by decide) (q_aload_n rfl rfl ?_)))))))
          refine q_dup rfl rfl ?_
          have h_38 := ir_0_13 hI
          refine v_gi (z := 13) (v := c 0 13) rfl rfl rfl (Nat.le_of_ble_eq_true rfl) rfl rfl rfl (q_iconst rfl (v_iadd (v := c 0 13 + 1) rfl rfl (v_nrm (fun y_39 hy_39 => (v_pi (z := 13) rfl rfl rfl (Nat.le_of_ble_eq_true rfl) rfl rfl rfl (by decide) (v_new rfl rfl (by decide) (by omega) (Nat.le_of_ble_eq_true rfl) (by decide) rfl (bk_out rfl rfl ?_)))))))
          have hI_40 := iw_0_13 (v := y_39) hI ⟨hy_39.1, hy_39.2⟩
          exact T101 _ hI_40 (fun a j hm => up_b (Decidable.or_iff_not_imp_left.mpr (fun h1 h2 => hm (Or.inr ⟨Decidable.not_not.mp h1, h2⟩))))
        · refine v_ic_gt_f (t := 14) rfl rfl ⟨ha2.1, (Int.not_lt.mp h_37), by decide⟩ (q_iconst rfl (q_goto (t := 15) rfl rfl (v_zret rfl rfl (by decide) (bk_inl (v_cv rfl rfl rfl rfl (Nat.le_of_ble_eq_true rfl) ⟨⟨rfl, rfl⟩, Nat.le_of_ble_eq_true rfl, rfl⟩ (Nat.le_of_ble_eq_true rfl) (Nat.le_of_ble_eq_true rfl) (q_iload_n rfl rfl (v_if_ne_t (t := 25) rfl rfl (by decide) ?_)))))))
          refine q_vret rfl rfl (bk_inl (q_iconst rfl (q_istore_n rfl (Nat.le_of_ble_eq_true rfl) (q_iconst rfl (q_istore rfl (Nat.le_of_ble_eq_true rfl) (Wp_ls [(0, .ref 0), (1, vi a1), (2, vi a2), (3, vi 0), (4, vi 0)] (lsub_cons rfl (lsub_cons rfl (lsub_cons rfl (lsub_cons rfl (lsub_cons rfl lsub_nil))))) ?_))))))
          exact (s_116_l (sc := sc) (d := d) hI ha1 ha2 T100 T101 K 16) c 0 0 hI (fun a j hm => rfl) ⟨by decide, by decide⟩ ⟨by decide, by decide⟩ ⟨by first | exact q_720657ba9 h_25 | omega, by first | exact q_1b5e4f74b h_24 h_29 | omega⟩ (by omega)

set_option maxRecDepth 100000 in
set_option maxHeartbeats 4000000 in
theorem s_117 {sc : List Int32} {e : Int} {d u P Q : Nat} {c : ME} {a1 : Int} {Z : AR → Prop} (hI : Iv u e P Q c) (ha1 : (-2147483648) ≤ a1 ∧ a1 ≤ 2147483647) (K : ∀ (y : Int), 0 ≤ y ∧ y ≤ 1 → ((y = 0) ∨ (a1 ≥ 0 ∧ a1 ≤ 63)) → Z (.inl (some (vi y)), Wd P Q P P c, 0, 0)) : Wp sc (d + 8) 117 0 [(0, .ref 0), (1, vi a1)] [] (Wd P Q P P c) 0 0 Z := by
  have hP := iv_P hI
  have hQ := iv_Q hI
  refine q_iload_n rfl rfl (q_iconst rfl (q_iconst rfl (q_aload_n rfl rfl (v_gr (t := P) rfl rfl rfl (Nat.le_of_ble_eq_true rfl) rfl ?_))))
  have h_1 := ir_p0_0 hI hP
  refine v_gi (z := 0) (v := c P 0) rfl rfl (ck_p0 hP) (a68z hP) rfl rfl rfl (v_shl1 rfl ⟨by omega, by omega⟩ (fun y_2 hy_2 => (q_iconst rfl (v_isub (v := y_2 - 1) rfl rfl (q_call rfl rfl rfl rfl (q_iload_n rfl rfl (q_iload_n rfl rfl ?_)))))))
  by_cases h_3 : a1 < 0
  · refine v_ic_lt_t (t := 14) rfl rfl ⟨ha1.1, h_3, by decide⟩ (q_iconst rfl (v_zret rfl rfl (by decide) (bk_inl (v_zret rfl rfl (by decide) ?_))))
    exact K 0 ⟨by decide, by decide⟩ (Or.inl (by first | decide | omega))
  · refine v_ic_lt_f (t := 14) rfl rfl ⟨by decide, (Int.not_lt.mp h_3), ha1.2⟩ (q_iload_n rfl rfl (q_iload_n rfl rfl ?_))
    by_cases h_4 : a1 > y_2 - 1
    · refine v_ic_gt_t (t := 14) rfl rfl ⟨by first | exact rgm_l hy_2.1 (by decide) | omega, h_4, ha1.2⟩ (q_iconst rfl (v_zret rfl rfl (by decide) (bk_inl (v_zret rfl rfl (by decide) ?_))))
      exact K 0 ⟨by decide, by decide⟩ (Or.inl (by first | decide | omega))
    · refine v_ic_gt_f (t := 14) rfl rfl ⟨ha1.1, (Int.not_lt.mp h_4), by first | exact rgm_h hy_2.2 (by decide) | omega⟩ (q_iconst rfl (q_goto (t := 15) rfl rfl (v_zret rfl rfl (by decide) (bk_inl (v_zret rfl rfl (by decide) ?_)))))
      exact K 1 ⟨by decide, by decide⟩ (Or.inr ⟨by first | exact q_720657ba9 h_3 | omega, by omega⟩)

set_option maxRecDepth 100000 in
set_option maxHeartbeats 4000000 in
theorem s_118_l {sc : List Int32} {e : Int} {d u P Q : Nat} {c : ME} {a1 : Int} {Z : AR → Prop} (hI : Iv u e P Q c) (ha1 : (-2147483648) ≤ a1 ∧ a1 ≤ 2147483647) (K : ∀ (y : Int), (-2147483648) ≤ y ∧ y ≤ 2147483647 → Z (.inl (some (vi y)), Wd P Q P P c, 0, 0)) : ∀ n : Nat, (∀ (v2 : Int) (v3 : Int), (-2147483648) ≤ v2 ∧ v2 ≤ 2147483647 → 0 ≤ v3 ∧ v3 ≤ 6 → 13 - 2 * v3 < (n : Int) → Wp sc (d + 8) 118 4 [(0, .ref 0), (1, vi a1), (2, vi v2), (3, vi v3)] [] (Wd P Q P P c) 0 0 Z)
  | 0 => by intro v2 v3 hv2 hv3 hm9; have hP := iv_P hI; have hQ := iv_Q hI; exfalso; omega
  | n + 1 => by
    have hP := iv_P hI
    have hQ := iv_Q hI
    have ih := s_118_l (sc := sc) (d := d) hI ha1 K n
    intro v2 v3 hv2 hv3 hm9
    refine q_iload_n rfl rfl (q_aload_n rfl rfl (v_gr (t := P) rfl rfl rfl (Nat.le_of_ble_eq_true rfl) rfl ?_))
    have h_1 := ir_p0_0 hI hP
    refine v_gi (z := 0) (v := c P 0) rfl rfl (ck_p0 hP) (a68z hP) rfl rfl rfl ?_
    by_cases h_2 : v3 ≥ c P 0
    · refine v_ic_ge_t (t := 41) rfl rfl ⟨(Int.le_trans (by decide) h_1.1), h_2, (Int.le_trans hv3.2 (by decide))⟩ (q_iload_n rfl rfl (q_iret rfl rfl ?_))
      exact K v2 hv2
    · refine v_ic_ge_f (t := 41) rfl rfl ⟨(Int.le_trans (by decide) hv3.1), (Int.not_le.mp h_2), (Int.le_trans h_1.2 (by decide))⟩ (q_iload_n rfl rfl (q_iload_n rfl rfl (v_ishrx rfl (fun y_3 hy_3 => (q_iconst rfl (v_iandx rfl (fun y_4 hy_4 => (q_iconst rfl ?_))))))))
      by_cases h_5 : y_4 ≠ 1
      · refine v_ic_ne_t (t := 35) rfl rfl ⟨h_5, ⟨hy_4.1, hy_4.2⟩, by decide, by decide⟩ (v_iinc (v := v3 + 1) rfl rfl (Nat.le_of_ble_eq_true rfl) rfl (q_goto (t := 4) rfl rfl (Wp_ls [(0, .ref 0), (1, vi a1), (2, vi v2), (3, vi (v3 + 1))] (lsub_cons rfl (lsub_cons rfl (lsub_cons rfl (lsub_cons rfl lsub_nil)))) ?_)))
        exact ih v2 (v3 + 1) hv2 ⟨by first | exact rgp_l hv3.1 (by decide) | omega, by first | exact q_4a76cd9c7 h_1 h_2 | (clear ha1 hv2 hv3 h_5; omega) | omega⟩ (by omega)
      · refine v_ic_ne_f (t := 35) rfl rfl (Decidable.not_not.mp h_5) (q_iload_n rfl rfl (q_aload_n rfl rfl (v_gr (t := 37) rfl rfl rfl (Nat.le_of_ble_eq_true rfl) rfl (q_iload_n rfl rfl ?_))))
        have h_6 := ir_38_g hI (j := 4 * v3) (by first | exact q_aa51b186e h_1 h_2 | omega)
        have h_7 := ir_38_g hI (j := 4 * v3 + 1) (by first | exact q_57851f9de h_1 h_2 | omega)
        have h_8 := ir_38_g hI (j := 4 * v3 + 2) (by first | exact q_7296e74e6 h_1 h_2 | omega)
        have h_9 := ir_38_g hI (j := 4 * v3 + 3) (by first | exact q_b15525c4c h_1 h_2 | omega)
        refine v_cv rfl rfl rfl rfl (Nat.le_of_ble_eq_true rfl) ⟨⟨rfl, rfl⟩, Nat.le_of_ble_eq_true rfl, rfl⟩ (Nat.le_of_ble_eq_true rfl) (Nat.le_of_ble_eq_true rfl) (s_43 (v1 := c 38 (4 * v3)) (v2 := c 38 (4 * v3 + 1)) (v3 := c 38 (4 * v3 + 2)) (v4 := c 38 (4 * v3 + 3)) (r := c 38 (4 * v3 + 1) + c 38 (4 * v3 + 2) + c 38 (4 * v3 + 3) + c 38 (4 * v3)) (a1 := v3) hI (.inl ⟨rfl, rfl⟩) (show 0 ≤ v3 ∧ v3 ≤ 5 from ⟨hv3.1, by first | exact q_d63a8538e h_1 h_2 | omega⟩) (rfl) (rfl) (rfl) (rfl) (by omega) (bk_inl (v_iadd (v := c 38 (4 * v3 + 1) + c 38 (4 * v3 + 2) + c 38 (4 * v3 + 3) + c 38 (4 * v3) + v2) rfl (by omega) (v_nrm (fun y_10 hy_10 => (q_istore_n rfl (Nat.le_of_ble_eq_true rfl) (v_iinc (v := v3 + 1) rfl rfl (Nat.le_of_ble_eq_true rfl) rfl (q_goto (t := 4) rfl rfl (Wp_ls [(0, .ref 0), (1, vi a1), (2, vi y_10), (3, vi (v3 + 1))] (lsub_cons rfl (lsub_cons rfl (lsub_cons rfl (lsub_cons rfl lsub_nil)))) ?_)))))))))
        exact ih y_10 (v3 + 1) hy_10 ⟨by first | exact rgp_l hv3.1 (by decide) | omega, by first | exact q_4a76cd9c7 h_1 h_2 | omega⟩ (by omega)
set_option maxRecDepth 100000 in
set_option maxHeartbeats 4000000 in
theorem s_118 {sc : List Int32} {e : Int} {d u P Q : Nat} {c : ME} {a1 : Int} {Z : AR → Prop} (hI : Iv u e P Q c) (ha1 : (-2147483648) ≤ a1 ∧ a1 ≤ 2147483647) (K : ∀ (y : Int), (-2147483648) ≤ y ∧ y ≤ 2147483647 → Z (.inl (some (vi y)), Wd P Q P P c, 0, 0)) : Wp sc (d + 8) 118 0 [(0, .ref 0), (1, vi a1)] [] (Wd P Q P P c) 0 0 Z := by
  have hP := iv_P hI
  have hQ := iv_Q hI
  refine q_iconst rfl (q_istore_n rfl (Nat.le_of_ble_eq_true rfl) (q_iconst rfl (q_istore_n rfl (Nat.le_of_ble_eq_true rfl) (Wp_ls [(0, .ref 0), (1, vi a1), (2, vi 0), (3, vi 0)] (lsub_cons rfl (lsub_cons rfl (lsub_cons rfl (lsub_cons rfl lsub_nil)))) ?_))))
  exact (s_118_l (sc := sc) (d := d) hI ha1 K 16) 0 0 ⟨by decide, by decide⟩ ⟨by decide, by decide⟩ (by omega)

set_option maxRecDepth 100000 in
set_option maxHeartbeats 4000000 in
theorem s_119_l {sc : List Int32} {e : Int} {d u P Q : Nat} {c : ME} {a1 : Int} {a2 : Int} {Z : AR → Prop} (hI : Iv u e P Q c) (ha1 : (-2147483648) ≤ a1 ∧ a1 ≤ 2147483647) (ha2 : (-2147483648) ≤ a2 ∧ a2 ≤ 2147483647) (T101 : ∀ c2 : ME, Iv u e P Q c2 → (∀ (a : Nat) (j : Int), ¬ ((a = 0 ∧ j = 13)) → c2 a j = c a j) → Z (.inr 101, Wd P Q P P c2, 1, 6)) (K : ∀ (c2 : ME) (y : Int), Iv u e P Q c2 → (∀ (a : Nat) (j : Int), ¬ ((a = 0 ∧ j = 13)) → c2 a j = c a j) → (-2147483648) ≤ y ∧ y ≤ 2147483647 → Z (.inl (some (vi y)), Wd P Q P P c2, 0, 0)) : ∀ n : Nat, (∀ (c2 : ME) (v3 : Int) (v4 : Int) (v5 : Int) (v6 : Int) (v7 : Int), Iv u e P Q c2 → (∀ (a : Nat) (j : Int), ¬ ((a = 0 ∧ j = 13)) → c2 a j = c a j) → (-2147483648) ≤ v3 ∧ v3 ≤ 2147483647 → (-2147483648) ≤ v4 ∧ v4 ≤ 2147483647 → (-2147483648) ≤ v5 ∧ v5 ≤ 2147483647 → (-2147483648) ≤ v6 ∧ v6 ≤ 2147483647 → 0 ≤ v7 ∧ v7 ≤ 64 → ((a1 ≥ 0 ∧ a1 ≤ 63)) → 129 - 2 * v7 < (n : Int) → Wp sc (d + 9) 119 48 [(0, .ref 0), (1, vi a1), (2, vi a2), (3, vi v3), (4, vi v4), (5, vi v5), (6, vi v6), (7, vi v7)] [] (Wd P Q P P c2) 0 0 Z)
  | 0 => by intro c2 v3 v4 v5 v6 v7 hI2 hF hv3 hv4 hv5 hv6 hv7 hx0 hm9; have hP := iv_P hI; have hQ := iv_Q hI; exfalso; omega
  | n + 1 => by
    have hP := iv_P hI
    have hQ := iv_Q hI
    have ih := s_119_l (sc := sc) (d := d) hI ha1 ha2 T101 K n
    intro c2 v3 v4 v5 v6 v7 hI2 hF hv3 hv4 hv5 hv6 hv7 hx0 hm9
    refine q_iload rfl rfl (q_iload_n rfl rfl ?_)
    by_cases h_1 : v7 > a1
    · refine v_ic_gt_t (t := 122) rfl rfl ⟨ha1.1, h_1, (Int.le_trans hv7.2 (by decide))⟩ (q_iload_n rfl rfl ?_)
      by_cases h_2 : a2 ≠ 0
      · refine v_if_ne_t (t := 131) rfl rfl ⟨h_2, ⟨ha2.1, ha2.2⟩, by decide, by decide⟩ (q_iload rfl rfl (q_iret rfl rfl ?_))
        exact K c2 v6 hI2 (fun a j hm => hF a j (fun h => hm h)) hv6
      · refine v_if_ne_f (t := 131) rfl rfl (Decidable.not_not.mp h_2) (q_iload rfl rfl (q_goto (t := 133) rfl rfl (q_iret rfl rfl ?_)))
        exact K c2 v5 hI2 (fun a j hm => hF a j (fun h => hm h)) hv5
    · refine v_ic_gt_f (t := 122) rfl rfl ⟨(Int.le_trans (by decide) hv7.1), (Int.not_lt.mp h_1), ha1.2⟩ (q_iload rfl rfl (q_iload_n rfl rfl (q_iconst rfl (v_ixorx rfl (fun y_3 hy_3 => (v_iandl rfl ⟨by omega, by omega⟩ (fun y_4 hy_4 => ?_)))))))
      by_cases h_5 : y_4 ≠ 0
      · refine v_if_ne_t (t := 116) rfl rfl ⟨h_5, ⟨by omega, by omega⟩, by decide, by decide⟩ (v_iinc (v := v7 + 1) rfl rfl (Nat.le_of_ble_eq_true rfl) rfl (q_goto (t := 48) rfl rfl (Wp_ls [(0, .ref 0), (1, vi a1), (2, vi a2), (3, vi v3), (4, vi v4), (5, vi v5), (6, vi v6), (7, vi (v7 + 1))] (lsub_cons rfl (lsub_cons rfl (lsub_cons rfl (lsub_cons rfl (lsub_cons rfl (lsub_cons rfl (lsub_cons rfl (lsub_cons rfl lsub_nil)))))))) ?_)))
        exact ih c2 v3 v4 v5 v6 (v7 + 1) hI2 (fun a j hm => hF a j (fun h => hm h)) hv3 hv4 hv5 hv6 ⟨by first | exact rgp_l hv7.1 (by decide) | omega, by first | (clear ha1 ha2 hv3 hv4 hv5 hv6 hv7 h_5; omega) | omega⟩ ⟨by first | (clear ha1 ha2 hv3 hv4 hv5 hv6 hv7 h_1 h_5; omega) | omega, by first | (clear ha1 ha2 hv3 hv4 hv5 hv6 hv7 h_1 h_5; omega) | omega⟩ (by omega)
      · refine v_if_ne_f (t := 116) rfl rfl (Decidable.not_not.mp h_5) (q_iload rfl rfl (q_iload_n rfl rfl (v_iandl rfl ⟨by omega, by omega⟩ (fun y_6 hy_6 => (q_iload_n rfl rfl ?_)))))
        by_cases h_7 : y_6 ≠ v3
        · refine v_ic_ne_t (t := 116) rfl rfl ⟨h_7, ⟨by omega, by omega⟩, hv3.1, hv3.2⟩ (v_iinc (v := v7 + 1) rfl rfl (Nat.le_of_ble_eq_true rfl) rfl (q_goto (t := 48) rfl rfl (Wp_ls [(0, .ref 0), (1, vi a1), (2, vi a2), (3, vi v3), (4, vi v4), (5, vi v5), (6, vi v6), (7, vi (v7 + 1))] (lsub_cons rfl (lsub_cons rfl (lsub_cons rfl (lsub_cons rfl (lsub_cons rfl (lsub_cons rfl (lsub_cons rfl (lsub_cons rfl lsub_nil)))))))) ?_)))
          exact ih c2 v3 v4 v5 v6 (v7 + 1) hI2 (fun a j hm => hF a j (fun h => hm h)) hv3 hv4 hv5 hv6 ⟨by first | exact rgp_l hv7.1 (by decide) | omega, by first | (clear ha1 ha2 hv3 hv4 hv5 hv6 hv7 h_5 h_7; omega) | omega⟩ ⟨by first | (clear ha1 ha2 hv3 hv4 hv5 hv6 hv7 h_1 h_5 h_7; omega) | omega, by first | (clear ha1 ha2 hv3 hv4 hv5 hv6 hv7 h_1 h_5 h_7; omega) | omega⟩ (by omega)
        · refine v_ic_ne_f (t := 116) rfl rfl (Decidable.not_not.mp h_7) (q_iload rfl rfl (q_iconst rfl (q_aload_n rfl rfl (q_iload rfl rfl (v_cv rfl rfl rfl rfl (Nat.le_of_ble_eq_true rfl) ⟨⟨rfl, rfl⟩, Nat.le_of_ble_eq_true rfl, rfl⟩ (Nat.le_of_ble_eq_true rfl) (Nat.le_of_ble_eq_true rfl) (s_118 (a1 := v7) hI2 (show (-2147483648) ≤ v7 ∧ v7 ≤ 2147483647 from ⟨(Int.le_trans (by decide) hv7.1), (Int.le_trans hv7.2 (by decide))⟩) (fun y_8 hy_8 => (bk_inl (v_imul (v := 2 * y_8) rfl rfl ?_)))))))))
          refine v_nrm (fun y_9 hy_9 => (v_isub (v := v4 - y_9) rfl rfl (v_nrm (fun y_10 hy_10 => (v_absx rfl rfl (by omega) (Nat.le_of_ble_eq_true rfl) (fun y_11 hy_11 => (q_istore rfl (Nat.le_of_ble_eq_true rfl) (q_iload rfl rfl (q_iload rfl rfl ?_)))))))))
          by_cases h_12 : y_11 < v5
          · refine v_ic_lt_t (t := 108) rfl rfl ⟨hy_11.1, h_12, hv5.2⟩ (q_iload rfl rfl (q_istore rfl (Nat.le_of_ble_eq_true rfl) (q_iload rfl rfl (q_istore rfl (Nat.le_of_ble_eq_true rfl) (v_iinc (v := v7 + 1) rfl rfl (Nat.le_of_ble_eq_true rfl) rfl (q_goto (t := 48) rfl rfl (Wp_ls [(0, .ref 0), (1, vi a1), (2, vi a2), (3, vi v3), (4, vi v4), (5, vi y_11), (6, vi v7), (7, vi (v7 + 1))] (lsub_cons rfl (lsub_cons rfl (lsub_cons rfl (lsub_cons rfl (lsub_cons rfl (lsub_cons rfl (lsub_cons rfl (lsub_cons rfl lsub_nil)))))))) ?_)))))))
            exact ih c2 v3 v4 y_11 v7 (v7 + 1) hI2 (fun a j hm => hF a j (fun h => hm h)) hv3 hv4 hy_11 ⟨(Int.le_trans (by decide) hv7.1), (Int.le_trans hv7.2 (by decide))⟩ ⟨by first | exact rgp_l hv7.1 (by decide) | omega, by omega⟩ ⟨by omega, by omega⟩ (by omega)
          · refine v_ic_lt_f (t := 108) rfl rfl ⟨hv5.1, (Int.not_lt.mp h_12), hy_11.2⟩ (q_iload rfl rfl (q_iload rfl rfl ?_))
            by_cases h_13 : y_11 ≠ v5
            · refine v_ic_ne_t (t := 116) rfl rfl ⟨h_13, ⟨hy_11.1, hy_11.2⟩, hv5.1, hv5.2⟩ (v_iinc (v := v7 + 1) rfl rfl (Nat.le_of_ble_eq_true rfl) rfl (q_goto (t := 48) rfl rfl (Wp_ls [(0, .ref 0), (1, vi a1), (2, vi a2), (3, vi v3), (4, vi v4), (5, vi v5), (6, vi v6), (7, vi (v7 + 1))] (lsub_cons rfl (lsub_cons rfl (lsub_cons rfl (lsub_cons rfl (lsub_cons rfl (lsub_cons rfl (lsub_cons rfl (lsub_cons rfl lsub_nil)))))))) ?_)))
              exact ih c2 v3 v4 v5 v6 (v7 + 1) hI2 (fun a j hm => hF a j (fun h => hm h)) hv3 hv4 hv5 hv6 ⟨by first | exact rgp_l hv7.1 (by decide) | omega, by first | (clear ha1 ha2 hv3 hv4 hv5 hv6 hv7 h_5 h_7 h_12 h_13; omega) | omega⟩ ⟨by first | (clear ha1 ha2 hv3 hv4 hv5 hv6 hv7 h_1 h_5 h_7 h_12 h_13; omega) | omega, by first | (clear ha1 ha2 hv3 hv4 hv5 hv6 hv7 h_1 h_5 h_7 h_12 h_13; omega) | omega⟩ (by omega)
            · refine v_ic_ne_f (t := 116) rfl rfl (Decidable.not_not.mp h_13) (q_iload rfl rfl (q_iload rfl rfl ?_))
              by_cases h_14 : v7 ≥ v6
              · refine v_ic_ge_t (t := 116) rfl rfl ⟨hv6.1, h_14, (Int.le_trans hv7.2 (by decide))⟩ (v_iinc (v := v7 + 1) rfl rfl (Nat.le_of_ble_eq_true rfl) rfl (q_goto (t := 48) rfl rfl (Wp_ls [(0, .ref 0), (1, vi a1), (2, vi a2), (3, vi v3), (4, vi v4), (5, vi v5), (6, vi v6), (7, vi (v7 + 1))] (lsub_cons rfl (lsub_cons rfl (lsub_cons rfl (lsub_cons rfl (lsub_cons rfl (lsub_cons rfl (lsub_cons rfl (lsub_cons rfl lsub_nil)))))))) ?_)))
                exact ih c2 v3 v4 v5 v6 (v7 + 1) hI2 (fun a j hm => hF a j (fun h => hm h)) hv3 hv4 hv5 hv6 ⟨by first | exact rgp_l hv7.1 (by decide) | omega, by first | (clear ha1 ha2 hv3 hv4 hv5 hv6 hv7 h_5 h_7 h_12 h_13 h_14; omega) | omega⟩ ⟨by first | (clear ha1 ha2 hv3 hv4 hv5 hv6 hv7 h_1 h_5 h_7 h_12 h_13 h_14; omega) | omega, by first | (clear ha1 ha2 hv3 hv4 hv5 hv6 hv7 h_1 h_5 h_7 h_12 h_13 h_14; omega) | omega⟩ (by omega)
              · refine v_ic_ge_f (t := 116) rfl rfl ⟨(Int.le_trans (by decide) hv7.1), (Int.not_le.mp h_14), hv6.2⟩ (q_iload rfl rfl (q_istore rfl (Nat.le_of_ble_eq_true rfl) (q_iload rfl rfl (q_istore rfl (Nat.le_of_ble_eq_true rfl) (v_iinc (v := v7 + 1) rfl rfl (Nat.le_of_ble_eq_true rfl) rfl (q_goto (t := 48) rfl rfl (Wp_ls [(0, .ref 0), (1, vi a1), (2, vi a2), (3, vi v3), (4, vi v4), (5, vi y_11), (6, vi v7), (7, vi (v7 + 1))] (lsub_cons rfl (lsub_cons rfl (lsub_cons rfl (lsub_cons rfl (lsub_cons rfl (lsub_cons rfl (lsub_cons rfl (lsub_cons rfl lsub_nil)))))))) ?_)))))))
                exact ih c2 v3 v4 y_11 v7 (v7 + 1) hI2 (fun a j hm => hF a j (fun h => hm h)) hv3 hv4 hy_11 ⟨(Int.le_trans (by decide) hv7.1), (Int.le_trans hv7.2 (by decide))⟩ ⟨by first | exact rgp_l hv7.1 (by decide) | omega, by first | (clear ha1 ha2 hv3 hv4 hv5 hv6 hv7 h_5 h_7 h_12 h_13 h_14; omega) | omega⟩ ⟨by first | (clear ha1 ha2 hv3 hv4 hv5 hv6 hv7 h_1 h_5 h_7 h_12 h_13 h_14; omega) | omega, by first | (clear ha1 ha2 hv3 hv4 hv5 hv6 hv7 h_1 h_5 h_7 h_12 h_13 h_14; omega) | omega⟩ (by omega)
set_option maxRecDepth 100000 in
set_option maxHeartbeats 4000000 in
theorem s_119 {sc : List Int32} {e : Int} {d u P Q : Nat} {c : ME} {a1 : Int} {a2 : Int} {Z : AR → Prop} (hI : Iv u e P Q c) (ha1 : (-2147483648) ≤ a1 ∧ a1 ≤ 2147483647) (ha2 : (-2147483648) ≤ a2 ∧ a2 ≤ 2147483647) (T101 : ∀ c2 : ME, Iv u e P Q c2 → (∀ (a : Nat) (j : Int), ¬ ((a = 0 ∧ j = 13)) → c2 a j = c a j) → Z (.inr 101, Wd P Q P P c2, 1, 6)) (K : ∀ (c2 : ME) (y : Int), Iv u e P Q c2 → (∀ (a : Nat) (j : Int), ¬ ((a = 0 ∧ j = 13)) → c2 a j = c a j) → (-2147483648) ≤ y ∧ y ≤ 2147483647 → Z (.inl (some (vi y)), Wd P Q P P c2, 0, 0)) : Wp sc (d + 9) 119 0 [(0, .ref 0), (1, vi a1), (2, vi a2)] [] (Wd P Q P P c) 0 0 Z := by
  have hP := iv_P hI
  have hQ := iv_Q hI
  refine q_aload_n rfl rfl (q_aload_n rfl rfl (q_iload_n rfl rfl (v_cv rfl rfl rfl rfl (Nat.le_of_ble_eq_true rfl) ⟨⟨rfl, rfl⟩, Nat.le_of_ble_eq_true rfl, rfl⟩ (Nat.le_of_ble_eq_true rfl) (Nat.le_of_ble_eq_true rfl) (s_117 (a1 := a1) hI (show (-2147483648) ≤ a1 ∧ a1 ≤ 2147483647 from ha1) (fun y_15 hy_15 h_16 => (bk_inl ?_))))))
  by_cases h_17 : y_15 = 0
  · refine v_if_eq_t (t := 22) rfl rfl h_17 (q_iconst rfl (v_cv rfl rfl rfl rfl (Nat.le_of_ble_eq_true rfl) ⟨⟨rfl, rfl⟩, Nat.le_of_ble_eq_true rfl, rfl⟩ (Nat.le_of_ble_eq_true rfl) (Nat.le_of_ble_eq_true rfl) (q_iload_n rfl rfl (v_if_ne_f (t := 25) rfl rfl (by decide) (q_aload_n rfl rfl (q_dup rfl rfl ?_))))))
    have h_18 := ir_0_13 hI
    refine v_gi (z := 13) (v := c 0 13) rfl rfl rfl (Nat.le_of_ble_eq_true rfl) rfl rfl rfl (q_iconst rfl (v_iadd (v := c 0 13 + 1) rfl rfl (v_nrm (fun y_19 hy_19 => (v_pi (z := 13) rfl rfl rfl (Nat.le_of_ble_eq_true rfl) rfl rfl rfl (by decide) (v_new rfl rfl (by decide) (by omega) (Nat.le_of_ble_eq_true rfl) (by decide) rfl (bk_out rfl rfl ?_)))))))
    have hI_20 := iw_0_13 (v := y_19) hI ⟨hy_19.1, hy_19.2⟩
    exact T101 _ hI_20 (fun a j hm => up_b (Decidable.or_iff_not_imp_left.mpr (fun h1 h2 => hm ⟨Decidable.not_not.mp h1, h2⟩)))
  · refine v_if_eq_f (t := 22) rfl rfl ⟨h_17, ⟨(Int.le_trans (by decide) hy_15.1), (Int.le_trans hy_15.2 (by decide))⟩, by decide, by decide⟩ (q_iload_n rfl rfl (q_iconst rfl (q_iconst rfl (q_call rfl rfl rfl rfl (q_iload_n rfl rfl (q_iload_n rfl rfl ?_))))))
    by_cases h_21 : a2 < 0
    · refine v_ic_lt_t (t := 14) rfl rfl ⟨ha2.1, h_21, by decide⟩ (q_iconst rfl (v_zret rfl rfl (by decide) (bk_inl (v_if_eq_t (t := 22) rfl rfl (by decide) (q_iconst rfl (v_cv rfl rfl rfl rfl (Nat.le_of_ble_eq_true rfl) ⟨⟨rfl, rfl⟩, Nat.le_of_ble_eq_true rfl, rfl⟩ (Nat.le_of_ble_eq_true rfl) (Nat.le_of_ble_eq_true rfl) (q_iload_n rfl rfl ?_)))))))
      refine v_if_ne_f (t := 25) rfl rfl (by decide) (q_aload_n rfl rfl (q_dup rfl rfl ?_))
      have h_22 := ir_0_13 hI
      refine v_gi (z := 13) (v := c 0 13) rfl rfl rfl (Nat.le_of_ble_eq_true rfl) rfl rfl rfl (q_iconst rfl (v_iadd (v := c 0 13 + 1) rfl rfl (v_nrm (fun y_23 hy_23 => (v_pi (z := 13) rfl rfl rfl (Nat.le_of_ble_eq_true rfl) rfl rfl rfl (by decide) (v_new rfl rfl (by decide) (by omega) (Nat.le_of_ble_eq_true rfl) (by decide) rfl (bk_out rfl rfl ?_)))))))
      have hI_24 := iw_0_13 (v := y_23) hI ⟨hy_23.1, hy_23.2⟩
      exact T101 _ hI_24 (fun a j hm => up_b (Decidable.or_iff_not_imp_left.mpr (fun h1 h2 => hm ⟨Decidable.not_not.mp h1, h2⟩)))
    · refine v_ic_lt_f (t := 14) rfl rfl ⟨by decide, (Int.not_lt.mp h_21), ha2.2⟩ (q_iload_n rfl rfl (q_iload_n rfl rfl ?_))
      by_cases h_25 : a2 > 1
      · refine v_ic_gt_t (t := 14) rfl rfl ⟨by decide, h_25, ha2.2⟩ (q_iconst rfl (v_zret rfl rfl (by decide) (bk_inl (v_if_eq_t (t := 22) rfl rfl (by decide) (q_iconst rfl (v_cv rfl rfl rfl rfl (Nat.le_of_ble_eq_true rfl) ⟨⟨rfl, rfl⟩, Nat.le_of_ble_eq_true rfl, rfl⟩ (Nat.le_of_ble_eq_true rfl) (Nat.le_of_ble_eq_true rfl) (q_iload_n rfl rfl ?_)))))))
        refine v_if_ne_f (t := 25) rfl rfl (by decide) (q_aload_n rfl rfl (q_dup rfl rfl ?_))
        have h_26 := ir_0_13 hI
        refine v_gi (z := 13) (v := c 0 13) rfl rfl rfl (Nat.le_of_ble_eq_true rfl) rfl rfl rfl (q_iconst rfl (v_iadd (v := c 0 13 + 1) rfl rfl (v_nrm (fun y_27 hy_27 => (v_pi (z := 13) rfl rfl rfl (Nat.le_of_ble_eq_true rfl) rfl rfl rfl (by decide) (v_new rfl rfl (by decide) (by omega) (Nat.le_of_ble_eq_true rfl) (by decide) rfl (bk_out rfl rfl ?_)))))))
        have hI_28 := iw_0_13 (v := y_27) hI ⟨hy_27.1, hy_27.2⟩
        exact T101 _ hI_28 (fun a j hm => up_b (Decidable.or_iff_not_imp_left.mpr (fun h1 h2 => hm ⟨Decidable.not_not.mp h1, h2⟩)))
      · refine v_ic_gt_f (t := 14) rfl rfl ⟨ha2.1, (Int.not_lt.mp h_25), by decide⟩ (q_iconst rfl (q_goto (t := 15) rfl rfl (v_zret rfl rfl (by decide) (bk_inl (v_if_eq_f (t := 22) rfl rfl (by decide) (q_iconst rfl (q_goto (t := 23) rfl rfl ?_)))))))
        refine v_cv rfl rfl rfl rfl (Nat.le_of_ble_eq_true rfl) ⟨⟨rfl, rfl⟩, Nat.le_of_ble_eq_true rfl, rfl⟩ (Nat.le_of_ble_eq_true rfl) (Nat.le_of_ble_eq_true rfl) (q_iload_n rfl rfl (v_if_ne_t (t := 25) rfl rfl (by decide) (q_vret rfl rfl (bk_inl (q_iload_n rfl rfl (q_iload_n rfl rfl (v_ineg (v := 0 - a1) rfl (by omega) ?_)))))))
        refine v_iandl rfl ⟨by omega, by omega⟩ (fun y_29 hy_29 => (q_istore_n rfl (Nat.le_of_ble_eq_true rfl) (q_aload_n rfl rfl (q_iload_n rfl rfl (v_cv rfl rfl rfl rfl (Nat.le_of_ble_eq_true rfl) ⟨⟨rfl, rfl⟩, Nat.le_of_ble_eq_true rfl, rfl⟩ (Nat.le_of_ble_eq_true rfl) (Nat.le_of_ble_eq_true rfl) (s_118 (a1 := a1) hI (show (-2147483648) ≤ a1 ∧ a1 ≤ 2147483647 from ha1) (fun y_30 hy_30 => (bk_inl (q_istore rfl (Nat.le_of_ble_eq_true rfl) (q_iload rfl rfl ?_))))))))))
        refine q_istore rfl (Nat.le_of_ble_eq_true rfl) (q_iload_n rfl rfl (q_istore rfl (Nat.le_of_ble_eq_true rfl) (q_iconst rfl (q_istore rfl (Nat.le_of_ble_eq_true rfl) (Wp_ls [(0, .ref 0), (1, vi a1), (2, vi a2), (3, vi y_29), (4, vi y_30), (5, vi y_30), (6, vi a1), (7, vi 0)] (lsub_cons rfl (lsub_cons rfl (lsub_cons rfl (lsub_cons rfl (lsub_cons rfl (lsub_cons rfl (lsub_cons rfl (lsub_cons rfl lsub_nil)))))))) ?_)))))
        exact (s_119_l (sc := sc) (d := d) hI ha1 ha2 T101 K 132) c y_29 y_30 y_30 a1 0 hI (fun a j hm => rfl) ⟨by first | (clear ha1 ha2 h_21 h_25 h_16 h_17; omega) | omega, by first | (clear ha1 ha2 h_21 h_25 h_16 h_17; omega) | omega⟩ hy_30 hy_30 ha1 ⟨by decide, by decide⟩ ⟨by first | (clear ha1 ha2 h_21 h_25 h_16 h_17; omega) | omega, by omega⟩ (by omega)

set_option maxRecDepth 100000 in
set_option maxHeartbeats 4000000 in
theorem s_120_l {sc : List Int32} {e : Int} {d u P Q : Nat} {c : ME} {Z : AR → Prop} (hI : Iv u e P Q c)  (K : ∀ (c2 : ME), Iv u e P Q c2 → (∀ (a : Nat) (j : Int), ¬ (a = 11 ∨ a = (P + 10) ∨ a = (P + 11)) → c2 a j = c a j) → Z (.inl (none), Wd P Q P P c2, 0, 0)) : ∀ n : Nat, (∀ (c2 : ME) (v1 : Int), Iv u e P Q c2 → (∀ (a : Nat) (j : Int), ¬ (a = 11 ∨ a = (P + 10) ∨ a = (P + 11)) → c2 a j = c a j) → 0 ≤ v1 ∧ v1 ≤ 6 → 13 - 2 * v1 < (n : Int) → Wp sc (d + 10) 120 2 [(0, .ref 0), (1, vi v1)] [] (Wd P Q P P c2) 0 0 Z)
  | 0 => by intro c2 v1 hI2 hF hv1 hm9; have hP := iv_P hI; have hQ := iv_Q hI; exfalso; omega
  | n + 1 => by
    have hP := iv_P hI
    have hQ := iv_Q hI
    have ih := s_120_l (sc := sc) (d := d) hI K n
    intro c2 v1 hI2 hF hv1 hm9
    refine q_iload_n rfl rfl (q_aload_n rfl rfl (v_gr (t := P) rfl rfl rfl (Nat.le_of_ble_eq_true rfl) rfl ?_))
    have h_1 := ir_p0_0 hI hP
    have kn_2 : Hid (c2 P 0 = c P 0) := hF P 0 (fun q => q.elim (fun h => absurd h (np0 hP rfl)) (fun q => q.elim (fun h => absurd h (p0p rfl)) (fun h => absurd h (p0p rfl))))
    refine v_gi (z := 0) (v := c P 0) rfl rfl (ck_p0 hP) (a68z hP) rfl rfl (hid kn_2) ?_
    by_cases h_3 : v1 ≥ c P 0
    · refine v_ic_ge_t (t := 33) rfl rfl ⟨by first | exact q_730ab5169 h_1 | omega, h_3, (Int.le_trans hv1.2 (by decide))⟩ (q_vret rfl rfl ?_)
      exact K c2 hI2 (fun a j hm => hF a j (fun q => q.elim (fun h => hm (Or.inl h)) (fun q => q.elim (fun h => hm (Or.inr (Or.inl h))) (fun h => hm (Or.inr (Or.inr h))))))
    · refine v_ic_ge_f (t := 33) rfl rfl ⟨(Int.le_trans (by decide) hv1.1), (Int.not_le.mp h_3), by first | exact q_b289b7db2 h_1 | omega⟩ (q_aload_n rfl rfl (v_gr (t := 11) rfl rfl rfl (Nat.le_of_ble_eq_true rfl) rfl (q_iload_n rfl rfl (q_aload_n rfl rfl (v_gr (t := 37) rfl rfl rfl (Nat.le_of_ble_eq_true rfl) rfl (q_iload_n rfl rfl (v_cv rfl rfl rfl rfl (Nat.le_of_ble_eq_true rfl) ⟨⟨rfl, rfl⟩, Nat.le_of_ble_eq_true rfl, rfl⟩ (Nat.le_of_ble_eq_true rfl) (Nat.le_of_ble_eq_true rfl) (s_56 (a1 := v1) hI2 (.inl ⟨rfl, rfl⟩) (show 0 ≤ v1 ∧ v1 ≤ 5 from ⟨hv1.1, by first | exact q_d63a8538e h_1 h_3 | omega⟩) (fun c_4 y_7 hI_5 hF_6 hy_7 => ?_)))))))))
      refine bk_inl (v_is rfl rfl (by decide) (by decide) ⟨hv1.1, by first | exact q_71a18878d h_1 h_3 | omega⟩ (v_iinc (v := v1 + 1) rfl rfl (Nat.le_of_ble_eq_true rfl) rfl (q_goto (t := 2) rfl rfl ?_)))
      have hI_8 := iw_11 (j := v1) (v := y_7) hI_5 ⟨(Int.le_trans (by decide) hy_7.1), (Int.le_trans hy_7.2 (by decide))⟩
      refine Wp_ls [(0, .ref 0), (1, vi (v1 + 1))] (lsub_cons rfl (lsub_cons rfl lsub_nil)) ?_
      exact ih (up c_4 11 v1 y_7) (v1 + 1) hI_8 (fun a j hm => (up_b (Decidable.or_iff_not_imp_left.mpr (fun h1 h2 => hm (Or.inl (Decidable.not_not.mp h1))))).trans ((hF_6 a j (fun q => q.elim (fun h => hm (Or.inr (Or.inl h))) (fun h => hm (Or.inr (Or.inr h))))).trans (hF a j (fun q => q.elim (fun h => hm (Or.inl h)) (fun q => q.elim (fun h => hm (Or.inr (Or.inl h))) (fun h => hm (Or.inr (Or.inr h)))))))) ⟨by first | exact rgp_l hv1.1 (by decide) | omega, by first | exact q_4a76cd9c7 h_1 h_3 | omega⟩ (by omega)
set_option maxRecDepth 100000 in
set_option maxHeartbeats 4000000 in
theorem s_120 {sc : List Int32} {e : Int} {d u P Q : Nat} {c : ME} {Z : AR → Prop} (hI : Iv u e P Q c)  (K : ∀ (c2 : ME), Iv u e P Q c2 → (∀ (a : Nat) (j : Int), ¬ (a = 11 ∨ a = (P + 10) ∨ a = (P + 11)) → c2 a j = c a j) → Z (.inl (none), Wd P Q P P c2, 0, 0)) : Wp sc (d + 10) 120 0 [(0, .ref 0)] [] (Wd P Q P P c) 0 0 Z := by
  have hP := iv_P hI
  have hQ := iv_Q hI
  refine q_iconst rfl (q_istore_n rfl (Nat.le_of_ble_eq_true rfl) (Wp_ls [(0, .ref 0), (1, vi 0)] (lsub_cons rfl (lsub_cons rfl lsub_nil)) ?_))
  exact (s_120_l (sc := sc) (d := d) hI K 16) c 0 hI (fun a j hm => rfl) ⟨by decide, by decide⟩ (by omega)

set_option maxRecDepth 100000 in
set_option maxHeartbeats 4000000 in
theorem s_121_l {sc : List Int32} {e : Int} {d u P Q : Nat} {c : ME} {a1 : Int} {Z : AR → Prop} (hI : Iv u e P Q c) (ha1 : (-2147483648) ≤ a1 ∧ a1 ≤ 2147483647) (K : ∀ (y : Int), (-2147483648) ≤ y ∧ y ≤ 2147483647 → Z (.inl (some (vi y)), Wd P Q P P c, 0, 0)) : ∀ n : Nat, (∀ (v2 : Int) (v3 : Int), (-2147483648) ≤ v2 ∧ v2 ≤ 2147483647 → 0 ≤ v3 ∧ v3 ≤ 6 → 13 - 2 * v3 < (n : Int) → Wp sc (d + 7) 121 4 [(0, .ref 0), (1, vi a1), (2, vi v2), (3, vi v3)] [] (Wd P Q P P c) 0 0 Z)
  | 0 => by intro v2 v3 hv2 hv3 hm9; have hP := iv_P hI; have hQ := iv_Q hI; exfalso; omega
  | n + 1 => by
    have hP := iv_P hI
    have hQ := iv_Q hI
    have ih := s_121_l (sc := sc) (d := d) hI ha1 K n
    intro v2 v3 hv2 hv3 hm9
    refine q_iload_n rfl rfl (q_aload_n rfl rfl (v_gr (t := P) rfl rfl rfl (Nat.le_of_ble_eq_true rfl) rfl ?_))
    have h_1 := ir_p0_0 hI hP
    refine v_gi (z := 0) (v := c P 0) rfl rfl (ck_p0 hP) (a68z hP) rfl rfl rfl ?_
    by_cases h_2 : v3 ≥ c P 0
    · refine v_ic_ge_t (t := 39) rfl rfl ⟨(Int.le_trans (by decide) h_1.1), h_2, (Int.le_trans hv3.2 (by decide))⟩ (q_iload_n rfl rfl (q_iret rfl rfl ?_))
      exact K v2 hv2
    · refine v_ic_ge_f (t := 39) rfl rfl ⟨(Int.le_trans (by decide) hv3.1), (Int.not_le.mp h_2), (Int.le_trans h_1.2 (by decide))⟩ (q_iload_n rfl rfl (q_iload_n rfl rfl (v_ishrx rfl (fun y_3 hy_3 => (q_iconst rfl (v_iandx rfl (fun y_4 hy_4 => (q_iconst rfl ?_))))))))
      by_cases h_5 : y_4 ≠ 1
      · refine v_ic_ne_t (t := 33) rfl rfl ⟨h_5, ⟨hy_4.1, hy_4.2⟩, by decide, by decide⟩ (v_iinc (v := v3 + 1) rfl rfl (Nat.le_of_ble_eq_true rfl) rfl (q_goto (t := 4) rfl rfl (Wp_ls [(0, .ref 0), (1, vi a1), (2, vi v2), (3, vi (v3 + 1))] (lsub_cons rfl (lsub_cons rfl (lsub_cons rfl (lsub_cons rfl lsub_nil)))) ?_)))
        exact ih v2 (v3 + 1) hv2 ⟨by first | exact rgp_l hv3.1 (by decide) | omega, by first | exact q_4a76cd9c7 h_1 h_2 | (clear ha1 hv2 hv3 h_5; omega) | omega⟩ (by omega)
      · refine v_ic_ne_f (t := 33) rfl rfl (Decidable.not_not.mp h_5) (q_iload_n rfl rfl (q_aload_n rfl rfl (v_gr (t := 11) rfl rfl rfl (Nat.le_of_ble_eq_true rfl) rfl (q_iload_n rfl rfl ?_))))
        have h_6 := ir_11 hI v3
        refine v_ia (v := c 11 v3) rfl rfl (by decide) (by decide) ⟨hv3.1, by first | exact q_71a18878d h_1 h_2 | omega⟩ rfl (v_iadd (v := c 11 v3 + v2) rfl (by omega) (v_nrm (fun y_7 hy_7 => (q_istore_n rfl (Nat.le_of_ble_eq_true rfl) (v_iinc (v := v3 + 1) rfl rfl (Nat.le_of_ble_eq_true rfl) rfl (q_goto (t := 4) rfl rfl (Wp_ls [(0, .ref 0), (1, vi a1), (2, vi y_7), (3, vi (v3 + 1))] (lsub_cons rfl (lsub_cons rfl (lsub_cons rfl (lsub_cons rfl lsub_nil)))) ?_)))))))
        exact ih y_7 (v3 + 1) hy_7 ⟨by first | exact rgp_l hv3.1 (by decide) | omega, by first | exact q_4a76cd9c7 h_1 h_2 | omega⟩ (by omega)
set_option maxRecDepth 100000 in
set_option maxHeartbeats 4000000 in
theorem s_121 {sc : List Int32} {e : Int} {d u P Q : Nat} {c : ME} {a1 : Int} {Z : AR → Prop} (hI : Iv u e P Q c) (ha1 : (-2147483648) ≤ a1 ∧ a1 ≤ 2147483647) (K : ∀ (y : Int), (-2147483648) ≤ y ∧ y ≤ 2147483647 → Z (.inl (some (vi y)), Wd P Q P P c, 0, 0)) : Wp sc (d + 7) 121 0 [(0, .ref 0), (1, vi a1)] [] (Wd P Q P P c) 0 0 Z := by
  have hP := iv_P hI
  have hQ := iv_Q hI
  refine q_iconst rfl (q_istore_n rfl (Nat.le_of_ble_eq_true rfl) (q_iconst rfl (q_istore_n rfl (Nat.le_of_ble_eq_true rfl) (Wp_ls [(0, .ref 0), (1, vi a1), (2, vi 0), (3, vi 0)] (lsub_cons rfl (lsub_cons rfl (lsub_cons rfl (lsub_cons rfl lsub_nil)))) ?_))))
  exact (s_121_l (sc := sc) (d := d) hI ha1 K 16) 0 0 ⟨by decide, by decide⟩ ⟨by decide, by decide⟩ (by omega)

set_option maxRecDepth 100000 in
set_option maxHeartbeats 4000000 in
theorem s_122 {sc : List Int32} {e : Int} {d u P Q : Nat} {c : ME} {a1 : Int} {a2 : Int} {Z : AR → Prop} (hI : Iv u e P Q c) (ha1 : (-2147483648) ≤ a1 ∧ a1 ≤ 2147483647) (ha2 : (-2147483648) ≤ a2 ∧ a2 ≤ 2147483647) (K : ∀ (y : Int), 0 ≤ y ∧ y ≤ 1 → Z (.inl (some (vi y)), Wd P Q P P c, 0, 0)) : Wp sc (d + 9) 122 0 [(0, .ref 0), (1, vi a1), (2, vi a2)] [] (Wd P Q P P c) 0 0 Z := by
  have hP := iv_P hI
  have hQ := iv_Q hI
  refine q_aload_n rfl rfl (q_iload_n rfl rfl (v_cv rfl rfl rfl rfl (Nat.le_of_ble_eq_true rfl) ⟨⟨rfl, rfl⟩, Nat.le_of_ble_eq_true rfl, rfl⟩ (Nat.le_of_ble_eq_true rfl) (Nat.le_of_ble_eq_true rfl) (s_121 (a1 := a1) hI (show (-2147483648) ≤ a1 ∧ a1 ≤ 2147483647 from ha1) (fun y_1 hy_1 => (bk_inl (q_aload_n rfl rfl (q_iload_n rfl rfl (v_cv rfl rfl rfl rfl (Nat.le_of_ble_eq_true rfl) ⟨⟨rfl, rfl⟩, Nat.le_of_ble_eq_true rfl, rfl⟩ (Nat.le_of_ble_eq_true rfl) (Nat.le_of_ble_eq_true rfl) (s_121 (a1 := a2) hI (show (-2147483648) ≤ a2 ∧ a2 ≤ 2147483647 from ha2) (fun y_2 hy_2 => (bk_inl ?_)))))))))))
  refine v_isub (v := y_1 - y_2) rfl rfl (v_nrm (fun y_3 hy_3 => (q_istore_n rfl (Nat.le_of_ble_eq_true rfl) (q_iload_n rfl rfl ?_))))
  by_cases h_4 : y_3 > 0
  · refine v_if_gt_t (t := 33) rfl rfl ⟨by decide, h_4, hy_3.2⟩ (q_iconst rfl (q_goto (t := 38) rfl rfl (v_zret rfl rfl (by decide) ?_)))
    exact K 1 ⟨by decide, by decide⟩
  · refine v_if_gt_f (t := 33) rfl rfl ⟨hy_3.1, (Int.not_lt.mp h_4), by decide⟩ (q_iload_n rfl rfl ?_)
    by_cases h_5 : y_3 ≠ 0
    · refine v_if_ne_t (t := 37) rfl rfl ⟨h_5, ⟨hy_3.1, hy_3.2⟩, by decide, by decide⟩ (q_iconst rfl (v_zret rfl rfl (by decide) ?_))
      exact K 0 ⟨by decide, by decide⟩
    · refine v_if_ne_f (t := 37) rfl rfl (Decidable.not_not.mp h_5) (q_aload_n rfl rfl (q_iload_n rfl rfl (v_cv rfl rfl rfl rfl (Nat.le_of_ble_eq_true rfl) ⟨⟨rfl, rfl⟩, Nat.le_of_ble_eq_true rfl, rfl⟩ (Nat.le_of_ble_eq_true rfl) (Nat.le_of_ble_eq_true rfl) (s_118 (a1 := a1) hI (show (-2147483648) ≤ a1 ∧ a1 ≤ 2147483647 from ha1) (fun y_6 hy_6 => (bk_inl (q_aload_n rfl rfl (q_iload_n rfl rfl (v_cv rfl rfl rfl rfl (Nat.le_of_ble_eq_true rfl) ⟨⟨rfl, rfl⟩, Nat.le_of_ble_eq_true rfl, rfl⟩ (Nat.le_of_ble_eq_true rfl) (Nat.le_of_ble_eq_true rfl) (s_118 (a1 := a2) hI (show (-2147483648) ≤ a2 ∧ a2 ≤ 2147483647 from ha2) (fun y_7 hy_7 => ?_)))))))))))
      refine bk_inl ?_
      by_cases h_8 : y_6 ≥ y_7
      · refine v_ic_ge_t (t := 37) rfl rfl ⟨hy_7.1, h_8, hy_6.2⟩ (q_iconst rfl (v_zret rfl rfl (by decide) ?_))
        exact K 0 ⟨by decide, by decide⟩
      · refine v_ic_ge_f (t := 37) rfl rfl ⟨hy_6.1, (Int.not_le.mp h_8), hy_7.2⟩ (q_iconst rfl (q_goto (t := 38) rfl rfl (v_zret rfl rfl (by decide) ?_)))
        exact K 1 ⟨by decide, by decide⟩

set_option maxRecDepth 100000 in
set_option maxHeartbeats 4000000 in
theorem s_123_l {sc : List Int32} {e : Int} {d u P Q : Nat} {c : ME} {a1 : Int} {a2 : Int} {a3 : Int} {Z : AR → Prop} (hI : Iv u e P Q c) (ha1 : (-2147483648) ≤ a1 ∧ a1 ≤ 2147483647) (ha2 : (-2147483648) ≤ a2 ∧ a2 ≤ 2147483647) (ha3 : (-2147483648) ≤ a3 ∧ a3 ≤ 2147483647) (T101 : ∀ c2 : ME, Iv u e P Q c2 → (∀ (a : Nat) (j : Int), ¬ ((a = 0 ∧ j = 13) ∨ a = (P + 10) ∨ a = (P + 11) ∨ a = 11) → c2 a j = c a j) → Z (.inr 101, Wd P Q P P c2, 1, 6)) (K : ∀ (c2 : ME) (y : Int), Iv u e P Q c2 → (∀ (a : Nat) (j : Int), ¬ ((a = 0 ∧ j = 13) ∨ a = (P + 10) ∨ a = (P + 11) ∨ a = 11) → c2 a j = c a j) → (-2147483648) ≤ y ∧ y ≤ 2147483647 → Z (.inl (some (vi y)), Wd P Q P P c2, 0, 0)) : ∀ n : Nat, (∀ (c2 : ME) (v4 : Int) (v5 : Int) (v6 : Int), Iv u e P Q c2 → (∀ (a : Nat) (j : Int), ¬ ((a = 0 ∧ j = 13) ∨ a = (P + 10) ∨ a = (P + 11) ∨ a = 11) → c2 a j = c a j) → 0 ≤ v4 ∧ v4 ≤ 63 → 0 ≤ v5 ∧ v5 ≤ 64 → 1 ≤ v6 ∧ v6 ≤ 64 → 129 - 2 * v6 < (n : Int) → Wp sc (d + 11) 123 60 [(0, .ref 0), (1, vi a1), (2, vi a2), (3, vi a3), (4, vi v4), (5, vi v5), (6, vi v6)] [] (Wd P Q P P c2) 0 0 Z)
  | 0 => by intro c2 v4 v5 v6 hI2 hF hv4 hv5 hv6 hm9; have hP := iv_P hI; have hQ := iv_Q hI; exfalso; omega
  | n + 1 => by
    have hP := iv_P hI
    have hQ := iv_Q hI
    have ih := s_123_l (sc := sc) (d := d) hI ha1 ha2 ha3 T101 K n
    intro c2 v4 v5 v6 hI2 hF hv4 hv5 hv6 hm9
    refine q_iload rfl rfl (q_iload rfl rfl ?_)
    by_cases h_1 : v6 > v4
    · refine v_ic_gt_t (t := 108) rfl rfl ⟨(Int.le_trans (by decide) hv4.1), h_1, (Int.le_trans hv6.2 (by decide))⟩ (q_iload_n rfl rfl ?_)
      by_cases h_2 : a3 = 0
      · refine v_lsw (t := 136) (off := 27) 0 rfl (by omega) (by decide) (by decide) (by decide) (by decide) (q_aload_n rfl rfl (q_iload rfl rfl (v_cv rfl rfl rfl rfl (Nat.le_of_ble_eq_true rfl) ⟨⟨rfl, rfl⟩, Nat.le_of_ble_eq_true rfl, rfl⟩ (Nat.le_of_ble_eq_true rfl) (Nat.le_of_ble_eq_true rfl) (s_121 (a1 := v5) hI2 (show (-2147483648) ≤ v5 ∧ v5 ≤ 2147483647 from ⟨(Int.le_trans (by decide) hv5.1), (Int.le_trans hv5.2 (by decide))⟩) (fun y_3 hy_3 => (bk_inl (q_iret rfl rfl ?_)))))))
        exact K c2 y_3 hI2 (fun a j hm => hF a j (fun q => q.elim (fun h => hm (Or.inl h)) (fun q => q.elim (fun h => hm (Or.inr (Or.inl h))) (fun q => q.elim (fun h => hm (Or.inr (Or.inr (Or.inl h)))) (fun h => hm (Or.inr (Or.inr (Or.inr h)))))))) hy_3
      by_cases h_4 : a3 = 1
      · refine v_lsw (t := 143) (off := 34) 1 rfl (by omega) (by decide) (by decide) (by decide) (by decide) (q_aload_n rfl rfl (q_iload rfl rfl (v_cv rfl rfl rfl rfl (Nat.le_of_ble_eq_true rfl) ⟨⟨rfl, rfl⟩, Nat.le_of_ble_eq_true rfl, rfl⟩ (Nat.le_of_ble_eq_true rfl) (Nat.le_of_ble_eq_true rfl) (s_118 (a1 := v5) hI2 (show (-2147483648) ≤ v5 ∧ v5 ≤ 2147483647 from ⟨(Int.le_trans (by decide) hv5.1), (Int.le_trans hv5.2 (by decide))⟩) (fun y_5 hy_5 => (bk_inl (q_iret rfl rfl ?_)))))))
        exact K c2 y_5 hI2 (fun a j hm => hF a j (fun q => q.elim (fun h => hm (Or.inl h)) (fun q => q.elim (fun h => hm (Or.inr (Or.inl h))) (fun q => q.elim (fun h => hm (Or.inr (Or.inr (Or.inl h)))) (fun h => hm (Or.inr (Or.inr (Or.inr h)))))))) hy_5
      refine v_lsw_o (t := 150) rfl (by omega) (by decide) (by simp [Op.lookupswitch.offset, Ne.symm (show a3 ≠ 0 by omega), Ne.symm (show a3 ≠ 1 by omega)]) (by decide) (q_iload rfl rfl (q_iret rfl rfl ?_))
      exact K c2 v5 hI2 (fun a j hm => hF a j (fun q => q.elim (fun h => hm (Or.inl h)) (fun q => q.elim (fun h => hm (Or.inr (Or.inl h))) (fun q => q.elim (fun h => hm (Or.inr (Or.inr (Or.inl h)))) (fun h => hm (Or.inr (Or.inr (Or.inr h)))))))) ⟨(Int.le_trans (by decide) hv5.1), (Int.le_trans hv5.2 (by decide))⟩
    · refine v_ic_gt_f (t := 108) rfl rfl ⟨(Int.le_trans (by decide) hv6.1), (Int.not_lt.mp h_1), (Int.le_trans hv4.2 (by decide))⟩ (q_iload rfl rfl (q_iload rfl rfl (q_iconst rfl (v_ixorx rfl (fun y_6 hy_6 => (v_iandl rfl ⟨by omega, by omega⟩ (fun y_7 hy_7 => ?_)))))))
      by_cases h_8 : y_7 ≠ 0
      · refine v_if_ne_t (t := 102) rfl rfl ⟨h_8, ⟨by omega, by omega⟩, by decide, by decide⟩ (v_iinc (v := v6 + 1) rfl rfl (Nat.le_of_ble_eq_true rfl) rfl (q_goto (t := 60) rfl rfl (Wp_ls [(0, .ref 0), (1, vi a1), (2, vi a2), (3, vi a3), (4, vi v4), (5, vi v5), (6, vi (v6 + 1))] (lsub_cons rfl (lsub_cons rfl (lsub_cons rfl (lsub_cons rfl (lsub_cons rfl (lsub_cons rfl (lsub_cons rfl lsub_nil))))))) ?_)))
        exact ih c2 v4 v5 (v6 + 1) hI2 (fun a j hm => hF a j (fun q => q.elim (fun h => hm (Or.inl h)) (fun q => q.elim (fun h => hm (Or.inr (Or.inl h))) (fun q => q.elim (fun h => hm (Or.inr (Or.inr (Or.inl h)))) (fun h => hm (Or.inr (Or.inr (Or.inr h)))))))) hv4 hv5 ⟨by first | exact rgp_l hv6.1 (by decide) | omega, by first | exact q_8ed797edd h_1 hv4 | (clear ha1 ha2 ha3 hv5 hv6 h_8; omega) | omega⟩ (by omega)
      · refine v_if_ne_f (t := 102) rfl rfl (Decidable.not_not.mp h_8) (q_aload_n rfl rfl (q_iload rfl rfl (v_cv rfl rfl rfl rfl (Nat.le_of_ble_eq_true rfl) ⟨⟨rfl, rfl⟩, Nat.le_of_ble_eq_true rfl, rfl⟩ (Nat.le_of_ble_eq_true rfl) (Nat.le_of_ble_eq_true rfl) (s_118 (a1 := v6) hI2 (show (-2147483648) ≤ v6 ∧ v6 ≤ 2147483647 from ⟨(Int.le_trans (by decide) hv6.1), (Int.le_trans hv6.2 (by decide))⟩) (fun y_9 hy_9 => (bk_inl (q_iload_n rfl rfl ?_)))))))
        by_cases h_10 : y_9 > a2
        · refine v_ic_gt_t (t := 102) rfl rfl ⟨ha2.1, h_10, hy_9.2⟩ (v_iinc (v := v6 + 1) rfl rfl (Nat.le_of_ble_eq_true rfl) rfl (q_goto (t := 60) rfl rfl (Wp_ls [(0, .ref 0), (1, vi a1), (2, vi a2), (3, vi a3), (4, vi v4), (5, vi v5), (6, vi (v6 + 1))] (lsub_cons rfl (lsub_cons rfl (lsub_cons rfl (lsub_cons rfl (lsub_cons rfl (lsub_cons rfl (lsub_cons rfl lsub_nil))))))) ?_)))
          exact ih c2 v4 v5 (v6 + 1) hI2 (fun a j hm => hF a j (fun q => q.elim (fun h => hm (Or.inl h)) (fun q => q.elim (fun h => hm (Or.inr (Or.inl h))) (fun q => q.elim (fun h => hm (Or.inr (Or.inr (Or.inl h)))) (fun h => hm (Or.inr (Or.inr (Or.inr h)))))))) hv4 hv5 ⟨by first | exact rgp_l hv6.1 (by decide) | omega, by first | exact q_8ed797edd h_1 hv4 | omega⟩ (by omega)
        · refine v_ic_gt_f (t := 102) rfl rfl ⟨hy_9.1, (Int.not_lt.mp h_10), ha2.2⟩ (q_aload_n rfl rfl (q_iload rfl rfl (q_iload rfl rfl (v_cv rfl rfl rfl rfl (Nat.le_of_ble_eq_true rfl) ⟨⟨rfl, rfl⟩, Nat.le_of_ble_eq_true rfl, rfl⟩ (Nat.le_of_ble_eq_true rfl) (Nat.le_of_ble_eq_true rfl) (s_122 (a1 := v6) (a2 := v5) hI2 (show (-2147483648) ≤ v6 ∧ v6 ≤ 2147483647 from ⟨(Int.le_trans (by decide) hv6.1), (Int.le_trans hv6.2 (by decide))⟩) (show (-2147483648) ≤ v5 ∧ v5 ≤ 2147483647 from ⟨(Int.le_trans (by decide) hv5.1), (Int.le_trans hv5.2 (by decide))⟩) (fun y_11 hy_11 => (bk_inl ?_)))))))
          by_cases h_12 : y_11 = 0
          · refine v_if_eq_t (t := 102) rfl rfl h_12 (v_iinc (v := v6 + 1) rfl rfl (Nat.le_of_ble_eq_true rfl) rfl (q_goto (t := 60) rfl rfl (Wp_ls [(0, .ref 0), (1, vi a1), (2, vi a2), (3, vi a3), (4, vi v4), (5, vi v5), (6, vi (v6 + 1))] (lsub_cons rfl (lsub_cons rfl (lsub_cons rfl (lsub_cons rfl (lsub_cons rfl (lsub_cons rfl (lsub_cons rfl lsub_nil))))))) ?_)))
            exact ih c2 v4 v5 (v6 + 1) hI2 (fun a j hm => hF a j (fun q => q.elim (fun h => hm (Or.inl h)) (fun q => q.elim (fun h => hm (Or.inr (Or.inl h))) (fun q => q.elim (fun h => hm (Or.inr (Or.inr (Or.inl h)))) (fun h => hm (Or.inr (Or.inr (Or.inr h)))))))) hv4 hv5 ⟨by first | exact rgp_l hv6.1 (by decide) | omega, by first | exact q_8ed797edd h_1 hv4 | omega⟩ (by omega)
          · refine v_if_eq_f (t := 102) rfl rfl ⟨h_12, ⟨(Int.le_trans (by decide) hy_11.1), (Int.le_trans hy_11.2 (by decide))⟩, by decide, by decide⟩ (q_iload rfl rfl (q_istore rfl (Nat.le_of_ble_eq_true rfl) (v_iinc (v := v6 + 1) rfl rfl (Nat.le_of_ble_eq_true rfl) rfl (q_goto (t := 60) rfl rfl (Wp_ls [(0, .ref 0), (1, vi a1), (2, vi a2), (3, vi a3), (4, vi v4), (5, vi v6), (6, vi (v6 + 1))] (lsub_cons rfl (lsub_cons rfl (lsub_cons rfl (lsub_cons rfl (lsub_cons rfl (lsub_cons rfl (lsub_cons rfl lsub_nil))))))) ?_)))))
            exact ih c2 v4 v6 (v6 + 1) hI2 (fun a j hm => hF a j (fun q => q.elim (fun h => hm (Or.inl h)) (fun q => q.elim (fun h => hm (Or.inr (Or.inl h))) (fun q => q.elim (fun h => hm (Or.inr (Or.inr (Or.inl h)))) (fun h => hm (Or.inr (Or.inr (Or.inr h)))))))) hv4 ⟨(Int.le_trans (by decide) hv6.1), hv6.2⟩ ⟨by first | exact rgp_l hv6.1 (by decide) | omega, by first | exact q_8ed797edd h_1 hv4 | (clear ha1 ha2 ha3 hv5 hv6 h_8 h_10 h_12; omega) | omega⟩ (by omega)
set_option maxRecDepth 100000 in
set_option maxHeartbeats 4000000 in
theorem s_123 {sc : List Int32} {e : Int} {d u P Q : Nat} {c : ME} {a1 : Int} {a2 : Int} {a3 : Int} {Z : AR → Prop} (hI : Iv u e P Q c) (ha1 : (-2147483648) ≤ a1 ∧ a1 ≤ 2147483647) (ha2 : (-2147483648) ≤ a2 ∧ a2 ≤ 2147483647) (ha3 : (-2147483648) ≤ a3 ∧ a3 ≤ 2147483647) (T101 : ∀ c2 : ME, Iv u e P Q c2 → (∀ (a : Nat) (j : Int), ¬ ((a = 0 ∧ j = 13) ∨ a = (P + 10) ∨ a = (P + 11) ∨ a = 11) → c2 a j = c a j) → Z (.inr 101, Wd P Q P P c2, 1, 6)) (K : ∀ (c2 : ME) (y : Int), Iv u e P Q c2 → (∀ (a : Nat) (j : Int), ¬ ((a = 0 ∧ j = 13) ∨ a = (P + 10) ∨ a = (P + 11) ∨ a = 11) → c2 a j = c a j) → (-2147483648) ≤ y ∧ y ≤ 2147483647 → Z (.inl (some (vi y)), Wd P Q P P c2, 0, 0)) : Wp sc (d + 11) 123 0 [(0, .ref 0), (1, vi a1), (2, vi a2), (3, vi a3)] [] (Wd P Q P P c) 0 0 Z := by
  have hP := iv_P hI
  have hQ := iv_Q hI
  refine q_aload_n rfl rfl (q_aload_n rfl rfl (q_iload_n rfl rfl (v_cv rfl rfl rfl rfl (Nat.le_of_ble_eq_true rfl) ⟨⟨rfl, rfl⟩, Nat.le_of_ble_eq_true rfl, rfl⟩ (Nat.le_of_ble_eq_true rfl) (Nat.le_of_ble_eq_true rfl) (s_117 (a1 := a1) hI (show (-2147483648) ≤ a1 ∧ a1 ≤ 2147483647 from ha1) (fun y_13 hy_13 h_14 => (bk_inl ?_))))))
  by_cases h_15 : y_13 = 0
  · refine v_if_eq_t (t := 33) rfl rfl h_15 (q_iconst rfl (v_cv rfl rfl rfl rfl (Nat.le_of_ble_eq_true rfl) ⟨⟨rfl, rfl⟩, Nat.le_of_ble_eq_true rfl, rfl⟩ (Nat.le_of_ble_eq_true rfl) (Nat.le_of_ble_eq_true rfl) (q_iload_n rfl rfl (v_if_ne_f (t := 25) rfl rfl (by decide) (q_aload_n rfl rfl (q_dup rfl rfl ?_))))))
    have h_16 := ir_0_13 hI
    refine v_gi (z := 13) (v := c 0 13) rfl rfl rfl (Nat.le_of_ble_eq_true rfl) rfl rfl rfl (q_iconst rfl (v_iadd (v := c 0 13 + 1) rfl rfl (v_nrm (fun y_17 hy_17 => (v_pi (z := 13) rfl rfl rfl (Nat.le_of_ble_eq_true rfl) rfl rfl rfl (by decide) (v_new rfl rfl (by decide) (by omega) (Nat.le_of_ble_eq_true rfl) (by decide) rfl (bk_out rfl rfl ?_)))))))
    have hI_18 := iw_0_13 (v := y_17) hI ⟨hy_17.1, hy_17.2⟩
    exact T101 _ hI_18 (fun a j hm => up_b (Decidable.or_iff_not_imp_left.mpr (fun h1 h2 => hm (Or.inl ⟨Decidable.not_not.mp h1, h2⟩))))
  · refine v_if_eq_f (t := 33) rfl rfl ⟨h_15, ⟨(Int.le_trans (by decide) hy_13.1), (Int.le_trans hy_13.2 (by decide))⟩, by decide, by decide⟩ (q_iload_n rfl rfl (q_iconst rfl (v_ldcw (n := 99999) rfl rfl (by decide +kernel) (q_call rfl rfl rfl rfl (q_iload_n rfl rfl (q_iload_n rfl rfl ?_))))))
    by_cases h_19 : a2 < 0
    · refine v_ic_lt_t (t := 14) rfl rfl ⟨ha2.1, h_19, by decide⟩ (q_iconst rfl (v_zret rfl rfl (by decide) (bk_inl (v_if_eq_t (t := 33) rfl rfl (by decide) (q_iconst rfl (v_cv rfl rfl rfl rfl (Nat.le_of_ble_eq_true rfl) ⟨⟨rfl, rfl⟩, Nat.le_of_ble_eq_true rfl, rfl⟩ (Nat.le_of_ble_eq_true rfl) (Nat.le_of_ble_eq_true rfl) (q_iload_n rfl rfl ?_)))))))
      refine v_if_ne_f (t := 25) rfl rfl (by decide) (q_aload_n rfl rfl (q_dup rfl rfl ?_))
      have h_20 := ir_0_13 hI
      refine v_gi (z := 13) (v := c 0 13) rfl rfl rfl (Nat.le_of_ble_eq_true rfl) rfl rfl rfl (q_iconst rfl (v_iadd (v := c 0 13 + 1) rfl rfl (v_nrm (fun y_21 hy_21 => (v_pi (z := 13) rfl rfl rfl (Nat.le_of_ble_eq_true rfl) rfl rfl rfl (by decide) (v_new rfl rfl (by decide) (by omega) (Nat.le_of_ble_eq_true rfl) (by decide) rfl (bk_out rfl rfl ?_)))))))
      have hI_22 := iw_0_13 (v := y_21) hI ⟨hy_21.1, hy_21.2⟩
      exact T101 _ hI_22 (fun a j hm => up_b (Decidable.or_iff_not_imp_left.mpr (fun h1 h2 => hm (Or.inl ⟨Decidable.not_not.mp h1, h2⟩))))
    · refine v_ic_lt_f (t := 14) rfl rfl ⟨by decide, (Int.not_lt.mp h_19), ha2.2⟩ (q_iload_n rfl rfl (q_iload_n rfl rfl ?_))
      by_cases h_23 : a2 > 99999
      · refine v_ic_gt_t (t := 14) rfl rfl ⟨by decide, h_23, ha2.2⟩ (q_iconst rfl (v_zret rfl rfl (by decide) (bk_inl (v_if_eq_t (t := 33) rfl rfl (by decide) (q_iconst rfl (v_cv rfl rfl rfl rfl (Nat.le_of_ble_eq_true rfl) ⟨⟨rfl, rfl⟩, Nat.le_of_ble_eq_true rfl, rfl⟩ (Nat.le_of_ble_eq_true rfl) (Nat.le_of_ble_eq_true rfl) (q_iload_n rfl rfl ?_)))))))
        refine v_if_ne_f (t := 25) rfl rfl (by decide) (q_aload_n rfl rfl (q_dup rfl rfl ?_))
        have h_24 := ir_0_13 hI
        refine v_gi (z := 13) (v := c 0 13) rfl rfl rfl (Nat.le_of_ble_eq_true rfl) rfl rfl rfl (q_iconst rfl (v_iadd (v := c 0 13 + 1) rfl rfl (v_nrm (fun y_25 hy_25 => (v_pi (z := 13) rfl rfl rfl (Nat.le_of_ble_eq_true rfl) rfl rfl rfl (by decide) (v_new rfl rfl (by decide) (by omega) (Nat.le_of_ble_eq_true rfl) (by decide) rfl (bk_out rfl rfl ?_)))))))
        have hI_26 := iw_0_13 (v := y_25) hI ⟨hy_25.1, hy_25.2⟩
        exact T101 _ hI_26 (fun a j hm => up_b (Decidable.or_iff_not_imp_left.mpr (fun h1 h2 => hm (Or.inl ⟨Decidable.not_not.mp h1, h2⟩))))
      · refine v_ic_gt_f (t := 14) rfl rfl ⟨ha2.1, (Int.not_lt.mp h_23), by decide⟩ (q_iconst rfl (q_goto (t := 15) rfl rfl (v_zret rfl rfl (by decide) (bk_inl (v_if_eq_f (t := 33) rfl rfl (by decide) (q_iload_n rfl rfl (q_iconst rfl ?_)))))))
        refine q_iconst rfl (q_call rfl rfl rfl rfl (q_iload_n rfl rfl (q_iload_n rfl rfl ?_)))
        by_cases h_27 : a3 < 0
        · refine v_ic_lt_t (t := 14) rfl rfl ⟨ha3.1, h_27, by decide⟩ (q_iconst rfl (v_zret rfl rfl (by decide) (bk_inl (v_if_eq_t (t := 33) rfl rfl (by decide) (q_iconst rfl (v_cv rfl rfl rfl rfl (Nat.le_of_ble_eq_true rfl) ⟨⟨rfl, rfl⟩, Nat.le_of_ble_eq_true rfl, rfl⟩ (Nat.le_of_ble_eq_true rfl) (Nat.le_of_ble_eq_true rfl) (q_iload_n rfl rfl ?_)))))))
          refine v_if_ne_f (t := 25) rfl rfl (by decide) (q_aload_n rfl rfl (q_dup rfl rfl ?_))
          have h_28 := ir_0_13 hI
          refine v_gi (z := 13) (v := c 0 13) rfl rfl rfl (Nat.le_of_ble_eq_true rfl) rfl rfl rfl (q_iconst rfl (v_iadd (v := c 0 13 + 1) rfl rfl (v_nrm (fun y_29 hy_29 => (v_pi (z := 13) rfl rfl rfl (Nat.le_of_ble_eq_true rfl) rfl rfl rfl (by decide) (v_new rfl rfl (by decide) (by omega) (Nat.le_of_ble_eq_true rfl) (by decide) rfl (bk_out rfl rfl ?_)))))))
          have hI_30 := iw_0_13 (v := y_29) hI ⟨hy_29.1, hy_29.2⟩
          exact T101 _ hI_30 (fun a j hm => up_b (Decidable.or_iff_not_imp_left.mpr (fun h1 h2 => hm (Or.inl ⟨Decidable.not_not.mp h1, h2⟩))))
        · refine v_ic_lt_f (t := 14) rfl rfl ⟨by decide, (Int.not_lt.mp h_27), ha3.2⟩ (q_iload_n rfl rfl (q_iload_n rfl rfl ?_))
          by_cases h_31 : a3 > 2
          · refine v_ic_gt_t (t := 14) rfl rfl ⟨by decide, h_31, ha3.2⟩ (q_iconst rfl (v_zret rfl rfl (by decide) (bk_inl (v_if_eq_t (t := 33) rfl rfl (by decide) (q_iconst rfl (v_cv rfl rfl rfl rfl (Nat.le_of_ble_eq_true rfl) ⟨⟨rfl, rfl⟩, Nat.le_of_ble_eq_true rfl, rfl⟩ (Nat.le_of_ble_eq_true rfl) (Nat.le_of_ble_eq_true rfl) (q_iload_n rfl rfl ?_)))))))
            refine v_if_ne_f (t := 25) rfl rfl (by decide) (q_aload_n rfl rfl (q_dup rfl rfl ?_))
            have h_32 := ir_0_13 hI
            refine v_gi (z := 13) (v := c 0 13) rfl rfl rfl (Nat.le_of_ble_eq_true rfl) rfl rfl rfl (q_iconst rfl (v_iadd (v := c 0 13 + 1) rfl rfl (v_nrm (fun y_33 hy_33 => (v_pi (z := 13) rfl rfl rfl (Nat.le_of_ble_eq_true rfl) rfl rfl rfl (by decide) (v_new rfl rfl (by decide) (by omega) (Nat.le_of_ble_eq_true rfl) (by decide) rfl (bk_out rfl rfl ?_)))))))
            have hI_34 := iw_0_13 (v := y_33) hI ⟨hy_33.1, hy_33.2⟩
            exact T101 _ hI_34 (fun a j hm => up_b (Decidable.or_iff_not_imp_left.mpr (fun h1 h2 => hm (Or.inl ⟨Decidable.not_not.mp h1, h2⟩))))
          · refine v_ic_gt_f (t := 14) rfl rfl ⟨ha3.1, (Int.not_lt.mp h_31), by decide⟩ (q_iconst rfl (q_goto (t := 15) rfl rfl (v_zret rfl rfl (by decide) (bk_inl (v_if_eq_f (t := 33) rfl rfl (by decide) (q_iconst rfl (q_goto (t := 34) rfl rfl ?_)))))))
            refine v_cv rfl rfl rfl rfl (Nat.le_of_ble_eq_true rfl) ⟨⟨rfl, rfl⟩, Nat.le_of_ble_eq_true rfl, rfl⟩ (Nat.le_of_ble_eq_true rfl) (Nat.le_of_ble_eq_true rfl) (q_iload_n rfl rfl (v_if_ne_t (t := 25) rfl rfl (by decide) (q_vret rfl rfl (bk_inl (q_iload_n rfl rfl (q_aload_n rfl rfl (v_gr (t := 37) rfl rfl rfl (Nat.le_of_ble_eq_true rfl) rfl ?_)))))))
            refine v_cv rfl rfl rfl rfl (Nat.le_of_ble_eq_true rfl) ⟨⟨rfl, rfl⟩, Nat.le_of_ble_eq_true rfl, rfl⟩ (Nat.le_of_ble_eq_true rfl) (Nat.le_of_ble_eq_true rfl) (s_70 hI (.inl ⟨rfl, rfl⟩) (fun y_35 hy_35 => (bk_inl (q_iconst rfl (v_ixorx rfl (fun y_36 hy_36 => (v_iandl rfl ⟨by omega, by omega⟩ (fun y_37 hy_37 => (q_istore rfl (Nat.le_of_ble_eq_true rfl) (q_aload_n rfl rfl (v_cv rfl rfl rfl rfl (Nat.le_of_ble_eq_true rfl) ⟨⟨rfl, rfl⟩, Nat.le_of_ble_eq_true rfl, rfl⟩ (Nat.le_of_ble_eq_true rfl) (Nat.le_of_ble_eq_true rfl) (s_120 hI (fun c_38 hI_39 hF_40 => ?_)))))))))))))
            refine bk_inl (q_iconst rfl (q_istore rfl (Nat.le_of_ble_eq_true rfl) (q_iconst rfl (q_istore rfl (Nat.le_of_ble_eq_true rfl) (Wp_ls [(0, .ref 0), (1, vi a1), (2, vi a2), (3, vi a3), (4, vi y_37), (5, vi 0), (6, vi 1)] (lsub_cons rfl (lsub_cons rfl (lsub_cons rfl (lsub_cons rfl (lsub_cons rfl (lsub_cons rfl (lsub_cons rfl lsub_nil))))))) ?_)))))
            exact (s_123_l (sc := sc) (d := d) hI ha1 ha2 ha3 T101 K 130) c_38 y_37 0 1 hI_39 (fun a j hm => hF_40 a j (fun q => q.elim (fun h => hm (Or.inr (Or.inr (Or.inr h)))) (fun q => q.elim (fun h => hm (Or.inr (Or.inl h))) (fun h => hm (Or.inr (Or.inr (Or.inl h))))))) ⟨by first | (clear ha1 ha2 ha3 h_19 h_23 h_27 h_31 h_14 h_15; omega) | omega, by omega⟩ ⟨by decide, by decide⟩ ⟨by decide, by decide⟩ (by omega)

set_option maxRecDepth 100000 in
set_option maxHeartbeats 4000000 in
theorem s_124_l {sc : List Int32} {e : Int} {d u P Q : Nat} {c : ME} {a1 : Int} {a2 : Int} {Z : AR → Prop} (hI : Iv u e P Q c) (ha1 : (-2147483648) ≤ a1 ∧ a1 ≤ 2147483647) (ha2 : (-2147483648) ≤ a2 ∧ a2 ≤ 2147483647) (K : ∀ (y : Int), (-2147483648) ≤ y ∧ y ≤ 2147483647 → Z (.inl (some (vi y)), Wd P Q P P c, 0, 0)) : ∀ n : Nat, (∀ (v3 : Int) (v4 : Int), (-2147483648) ≤ v3 ∧ v3 ≤ 2147483647 → 0 ≤ v4 ∧ v4 ≤ 6 → 13 - 2 * v4 < (n : Int) → Wp sc (d + 8) 124 5 [(0, .ref 0), (1, vi a1), (2, vi a2), (3, vi v3), (4, vi v4)] [] (Wd P Q P P c) 0 0 Z)
  | 0 => by intro v3 v4 hv3 hv4 hm9; have hP := iv_P hI; have hQ := iv_Q hI; exfalso; omega
  | n + 1 => by
    have hP := iv_P hI
    have hQ := iv_Q hI
    have ih := s_124_l (sc := sc) (d := d) hI ha1 ha2 K n
    intro v3 v4 hv3 hv4 hm9
    refine q_iload rfl rfl (q_aload_n rfl rfl (v_gr (t := P) rfl rfl rfl (Nat.le_of_ble_eq_true rfl) rfl ?_))
    have h_1 := ir_p0_0 hI hP
    refine v_gi (z := 0) (v := c P 0) rfl rfl (ck_p0 hP) (a68z hP) rfl rfl rfl ?_
    by_cases h_2 : v4 ≥ c P 0
    · refine v_ic_ge_t (t := 49) rfl rfl ⟨(Int.le_trans (by decide) h_1.1), h_2, (Int.le_trans hv4.2 (by decide))⟩ (q_iload_n rfl rfl (q_iret rfl rfl ?_))
      exact K v3 hv3
    · refine v_ic_ge_f (t := 49) rfl rfl ⟨(Int.le_trans (by decide) hv4.1), (Int.not_le.mp h_2), (Int.le_trans h_1.2 (by decide))⟩ (q_iload_n rfl rfl (q_iload rfl rfl (v_ishrx rfl (fun y_3 hy_3 => (q_iconst rfl (v_iandx rfl (fun y_4 hy_4 => (q_iconst rfl ?_))))))))
      by_cases h_5 : y_4 ≠ 1
      · refine v_ic_ne_t (t := 43) rfl rfl ⟨h_5, ⟨hy_4.1, hy_4.2⟩, by decide, by decide⟩ (v_iinc (v := v4 + 1) rfl rfl (Nat.le_of_ble_eq_true rfl) rfl (q_goto (t := 5) rfl rfl (Wp_ls [(0, .ref 0), (1, vi a1), (2, vi a2), (3, vi v3), (4, vi (v4 + 1))] (lsub_cons rfl (lsub_cons rfl (lsub_cons rfl (lsub_cons rfl (lsub_cons rfl lsub_nil))))) ?_)))
        exact ih v3 (v4 + 1) hv3 ⟨by first | exact rgp_l hv4.1 (by decide) | omega, by first | exact q_4a76cd9c7 h_1 h_2 | (clear ha1 ha2 hv3 hv4 h_5; omega) | omega⟩ (by omega)
      · refine v_ic_ne_f (t := 43) rfl rfl (Decidable.not_not.mp h_5) (q_iload_n rfl rfl (q_aload_n rfl rfl (v_gr (t := 37) rfl rfl rfl (Nat.le_of_ble_eq_true rfl) rfl (q_iload rfl rfl ?_))))
        have h_6 := ir_38_g hI (j := 4 * v4) (by first | exact q_aa51b186e h_1 h_2 | omega)
        have h_7 := ir_38_g hI (j := 4 * v4 + 1) (by first | exact q_57851f9de h_1 h_2 | omega)
        have h_8 := ir_38_g hI (j := 4 * v4 + 2) (by first | exact q_7296e74e6 h_1 h_2 | omega)
        have h_9 := ir_38_g hI (j := 4 * v4 + 3) (by first | exact q_b15525c4c h_1 h_2 | omega)
        refine v_cv rfl rfl rfl rfl (Nat.le_of_ble_eq_true rfl) ⟨⟨rfl, rfl⟩, Nat.le_of_ble_eq_true rfl, rfl⟩ (Nat.le_of_ble_eq_true rfl) (Nat.le_of_ble_eq_true rfl) (s_43 (v1 := c 38 (4 * v4)) (v2 := c 38 (4 * v4 + 1)) (v3 := c 38 (4 * v4 + 2)) (v4 := c 38 (4 * v4 + 3)) (r := c 38 (4 * v4 + 1) + c 38 (4 * v4 + 2) + c 38 (4 * v4 + 3) + c 38 (4 * v4)) (a1 := v4) hI (.inl ⟨rfl, rfl⟩) (show 0 ≤ v4 ∧ v4 ≤ 5 from ⟨hv4.1, by first | exact q_d63a8538e h_1 h_2 | omega⟩) (rfl) (rfl) (rfl) (rfl) (by omega) (bk_inl (q_iload_n rfl rfl (v_minx rfl rfl (by omega) (Nat.le_of_ble_eq_true rfl) ⟨by omega, by omega, by omega, by omega⟩ (fun y_10 hy_10 => (v_iadd (v := v3 + y_10) rfl rfl (v_nrm (fun y_11 hy_11 => (q_istore_n rfl (Nat.le_of_ble_eq_true rfl) (v_iinc (v := v4 + 1) rfl rfl (Nat.le_of_ble_eq_true rfl) rfl ?_))))))))))
        refine q_goto (t := 5) rfl rfl (Wp_ls [(0, .ref 0), (1, vi a1), (2, vi a2), (3, vi y_11), (4, vi (v4 + 1))] (lsub_cons rfl (lsub_cons rfl (lsub_cons rfl (lsub_cons rfl (lsub_cons rfl lsub_nil))))) ?_)
        exact ih y_11 (v4 + 1) hy_11 ⟨by first | exact rgp_l hv4.1 (by decide) | omega, by first | exact q_4a76cd9c7 h_1 h_2 | omega⟩ (by omega)
set_option maxRecDepth 100000 in
set_option maxHeartbeats 4000000 in
theorem s_124 {sc : List Int32} {e : Int} {d u P Q : Nat} {c : ME} {a1 : Int} {a2 : Int} {Z : AR → Prop} (hI : Iv u e P Q c) (ha1 : (-2147483648) ≤ a1 ∧ a1 ≤ 2147483647) (ha2 : (-2147483648) ≤ a2 ∧ a2 ≤ 2147483647) (K : ∀ (y : Int), (-2147483648) ≤ y ∧ y ≤ 2147483647 → Z (.inl (some (vi y)), Wd P Q P P c, 0, 0)) : Wp sc (d + 8) 124 0 [(0, .ref 0), (1, vi a1), (2, vi a2)] [] (Wd P Q P P c) 0 0 Z := by
  have hP := iv_P hI
  have hQ := iv_Q hI
  refine q_iconst rfl (q_istore_n rfl (Nat.le_of_ble_eq_true rfl) (q_iconst rfl (q_istore rfl (Nat.le_of_ble_eq_true rfl) (Wp_ls [(0, .ref 0), (1, vi a1), (2, vi a2), (3, vi 0), (4, vi 0)] (lsub_cons rfl (lsub_cons rfl (lsub_cons rfl (lsub_cons rfl (lsub_cons rfl lsub_nil))))) ?_))))
  exact (s_124_l (sc := sc) (d := d) hI ha1 ha2 K 16) 0 0 ⟨by decide, by decide⟩ ⟨by decide, by decide⟩ (by omega)

set_option maxRecDepth 100000 in
set_option maxHeartbeats 4000000 in
theorem s_125_l {sc : List Int32} {e : Int} {d u P Q : Nat} {c : ME} {a1 : Int} {a2 : Int} {a3 : Int} {Z : AR → Prop} (hI : Iv u e P Q c) (ha1 : (-2147483648) ≤ a1 ∧ a1 ≤ 2147483647) (ha2 : (-2147483648) ≤ a2 ∧ a2 ≤ 2147483647) (ha3 : (-2147483648) ≤ a3 ∧ a3 ≤ 2147483647) (T100 : ∀ c2 : ME, Iv u e P Q c2 → (∀ (a : Nat) (j : Int), ¬ ((a = 0 ∧ j = 12) ∨ (a = 0 ∧ j = 13)) → c2 a j = c a j) → Z (.inr 100, Wd P Q P P c2, 1, 6)) (T101 : ∀ c2 : ME, Iv u e P Q c2 → (∀ (a : Nat) (j : Int), ¬ ((a = 0 ∧ j = 12) ∨ (a = 0 ∧ j = 13)) → c2 a j = c a j) → Z (.inr 101, Wd P Q P P c2, 1, 6)) (K : ∀ (c2 : ME) (y : Int), Iv u e P Q c2 → (∀ (a : Nat) (j : Int), ¬ ((a = 0 ∧ j = 12) ∨ (a = 0 ∧ j = 13)) → c2 a j = c a j) → (-2147483648) ≤ y ∧ y ≤ 2147483647 → Z (.inl (some (vi y)), Wd P Q P P c2, 0, 0)) : ∀ n : Nat, (∀ (c2 : ME) (v4 : Int) (v5 : Int) (v6 : Int), Iv u e P Q c2 → (∀ (a : Nat) (j : Int), ¬ ((a = 0 ∧ j = 12) ∨ (a = 0 ∧ j = 13)) → c2 a j = c a j) → 0 ≤ v4 ∧ v4 ≤ 9999 → 0 ≤ v5 ∧ v5 ≤ 10000 → 0 ≤ v6 ∧ v6 ≤ 32 → ((a1 ≥ 0 ∧ a1 ≤ 5)) → 65 - 2 * v6 < (n : Int) → Wp sc (d + 9) 125 54 [(0, .ref 0), (1, vi a1), (2, vi a2), (3, vi a3), (4, vi v4), (5, vi v5), (6, vi v6)] [] (Wd P Q P P c2) 0 0 Z)
  | 0 => by intro c2 v4 v5 v6 hI2 hF hv4 hv5 hv6 hx0 hm9; have hP := iv_P hI; have hQ := iv_Q hI; exfalso; omega
  | n + 1 => by
    have hP := iv_P hI
    have hQ := iv_Q hI
    have ih := s_125_l (sc := sc) (d := d) hI ha1 ha2 ha3 T100 T101 K n
    intro c2 v4 v5 v6 hI2 hF hv4 hv5 hv6 hx0 hm9
    refine q_iload rfl rfl (v_bip rfl (by decide) ?_)
    by_cases h_1 : v6 ≥ 32
    · refine v_ic_ge_t (t := 107) rfl rfl ⟨by decide, h_1, (Int.le_trans hv6.2 (by decide))⟩ (q_aload_n rfl rfl (v_gr (t := 37) rfl rfl rfl (Nat.le_of_ble_eq_true rfl) rfl (q_iload_n rfl rfl ?_)))
      have h_2 := ir_38_g hI (j := 4 * a1) (by omega)
      have kn_3 : Hid (c2 38 (4 * a1) = c 38 (4 * a1)) := hF 38 (4 * a1) (fun q => q.elim (fun h => absurd h.1 (nn rfl)) (fun h => absurd h.1 (nn rfl)))
      have h_4 := ir_38_g hI (j := 4 * a1 + 1) (by omega)
      have kn_5 : Hid (c2 38 (4 * a1 + 1) = c 38 (4 * a1 + 1)) := hF 38 (4 * a1 + 1) (fun q => q.elim (fun h => absurd h.1 (nn rfl)) (fun h => absurd h.1 (nn rfl)))
      have h_6 := ir_38_g hI (j := 4 * a1 + 2) (by omega)
      have kn_7 : Hid (c2 38 (4 * a1 + 2) = c 38 (4 * a1 + 2)) := hF 38 (4 * a1 + 2) (fun q => q.elim (fun h => absurd h.1 (nn rfl)) (fun h => absurd h.1 (nn rfl)))
      have h_8 := ir_38_g hI (j := 4 * a1 + 3) (by omega)
      have kn_9 : Hid (c2 38 (4 * a1 + 3) = c 38 (4 * a1 + 3)) := hF 38 (4 * a1 + 3) (fun q => q.elim (fun h => absurd h.1 (nn rfl)) (fun h => absurd h.1 (nn rfl)))
      refine v_cv rfl rfl rfl rfl (Nat.le_of_ble_eq_true rfl) ⟨⟨rfl, rfl⟩, Nat.le_of_ble_eq_true rfl, rfl⟩ (Nat.le_of_ble_eq_true rfl) (Nat.le_of_ble_eq_true rfl) (s_43 (v1 := c 38 (4 * a1)) (v2 := c 38 (4 * a1 + 1)) (v3 := c 38 (4 * a1 + 2)) (v4 := c 38 (4 * a1 + 3)) (r := c 38 (4 * a1 + 1) + c 38 (4 * a1 + 2) + c 38 (4 * a1 + 3) + c 38 (4 * a1)) (a1 := a1) hI2 (.inl ⟨rfl, rfl⟩) (show 0 ≤ a1 ∧ a1 ≤ 5 from ⟨by omega, by omega⟩) ((hid kn_3)) ((hid kn_5)) ((hid kn_7)) ((hid kn_9)) (by omega) (bk_inl (q_iload rfl rfl (v_minx rfl rfl (by omega) (Nat.le_of_ble_eq_true rfl) ⟨by omega, by omega, by omega, by omega⟩ (fun y_10 hy_10 => (q_iret rfl rfl ?_))))))
      exact K c2 y_10 hI2 (fun a j hm => hF a j (fun q => q.elim (fun h => hm (Or.inl h)) (fun h => hm (Or.inr h)))) ⟨by omega, by omega⟩
    · refine v_ic_ge_f (t := 107) rfl rfl ⟨(Int.le_trans (by decide) hv6.1), (Int.not_le.mp h_1), by decide⟩ (q_iload rfl rfl (q_iload rfl rfl (v_isub (v := v5 - v4) rfl rfl (q_iconst rfl ?_))))
      by_cases h_11 : v5 - v4 ≤ 1
      · refine v_ic_le_t (t := 107) rfl rfl ⟨by first | exact q_9f800265d hv4 hv5 | omega, h_11, by decide⟩ (q_aload_n rfl rfl (v_gr (t := 37) rfl rfl rfl (Nat.le_of_ble_eq_true rfl) rfl (q_iload_n rfl rfl ?_)))
        have h_12 := ir_38_g hI (j := 4 * a1) (by omega)
        have kn_13 : Hid (c2 38 (4 * a1) = c 38 (4 * a1)) := hF 38 (4 * a1) (fun q => q.elim (fun h => absurd h.1 (nn rfl)) (fun h => absurd h.1 (nn rfl)))
        have h_14 := ir_38_g hI (j := 4 * a1 + 1) (by omega)
        have kn_15 : Hid (c2 38 (4 * a1 + 1) = c 38 (4 * a1 + 1)) := hF 38 (4 * a1 + 1) (fun q => q.elim (fun h => absurd h.1 (nn rfl)) (fun h => absurd h.1 (nn rfl)))
        have h_16 := ir_38_g hI (j := 4 * a1 + 2) (by omega)
        have kn_17 : Hid (c2 38 (4 * a1 + 2) = c 38 (4 * a1 + 2)) := hF 38 (4 * a1 + 2) (fun q => q.elim (fun h => absurd h.1 (nn rfl)) (fun h => absurd h.1 (nn rfl)))
        have h_18 := ir_38_g hI (j := 4 * a1 + 3) (by omega)
        have kn_19 : Hid (c2 38 (4 * a1 + 3) = c 38 (4 * a1 + 3)) := hF 38 (4 * a1 + 3) (fun q => q.elim (fun h => absurd h.1 (nn rfl)) (fun h => absurd h.1 (nn rfl)))
        refine v_cv rfl rfl rfl rfl (Nat.le_of_ble_eq_true rfl) ⟨⟨rfl, rfl⟩, Nat.le_of_ble_eq_true rfl, rfl⟩ (Nat.le_of_ble_eq_true rfl) (Nat.le_of_ble_eq_true rfl) (s_43 (v1 := c 38 (4 * a1)) (v2 := c 38 (4 * a1 + 1)) (v3 := c 38 (4 * a1 + 2)) (v4 := c 38 (4 * a1 + 3)) (r := c 38 (4 * a1 + 1) + c 38 (4 * a1 + 2) + c 38 (4 * a1 + 3) + c 38 (4 * a1)) (a1 := a1) hI2 (.inl ⟨rfl, rfl⟩) (show 0 ≤ a1 ∧ a1 ≤ 5 from ⟨by omega, by omega⟩) ((hid kn_13)) ((hid kn_15)) ((hid kn_17)) ((hid kn_19)) (by omega) (bk_inl (q_iload rfl rfl (v_minx rfl rfl (by omega) (Nat.le_of_ble_eq_true rfl) ⟨by omega, by omega, by omega, by omega⟩ (fun y_20 hy_20 => (q_iret rfl rfl ?_))))))
        exact K c2 y_20 hI2 (fun a j hm => hF a j (fun q => q.elim (fun h => hm (Or.inl h)) (fun h => hm (Or.inr h)))) ⟨by omega, by omega⟩
      · refine v_ic_le_f (t := 107) rfl rfl ⟨by decide, (Int.not_le.mp h_11), by first | exact q_547ca4f0e hv4 hv5 | omega⟩ (q_iload rfl rfl (q_iload rfl rfl (v_iadd (v := v4 + v5) rfl rfl (q_iconst rfl (v_idiv (v := ((v4 + v5) / 2)) rfl (by omega) rfl (q_istore rfl (Nat.le_of_ble_eq_true rfl) (q_aload_n rfl rfl ?_)))))))
        refine q_iload_n rfl rfl (q_iload rfl rfl (v_cv rfl rfl rfl rfl (Nat.le_of_ble_eq_true rfl) ⟨⟨rfl, rfl⟩, Nat.le_of_ble_eq_true rfl, rfl⟩ (Nat.le_of_ble_eq_true rfl) (Nat.le_of_ble_eq_true rfl) (s_124 (a1 := a2) (a2 := ((v4 + v5) / 2)) hI2 (show (-2147483648) ≤ a2 ∧ a2 ≤ 2147483647 from ha2) (show (-2147483648) ≤ ((v4 + v5) / 2) ∧ ((v4 + v5) / 2) ≤ 2147483647 from ⟨by omega, by omega⟩) (fun y_21 hy_21 => (bk_inl (q_iload_n rfl rfl ?_))))))
        by_cases h_22 : y_21 > a3
        · refine v_ic_gt_t (t := 97) rfl rfl ⟨ha3.1, h_22, hy_21.2⟩ (q_iload rfl rfl (q_istore rfl (Nat.le_of_ble_eq_true rfl) (v_iinc (v := v6 + 1) rfl rfl (Nat.le_of_ble_eq_true rfl) rfl (q_goto (t := 54) rfl rfl (Wp_ls [(0, .ref 0), (1, vi a1), (2, vi a2), (3, vi a3), (4, vi v4), (5, vi ((v4 + v5) / 2)), (6, vi (v6 + 1))] (lsub_cons rfl (lsub_cons rfl (lsub_cons rfl (lsub_cons rfl (lsub_cons rfl (lsub_cons rfl (lsub_cons rfl lsub_nil))))))) ?_)))))
          exact ih c2 v4 ((v4 + v5) / 2) (v6 + 1) hI2 (fun a j hm => hF a j (fun q => q.elim (fun h => hm (Or.inl h)) (fun h => hm (Or.inr h)))) hv4 ⟨by omega, by omega⟩ ⟨by first | exact rgp_l hv6.1 (by decide) | omega, by first | exact q_7266516b7 h_1 | omega⟩ ⟨by omega, by omega⟩ (by omega)
        · refine v_ic_gt_f (t := 97) rfl rfl ⟨hy_21.1, (Int.not_lt.mp h_22), ha3.2⟩ (q_iload rfl rfl (q_istore rfl (Nat.le_of_ble_eq_true rfl) (q_goto (t := 101) rfl rfl (v_iinc (v := v6 + 1) rfl rfl (Nat.le_of_ble_eq_true rfl) rfl (q_goto (t := 54) rfl rfl (Wp_ls [(0, .ref 0), (1, vi a1), (2, vi a2), (3, vi a3), (4, vi ((v4 + v5) / 2)), (5, vi v5), (6, vi (v6 + 1))] (lsub_cons rfl (lsub_cons rfl (lsub_cons rfl (lsub_cons rfl (lsub_cons rfl (lsub_cons rfl (lsub_cons rfl lsub_nil))))))) ?_))))))
          exact ih c2 ((v4 + v5) / 2) v5 (v6 + 1) hI2 (fun a j hm => hF a j (fun q => q.elim (fun h => hm (Or.inl h)) (fun h => hm (Or.inr h)))) ⟨by omega, by omega⟩ hv5 ⟨by first | exact rgp_l hv6.1 (by decide) | omega, by first | exact q_7266516b7 h_1 | omega⟩ ⟨by omega, by omega⟩ (by omega)
set_option maxRecDepth 100000 in
set_option maxHeartbeats 4000000 in
theorem s_125 {sc : List Int32} {e : Int} {d u P Q : Nat} {c : ME} {a1 : Int} {a2 : Int} {a3 : Int} {Z : AR → Prop} (hI : Iv u e P Q c) (ha1 : (-2147483648) ≤ a1 ∧ a1 ≤ 2147483647) (ha2 : (-2147483648) ≤ a2 ∧ a2 ≤ 2147483647) (ha3 : (-2147483648) ≤ a3 ∧ a3 ≤ 2147483647) (T100 : ∀ c2 : ME, Iv u e P Q c2 → (∀ (a : Nat) (j : Int), ¬ ((a = 0 ∧ j = 12) ∨ (a = 0 ∧ j = 13)) → c2 a j = c a j) → Z (.inr 100, Wd P Q P P c2, 1, 6)) (T101 : ∀ c2 : ME, Iv u e P Q c2 → (∀ (a : Nat) (j : Int), ¬ ((a = 0 ∧ j = 12) ∨ (a = 0 ∧ j = 13)) → c2 a j = c a j) → Z (.inr 101, Wd P Q P P c2, 1, 6)) (K : ∀ (c2 : ME) (y : Int), Iv u e P Q c2 → (∀ (a : Nat) (j : Int), ¬ ((a = 0 ∧ j = 12) ∨ (a = 0 ∧ j = 13)) → c2 a j = c a j) → (-2147483648) ≤ y ∧ y ≤ 2147483647 → Z (.inl (some (vi y)), Wd P Q P P c2, 0, 0)) : Wp sc (d + 9) 125 0 [(0, .ref 0), (1, vi a1), (2, vi a2), (3, vi a3)] [] (Wd P Q P P c) 0 0 Z := by
  have hP := iv_P hI
  have hQ := iv_Q hI
  refine q_aload_n rfl rfl (q_iload_n rfl rfl (v_cv rfl rfl rfl rfl (Nat.le_of_ble_eq_true rfl) ⟨⟨rfl, rfl⟩, Nat.le_of_ble_eq_true rfl, rfl⟩ (Nat.le_of_ble_eq_true rfl) (Nat.le_of_ble_eq_true rfl) (q_aload_n rfl rfl (q_iload_n rfl rfl (q_iconst rfl (q_aload_n rfl rfl (v_gr (t := P) rfl rfl rfl (Nat.le_of_ble_eq_true rfl) rfl ?_)))))))
  have h_23 := ir_p0_0 hI hP
  refine v_gi (z := 0) (v := c P 0) rfl rfl (ck_p0 hP) (a68z hP) rfl rfl rfl (q_iconst rfl (v_isub (v := c P 0 - 1) rfl rfl (q_call rfl rfl rfl rfl (q_iload_n rfl rfl (q_iload_n rfl rfl ?_)))))
  by_cases h_24 : a1 < 0
  · refine v_ic_lt_t (t := 14) rfl rfl ⟨ha1.1, h_24, by decide⟩ (q_iconst rfl (v_zret rfl rfl (by decide) (bk_inl (v_cv rfl rfl rfl rfl (Nat.le_of_ble_eq_true rfl) ⟨⟨rfl, rfl⟩, Nat.le_of_ble_eq_true rfl, rfl⟩ (Nat.le_of_ble_eq_true rfl) (Nat.le_of_ble_eq_true rfl) (q_iload_n rfl rfl (v_if_ne_f (t := 25) rfl rfl (by decide) (q_aload_n rfl rfl ?_)))))))
    refine q_dup rfl rfl ?_
    have h_25 := ir_0_12 hI
    refine v_gi (z := 12) (v := c 0 12) rfl rfl rfl (Nat.le_of_ble_eq_true rfl) rfl rfl rfl (q_iconst rfl (v_iadd (v := c 0 12 + 1) rfl rfl (v_nrm (fun y_26 hy_26 => (v_pi (z := 12) rfl rfl rfl (Nat.le_of_ble_eq_true rfl) rfl rfl rfl (by decide) (v_new rfl rfl (by decide) (by omega) (Nat.le_of_ble_eq_true rfl) (by decide) rfl (bk_out rfl rfl (bk_out rfl rfl ?_))))))))
    have hI_27 := iw_0_12 (v := y_26) hI ⟨hy_26.1, hy_26.2⟩
    exact T100 _ hI_27 (fun a j hm => up_b (Decidable.or_iff_not_imp_left.mpr (fun h1 h2 => hm (Or.inl ⟨Decidable.not_not.mp h1, h2⟩))))
  · refine v_ic_lt_f (t := 14) rfl rfl ⟨by decide, (Int.not_lt.mp h_24), ha1.2⟩ (q_iload_n rfl rfl (q_iload_n rfl rfl ?_))
    by_cases h_28 : a1 > c P 0 - 1
    · refine v_ic_gt_t (t := 14) rfl rfl ⟨by first | exact rgm_l h_23.1 (by decide) | omega, h_28, ha1.2⟩ (q_iconst rfl (v_zret rfl rfl (by decide) (bk_inl (v_cv rfl rfl rfl rfl (Nat.le_of_ble_eq_true rfl) ⟨⟨rfl, rfl⟩, Nat.le_of_ble_eq_true rfl, rfl⟩ (Nat.le_of_ble_eq_true rfl) (Nat.le_of_ble_eq_true rfl) (q_iload_n rfl rfl (v_if_ne_f (t := 25) rfl rfl (by decide) (q_aload_n rfl rfl ?_)))))))
      refine q_dup rfl rfl ?_
      have h_29 := ir_0_12 hI
      refine v_gi (z := 12) (v := c 0 12) rfl rfl rfl (Nat.le_of_ble_eq_true rfl) rfl rfl rfl (q_iconst rfl (v_iadd (v := c 0 12 + 1) rfl rfl (v_nrm (fun y_30 hy_30 => (v_pi (z := 12) rfl rfl rfl (Nat.le_of_ble_eq_true rfl) rfl rfl rfl (by decide) (v_new rfl rfl (by decide) (by omega) (Nat.le_of_ble_eq_true rfl) (by decide) rfl (bk_out rfl rfl (bk_out rfl rfl ?_))))))))
      have hI_31 := iw_0_12 (v := y_30) hI ⟨hy_30.1, hy_30.2⟩
      exact T100 _ hI_31 (fun a j hm => up_b (Decidable.or_iff_not_imp_left.mpr (fun h1 h2 => hm (Or.inl ⟨Decidable.not_not.mp h1, h2⟩))))
    · refine v_ic_gt_f (t := 14) rfl rfl ⟨ha1.1, (Int.not_lt.mp h_28), by first | exact rgm_h h_23.2 (by decide) | omega⟩ (q_iconst rfl (q_goto (t := 15) rfl rfl (v_zret rfl rfl (by decide) (bk_inl (v_cv rfl rfl rfl rfl (Nat.le_of_ble_eq_true rfl) ⟨⟨rfl, rfl⟩, Nat.le_of_ble_eq_true rfl, rfl⟩ (Nat.le_of_ble_eq_true rfl) (Nat.le_of_ble_eq_true rfl) (q_iload_n rfl rfl (v_if_ne_t (t := 25) rfl rfl (by decide) ?_)))))))
      refine q_vret rfl rfl (bk_inl (q_vret rfl rfl (bk_inl (q_aload_n rfl rfl (q_aload_n rfl rfl (q_iload_n rfl rfl (v_cv rfl rfl rfl rfl (Nat.le_of_ble_eq_true rfl) ⟨⟨rfl, rfl⟩, Nat.le_of_ble_eq_true rfl, rfl⟩ (Nat.le_of_ble_eq_true rfl) (Nat.le_of_ble_eq_true rfl) (s_117 (a1 := a2) hI (show (-2147483648) ≤ a2 ∧ a2 ≤ 2147483647 from ha2) (fun y_32 hy_32 h_33 => ?_)))))))))
      refine bk_inl ?_
      by_cases h_34 : y_32 = 0
      · refine v_if_eq_t (t := 29) rfl rfl h_34 (q_iconst rfl (v_cv rfl rfl rfl rfl (Nat.le_of_ble_eq_true rfl) ⟨⟨rfl, rfl⟩, Nat.le_of_ble_eq_true rfl, rfl⟩ (Nat.le_of_ble_eq_true rfl) (Nat.le_of_ble_eq_true rfl) (q_iload_n rfl rfl (v_if_ne_f (t := 25) rfl rfl (by decide) (q_aload_n rfl rfl (q_dup rfl rfl ?_))))))
        have h_35 := ir_0_13 hI
        refine v_gi (z := 13) (v := c 0 13) rfl rfl rfl (Nat.le_of_ble_eq_true rfl) rfl rfl rfl (q_iconst rfl (v_iadd (v := c 0 13 + 1) rfl rfl (v_nrm (fun y_36 hy_36 => (v_pi (z := 13) rfl rfl rfl (Nat.le_of_ble_eq_true rfl) rfl rfl rfl (by decide) (v_new rfl rfl (by decide) (by omega) (Nat.le_of_ble_eq_true rfl) (by decide) rfl (bk_out rfl rfl ?_)))))))
        have hI_37 := iw_0_13 (v := y_36) hI ⟨hy_36.1, hy_36.2⟩
        exact T101 _ hI_37 (fun a j hm => up_b (Decidable.or_iff_not_imp_left.mpr (fun h1 h2 => hm (Or.inr ⟨Decidable.not_not.mp h1, h2⟩))))
      · refine v_if_eq_f (t := 29) rfl rfl ⟨h_34, ⟨(Int.le_trans (by decide) hy_32.1), (Int.le_trans hy_32.2 (by decide))⟩, by decide, by decide⟩ (q_iload_n rfl rfl (q_iconst rfl (v_ldcw (n := 99999) rfl rfl (by decide +kernel) (q_call rfl rfl rfl rfl (q_iload_n rfl rfl (q_iload_n rfl rfl ?_))))))
        by_cases h_38 : a3 < 0
        · refine v_ic_lt_t (t := 14) rfl rfl ⟨ha3.1, h_38, by decide⟩ (q_iconst rfl (v_zret rfl rfl (by decide) (bk_inl (v_if_eq_t (t := 29) rfl rfl (by decide) (q_iconst rfl (v_cv rfl rfl rfl rfl (Nat.le_of_ble_eq_true rfl) ⟨⟨rfl, rfl⟩, Nat.le_of_ble_eq_true rfl, rfl⟩ (Nat.le_of_ble_eq_true rfl) (Nat.le_of_ble_eq_true rfl) (q_iload_n rfl rfl ?_)))))))
          refine v_if_ne_f (t := 25) rfl rfl (by decide) (q_aload_n rfl rfl (q_dup rfl rfl ?_))
          have h_39 := ir_0_13 hI
          refine v_gi (z := 13) (v := c 0 13) rfl rfl rfl (Nat.le_of_ble_eq_true rfl) rfl rfl rfl (q_iconst rfl (v_iadd (v := c 0 13 + 1) rfl rfl (v_nrm (fun y_40 hy_40 => (v_pi (z := 13) rfl rfl rfl (Nat.le_of_ble_eq_true rfl) rfl rfl rfl (by decide) (v_new rfl rfl (by decide) (by omega) (Nat.le_of_ble_eq_true rfl) (by decide) rfl (bk_out rfl rfl ?_)))))))
          have hI_41 := iw_0_13 (v := y_40) hI ⟨hy_40.1, hy_40.2⟩
          exact T101 _ hI_41 (fun a j hm => up_b (Decidable.or_iff_not_imp_left.mpr (fun h1 h2 => hm (Or.inr ⟨Decidable.not_not.mp h1, h2⟩))))
        · refine v_ic_lt_f (t := 14) rfl rfl ⟨by decide, (Int.not_lt.mp h_38), ha3.2⟩ (q_iload_n rfl rfl (q_iload_n rfl rfl ?_))
          by_cases h_42 : a3 > 99999
          · refine v_ic_gt_t (t := 14) rfl rfl ⟨by decide, h_42, ha3.2⟩ (q_iconst rfl (v_zret rfl rfl (by decide) (bk_inl (v_if_eq_t (t := 29) rfl rfl (by decide) (q_iconst rfl (v_cv rfl rfl rfl rfl (Nat.le_of_ble_eq_true rfl) ⟨⟨rfl, rfl⟩, Nat.le_of_ble_eq_true rfl, rfl⟩ (Nat.le_of_ble_eq_true rfl) (Nat.le_of_ble_eq_true rfl) (q_iload_n rfl rfl ?_)))))))
            refine v_if_ne_f (t := 25) rfl rfl (by decide) (q_aload_n rfl rfl (q_dup rfl rfl ?_))
            have h_43 := ir_0_13 hI
            refine v_gi (z := 13) (v := c 0 13) rfl rfl rfl (Nat.le_of_ble_eq_true rfl) rfl rfl rfl (q_iconst rfl (v_iadd (v := c 0 13 + 1) rfl rfl (v_nrm (fun y_44 hy_44 => (v_pi (z := 13) rfl rfl rfl (Nat.le_of_ble_eq_true rfl) rfl rfl rfl (by decide) (v_new rfl rfl (by decide) (by omega) (Nat.le_of_ble_eq_true rfl) (by decide) rfl (bk_out rfl rfl ?_)))))))
            have hI_45 := iw_0_13 (v := y_44) hI ⟨hy_44.1, hy_44.2⟩
            exact T101 _ hI_45 (fun a j hm => up_b (Decidable.or_iff_not_imp_left.mpr (fun h1 h2 => hm (Or.inr ⟨Decidable.not_not.mp h1, h2⟩))))
          · refine v_ic_gt_f (t := 14) rfl rfl ⟨ha3.1, (Int.not_lt.mp h_42), by decide⟩ (q_iconst rfl (q_goto (t := 15) rfl rfl (v_zret rfl rfl (by decide) (bk_inl (v_if_eq_f (t := 29) rfl rfl (by decide) (q_iconst rfl (q_goto (t := 30) rfl rfl ?_)))))))
            refine v_cv rfl rfl rfl rfl (Nat.le_of_ble_eq_true rfl) ⟨⟨rfl, rfl⟩, Nat.le_of_ble_eq_true rfl, rfl⟩ (Nat.le_of_ble_eq_true rfl) (Nat.le_of_ble_eq_true rfl) (q_iload_n rfl rfl (v_if_ne_t (t := 25) rfl rfl (by decide) (q_vret rfl rfl (bk_inl (q_iload_n rfl rfl (q_iload_n rfl rfl (v_ishrx rfl (fun y_46 hy_46 => ?_))))))))
            refine q_iconst rfl (v_iandx rfl (fun y_47 hy_47 => ?_))
            by_cases h_48 : y_47 ≠ 0
            · refine v_if_ne_t (t := 43) rfl rfl ⟨h_48, ⟨hy_47.1, hy_47.2⟩, by decide, by decide⟩ (q_iconst rfl (q_istore rfl (Nat.le_of_ble_eq_true rfl) (v_sip rfl (by decide) (q_istore rfl (Nat.le_of_ble_eq_true rfl) (q_iconst rfl (q_istore rfl (Nat.le_of_ble_eq_true rfl) (Wp_ls [(0, .ref 0), (1, vi a1), (2, vi a2), (3, vi a3), (4, vi 0), (5, vi 10000), (6, vi 0)] (lsub_cons rfl (lsub_cons rfl (lsub_cons rfl (lsub_cons rfl (lsub_cons rfl (lsub_cons rfl (lsub_cons rfl lsub_nil))))))) ?_)))))))
              exact (s_125_l (sc := sc) (d := d) hI ha1 ha2 ha3 T100 T101 K 68) c 0 10000 0 hI (fun a j hm => rfl) ⟨by decide, by decide⟩ ⟨by decide, by decide⟩ ⟨by decide, by decide⟩ ⟨by first | exact q_720657ba9 h_24 | (clear ha1 ha2 ha3 h_23 h_28 h_38 h_42 h_33 h_34 h_48; omega) | omega, by first | exact q_3a2e67ab0 h_23 h_28 | (clear ha1 ha2 ha3 h_24 h_38 h_42 h_33 h_34 h_48; omega) | omega⟩ (by omega)
            · refine v_if_ne_f (t := 43) rfl rfl (Decidable.not_not.mp h_48) (q_iconst rfl (q_iret rfl rfl ?_))
              exact K c 0 hI (fun a j hm => rfl) ⟨by decide, by decide⟩

set_option maxRecDepth 100000 in
set_option maxHeartbeats 4000000 in
theorem s_126_l {sc : List Int32} {e : Int} {d u P Q : Nat} {c : ME} {a1 : Int} {a2 : Int} {Z : AR → Prop} (hI : Iv u e P Q c) (ha1 : 0 ≤ a1 ∧ a1 ≤ 3) (ha2 : 0 ≤ a2 ∧ a2 ≤ 5) (K : ∀ (y : Int), 0 ≤ y ∧ y ≤ 1 → Z (.inl (some (vi y)), Wd P Q P P c, 0, 0)) : ∀ n : Nat, (∀ (v3 : Int), 0 ≤ v3 ∧ v3 ≤ 4 → 9 - 2 * v3 < (n : Int) → Wp sc (d + 10) 126 2 [(0, .ref 0), (1, vi a1), (2, vi a2), (3, vi v3)] [] (Wd P Q P P c) 0 0 Z)
  | 0 => by intro v3 hv3 hm9; have hP := iv_P hI; have hQ := iv_Q hI; exfalso; omega
  | n + 1 => by
    have hP := iv_P hI
    have hQ := iv_Q hI
    have ih := s_126_l (sc := sc) (d := d) hI ha1 ha2 K n
    intro v3 hv3 hm9
    refine q_iload_n rfl rfl (q_iconst rfl ?_)
    by_cases h_1 : v3 ≥ 4
    · refine v_ic_ge_t (t := 47) rfl rfl ⟨by decide, h_1, (Int.le_trans hv3.2 (by decide))⟩ (q_iconst rfl (v_zret rfl rfl (by decide) ?_))
      exact K 1 ⟨by decide, by decide⟩
    · refine v_ic_ge_f (t := 47) rfl rfl ⟨(Int.le_trans (by decide) hv3.1), (Int.not_le.mp h_1), by decide⟩ (q_aload_n rfl rfl (v_gr (t := P) rfl rfl rfl (Nat.le_of_ble_eq_true rfl) rfl (v_gr (t := (P + 6)) rfl rfl (ck_p0 hP) (a68z hP) rfl (q_iload_n rfl rfl ?_))))
      have h_2 := ir_p6 hI hP v3
      refine v_ia (v := c (P + 6) v3) rfl (ck_p6 hP) (a68 hP rfl) (by decide) ⟨hv3.1, by first | exact q_2e808647e h_1 | omega⟩ rfl (q_istore rfl (Nat.le_of_ble_eq_true rfl) (q_iload rfl rfl (q_iconst rfl ?_)))
      by_cases h_3 : c (P + 6) v3 = (-1)
      · refine v_ic_eq_t (t := 41) rfl rfl h_3 (v_iinc (v := v3 + 1) rfl rfl (Nat.le_of_ble_eq_true rfl) rfl (q_goto (t := 2) rfl rfl (Wp_ls [(0, .ref 0), (1, vi a1), (2, vi a2), (3, vi (v3 + 1))] (lsub_cons rfl (lsub_cons rfl (lsub_cons rfl (lsub_cons rfl lsub_nil)))) ?_)))
        exact ih (v3 + 1) ⟨by first | exact rgp_l hv3.1 (by decide) | omega, by first | exact q_121241f94 h_1 | omega⟩ (by omega)
      · refine v_ic_eq_f (t := 41) rfl rfl ⟨h_3, ⟨(Int.le_trans (by decide) h_2.1), (Int.le_trans h_2.2 (by decide))⟩, by decide, by decide⟩ (q_iload rfl rfl (q_aload_n rfl rfl (v_gr (t := 37) rfl rfl rfl (Nat.le_of_ble_eq_true rfl) rfl (q_iload_n rfl rfl (q_iload_n rfl rfl (q_iload_n rfl rfl ?_))))))
        have h_4 := ir_p3 hI hP a1
        have h_5 := ir_38 hI 30
        have h_6 := ir_38_g hI (j := 4 * a2 + v3) (by first | exact q_e3e978779 h_1 ha2 | (clear ha1 hv3 h_2 h_4 h_5 h_3; omega) | omega)
        have h_7 := fal_rng (m := c (P + 3) a1) (t := tb (c 38 30) a1) (g := v3) (x := c 38 (4 * a2 + v3)) (by omega)
        refine v_cv rfl rfl rfl rfl (Nat.le_of_ble_eq_true rfl) ⟨⟨rfl, rfl⟩, Nat.le_of_ble_eq_true rfl, rfl⟩ (Nat.le_of_ble_eq_true rfl) (Nat.le_of_ble_eq_true rfl) (s_48 (v1 := c (P + 3) a1) (v2 := c 38 30) (v3 := c 38 (4 * a2 + v3)) (r := (fal (c (P + 3) a1) (tb (c 38 30) a1) v3 (c 38 (4 * a2 + v3)))) (a1 := a1) (a2 := a2) (a3 := v3) hI (.inl ⟨rfl, rfl⟩) (show 0 ≤ a1 ∧ a1 ≤ 3 from ha1) (show 0 ≤ a2 ∧ a2 ≤ 5 from ha2) (show 0 ≤ v3 ∧ v3 ≤ 3 from ⟨hv3.1, by first | exact q_482ef8d41 h_1 | (clear ha1 ha2 hv3 h_2 h_3; omega) | omega⟩) (rfl) (rfl) (rfl) rfl (bk_inl ?_))
        by_cases h_8 : c (P + 6) v3 = (fal (c (P + 3) a1) (tb (c 38 30) a1) v3 (c 38 (4 * a2 + v3)))
        · refine v_ic_eq_t (t := 41) rfl rfl h_8 (v_iinc (v := v3 + 1) rfl rfl (Nat.le_of_ble_eq_true rfl) rfl (q_goto (t := 2) rfl rfl (Wp_ls [(0, .ref 0), (1, vi a1), (2, vi a2), (3, vi (v3 + 1))] (lsub_cons rfl (lsub_cons rfl (lsub_cons rfl (lsub_cons rfl lsub_nil)))) ?_)))
          exact ih (v3 + 1) ⟨by first | exact rgp_l hv3.1 (by decide) | omega, by first | exact q_121241f94 h_1 | (clear ha1 ha2 hv3 h_2 h_4 h_5 h_6 h_7 h_8 h_3; omega) | omega⟩ (by omega)
        · refine v_ic_eq_f (t := 41) rfl rfl ⟨h_8, ⟨(Int.le_trans (by decide) h_2.1), (Int.le_trans h_2.2 (by decide))⟩, by first | (clear ha1 ha2 hv3 h_1 h_2 h_4 h_5 h_6 h_3; omega) | omega, by first | (clear ha1 ha2 hv3 h_1 h_2 h_4 h_5 h_3; omega) | omega⟩ (q_iconst rfl (v_zret rfl rfl (by decide) ?_))
          exact K 0 ⟨by decide, by decide⟩
set_option maxRecDepth 100000 in
set_option maxHeartbeats 4000000 in
theorem s_126 {sc : List Int32} {e : Int} {d u P Q : Nat} {c : ME} {a1 : Int} {a2 : Int} {Z : AR → Prop} (hI : Iv u e P Q c) (ha1 : 0 ≤ a1 ∧ a1 ≤ 3) (ha2 : 0 ≤ a2 ∧ a2 ≤ 5) (K : ∀ (y : Int), 0 ≤ y ∧ y ≤ 1 → Z (.inl (some (vi y)), Wd P Q P P c, 0, 0)) : Wp sc (d + 10) 126 0 [(0, .ref 0), (1, vi a1), (2, vi a2)] [] (Wd P Q P P c) 0 0 Z := by
  have hP := iv_P hI
  have hQ := iv_Q hI
  refine q_iconst rfl (q_istore_n rfl (Nat.le_of_ble_eq_true rfl) (Wp_ls [(0, .ref 0), (1, vi a1), (2, vi a2), (3, vi 0)] (lsub_cons rfl (lsub_cons rfl (lsub_cons rfl (lsub_cons rfl lsub_nil)))) ?_))
  exact (s_126_l (sc := sc) (d := d) hI ha1 ha2 K 12) 0 ⟨by decide, by decide⟩ (by omega)

set_option maxRecDepth 100000 in
set_option maxHeartbeats 4000000 in
theorem s_127_l {sc : List Int32} {e : Int} {d u P Q : Nat} {c : ME} {Z : AR → Prop} (hI : Iv u e P Q c)  (K : ∀ (c2 : ME) (y : Int), Iv u e P Q c2 → (∀ (a : Nat) (j : Int), ¬ (a = 10) → c2 a j = c a j) → 0 ≤ y ∧ y ≤ 24 → Z (.inl (some (vi y)), Wd P Q P P c2, 0, 0)) : ∀ n : Nat, (∀ (c2 : ME) (v1 : Int) (v2 : Int), Iv u e P Q c2 → (∀ (a : Nat) (j : Int), ¬ (a = 10) → c2 a j = c a j) → 0 ≤ v1 ∧ v1 ≤ 24 → 0 ≤ v2 ∧ v2 ≤ 4 → ((v1 ≤ 6 * v2)) → 84 - 17 * v2 < (n : Int) → Wp sc (d + 11) 127 4 [(0, .ref 0), (1, vi v1), (2, vi v2)] [] (Wd P Q P P c2) 0 0 Z) ∧ (∀ (c2 : ME) (v1 : Int) (v2 : Int) (v3 : Int), Iv u e P Q c2 → (∀ (a : Nat) (j : Int), ¬ (a = 10) → c2 a j = c a j) → 0 ≤ v1 ∧ v1 ≤ 24 → 0 ≤ v2 ∧ v2 ≤ 3 → 0 ≤ v3 ∧ v3 ≤ 6 → ((v1 ≤ 6 * v2 + v3)) → 81 - 17 * v2 - 2 * v3 < (n : Int) → Wp sc (d + 11) 127 17 [(0, .ref 0), (1, vi v1), (2, vi v2), (3, vi v3)] [] (Wd P Q P P c2) 0 0 Z)
  | 0 => by exact ⟨by (intro c2 v1 v2 hI2 hF hv1 hv2 hx0 hm9; have hP := iv_P hI; have hQ := iv_Q hI; exfalso; omega), by (intro c2 v1 v2 v3 hI2 hF hv1 hv2 hv3 hx0 hm9; have hP := iv_P hI; have hQ := iv_Q hI; exfalso; omega)⟩
  | n + 1 => by
    have hP := iv_P hI
    have hQ := iv_Q hI
    have ih := s_127_l (sc := sc) (d := d) hI K n
    refine ⟨?_, ?_⟩
    · skip
      intro c2 v1 v2 hI2 hF hv1 hv2 hx0 hm9
      refine q_iload_n rfl rfl (q_aload_n rfl rfl (v_gr (t := P) rfl rfl rfl (Nat.le_of_ble_eq_true rfl) rfl ?_))
      have h_1 := ir_p0_2 hI hP
      have kn_2 : Hid (c2 P 2 = c P 2) := hF P 2 (fun h => absurd h (np0 hP rfl))
      refine v_gi (z := 2) (v := c P 2) rfl rfl (ck_p0 hP) (a68z hP) rfl rfl (hid kn_2) ?_
      by_cases h_3 : v2 ≥ c P 2
      · refine v_ic_ge_t (t := 75) rfl rfl ⟨by first | exact q_0bfe68f8e h_1 | omega, h_3, (Int.le_trans hv2.2 (by decide))⟩ (q_iload_n rfl rfl (q_iret rfl rfl ?_))
        exact K c2 v1 hI2 (fun a j hm => hF a j (fun h => hm h)) hv1
      · refine v_ic_ge_f (t := 75) rfl rfl ⟨(Int.le_trans (by decide) hv2.1), (Int.not_le.mp h_3), by first | exact q_82d4f69ff h_1 | omega⟩ (q_iconst rfl (q_istore_n rfl (Nat.le_of_ble_eq_true rfl) (Wp_ls [(0, .ref 0), (1, vi v1), (2, vi v2), (3, vi 0)] (lsub_cons rfl (lsub_cons rfl (lsub_cons rfl (lsub_cons rfl lsub_nil)))) ?_)))
        exact ih.2 c2 v1 v2 0 hI2 (fun a j hm => hF a j (fun h => hm h)) hv1 ⟨hv2.1, by first | exact q_40332f6ca h_1 h_3 | omega⟩ ⟨by decide, by decide⟩ (by omega) (by omega)
    · skip
      intro c2 v1 v2 v3 hI2 hF hv1 hv2 hv3 hx0 hm9
      refine q_iload_n rfl rfl (q_aload_n rfl rfl (v_gr (t := P) rfl rfl rfl (Nat.le_of_ble_eq_true rfl) rfl ?_))
      have h_4 := ir_p0_0 hI hP
      have kn_5 : Hid (c2 P 0 = c P 0) := hF P 0 (fun h => absurd h (np0 hP rfl))
      refine v_gi (z := 0) (v := c P 0) rfl rfl (ck_p0 hP) (a68z hP) rfl rfl (hid kn_5) ?_
      by_cases h_6 : v3 ≥ c P 0
      · refine v_ic_ge_t (t := 69) rfl rfl ⟨by first | exact q_730ab5169 h_4 | omega, h_6, (Int.le_trans hv3.2 (by decide))⟩ (v_iinc (v := v2 + 1) rfl rfl (Nat.le_of_ble_eq_true rfl) rfl (q_goto (t := 4) rfl rfl (Wp_ls [(0, .ref 0), (1, vi v1), (2, vi (v2 + 1))] (lsub_cons rfl (lsub_cons rfl (lsub_cons rfl lsub_nil))) ?_)))
        exact ih.1 c2 v1 (v2 + 1) hI2 (fun a j hm => hF a j (fun h => hm h)) hv1 ⟨by first | exact rgp_l hv2.1 (by decide) | omega, by first | exact rgp_h hv2.2 (by decide) | omega⟩ (by omega) (by omega)
      · refine v_ic_ge_f (t := 69) rfl rfl ⟨(Int.le_trans (by decide) hv3.1), (Int.not_le.mp h_6), by first | exact q_b289b7db2 h_4 | omega⟩ (q_aload_n rfl rfl (v_gr (t := 37) rfl rfl rfl (Nat.le_of_ble_eq_true rfl) rfl (q_iload_n rfl rfl ?_)))
        have h_7 := ir_38_g hI (j := 4 * v3) (by first | exact q_aa51b186e h_4 h_6 | omega)
        have kn_8 : Hid (c2 38 (4 * v3) = c 38 (4 * v3)) := hF 38 (4 * v3) (fun h => absurd h (nn rfl))
        have h_9 := ir_38_g hI (j := 4 * v3 + 1) (by first | exact q_57851f9de h_4 h_6 | omega)
        have kn_10 : Hid (c2 38 (4 * v3 + 1) = c 38 (4 * v3 + 1)) := hF 38 (4 * v3 + 1) (fun h => absurd h (nn rfl))
        have h_11 := ir_38_g hI (j := 4 * v3 + 2) (by first | exact q_7296e74e6 h_4 h_6 | omega)
        have kn_12 : Hid (c2 38 (4 * v3 + 2) = c 38 (4 * v3 + 2)) := hF 38 (4 * v3 + 2) (fun h => absurd h (nn rfl))
        have h_13 := ir_38_g hI (j := 4 * v3 + 3) (by first | exact q_b15525c4c h_4 h_6 | omega)
        have kn_14 : Hid (c2 38 (4 * v3 + 3) = c 38 (4 * v3 + 3)) := hF 38 (4 * v3 + 3) (fun h => absurd h (nn rfl))
        refine v_cv rfl rfl rfl rfl (Nat.le_of_ble_eq_true rfl) ⟨⟨rfl, rfl⟩, Nat.le_of_ble_eq_true rfl, rfl⟩ (Nat.le_of_ble_eq_true rfl) (Nat.le_of_ble_eq_true rfl) (s_43 (v1 := c 38 (4 * v3)) (v2 := c 38 (4 * v3 + 1)) (v3 := c 38 (4 * v3 + 2)) (v4 := c 38 (4 * v3 + 3)) (r := c 38 (4 * v3 + 1) + c 38 (4 * v3 + 2) + c 38 (4 * v3 + 3) + c 38 (4 * v3)) (a1 := v3) hI2 (.inl ⟨rfl, rfl⟩) (show 0 ≤ v3 ∧ v3 ≤ 5 from ⟨hv3.1, by first | exact q_d63a8538e h_4 h_6 | omega⟩) ((hid kn_8)) ((hid kn_10)) ((hid kn_12)) ((hid kn_14)) (by omega) (bk_inl ?_))
        by_cases h_15 : c 38 (4 * v3 + 1) + c 38 (4 * v3 + 2) + c 38 (4 * v3 + 3) + c 38 (4 * v3) ≤ 0
        · refine v_if_le_t (t := 63) rfl rfl ⟨by first | exact q_df6958c12 h_11 h_13 h_7 h_9 | omega, h_15, by decide⟩ (v_iinc (v := v3 + 1) rfl rfl (Nat.le_of_ble_eq_true rfl) rfl (q_goto (t := 17) rfl rfl (Wp_ls [(0, .ref 0), (1, vi v1), (2, vi v2), (3, vi (v3 + 1))] (lsub_cons rfl (lsub_cons rfl (lsub_cons rfl (lsub_cons rfl lsub_nil)))) ?_)))
          exact ih.2 c2 v1 v2 (v3 + 1) hI2 (fun a j hm => hF a j (fun h => hm h)) hv1 hv2 ⟨by first | exact rgp_l hv3.1 (by decide) | omega, by first | exact q_4a76cd9c7 h_4 h_6 | omega⟩ (by omega) (by omega)
        · refine v_if_le_f (t := 63) rfl rfl ⟨by decide, (Int.not_le.mp h_15), by first | exact q_e2451768c h_11 h_13 h_7 h_9 | omega⟩ (q_aload_n rfl rfl (q_iload_n rfl rfl (q_iload_n rfl rfl (v_cv rfl rfl rfl rfl (Nat.le_of_ble_eq_true rfl) ⟨⟨rfl, rfl⟩, Nat.le_of_ble_eq_true rfl, rfl⟩ (Nat.le_of_ble_eq_true rfl) (Nat.le_of_ble_eq_true rfl) (s_126 (a1 := v2) (a2 := v3) hI2 (show 0 ≤ v2 ∧ v2 ≤ 3 from hv2) (show 0 ≤ v3 ∧ v3 ≤ 5 from ⟨hv3.1, by first | exact q_d63a8538e h_4 h_6 | omega⟩) (fun y_16 hy_16 => (bk_inl ?_)))))))
          by_cases h_17 : y_16 = 0
          · refine v_if_eq_t (t := 63) rfl rfl h_17 (v_iinc (v := v3 + 1) rfl rfl (Nat.le_of_ble_eq_true rfl) rfl (q_goto (t := 17) rfl rfl (Wp_ls [(0, .ref 0), (1, vi v1), (2, vi v2), (3, vi (v3 + 1))] (lsub_cons rfl (lsub_cons rfl (lsub_cons rfl (lsub_cons rfl lsub_nil)))) ?_)))
            exact ih.2 c2 v1 v2 (v3 + 1) hI2 (fun a j hm => hF a j (fun h => hm h)) hv1 hv2 ⟨by first | exact rgp_l hv3.1 (by decide) | omega, by first | exact q_4a76cd9c7 h_4 h_6 | omega⟩ (by omega) (by omega)
          · refine v_if_eq_f (t := 63) rfl rfl ⟨h_17, ⟨(Int.le_trans (by decide) hy_16.1), (Int.le_trans hy_16.2 (by decide))⟩, by decide, by decide⟩ (q_aload_n rfl rfl (v_gr (t := 10) rfl rfl rfl (Nat.le_of_ble_eq_true rfl) rfl (q_iload_n rfl rfl (v_bip rfl (by decide) (q_iload_n rfl rfl (v_imul (v := 10 * v2) rfl rfl (q_iload_n rfl rfl ?_)))))))
            refine v_iadd (v := 10 * v2 + v3) rfl rfl (v_is rfl rfl (by decide) (by decide) ⟨hv1.1, by first | (clear hv1 hv3 h_7 h_9 h_11 h_13 h_15 h_17; omega) | omega⟩ (v_iinc (v := v1 + 1) rfl rfl (Nat.le_of_ble_eq_true rfl) rfl (v_iinc (v := v3 + 1) rfl rfl (Nat.le_of_ble_eq_true rfl) rfl (q_goto (t := 17) rfl rfl ?_))))
            have hI_18 := iw_10 (j := v1) (v := 10 * v2 + v3) hI2 ⟨by omega, by omega⟩ (by omega)
            refine Wp_ls [(0, .ref 0), (1, vi (v1 + 1)), (2, vi v2), (3, vi (v3 + 1))] (lsub_cons rfl (lsub_cons rfl (lsub_cons rfl (lsub_cons rfl lsub_nil)))) ?_
            exact ih.2 (up c2 10 v1 (10 * v2 + v3)) (v1 + 1) v2 (v3 + 1) hI_18 (fun a j hm => (up_b (Decidable.or_iff_not_imp_left.mpr (fun h1 h2 => hm (Decidable.not_not.mp h1)))).trans (hF a j (fun h => hm h))) ⟨by first | exact rgp_l hv1.1 (by decide) | omega, by first | (clear hv1 hv3 h_7 h_9 h_11 h_13 h_15 h_17; omega) | omega⟩ hv2 ⟨by first | exact rgp_l hv3.1 (by decide) | omega, by first | exact q_4a76cd9c7 h_4 h_6 | (clear hv1 hv2 hv3 hx0 h_7 h_9 h_11 h_13 h_15 h_17; omega) | omega⟩ (by first | (clear hv1 hv2 hv3 h_4 h_6 h_7 h_9 h_11 h_13 h_15 h_17; omega) | omega) (by omega)
set_option maxRecDepth 100000 in
set_option maxHeartbeats 4000000 in
theorem s_127 {sc : List Int32} {e : Int} {d u P Q : Nat} {c : ME} {Z : AR → Prop} (hI : Iv u e P Q c)  (K : ∀ (c2 : ME) (y : Int), Iv u e P Q c2 → (∀ (a : Nat) (j : Int), ¬ (a = 10) → c2 a j = c a j) → 0 ≤ y ∧ y ≤ 24 → Z (.inl (some (vi y)), Wd P Q P P c2, 0, 0)) : Wp sc (d + 11) 127 0 [(0, .ref 0)] [] (Wd P Q P P c) 0 0 Z := by
  have hP := iv_P hI
  have hQ := iv_Q hI
  refine q_iconst rfl (q_istore_n rfl (Nat.le_of_ble_eq_true rfl) (q_iconst rfl (q_istore_n rfl (Nat.le_of_ble_eq_true rfl) (Wp_ls [(0, .ref 0), (1, vi 0), (2, vi 0)] (lsub_cons rfl (lsub_cons rfl (lsub_cons rfl lsub_nil))) ?_))))
  exact (s_127_l (sc := sc) (d := d) hI K 87).1 c 0 0 hI (fun a j hm => rfl) ⟨by decide, by decide⟩ ⟨by decide, by decide⟩ (by first | decide | omega) (by omega)

set_option maxRecDepth 100000 in
set_option maxHeartbeats 4000000 in
theorem s_128 {sc : List Int32} {e : Int} {d u P Q : Nat} {c : ME} {a1 : Int} {Z : AR → Prop} (hI : Iv u e P Q c) (ha1 : (-2147483648) ≤ a1 ∧ a1 ≤ 2147483647) (T101 : ∀ c2 : ME, Iv u e P Q c2 → (∀ (a : Nat) (j : Int), ¬ ((a = 0 ∧ j = 13) ∨ a = 10) → c2 a j = c a j) → Z (.inr 101, Wd P Q P P c2, 1, 6)) (K : ∀ (c2 : ME) (y : Int), Iv u e P Q c2 → (∀ (a : Nat) (j : Int), ¬ ((a = 0 ∧ j = 13) ∨ a = 10) → c2 a j = c a j) → (-2147483648) ≤ y ∧ y ≤ 2147483647 → Z (.inl (some (vi y)), Wd P Q P P c2, 0, 0)) : Wp sc (d + 12) 128 0 [(0, .ref 0), (1, vi a1)] [] (Wd P Q P P c) 0 0 Z := by
  have hP := iv_P hI
  have hQ := iv_Q hI
  refine q_aload_n rfl rfl (q_iload_n rfl rfl (q_iconst rfl (q_iconst rfl (q_call rfl rfl rfl rfl (q_iload_n rfl rfl (q_iload_n rfl rfl ?_))))))
  by_cases h_1 : a1 < 0
  · refine v_ic_lt_t (t := 14) rfl rfl ⟨ha1.1, h_1, by decide⟩ (q_iconst rfl (v_zret rfl rfl (by decide) (bk_inl (v_cv rfl rfl rfl rfl (Nat.le_of_ble_eq_true rfl) ⟨⟨rfl, rfl⟩, Nat.le_of_ble_eq_true rfl, rfl⟩ (Nat.le_of_ble_eq_true rfl) (Nat.le_of_ble_eq_true rfl) (q_iload_n rfl rfl (v_if_ne_f (t := 25) rfl rfl (by decide) (q_aload_n rfl rfl ?_)))))))
    refine q_dup rfl rfl ?_
    have h_2 := ir_0_13 hI
    refine v_gi (z := 13) (v := c 0 13) rfl rfl rfl (Nat.le_of_ble_eq_true rfl) rfl rfl rfl (q_iconst rfl (v_iadd (v := c 0 13 + 1) rfl rfl (v_nrm (fun y_3 hy_3 => (v_pi (z := 13) rfl rfl rfl (Nat.le_of_ble_eq_true rfl) rfl rfl rfl (by decide) (v_new rfl rfl (by decide) (by omega) (Nat.le_of_ble_eq_true rfl) (by decide) rfl (bk_out rfl rfl ?_)))))))
    have hI_4 := iw_0_13 (v := y_3) hI ⟨hy_3.1, hy_3.2⟩
    exact T101 _ hI_4 (fun a j hm => up_b (Decidable.or_iff_not_imp_left.mpr (fun h1 h2 => hm (Or.inl ⟨Decidable.not_not.mp h1, h2⟩))))
  · refine v_ic_lt_f (t := 14) rfl rfl ⟨by decide, (Int.not_lt.mp h_1), ha1.2⟩ (q_iload_n rfl rfl (q_iload_n rfl rfl ?_))
    by_cases h_5 : a1 > 1
    · refine v_ic_gt_t (t := 14) rfl rfl ⟨by decide, h_5, ha1.2⟩ (q_iconst rfl (v_zret rfl rfl (by decide) (bk_inl (v_cv rfl rfl rfl rfl (Nat.le_of_ble_eq_true rfl) ⟨⟨rfl, rfl⟩, Nat.le_of_ble_eq_true rfl, rfl⟩ (Nat.le_of_ble_eq_true rfl) (Nat.le_of_ble_eq_true rfl) (q_iload_n rfl rfl (v_if_ne_f (t := 25) rfl rfl (by decide) (q_aload_n rfl rfl ?_)))))))
      refine q_dup rfl rfl ?_
      have h_6 := ir_0_13 hI
      refine v_gi (z := 13) (v := c 0 13) rfl rfl rfl (Nat.le_of_ble_eq_true rfl) rfl rfl rfl (q_iconst rfl (v_iadd (v := c 0 13 + 1) rfl rfl (v_nrm (fun y_7 hy_7 => (v_pi (z := 13) rfl rfl rfl (Nat.le_of_ble_eq_true rfl) rfl rfl rfl (by decide) (v_new rfl rfl (by decide) (by omega) (Nat.le_of_ble_eq_true rfl) (by decide) rfl (bk_out rfl rfl ?_)))))))
      have hI_8 := iw_0_13 (v := y_7) hI ⟨hy_7.1, hy_7.2⟩
      exact T101 _ hI_8 (fun a j hm => up_b (Decidable.or_iff_not_imp_left.mpr (fun h1 h2 => hm (Or.inl ⟨Decidable.not_not.mp h1, h2⟩))))
    · refine v_ic_gt_f (t := 14) rfl rfl ⟨ha1.1, (Int.not_lt.mp h_5), by decide⟩ (q_iconst rfl (q_goto (t := 15) rfl rfl (v_zret rfl rfl (by decide) (bk_inl (v_cv rfl rfl rfl rfl (Nat.le_of_ble_eq_true rfl) ⟨⟨rfl, rfl⟩, Nat.le_of_ble_eq_true rfl, rfl⟩ (Nat.le_of_ble_eq_true rfl) (Nat.le_of_ble_eq_true rfl) (q_iload_n rfl rfl (v_if_ne_t (t := 25) rfl rfl (by decide) ?_)))))))
      refine q_vret rfl rfl (bk_inl (q_aload_n rfl rfl (v_cv rfl rfl rfl rfl (Nat.le_of_ble_eq_true rfl) ⟨⟨rfl, rfl⟩, Nat.le_of_ble_eq_true rfl, rfl⟩ (Nat.le_of_ble_eq_true rfl) (Nat.le_of_ble_eq_true rfl) (s_127 hI (fun c_9 y_12 hI_10 hF_11 hy_12 => (bk_inl (q_istore_n rfl (Nat.le_of_ble_eq_true rfl) (q_iload_n rfl rfl ?_))))))))
      by_cases h_13 : a1 ≠ 0
      · refine v_if_ne_t (t := 21) rfl rfl ⟨h_13, ⟨ha1.1, ha1.2⟩, by decide, by decide⟩ (q_iload_n rfl rfl ?_)
        by_cases h_14 : y_12 ≤ 0
        · refine v_if_le_t (t := 34) rfl rfl ⟨(Int.le_trans (by decide) hy_12.1), h_14, by decide⟩ (q_iconst rfl (q_iret rfl rfl ?_))
          exact K c_9 (-1) hI_10 (fun a j hm => hF_11 a j (fun h => hm (Or.inr h))) ⟨by decide, by decide⟩
        · refine v_if_le_f (t := 34) rfl rfl ⟨by decide, (Int.not_le.mp h_14), (Int.le_trans hy_12.2 (by decide))⟩ (q_aload_n rfl rfl (v_gr (t := 10) rfl rfl rfl (Nat.le_of_ble_eq_true rfl) rfl (q_iconst rfl ?_)))
          have h_15 := ir_10 hI_10 0
          have h_16 := ir_10_x hI_10 0
          refine v_ia (v := c_9 10 0) rfl rfl (by decide) (by decide) (by decide) rfl (q_goto (t := 35) rfl rfl (q_iret rfl rfl ?_))
          exact K c_9 (c_9 10 0) hI_10 (fun a j hm => hF_11 a j (fun h => hm (Or.inr h))) ⟨(Int.le_trans (by decide) h_15.1), (Int.le_trans h_15.2 (by decide))⟩
      · refine v_if_ne_f (t := 21) rfl rfl (Decidable.not_not.mp h_13) (q_iload_n rfl rfl (q_iret rfl rfl ?_))
        exact K c_9 y_12 hI_10 (fun a j hm => hF_11 a j (fun h => hm (Or.inr h))) ⟨(Int.le_trans (by decide) hy_12.1), (Int.le_trans hy_12.2 (by decide))⟩

set_option maxRecDepth 100000 in
set_option maxHeartbeats 4000000 in
theorem s_129 {sc : List Int32} {e : Int} {d u P Q : Nat} {c : ME} {a1 : Int} {a2 : Int} {Z : AR → Prop} (hI : Iv u e P Q c) (ha1 : 0 ≤ a1 ∧ a1 ≤ 35) (ha2 : 0 ≤ a2 ∧ a2 ≤ 3) (hq0 : ((a1 % 10) ≤ 5)) (K : ∀ (y : Int), (-2147483648) ≤ y ∧ y ≤ 2147483647 → Z (.inl (some (vi y)), Wd P Q P P c, 0, 0)) : Wp sc (d + 10) 129 0 [(0, .ref 0), (1, vi a1), (2, vi a2)] [] (Wd P Q P P c) 0 0 Z := by
  have hP := iv_P hI
  have hQ := iv_Q hI
  refine q_aload_n rfl rfl (v_gr (t := 37) rfl rfl rfl (Nat.le_of_ble_eq_true rfl) rfl (q_iload_n rfl rfl (v_bip rfl (by decide) (v_idiv (v := (a1 / 10)) rfl (by omega) rfl (q_iload_n rfl rfl (v_bip rfl (by decide) (v_irem (v := (a1 % 10)) rfl (by omega) rfl ?_)))))))
  refine q_iload_n rfl rfl ?_
  have h_1 := ir_p3 hI hP (a1 / 10)
  have h_2 := ir_38 hI 30
  have h_3 := ir_38_g hI (j := 4 * (a1 % 10) + a2) (by first | exact q_0171b43c7 ha2 hq0 | omega)
  have h_4 := fal_rng (m := c (P + 3) (a1 / 10)) (t := tb (c 38 30) (a1 / 10)) (g := a2) (x := c 38 (4 * (a1 % 10) + a2)) (by omega)
  refine v_cv rfl rfl rfl rfl (Nat.le_of_ble_eq_true rfl) ⟨⟨rfl, rfl⟩, Nat.le_of_ble_eq_true rfl, rfl⟩ (Nat.le_of_ble_eq_true rfl) (Nat.le_of_ble_eq_true rfl) (s_48 (v1 := c (P + 3) (a1 / 10)) (v2 := c 38 30) (v3 := c 38 (4 * (a1 % 10) + a2)) (r := (fal (c (P + 3) (a1 / 10)) (tb (c 38 30) (a1 / 10)) a2 (c 38 (4 * (a1 % 10) + a2)))) (a1 := (a1 / 10)) (a2 := (a1 % 10)) (a3 := a2) hI (.inl ⟨rfl, rfl⟩) (show 0 ≤ (a1 / 10) ∧ (a1 / 10) ≤ 3 from ⟨by omega, by omega⟩) (show 0 ≤ (a1 % 10) ∧ (a1 % 10) ≤ 5 from ⟨by omega, by first | exact q_06579a4a5 hq0 | omega⟩) (show 0 ≤ a2 ∧ a2 ≤ 3 from ha2) (rfl) (rfl) (rfl) rfl (bk_inl (q_iret rfl rfl ?_)))
  exact K (fal (c (P + 3) (a1 / 10)) (tb (c 38 30) (a1 / 10)) a2 (c 38 (4 * (a1 % 10) + a2))) ⟨by omega, by omega⟩

