/-! ===== contracts 10 ===== -/
theorem q_96fb51a24 {x0 x1 : Int} (f0 : ¬ (x0 ≥ x1)) (f1 : 0 ≤ x1 ∧ x1 ≤ 24) : x0 ≤ 23 := by omega
theorem q_d49973a5f {x0 : Int} (f0 : 0 ≤ x0 ∧ x0 ≤ 23) : x0 < 24 := by omega
theorem q_56a208ad1 {x0 x1 : Int} (f0 : ¬ (x0 ≥ x1)) (f1 : 0 ≤ x1 ∧ x1 ≤ 24) : x0 < 24 := by omega
theorem q_250c7ebb9 {x0 x1 : Int} (f0 : ¬ (x0 ≥ x1)) (f1 : 0 ≤ x1 ∧ x1 ≤ 24) : x0 + 1 ≤ 24 := by omega
theorem q_e46fec7e9 {x0 : Int} (f0 : ¬ (x0 ≠ 0)) : x0 + 1 ≤ 2147483647 := by omega
theorem q_9010c525b {x0 : Int} (f0 : ¬ (x0 > 99)) : x0 ≤ 99 := by omega
theorem q_7f2151846 {x0 : Int} (f0 : ¬ (x0 > 16)) : x0 ≤ 16 := by omega
theorem q_f19038599 {x0 : Int} (f0 : ¬ (x0 < 1)) : 1 ≤ x0 := by omega
theorem q_1cdd54b12 {x0 : Int} (f0 : ¬ (x0 > 48)) : x0 ≤ 48 := by omega
theorem q_92a66bdad {x0 : Int} (f0 : ¬ (x0 > 10)) : x0 ≤ 10 := by omega
theorem q_69a2a74e5 {x0 : Int} (f0 : 0 ≤ x0 ∧ x0 ≤ 16) (f1 : x0 ≠ 0) : 0 < x0 := by omega
theorem q_bb0e0e122 {x0 : Int} (f0 : 0 ≤ x0 ∧ x0 ≤ 16) (f1 : ¬ (x0 ≠ 0)) : x0 = 0 := by omega
theorem q_20607f14c {x0 : Int} (f0 : 0 ≤ x0 ∧ x0 ≤ 3) (f1 : x0 ≠ 3) : x0 ≤ 2 := by omega
theorem q_f16cccee8 {x0 : Int} (f0 : 0 ≤ x0 ∧ x0 ≤ 3) (f1 : ¬ (x0 ≠ 3)) : x0 = 3 := by omega
theorem q_c6195508a {x0 : Int} (f0 : 0 ≤ x0 ∧ x0 ≤ 3) (f1 : x0 ≠ 0) : 0 < x0 := by omega
theorem q_3cc4a238e {x0 : Int} (f0 : ¬ (x0 ≥ 37)) : x0 < 37 := by omega
theorem q_6a0ddf4b6 {x0 : Int} (f0 : ¬ (x0 ≥ 37)) : x0 + 1 ≤ 37 := by omega
theorem q_192ae6d23 {x0 : Int} (f0 : 0 ≤ x0 ∧ x0 ≤ 24) : x0 < 37 := by omega
theorem q_798f64f00 {x0 x1 : Int} (f0 : 0 ≤ x0 ∧ x0 ≤ 6) (f1 : ¬ (x1 ≥ 4 * x0)) : x1 + 1 ≤ 24 := by omega
theorem q_7164d7a2b {x0 : Int} (f0 : ¬ (x0 ≥ 20)) : x0 + 1 ≤ 20 := by omega
theorem q_295dd9ba7 {x0 : Int} (f0 : ¬ (x0 ≥ 16)) : x0 + 1 ≤ 20 := by omega
theorem q_265ba0740 {x0 : Int} (f0 : ¬ (x0 ≥ 12)) : x0 + 1 ≤ 20 := by omega
theorem q_ea4103e0d {x0 : Int} (f0 : ¬ (x0 ≥ 8)) : x0 + 1 ≤ 20 := by omega
theorem q_c3775e7c2 {x0 : Int} (f0 : ¬ (x0 ≥ 4)) : x0 + 1 ≤ 20 := by omega
theorem q_54b025b5a {x0 : Int} (f0 : x0 + 20 ≤ 600) : x0 ≤ 580 := by omega
theorem q_24fba09a9 {x0 : Int} (f0 : 0 ≤ x0 ∧ x0 ≤ 605) : ¬ x0 = (-1) := by omega
theorem q_c967a1259 {x0 : Int} (f0 : (-1) ≤ x0 ∧ x0 ≤ 605) (f1 : ¬ (x0 = (-1))) : ¬ x0 = (-1) := by omega
theorem q_a29fbb6d7 {x0 x1 : Int} (f0 : x0 ≥ x1) : x1 ≤ x0 := by omega
theorem q_ef0f4cfe4 {x0 : Int} : (x0) = x0 := by omega
theorem q_d17d18138 {x0 x1 : Int} (f0 : ¬ (x0 ≥ x1)) : x0 < x1 := by omega
theorem q_5fcb01701 {x0 x1 : Int} (f0 : ¬ (x0 ≥ x1)) : x0 ≤ x1 := by omega
theorem q_dadb204b8 {x0 x1 : Int} (f0 : 0 ≤ x0 ∧ x0 ≤ 600) (f1 : ¬ (x1 ≥ x0)) : x1 + 1 ≤ 605 := by omega
theorem q_d6c070bf6 {x0 x1 : Int} (f0 : ¬ (x0 ≥ x1)) : x0 + 1 ≤ x1 := by omega
set_option maxRecDepth 100000 in
set_option maxHeartbeats 4000000 in
theorem s_130_l {sc : List Int32} {e : Int} {d u P Q : Nat} {c : ME} {a1 : Int} {a2 : Int} {Z : AR → Prop} (hI : Iv u e P Q c) (ha1 : 0 ≤ a1 ∧ a1 ≤ 3) (ha2 : 0 ≤ a2 ∧ a2 ≤ 24) (K : ∀ (y : Int), (-2147483648) ≤ y ∧ y ≤ 2147483647 → Z (.inl (some (vi y)), Wd P Q P P c, 0, 0)) : ∀ n : Nat, (∀ (v3 : Int) (v4 : Int), 0 ≤ v3 ∧ v3 ≤ 2147483647 → 0 ≤ v4 ∧ v4 ≤ 24 → 1324 - 53 * v4 < (n : Int) → Wp sc (d + 11) 130 5 [(0, .ref 0), (1, vi a1), (2, vi a2), (3, vi v3), (4, vi v4)] [] (Wd P Q P P c) 0 0 Z) ∧ (∀ (v3 : Int) (v4 : Int) (v5 : Int) (v6 : Int), 0 ≤ v3 ∧ v3 ≤ 2147483647 → 0 ≤ v4 ∧ v4 ≤ 23 → (-2147483648) ≤ v5 ∧ v5 ≤ 2147483647 → 0 ≤ v6 ∧ v6 ≤ 24 → 1321 - 53 * v4 - 2 * v6 < (n : Int) → Wp sc (d + 11) 130 17 [(0, .ref 0), (1, vi a1), (2, vi a2), (3, vi v3), (4, vi v4), (5, vi v5), (6, vi v6)] [] (Wd P Q P P c) 0 0 Z)
  | 0 => by exact ⟨by (intro v3 v4 hv3 hv4 hm9; have hP := iv_P hI; have hQ := iv_Q hI; exfalso; omega), by (intro v3 v4 v5 v6 hv3 hv4 hv5 hv6 hm9; have hP := iv_P hI; have hQ := iv_Q hI; exfalso; omega)⟩
  | n + 1 => by
    have hP := iv_P hI
    have hQ := iv_Q hI
    have ih := s_130_l (sc := sc) (d := d) hI ha1 ha2 K n
    refine ⟨?_, ?_⟩
    · skip
      intro v3 v4 hv3 hv4 hm9
      refine q_iload rfl rfl (q_iload_n rfl rfl ?_)
      by_cases h_1 : v4 ≥ a2
      · refine v_ic_ge_t (t := 72) rfl rfl ⟨(Int.le_trans (by decide) ha2.1), h_1, (Int.le_trans hv4.2 (by decide))⟩ (q_iload_n rfl rfl (q_iret rfl rfl ?_))
        exact K v3 ⟨(Int.le_trans (by decide) hv3.1), hv3.2⟩
      · refine v_ic_ge_f (t := 72) rfl rfl ⟨(Int.le_trans (by decide) hv4.1), (Int.not_le.mp h_1), (Int.le_trans ha2.2 (by decide))⟩ (q_iconst rfl (q_istore rfl (Nat.le_of_ble_eq_true rfl) (q_iconst rfl (q_istore rfl (Nat.le_of_ble_eq_true rfl) (Wp_ls [(0, .ref 0), (1, vi a1), (2, vi a2), (3, vi v3), (4, vi v4), (5, vi 0), (6, vi 0)] (lsub_cons rfl (lsub_cons rfl (lsub_cons rfl (lsub_cons rfl (lsub_cons rfl (lsub_cons rfl (lsub_cons rfl lsub_nil))))))) ?_)))))
        exact ih.2 v3 v4 0 0 hv3 ⟨hv4.1, by first | exact q_96fb51a24 h_1 ha2 | omega⟩ ⟨by decide, by decide⟩ ⟨by decide, by decide⟩ (by omega)
    · skip
      intro v3 v4 v5 v6 hv3 hv4 hv5 hv6 hm9
      refine q_iload rfl rfl (q_iload_n rfl rfl ?_)
      by_cases h_2 : v6 ≥ a2
      · refine v_ic_ge_t (t := 59) rfl rfl ⟨(Int.le_trans (by decide) ha2.1), h_2, (Int.le_trans hv6.2 (by decide))⟩ (q_iload_n rfl rfl (q_iload rfl rfl (v_maxx rfl rfl (by omega) (Nat.le_of_ble_eq_true rfl) ⟨by omega, by omega, by omega, by omega⟩ (fun y_3 hy_3 => (q_istore_n rfl (Nat.le_of_ble_eq_true rfl) (v_iinc (v := v4 + 1) rfl rfl (Nat.le_of_ble_eq_true rfl) rfl (q_goto (t := 5) rfl rfl (Wp_ls [(0, .ref 0), (1, vi a1), (2, vi a2), (3, vi y_3), (4, vi (v4 + 1))] (lsub_cons rfl (lsub_cons rfl (lsub_cons rfl (lsub_cons rfl (lsub_cons rfl lsub_nil))))) ?_))))))))
        exact ih.1 y_3 (v4 + 1) ⟨by omega, by omega⟩ ⟨by first | exact rgp_l hv4.1 (by decide) | omega, by first | exact rgp_h hv4.2 (by decide) | omega⟩ (by omega)
      · refine v_ic_ge_f (t := 59) rfl rfl ⟨(Int.le_trans (by decide) hv6.1), (Int.not_le.mp h_2), (Int.le_trans ha2.2 (by decide))⟩ (q_aload_n rfl rfl (q_aload_n rfl rfl (v_gr (t := 10) rfl rfl rfl (Nat.le_of_ble_eq_true rfl) rfl (q_iload rfl rfl ?_))))
        have h_4 := ir_10 hI v4
        have h_5 := ir_10_x hI v4
        refine v_ia (v := c 10 v4) rfl rfl (by decide) (by decide) ⟨hv4.1, by first | exact q_d49973a5f hv4 | omega⟩ rfl (q_iload_n rfl rfl (v_cv rfl rfl rfl rfl (Nat.le_of_ble_eq_true rfl) ⟨⟨rfl, rfl⟩, Nat.le_of_ble_eq_true rfl, rfl⟩ (Nat.le_of_ble_eq_true rfl) (Nat.le_of_ble_eq_true rfl) (s_129 (a1 := c 10 v4) (a2 := a1) hI (show 0 ≤ c 10 v4 ∧ c 10 v4 ≤ 35 from h_4) (show 0 ≤ a1 ∧ a1 ≤ 3 from ha1) (by omega) (fun y_6 hy_6 => (bk_inl (q_aload_n rfl rfl (q_aload_n rfl rfl (v_gr (t := 10) rfl rfl rfl (Nat.le_of_ble_eq_true rfl) rfl (q_iload rfl rfl ?_)))))))))
        have h_7 := ir_10 hI v6
        have h_8 := ir_10_x hI v6
        refine v_ia (v := c 10 v6) rfl rfl (by decide) (by decide) ⟨hv6.1, by first | exact q_56a208ad1 h_2 ha2 | omega⟩ rfl (q_iload_n rfl rfl (v_cv rfl rfl rfl rfl (Nat.le_of_ble_eq_true rfl) ⟨⟨rfl, rfl⟩, Nat.le_of_ble_eq_true rfl, rfl⟩ (Nat.le_of_ble_eq_true rfl) (Nat.le_of_ble_eq_true rfl) (s_129 (a1 := c 10 v6) (a2 := a1) hI (show 0 ≤ c 10 v6 ∧ c 10 v6 ≤ 35 from h_7) (show 0 ≤ a1 ∧ a1 ≤ 3 from ha1) (by omega) (fun y_9 hy_9 => (bk_inl ?_)))))
        by_cases h_10 : y_6 ≠ y_9
        · refine v_ic_ne_t (t := 53) rfl rfl ⟨h_10, ⟨hy_6.1, hy_6.2⟩, hy_9.1, hy_9.2⟩ (v_iinc (v := v6 + 1) rfl rfl (Nat.le_of_ble_eq_true rfl) rfl (q_goto (t := 17) rfl rfl (Wp_ls [(0, .ref 0), (1, vi a1), (2, vi a2), (3, vi v3), (4, vi v4), (5, vi v5), (6, vi (v6 + 1))] (lsub_cons rfl (lsub_cons rfl (lsub_cons rfl (lsub_cons rfl (lsub_cons rfl (lsub_cons rfl (lsub_cons rfl lsub_nil))))))) ?_)))
          exact ih.2 v3 v4 v5 (v6 + 1) hv3 hv4 hv5 ⟨by first | exact rgp_l hv6.1 (by decide) | omega, by first | exact q_250c7ebb9 h_2 ha2 | (clear ha1 hv3 hv4 hv5 hv6 h_4 h_5 h_7 h_8 h_10; omega) | omega⟩ (by omega)
        · refine v_ic_ne_f (t := 53) rfl rfl (Decidable.not_not.mp h_10) (v_iincx rfl rfl (by decide) (fun y_11 hy_11 => (v_iinc (v := v6 + 1) rfl rfl (Nat.le_of_ble_eq_true rfl) rfl (q_goto (t := 17) rfl rfl (Wp_ls [(0, .ref 0), (1, vi a1), (2, vi a2), (3, vi v3), (4, vi v4), (5, vi y_11), (6, vi (v6 + 1))] (lsub_cons rfl (lsub_cons rfl (lsub_cons rfl (lsub_cons rfl (lsub_cons rfl (lsub_cons rfl (lsub_cons rfl lsub_nil))))))) ?_)))))
          exact ih.2 v3 v4 y_11 (v6 + 1) hv3 hv4 hy_11 ⟨by first | exact rgp_l hv6.1 (by decide) | omega, by first | exact q_250c7ebb9 h_2 ha2 | omega⟩ (by omega)
set_option maxRecDepth 100000 in
set_option maxHeartbeats 4000000 in
theorem s_130 {sc : List Int32} {e : Int} {d u P Q : Nat} {c : ME} {a1 : Int} {a2 : Int} {Z : AR → Prop} (hI : Iv u e P Q c) (ha1 : 0 ≤ a1 ∧ a1 ≤ 3) (ha2 : 0 ≤ a2 ∧ a2 ≤ 24) (K : ∀ (y : Int), (-2147483648) ≤ y ∧ y ≤ 2147483647 → Z (.inl (some (vi y)), Wd P Q P P c, 0, 0)) : Wp sc (d + 11) 130 0 [(0, .ref 0), (1, vi a1), (2, vi a2)] [] (Wd P Q P P c) 0 0 Z := by
  have hP := iv_P hI
  have hQ := iv_Q hI
  refine q_iconst rfl (q_istore_n rfl (Nat.le_of_ble_eq_true rfl) (q_iconst rfl (q_istore rfl (Nat.le_of_ble_eq_true rfl) (Wp_ls [(0, .ref 0), (1, vi a1), (2, vi a2), (3, vi 0), (4, vi 0)] (lsub_cons rfl (lsub_cons rfl (lsub_cons rfl (lsub_cons rfl (lsub_cons rfl lsub_nil))))) ?_))))
  exact (s_130_l (sc := sc) (d := d) hI ha1 ha2 K 1327).1 0 0 ⟨by decide, by decide⟩ ⟨by decide, by decide⟩ (by omega)

set_option maxRecDepth 100000 in
set_option maxHeartbeats 4000000 in
theorem s_131_l {sc : List Int32} {e : Int} {d u P Q : Nat} {c : ME} {a1 : Int} {Z : AR → Prop} (hI : Iv u e P Q c) (ha1 : (-2147483648) ≤ a1 ∧ a1 ≤ 2147483647) (T101 : ∀ c2 : ME, Iv u e P Q c2 → (∀ (a : Nat) (j : Int), ¬ ((a = 0 ∧ j = 13) ∨ a = 10) → c2 a j = c a j) → Z (.inr 101, Wd P Q P P c2, 1, 6)) (K : ∀ (c2 : ME) (y : Int), Iv u e P Q c2 → (∀ (a : Nat) (j : Int), ¬ ((a = 0 ∧ j = 13) ∨ a = 10) → c2 a j = c a j) → (-2147483648) ≤ y ∧ y ≤ 2147483647 → Z (.inl (some (vi y)), Wd P Q P P c2, 0, 0)) : ∀ n : Nat, (∀ (c2 : ME) (v2 : Int) (v3 : Int) (v4 : Int) (v5 : Int), Iv u e P Q c2 → (∀ (a : Nat) (j : Int), ¬ ((a = 0 ∧ j = 13) ∨ a = 10) → c2 a j = c a j) → 0 ≤ v2 ∧ v2 ≤ 24 → (-1) ≤ v3 ∧ v3 ≤ 3 → (-2147483648) ≤ v4 ∧ v4 ≤ 2147483647 → 0 ≤ v5 ∧ v5 ≤ 4 → 9 - 2 * v5 < (n : Int) → Wp sc (d + 12) 131 23 [(0, .ref 0), (1, vi a1), (2, vi v2), (3, vi v3), (4, vi v4), (5, vi v5)] [] (Wd P Q P P c2) 0 0 Z)
  | 0 => by intro c2 v2 v3 v4 v5 hI2 hF hv2 hv3 hv4 hv5 hm9; have hP := iv_P hI; have hQ := iv_Q hI; exfalso; omega
  | n + 1 => by
    have hP := iv_P hI
    have hQ := iv_Q hI
    have ih := s_131_l (sc := sc) (d := d) hI ha1 T101 K n
    intro c2 v2 v3 v4 v5 hI2 hF hv2 hv3 hv4 hv5 hm9
    refine q_iload rfl rfl (q_iconst rfl ?_)
    by_cases h_1 : v5 ≥ 4
    · refine v_ic_ge_t (t := 77) rfl rfl ⟨by decide, h_1, (Int.le_trans hv5.2 (by decide))⟩ (q_iload_n rfl rfl ?_)
      by_cases h_2 : a1 ≠ 0
      · refine v_if_ne_t (t := 85) rfl rfl ⟨h_2, ⟨ha1.1, ha1.2⟩, by decide, by decide⟩ (q_iload rfl rfl (q_iret rfl rfl ?_))
        exact K c2 v4 hI2 (fun a j hm => hF a j (fun q => q.elim (fun h => hm (Or.inl h)) (fun h => hm (Or.inr h)))) hv4
      · refine v_if_ne_f (t := 85) rfl rfl (Decidable.not_not.mp h_2) (q_iload_n rfl rfl (q_goto (t := 87) rfl rfl (q_iret rfl rfl ?_)))
        exact K c2 v3 hI2 (fun a j hm => hF a j (fun q => q.elim (fun h => hm (Or.inl h)) (fun h => hm (Or.inr h)))) ⟨(Int.le_trans (by decide) hv3.1), (Int.le_trans hv3.2 (by decide))⟩
    · refine v_ic_ge_f (t := 77) rfl rfl ⟨(Int.le_trans (by decide) hv5.1), (Int.not_le.mp h_1), by decide⟩ (q_aload_n rfl rfl (v_gr (t := P) rfl rfl rfl (Nat.le_of_ble_eq_true rfl) rfl (v_gr (t := (P + 6)) rfl rfl (ck_p0 hP) (a68z hP) rfl (q_iload rfl rfl ?_))))
      have h_3 := ir_p6 hI hP v5
      have kn_4 : Hid (c2 (P + 6) v5 = c (P + 6) v5) := hF (P + 6) v5 (fun q => q.elim (fun h => absurd h.1 (np hP rfl rfl)) (fun h => absurd h (np hP rfl rfl)))
      refine v_ia (v := c (P + 6) v5) rfl (ck_p6 hP) (a68 hP rfl) (by decide) ⟨hv5.1, by first | exact q_2e808647e h_1 | omega⟩ (hid kn_4) (q_iconst rfl ?_)
      by_cases h_5 : c (P + 6) v5 ≠ (-1)
      · refine v_ic_ne_t (t := 71) rfl rfl ⟨h_5, ⟨by first | exact q_87765d87e h_3 | omega, by first | exact q_cf71bb2da h_3 | omega⟩, by decide, by decide⟩ (v_iinc (v := v5 + 1) rfl rfl (Nat.le_of_ble_eq_true rfl) rfl (q_goto (t := 23) rfl rfl (Wp_ls [(0, .ref 0), (1, vi a1), (2, vi v2), (3, vi v3), (4, vi v4), (5, vi (v5 + 1))] (lsub_cons rfl (lsub_cons rfl (lsub_cons rfl (lsub_cons rfl (lsub_cons rfl (lsub_cons rfl lsub_nil)))))) ?_)))
        exact ih c2 v2 v3 v4 (v5 + 1) hI2 (fun a j hm => hF a j (fun q => q.elim (fun h => hm (Or.inl h)) (fun h => hm (Or.inr h)))) hv2 hv3 hv4 ⟨by first | exact rgp_l hv5.1 (by decide) | omega, by first | exact q_121241f94 h_1 | (clear ha1 hv2 hv3 hv4 hv5 h_3 h_5; omega) | omega⟩ (by omega)
      · refine v_ic_ne_f (t := 71) rfl rfl (Decidable.not_not.mp h_5) (q_aload_n rfl rfl (q_iload rfl rfl (q_iload_n rfl rfl (v_cv rfl rfl rfl rfl (Nat.le_of_ble_eq_true rfl) ⟨⟨rfl, rfl⟩, Nat.le_of_ble_eq_true rfl, rfl⟩ (Nat.le_of_ble_eq_true rfl) (Nat.le_of_ble_eq_true rfl) (s_130 (a1 := v5) (a2 := v2) hI2 (show 0 ≤ v5 ∧ v5 ≤ 3 from ⟨hv5.1, by first | exact q_482ef8d41 h_1 | omega⟩) (show 0 ≤ v2 ∧ v2 ≤ 24 from hv2) (fun y_6 hy_6 => (bk_inl (q_istore rfl (Nat.le_of_ble_eq_true rfl) (q_iload_n rfl rfl ?_)))))))))
        refine q_iconst rfl ?_
        by_cases h_7 : v3 = (-1)
        · refine v_ic_eq_t (t := 64) rfl rfl h_7 (q_iload rfl rfl (q_istore_n rfl (Nat.le_of_ble_eq_true rfl) (q_iload rfl rfl (q_istore rfl (Nat.le_of_ble_eq_true rfl) (v_iinc (v := v5 + 1) rfl rfl (Nat.le_of_ble_eq_true rfl) rfl (q_goto (t := 23) rfl rfl (Wp_ls [(0, .ref 0), (1, vi a1), (2, vi v2), (3, vi v5), (4, vi y_6), (5, vi (v5 + 1))] (lsub_cons rfl (lsub_cons rfl (lsub_cons rfl (lsub_cons rfl (lsub_cons rfl (lsub_cons rfl lsub_nil)))))) ?_)))))))
          exact ih c2 v2 v5 y_6 (v5 + 1) hI2 (fun a j hm => hF a j (fun q => q.elim (fun h => hm (Or.inl h)) (fun h => hm (Or.inr h)))) hv2 ⟨(Int.le_trans (by decide) hv5.1), by first | exact q_482ef8d41 h_1 | omega⟩ hy_6 ⟨by first | exact rgp_l hv5.1 (by decide) | omega, by first | exact q_121241f94 h_1 | omega⟩ (by omega)
        · refine v_ic_eq_f (t := 64) rfl rfl ⟨h_7, ⟨(Int.le_trans (by decide) hv3.1), (Int.le_trans hv3.2 (by decide))⟩, by decide, by decide⟩ (q_iload rfl rfl (q_iload rfl rfl ?_))
          by_cases h_8 : y_6 ≥ v4
          · refine v_ic_ge_t (t := 71) rfl rfl ⟨hv4.1, h_8, hy_6.2⟩ (v_iinc (v := v5 + 1) rfl rfl (Nat.le_of_ble_eq_true rfl) rfl (q_goto (t := 23) rfl rfl (Wp_ls [(0, .ref 0), (1, vi a1), (2, vi v2), (3, vi v3), (4, vi v4), (5, vi (v5 + 1))] (lsub_cons rfl (lsub_cons rfl (lsub_cons rfl (lsub_cons rfl (lsub_cons rfl (lsub_cons rfl lsub_nil)))))) ?_)))
            exact ih c2 v2 v3 v4 (v5 + 1) hI2 (fun a j hm => hF a j (fun q => q.elim (fun h => hm (Or.inl h)) (fun h => hm (Or.inr h)))) hv2 hv3 hv4 ⟨by first | exact rgp_l hv5.1 (by decide) | omega, by first | exact q_121241f94 h_1 | (clear ha1 hv2 hv3 hv4 hv5 h_3 h_5 h_8 h_7; omega) | omega⟩ (by omega)
          · refine v_ic_ge_f (t := 71) rfl rfl ⟨hy_6.1, (Int.not_le.mp h_8), hv4.2⟩ (q_iload rfl rfl (q_istore_n rfl (Nat.le_of_ble_eq_true rfl) (q_iload rfl rfl (q_istore rfl (Nat.le_of_ble_eq_true rfl) (v_iinc (v := v5 + 1) rfl rfl (Nat.le_of_ble_eq_true rfl) rfl (q_goto (t := 23) rfl rfl (Wp_ls [(0, .ref 0), (1, vi a1), (2, vi v2), (3, vi v5), (4, vi y_6), (5, vi (v5 + 1))] (lsub_cons rfl (lsub_cons rfl (lsub_cons rfl (lsub_cons rfl (lsub_cons rfl (lsub_cons rfl lsub_nil)))))) ?_)))))))
            exact ih c2 v2 v5 y_6 (v5 + 1) hI2 (fun a j hm => hF a j (fun q => q.elim (fun h => hm (Or.inl h)) (fun h => hm (Or.inr h)))) hv2 ⟨(Int.le_trans (by decide) hv5.1), by first | exact q_482ef8d41 h_1 | (clear ha1 hv2 hv3 hv4 hv5 h_3 h_5 h_8 h_7; omega) | omega⟩ hy_6 ⟨by first | exact rgp_l hv5.1 (by decide) | omega, by first | exact q_121241f94 h_1 | (clear ha1 hv2 hv3 hv4 hv5 h_3 h_5 h_8 h_7; omega) | omega⟩ (by omega)
set_option maxRecDepth 100000 in
set_option maxHeartbeats 4000000 in
theorem s_131 {sc : List Int32} {e : Int} {d u P Q : Nat} {c : ME} {a1 : Int} {Z : AR → Prop} (hI : Iv u e P Q c) (ha1 : (-2147483648) ≤ a1 ∧ a1 ≤ 2147483647) (T101 : ∀ c2 : ME, Iv u e P Q c2 → (∀ (a : Nat) (j : Int), ¬ ((a = 0 ∧ j = 13) ∨ a = 10) → c2 a j = c a j) → Z (.inr 101, Wd P Q P P c2, 1, 6)) (K : ∀ (c2 : ME) (y : Int), Iv u e P Q c2 → (∀ (a : Nat) (j : Int), ¬ ((a = 0 ∧ j = 13) ∨ a = 10) → c2 a j = c a j) → (-2147483648) ≤ y ∧ y ≤ 2147483647 → Z (.inl (some (vi y)), Wd P Q P P c2, 0, 0)) : Wp sc (d + 12) 131 0 [(0, .ref 0), (1, vi a1)] [] (Wd P Q P P c) 0 0 Z := by
  have hP := iv_P hI
  have hQ := iv_Q hI
  refine q_aload_n rfl rfl (q_iload_n rfl rfl (q_iconst rfl (q_iconst rfl (q_call rfl rfl rfl rfl (q_iload_n rfl rfl (q_iload_n rfl rfl ?_))))))
  by_cases h_9 : a1 < 0
  · refine v_ic_lt_t (t := 14) rfl rfl ⟨ha1.1, h_9, by decide⟩ (q_iconst rfl (v_zret rfl rfl (by decide) (bk_inl (v_cv rfl rfl rfl rfl (Nat.le_of_ble_eq_true rfl) ⟨⟨rfl, rfl⟩, Nat.le_of_ble_eq_true rfl, rfl⟩ (Nat.le_of_ble_eq_true rfl) (Nat.le_of_ble_eq_true rfl) (q_iload_n rfl rfl (v_if_ne_f (t := 25) rfl rfl (by decide) (q_aload_n rfl rfl ?_)))))))
    refine q_dup rfl rfl ?_
    have h_10 := ir_0_13 hI
    refine v_gi (z := 13) (v := c 0 13) rfl rfl rfl (Nat.le_of_ble_eq_true rfl) rfl rfl rfl (q_iconst rfl (v_iadd (v := c 0 13 + 1) rfl rfl (v_nrm (fun y_11 hy_11 => (v_pi (z := 13) rfl rfl rfl (Nat.le_of_ble_eq_true rfl) rfl rfl rfl (by decide) (v_new rfl rfl (by decide) (by omega) (Nat.le_of_ble_eq_true rfl) (by decide) rfl (bk_out rfl rfl ?_)))))))
    have hI_12 := iw_0_13 (v := y_11) hI ⟨hy_11.1, hy_11.2⟩
    exact T101 _ hI_12 (fun a j hm => up_b (Decidable.or_iff_not_imp_left.mpr (fun h1 h2 => hm (Or.inl ⟨Decidable.not_not.mp h1, h2⟩))))
  · refine v_ic_lt_f (t := 14) rfl rfl ⟨by decide, (Int.not_lt.mp h_9), ha1.2⟩ (q_iload_n rfl rfl (q_iload_n rfl rfl ?_))
    by_cases h_13 : a1 > 1
    · refine v_ic_gt_t (t := 14) rfl rfl ⟨by decide, h_13, ha1.2⟩ (q_iconst rfl (v_zret rfl rfl (by decide) (bk_inl (v_cv rfl rfl rfl rfl (Nat.le_of_ble_eq_true rfl) ⟨⟨rfl, rfl⟩, Nat.le_of_ble_eq_true rfl, rfl⟩ (Nat.le_of_ble_eq_true rfl) (Nat.le_of_ble_eq_true rfl) (q_iload_n rfl rfl (v_if_ne_f (t := 25) rfl rfl (by decide) (q_aload_n rfl rfl ?_)))))))
      refine q_dup rfl rfl ?_
      have h_14 := ir_0_13 hI
      refine v_gi (z := 13) (v := c 0 13) rfl rfl rfl (Nat.le_of_ble_eq_true rfl) rfl rfl rfl (q_iconst rfl (v_iadd (v := c 0 13 + 1) rfl rfl (v_nrm (fun y_15 hy_15 => (v_pi (z := 13) rfl rfl rfl (Nat.le_of_ble_eq_true rfl) rfl rfl rfl (by decide) (v_new rfl rfl (by decide) (by omega) (Nat.le_of_ble_eq_true rfl) (by decide) rfl (bk_out rfl rfl ?_)))))))
      have hI_16 := iw_0_13 (v := y_15) hI ⟨hy_15.1, hy_15.2⟩
      exact T101 _ hI_16 (fun a j hm => up_b (Decidable.or_iff_not_imp_left.mpr (fun h1 h2 => hm (Or.inl ⟨Decidable.not_not.mp h1, h2⟩))))
    · refine v_ic_gt_f (t := 14) rfl rfl ⟨ha1.1, (Int.not_lt.mp h_13), by decide⟩ (q_iconst rfl (q_goto (t := 15) rfl rfl (v_zret rfl rfl (by decide) (bk_inl (v_cv rfl rfl rfl rfl (Nat.le_of_ble_eq_true rfl) ⟨⟨rfl, rfl⟩, Nat.le_of_ble_eq_true rfl, rfl⟩ (Nat.le_of_ble_eq_true rfl) (Nat.le_of_ble_eq_true rfl) (q_iload_n rfl rfl (v_if_ne_t (t := 25) rfl rfl (by decide) ?_)))))))
      refine q_vret rfl rfl (bk_inl (q_aload_n rfl rfl (v_cv rfl rfl rfl rfl (Nat.le_of_ble_eq_true rfl) ⟨⟨rfl, rfl⟩, Nat.le_of_ble_eq_true rfl, rfl⟩ (Nat.le_of_ble_eq_true rfl) (Nat.le_of_ble_eq_true rfl) (s_127 hI (fun c_17 y_20 hI_18 hF_19 hy_20 => (bk_inl (q_istore_n rfl (Nat.le_of_ble_eq_true rfl) (q_iconst rfl (q_istore_n rfl (Nat.le_of_ble_eq_true rfl) ?_)))))))))
      refine q_iconst rfl (q_istore rfl (Nat.le_of_ble_eq_true rfl) (q_iconst rfl (q_istore rfl (Nat.le_of_ble_eq_true rfl) (Wp_ls [(0, .ref 0), (1, vi a1), (2, vi y_20), (3, vi (-1)), (4, vi (-1)), (5, vi 0)] (lsub_cons rfl (lsub_cons rfl (lsub_cons rfl (lsub_cons rfl (lsub_cons rfl (lsub_cons rfl lsub_nil)))))) ?_))))
      exact (s_131_l (sc := sc) (d := d) hI ha1 T101 K 12) c_17 y_20 (-1) (-1) 0 hI_18 (fun a j hm => hF_19 a j (fun h => hm (Or.inr h))) hy_20 ⟨by decide, by decide⟩ ⟨by decide, by decide⟩ ⟨by decide, by decide⟩ (by omega)

set_option maxRecDepth 100000 in
set_option maxHeartbeats 4000000 in
theorem s_134 {sc : List Int32} {e : Int} {d u P Q : Nat} {c : ME} {a1 a2 a3 a4 : Int} {Z : AR → Prop} (hI : Iv u e P Q c) (ha1 : -2147483648 ≤ a1 ∧ a1 ≤ 2147483647) (ha2 : -2147483648 ≤ a2 ∧ a2 ≤ 2147483647) (ha3 : -2147483648 ≤ a3 ∧ a3 ≤ 2147483647) (ha4 : -2147483648 ≤ a4 ∧ a4 ≤ 2147483647) (T101 : ∀ c2 : ME, Iv u e P Q c2 → (∀ (a : Nat) (j : Int), ¬ ((a = 0 ∧ j = 13)) → c2 a j = c a j) → Z (.inr 101, Wd P Q P P c2, 1, 6)) (K : ∀ (c2 : ME) (y : Int), Iv u e P Q c2 → (∀ (a : Nat) (j : Int), ¬ ((a = 0 ∧ j = 13)) → c2 a j = c a j) → Z (.inl (some (vl y)), Wd P Q P P c2, 0, 0)) : Wp sc (d + 8) 134 0 [(0, .ref 0), (1, vi a1), (2, vi a2), (3, vi a3), (4, vi a4)] [] (Wd P Q P P c) 0 0 Z := by
  by_cases hg : ((0 ≤ a1 ∧ a1 ≤ 12) ∧ (0 ≤ a2 ∧ a2 ≤ 13)) ∧ (0 ≤ a3 ∧ a3 ≤ 16) ∧ (0 ≤ a4 ∧ a4 ≤ 1)
  · skip
    obtain ⟨n, h1⟩ := Int.eq_ofNat_of_zero_le (show 0 ≤ a1 by omega)
    obtain ⟨k, h2⟩ := Int.eq_ofNat_of_zero_le (show 0 ≤ a2 by omega)
    obtain ⟨q, h3⟩ := Int.eq_ofNat_of_zero_le (show 0 ≤ a3 by omega)
    obtain ⟨f, h4⟩ := Int.eq_ofNat_of_zero_le (show 0 ≤ a4 by omega)
    exact m_134 (d := d + 6) n k q f h1 h2 h3 h4 (by omega) (by omega) (by omega) (by omega) (K c _ hI (fun a j hm => rfl))
  · refine m_134_t ha1 ha2 ha3 ha4 (by omega) ?_
    rw [wd_nrm (c := up c 0 13 (c 0 13 + 1)) (a := 0) (j := 13) (fun n h => by cases (show (Sum.inr _ : CK) = Sum.inl (2, n) from h))]
    exact T101 _ (iv_pt (a := 0) (j := 13) hI (fun b i hb => (up_b (by omega)).trans (up_b (by omega))) (by unfold Ns; omega) (by rw [up_e rfl]; exact wr_rng _)) (fun a j hm => (up_b (by omega)).trans (up_b (by omega)))
set_option maxRecDepth 100000 in
set_option maxHeartbeats 4000000 in
theorem s_234 {sc : List Int32} {e : Int} {d u P Q : Nat} {c : ME} {a1 a2 a3 a4 : Int} {Z : AR → Prop} (hI : Iv u e P Q c) (ha1 : -2147483648 ≤ a1 ∧ a1 ≤ 2147483647) (ha2 : -2147483648 ≤ a2 ∧ a2 ≤ 2147483647) (ha3 : -2147483648 ≤ a3 ∧ a3 ≤ 2147483647) (ha4 : -2147483648 ≤ a4 ∧ a4 ≤ 2147483647) (K : ∀ (c2 : ME) (y : Int), Iv u e P Q c2 → (∀ (a : Nat) (j : Int), ¬ ((a = 41 ∧ j = 0) ∨ a = 42 ∨ a = 65) → c2 a j = c a j) → Z (.inl (some (vl y)), Wd P Q P P c2, 0, 0)) : Wp sc (d + 8) 234 0 [(0, .ref 41), (1, vi a1), (2, vi a2), (3, vi a3), (4, vi a4)] [] (Wd P Q P P c) 0 0 Z := by
  have hJ : Iv u e P Q (up c 41 0 0) := iw_41_0 hI ⟨by decide, by decide⟩
  by_cases hg : ((0 ≤ a1 ∧ a1 ≤ 12) ∧ (0 ≤ a2 ∧ a2 ≤ 13)) ∧ (0 ≤ a3 ∧ a3 ≤ 16) ∧ (0 ≤ a4 ∧ a4 ≤ 1)
  · skip
    obtain ⟨n, h1⟩ := Int.eq_ofNat_of_zero_le (show 0 ≤ a1 by omega)
    obtain ⟨k, h2⟩ := Int.eq_ofNat_of_zero_le (show 0 ≤ a2 by omega)
    obtain ⟨q, h3⟩ := Int.eq_ofNat_of_zero_le (show 0 ≤ a3 by omega)
    obtain ⟨f, h4⟩ := Int.eq_ofNat_of_zero_le (show 0 ≤ a4 by omega)
    exact m_234 (d := d + 6) n k q f h1 h2 h3 h4 (by omega) (by omega) (by omega) (by omega) (fun c2 hc => K c2 _ (iv_65 hJ hc) (fun a j hm => by rw [hc a (by omega)]; exact up_b (by omega)))
  · refine m_234_t (d := d + 6) ha1 ha2 ha3 ha4 (by omega) ?_
    rw [wd_nrm (c := up (up (up c 41 0 0) 41 0 1) 42 1 (c 42 1 + 1)) (a := 42) (j := 1) (fun n h => by cases (show (Sum.inl (0, 2) : CK) = Sum.inl (2, n) from h))]
    exact K _ 0 (iv_pt (a := 42) (j := 1) (iw_41_0 hJ (v := 1) ⟨by decide, by decide⟩) (fun b i hb => (up_b (by omega)).trans (up_b (by omega))) (by unfold Ns; omega) (by rw [up_e rfl]; exact wr_rng _)) (fun a j hm => (up_b (by omega)).trans ((up_b (by omega)).trans ((up_b (by omega)).trans (up_b (by omega)))))

set_option maxRecDepth 100000 in
set_option maxHeartbeats 4000000 in
theorem s_135 {sc : List Int32} {e : Int} {d u P Q : Nat} {c : ME} {a0 : Int} {a1 : Int} {a2 : Int} {a3 : Int} {Z : AR → Prop} (hI : Iv u e P Q c) (ha0 : 0 ≤ a0 ∧ a0 ≤ 1) (ha1 : 0 ≤ a1 ∧ a1 ≤ 1) (ha2 : 0 ≤ a2 ∧ a2 ≤ 99) (ha3 : 0 ≤ a3 ∧ a3 ≤ 99) (K : ∀ (y : Int), 0 ≤ y ∧ y ≤ 99 → Z (.inl (some (vi y)), Wd P Q P P c, 0, 0)) : Wp sc (d + 7) 135 0 [(0, vi a0), (1, vi a1), (2, vi a2), (3, vi a3)] [] (Wd P Q P P c) 0 0 Z := by
  have hP := iv_P hI
  have hQ := iv_Q hI
  refine q_iload_n rfl rfl ?_
  by_cases h_1 : a0 ≠ 0
  · refine v_if_ne_t (t := 8) rfl rfl ⟨h_1, ⟨(Int.le_trans (by decide) ha0.1), (Int.le_trans ha0.2 (by decide))⟩, by decide, by decide⟩ (q_iload_n rfl rfl (q_istore rfl (Nat.le_of_ble_eq_true rfl) (q_iload_n rfl rfl (q_iload_n rfl rfl ?_))))
    by_cases h_2 : a0 ≠ a1
    · refine v_ic_ne_t (t := 23) rfl rfl ⟨h_2, ⟨(Int.le_trans (by decide) ha0.1), (Int.le_trans ha0.2 (by decide))⟩, (Int.le_trans (by decide) ha1.1), (Int.le_trans ha1.2 (by decide))⟩ (q_iload rfl rfl (q_iret rfl rfl ?_))
      exact K a3 ha3
    · refine v_ic_ne_f (t := 23) rfl rfl (Decidable.not_not.mp h_2) (q_iload rfl rfl (q_iconst rfl (v_idiv (v := (a3 / 2)) rfl (by omega) rfl (q_goto (t := 25) rfl rfl (q_iret rfl rfl ?_)))))
      exact K (a3 / 2) ⟨by first | (clear ha0 ha1 ha2 h_2 h_1; omega) | omega, by first | (clear ha0 ha1 ha2 h_2 h_1; omega) | omega⟩
  · refine v_if_ne_f (t := 8) rfl rfl (Decidable.not_not.mp h_1) (q_iload_n rfl rfl (q_goto (t := 9) rfl rfl (q_istore rfl (Nat.le_of_ble_eq_true rfl) (q_iload_n rfl rfl (q_iload_n rfl rfl ?_)))))
    by_cases h_3 : a0 ≠ a1
    · refine v_ic_ne_t (t := 23) rfl rfl ⟨h_3, ⟨(Int.le_trans (by decide) ha0.1), (Int.le_trans ha0.2 (by decide))⟩, (Int.le_trans (by decide) ha1.1), (Int.le_trans ha1.2 (by decide))⟩ (q_iload rfl rfl (q_iret rfl rfl ?_))
      exact K a2 ha2
    · refine v_ic_ne_f (t := 23) rfl rfl (Decidable.not_not.mp h_3) (q_iload rfl rfl (q_iconst rfl (v_idiv (v := (a2 / 2)) rfl (by omega) rfl (q_goto (t := 25) rfl rfl (q_iret rfl rfl ?_)))))
      exact K (a2 / 2) ⟨by omega, by omega⟩

set_option maxRecDepth 100000 in
set_option maxHeartbeats 4000000 in
theorem s_136_l {sc : List Int32} {e : Int} {d u P Q : Nat} {c : ME} {a1 : Int} {a2 : Int} {a3 : Int} {Z : AR → Prop} (hI : Iv u e P Q c) (ha1 : (-2147483648) ≤ a1 ∧ a1 ≤ 2147483647) (ha2 : (-2147483648) ≤ a2 ∧ a2 ≤ 2147483647) (ha3 : (-2147483648) ≤ a3 ∧ a3 ≤ 2147483647) (T101 : ∀ c2 : ME, Iv u e P Q c2 → (∀ (a : Nat) (j : Int), ¬ ((a = 0 ∧ j = 13)) → c2 a j = c a j) → Z (.inr 101, Wd P Q P P c2, 1, 6)) (K : ∀ (c2 : ME) (y : Int), Iv u e P Q c2 → (∀ (a : Nat) (j : Int), ¬ ((a = 0 ∧ j = 13)) → c2 a j = c a j) → (-2147483648) ≤ y ∧ y ≤ 2147483647 → Z (.inl (some (vi y)), Wd P Q P P c2, 0, 0)) : ∀ n : Nat, (∀ (c2 : ME) (v4 : Int) (v5 : Int) (v6 : Int) (v7 : Int), Iv u e P Q c2 → (∀ (a : Nat) (j : Int), ¬ ((a = 0 ∧ j = 13)) → c2 a j = c a j) → (-2147483648) ≤ v4 ∧ v4 ≤ 2147483647 → (-1) ≤ v5 ∧ v5 ≤ 12 → 0 ≤ v6 ∧ v6 ≤ 198 → 0 ≤ v7 ∧ v7 ≤ 4 → ((a1 ≥ 0 ∧ a1 ≤ 99)) → ((a2 ≥ 0 ∧ a2 ≤ 99)) → 9 - 2 * v7 < (n : Int) → Wp sc (d + 8) 136 50 [(0, .ref 0), (1, vi a1), (2, vi a2), (3, vi a3), (4, vi v4), (5, vi v5), (6, vi v6), (7, vi v7)] [] (Wd P Q P P c2) 0 0 Z)
  | 0 => by intro c2 v4 v5 v6 v7 hI2 hF hv4 hv5 hv6 hv7 hx0 hx1 hm9; have hP := iv_P hI; have hQ := iv_Q hI; exfalso; omega
  | n + 1 => by
    have hP := iv_P hI
    have hQ := iv_Q hI
    have ih := s_136_l (sc := sc) (d := d) hI ha1 ha2 ha3 T101 K n
    intro c2 v4 v5 v6 v7 hI2 hF hv4 hv5 hv6 hv7 hx0 hx1 hm9
    refine q_iload rfl rfl (q_iconst rfl ?_)
    by_cases h_1 : v7 ≥ 4
    · refine v_ic_ge_t (t := 153) rfl rfl ⟨by decide, h_1, (Int.le_trans hv7.2 (by decide))⟩ (q_iload_n rfl rfl ?_)
      by_cases h_2 : a3 = 0
      · refine v_lsw (t := 180) (off := 26) 0 rfl (by omega) (by decide) (by decide) (by decide) (by decide) (q_iload rfl rfl (q_iret rfl rfl ?_))
        exact K c2 v4 hI2 (fun a j hm => hF a j (fun h => hm h)) hv4
      by_cases h_3 : a3 = 1
      · refine v_lsw (t := 183) (off := 29) 1 rfl (by omega) (by decide) (by decide) (by decide) (by decide) (q_iload rfl rfl (q_iret rfl rfl ?_))
        exact K c2 v5 hI2 (fun a j hm => hF a j (fun h => hm h)) ⟨(Int.le_trans (by decide) hv5.1), (Int.le_trans hv5.2 (by decide))⟩
      refine v_lsw_o (t := 186) rfl (by omega) (by decide) (by simp [Op.lookupswitch.offset, Ne.symm (show a3 ≠ 0 by omega), Ne.symm (show a3 ≠ 1 by omega)]) (by decide) (q_iload rfl rfl (q_iret rfl rfl ?_))
      exact K c2 v6 hI2 (fun a j hm => hF a j (fun h => hm h)) ⟨(Int.le_trans (by decide) hv6.1), (Int.le_trans hv6.2 (by decide))⟩
    · refine v_ic_ge_f (t := 153) rfl rfl ⟨(Int.le_trans (by decide) hv7.1), (Int.not_le.mp h_1), by decide⟩ (q_iload rfl rfl (q_iconst rfl (v_idiv (v := (v7 / 2)) rfl (by omega) rfl (q_istore rfl (Nat.le_of_ble_eq_true rfl) (q_iload rfl rfl (q_iconst rfl (v_irem (v := (v7 % 2)) rfl (by omega) rfl ?_)))))))
      refine q_istore rfl (Nat.le_of_ble_eq_true rfl) (q_iload rfl rfl (q_iload rfl rfl (q_iload_n rfl rfl (q_iload_n rfl rfl (q_call rfl rfl rfl rfl (s_135 (a0 := (v7 / 2)) (a1 := (v7 % 2)) (a2 := a1) (a3 := a2) hI2 (show 0 ≤ (v7 / 2) ∧ (v7 / 2) ≤ 1 from ⟨by omega, by omega⟩) (show 0 ≤ (v7 % 2) ∧ (v7 % 2) ≤ 1 from ⟨by omega, by omega⟩) (show 0 ≤ a1 ∧ a1 ≤ 99 from ⟨by omega, by omega⟩) (show 0 ≤ a2 ∧ a2 ≤ 99 from ⟨by omega, by omega⟩) (fun y_4 hy_4 => (bk_inl (q_istore rfl (Nat.le_of_ble_eq_true rfl) ?_)))))))))
      refine q_iload rfl rfl (q_iload rfl rfl (q_iload_n rfl rfl (q_iload_n rfl rfl (q_call rfl rfl rfl rfl (s_135 (a0 := (v7 % 2)) (a1 := (v7 / 2)) (a2 := a1) (a3 := a2) hI2 (show 0 ≤ (v7 % 2) ∧ (v7 % 2) ≤ 1 from ⟨by omega, by omega⟩) (show 0 ≤ (v7 / 2) ∧ (v7 / 2) ≤ 1 from ⟨by omega, by omega⟩) (show 0 ≤ a1 ∧ a1 ≤ 99 from ⟨by omega, by omega⟩) (show 0 ≤ a2 ∧ a2 ≤ 99 from ⟨by omega, by omega⟩) (fun y_5 hy_5 => (bk_inl (q_istore rfl (Nat.le_of_ble_eq_true rfl) (q_iconst rfl ?_)))))))))
      refine q_iload rfl rfl (v_isub (v := 1 - (v7 / 2)) rfl rfl (q_iload rfl rfl (q_iload_n rfl rfl (q_iload_n rfl rfl (q_call rfl rfl rfl rfl (s_135 (a0 := 1 - (v7 / 2)) (a1 := (v7 % 2)) (a2 := a1) (a3 := a2) hI2 (show 0 ≤ 1 - (v7 / 2) ∧ 1 - (v7 / 2) ≤ 1 from ⟨by omega, by omega⟩) (show 0 ≤ (v7 % 2) ∧ (v7 % 2) ≤ 1 from ⟨by omega, by omega⟩) (show 0 ≤ a1 ∧ a1 ≤ 99 from ⟨by omega, by omega⟩) (show 0 ≤ a2 ∧ a2 ≤ 99 from ⟨by omega, by omega⟩) (fun y_6 hy_6 => (bk_inl (q_iload rfl rfl ?_)))))))))
      by_cases h_7 : y_6 > y_4
      · refine v_ic_gt_t (t := 147) rfl rfl ⟨(Int.le_trans (by decide) hy_4.1), h_7, (Int.le_trans hy_6.2 (by decide))⟩ (v_iinc (v := v7 + 1) rfl rfl (Nat.le_of_ble_eq_true rfl) rfl (Wp_ls [(7, vi (v7 + 1)), (11, vi y_5), (10, vi y_4), (9, vi (v7 % 2)), (8, vi (v7 / 2)), (0, .ref 0), (1, vi a1), (2, vi a2), (3, vi a3), (4, vi v4), (5, vi v5), (6, vi v6)] (lsub_cons rfl (lsub_cons rfl (lsub_cons rfl (lsub_cons rfl (lsub_cons rfl (lsub_cons rfl (lsub_cons rfl (lsub_cons rfl (lsub_cons rfl (lsub_cons rfl (lsub_cons rfl (lsub_cons rfl lsub_nil)))))))))))) (q_goto (t := 50) rfl rfl (Wp_ls [(0, .ref 0), (1, vi a1), (2, vi a2), (3, vi a3), (4, vi v4), (5, vi v5), (6, vi v6), (7, vi (v7 + 1))] (lsub_cons rfl (lsub_cons rfl (lsub_cons rfl (lsub_cons rfl (lsub_cons rfl (lsub_cons rfl (lsub_cons rfl (lsub_cons rfl lsub_nil)))))))) ?_))))
        exact ih c2 v4 v5 v6 (v7 + 1) hI2 (fun a j hm => hF a j (fun h => hm h)) hv4 hv5 hv6 ⟨by first | exact rgp_l hv7.1 (by decide) | omega, by first | exact q_121241f94 h_1 | omega⟩ ⟨by omega, by omega⟩ ⟨by omega, by omega⟩ (by omega)
      · refine v_ic_gt_f (t := 147) rfl rfl ⟨(Int.le_trans (by decide) hy_6.1), (Int.not_lt.mp h_7), (Int.le_trans hy_4.2 (by decide))⟩ (q_iconst rfl (q_iload rfl rfl (v_isub (v := 1 - (v7 % 2)) rfl rfl (q_iload rfl rfl (q_iload_n rfl rfl (q_iload_n rfl rfl (q_call rfl rfl rfl rfl (s_135 (a0 := 1 - (v7 % 2)) (a1 := (v7 / 2)) (a2 := a1) (a3 := a2) hI2 (show 0 ≤ 1 - (v7 % 2) ∧ 1 - (v7 % 2) ≤ 1 from ⟨by omega, by omega⟩) (show 0 ≤ (v7 / 2) ∧ (v7 / 2) ≤ 1 from ⟨by omega, by omega⟩) (show 0 ≤ a1 ∧ a1 ≤ 99 from ⟨by omega, by omega⟩) (show 0 ≤ a2 ∧ a2 ≤ 99 from ⟨by omega, by omega⟩) (fun y_8 hy_8 => ?_)))))))))
        refine bk_inl (q_iload rfl rfl ?_)
        by_cases h_9 : y_8 > y_5
        · refine v_ic_gt_t (t := 147) rfl rfl ⟨(Int.le_trans (by decide) hy_5.1), h_9, (Int.le_trans hy_8.2 (by decide))⟩ (v_iinc (v := v7 + 1) rfl rfl (Nat.le_of_ble_eq_true rfl) rfl (Wp_ls [(7, vi (v7 + 1)), (11, vi y_5), (10, vi y_4), (9, vi (v7 % 2)), (8, vi (v7 / 2)), (0, .ref 0), (1, vi a1), (2, vi a2), (3, vi a3), (4, vi v4), (5, vi v5), (6, vi v6)] (lsub_cons rfl (lsub_cons rfl (lsub_cons rfl (lsub_cons rfl (lsub_cons rfl (lsub_cons rfl (lsub_cons rfl (lsub_cons rfl (lsub_cons rfl (lsub_cons rfl (lsub_cons rfl (lsub_cons rfl lsub_nil)))))))))))) (q_goto (t := 50) rfl rfl (Wp_ls [(0, .ref 0), (1, vi a1), (2, vi a2), (3, vi a3), (4, vi v4), (5, vi v5), (6, vi v6), (7, vi (v7 + 1))] (lsub_cons rfl (lsub_cons rfl (lsub_cons rfl (lsub_cons rfl (lsub_cons rfl (lsub_cons rfl (lsub_cons rfl (lsub_cons rfl lsub_nil)))))))) ?_))))
          exact ih c2 v4 v5 v6 (v7 + 1) hI2 (fun a j hm => hF a j (fun h => hm h)) hv4 hv5 hv6 ⟨by first | exact rgp_l hv7.1 (by decide) | omega, by first | exact q_121241f94 h_1 | omega⟩ ⟨by omega, by omega⟩ ⟨by omega, by omega⟩ (by omega)
        · refine v_ic_gt_f (t := 147) rfl rfl ⟨(Int.le_trans (by decide) hy_8.1), (Int.not_lt.mp h_9), (Int.le_trans hy_5.2 (by decide))⟩ (q_iload rfl rfl ?_)
          by_cases h_10 : v4 ≠ 0
          · refine v_if_ne_t (t := 144) rfl rfl ⟨h_10, ⟨hv4.1, hv4.2⟩, by decide, by decide⟩ (v_iincx rfl rfl (by decide) (fun y_11 hy_11 => (Wp_ls [(4, vi y_11), (11, vi y_5), (10, vi y_4), (9, vi (v7 % 2)), (8, vi (v7 / 2)), (0, .ref 0), (1, vi a1), (2, vi a2), (3, vi a3), (5, vi v5), (6, vi v6), (7, vi v7)] (lsub_cons rfl (lsub_cons rfl (lsub_cons rfl (lsub_cons rfl (lsub_cons rfl (lsub_cons rfl (lsub_cons rfl (lsub_cons rfl (lsub_cons rfl (lsub_cons rfl (lsub_cons rfl (lsub_cons rfl lsub_nil)))))))))))) (v_iinc (v := v7 + 1) rfl rfl (Nat.le_of_ble_eq_true rfl) rfl (q_goto (t := 50) rfl rfl (Wp_ls [(0, .ref 0), (1, vi a1), (2, vi a2), (3, vi a3), (4, vi y_11), (5, vi v5), (6, vi v6), (7, vi (v7 + 1))] (lsub_cons rfl (lsub_cons rfl (lsub_cons rfl (lsub_cons rfl (lsub_cons rfl (lsub_cons rfl (lsub_cons rfl (lsub_cons rfl lsub_nil)))))))) ?_))))))
            exact ih c2 y_11 v5 v6 (v7 + 1) hI2 (fun a j hm => hF a j (fun h => hm h)) hy_11 hv5 hv6 ⟨by first | exact rgp_l hv7.1 (by decide) | omega, by first | exact q_121241f94 h_1 | (clear ha1 ha2 ha3 hv4 hv5 hv6 hv7 hx0 hx1 h_7 h_9 h_10; omega) | omega⟩ ⟨by first | (clear ha1 ha2 ha3 hv4 hv5 hv6 hv7 hx1 h_1 h_7 h_9 h_10; omega) | omega, by first | (clear ha1 ha2 ha3 hv4 hv5 hv6 hv7 hx1 h_1 h_7 h_9 h_10; omega) | omega⟩ ⟨by first | (clear ha1 ha2 ha3 hv4 hv5 hv6 hv7 hx0 h_1 h_7 h_9 h_10; omega) | omega, by first | (clear ha1 ha2 ha3 hv4 hv5 hv6 hv7 hx0 h_1 h_7 h_9 h_10; omega) | omega⟩ (by omega)
          · refine v_if_ne_f (t := 144) rfl rfl (Decidable.not_not.mp h_10) (v_bip rfl (by decide) (q_iload rfl rfl (v_imul (v := 10 * (v7 / 2)) rfl rfl (q_iload rfl rfl (v_iadd (v := (v7 % 2) + 10 * (v7 / 2)) rfl (by omega) (q_istore rfl (Nat.le_of_ble_eq_true rfl) (Wp_ls [(5, vi ((v7 % 2) + 10 * (v7 / 2))), (11, vi y_5), (10, vi y_4), (9, vi (v7 % 2)), (8, vi (v7 / 2)), (0, .ref 0), (1, vi a1), (2, vi a2), (3, vi a3), (4, vi v4), (6, vi v6), (7, vi v7)] (lsub_cons rfl (lsub_cons rfl (lsub_cons rfl (lsub_cons rfl (lsub_cons rfl (lsub_cons rfl (lsub_cons rfl (lsub_cons rfl (lsub_cons rfl (lsub_cons rfl (lsub_cons rfl (lsub_cons rfl lsub_nil)))))))))))) ?_)))))))
            refine q_iload rfl rfl (q_iload rfl rfl (v_iadd (v := y_4 + y_5) rfl rfl (q_istore rfl (Nat.le_of_ble_eq_true rfl) (v_iinc (v := v4 + 1) rfl rfl (Nat.le_of_ble_eq_true rfl) rfl (v_iinc (v := v7 + 1) rfl rfl (Nat.le_of_ble_eq_true rfl) rfl (q_goto (t := 50) rfl rfl (Wp_ls [(0, .ref 0), (1, vi a1), (2, vi a2), (3, vi a3), (4, vi (v4 + 1)), (5, vi ((v7 % 2) + 10 * (v7 / 2))), (6, vi (y_4 + y_5)), (7, vi (v7 + 1))] (lsub_cons rfl (lsub_cons rfl (lsub_cons rfl (lsub_cons rfl (lsub_cons rfl (lsub_cons rfl (lsub_cons rfl (lsub_cons rfl lsub_nil)))))))) ?_)))))))
            exact ih c2 (v4 + 1) ((v7 % 2) + 10 * (v7 / 2)) (y_4 + y_5) (v7 + 1) hI2 (fun a j hm => hF a j (fun h => hm h)) ⟨by first | exact rgp_l hv4.1 (by decide) | omega, by first | exact q_e46fec7e9 h_10 | omega⟩ ⟨by omega, by omega⟩ ⟨by omega, by omega⟩ ⟨by first | exact rgp_l hv7.1 (by decide) | omega, by first | exact q_121241f94 h_1 | omega⟩ ⟨by omega, by omega⟩ ⟨by omega, by omega⟩ (by omega)
set_option maxRecDepth 100000 in
set_option maxHeartbeats 4000000 in
theorem s_136 {sc : List Int32} {e : Int} {d u P Q : Nat} {c : ME} {a1 : Int} {a2 : Int} {a3 : Int} {Z : AR → Prop} (hI : Iv u e P Q c) (ha1 : (-2147483648) ≤ a1 ∧ a1 ≤ 2147483647) (ha2 : (-2147483648) ≤ a2 ∧ a2 ≤ 2147483647) (ha3 : (-2147483648) ≤ a3 ∧ a3 ≤ 2147483647) (T101 : ∀ c2 : ME, Iv u e P Q c2 → (∀ (a : Nat) (j : Int), ¬ ((a = 0 ∧ j = 13)) → c2 a j = c a j) → Z (.inr 101, Wd P Q P P c2, 1, 6)) (K : ∀ (c2 : ME) (y : Int), Iv u e P Q c2 → (∀ (a : Nat) (j : Int), ¬ ((a = 0 ∧ j = 13)) → c2 a j = c a j) → (-2147483648) ≤ y ∧ y ≤ 2147483647 → Z (.inl (some (vi y)), Wd P Q P P c2, 0, 0)) : Wp sc (d + 8) 136 0 [(0, .ref 0), (1, vi a1), (2, vi a2), (3, vi a3)] [] (Wd P Q P P c) 0 0 Z := by
  have hP := iv_P hI
  have hQ := iv_Q hI
  refine q_aload_n rfl rfl (q_iload_n rfl rfl (q_iconst rfl (v_bip rfl (by decide) (q_call rfl rfl rfl rfl (q_iload_n rfl rfl (q_iload_n rfl rfl ?_))))))
  by_cases h_12 : a1 < 0
  · refine v_ic_lt_t (t := 14) rfl rfl ⟨ha1.1, h_12, by decide⟩ (q_iconst rfl (v_zret rfl rfl (by decide) (bk_inl (v_if_eq_t (t := 34) rfl rfl (by decide) (q_iconst rfl (v_cv rfl rfl rfl rfl (Nat.le_of_ble_eq_true rfl) ⟨⟨rfl, rfl⟩, Nat.le_of_ble_eq_true rfl, rfl⟩ (Nat.le_of_ble_eq_true rfl) (Nat.le_of_ble_eq_true rfl) (q_iload_n rfl rfl ?_)))))))
    refine v_if_ne_f (t := 25) rfl rfl (by decide) (q_aload_n rfl rfl (q_dup rfl rfl ?_))
    have h_13 := ir_0_13 hI
    refine v_gi (z := 13) (v := c 0 13) rfl rfl rfl (Nat.le_of_ble_eq_true rfl) rfl rfl rfl (q_iconst rfl (v_iadd (v := c 0 13 + 1) rfl rfl (v_nrm (fun y_14 hy_14 => (v_pi (z := 13) rfl rfl rfl (Nat.le_of_ble_eq_true rfl) rfl rfl rfl (by decide) (v_new rfl rfl (by decide) (by omega) (Nat.le_of_ble_eq_true rfl) (by decide) rfl (bk_out rfl rfl ?_)))))))
    have hI_15 := iw_0_13 (v := y_14) hI ⟨hy_14.1, hy_14.2⟩
    exact T101 _ hI_15 (fun a j hm => up_b (Decidable.or_iff_not_imp_left.mpr (fun h1 h2 => hm ⟨Decidable.not_not.mp h1, h2⟩)))
  · refine v_ic_lt_f (t := 14) rfl rfl ⟨by decide, (Int.not_lt.mp h_12), ha1.2⟩ (q_iload_n rfl rfl (q_iload_n rfl rfl ?_))
    by_cases h_16 : a1 > 99
    · refine v_ic_gt_t (t := 14) rfl rfl ⟨by decide, h_16, ha1.2⟩ (q_iconst rfl (v_zret rfl rfl (by decide) (bk_inl (v_if_eq_t (t := 34) rfl rfl (by decide) (q_iconst rfl (v_cv rfl rfl rfl rfl (Nat.le_of_ble_eq_true rfl) ⟨⟨rfl, rfl⟩, Nat.le_of_ble_eq_true rfl, rfl⟩ (Nat.le_of_ble_eq_true rfl) (Nat.le_of_ble_eq_true rfl) (q_iload_n rfl rfl ?_)))))))
      refine v_if_ne_f (t := 25) rfl rfl (by decide) (q_aload_n rfl rfl (q_dup rfl rfl ?_))
      have h_17 := ir_0_13 hI
      refine v_gi (z := 13) (v := c 0 13) rfl rfl rfl (Nat.le_of_ble_eq_true rfl) rfl rfl rfl (q_iconst rfl (v_iadd (v := c 0 13 + 1) rfl rfl (v_nrm (fun y_18 hy_18 => (v_pi (z := 13) rfl rfl rfl (Nat.le_of_ble_eq_true rfl) rfl rfl rfl (by decide) (v_new rfl rfl (by decide) (by omega) (Nat.le_of_ble_eq_true rfl) (by decide) rfl (bk_out rfl rfl ?_)))))))
      have hI_19 := iw_0_13 (v := y_18) hI ⟨hy_18.1, hy_18.2⟩
      exact T101 _ hI_19 (fun a j hm => up_b (Decidable.or_iff_not_imp_left.mpr (fun h1 h2 => hm ⟨Decidable.not_not.mp h1, h2⟩)))
    · refine v_ic_gt_f (t := 14) rfl rfl ⟨ha1.1, (Int.not_lt.mp h_16), by decide⟩ (q_iconst rfl (q_goto (t := 15) rfl rfl (v_zret rfl rfl (by decide) (bk_inl (v_if_eq_f (t := 34) rfl rfl (by decide) (q_iload_n rfl rfl (q_iconst rfl ?_)))))))
      refine v_bip rfl (by decide) (q_call rfl rfl rfl rfl (q_iload_n rfl rfl (q_iload_n rfl rfl ?_)))
      by_cases h_20 : a2 < 0
      · refine v_ic_lt_t (t := 14) rfl rfl ⟨ha2.1, h_20, by decide⟩ (q_iconst rfl (v_zret rfl rfl (by decide) (bk_inl (v_if_eq_t (t := 34) rfl rfl (by decide) (q_iconst rfl (v_cv rfl rfl rfl rfl (Nat.le_of_ble_eq_true rfl) ⟨⟨rfl, rfl⟩, Nat.le_of_ble_eq_true rfl, rfl⟩ (Nat.le_of_ble_eq_true rfl) (Nat.le_of_ble_eq_true rfl) (q_iload_n rfl rfl ?_)))))))
        refine v_if_ne_f (t := 25) rfl rfl (by decide) (q_aload_n rfl rfl (q_dup rfl rfl ?_))
        have h_21 := ir_0_13 hI
        refine v_gi (z := 13) (v := c 0 13) rfl rfl rfl (Nat.le_of_ble_eq_true rfl) rfl rfl rfl (q_iconst rfl (v_iadd (v := c 0 13 + 1) rfl rfl (v_nrm (fun y_22 hy_22 => (v_pi (z := 13) rfl rfl rfl (Nat.le_of_ble_eq_true rfl) rfl rfl rfl (by decide) (v_new rfl rfl (by decide) (by omega) (Nat.le_of_ble_eq_true rfl) (by decide) rfl (bk_out rfl rfl ?_)))))))
        have hI_23 := iw_0_13 (v := y_22) hI ⟨hy_22.1, hy_22.2⟩
        exact T101 _ hI_23 (fun a j hm => up_b (Decidable.or_iff_not_imp_left.mpr (fun h1 h2 => hm ⟨Decidable.not_not.mp h1, h2⟩)))
      · refine v_ic_lt_f (t := 14) rfl rfl ⟨by decide, (Int.not_lt.mp h_20), ha2.2⟩ (q_iload_n rfl rfl (q_iload_n rfl rfl ?_))
        by_cases h_24 : a2 > 99
        · refine v_ic_gt_t (t := 14) rfl rfl ⟨by decide, h_24, ha2.2⟩ (q_iconst rfl (v_zret rfl rfl (by decide) (bk_inl (v_if_eq_t (t := 34) rfl rfl (by decide) (q_iconst rfl (v_cv rfl rfl rfl rfl (Nat.le_of_ble_eq_true rfl) ⟨⟨rfl, rfl⟩, Nat.le_of_ble_eq_true rfl, rfl⟩ (Nat.le_of_ble_eq_true rfl) (Nat.le_of_ble_eq_true rfl) (q_iload_n rfl rfl ?_)))))))
          refine v_if_ne_f (t := 25) rfl rfl (by decide) (q_aload_n rfl rfl (q_dup rfl rfl ?_))
          have h_25 := ir_0_13 hI
          refine v_gi (z := 13) (v := c 0 13) rfl rfl rfl (Nat.le_of_ble_eq_true rfl) rfl rfl rfl (q_iconst rfl (v_iadd (v := c 0 13 + 1) rfl rfl (v_nrm (fun y_26 hy_26 => (v_pi (z := 13) rfl rfl rfl (Nat.le_of_ble_eq_true rfl) rfl rfl rfl (by decide) (v_new rfl rfl (by decide) (by omega) (Nat.le_of_ble_eq_true rfl) (by decide) rfl (bk_out rfl rfl ?_)))))))
          have hI_27 := iw_0_13 (v := y_26) hI ⟨hy_26.1, hy_26.2⟩
          exact T101 _ hI_27 (fun a j hm => up_b (Decidable.or_iff_not_imp_left.mpr (fun h1 h2 => hm ⟨Decidable.not_not.mp h1, h2⟩)))
        · refine v_ic_gt_f (t := 14) rfl rfl ⟨ha2.1, (Int.not_lt.mp h_24), by decide⟩ (q_iconst rfl (q_goto (t := 15) rfl rfl (v_zret rfl rfl (by decide) (bk_inl (v_if_eq_f (t := 34) rfl rfl (by decide) (q_iload_n rfl rfl (q_iconst rfl ?_)))))))
          refine q_iconst rfl (q_call rfl rfl rfl rfl (q_iload_n rfl rfl (q_iload_n rfl rfl ?_)))
          by_cases h_28 : a3 < 0
          · refine v_ic_lt_t (t := 14) rfl rfl ⟨ha3.1, h_28, by decide⟩ (q_iconst rfl (v_zret rfl rfl (by decide) (bk_inl (v_if_eq_t (t := 34) rfl rfl (by decide) (q_iconst rfl (v_cv rfl rfl rfl rfl (Nat.le_of_ble_eq_true rfl) ⟨⟨rfl, rfl⟩, Nat.le_of_ble_eq_true rfl, rfl⟩ (Nat.le_of_ble_eq_true rfl) (Nat.le_of_ble_eq_true rfl) (q_iload_n rfl rfl ?_)))))))
            refine v_if_ne_f (t := 25) rfl rfl (by decide) (q_aload_n rfl rfl (q_dup rfl rfl ?_))
            have h_29 := ir_0_13 hI
            refine v_gi (z := 13) (v := c 0 13) rfl rfl rfl (Nat.le_of_ble_eq_true rfl) rfl rfl rfl (q_iconst rfl (v_iadd (v := c 0 13 + 1) rfl rfl (v_nrm (fun y_30 hy_30 => (v_pi (z := 13) rfl rfl rfl (Nat.le_of_ble_eq_true rfl) rfl rfl rfl (by decide) (v_new rfl rfl (by decide) (by omega) (Nat.le_of_ble_eq_true rfl) (by decide) rfl (bk_out rfl rfl ?_)))))))
            have hI_31 := iw_0_13 (v := y_30) hI ⟨hy_30.1, hy_30.2⟩
            exact T101 _ hI_31 (fun a j hm => up_b (Decidable.or_iff_not_imp_left.mpr (fun h1 h2 => hm ⟨Decidable.not_not.mp h1, h2⟩)))
          · refine v_ic_lt_f (t := 14) rfl rfl ⟨by decide, (Int.not_lt.mp h_28), ha3.2⟩ (q_iload_n rfl rfl (q_iload_n rfl rfl ?_))
            by_cases h_32 : a3 > 2
            · refine v_ic_gt_t (t := 14) rfl rfl ⟨by decide, h_32, ha3.2⟩ (q_iconst rfl (v_zret rfl rfl (by decide) (bk_inl (v_if_eq_t (t := 34) rfl rfl (by decide) (q_iconst rfl (v_cv rfl rfl rfl rfl (Nat.le_of_ble_eq_true rfl) ⟨⟨rfl, rfl⟩, Nat.le_of_ble_eq_true rfl, rfl⟩ (Nat.le_of_ble_eq_true rfl) (Nat.le_of_ble_eq_true rfl) (q_iload_n rfl rfl ?_)))))))
              refine v_if_ne_f (t := 25) rfl rfl (by decide) (q_aload_n rfl rfl (q_dup rfl rfl ?_))
              have h_33 := ir_0_13 hI
              refine v_gi (z := 13) (v := c 0 13) rfl rfl rfl (Nat.le_of_ble_eq_true rfl) rfl rfl rfl (q_iconst rfl (v_iadd (v := c 0 13 + 1) rfl rfl (v_nrm (fun y_34 hy_34 => (v_pi (z := 13) rfl rfl rfl (Nat.le_of_ble_eq_true rfl) rfl rfl rfl (by decide) (v_new rfl rfl (by decide) (by omega) (Nat.le_of_ble_eq_true rfl) (by decide) rfl (bk_out rfl rfl ?_)))))))
              have hI_35 := iw_0_13 (v := y_34) hI ⟨hy_34.1, hy_34.2⟩
              exact T101 _ hI_35 (fun a j hm => up_b (Decidable.or_iff_not_imp_left.mpr (fun h1 h2 => hm ⟨Decidable.not_not.mp h1, h2⟩)))
            · refine v_ic_gt_f (t := 14) rfl rfl ⟨ha3.1, (Int.not_lt.mp h_32), by decide⟩ (q_iconst rfl (q_goto (t := 15) rfl rfl (v_zret rfl rfl (by decide) (bk_inl (v_if_eq_f (t := 34) rfl rfl (by decide) (q_iconst rfl (q_goto (t := 35) rfl rfl ?_)))))))
              refine v_cv rfl rfl rfl rfl (Nat.le_of_ble_eq_true rfl) ⟨⟨rfl, rfl⟩, Nat.le_of_ble_eq_true rfl, rfl⟩ (Nat.le_of_ble_eq_true rfl) (Nat.le_of_ble_eq_true rfl) (q_iload_n rfl rfl (v_if_ne_t (t := 25) rfl rfl (by decide) (q_vret rfl rfl (bk_inl (q_iconst rfl (q_istore rfl (Nat.le_of_ble_eq_true rfl) (q_iconst rfl ?_)))))))
              refine q_istore rfl (Nat.le_of_ble_eq_true rfl) (q_iconst rfl (q_istore rfl (Nat.le_of_ble_eq_true rfl) (q_iconst rfl (q_istore rfl (Nat.le_of_ble_eq_true rfl) (Wp_ls [(0, .ref 0), (1, vi a1), (2, vi a2), (3, vi a3), (4, vi 0), (5, vi (-1)), (6, vi 0), (7, vi 0)] (lsub_cons rfl (lsub_cons rfl (lsub_cons rfl (lsub_cons rfl (lsub_cons rfl (lsub_cons rfl (lsub_cons rfl (lsub_cons rfl lsub_nil)))))))) ?_)))))
              exact (s_136_l (sc := sc) (d := d) hI ha1 ha2 ha3 T101 K 12) c 0 (-1) 0 0 hI (fun a j hm => rfl) ⟨by decide, by decide⟩ ⟨by decide, by decide⟩ ⟨by decide, by decide⟩ ⟨by decide, by decide⟩ ⟨by first | exact q_720657ba9 h_12 | omega, by first | exact q_9010c525b h_16 | omega⟩ ⟨by first | exact q_720657ba9 h_20 | omega, by first | exact q_9010c525b h_24 | omega⟩ (by omega)

set_option maxRecDepth 100000 in
set_option maxHeartbeats 4000000 in
theorem s_137 {sc : List Int32} {d P Q : Nat} {c : ME} {a1 : Int} {a2 : Int} {a3 : Int} {a4 : Int} {Z : AR → Prop} (hI : Iv 0 (-1) P Q c) (ha1 : (-2147483648) ≤ a1 ∧ a1 ≤ 2147483647) (ha2 : (-2147483648) ≤ a2 ∧ a2 ≤ 2147483647) (ha3 : (-2147483648) ≤ a3 ∧ a3 ≤ 2147483647) (ha4 : (-2147483648) ≤ a4 ∧ a4 ≤ 2147483647) (T101 : ∀ c2 : ME, Iv 0 (-1) P Q c2 → (∀ (a : Nat) (j : Int), ¬ ((a = 0 ∧ j = 13) ∨ a = (P + 10) ∨ a = (P + 11) ∨ (a = 9 ∧ j = 0) ∨ a = 40) → c2 a j = c a j) → Z (.inr 101, Wd P Q P P c2, 1, 6)) (K : ∀ (c2 : ME) (y : Int), Iv 0 (-1) P Q c2 → (∀ (a : Nat) (j : Int), ¬ ((a = 0 ∧ j = 13) ∨ a = (P + 10) ∨ a = (P + 11) ∨ (a = 9 ∧ j = 0) ∨ a = 40) → c2 a j = c a j) → (-2147483648) ≤ y ∧ y ≤ 2147483647 → Z (.inl (some (vi y)), Wd P Q P P c2, 0, 0)) : Wp sc (d + 13) 137 0 [(0, .ref 0), (1, vi a1), (2, vi a2), (3, vi a3), (4, vi a4)] [] (Wd P Q P P c) 0 0 Z := by
  have hP := iv_P hI
  have hQ := iv_Q hI
  refine q_aload_n rfl rfl (q_iload_n rfl rfl (q_iconst rfl (v_bip rfl (by decide) (q_call rfl rfl rfl rfl (q_iload_n rfl rfl (q_iload_n rfl rfl ?_))))))
  by_cases h_1 : a2 < 0
  · refine v_ic_lt_t (t := 14) rfl rfl ⟨ha2.1, h_1, by decide⟩ (q_iconst rfl (v_zret rfl rfl (by decide) (bk_inl (v_if_eq_t (t := 35) rfl rfl (by decide) (q_iconst rfl (v_cv rfl rfl rfl rfl (Nat.le_of_ble_eq_true rfl) ⟨⟨rfl, rfl⟩, Nat.le_of_ble_eq_true rfl, rfl⟩ (Nat.le_of_ble_eq_true rfl) (Nat.le_of_ble_eq_true rfl) (q_iload_n rfl rfl ?_)))))))
    refine v_if_ne_f (t := 25) rfl rfl (by decide) (q_aload_n rfl rfl (q_dup rfl rfl ?_))
    have h_2 := ir_0_13 hI
    refine v_gi (z := 13) (v := c 0 13) rfl rfl rfl (Nat.le_of_ble_eq_true rfl) rfl rfl rfl (q_iconst rfl (v_iadd (v := c 0 13 + 1) rfl rfl (v_nrm (fun y_3 hy_3 => (v_pi (z := 13) rfl rfl rfl (Nat.le_of_ble_eq_true rfl) rfl rfl rfl (by decide) (v_new rfl rfl (by decide) (by omega) (Nat.le_of_ble_eq_true rfl) (by decide) rfl (bk_out rfl rfl ?_)))))))
    have hI_4 := iw_0_13 (v := y_3) hI ⟨hy_3.1, hy_3.2⟩
    exact T101 _ hI_4 (fun a j hm => up_b (Decidable.or_iff_not_imp_left.mpr (fun h1 h2 => hm (Or.inl ⟨Decidable.not_not.mp h1, h2⟩))))
  · refine v_ic_lt_f (t := 14) rfl rfl ⟨by decide, (Int.not_lt.mp h_1), ha2.2⟩ (q_iload_n rfl rfl (q_iload_n rfl rfl ?_))
    by_cases h_5 : a2 > 16
    · refine v_ic_gt_t (t := 14) rfl rfl ⟨by decide, h_5, ha2.2⟩ (q_iconst rfl (v_zret rfl rfl (by decide) (bk_inl (v_if_eq_t (t := 35) rfl rfl (by decide) (q_iconst rfl (v_cv rfl rfl rfl rfl (Nat.le_of_ble_eq_true rfl) ⟨⟨rfl, rfl⟩, Nat.le_of_ble_eq_true rfl, rfl⟩ (Nat.le_of_ble_eq_true rfl) (Nat.le_of_ble_eq_true rfl) (q_iload_n rfl rfl ?_)))))))
      refine v_if_ne_f (t := 25) rfl rfl (by decide) (q_aload_n rfl rfl (q_dup rfl rfl ?_))
      have h_6 := ir_0_13 hI
      refine v_gi (z := 13) (v := c 0 13) rfl rfl rfl (Nat.le_of_ble_eq_true rfl) rfl rfl rfl (q_iconst rfl (v_iadd (v := c 0 13 + 1) rfl rfl (v_nrm (fun y_7 hy_7 => (v_pi (z := 13) rfl rfl rfl (Nat.le_of_ble_eq_true rfl) rfl rfl rfl (by decide) (v_new rfl rfl (by decide) (by omega) (Nat.le_of_ble_eq_true rfl) (by decide) rfl (bk_out rfl rfl ?_)))))))
      have hI_8 := iw_0_13 (v := y_7) hI ⟨hy_7.1, hy_7.2⟩
      exact T101 _ hI_8 (fun a j hm => up_b (Decidable.or_iff_not_imp_left.mpr (fun h1 h2 => hm (Or.inl ⟨Decidable.not_not.mp h1, h2⟩))))
    · refine v_ic_gt_f (t := 14) rfl rfl ⟨ha2.1, (Int.not_lt.mp h_5), by decide⟩ (q_iconst rfl (q_goto (t := 15) rfl rfl (v_zret rfl rfl (by decide) (bk_inl (v_if_eq_f (t := 35) rfl rfl (by decide) (q_iload_n rfl rfl (q_iconst rfl ?_)))))))
      refine v_bip rfl (by decide) (q_call rfl rfl rfl rfl (q_iload_n rfl rfl (q_iload_n rfl rfl ?_)))
      by_cases h_9 : a3 < 1
      · refine v_ic_lt_t (t := 14) rfl rfl ⟨ha3.1, h_9, by decide⟩ (q_iconst rfl (v_zret rfl rfl (by decide) (bk_inl (v_if_eq_t (t := 35) rfl rfl (by decide) (q_iconst rfl (v_cv rfl rfl rfl rfl (Nat.le_of_ble_eq_true rfl) ⟨⟨rfl, rfl⟩, Nat.le_of_ble_eq_true rfl, rfl⟩ (Nat.le_of_ble_eq_true rfl) (Nat.le_of_ble_eq_true rfl) (q_iload_n rfl rfl ?_)))))))
        refine v_if_ne_f (t := 25) rfl rfl (by decide) (q_aload_n rfl rfl (q_dup rfl rfl ?_))
        have h_10 := ir_0_13 hI
        refine v_gi (z := 13) (v := c 0 13) rfl rfl rfl (Nat.le_of_ble_eq_true rfl) rfl rfl rfl (q_iconst rfl (v_iadd (v := c 0 13 + 1) rfl rfl (v_nrm (fun y_11 hy_11 => (v_pi (z := 13) rfl rfl rfl (Nat.le_of_ble_eq_true rfl) rfl rfl rfl (by decide) (v_new rfl rfl (by decide) (by omega) (Nat.le_of_ble_eq_true rfl) (by decide) rfl (bk_out rfl rfl ?_)))))))
        have hI_12 := iw_0_13 (v := y_11) hI ⟨hy_11.1, hy_11.2⟩
        exact T101 _ hI_12 (fun a j hm => up_b (Decidable.or_iff_not_imp_left.mpr (fun h1 h2 => hm (Or.inl ⟨Decidable.not_not.mp h1, h2⟩))))
      · refine v_ic_lt_f (t := 14) rfl rfl ⟨by decide, (Int.not_lt.mp h_9), ha3.2⟩ (q_iload_n rfl rfl (q_iload_n rfl rfl ?_))
        by_cases h_13 : a3 > 48
        · refine v_ic_gt_t (t := 14) rfl rfl ⟨by decide, h_13, ha3.2⟩ (q_iconst rfl (v_zret rfl rfl (by decide) (bk_inl (v_if_eq_t (t := 35) rfl rfl (by decide) (q_iconst rfl (v_cv rfl rfl rfl rfl (Nat.le_of_ble_eq_true rfl) ⟨⟨rfl, rfl⟩, Nat.le_of_ble_eq_true rfl, rfl⟩ (Nat.le_of_ble_eq_true rfl) (Nat.le_of_ble_eq_true rfl) (q_iload_n rfl rfl ?_)))))))
          refine v_if_ne_f (t := 25) rfl rfl (by decide) (q_aload_n rfl rfl (q_dup rfl rfl ?_))
          have h_14 := ir_0_13 hI
          refine v_gi (z := 13) (v := c 0 13) rfl rfl rfl (Nat.le_of_ble_eq_true rfl) rfl rfl rfl (q_iconst rfl (v_iadd (v := c 0 13 + 1) rfl rfl (v_nrm (fun y_15 hy_15 => (v_pi (z := 13) rfl rfl rfl (Nat.le_of_ble_eq_true rfl) rfl rfl rfl (by decide) (v_new rfl rfl (by decide) (by omega) (Nat.le_of_ble_eq_true rfl) (by decide) rfl (bk_out rfl rfl ?_)))))))
          have hI_16 := iw_0_13 (v := y_15) hI ⟨hy_15.1, hy_15.2⟩
          exact T101 _ hI_16 (fun a j hm => up_b (Decidable.or_iff_not_imp_left.mpr (fun h1 h2 => hm (Or.inl ⟨Decidable.not_not.mp h1, h2⟩))))
        · refine v_ic_gt_f (t := 14) rfl rfl ⟨ha3.1, (Int.not_lt.mp h_13), by decide⟩ (q_iconst rfl (q_goto (t := 15) rfl rfl (v_zret rfl rfl (by decide) (bk_inl (v_if_eq_f (t := 35) rfl rfl (by decide) (q_iload rfl rfl (q_iconst rfl ?_)))))))
          refine q_iconst rfl (q_call rfl rfl rfl rfl (q_iload_n rfl rfl (q_iload_n rfl rfl ?_)))
          by_cases h_17 : a4 < 0
          · refine v_ic_lt_t (t := 14) rfl rfl ⟨ha4.1, h_17, by decide⟩ (q_iconst rfl (v_zret rfl rfl (by decide) (bk_inl (v_if_eq_t (t := 35) rfl rfl (by decide) (q_iconst rfl (v_cv rfl rfl rfl rfl (Nat.le_of_ble_eq_true rfl) ⟨⟨rfl, rfl⟩, Nat.le_of_ble_eq_true rfl, rfl⟩ (Nat.le_of_ble_eq_true rfl) (Nat.le_of_ble_eq_true rfl) (q_iload_n rfl rfl ?_)))))))
            refine v_if_ne_f (t := 25) rfl rfl (by decide) (q_aload_n rfl rfl (q_dup rfl rfl ?_))
            have h_18 := ir_0_13 hI
            refine v_gi (z := 13) (v := c 0 13) rfl rfl rfl (Nat.le_of_ble_eq_true rfl) rfl rfl rfl (q_iconst rfl (v_iadd (v := c 0 13 + 1) rfl rfl (v_nrm (fun y_19 hy_19 => (v_pi (z := 13) rfl rfl rfl (Nat.le_of_ble_eq_true rfl) rfl rfl rfl (by decide) (v_new rfl rfl (by decide) (by omega) (Nat.le_of_ble_eq_true rfl) (by decide) rfl (bk_out rfl rfl ?_)))))))
            have hI_20 := iw_0_13 (v := y_19) hI ⟨hy_19.1, hy_19.2⟩
            exact T101 _ hI_20 (fun a j hm => up_b (Decidable.or_iff_not_imp_left.mpr (fun h1 h2 => hm (Or.inl ⟨Decidable.not_not.mp h1, h2⟩))))
          · refine v_ic_lt_f (t := 14) rfl rfl ⟨by decide, (Int.not_lt.mp h_17), ha4.2⟩ (q_iload_n rfl rfl (q_iload_n rfl rfl ?_))
            by_cases h_21 : a4 > 3
            · refine v_ic_gt_t (t := 14) rfl rfl ⟨by decide, h_21, ha4.2⟩ (q_iconst rfl (v_zret rfl rfl (by decide) (bk_inl (v_if_eq_t (t := 35) rfl rfl (by decide) (q_iconst rfl (v_cv rfl rfl rfl rfl (Nat.le_of_ble_eq_true rfl) ⟨⟨rfl, rfl⟩, Nat.le_of_ble_eq_true rfl, rfl⟩ (Nat.le_of_ble_eq_true rfl) (Nat.le_of_ble_eq_true rfl) (q_iload_n rfl rfl ?_)))))))
              refine v_if_ne_f (t := 25) rfl rfl (by decide) (q_aload_n rfl rfl (q_dup rfl rfl ?_))
              have h_22 := ir_0_13 hI
              refine v_gi (z := 13) (v := c 0 13) rfl rfl rfl (Nat.le_of_ble_eq_true rfl) rfl rfl rfl (q_iconst rfl (v_iadd (v := c 0 13 + 1) rfl rfl (v_nrm (fun y_23 hy_23 => (v_pi (z := 13) rfl rfl rfl (Nat.le_of_ble_eq_true rfl) rfl rfl rfl (by decide) (v_new rfl rfl (by decide) (by omega) (Nat.le_of_ble_eq_true rfl) (by decide) rfl (bk_out rfl rfl ?_)))))))
              have hI_24 := iw_0_13 (v := y_23) hI ⟨hy_23.1, hy_23.2⟩
              exact T101 _ hI_24 (fun a j hm => up_b (Decidable.or_iff_not_imp_left.mpr (fun h1 h2 => hm (Or.inl ⟨Decidable.not_not.mp h1, h2⟩))))
            · refine v_ic_gt_f (t := 14) rfl rfl ⟨ha4.1, (Int.not_lt.mp h_21), by decide⟩ (q_iconst rfl (q_goto (t := 15) rfl rfl (v_zret rfl rfl (by decide) (bk_inl (v_if_eq_f (t := 35) rfl rfl (by decide) (q_iconst rfl (q_goto (t := 36) rfl rfl ?_)))))))
              refine v_cv rfl rfl rfl rfl (Nat.le_of_ble_eq_true rfl) ⟨⟨rfl, rfl⟩, Nat.le_of_ble_eq_true rfl, rfl⟩ (Nat.le_of_ble_eq_true rfl) (Nat.le_of_ble_eq_true rfl) (q_iload_n rfl rfl (v_if_ne_t (t := 25) rfl rfl (by decide) (q_vret rfl rfl (bk_inl (q_aload_n rfl rfl (v_gr (t := 39) rfl rfl rfl (Nat.le_of_ble_eq_true rfl) rfl (q_aload_n rfl rfl ?_)))))))
              refine v_gr (t := 37) rfl rfl rfl (Nat.le_of_ble_eq_true rfl) rfl (v_cv rfl rfl rfl rfl (Nat.le_of_ble_eq_true rfl) ⟨⟨rfl, rfl⟩, Nat.le_of_ble_eq_true rfl, rfl⟩ (Nat.le_of_ble_eq_true rfl) (Nat.le_of_ble_eq_true rfl) (s_66 hI (fun c_25 hI_26 hF_27 => (bk_inl (q_aload_n rfl rfl (v_gr (t := 9) rfl rfl rfl (Nat.le_of_ble_eq_true rfl) rfl (q_aload_n rfl rfl (v_gr (t := 39) rfl rfl rfl (Nat.le_of_ble_eq_true rfl) rfl (q_iload_n rfl rfl ?_)))))))))
              refine q_iload_n rfl rfl (q_iload_n rfl rfl (v_cv rfl rfl rfl rfl (Nat.le_of_ble_eq_true rfl) ⟨⟨rfl, rfl⟩, Nat.le_of_ble_eq_true rfl, rfl⟩ (Nat.le_of_ble_eq_true rfl) (Nat.le_of_ble_eq_true rfl) (s_77 (a2 := a1) (a3 := a2) (a4 := a3) hI_26 (show (-2147483648) ≤ a1 ∧ a1 ≤ 2147483647 from ha1) (show 0 ≤ a2 ∧ a2 ≤ 16 from ⟨by first | exact q_720657ba9 h_1 | omega, by first | exact q_7f2151846 h_5 | omega⟩) (show 1 ≤ a3 ∧ a3 ≤ 48 from ⟨by first | exact q_f19038599 h_9 | omega, by first | exact q_1cdd54b12 h_13 | omega⟩) (fun c_28 hI_29 hF_30 => (bk_inl (q_iload rfl rfl ?_))))))
              by_cases h_31 : a4 = 0
              · skip
                refine v_tsw_i (t := 92) 0 rfl (by omega) (by decide) rfl (by decide) (q_aload_n rfl rfl (v_gr (t := 39) rfl rfl rfl (Nat.le_of_ble_eq_true rfl) rfl (v_gr (t := 40) rfl rfl rfl (Nat.le_of_ble_eq_true rfl) rfl (v_bip rfl (by decide) ?_))))
                have h_32 := ir_40 hI_29 33
                refine v_ia (v := c_28 40 33) rfl rfl (by decide) (by decide) (by decide) rfl (q_aload_n rfl rfl (v_gr (t := 37) rfl rfl rfl (Nat.le_of_ble_eq_true rfl) rfl (v_gr (t := 38) rfl rfl rfl (Nat.le_of_ble_eq_true rfl) rfl (v_bip rfl (by decide) ?_))))
                have h_33 := ir_38 hI 33
                have kn_34 : Hid (c_25 38 33 = c 38 33) := hF_27 38 33 (fun h => absurd h (nn rfl))
                have kn_35 : Hid (c_28 38 33 = c 38 33) := (hF_30 38 33 (fun q => q.elim (fun h => absurd h.1 (nn rfl)) (fun q => q.elim (fun h => absurd h (nn rfl)) (fun q => q.elim (fun h => absurd h (pn hP rfl rfl)) (fun h => absurd h (pn hP rfl rfl)))))).trans (hid kn_34)
                refine v_ia (v := c 38 33) rfl rfl (by decide) (by decide) (by decide) (hid kn_35) (v_isub (v := c_28 40 33 - c 38 33) rfl (by omega) (v_nrm (fun y_36 hy_36 => (q_iret rfl rfl ?_))))
                exact K c_28 y_36 hI_29 (fun a j hm => (hF_30 a j (fun q => q.elim (fun h => hm (Or.inr (Or.inr (Or.inr (Or.inl h))))) (fun q => q.elim (fun h => hm (Or.inr (Or.inr (Or.inr (Or.inr h))))) (fun q => q.elim (fun h => hm (Or.inr (Or.inl h))) (fun h => hm (Or.inr (Or.inr (Or.inl h)))))))).trans (hF_27 a j (fun h => hm (Or.inr (Or.inr (Or.inr (Or.inr h))))))) hy_36
              by_cases h_37 : a4 = 1
              · skip
                refine v_tsw_i (t := 114) 1 rfl (by omega) (by decide) rfl (by decide) (q_aload_n rfl rfl (v_gr (t := 39) rfl rfl rfl (Nat.le_of_ble_eq_true rfl) rfl (v_cv rfl rfl rfl rfl (Nat.le_of_ble_eq_true rfl) ⟨⟨rfl, rfl⟩, Nat.le_of_ble_eq_true rfl, rfl⟩ (Nat.le_of_ble_eq_true rfl) (Nat.le_of_ble_eq_true rfl) (s_69 hI_29 (.inr ⟨rfl, rfl⟩) (fun y_38 hy_38 => (bk_inl (q_iret rfl rfl ?_)))))))
                exact K c_28 y_38 hI_29 (fun a j hm => (hF_30 a j (fun q => q.elim (fun h => hm (Or.inr (Or.inr (Or.inr (Or.inl h))))) (fun q => q.elim (fun h => hm (Or.inr (Or.inr (Or.inr (Or.inr h))))) (fun q => q.elim (fun h => hm (Or.inr (Or.inl h))) (fun h => hm (Or.inr (Or.inr (Or.inl h)))))))).trans (hF_27 a j (fun h => hm (Or.inr (Or.inr (Or.inr (Or.inr h))))))) hy_38
              by_cases h_39 : a4 = 2
              · skip
                refine v_tsw_i (t := 122) 2 rfl (by omega) (by decide) rfl (by decide) (q_aload_n rfl rfl (v_gr (t := 39) rfl rfl rfl (Nat.le_of_ble_eq_true rfl) rfl (v_gr (t := 40) rfl rfl rfl (Nat.le_of_ble_eq_true rfl) rfl (v_bip rfl (by decide) ?_))))
                have h_40 := ir_40 hI_29 32
                refine v_ia (v := c_28 40 32) rfl rfl (by decide) (by decide) (by decide) rfl (q_aload_n rfl rfl (v_gr (t := 37) rfl rfl rfl (Nat.le_of_ble_eq_true rfl) rfl (v_gr (t := 38) rfl rfl rfl (Nat.le_of_ble_eq_true rfl) rfl (v_bip rfl (by decide) ?_))))
                have h_41 := ir_38 hI 32
                have kn_42 : Hid (c_25 38 32 = c 38 32) := hF_27 38 32 (fun h => absurd h (nn rfl))
                have kn_43 : Hid (c_28 38 32 = c 38 32) := (hF_30 38 32 (fun q => q.elim (fun h => absurd h.1 (nn rfl)) (fun q => q.elim (fun h => absurd h (nn rfl)) (fun q => q.elim (fun h => absurd h (pn hP rfl rfl)) (fun h => absurd h (pn hP rfl rfl)))))).trans (hid kn_42)
                refine v_ia (v := c 38 32) rfl rfl (by decide) (by decide) (by decide) (hid kn_43) (v_isub (v := c_28 40 32 - c 38 32) rfl (by first | (clear ha1 ha2 ha3 ha4 h_1 h_5 h_9 h_13 h_17 h_21 h_39 h_40 h_41 h_31 h_37; omega) | omega) (v_nrm (fun y_44 hy_44 => (q_iret rfl rfl ?_))))
                exact K c_28 y_44 hI_29 (fun a j hm => (hF_30 a j (fun q => q.elim (fun h => hm (Or.inr (Or.inr (Or.inr (Or.inl h))))) (fun q => q.elim (fun h => hm (Or.inr (Or.inr (Or.inr (Or.inr h))))) (fun q => q.elim (fun h => hm (Or.inr (Or.inl h))) (fun h => hm (Or.inr (Or.inr (Or.inl h)))))))).trans (hF_27 a j (fun h => hm (Or.inr (Or.inr (Or.inr (Or.inr h))))))) hy_44
              refine v_tsw_o (t := 144) rfl (by omega) (by decide) (q_aload_n rfl rfl (v_gr (t := 39) rfl rfl rfl (Nat.le_of_ble_eq_true rfl) rfl (v_cv rfl rfl rfl rfl (Nat.le_of_ble_eq_true rfl) ⟨⟨rfl, rfl⟩, Nat.le_of_ble_eq_true rfl, rfl⟩ (Nat.le_of_ble_eq_true rfl) (Nat.le_of_ble_eq_true rfl) (s_70 hI_29 (.inr ⟨rfl, rfl⟩) (fun y_45 hy_45 => (bk_inl (q_iret rfl rfl ?_)))))))
              exact K c_28 y_45 hI_29 (fun a j hm => (hF_30 a j (fun q => q.elim (fun h => hm (Or.inr (Or.inr (Or.inr (Or.inl h))))) (fun q => q.elim (fun h => hm (Or.inr (Or.inr (Or.inr (Or.inr h))))) (fun q => q.elim (fun h => hm (Or.inr (Or.inl h))) (fun h => hm (Or.inr (Or.inr (Or.inl h)))))))).trans (hF_27 a j (fun h => hm (Or.inr (Or.inr (Or.inr (Or.inr h))))))) hy_45

set_option maxRecDepth 100000 in
set_option maxHeartbeats 4000000 in
theorem s_138_l {sc : List Int32} {d P Q : Nat} {c : ME} {a1 : Int} {a2 : Int} {a3 : Int} {a4 : Int} {a5 : Int} {a6 : Int} {Z : AR → Prop} (hI : Iv 0 (-1) P Q c) (ha1 : (-2147483648) ≤ a1 ∧ a1 ≤ 2147483647) (ha2 : (-2147483648) ≤ a2 ∧ a2 ≤ 2147483647) (ha3 : (-2147483648) ≤ a3 ∧ a3 ≤ 2147483647) (ha4 : (-2147483648) ≤ a4 ∧ a4 ≤ 2147483647) (ha5 : (-2147483648) ≤ a5 ∧ a5 ≤ 2147483647) (ha6 : (-2147483648) ≤ a6 ∧ a6 ≤ 2147483647) (T101 : ∀ c2 : ME, Iv 0 (-1) P Q c2 → (∀ (a : Nat) (j : Int), ¬ ((a = 0 ∧ j = 13) ∨ a = (P + 10) ∨ a = (P + 11) ∨ (a = 9 ∧ j = 0) ∨ a = 40) → c2 a j = c a j) → Z (.inr 101, Wd P Q P P c2, 1, 6)) (K : ∀ (c2 : ME) (y : Int), Iv 0 (-1) P Q c2 → (∀ (a : Nat) (j : Int), ¬ ((a = 0 ∧ j = 13) ∨ a = (P + 10) ∨ a = (P + 11) ∨ (a = 9 ∧ j = 0) ∨ a = 40) → c2 a j = c a j) → (-2147483648) ≤ y ∧ y ≤ 2147483647 → Z (.inl (some (vi y)), Wd P Q P P c2, 0, 0)) : ∀ n : Nat, (∀ (c2 : ME) (v7 : Int) (v8 : Int) (v9 : Int) (v10 : Int), Iv 0 (-1) P Q c2 → (∀ (a : Nat) (j : Int), ¬ ((a = 0 ∧ j = 13) ∨ a = (P + 10) ∨ a = (P + 11) ∨ (a = 9 ∧ j = 0) ∨ a = 40) → c2 a j = c a j) → (-2147483648) ≤ v7 ∧ v7 ≤ 2147483647 → 0 ≤ v8 ∧ v8 ≤ 2147483647 → (-2147483648) ≤ v9 ∧ v9 ≤ 2147483647 → 0 ≤ v10 ∧ v10 ≤ 10 → ((a2 ≥ 1 ∧ a2 ≤ 10)) → ((a6 ≥ 0 ∧ a6 ≤ 5)) → ((a3 ≥ 0 ∧ a3 ≤ 16)) → ((a4 ≥ 1 ∧ a4 ≤ 48)) → 21 - 2 * v10 < (n : Int) → Wp sc (d + 13) 138 82 [(0, .ref 0), (1, vi a1), (2, vi a2), (3, vi a3), (4, vi a4), (5, vi a5), (6, vi a6), (7, vi v7), (8, vi v8), (9, vi v9), (10, vi v10)] [] (Wd P Q P P c2) 0 0 Z)
  | 0 => by intro c2 v7 v8 v9 v10 hI2 hF hv7 hv8 hv9 hv10 hx0 hx1 hx2 hx3 hm9; have hP := iv_P hI; have hQ := iv_Q hI; exfalso; omega
  | n + 1 => by
    have hP := iv_P hI
    have hQ := iv_Q hI
    have ih := s_138_l (sc := sc) (d := d) hI ha1 ha2 ha3 ha4 ha5 ha6 T101 K n
    intro c2 v7 v8 v9 v10 hI2 hF hv7 hv8 hv9 hv10 hx0 hx1 hx2 hx3 hm9
    refine q_iload rfl rfl (q_iload_n rfl rfl ?_)
    by_cases h_1 : v10 ≥ a2
    · refine v_ic_ge_t (t := 186) rfl rfl ⟨ha2.1, h_1, (Int.le_trans hv10.2 (by decide))⟩ (q_iload rfl rfl ?_)
      by_cases h_2 : a5 = 0
      · refine v_lsw (t := 216) (off := 28) 0 rfl (by omega) (by decide) (by decide) (by decide) (by decide) (q_iload rfl rfl (q_iret rfl rfl ?_))
        exact K c2 v7 hI2 (fun a j hm => hF a j (fun q => q.elim (fun h => hm (Or.inl h)) (fun q => q.elim (fun h => hm (Or.inr (Or.inl h))) (fun q => q.elim (fun h => hm (Or.inr (Or.inr (Or.inl h)))) (fun q => q.elim (fun h => hm (Or.inr (Or.inr (Or.inr (Or.inl h))))) (fun h => hm (Or.inr (Or.inr (Or.inr (Or.inr h)))))))))) hv7
      by_cases h_3 : a5 = 1
      · refine v_lsw (t := 219) (off := 31) 1 rfl (by omega) (by decide) (by decide) (by decide) (by decide) (q_iload rfl rfl (q_iret rfl rfl ?_))
        exact K c2 v8 hI2 (fun a j hm => hF a j (fun q => q.elim (fun h => hm (Or.inl h)) (fun q => q.elim (fun h => hm (Or.inr (Or.inl h))) (fun q => q.elim (fun h => hm (Or.inr (Or.inr (Or.inl h)))) (fun q => q.elim (fun h => hm (Or.inr (Or.inr (Or.inr (Or.inl h))))) (fun h => hm (Or.inr (Or.inr (Or.inr (Or.inr h)))))))))) ⟨(Int.le_trans (by decide) hv8.1), hv8.2⟩
      refine v_lsw_o (t := 222) rfl (by omega) (by decide) (by simp [Op.lookupswitch.offset, Ne.symm (show a5 ≠ 0 by omega), Ne.symm (show a5 ≠ 1 by omega)]) (by decide) (q_iload rfl rfl (q_iret rfl rfl ?_))
      exact K c2 v9 hI2 (fun a j hm => hF a j (fun q => q.elim (fun h => hm (Or.inl h)) (fun q => q.elim (fun h => hm (Or.inr (Or.inl h))) (fun q => q.elim (fun h => hm (Or.inr (Or.inr (Or.inl h)))) (fun q => q.elim (fun h => hm (Or.inr (Or.inr (Or.inr (Or.inl h))))) (fun h => hm (Or.inr (Or.inr (Or.inr (Or.inr h)))))))))) hv9
    · refine v_ic_ge_f (t := 186) rfl rfl ⟨(Int.le_trans (by decide) hv10.1), (Int.not_le.mp h_1), ha2.2⟩ (q_aload_n rfl rfl (v_gr (t := 39) rfl rfl rfl (Nat.le_of_ble_eq_true rfl) rfl (q_aload_n rfl rfl (v_gr (t := 37) rfl rfl rfl (Nat.le_of_ble_eq_true rfl) rfl (v_cv rfl rfl rfl rfl (Nat.le_of_ble_eq_true rfl) ⟨⟨rfl, rfl⟩, Nat.le_of_ble_eq_true rfl, rfl⟩ (Nat.le_of_ble_eq_true rfl) (Nat.le_of_ble_eq_true rfl) (s_66 hI2 (fun c_4 hI_5 hF_6 => (bk_inl (q_aload_n rfl rfl ?_)))))))))
      refine v_gr (t := 9) rfl rfl rfl (Nat.le_of_ble_eq_true rfl) rfl (q_aload_n rfl rfl (v_gr (t := 39) rfl rfl rfl (Nat.le_of_ble_eq_true rfl) rfl (q_iload_n rfl rfl (q_iload rfl rfl (v_iadd (v := a1 + v10) rfl rfl (v_nrm (fun y_7 hy_7 => (q_iload_n rfl rfl ?_))))))))
      refine q_iload rfl rfl (v_cv rfl rfl rfl rfl (Nat.le_of_ble_eq_true rfl) ⟨⟨rfl, rfl⟩, Nat.le_of_ble_eq_true rfl, rfl⟩ (Nat.le_of_ble_eq_true rfl) (Nat.le_of_ble_eq_true rfl) (s_77 (a2 := y_7) (a3 := a3) (a4 := a4) hI_5 (show (-2147483648) ≤ y_7 ∧ y_7 ≤ 2147483647 from hy_7) (show 0 ≤ a3 ∧ a3 ≤ 16 from ⟨by first | (clear ha1 ha2 ha3 ha4 ha5 ha6 hv7 hv8 hv9 hv10 hx0 hx1 hx3 h_1; omega) | omega, by first | (clear ha1 ha2 ha3 ha4 ha5 ha6 hv7 hv8 hv9 hv10 hx0 hx1 hx3 h_1; omega) | omega⟩) (show 1 ≤ a4 ∧ a4 ≤ 48 from ⟨by first | (clear ha1 ha2 ha3 ha4 ha5 ha6 hv7 hv8 hv9 hv10 hx0 hx1 hx2 h_1; omega) | omega, by first | (clear ha1 ha2 ha3 ha4 ha5 ha6 hv7 hv8 hv9 hv10 hx0 hx1 hx2 h_1; omega) | omega⟩) (fun c_8 hI_9 hF_10 => (bk_inl (q_aload_n rfl rfl (v_gr (t := 39) rfl rfl rfl (Nat.le_of_ble_eq_true rfl) rfl (v_gr (t := 40) rfl rfl rfl (Nat.le_of_ble_eq_true rfl) rfl (v_bip rfl (by decide) ?_))))))))
      have h_11 := ir_40 hI_9 33
      refine v_ia (v := c_8 40 33) rfl rfl (by decide) (by decide) (by decide) rfl (q_aload_n rfl rfl (v_gr (t := 37) rfl rfl rfl (Nat.le_of_ble_eq_true rfl) rfl (v_gr (t := 38) rfl rfl rfl (Nat.le_of_ble_eq_true rfl) rfl (v_bip rfl (by decide) ?_))))
      have h_12 := ir_38 hI 33
      have kn_13 : Hid (c2 38 33 = c 38 33) := hF 38 33 (fun q => q.elim (fun h => absurd h.1 (nn rfl)) (fun q => q.elim (fun h => absurd h (pn hP rfl rfl)) (fun q => q.elim (fun h => absurd h (pn hP rfl rfl)) (fun q => q.elim (fun h => absurd h.1 (nn rfl)) (fun h => absurd h (nn rfl))))))
      have kn_14 : Hid (c_4 38 33 = c 38 33) := (hF_6 38 33 (fun h => absurd h (nn rfl))).trans (hid kn_13)
      have kn_15 : Hid (c_8 38 33 = c 38 33) := (hF_10 38 33 (fun q => q.elim (fun h => absurd h.1 (nn rfl)) (fun q => q.elim (fun h => absurd h (nn rfl)) (fun q => q.elim (fun h => absurd h (pn hP rfl rfl)) (fun h => absurd h (pn hP rfl rfl)))))).trans (hid kn_14)
      refine v_ia (v := c 38 33) rfl rfl (by decide) (by decide) (by decide) (hid kn_15) (v_isub (v := c_8 40 33 - c 38 33) rfl (by first | (clear ha1 ha2 ha3 ha4 ha5 ha6 hv7 hv8 hv9 hv10 hx0 hx1 hx2 hx3 h_1 h_11 h_12; omega) | omega) (v_nrm (fun y_16 hy_16 => (q_istore rfl (Nat.le_of_ble_eq_true rfl) (q_iload rfl rfl (q_iload rfl rfl (v_minx rfl rfl (by omega) (Nat.le_of_ble_eq_true rfl) ⟨by omega, by omega, by omega, by omega⟩ (fun y_17 hy_17 => (q_istore rfl (Nat.le_of_ble_eq_true rfl) ?_)))))))))
      refine q_iload rfl rfl (q_iload rfl rfl (v_maxx rfl rfl (by omega) (Nat.le_of_ble_eq_true rfl) ⟨by omega, by omega, by omega, by omega⟩ (fun y_18 hy_18 => (q_istore rfl (Nat.le_of_ble_eq_true rfl) (q_iload rfl rfl (q_aload_n rfl rfl (v_gr (t := 39) rfl rfl rfl (Nat.le_of_ble_eq_true rfl) rfl (q_iload rfl rfl ?_))))))))
      have h_19 := ir_40_g hI_9 (j := 4 * a6) (by first | (clear ha1 ha2 ha3 ha4 ha5 ha6 hv7 hv8 hv9 hv10 hx0 hx2 hx3 h_1 h_11 h_12; omega) | omega)
      have h_20 := ir_40_g hI_9 (j := 4 * a6 + 1) (by first | (clear ha1 ha2 ha3 ha4 ha5 ha6 hv7 hv8 hv9 hv10 hx0 hx2 hx3 h_1 h_11 h_12 h_19; omega) | omega)
      have h_21 := ir_40_g hI_9 (j := 4 * a6 + 2) (by first | (clear ha1 ha2 ha3 ha4 ha5 ha6 hv7 hv8 hv9 hv10 hx0 hx2 hx3 h_1 h_11 h_12 h_19 h_20; omega) | omega)
      have h_22 := ir_40_g hI_9 (j := 4 * a6 + 3) (by first | (clear ha1 ha2 ha3 ha4 ha5 ha6 hv7 hv8 hv9 hv10 hx0 hx2 hx3 h_1 h_11 h_12 h_19 h_20 h_21; omega) | omega)
      refine v_cv rfl rfl rfl rfl (Nat.le_of_ble_eq_true rfl) ⟨⟨rfl, rfl⟩, Nat.le_of_ble_eq_true rfl, rfl⟩ (Nat.le_of_ble_eq_true rfl) (Nat.le_of_ble_eq_true rfl) (s_43 (v1 := c_8 40 (4 * a6)) (v2 := c_8 40 (4 * a6 + 1)) (v3 := c_8 40 (4 * a6 + 2)) (v4 := c_8 40 (4 * a6 + 3)) (r := c_8 40 (4 * a6 + 1) + c_8 40 (4 * a6 + 2) + c_8 40 (4 * a6 + 3) + c_8 40 (4 * a6)) (a1 := a6) hI_9 (.inr ⟨rfl, rfl⟩) (show 0 ≤ a6 ∧ a6 ≤ 5 from ⟨by first | (clear ha1 ha2 ha3 ha4 ha5 ha6 hv7 hv8 hv9 hv10 hx0 hx2 hx3 h_1 h_11 h_12; omega) | omega, by first | (clear ha1 ha2 ha3 ha4 ha5 ha6 hv7 hv8 hv9 hv10 hx0 hx2 hx3 h_1 h_11 h_12; omega) | omega⟩) (rfl) (rfl) (rfl) (rfl) (by omega) (bk_inl ?_))
      by_cases h_23 : c_8 40 (4 * a6 + 1) + c_8 40 (4 * a6 + 2) + c_8 40 (4 * a6 + 3) + c_8 40 (4 * a6) ≠ 0
      · refine v_if_ne_t (t := 176) rfl rfl ⟨h_23, ⟨by first | exact q_e052ef40e h_19 h_20 h_21 h_22 | (clear ha1 ha2 ha3 ha4 ha5 ha6 hv7 hv8 hv9 hv10 hx0 hx1 hx2 hx3 h_1 h_11 h_12; omega) | omega, by first | exact q_db9ef1f4a h_19 h_20 h_21 h_22 | (clear ha1 ha2 ha3 ha4 ha5 ha6 hv7 hv8 hv9 hv10 hx0 hx1 hx2 hx3 h_1 h_11 h_12; omega) | omega⟩, by decide, by decide⟩ (q_iconst rfl (v_iadd (v := v9) rfl (by first | (clear ha1 ha2 ha3 ha4 ha5 ha6 hv7 hv8 hv9 hv10 hx0 hx1 hx2 hx3 h_1 h_11 h_12 h_19 h_20 h_21 h_22 h_23; omega) | omega) (q_istore rfl (Nat.le_of_ble_eq_true rfl) (v_iinc (v := v10 + 1) rfl rfl (Nat.le_of_ble_eq_true rfl) rfl (Wp_ls [(10, vi (v10 + 1)), (9, vi v9), (8, vi y_18), (7, vi y_17), (11, vi y_16), (0, .ref 0), (1, vi a1), (2, vi a2), (3, vi a3), (4, vi a4), (5, vi a5), (6, vi a6)] (lsub_cons rfl (lsub_cons rfl (lsub_cons rfl (lsub_cons rfl (lsub_cons rfl (lsub_cons rfl (lsub_cons rfl (lsub_cons rfl (lsub_cons rfl (lsub_cons rfl (lsub_cons rfl (lsub_cons rfl lsub_nil)))))))))))) (q_goto (t := 82) rfl rfl (Wp_ls [(0, .ref 0), (1, vi a1), (2, vi a2), (3, vi a3), (4, vi a4), (5, vi a5), (6, vi a6), (7, vi y_17), (8, vi y_18), (9, vi v9), (10, vi (v10 + 1))] (lsub_cons rfl (lsub_cons rfl (lsub_cons rfl (lsub_cons rfl (lsub_cons rfl (lsub_cons rfl (lsub_cons rfl (lsub_cons rfl (lsub_cons rfl (lsub_cons rfl (lsub_cons rfl lsub_nil))))))))))) ?_)))))))
        exact ih c_8 y_17 y_18 v9 (v10 + 1) hI_9 (fun a j hm => (hF_10 a j (fun q => q.elim (fun h => hm (Or.inr (Or.inr (Or.inr (Or.inl h))))) (fun q => q.elim (fun h => hm (Or.inr (Or.inr (Or.inr (Or.inr h))))) (fun q => q.elim (fun h => hm (Or.inr (Or.inl h))) (fun h => hm (Or.inr (Or.inr (Or.inl h)))))))).trans ((hF_6 a j (fun h => hm (Or.inr (Or.inr (Or.inr (Or.inr h)))))).trans (hF a j (fun q => q.elim (fun h => hm (Or.inl h)) (fun q => q.elim (fun h => hm (Or.inr (Or.inl h))) (fun q => q.elim (fun h => hm (Or.inr (Or.inr (Or.inl h)))) (fun q => q.elim (fun h => hm (Or.inr (Or.inr (Or.inr (Or.inl h))))) (fun h => hm (Or.inr (Or.inr (Or.inr (Or.inr h)))))))))))) ⟨by first | (clear ha1 ha2 ha3 ha4 ha5 ha6 hv8 hv9 hv10 hx0 hx1 hx2 hx3 h_1 h_11 h_12 h_19 h_20 h_21 h_22 h_23; omega) | omega, by first | (clear ha1 ha2 ha3 ha4 ha5 ha6 hv8 hv9 hv10 hx0 hx1 hx2 hx3 h_1 h_11 h_12 h_19 h_20 h_21 h_22 h_23; omega) | omega⟩ ⟨by first | (clear ha1 ha2 ha3 ha4 ha5 ha6 hv7 hv9 hv10 hx0 hx1 hx2 hx3 h_1 h_11 h_12 h_19 h_20 h_21 h_22 h_23; omega) | omega, by first | (clear ha1 ha2 ha3 ha4 ha5 ha6 hv7 hv9 hv10 hx0 hx1 hx2 hx3 h_1 h_11 h_12 h_19 h_20 h_21 h_22 h_23; omega) | omega⟩ hv9 ⟨by first | exact rgp_l hv10.1 (by decide) | omega, by first | (clear ha1 ha2 ha3 ha4 ha5 ha6 hv7 hv8 hv9 hv10 hx1 hx2 hx3 h_11 h_12 h_19 h_20 h_21 h_22 h_23; omega) | omega⟩ ⟨by first | (clear ha1 ha2 ha3 ha4 ha5 ha6 hv7 hv8 hv9 hv10 hx1 hx2 hx3 h_1 h_11 h_12 h_19 h_20 h_21 h_22 h_23; omega) | omega, by first | (clear ha1 ha2 ha3 ha4 ha5 ha6 hv7 hv8 hv9 hv10 hx1 hx2 hx3 h_1 h_11 h_12 h_19 h_20 h_21 h_22 h_23; omega) | omega⟩ ⟨by first | (clear ha1 ha2 ha3 ha4 ha5 ha6 hv7 hv8 hv9 hv10 hx0 hx2 hx3 h_1 h_11 h_12 h_19 h_20 h_21 h_22 h_23; omega) | omega, by first | (clear ha1 ha2 ha3 ha4 ha5 ha6 hv7 hv8 hv9 hv10 hx0 hx2 hx3 h_1 h_11 h_12 h_19 h_20 h_21 h_22 h_23; omega) | omega⟩ ⟨by first | (clear ha1 ha2 ha3 ha4 ha5 ha6 hv7 hv8 hv9 hv10 hx0 hx1 hx3 h_1 h_11 h_12 h_19 h_20 h_21 h_22 h_23; omega) | omega, by first | (clear ha1 ha2 ha3 ha4 ha5 ha6 hv7 hv8 hv9 hv10 hx0 hx1 hx3 h_1 h_11 h_12 h_19 h_20 h_21 h_22 h_23; omega) | omega⟩ ⟨by first | (clear ha1 ha2 ha3 ha4 ha5 ha6 hv7 hv8 hv9 hv10 hx0 hx1 hx2 h_1 h_11 h_12 h_19 h_20 h_21 h_22 h_23; omega) | omega, by first | (clear ha1 ha2 ha3 ha4 ha5 ha6 hv7 hv8 hv9 hv10 hx0 hx1 hx2 h_1 h_11 h_12 h_19 h_20 h_21 h_22 h_23; omega) | omega⟩ (by omega)
      · refine v_if_ne_f (t := 176) rfl rfl (Decidable.not_not.mp h_23) (q_iconst rfl (q_goto (t := 177) rfl rfl (v_iadd (v := v9 + 1) rfl rfl (v_nrm (fun y_24 hy_24 => (q_istore rfl (Nat.le_of_ble_eq_true rfl) (v_iinc (v := v10 + 1) rfl rfl (Nat.le_of_ble_eq_true rfl) rfl (Wp_ls [(10, vi (v10 + 1)), (9, vi y_24), (8, vi y_18), (7, vi y_17), (11, vi y_16), (0, .ref 0), (1, vi a1), (2, vi a2), (3, vi a3), (4, vi a4), (5, vi a5), (6, vi a6)] (lsub_cons rfl (lsub_cons rfl (lsub_cons rfl (lsub_cons rfl (lsub_cons rfl (lsub_cons rfl (lsub_cons rfl (lsub_cons rfl (lsub_cons rfl (lsub_cons rfl (lsub_cons rfl (lsub_cons rfl lsub_nil)))))))))))) ?_))))))))
        refine q_goto (t := 82) rfl rfl (Wp_ls [(0, .ref 0), (1, vi a1), (2, vi a2), (3, vi a3), (4, vi a4), (5, vi a5), (6, vi a6), (7, vi y_17), (8, vi y_18), (9, vi y_24), (10, vi (v10 + 1))] (lsub_cons rfl (lsub_cons rfl (lsub_cons rfl (lsub_cons rfl (lsub_cons rfl (lsub_cons rfl (lsub_cons rfl (lsub_cons rfl (lsub_cons rfl (lsub_cons rfl (lsub_cons rfl lsub_nil))))))))))) ?_)
        exact ih c_8 y_17 y_18 y_24 (v10 + 1) hI_9 (fun a j hm => (hF_10 a j (fun q => q.elim (fun h => hm (Or.inr (Or.inr (Or.inr (Or.inl h))))) (fun q => q.elim (fun h => hm (Or.inr (Or.inr (Or.inr (Or.inr h))))) (fun q => q.elim (fun h => hm (Or.inr (Or.inl h))) (fun h => hm (Or.inr (Or.inr (Or.inl h)))))))).trans ((hF_6 a j (fun h => hm (Or.inr (Or.inr (Or.inr (Or.inr h)))))).trans (hF a j (fun q => q.elim (fun h => hm (Or.inl h)) (fun q => q.elim (fun h => hm (Or.inr (Or.inl h))) (fun q => q.elim (fun h => hm (Or.inr (Or.inr (Or.inl h)))) (fun q => q.elim (fun h => hm (Or.inr (Or.inr (Or.inr (Or.inl h))))) (fun h => hm (Or.inr (Or.inr (Or.inr (Or.inr h)))))))))))) ⟨by first | (clear ha1 ha2 ha3 ha4 ha5 ha6 hv8 hv9 hv10 hx0 hx1 hx2 hx3 h_1 h_11 h_12 h_19 h_20 h_21 h_22 h_23; omega) | omega, by first | (clear ha1 ha2 ha3 ha4 ha5 ha6 hv8 hv9 hv10 hx0 hx1 hx2 hx3 h_1 h_11 h_12 h_19 h_20 h_21 h_22 h_23; omega) | omega⟩ ⟨by first | (clear ha1 ha2 ha3 ha4 ha5 ha6 hv7 hv9 hv10 hx0 hx1 hx2 hx3 h_1 h_11 h_12 h_19 h_20 h_21 h_22 h_23; omega) | omega, by first | (clear ha1 ha2 ha3 ha4 ha5 ha6 hv7 hv9 hv10 hx0 hx1 hx2 hx3 h_1 h_11 h_12 h_19 h_20 h_21 h_22 h_23; omega) | omega⟩ hy_24 ⟨by first | exact rgp_l hv10.1 (by decide) | omega, by first | (clear ha1 ha2 ha3 ha4 ha5 ha6 hv7 hv8 hv9 hv10 hx1 hx2 hx3 h_11 h_12 h_19 h_20 h_21 h_22 h_23; omega) | omega⟩ ⟨by first | (clear ha1 ha2 ha3 ha4 ha5 ha6 hv7 hv8 hv9 hv10 hx1 hx2 hx3 h_1 h_11 h_12 h_19 h_20 h_21 h_22 h_23; omega) | omega, by first | (clear ha1 ha2 ha3 ha4 ha5 ha6 hv7 hv8 hv9 hv10 hx1 hx2 hx3 h_1 h_11 h_12 h_19 h_20 h_21 h_22 h_23; omega) | omega⟩ ⟨by first | (clear ha1 ha2 ha3 ha4 ha5 ha6 hv7 hv8 hv9 hv10 hx0 hx2 hx3 h_1 h_11 h_12 h_19 h_20 h_21 h_22 h_23; omega) | omega, by first | (clear ha1 ha2 ha3 ha4 ha5 ha6 hv7 hv8 hv9 hv10 hx0 hx2 hx3 h_1 h_11 h_12 h_19 h_20 h_21 h_22 h_23; omega) | omega⟩ ⟨by first | (clear ha1 ha2 ha3 ha4 ha5 ha6 hv7 hv8 hv9 hv10 hx0 hx1 hx3 h_1 h_11 h_12 h_19 h_20 h_21 h_22 h_23; omega) | omega, by first | (clear ha1 ha2 ha3 ha4 ha5 ha6 hv7 hv8 hv9 hv10 hx0 hx1 hx3 h_1 h_11 h_12 h_19 h_20 h_21 h_22 h_23; omega) | omega⟩ ⟨by first | (clear ha1 ha2 ha3 ha4 ha5 ha6 hv7 hv8 hv9 hv10 hx0 hx1 hx2 h_1 h_11 h_12 h_19 h_20 h_21 h_22 h_23; omega) | omega, by first | (clear ha1 ha2 ha3 ha4 ha5 ha6 hv7 hv8 hv9 hv10 hx0 hx1 hx2 h_1 h_11 h_12 h_19 h_20 h_21 h_22 h_23; omega) | omega⟩ (by omega)
set_option maxRecDepth 100000 in
set_option maxHeartbeats 4000000 in
theorem s_138 {sc : List Int32} {d P Q : Nat} {c : ME} {a1 : Int} {a2 : Int} {a3 : Int} {a4 : Int} {a5 : Int} {a6 : Int} {Z : AR → Prop} (hI : Iv 0 (-1) P Q c) (ha1 : (-2147483648) ≤ a1 ∧ a1 ≤ 2147483647) (ha2 : (-2147483648) ≤ a2 ∧ a2 ≤ 2147483647) (ha3 : (-2147483648) ≤ a3 ∧ a3 ≤ 2147483647) (ha4 : (-2147483648) ≤ a4 ∧ a4 ≤ 2147483647) (ha5 : (-2147483648) ≤ a5 ∧ a5 ≤ 2147483647) (ha6 : (-2147483648) ≤ a6 ∧ a6 ≤ 2147483647) (T101 : ∀ c2 : ME, Iv 0 (-1) P Q c2 → (∀ (a : Nat) (j : Int), ¬ ((a = 0 ∧ j = 13) ∨ a = (P + 10) ∨ a = (P + 11) ∨ (a = 9 ∧ j = 0) ∨ a = 40) → c2 a j = c a j) → Z (.inr 101, Wd P Q P P c2, 1, 6)) (K : ∀ (c2 : ME) (y : Int), Iv 0 (-1) P Q c2 → (∀ (a : Nat) (j : Int), ¬ ((a = 0 ∧ j = 13) ∨ a = (P + 10) ∨ a = (P + 11) ∨ (a = 9 ∧ j = 0) ∨ a = 40) → c2 a j = c a j) → (-2147483648) ≤ y ∧ y ≤ 2147483647 → Z (.inl (some (vi y)), Wd P Q P P c2, 0, 0)) : Wp sc (d + 13) 138 0 [(0, .ref 0), (1, vi a1), (2, vi a2), (3, vi a3), (4, vi a4), (5, vi a5), (6, vi a6)] [] (Wd P Q P P c) 0 0 Z := by
  have hP := iv_P hI
  have hQ := iv_Q hI
  refine q_aload_n rfl rfl (q_iload_n rfl rfl (q_iconst rfl (v_bip rfl (by decide) (q_call rfl rfl rfl rfl (q_iload_n rfl rfl (q_iload_n rfl rfl ?_))))))
  by_cases h_25 : a2 < 1
  · refine v_ic_lt_t (t := 14) rfl rfl ⟨ha2.1, h_25, by decide⟩ (q_iconst rfl (v_zret rfl rfl (by decide) (bk_inl (v_if_eq_t (t := 64) rfl rfl (by decide) (q_iconst rfl (v_cv rfl rfl rfl rfl (Nat.le_of_ble_eq_true rfl) ⟨⟨rfl, rfl⟩, Nat.le_of_ble_eq_true rfl, rfl⟩ (Nat.le_of_ble_eq_true rfl) (Nat.le_of_ble_eq_true rfl) (q_iload_n rfl rfl ?_)))))))
    refine v_if_ne_f (t := 25) rfl rfl (by decide) (q_aload_n rfl rfl (q_dup rfl rfl ?_))
    have h_26 := ir_0_13 hI
    refine v_gi (z := 13) (v := c 0 13) rfl rfl rfl (Nat.le_of_ble_eq_true rfl) rfl rfl rfl (q_iconst rfl (v_iadd (v := c 0 13 + 1) rfl rfl (v_nrm (fun y_27 hy_27 => (v_pi (z := 13) rfl rfl rfl (Nat.le_of_ble_eq_true rfl) rfl rfl rfl (by decide) (v_new rfl rfl (by decide) (by omega) (Nat.le_of_ble_eq_true rfl) (by decide) rfl (bk_out rfl rfl ?_)))))))
    have hI_28 := iw_0_13 (v := y_27) hI ⟨hy_27.1, hy_27.2⟩
    exact T101 _ hI_28 (fun a j hm => up_b (Decidable.or_iff_not_imp_left.mpr (fun h1 h2 => hm (Or.inl ⟨Decidable.not_not.mp h1, h2⟩))))
  · refine v_ic_lt_f (t := 14) rfl rfl ⟨by decide, (Int.not_lt.mp h_25), ha2.2⟩ (q_iload_n rfl rfl (q_iload_n rfl rfl ?_))
    by_cases h_29 : a2 > 10
    · refine v_ic_gt_t (t := 14) rfl rfl ⟨by decide, h_29, ha2.2⟩ (q_iconst rfl (v_zret rfl rfl (by decide) (bk_inl (v_if_eq_t (t := 64) rfl rfl (by decide) (q_iconst rfl (v_cv rfl rfl rfl rfl (Nat.le_of_ble_eq_true rfl) ⟨⟨rfl, rfl⟩, Nat.le_of_ble_eq_true rfl, rfl⟩ (Nat.le_of_ble_eq_true rfl) (Nat.le_of_ble_eq_true rfl) (q_iload_n rfl rfl ?_)))))))
      refine v_if_ne_f (t := 25) rfl rfl (by decide) (q_aload_n rfl rfl (q_dup rfl rfl ?_))
      have h_30 := ir_0_13 hI
      refine v_gi (z := 13) (v := c 0 13) rfl rfl rfl (Nat.le_of_ble_eq_true rfl) rfl rfl rfl (q_iconst rfl (v_iadd (v := c 0 13 + 1) rfl rfl (v_nrm (fun y_31 hy_31 => (v_pi (z := 13) rfl rfl rfl (Nat.le_of_ble_eq_true rfl) rfl rfl rfl (by decide) (v_new rfl rfl (by decide) (by omega) (Nat.le_of_ble_eq_true rfl) (by decide) rfl (bk_out rfl rfl ?_)))))))
      have hI_32 := iw_0_13 (v := y_31) hI ⟨hy_31.1, hy_31.2⟩
      exact T101 _ hI_32 (fun a j hm => up_b (Decidable.or_iff_not_imp_left.mpr (fun h1 h2 => hm (Or.inl ⟨Decidable.not_not.mp h1, h2⟩))))
    · refine v_ic_gt_f (t := 14) rfl rfl ⟨ha2.1, (Int.not_lt.mp h_29), by decide⟩ (q_iconst rfl (q_goto (t := 15) rfl rfl (v_zret rfl rfl (by decide) (bk_inl (v_if_eq_f (t := 64) rfl rfl (by decide) (q_iload_n rfl rfl (q_iconst rfl ?_)))))))
      refine v_bip rfl (by decide) (q_call rfl rfl rfl rfl (q_iload_n rfl rfl (q_iload_n rfl rfl ?_)))
      by_cases h_33 : a3 < 0
      · refine v_ic_lt_t (t := 14) rfl rfl ⟨ha3.1, h_33, by decide⟩ (q_iconst rfl (v_zret rfl rfl (by decide) (bk_inl (v_if_eq_t (t := 64) rfl rfl (by decide) (q_iconst rfl (v_cv rfl rfl rfl rfl (Nat.le_of_ble_eq_true rfl) ⟨⟨rfl, rfl⟩, Nat.le_of_ble_eq_true rfl, rfl⟩ (Nat.le_of_ble_eq_true rfl) (Nat.le_of_ble_eq_true rfl) (q_iload_n rfl rfl ?_)))))))
        refine v_if_ne_f (t := 25) rfl rfl (by decide) (q_aload_n rfl rfl (q_dup rfl rfl ?_))
        have h_34 := ir_0_13 hI
        refine v_gi (z := 13) (v := c 0 13) rfl rfl rfl (Nat.le_of_ble_eq_true rfl) rfl rfl rfl (q_iconst rfl (v_iadd (v := c 0 13 + 1) rfl rfl (v_nrm (fun y_35 hy_35 => (v_pi (z := 13) rfl rfl rfl (Nat.le_of_ble_eq_true rfl) rfl rfl rfl (by decide) (v_new rfl rfl (by decide) (by omega) (Nat.le_of_ble_eq_true rfl) (by decide) rfl (bk_out rfl rfl ?_)))))))
        have hI_36 := iw_0_13 (v := y_35) hI ⟨hy_35.1, hy_35.2⟩
        exact T101 _ hI_36 (fun a j hm => up_b (Decidable.or_iff_not_imp_left.mpr (fun h1 h2 => hm (Or.inl ⟨Decidable.not_not.mp h1, h2⟩))))
      · refine v_ic_lt_f (t := 14) rfl rfl ⟨by decide, (Int.not_lt.mp h_33), ha3.2⟩ (q_iload_n rfl rfl (q_iload_n rfl rfl ?_))
        by_cases h_37 : a3 > 16
        · refine v_ic_gt_t (t := 14) rfl rfl ⟨by decide, h_37, ha3.2⟩ (q_iconst rfl (v_zret rfl rfl (by decide) (bk_inl (v_if_eq_t (t := 64) rfl rfl (by decide) (q_iconst rfl (v_cv rfl rfl rfl rfl (Nat.le_of_ble_eq_true rfl) ⟨⟨rfl, rfl⟩, Nat.le_of_ble_eq_true rfl, rfl⟩ (Nat.le_of_ble_eq_true rfl) (Nat.le_of_ble_eq_true rfl) (q_iload_n rfl rfl ?_)))))))
          refine v_if_ne_f (t := 25) rfl rfl (by decide) (q_aload_n rfl rfl (q_dup rfl rfl ?_))
          have h_38 := ir_0_13 hI
          refine v_gi (z := 13) (v := c 0 13) rfl rfl rfl (Nat.le_of_ble_eq_true rfl) rfl rfl rfl (q_iconst rfl (v_iadd (v := c 0 13 + 1) rfl rfl (v_nrm (fun y_39 hy_39 => (v_pi (z := 13) rfl rfl rfl (Nat.le_of_ble_eq_true rfl) rfl rfl rfl (by decide) (v_new rfl rfl (by decide) (by omega) (Nat.le_of_ble_eq_true rfl) (by decide) rfl (bk_out rfl rfl ?_)))))))
          have hI_40 := iw_0_13 (v := y_39) hI ⟨hy_39.1, hy_39.2⟩
          exact T101 _ hI_40 (fun a j hm => up_b (Decidable.or_iff_not_imp_left.mpr (fun h1 h2 => hm (Or.inl ⟨Decidable.not_not.mp h1, h2⟩))))
        · refine v_ic_gt_f (t := 14) rfl rfl ⟨ha3.1, (Int.not_lt.mp h_37), by decide⟩ (q_iconst rfl (q_goto (t := 15) rfl rfl (v_zret rfl rfl (by decide) (bk_inl (v_if_eq_f (t := 64) rfl rfl (by decide) (q_iload rfl rfl (q_iconst rfl ?_)))))))
          refine v_bip rfl (by decide) (q_call rfl rfl rfl rfl (q_iload_n rfl rfl (q_iload_n rfl rfl ?_)))
          by_cases h_41 : a4 < 1
          · refine v_ic_lt_t (t := 14) rfl rfl ⟨ha4.1, h_41, by decide⟩ (q_iconst rfl (v_zret rfl rfl (by decide) (bk_inl (v_if_eq_t (t := 64) rfl rfl (by decide) (q_iconst rfl (v_cv rfl rfl rfl rfl (Nat.le_of_ble_eq_true rfl) ⟨⟨rfl, rfl⟩, Nat.le_of_ble_eq_true rfl, rfl⟩ (Nat.le_of_ble_eq_true rfl) (Nat.le_of_ble_eq_true rfl) (q_iload_n rfl rfl ?_)))))))
            refine v_if_ne_f (t := 25) rfl rfl (by decide) (q_aload_n rfl rfl (q_dup rfl rfl ?_))
            have h_42 := ir_0_13 hI
            refine v_gi (z := 13) (v := c 0 13) rfl rfl rfl (Nat.le_of_ble_eq_true rfl) rfl rfl rfl (q_iconst rfl (v_iadd (v := c 0 13 + 1) rfl rfl (v_nrm (fun y_43 hy_43 => (v_pi (z := 13) rfl rfl rfl (Nat.le_of_ble_eq_true rfl) rfl rfl rfl (by decide) (v_new rfl rfl (by decide) (by omega) (Nat.le_of_ble_eq_true rfl) (by decide) rfl (bk_out rfl rfl ?_)))))))
            have hI_44 := iw_0_13 (v := y_43) hI ⟨hy_43.1, hy_43.2⟩
            exact T101 _ hI_44 (fun a j hm => up_b (Decidable.or_iff_not_imp_left.mpr (fun h1 h2 => hm (Or.inl ⟨Decidable.not_not.mp h1, h2⟩))))
          · refine v_ic_lt_f (t := 14) rfl rfl ⟨by decide, (Int.not_lt.mp h_41), ha4.2⟩ (q_iload_n rfl rfl (q_iload_n rfl rfl ?_))
            by_cases h_45 : a4 > 48
            · refine v_ic_gt_t (t := 14) rfl rfl ⟨by decide, h_45, ha4.2⟩ (q_iconst rfl (v_zret rfl rfl (by decide) (bk_inl (v_if_eq_t (t := 64) rfl rfl (by decide) (q_iconst rfl (v_cv rfl rfl rfl rfl (Nat.le_of_ble_eq_true rfl) ⟨⟨rfl, rfl⟩, Nat.le_of_ble_eq_true rfl, rfl⟩ (Nat.le_of_ble_eq_true rfl) (Nat.le_of_ble_eq_true rfl) (q_iload_n rfl rfl ?_)))))))
              refine v_if_ne_f (t := 25) rfl rfl (by decide) (q_aload_n rfl rfl (q_dup rfl rfl ?_))
              have h_46 := ir_0_13 hI
              refine v_gi (z := 13) (v := c 0 13) rfl rfl rfl (Nat.le_of_ble_eq_true rfl) rfl rfl rfl (q_iconst rfl (v_iadd (v := c 0 13 + 1) rfl rfl (v_nrm (fun y_47 hy_47 => (v_pi (z := 13) rfl rfl rfl (Nat.le_of_ble_eq_true rfl) rfl rfl rfl (by decide) (v_new rfl rfl (by decide) (by omega) (Nat.le_of_ble_eq_true rfl) (by decide) rfl (bk_out rfl rfl ?_)))))))
              have hI_48 := iw_0_13 (v := y_47) hI ⟨hy_47.1, hy_47.2⟩
              exact T101 _ hI_48 (fun a j hm => up_b (Decidable.or_iff_not_imp_left.mpr (fun h1 h2 => hm (Or.inl ⟨Decidable.not_not.mp h1, h2⟩))))
            · refine v_ic_gt_f (t := 14) rfl rfl ⟨ha4.1, (Int.not_lt.mp h_45), by decide⟩ (q_iconst rfl (q_goto (t := 15) rfl rfl (v_zret rfl rfl (by decide) (bk_inl (v_if_eq_f (t := 64) rfl rfl (by decide) (q_iload rfl rfl (q_iconst rfl ?_)))))))
              refine q_iconst rfl (q_call rfl rfl rfl rfl (q_iload_n rfl rfl (q_iload_n rfl rfl ?_)))
              by_cases h_49 : a5 < 0
              · refine v_ic_lt_t (t := 14) rfl rfl ⟨ha5.1, h_49, by decide⟩ (q_iconst rfl (v_zret rfl rfl (by decide) (bk_inl (v_if_eq_t (t := 64) rfl rfl (by decide) (q_iconst rfl (v_cv rfl rfl rfl rfl (Nat.le_of_ble_eq_true rfl) ⟨⟨rfl, rfl⟩, Nat.le_of_ble_eq_true rfl, rfl⟩ (Nat.le_of_ble_eq_true rfl) (Nat.le_of_ble_eq_true rfl) (q_iload_n rfl rfl ?_)))))))
                refine v_if_ne_f (t := 25) rfl rfl (by decide) (q_aload_n rfl rfl (q_dup rfl rfl ?_))
                have h_50 := ir_0_13 hI
                refine v_gi (z := 13) (v := c 0 13) rfl rfl rfl (Nat.le_of_ble_eq_true rfl) rfl rfl rfl (q_iconst rfl (v_iadd (v := c 0 13 + 1) rfl rfl (v_nrm (fun y_51 hy_51 => (v_pi (z := 13) rfl rfl rfl (Nat.le_of_ble_eq_true rfl) rfl rfl rfl (by decide) (v_new rfl rfl (by decide) (by omega) (Nat.le_of_ble_eq_true rfl) (by decide) rfl (bk_out rfl rfl ?_)))))))
                have hI_52 := iw_0_13 (v := y_51) hI ⟨hy_51.1, hy_51.2⟩
                exact T101 _ hI_52 (fun a j hm => up_b (Decidable.or_iff_not_imp_left.mpr (fun h1 h2 => hm (Or.inl ⟨Decidable.not_not.mp h1, h2⟩))))
              · refine v_ic_lt_f (t := 14) rfl rfl ⟨by decide, (Int.not_lt.mp h_49), ha5.2⟩ (q_iload_n rfl rfl (q_iload_n rfl rfl ?_))
                by_cases h_53 : a5 > 2
                · refine v_ic_gt_t (t := 14) rfl rfl ⟨by decide, h_53, ha5.2⟩ (q_iconst rfl (v_zret rfl rfl (by decide) (bk_inl (v_if_eq_t (t := 64) rfl rfl (by decide) (q_iconst rfl (v_cv rfl rfl rfl rfl (Nat.le_of_ble_eq_true rfl) ⟨⟨rfl, rfl⟩, Nat.le_of_ble_eq_true rfl, rfl⟩ (Nat.le_of_ble_eq_true rfl) (Nat.le_of_ble_eq_true rfl) (q_iload_n rfl rfl ?_)))))))
                  refine v_if_ne_f (t := 25) rfl rfl (by decide) (q_aload_n rfl rfl (q_dup rfl rfl ?_))
                  have h_54 := ir_0_13 hI
                  refine v_gi (z := 13) (v := c 0 13) rfl rfl rfl (Nat.le_of_ble_eq_true rfl) rfl rfl rfl (q_iconst rfl (v_iadd (v := c 0 13 + 1) rfl rfl (v_nrm (fun y_55 hy_55 => (v_pi (z := 13) rfl rfl rfl (Nat.le_of_ble_eq_true rfl) rfl rfl rfl (by decide) (v_new rfl rfl (by decide) (by omega) (Nat.le_of_ble_eq_true rfl) (by decide) rfl (bk_out rfl rfl ?_)))))))
                  have hI_56 := iw_0_13 (v := y_55) hI ⟨hy_55.1, hy_55.2⟩
                  exact T101 _ hI_56 (fun a j hm => up_b (Decidable.or_iff_not_imp_left.mpr (fun h1 h2 => hm (Or.inl ⟨Decidable.not_not.mp h1, h2⟩))))
                · refine v_ic_gt_f (t := 14) rfl rfl ⟨ha5.1, (Int.not_lt.mp h_53), by decide⟩ (q_iconst rfl (q_goto (t := 15) rfl rfl (v_zret rfl rfl (by decide) (bk_inl (v_if_eq_f (t := 64) rfl rfl (by decide) (q_iload rfl rfl (q_iconst rfl ?_)))))))
                  refine q_aload_n rfl rfl (v_gr (t := P) rfl rfl rfl (Nat.le_of_ble_eq_true rfl) rfl ?_)
                  have h_57 := ir_p0_0 hI hP
                  refine v_gi (z := 0) (v := c P 0) rfl rfl (ck_p0 hP) (a68z hP) rfl rfl rfl (q_iconst rfl (v_isub (v := c P 0 - 1) rfl rfl (q_call rfl rfl rfl rfl (q_iload_n rfl rfl (q_iload_n rfl rfl ?_)))))
                  by_cases h_58 : a6 < 0
                  · refine v_ic_lt_t (t := 14) rfl rfl ⟨ha6.1, h_58, by decide⟩ (q_iconst rfl (v_zret rfl rfl (by decide) (bk_inl (v_if_eq_t (t := 64) rfl rfl (by decide) (q_iconst rfl (v_cv rfl rfl rfl rfl (Nat.le_of_ble_eq_true rfl) ⟨⟨rfl, rfl⟩, Nat.le_of_ble_eq_true rfl, rfl⟩ (Nat.le_of_ble_eq_true rfl) (Nat.le_of_ble_eq_true rfl) (q_iload_n rfl rfl ?_)))))))
                    refine v_if_ne_f (t := 25) rfl rfl (by decide) (q_aload_n rfl rfl (q_dup rfl rfl ?_))
                    have h_59 := ir_0_13 hI
                    refine v_gi (z := 13) (v := c 0 13) rfl rfl rfl (Nat.le_of_ble_eq_true rfl) rfl rfl rfl (q_iconst rfl (v_iadd (v := c 0 13 + 1) rfl rfl (v_nrm (fun y_60 hy_60 => (v_pi (z := 13) rfl rfl rfl (Nat.le_of_ble_eq_true rfl) rfl rfl rfl (by decide) (v_new rfl rfl (by decide) (by omega) (Nat.le_of_ble_eq_true rfl) (by decide) rfl (bk_out rfl rfl ?_)))))))
                    have hI_61 := iw_0_13 (v := y_60) hI ⟨hy_60.1, hy_60.2⟩
                    exact T101 _ hI_61 (fun a j hm => up_b (Decidable.or_iff_not_imp_left.mpr (fun h1 h2 => hm (Or.inl ⟨Decidable.not_not.mp h1, h2⟩))))
                  · refine v_ic_lt_f (t := 14) rfl rfl ⟨by decide, (Int.not_lt.mp h_58), ha6.2⟩ (q_iload_n rfl rfl (q_iload_n rfl rfl ?_))
                    by_cases h_62 : a6 > c P 0 - 1
                    · refine v_ic_gt_t (t := 14) rfl rfl ⟨by first | exact rgm_l h_57.1 (by decide) | omega, h_62, ha6.2⟩ (q_iconst rfl (v_zret rfl rfl (by decide) (bk_inl (v_if_eq_t (t := 64) rfl rfl (by decide) (q_iconst rfl (v_cv rfl rfl rfl rfl (Nat.le_of_ble_eq_true rfl) ⟨⟨rfl, rfl⟩, Nat.le_of_ble_eq_true rfl, rfl⟩ (Nat.le_of_ble_eq_true rfl) (Nat.le_of_ble_eq_true rfl) (q_iload_n rfl rfl ?_)))))))
                      refine v_if_ne_f (t := 25) rfl rfl (by decide) (q_aload_n rfl rfl (q_dup rfl rfl ?_))
                      have h_63 := ir_0_13 hI
                      refine v_gi (z := 13) (v := c 0 13) rfl rfl rfl (Nat.le_of_ble_eq_true rfl) rfl rfl rfl (q_iconst rfl (v_iadd (v := c 0 13 + 1) rfl rfl (v_nrm (fun y_64 hy_64 => (v_pi (z := 13) rfl rfl rfl (Nat.le_of_ble_eq_true rfl) rfl rfl rfl (by decide) (v_new rfl rfl (by decide) (by omega) (Nat.le_of_ble_eq_true rfl) (by decide) rfl (bk_out rfl rfl ?_)))))))
                      have hI_65 := iw_0_13 (v := y_64) hI ⟨hy_64.1, hy_64.2⟩
                      exact T101 _ hI_65 (fun a j hm => up_b (Decidable.or_iff_not_imp_left.mpr (fun h1 h2 => hm (Or.inl ⟨Decidable.not_not.mp h1, h2⟩))))
                    · refine v_ic_gt_f (t := 14) rfl rfl ⟨ha6.1, (Int.not_lt.mp h_62), by first | exact rgm_h h_57.2 (by decide) | omega⟩ (q_iconst rfl (q_goto (t := 15) rfl rfl (v_zret rfl rfl (by decide) (bk_inl (v_if_eq_f (t := 64) rfl rfl (by decide) (q_iconst rfl (q_goto (t := 65) rfl rfl ?_)))))))
                      refine v_cv rfl rfl rfl rfl (Nat.le_of_ble_eq_true rfl) ⟨⟨rfl, rfl⟩, Nat.le_of_ble_eq_true rfl, rfl⟩ (Nat.le_of_ble_eq_true rfl) (Nat.le_of_ble_eq_true rfl) (q_iload_n rfl rfl (v_if_ne_t (t := 25) rfl rfl (by decide) (q_vret rfl rfl (bk_inl (v_ldcw (n := 2147483647) rfl rfl (by decide +kernel) (q_istore rfl (Nat.le_of_ble_eq_true rfl) (q_iconst rfl ?_)))))))
                      refine q_istore rfl (Nat.le_of_ble_eq_true rfl) (q_iconst rfl (q_istore rfl (Nat.le_of_ble_eq_true rfl) (q_iconst rfl (q_istore rfl (Nat.le_of_ble_eq_true rfl) (Wp_ls [(0, .ref 0), (1, vi a1), (2, vi a2), (3, vi a3), (4, vi a4), (5, vi a5), (6, vi a6), (7, vi 2147483647), (8, vi 0), (9, vi 0), (10, vi 0)] (lsub_cons rfl (lsub_cons rfl (lsub_cons rfl (lsub_cons rfl (lsub_cons rfl (lsub_cons rfl (lsub_cons rfl (lsub_cons rfl (lsub_cons rfl (lsub_cons rfl (lsub_cons rfl lsub_nil))))))))))) ?_)))))
                      exact (s_138_l (sc := sc) (d := d) hI ha1 ha2 ha3 ha4 ha5 ha6 T101 K 24) c 2147483647 0 0 0 hI (fun a j hm => rfl) ⟨by decide, by decide⟩ ⟨by decide, by decide⟩ ⟨by decide, by decide⟩ ⟨by decide, by decide⟩ ⟨by first | exact q_f19038599 h_25 | (clear ha1 ha2 ha3 ha4 ha5 ha6 h_29 h_33 h_37 h_41 h_45 h_49 h_53 h_57 h_58 h_62; omega) | omega, by first | exact q_92a66bdad h_29 | (clear ha1 ha2 ha3 ha4 ha5 ha6 h_25 h_33 h_37 h_41 h_45 h_49 h_53 h_57 h_58 h_62; omega) | omega⟩ ⟨by first | exact q_720657ba9 h_58 | (clear ha1 ha2 ha3 ha4 ha5 ha6 h_25 h_29 h_33 h_37 h_41 h_45 h_49 h_53 h_57 h_62; omega) | omega, by first | exact q_3a2e67ab0 h_57 h_62 | (clear ha1 ha2 ha3 ha4 ha5 ha6 h_25 h_29 h_33 h_37 h_41 h_45 h_49 h_53 h_58; omega) | omega⟩ ⟨by first | exact q_720657ba9 h_33 | (clear ha1 ha2 ha3 ha4 ha5 ha6 h_25 h_29 h_37 h_41 h_45 h_49 h_53 h_57 h_58 h_62; omega) | omega, by first | exact q_7f2151846 h_37 | (clear ha1 ha2 ha3 ha4 ha5 ha6 h_25 h_29 h_33 h_41 h_45 h_49 h_53 h_57 h_58 h_62; omega) | omega⟩ ⟨by first | exact q_f19038599 h_41 | (clear ha1 ha2 ha3 ha4 ha5 ha6 h_25 h_29 h_33 h_37 h_45 h_49 h_53 h_57 h_58 h_62; omega) | omega, by first | exact q_1cdd54b12 h_45 | (clear ha1 ha2 ha3 ha4 ha5 ha6 h_25 h_29 h_33 h_37 h_41 h_49 h_53 h_57 h_58 h_62; omega) | omega⟩ (by omega)

set_option maxRecDepth 100000 in
set_option maxHeartbeats 4000000 in
theorem s_139 {sc : List Int32} {d P Q : Nat} {c : ME} {Z : AR → Prop} (hI : Iv 0 (-1) P Q c)  (K : ∀ (c2 : ME) (y : Int), Iv 0 (-1) P Q c2 → (∀ (a : Nat) (j : Int), ¬ ((a = 0 ∧ j = 11) ∨ (a = 3 ∧ j = 3) ∨ a = 38) → c2 a j = c a j) → (-1) ≤ y ∧ y ≤ 16 → ((c 3 3 = 0 ∧ c2 3 3 = 0 ∧ y = (-1)) ∨ (c 3 3 > 0 ∧ c2 3 3 = c 3 3 - 1 ∧ y = c2 3 3)) → Z (.inl (some (vi y)), Wd P Q P P c2, 0, 0)) : Wp sc (d + 8) 139 0 [(0, .ref 0)] [] (Wd P Q P P c) 0 0 Z := by
  have hP := iv_P hI
  have hQ := iv_Q hI
  refine q_aload_n rfl rfl (v_gr (t := 3) rfl rfl rfl (Nat.le_of_ble_eq_true rfl) rfl ?_)
  have h_1 := ir_3_3 hI
  refine v_gi (z := 3) (v := c 3 3) rfl rfl rfl (Nat.le_of_ble_eq_true rfl) rfl rfl rfl ?_
  by_cases h_2 : c 3 3 ≠ 0
  · refine v_if_ne_t (t := 12) rfl rfl ⟨h_2, ⟨(Int.le_trans (by decide) h_1.1), (Int.le_trans h_1.2 (by decide))⟩, by decide, by decide⟩ (q_aload_n rfl rfl (v_gr (t := 3) rfl rfl rfl (Nat.le_of_ble_eq_true rfl) rfl (q_aload_n rfl rfl (v_gr (t := 37) rfl rfl rfl (Nat.le_of_ble_eq_true rfl) rfl (v_cv rfl rfl rfl rfl (Nat.le_of_ble_eq_true rfl) ⟨⟨rfl, rfl⟩, Nat.le_of_ble_eq_true rfl, rfl⟩ (Nat.le_of_ble_eq_true rfl) (Nat.le_of_ble_eq_true rfl) (s_25 hI (fun c_3 hI_4 hF_5 h_6 => (bk_inl ?_))))))))
    have h_7 := ir_3_3 hI_4
    refine q_aload_n rfl rfl (q_iconst rfl (v_pi (z := 11) rfl rfl rfl (Nat.le_of_ble_eq_true rfl) rfl rfl rfl (by decide) (q_aload_n rfl rfl (v_gr (t := 3) rfl rfl rfl (Nat.le_of_ble_eq_true rfl) rfl (v_gi (z := 3) (v := c_3 3 3) rfl rfl rfl (Nat.le_of_ble_eq_true rfl) rfl rfl (up_c (nn rfl)) (q_iret rfl rfl ?_))))))
    have hI_8 := iw_0_11 (v := 0) hI_4 ⟨by decide, by decide⟩
    have h_9 : (up c_3 0 11 0) 3 3 = c_3 3 3 := (up_c (nn rfl))
    exact K (up c_3 0 11 0) (c_3 3 3) hI_8 (fun a j hm => (up_b (Decidable.or_iff_not_imp_left.mpr (fun h1 h2 => hm (Or.inl ⟨Decidable.not_not.mp h1, h2⟩)))).trans (hF_5 a j (fun q => q.elim (fun h => hm (Or.inr (Or.inl h))) (fun h => hm (Or.inr (Or.inr h)))))) ⟨(Int.le_trans (by decide) h_7.1), h_7.2⟩ (Or.inr ⟨by first | exact q_69a2a74e5 h_1 h_2 | (clear h_7 h_6; omega) | omega, by omega, by first | exact q_94b7ed2f4 | (clear h_1 h_7 h_2 h_6; omega) | omega⟩)
  · refine v_if_ne_f (t := 12) rfl rfl (Decidable.not_not.mp h_2) (q_iconst rfl (q_iret rfl rfl ?_))
    exact K c (-1) hI (fun a j hm => rfl) ⟨by decide, by decide⟩ (Or.inl ⟨by first | exact q_bb0e0e122 h_1 h_2 | omega, by first | exact q_bb0e0e122 h_1 h_2 | omega, by first | decide | omega⟩)

set_option maxRecDepth 100000 in
set_option maxHeartbeats 4000000 in
theorem s_140 {sc : List Int32} {d P Q : Nat} {c : ME} {Z : AR → Prop} (hI : Iv 0 (-1) P Q c)  (K : ∀ (c2 : ME) (y : Int), Iv 0 (-1) P Q c2 → (∀ (a : Nat) (j : Int), ¬ ((a = 3 ∧ j = 4) ∨ a = 5 ∨ a = 6) → c2 a j = c a j) → (-1) ≤ y ∧ y ≤ 3 → ((c 3 4 = 3 ∧ c2 3 4 = 3 ∧ y = (-1)) ∨ (c 3 4 ≤ 2 ∧ c2 3 4 = c 3 4 + 1 ∧ y = c2 3 4)) → Z (.inl (some (vi y)), Wd P Q P P c2, 0, 0)) : Wp sc (d + 8) 140 0 [(0, .ref 0)] [] (Wd P Q P P c) 0 0 Z := by
  have hP := iv_P hI
  have hQ := iv_Q hI
  refine q_aload_n rfl rfl (v_gr (t := 3) rfl rfl rfl (Nat.le_of_ble_eq_true rfl) rfl ?_)
  have h_1 := ir_3_4 hI
  refine v_gi (z := 4) (v := c 3 4) rfl rfl rfl (Nat.le_of_ble_eq_true rfl) rfl rfl rfl (q_iconst rfl ?_)
  by_cases h_2 : c 3 4 ≠ 3
  · refine v_ic_ne_t (t := 13) rfl rfl ⟨h_2, ⟨(Int.le_trans (by decide) h_1.1), (Int.le_trans h_1.2 (by decide))⟩, by decide, by decide⟩ (q_aload_n rfl rfl (v_gr (t := 3) rfl rfl rfl (Nat.le_of_ble_eq_true rfl) rfl (q_aload_n rfl rfl (v_gr (t := 37) rfl rfl rfl (Nat.le_of_ble_eq_true rfl) rfl (v_cv rfl rfl rfl rfl (Nat.le_of_ble_eq_true rfl) ⟨⟨rfl, rfl⟩, Nat.le_of_ble_eq_true rfl, rfl⟩ (Nat.le_of_ble_eq_true rfl) (Nat.le_of_ble_eq_true rfl) (s_26 hI (fun c_3 hI_4 hF_5 h_6 => (bk_inl ?_))))))))
    have h_7 := ir_3_4 hI_4
    refine q_aload_n rfl rfl (v_gr (t := 3) rfl rfl rfl (Nat.le_of_ble_eq_true rfl) rfl (v_gi (z := 4) (v := c_3 3 4) rfl rfl rfl (Nat.le_of_ble_eq_true rfl) rfl rfl rfl (q_iret rfl rfl ?_)))
    exact K c_3 (c_3 3 4) hI_4 (fun a j hm => hF_5 a j (fun q => q.elim (fun h => hm (Or.inl h)) (fun q => q.elim (fun h => hm (Or.inr (Or.inl h))) (fun h => hm (Or.inr (Or.inr h)))))) ⟨(Int.le_trans (by decide) h_7.1), h_7.2⟩ (Or.inr ⟨by first | exact q_20607f14c h_1 h_2 | (clear h_7 h_6; omega) | omega, by omega, by first | exact q_94b7ed2f4 | (clear h_1 h_7 h_2 h_6; omega) | omega⟩)
  · refine v_ic_ne_f (t := 13) rfl rfl (Decidable.not_not.mp h_2) (q_iconst rfl (q_iret rfl rfl ?_))
    exact K c (-1) hI (fun a j hm => rfl) ⟨by decide, by decide⟩ (Or.inl ⟨by first | exact q_f16cccee8 h_1 h_2 | omega, by first | exact q_f16cccee8 h_1 h_2 | omega, by first | decide | omega⟩)

set_option maxRecDepth 100000 in
set_option maxHeartbeats 4000000 in
theorem s_141 {sc : List Int32} {d P Q : Nat} {c : ME} {Z : AR → Prop} (hI : Iv 0 (-1) P Q c)  (K : ∀ (c2 : ME) (y : Int), Iv 0 (-1) P Q c2 → (∀ (a : Nat) (j : Int), ¬ ((a = 0 ∧ j = 11) ∨ (a = 3 ∧ j = 3) ∨ (a = 3 ∧ j = 4) ∨ a = 38 ∨ a = 4) → c2 a j = c a j) → (-1) ≤ y ∧ y ≤ 3 → ((c 3 4 = 0 ∧ c2 3 4 = 0 ∧ y = (-1)) ∨ (c 3 4 > 0 ∧ c2 3 4 = c 3 4 - 1 ∧ y = c2 3 4)) → Z (.inl (some (vi y)), Wd P Q P P c2, 0, 0)) : Wp sc (d + 8) 141 0 [(0, .ref 0)] [] (Wd P Q P P c) 0 0 Z := by
  have hP := iv_P hI
  have hQ := iv_Q hI
  refine q_aload_n rfl rfl (v_gr (t := 3) rfl rfl rfl (Nat.le_of_ble_eq_true rfl) rfl ?_)
  have h_1 := ir_3_4 hI
  refine v_gi (z := 4) (v := c 3 4) rfl rfl rfl (Nat.le_of_ble_eq_true rfl) rfl rfl rfl ?_
  by_cases h_2 : c 3 4 ≠ 0
  · refine v_if_ne_t (t := 12) rfl rfl ⟨h_2, ⟨(Int.le_trans (by decide) h_1.1), (Int.le_trans h_1.2 (by decide))⟩, by decide, by decide⟩ (q_aload_n rfl rfl (v_gr (t := 3) rfl rfl rfl (Nat.le_of_ble_eq_true rfl) rfl (q_aload_n rfl rfl (v_gr (t := 37) rfl rfl rfl (Nat.le_of_ble_eq_true rfl) rfl (v_cv rfl rfl rfl rfl (Nat.le_of_ble_eq_true rfl) ⟨⟨rfl, rfl⟩, Nat.le_of_ble_eq_true rfl, rfl⟩ (Nat.le_of_ble_eq_true rfl) (Nat.le_of_ble_eq_true rfl) (s_27 hI (fun c_3 hI_4 hF_5 h_6 => (bk_inl ?_))))))))
    have h_7 := ir_3_4 hI_4
    refine q_aload_n rfl rfl (q_iconst rfl (v_pi (z := 11) rfl rfl rfl (Nat.le_of_ble_eq_true rfl) rfl rfl rfl (by decide) (q_aload_n rfl rfl (v_gr (t := 3) rfl rfl rfl (Nat.le_of_ble_eq_true rfl) rfl (v_gi (z := 4) (v := c_3 3 4) rfl rfl rfl (Nat.le_of_ble_eq_true rfl) rfl rfl (up_c (nn rfl)) (q_iret rfl rfl ?_))))))
    have hI_8 := iw_0_11 (v := 0) hI_4 ⟨by decide, by decide⟩
    have h_9 : (up c_3 0 11 0) 3 4 = c_3 3 4 := (up_c (nn rfl))
    exact K (up c_3 0 11 0) (c_3 3 4) hI_8 (fun a j hm => (up_b (Decidable.or_iff_not_imp_left.mpr (fun h1 h2 => hm (Or.inl ⟨Decidable.not_not.mp h1, h2⟩)))).trans (hF_5 a j (fun q => q.elim (fun h => hm (Or.inr (Or.inl h))) (fun q => q.elim (fun h => hm (Or.inr (Or.inr (Or.inl h)))) (fun q => q.elim (fun h => hm (Or.inr (Or.inr (Or.inr (Or.inl h))))) (fun h => hm (Or.inr (Or.inr (Or.inr (Or.inr h)))))))))) ⟨(Int.le_trans (by decide) h_7.1), h_7.2⟩ (Or.inr ⟨by first | exact q_c6195508a h_1 h_2 | (clear h_7 h_6; omega) | omega, by omega, by first | exact q_94b7ed2f4 | (clear h_1 h_7 h_2 h_6; omega) | omega⟩)
  · refine v_if_ne_f (t := 12) rfl rfl (Decidable.not_not.mp h_2) (q_iconst rfl (q_iret rfl rfl ?_))
    exact K c (-1) hI (fun a j hm => rfl) ⟨by decide, by decide⟩ (Or.inl ⟨by first | exact q_163d1c5eb h_1 h_2 | omega, by first | exact q_163d1c5eb h_1 h_2 | omega, by first | decide | omega⟩)

set_option maxRecDepth 100000 in
set_option maxHeartbeats 4000000 in
theorem s_142 {sc : List Int32} {e : Int} {d u P Q : Nat} {c : ME} {a1 : Int} {Z : AR → Prop} (hI : Iv u e P Q c) (ha1 : (-2147483648) ≤ a1 ∧ a1 ≤ 2147483647) (K : ∀ (y : Int), (-2147483648) ≤ y ∧ y ≤ 2147483647 → Z (.inl (some (vi y)), Wd P Q P P c, 0, 0)) : Wp sc (d + 7) 142 0 [(0, .ref 0), (1, vi a1)] [] (Wd P Q P P c) 0 0 Z := by
  have hP := iv_P hI
  have hQ := iv_Q hI
  refine q_iload_n rfl rfl ?_
  by_cases h_1 : a1 = 0
  · refine v_lsw (t := 28) (off := 27) 0 rfl (by omega) (by decide) (by decide) (by decide) (by decide) (q_aload_n rfl rfl ?_)
    have h_2 := ir_0_12 hI
    refine v_gi (z := 12) (v := c 0 12) rfl rfl rfl (Nat.le_of_ble_eq_true rfl) rfl rfl rfl (q_iret rfl rfl ?_)
    exact K (c 0 12) h_2
  by_cases h_3 : a1 = 1
  · refine v_lsw (t := 33) (off := 32) 1 rfl (by omega) (by decide) (by decide) (by decide) (by decide) (q_aload_n rfl rfl ?_)
    have h_4 := ir_0_13 hI
    refine v_gi (z := 13) (v := c 0 13) rfl rfl rfl (Nat.le_of_ble_eq_true rfl) rfl rfl rfl (q_iret rfl rfl ?_)
    exact K (c 0 13) h_4
  refine v_lsw_o (t := 38) rfl (by omega) (by decide) (by simp [Op.lookupswitch.offset, Ne.symm (show a1 ≠ 0 by omega), Ne.symm (show a1 ≠ 1 by omega)]) (by decide) (q_iconst rfl (q_iret rfl rfl ?_))
  exact K (-1) ⟨by decide, by decide⟩

set_option maxRecDepth 100000 in
set_option maxHeartbeats 4000000 in
theorem s_143 {sc : List Int32} {e : Int} {d u P Q : Nat} {c : ME} {a1 : Int} {Z : AR → Prop} (hI : Iv u e P Q c) (ha1 : (-2147483648) ≤ a1 ∧ a1 ≤ 2147483647) (K : ∀ (y : Int), (-2147483648) ≤ y ∧ y ≤ 2147483647 → Z (.inl (some (vi y)), Wd P Q P P c, 0, 0)) : Wp sc (d + 7) 143 0 [(0, .ref 0), (1, vi a1)] [] (Wd P Q P P c) 0 0 Z := by
  have hP := iv_P hI
  have hQ := iv_Q hI
  refine q_iload_n rfl rfl ?_
  by_cases h_1 : a1 = 0
  · skip
    refine v_tsw_i (t := 28) 0 rfl (by omega) (by decide) rfl (by decide) (q_aload_n rfl rfl (v_gr (t := 3) rfl rfl rfl (Nat.le_of_ble_eq_true rfl) rfl ?_))
    have h_2 := ir_3_4 hI
    refine v_gi (z := 4) (v := c 3 4) rfl rfl rfl (Nat.le_of_ble_eq_true rfl) rfl rfl rfl (q_iret rfl rfl ?_)
    exact K (c 3 4) ⟨(Int.le_trans (by decide) h_2.1), (Int.le_trans h_2.2 (by decide))⟩
  by_cases h_3 : a1 = 1
  · skip
    refine v_tsw_i (t := 36) 1 rfl (by omega) (by decide) rfl (by decide) (q_aload_n rfl rfl (v_gr (t := 1) rfl rfl rfl (Nat.le_of_ble_eq_true rfl) rfl ?_))
    have h_4 := ir_1_3 hI
    refine v_gi (z := 3) (v := c 1 3) rfl rfl rfl (Nat.le_of_ble_eq_true rfl) rfl rfl rfl (q_iret rfl rfl ?_)
    exact K (c 1 3) ⟨(Int.le_trans (by decide) h_4.1), (Int.le_trans h_4.2 (by decide))⟩
  by_cases h_5 : a1 = 2
  · skip
    refine v_tsw_i (t := 44) 2 rfl (by omega) (by decide) rfl (by decide) (q_aload_n rfl rfl (v_gr (t := 3) rfl rfl rfl (Nat.le_of_ble_eq_true rfl) rfl ?_))
    have h_6 := ir_3_3 hI
    refine v_gi (z := 3) (v := c 3 3) rfl rfl rfl (Nat.le_of_ble_eq_true rfl) rfl rfl rfl (q_iret rfl rfl ?_)
    exact K (c 3 3) ⟨(Int.le_trans (by decide) h_6.1), (Int.le_trans h_6.2 (by decide))⟩
  refine v_tsw_o (t := 52) rfl (by omega) (by decide) (q_iconst rfl (q_iret rfl rfl ?_))
  exact K (-1) ⟨by decide, by decide⟩

set_option maxRecDepth 100000 in
set_option maxHeartbeats 4000000 in
theorem s_147 {sc : List Int32} {e : Int} {d u P Q : Nat} {c : ME} {Z : AR → Prop} (hI : Iv u e P Q c)  (K : ∀ (c2 : ME), Iv u e P Q c2 → (∀ (a : Nat) (j : Int), ¬ ((a = 41 ∧ j = 16) ∨ (a = 41 ∧ j = 17) ∨ (a = 41 ∧ j = 18) ∨ (a = 41 ∧ j = 19)) → c2 a j = c a j) → ((c2 41 16 = 0 ∧ c2 41 17 = 0 ∧ c2 41 18 = 0 ∧ c2 41 19 = 5)) → Z (.inl (none), Wd P Q P P c2, 0, 0)) : Wp sc (d + 7) 147 0 [(0, .ref 41)] [] (Wd P Q P P c) 0 0 Z := by
  have hP := iv_P hI
  have hQ := iv_Q hI
  refine q_aload_n rfl rfl (q_iconst rfl (v_pi (z := 16) rfl rfl rfl (Nat.le_of_ble_eq_true rfl) rfl rfl rfl (by decide) (q_aload_n rfl rfl (q_iconst rfl (v_pi (z := 17) rfl rfl rfl (Nat.le_of_ble_eq_true rfl) rfl rfl rfl (by decide) (q_aload_n rfl rfl (q_iconst rfl ?_)))))))
  refine v_pi (z := 18) rfl rfl rfl (Nat.le_of_ble_eq_true rfl) rfl rfl rfl (by decide) (q_aload_n rfl rfl (q_iconst rfl (v_pi (z := 19) rfl rfl rfl (Nat.le_of_ble_eq_true rfl) rfl rfl rfl (by decide) (q_vret rfl rfl ?_))))
  have hI_1 := iw_41_16 (v := 0) hI ⟨by decide, by decide⟩
  have hI_2 := iw_41_17 (v := 0) hI_1 ⟨by decide, by decide⟩
  have hI_3 := iw_41_18 (v := 0) hI_2 ⟨by decide, by decide⟩
  have hI_4 := iw_41_19 (v := 5) hI_3 ⟨by decide, by decide⟩
  have h_5 : (up (up (up (up c 41 16 0) 41 17 0) 41 18 0) 41 19 5) 41 16 = 0 := ((up_n (by decide)).trans ((up_n (by decide)).trans ((up_n (by decide)).trans (up_e rfl))))
  have h_6 : (up (up (up (up c 41 16 0) 41 17 0) 41 18 0) 41 19 5) 41 17 = 0 := ((up_n (by decide)).trans ((up_n (by decide)).trans (up_e rfl)))
  have h_7 : (up (up (up (up c 41 16 0) 41 17 0) 41 18 0) 41 19 5) 41 18 = 0 := ((up_n (by decide)).trans (up_e rfl))
  have h_8 : (up (up (up (up c 41 16 0) 41 17 0) 41 18 0) 41 19 5) 41 19 = 5 := (up_e rfl)
  exact K (up (up (up (up c 41 16 0) 41 17 0) 41 18 0) 41 19 5) hI_4 (fun a j hm => (up_b (Decidable.or_iff_not_imp_left.mpr (fun h1 h2 => hm (Or.inr (Or.inr (Or.inr ⟨Decidable.not_not.mp h1, h2⟩)))))).trans ((up_b (Decidable.or_iff_not_imp_left.mpr (fun h1 h2 => hm (Or.inr (Or.inr (Or.inl ⟨Decidable.not_not.mp h1, h2⟩)))))).trans ((up_b (Decidable.or_iff_not_imp_left.mpr (fun h1 h2 => hm (Or.inr (Or.inl ⟨Decidable.not_not.mp h1, h2⟩))))).trans (up_b (Decidable.or_iff_not_imp_left.mpr (fun h1 h2 => hm (Or.inl ⟨Decidable.not_not.mp h1, h2⟩))))))) ⟨by first | decide | omega, by first | decide | omega, by first | decide | omega, by first | decide | omega⟩


set_option maxRecDepth 100000 in
set_option maxHeartbeats 4000000 in
theorem s_149_l {sc : List Int32} {d P Q : Nat} {c : ME} {Z : AR → Prop} (hI : Iv 58 (-1) P Q c)  (K : ∀ (c2 : ME), Iv 0 (-1) P Q c2 → (∀ (a : Nat) (j : Int), ¬ ((a = 41 ∧ j = 20) ∨ (a = 41 ∧ j = 21) ∨ (a = 41 ∧ j = 22) ∨ (a = 41 ∧ j = 23) ∨ (a = 41 ∧ j = 30) ∨ (a = 41 ∧ j = 35) ∨ (a = 41 ∧ j = 36) ∨ (a = 41 ∧ j = 47) ∨ (a = 41 ∧ j = 48) ∨ (a = 41 ∧ j = 52) ∨ a = 47 ∨ a = 48 ∨ a = 49 ∨ a = 58 ∨ a = 64) → c2 a j = c a j) → ((c2 41 20 = c 41 16 ∧ c2 41 21 = c 41 17 ∧ c2 41 22 = c 41 18 ∧ c2 41 23 = c 41 19 ∧ c2 41 30 = 0 ∧ c2 41 35 = 0 ∧ c2 41 36 = 0 ∧ c2 41 47 = 0 ∧ c2 41 48 = 0 ∧ c2 41 52 = 0)) → Z (.inl (none), Wd P Q P P c2, 0, 0)) : ∀ n : Nat, (∀ (c2 : ME) (v1 : Int), Iv 58 (-1) P Q c2 → (∀ (a : Nat) (j : Int), ¬ ((a = 41 ∧ j = 20) ∨ (a = 41 ∧ j = 21) ∨ (a = 41 ∧ j = 22) ∨ (a = 41 ∧ j = 23) ∨ (a = 41 ∧ j = 30) ∨ (a = 41 ∧ j = 35) ∨ (a = 41 ∧ j = 36) ∨ (a = 41 ∧ j = 47) ∨ (a = 41 ∧ j = 48) ∨ (a = 41 ∧ j = 52) ∨ a = 47 ∨ a = 48 ∨ a = 49 ∨ a = 58 ∨ a = 64) → c2 a j = c a j) → 0 ≤ v1 ∧ v1 ≤ 4 → ((c2 41 20 = c 41 16 ∧ c2 41 21 = c 41 17 ∧ c2 41 22 = c 41 18 ∧ c2 41 23 = c 41 19 ∧ c2 41 30 = 0 ∧ c2 41 35 = 0 ∧ c2 41 36 = 0 ∧ c2 41 47 = 0 ∧ c2 41 48 = 0 ∧ c2 41 52 = 0)) → 137 - 2 * v1 < (n : Int) → Wp sc (d + 7) 149 105 [(0, .ref 41), (1, vi v1)] [] (Wd P Q P P c2) 0 0 Z) ∧ (∀ (c2 : ME) (v1 : Int), Iv 58 (-1) P Q c2 → (∀ (a : Nat) (j : Int), ¬ ((a = 41 ∧ j = 20) ∨ (a = 41 ∧ j = 21) ∨ (a = 41 ∧ j = 22) ∨ (a = 41 ∧ j = 23) ∨ (a = 41 ∧ j = 30) ∨ (a = 41 ∧ j = 35) ∨ (a = 41 ∧ j = 36) ∨ (a = 41 ∧ j = 47) ∨ (a = 41 ∧ j = 48) ∨ (a = 41 ∧ j = 52) ∨ a = 47 ∨ a = 48 ∨ a = 49 ∨ a = 58 ∨ a = 64) → c2 a j = c a j) → 0 ≤ v1 ∧ v1 ≤ 37 → (∀ j : Int, 0 ≤ j → j < v1 → j < 24 → c2 58 j ≤ 999) → ((c2 41 20 = c 41 16 ∧ c2 41 21 = c 41 17 ∧ c2 41 22 = c 41 18 ∧ c2 41 23 = c 41 19 ∧ c2 41 30 = 0 ∧ c2 41 35 = 0 ∧ c2 41 36 = 0 ∧ c2 41 47 = 0 ∧ c2 41 48 = 0 ∧ c2 41 52 = 0)) → 126 - 2 * v1 < (n : Int) → Wp sc (d + 7) 149 125 [(0, .ref 41), (1, vi v1)] [] (Wd P Q P P c2) 0 0 Z) ∧ (∀ (c2 : ME) (v1 : Int), Iv 58 (-1) P Q c2 → (∀ (a : Nat) (j : Int), ¬ ((a = 41 ∧ j = 20) ∨ (a = 41 ∧ j = 21) ∨ (a = 41 ∧ j = 22) ∨ (a = 41 ∧ j = 23) ∨ (a = 41 ∧ j = 30) ∨ (a = 41 ∧ j = 35) ∨ (a = 41 ∧ j = 36) ∨ (a = 41 ∧ j = 47) ∨ (a = 41 ∧ j = 48) ∨ (a = 41 ∧ j = 52) ∨ a = 47 ∨ a = 48 ∨ a = 49 ∨ a = 58 ∨ a = 64) → c2 a j = c a j) → 0 ≤ v1 ∧ v1 ≤ 24 → (∀ j : Int, 0 ≤ j → j < 24 → j < 24 → c2 58 j ≤ 999) → ((c2 41 20 = c 41 16 ∧ c2 41 21 = c 41 17 ∧ c2 41 22 = c 41 18 ∧ c2 41 23 = c 41 19 ∧ c2 41 30 = 0 ∧ c2 41 35 = 0 ∧ c2 41 36 = 0 ∧ c2 41 47 = 0 ∧ c2 41 48 = 0 ∧ c2 41 52 = 0)) → 49 - 2 * v1 < (n : Int) → Wp sc (d + 7) 149 146 [(0, .ref 41), (1, vi v1)] [] (Wd P Q P P c2) 0 0 Z)
  | 0 => by exact ⟨by (intro c2 v1 hI2 hF hv1 hx0 hm9; have hP := iv_P hI; have hQ := iv_Q hI; exfalso; omega), by (intro c2 v1 hI2 hF hv1 hx0 hx1 hm9; have hP := iv_P hI; have hQ := iv_Q hI; exfalso; omega), by (intro c2 v1 hI2 hF hv1 hx0 hx1 hm9; have hP := iv_P hI; have hQ := iv_Q hI; exfalso; omega)⟩
  | n + 1 => by
    have hP := iv_P hI
    have hQ := iv_Q hI
    have ih := s_149_l (sc := sc) (d := d) hI K n
    refine ⟨?_, ?_, ?_⟩
    · skip
      intro c2 v1 hI2 hF hv1 hx0 hm9
      have h_1 := ir_41_16 hI
      have h_2 := ir_41_17 hI
      have h_3 := ir_41_18 hI
      have h_4 := ir_41_19 hI
      have h_5 := ir_41_20 hI2
      have h_6 := ir_41_21 hI2
      have h_7 := ir_41_22 hI2
      have h_8 := ir_41_23 hI2
      have h_9 := ir_41_30 hI2
      have h_10 := ir_41_35 hI2
      have h_11 := ir_41_36 hI2
      have h_12 := ir_41_47 hI2
      have h_13 := ir_41_48 hI2
      have h_14 := ir_41_52 hI2
      refine q_iload_n rfl rfl (q_iconst rfl ?_)
      by_cases h_15 : v1 ≥ 4
      · refine v_ic_ge_t (t := 123) rfl rfl ⟨by decide, h_15, (Int.le_trans hv1.2 (by decide))⟩ (q_iconst rfl (q_istore_n rfl (Nat.le_of_ble_eq_true rfl) (Wp_ls [(0, .ref 41), (1, vi 0)] (lsub_cons rfl (lsub_cons rfl lsub_nil)) ?_)))
        have hr_16 : ∀ j : Int, 0 ≤ j → j < 0 → j < 24 → c2 58 j ≤ 999 := by
          intro j hj1 hj2 hj3
          omega
        exact ih.2.1 c2 0 hI2 (fun a j hm => hF a j (fun q => q.elim (fun h => hm (Or.inl h)) (fun q => q.elim (fun h => hm (Or.inr (Or.inl h))) (fun q => q.elim (fun h => hm (Or.inr (Or.inr (Or.inl h)))) (fun q => q.elim (fun h => hm (Or.inr (Or.inr (Or.inr (Or.inl h))))) (fun q => q.elim (fun h => hm (Or.inr (Or.inr (Or.inr (Or.inr (Or.inl h)))))) (fun q => q.elim (fun h => hm (Or.inr (Or.inr (Or.inr (Or.inr (Or.inr (Or.inl h))))))) (fun q => q.elim (fun h => hm (Or.inr (Or.inr (Or.inr (Or.inr (Or.inr (Or.inr (Or.inl h)))))))) (fun q => q.elim (fun h => hm (Or.inr (Or.inr (Or.inr (Or.inr (Or.inr (Or.inr (Or.inr (Or.inl h))))))))) (fun q => q.elim (fun h => hm (Or.inr (Or.inr (Or.inr (Or.inr (Or.inr (Or.inr (Or.inr (Or.inr (Or.inl h)))))))))) (fun q => q.elim (fun h => hm (Or.inr (Or.inr (Or.inr (Or.inr (Or.inr (Or.inr (Or.inr (Or.inr (Or.inr (Or.inl h))))))))))) (fun q => q.elim (fun h => hm (Or.inr (Or.inr (Or.inr (Or.inr (Or.inr (Or.inr (Or.inr (Or.inr (Or.inr (Or.inr (Or.inl h)))))))))))) (fun q => q.elim (fun h => hm (Or.inr (Or.inr (Or.inr (Or.inr (Or.inr (Or.inr (Or.inr (Or.inr (Or.inr (Or.inr (Or.inr (Or.inl h))))))))))))) (fun q => q.elim (fun h => hm (Or.inr (Or.inr (Or.inr (Or.inr (Or.inr (Or.inr (Or.inr (Or.inr (Or.inr (Or.inr (Or.inr (Or.inr (Or.inl h)))))))))))))) (fun q => q.elim (fun h => hm (Or.inr (Or.inr (Or.inr (Or.inr (Or.inr (Or.inr (Or.inr (Or.inr (Or.inr (Or.inr (Or.inr (Or.inr (Or.inr (Or.inl h))))))))))))))) (fun h => hm (Or.inr (Or.inr (Or.inr (Or.inr (Or.inr (Or.inr (Or.inr (Or.inr (Or.inr (Or.inr (Or.inr (Or.inr (Or.inr (Or.inr h)))))))))))))))))))))))))))))) ⟨by decide, by decide⟩ hr_16 ⟨by first | (clear hv1 h_1 h_2 h_3 h_4 h_5 h_6 h_7 h_8 h_9 h_10 h_11 h_12 h_13 h_14 h_15; omega) | omega, by first | (clear hv1 h_1 h_2 h_3 h_4 h_5 h_6 h_7 h_8 h_9 h_10 h_11 h_12 h_13 h_14 h_15; omega) | omega, by first | (clear hv1 h_1 h_2 h_3 h_4 h_5 h_6 h_7 h_8 h_9 h_10 h_11 h_12 h_13 h_14 h_15; omega) | omega, by first | (clear hv1 h_1 h_2 h_3 h_4 h_5 h_6 h_7 h_8 h_9 h_10 h_11 h_12 h_13 h_14 h_15; omega) | omega, by first | (clear hv1 h_1 h_2 h_3 h_4 h_5 h_6 h_7 h_8 h_9 h_10 h_11 h_12 h_13 h_14 h_15; omega) | omega, by first | (clear hv1 h_1 h_2 h_3 h_4 h_5 h_6 h_7 h_8 h_9 h_10 h_11 h_12 h_13 h_14 h_15; omega) | omega, by first | (clear hv1 h_1 h_2 h_3 h_4 h_5 h_6 h_7 h_8 h_9 h_10 h_11 h_12 h_13 h_14 h_15; omega) | omega, by first | (clear hv1 h_1 h_2 h_3 h_4 h_5 h_6 h_7 h_8 h_9 h_10 h_11 h_12 h_13 h_14 h_15; omega) | omega, by first | (clear hv1 h_1 h_2 h_3 h_4 h_5 h_6 h_7 h_8 h_9 h_10 h_11 h_12 h_13 h_14 h_15; omega) | omega, by first | (clear hv1 h_1 h_2 h_3 h_4 h_5 h_6 h_7 h_8 h_9 h_10 h_11 h_12 h_13 h_14 h_15; omega) | omega⟩ (by omega)
      · refine v_ic_ge_f (t := 123) rfl rfl ⟨(Int.le_trans (by decide) hv1.1), (Int.not_le.mp h_15), by decide⟩ (q_aload_n rfl rfl (v_gr (t := 64) rfl rfl rfl (Nat.le_of_ble_eq_true rfl) rfl (q_iload_n rfl rfl (q_iconst rfl (v_is rfl rfl (by decide) (by decide) ⟨hv1.1, by first | exact q_2e808647e h_15 | (clear hv1 hx0 h_1 h_2 h_3 h_4 h_5 h_6 h_7 h_8 h_9 h_10 h_11 h_12 h_13 h_14; omega) | omega⟩ (v_iinc (v := v1 + 1) rfl rfl (Nat.le_of_ble_eq_true rfl) rfl (q_goto (t := 105) rfl rfl ?_)))))))
        have hI_17 := iw_64 (j := v1) (v := (-1)) hI2 ⟨by decide, by decide⟩
        refine Wp_ls [(0, .ref 41), (1, vi (v1 + 1))] (lsub_cons rfl (lsub_cons rfl lsub_nil)) ?_
        have h_18 : (up c2 64 v1 (-1)) 41 20 = c2 41 20 := (up_c (nn rfl))
        have h_19 : (up c2 64 v1 (-1)) 41 21 = c2 41 21 := (up_c (nn rfl))
        have h_20 : (up c2 64 v1 (-1)) 41 22 = c2 41 22 := (up_c (nn rfl))
        have h_21 : (up c2 64 v1 (-1)) 41 23 = c2 41 23 := (up_c (nn rfl))
        have h_22 : (up c2 64 v1 (-1)) 41 30 = c2 41 30 := (up_c (nn rfl))
        have h_23 : (up c2 64 v1 (-1)) 41 35 = c2 41 35 := (up_c (nn rfl))
        have h_24 : (up c2 64 v1 (-1)) 41 36 = c2 41 36 := (up_c (nn rfl))
        have h_25 : (up c2 64 v1 (-1)) 41 47 = c2 41 47 := (up_c (nn rfl))
        have h_26 : (up c2 64 v1 (-1)) 41 48 = c2 41 48 := (up_c (nn rfl))
        have h_27 : (up c2 64 v1 (-1)) 41 52 = c2 41 52 := (up_c (nn rfl))
        exact ih.1 (up c2 64 v1 (-1)) (v1 + 1) hI_17 (fun a j hm => (up_b (Decidable.or_iff_not_imp_left.mpr (fun h1 h2 => hm (Or.inr (Or.inr (Or.inr (Or.inr (Or.inr (Or.inr (Or.inr (Or.inr (Or.inr (Or.inr (Or.inr (Or.inr (Or.inr (Or.inr (Decidable.not_not.mp h1)))))))))))))))))).trans (hF a j (fun q => q.elim (fun h => hm (Or.inl h)) (fun q => q.elim (fun h => hm (Or.inr (Or.inl h))) (fun q => q.elim (fun h => hm (Or.inr (Or.inr (Or.inl h)))) (fun q => q.elim (fun h => hm (Or.inr (Or.inr (Or.inr (Or.inl h))))) (fun q => q.elim (fun h => hm (Or.inr (Or.inr (Or.inr (Or.inr (Or.inl h)))))) (fun q => q.elim (fun h => hm (Or.inr (Or.inr (Or.inr (Or.inr (Or.inr (Or.inl h))))))) (fun q => q.elim (fun h => hm (Or.inr (Or.inr (Or.inr (Or.inr (Or.inr (Or.inr (Or.inl h)))))))) (fun q => q.elim (fun h => hm (Or.inr (Or.inr (Or.inr (Or.inr (Or.inr (Or.inr (Or.inr (Or.inl h))))))))) (fun q => q.elim (fun h => hm (Or.inr (Or.inr (Or.inr (Or.inr (Or.inr (Or.inr (Or.inr (Or.inr (Or.inl h)))))))))) (fun q => q.elim (fun h => hm (Or.inr (Or.inr (Or.inr (Or.inr (Or.inr (Or.inr (Or.inr (Or.inr (Or.inr (Or.inl h))))))))))) (fun q => q.elim (fun h => hm (Or.inr (Or.inr (Or.inr (Or.inr (Or.inr (Or.inr (Or.inr (Or.inr (Or.inr (Or.inr (Or.inl h)))))))))))) (fun q => q.elim (fun h => hm (Or.inr (Or.inr (Or.inr (Or.inr (Or.inr (Or.inr (Or.inr (Or.inr (Or.inr (Or.inr (Or.inr (Or.inl h))))))))))))) (fun q => q.elim (fun h => hm (Or.inr (Or.inr (Or.inr (Or.inr (Or.inr (Or.inr (Or.inr (Or.inr (Or.inr (Or.inr (Or.inr (Or.inr (Or.inl h)))))))))))))) (fun q => q.elim (fun h => hm (Or.inr (Or.inr (Or.inr (Or.inr (Or.inr (Or.inr (Or.inr (Or.inr (Or.inr (Or.inr (Or.inr (Or.inr (Or.inr (Or.inl h))))))))))))))) (fun h => hm (Or.inr (Or.inr (Or.inr (Or.inr (Or.inr (Or.inr (Or.inr (Or.inr (Or.inr (Or.inr (Or.inr (Or.inr (Or.inr (Or.inr h))))))))))))))))))))))))))))))) ⟨by first | exact rgp_l hv1.1 (by decide) | omega, by first | exact q_121241f94 h_15 | (clear hv1 hx0 h_1 h_2 h_3 h_4 h_5 h_6 h_7 h_8 h_9 h_10 h_11 h_12 h_13 h_14; omega) | omega⟩ ⟨by first | (clear hv1 h_1 h_2 h_3 h_4 h_5 h_6 h_7 h_8 h_9 h_10 h_11 h_12 h_13 h_14 h_15; omega) | omega, by first | (clear hv1 h_1 h_2 h_3 h_4 h_5 h_6 h_7 h_8 h_9 h_10 h_11 h_12 h_13 h_14 h_15; omega) | omega, by first | (clear hv1 h_1 h_2 h_3 h_4 h_5 h_6 h_7 h_8 h_9 h_10 h_11 h_12 h_13 h_14 h_15; omega) | omega, by first | (clear hv1 h_1 h_2 h_3 h_4 h_5 h_6 h_7 h_8 h_9 h_10 h_11 h_12 h_13 h_14 h_15; omega) | omega, by first | (clear hv1 h_1 h_2 h_3 h_4 h_5 h_6 h_7 h_8 h_9 h_10 h_11 h_12 h_13 h_14 h_15; omega) | omega, by first | (clear hv1 h_1 h_2 h_3 h_4 h_5 h_6 h_7 h_8 h_9 h_10 h_11 h_12 h_13 h_14 h_15; omega) | omega, by first | (clear hv1 h_1 h_2 h_3 h_4 h_5 h_6 h_7 h_8 h_9 h_10 h_11 h_12 h_13 h_14 h_15; omega) | omega, by first | (clear hv1 h_1 h_2 h_3 h_4 h_5 h_6 h_7 h_8 h_9 h_10 h_11 h_12 h_13 h_14 h_15; omega) | omega, by first | (clear hv1 h_1 h_2 h_3 h_4 h_5 h_6 h_7 h_8 h_9 h_10 h_11 h_12 h_13 h_14 h_15; omega) | omega, by first | (clear hv1 h_1 h_2 h_3 h_4 h_5 h_6 h_7 h_8 h_9 h_10 h_11 h_12 h_13 h_14 h_15; omega) | omega⟩ (by omega)
    · skip
      intro c2 v1 hI2 hF hv1 hx0 hx1 hm9
      have h_28 := ir_41_16 hI
      have h_29 := ir_41_17 hI
      have h_30 := ir_41_18 hI
      have h_31 := ir_41_19 hI
      have h_32 := ir_41_20 hI2
      have h_33 := ir_41_21 hI2
      have h_34 := ir_41_22 hI2
      have h_35 := ir_41_23 hI2
      have h_36 := ir_41_30 hI2
      have h_37 := ir_41_35 hI2
      have h_38 := ir_41_36 hI2
      have h_39 := ir_41_47 hI2
      have h_40 := ir_41_48 hI2
      have h_41 := ir_41_52 hI2
      refine q_iload_n rfl rfl (v_bip rfl (by decide) ?_)
      by_cases h_42 : v1 ≥ 37
      · refine v_ic_ge_t (t := 144) rfl rfl ⟨by decide, h_42, (Int.le_trans hv1.2 (by decide))⟩ (q_iconst rfl (q_istore_n rfl (Nat.le_of_ble_eq_true rfl) (Wp_ls [(0, .ref 41), (1, vi 0)] (lsub_cons rfl (lsub_cons rfl lsub_nil)) ?_)))
        have hr_43 : ∀ j : Int, 0 ≤ j → j < 24 → j < 24 → c2 58 j ≤ 999 := fun j h1 h2 h3 => hx0 j h1 (by omega) h3
        exact ih.2.2 c2 0 hI2 (fun a j hm => hF a j (fun q => q.elim (fun h => hm (Or.inl h)) (fun q => q.elim (fun h => hm (Or.inr (Or.inl h))) (fun q => q.elim (fun h => hm (Or.inr (Or.inr (Or.inl h)))) (fun q => q.elim (fun h => hm (Or.inr (Or.inr (Or.inr (Or.inl h))))) (fun q => q.elim (fun h => hm (Or.inr (Or.inr (Or.inr (Or.inr (Or.inl h)))))) (fun q => q.elim (fun h => hm (Or.inr (Or.inr (Or.inr (Or.inr (Or.inr (Or.inl h))))))) (fun q => q.elim (fun h => hm (Or.inr (Or.inr (Or.inr (Or.inr (Or.inr (Or.inr (Or.inl h)))))))) (fun q => q.elim (fun h => hm (Or.inr (Or.inr (Or.inr (Or.inr (Or.inr (Or.inr (Or.inr (Or.inl h))))))))) (fun q => q.elim (fun h => hm (Or.inr (Or.inr (Or.inr (Or.inr (Or.inr (Or.inr (Or.inr (Or.inr (Or.inl h)))))))))) (fun q => q.elim (fun h => hm (Or.inr (Or.inr (Or.inr (Or.inr (Or.inr (Or.inr (Or.inr (Or.inr (Or.inr (Or.inl h))))))))))) (fun q => q.elim (fun h => hm (Or.inr (Or.inr (Or.inr (Or.inr (Or.inr (Or.inr (Or.inr (Or.inr (Or.inr (Or.inr (Or.inl h)))))))))))) (fun q => q.elim (fun h => hm (Or.inr (Or.inr (Or.inr (Or.inr (Or.inr (Or.inr (Or.inr (Or.inr (Or.inr (Or.inr (Or.inr (Or.inl h))))))))))))) (fun q => q.elim (fun h => hm (Or.inr (Or.inr (Or.inr (Or.inr (Or.inr (Or.inr (Or.inr (Or.inr (Or.inr (Or.inr (Or.inr (Or.inr (Or.inl h)))))))))))))) (fun q => q.elim (fun h => hm (Or.inr (Or.inr (Or.inr (Or.inr (Or.inr (Or.inr (Or.inr (Or.inr (Or.inr (Or.inr (Or.inr (Or.inr (Or.inr (Or.inl h))))))))))))))) (fun h => hm (Or.inr (Or.inr (Or.inr (Or.inr (Or.inr (Or.inr (Or.inr (Or.inr (Or.inr (Or.inr (Or.inr (Or.inr (Or.inr (Or.inr h)))))))))))))))))))))))))))))) ⟨by decide, by decide⟩ hr_43 ⟨by first | (clear hv1 h_28 h_29 h_30 h_31 h_32 h_33 h_34 h_35 h_36 h_37 h_38 h_39 h_40 h_41 h_42; omega) | omega, by first | (clear hv1 h_28 h_29 h_30 h_31 h_32 h_33 h_34 h_35 h_36 h_37 h_38 h_39 h_40 h_41 h_42; omega) | omega, by first | (clear hv1 h_28 h_29 h_30 h_31 h_32 h_33 h_34 h_35 h_36 h_37 h_38 h_39 h_40 h_41 h_42; omega) | omega, by first | (clear hv1 h_28 h_29 h_30 h_31 h_32 h_33 h_34 h_35 h_36 h_37 h_38 h_39 h_40 h_41 h_42; omega) | omega, by first | (clear hv1 h_28 h_29 h_30 h_31 h_32 h_33 h_34 h_35 h_36 h_37 h_38 h_39 h_40 h_41 h_42; omega) | omega, by first | (clear hv1 h_28 h_29 h_30 h_31 h_32 h_33 h_34 h_35 h_36 h_37 h_38 h_39 h_40 h_41 h_42; omega) | omega, by first | (clear hv1 h_28 h_29 h_30 h_31 h_32 h_33 h_34 h_35 h_36 h_37 h_38 h_39 h_40 h_41 h_42; omega) | omega, by first | (clear hv1 h_28 h_29 h_30 h_31 h_32 h_33 h_34 h_35 h_36 h_37 h_38 h_39 h_40 h_41 h_42; omega) | omega, by first | (clear hv1 h_28 h_29 h_30 h_31 h_32 h_33 h_34 h_35 h_36 h_37 h_38 h_39 h_40 h_41 h_42; omega) | omega, by first | (clear hv1 h_28 h_29 h_30 h_31 h_32 h_33 h_34 h_35 h_36 h_37 h_38 h_39 h_40 h_41 h_42; omega) | omega⟩ (by omega)
      · refine v_ic_ge_f (t := 144) rfl rfl ⟨(Int.le_trans (by decide) hv1.1), (Int.not_le.mp h_42), by decide⟩ (q_aload_n rfl rfl (v_gr (t := 58) rfl rfl rfl (Nat.le_of_ble_eq_true rfl) rfl (q_iload_n rfl rfl (q_iconst rfl (v_is rfl rfl (by decide) (by decide) ⟨hv1.1, by first | exact q_3cc4a238e h_42 | (clear hv1 hx1 h_28 h_29 h_30 h_31 h_32 h_33 h_34 h_35 h_36 h_37 h_38 h_39 h_40 h_41; omega) | omega⟩ (v_iinc (v := v1 + 1) rfl rfl (Nat.le_of_ble_eq_true rfl) rfl (q_goto (t := 125) rfl rfl ?_)))))))
        have hI_44 := iw_row (a := 58) (j := v1) (v := 0) hI2 (by omega) (Or.inl rfl) ⟨by omega, by omega, by omega⟩
        refine Wp_ls [(0, .ref 41), (1, vi (v1 + 1))] (lsub_cons rfl (lsub_cons rfl lsub_nil)) ?_
        have h_45 : (up c2 58 v1 0) 41 20 = c2 41 20 := (up_c (nn rfl))
        have h_46 : (up c2 58 v1 0) 41 21 = c2 41 21 := (up_c (nn rfl))
        have h_47 : (up c2 58 v1 0) 41 22 = c2 41 22 := (up_c (nn rfl))
        have h_48 : (up c2 58 v1 0) 41 23 = c2 41 23 := (up_c (nn rfl))
        have h_49 : (up c2 58 v1 0) 41 30 = c2 41 30 := (up_c (nn rfl))
        have h_50 : (up c2 58 v1 0) 41 35 = c2 41 35 := (up_c (nn rfl))
        have h_51 : (up c2 58 v1 0) 41 36 = c2 41 36 := (up_c (nn rfl))
        have h_52 : (up c2 58 v1 0) 41 47 = c2 41 47 := (up_c (nn rfl))
        have h_53 : (up c2 58 v1 0) 41 48 = c2 41 48 := (up_c (nn rfl))
        have h_54 : (up c2 58 v1 0) 41 52 = c2 41 52 := (up_c (nn rfl))
        have hr_55 : ∀ j : Int, 0 ≤ j → j < v1 + 1 → j < 24 → (up c2 58 v1 0) 58 j ≤ 999 := by
          intro j hj1 hj2 hj3
          by_cases e9 : j = v1
          · have q9 : (up c2 58 v1 0) 58 j = 0 := up_e e9
            rw [q9]
            omega
          · have q9 : (up c2 58 v1 0) 58 j = c2 58 j := up_n e9
            rw [q9]
            exact hx0 j hj1 (by omega) hj3
        exact ih.2.1 (up c2 58 v1 0) (v1 + 1) hI_44 (fun a j hm => (up_b (Decidable.or_iff_not_imp_left.mpr (fun h1 h2 => hm (Or.inr (Or.inr (Or.inr (Or.inr (Or.inr (Or.inr (Or.inr (Or.inr (Or.inr (Or.inr (Or.inr (Or.inr (Or.inr (Or.inl (Decidable.not_not.mp h1)))))))))))))))))).trans (hF a j (fun q => q.elim (fun h => hm (Or.inl h)) (fun q => q.elim (fun h => hm (Or.inr (Or.inl h))) (fun q => q.elim (fun h => hm (Or.inr (Or.inr (Or.inl h)))) (fun q => q.elim (fun h => hm (Or.inr (Or.inr (Or.inr (Or.inl h))))) (fun q => q.elim (fun h => hm (Or.inr (Or.inr (Or.inr (Or.inr (Or.inl h)))))) (fun q => q.elim (fun h => hm (Or.inr (Or.inr (Or.inr (Or.inr (Or.inr (Or.inl h))))))) (fun q => q.elim (fun h => hm (Or.inr (Or.inr (Or.inr (Or.inr (Or.inr (Or.inr (Or.inl h)))))))) (fun q => q.elim (fun h => hm (Or.inr (Or.inr (Or.inr (Or.inr (Or.inr (Or.inr (Or.inr (Or.inl h))))))))) (fun q => q.elim (fun h => hm (Or.inr (Or.inr (Or.inr (Or.inr (Or.inr (Or.inr (Or.inr (Or.inr (Or.inl h)))))))))) (fun q => q.elim (fun h => hm (Or.inr (Or.inr (Or.inr (Or.inr (Or.inr (Or.inr (Or.inr (Or.inr (Or.inr (Or.inl h))))))))))) (fun q => q.elim (fun h => hm (Or.inr (Or.inr (Or.inr (Or.inr (Or.inr (Or.inr (Or.inr (Or.inr (Or.inr (Or.inr (Or.inl h)))))))))))) (fun q => q.elim (fun h => hm (Or.inr (Or.inr (Or.inr (Or.inr (Or.inr (Or.inr (Or.inr (Or.inr (Or.inr (Or.inr (Or.inr (Or.inl h))))))))))))) (fun q => q.elim (fun h => hm (Or.inr (Or.inr (Or.inr (Or.inr (Or.inr (Or.inr (Or.inr (Or.inr (Or.inr (Or.inr (Or.inr (Or.inr (Or.inl h)))))))))))))) (fun q => q.elim (fun h => hm (Or.inr (Or.inr (Or.inr (Or.inr (Or.inr (Or.inr (Or.inr (Or.inr (Or.inr (Or.inr (Or.inr (Or.inr (Or.inr (Or.inl h))))))))))))))) (fun h => hm (Or.inr (Or.inr (Or.inr (Or.inr (Or.inr (Or.inr (Or.inr (Or.inr (Or.inr (Or.inr (Or.inr (Or.inr (Or.inr (Or.inr h))))))))))))))))))))))))))))))) ⟨by first | exact rgp_l hv1.1 (by decide) | omega, by first | exact q_6a0ddf4b6 h_42 | (clear hv1 hx1 h_28 h_29 h_30 h_31 h_32 h_33 h_34 h_35 h_36 h_37 h_38 h_39 h_40 h_41; omega) | omega⟩ hr_55 ⟨by first | (clear hv1 h_28 h_29 h_30 h_31 h_32 h_33 h_34 h_35 h_36 h_37 h_38 h_39 h_40 h_41 h_42; omega) | omega, by first | (clear hv1 h_28 h_29 h_30 h_31 h_32 h_33 h_34 h_35 h_36 h_37 h_38 h_39 h_40 h_41 h_42; omega) | omega, by first | (clear hv1 h_28 h_29 h_30 h_31 h_32 h_33 h_34 h_35 h_36 h_37 h_38 h_39 h_40 h_41 h_42; omega) | omega, by first | (clear hv1 h_28 h_29 h_30 h_31 h_32 h_33 h_34 h_35 h_36 h_37 h_38 h_39 h_40 h_41 h_42; omega) | omega, by first | (clear hv1 h_28 h_29 h_30 h_31 h_32 h_33 h_34 h_35 h_36 h_37 h_38 h_39 h_40 h_41 h_42; omega) | omega, by first | (clear hv1 h_28 h_29 h_30 h_31 h_32 h_33 h_34 h_35 h_36 h_37 h_38 h_39 h_40 h_41 h_42; omega) | omega, by first | (clear hv1 h_28 h_29 h_30 h_31 h_32 h_33 h_34 h_35 h_36 h_37 h_38 h_39 h_40 h_41 h_42; omega) | omega, by first | (clear hv1 h_28 h_29 h_30 h_31 h_32 h_33 h_34 h_35 h_36 h_37 h_38 h_39 h_40 h_41 h_42; omega) | omega, by first | (clear hv1 h_28 h_29 h_30 h_31 h_32 h_33 h_34 h_35 h_36 h_37 h_38 h_39 h_40 h_41 h_42; omega) | omega, by first | (clear hv1 h_28 h_29 h_30 h_31 h_32 h_33 h_34 h_35 h_36 h_37 h_38 h_39 h_40 h_41 h_42; omega) | omega⟩ (by omega)
    · skip
      intro c2 v1 hI2 hF hv1 hx0 hx1 hm9
      have h_56 := ir_41_16 hI
      have h_57 := ir_41_17 hI
      have h_58 := ir_41_18 hI
      have h_59 := ir_41_19 hI
      have h_60 := ir_41_20 hI2
      have h_61 := ir_41_21 hI2
      have h_62 := ir_41_22 hI2
      have h_63 := ir_41_23 hI2
      have h_64 := ir_41_30 hI2
      have h_65 := ir_41_35 hI2
      have h_66 := ir_41_36 hI2
      have h_67 := ir_41_47 hI2
      have h_68 := ir_41_48 hI2
      have h_69 := ir_41_52 hI2
      refine q_iload_n rfl rfl (q_iconst rfl (q_aload_n rfl rfl (v_gi (z := 20) (v := c2 41 20) rfl rfl rfl (Nat.le_of_ble_eq_true rfl) rfl rfl rfl (v_imul (v := 4 * c2 41 20) rfl (by first | (clear hv1 hx1 h_56 h_57 h_58 h_59 h_60 h_61 h_62 h_63 h_64 h_65 h_66 h_67 h_68 h_69; omega) | omega) ?_))))
      by_cases h_70 : v1 ≥ 4 * c2 41 20
      · refine v_ic_ge_t (t := 174) rfl rfl ⟨by first | exact q_4cd384ca3 h_60 | (clear hv1 hx1 h_56 h_57 h_58 h_59 h_61 h_62 h_63 h_64 h_65 h_66 h_67 h_68 h_69; omega) | omega, h_70, (Int.le_trans hv1.2 (by decide))⟩ (q_vret rfl rfl ?_)
        have hI_71 := iv_close hI2 (fun j hj => by
          have q9 : j % 4 = 0 ∧ 0 ≤ j ∧ j < 24 := hj
          have q0 := hx0 j (by omega) (by omega) (by omega)
          have q1 := hx0 (j + 1) (by omega) (by omega) (by omega)
          have q2 := hx0 (j + 2) (by omega) (by omega) (by omega)
          have q3 := hx0 (j + 3) (by omega) (by omega) (by omega)
          omega)
        exact K c2 hI_71 (fun a j hm => hF a j (fun q => q.elim (fun h => hm (Or.inl h)) (fun q => q.elim (fun h => hm (Or.inr (Or.inl h))) (fun q => q.elim (fun h => hm (Or.inr (Or.inr (Or.inl h)))) (fun q => q.elim (fun h => hm (Or.inr (Or.inr (Or.inr (Or.inl h))))) (fun q => q.elim (fun h => hm (Or.inr (Or.inr (Or.inr (Or.inr (Or.inl h)))))) (fun q => q.elim (fun h => hm (Or.inr (Or.inr (Or.inr (Or.inr (Or.inr (Or.inl h))))))) (fun q => q.elim (fun h => hm (Or.inr (Or.inr (Or.inr (Or.inr (Or.inr (Or.inr (Or.inl h)))))))) (fun q => q.elim (fun h => hm (Or.inr (Or.inr (Or.inr (Or.inr (Or.inr (Or.inr (Or.inr (Or.inl h))))))))) (fun q => q.elim (fun h => hm (Or.inr (Or.inr (Or.inr (Or.inr (Or.inr (Or.inr (Or.inr (Or.inr (Or.inl h)))))))))) (fun q => q.elim (fun h => hm (Or.inr (Or.inr (Or.inr (Or.inr (Or.inr (Or.inr (Or.inr (Or.inr (Or.inr (Or.inl h))))))))))) (fun q => q.elim (fun h => hm (Or.inr (Or.inr (Or.inr (Or.inr (Or.inr (Or.inr (Or.inr (Or.inr (Or.inr (Or.inr (Or.inl h)))))))))))) (fun q => q.elim (fun h => hm (Or.inr (Or.inr (Or.inr (Or.inr (Or.inr (Or.inr (Or.inr (Or.inr (Or.inr (Or.inr (Or.inr (Or.inl h))))))))))))) (fun q => q.elim (fun h => hm (Or.inr (Or.inr (Or.inr (Or.inr (Or.inr (Or.inr (Or.inr (Or.inr (Or.inr (Or.inr (Or.inr (Or.inr (Or.inl h)))))))))))))) (fun q => q.elim (fun h => hm (Or.inr (Or.inr (Or.inr (Or.inr (Or.inr (Or.inr (Or.inr (Or.inr (Or.inr (Or.inr (Or.inr (Or.inr (Or.inr (Or.inl h))))))))))))))) (fun h => hm (Or.inr (Or.inr (Or.inr (Or.inr (Or.inr (Or.inr (Or.inr (Or.inr (Or.inr (Or.inr (Or.inr (Or.inr (Or.inr (Or.inr h)))))))))))))))))))))))))))))) ⟨by first | (clear hv1 h_56 h_57 h_58 h_59 h_60 h_61 h_62 h_63 h_64 h_65 h_66 h_67 h_68 h_69 h_70; omega) | omega, by first | (clear hv1 h_56 h_57 h_58 h_59 h_60 h_61 h_62 h_63 h_64 h_65 h_66 h_67 h_68 h_69 h_70; omega) | omega, by first | (clear hv1 h_56 h_57 h_58 h_59 h_60 h_61 h_62 h_63 h_64 h_65 h_66 h_67 h_68 h_69 h_70; omega) | omega, by first | (clear hv1 h_56 h_57 h_58 h_59 h_60 h_61 h_62 h_63 h_64 h_65 h_66 h_67 h_68 h_69 h_70; omega) | omega, by first | (clear hv1 h_56 h_57 h_58 h_59 h_60 h_61 h_62 h_63 h_64 h_65 h_66 h_67 h_68 h_69 h_70; omega) | omega, by first | (clear hv1 h_56 h_57 h_58 h_59 h_60 h_61 h_62 h_63 h_64 h_65 h_66 h_67 h_68 h_69 h_70; omega) | omega, by first | (clear hv1 h_56 h_57 h_58 h_59 h_60 h_61 h_62 h_63 h_64 h_65 h_66 h_67 h_68 h_69 h_70; omega) | omega, by first | (clear hv1 h_56 h_57 h_58 h_59 h_60 h_61 h_62 h_63 h_64 h_65 h_66 h_67 h_68 h_69 h_70; omega) | omega, by first | (clear hv1 h_56 h_57 h_58 h_59 h_60 h_61 h_62 h_63 h_64 h_65 h_66 h_67 h_68 h_69 h_70; omega) | omega, by first | (clear hv1 h_56 h_57 h_58 h_59 h_60 h_61 h_62 h_63 h_64 h_65 h_66 h_67 h_68 h_69 h_70; omega) | omega⟩
      · refine v_ic_ge_f (t := 174) rfl rfl ⟨(Int.le_trans (by decide) hv1.1), (Int.not_le.mp h_70), by first | exact q_959592613 h_60 | (clear hv1 hx1 h_56 h_57 h_58 h_59 h_61 h_62 h_63 h_64 h_65 h_66 h_67 h_68 h_69; omega) | omega⟩ (q_aload_n rfl rfl (v_gr (t := 58) rfl rfl rfl (Nat.le_of_ble_eq_true rfl) rfl (q_iload_n rfl rfl (q_aload_n rfl rfl (v_gr (t := 47) rfl rfl rfl (Nat.le_of_ble_eq_true rfl) rfl (q_iload_n rfl rfl ?_))))))
        have h_72 := ir_47 hI2 v1
        refine v_ia (v := c2 47 v1) rfl rfl (by decide) (by decide) ⟨hv1.1, by first | exact q_b6dd10c5c h_60 h_70 | (clear hv1 hx1 h_56 h_57 h_58 h_59 h_61 h_62 h_63 h_64 h_65 h_66 h_67 h_68 h_69 h_72; omega) | omega⟩ rfl (v_is rfl rfl (by decide) (by decide) ⟨hv1.1, by first | exact q_192ae6d23 hv1 | (clear hx1 h_56 h_57 h_58 h_59 h_60 h_61 h_62 h_63 h_64 h_65 h_66 h_67 h_68 h_69 h_70 h_72; omega) | omega⟩ (v_iinc (v := v1 + 1) rfl rfl (Nat.le_of_ble_eq_true rfl) rfl (q_goto (t := 146) rfl rfl ?_)))
        have hI_73 := iw_row (a := 58) (j := v1) (v := c2 47 v1) hI2 (by omega) (Or.inl rfl) ⟨by omega, by omega, by omega⟩
        refine Wp_ls [(0, .ref 41), (1, vi (v1 + 1))] (lsub_cons rfl (lsub_cons rfl lsub_nil)) ?_
        have h_74 : (up c2 58 v1 (c2 47 v1)) 41 20 = c2 41 20 := (up_c (nn rfl))
        have h_75 : (up c2 58 v1 (c2 47 v1)) 41 21 = c2 41 21 := (up_c (nn rfl))
        have h_76 : (up c2 58 v1 (c2 47 v1)) 41 22 = c2 41 22 := (up_c (nn rfl))
        have h_77 : (up c2 58 v1 (c2 47 v1)) 41 23 = c2 41 23 := (up_c (nn rfl))
        have h_78 : (up c2 58 v1 (c2 47 v1)) 41 30 = c2 41 30 := (up_c (nn rfl))
        have h_79 : (up c2 58 v1 (c2 47 v1)) 41 35 = c2 41 35 := (up_c (nn rfl))
        have h_80 : (up c2 58 v1 (c2 47 v1)) 41 36 = c2 41 36 := (up_c (nn rfl))
        have h_81 : (up c2 58 v1 (c2 47 v1)) 41 47 = c2 41 47 := (up_c (nn rfl))
        have h_82 : (up c2 58 v1 (c2 47 v1)) 41 48 = c2 41 48 := (up_c (nn rfl))
        have h_83 : (up c2 58 v1 (c2 47 v1)) 41 52 = c2 41 52 := (up_c (nn rfl))
        have hr_84 : ∀ j : Int, 0 ≤ j → j < 24 → j < 24 → (up c2 58 v1 (c2 47 v1)) 58 j ≤ 999 := by
          intro j hj1 hj2 hj3
          by_cases e9 : j = v1
          · have q9 : (up c2 58 v1 (c2 47 v1)) 58 j = c2 47 v1 := up_e e9
            rw [q9]
            omega
          · have q9 : (up c2 58 v1 (c2 47 v1)) 58 j = c2 58 j := up_n e9
            rw [q9]
            exact hx0 j hj1 (by omega) hj3
        exact ih.2.2 (up c2 58 v1 (c2 47 v1)) (v1 + 1) hI_73 (fun a j hm => (up_b (Decidable.or_iff_not_imp_left.mpr (fun h1 h2 => hm (Or.inr (Or.inr (Or.inr (Or.inr (Or.inr (Or.inr (Or.inr (Or.inr (Or.inr (Or.inr (Or.inr (Or.inr (Or.inr (Or.inl (Decidable.not_not.mp h1)))))))))))))))))).trans (hF a j (fun q => q.elim (fun h => hm (Or.inl h)) (fun q => q.elim (fun h => hm (Or.inr (Or.inl h))) (fun q => q.elim (fun h => hm (Or.inr (Or.inr (Or.inl h)))) (fun q => q.elim (fun h => hm (Or.inr (Or.inr (Or.inr (Or.inl h))))) (fun q => q.elim (fun h => hm (Or.inr (Or.inr (Or.inr (Or.inr (Or.inl h)))))) (fun q => q.elim (fun h => hm (Or.inr (Or.inr (Or.inr (Or.inr (Or.inr (Or.inl h))))))) (fun q => q.elim (fun h => hm (Or.inr (Or.inr (Or.inr (Or.inr (Or.inr (Or.inr (Or.inl h)))))))) (fun q => q.elim (fun h => hm (Or.inr (Or.inr (Or.inr (Or.inr (Or.inr (Or.inr (Or.inr (Or.inl h))))))))) (fun q => q.elim (fun h => hm (Or.inr (Or.inr (Or.inr (Or.inr (Or.inr (Or.inr (Or.inr (Or.inr (Or.inl h)))))))))) (fun q => q.elim (fun h => hm (Or.inr (Or.inr (Or.inr (Or.inr (Or.inr (Or.inr (Or.inr (Or.inr (Or.inr (Or.inl h))))))))))) (fun q => q.elim (fun h => hm (Or.inr (Or.inr (Or.inr (Or.inr (Or.inr (Or.inr (Or.inr (Or.inr (Or.inr (Or.inr (Or.inl h)))))))))))) (fun q => q.elim (fun h => hm (Or.inr (Or.inr (Or.inr (Or.inr (Or.inr (Or.inr (Or.inr (Or.inr (Or.inr (Or.inr (Or.inr (Or.inl h))))))))))))) (fun q => q.elim (fun h => hm (Or.inr (Or.inr (Or.inr (Or.inr (Or.inr (Or.inr (Or.inr (Or.inr (Or.inr (Or.inr (Or.inr (Or.inr (Or.inl h)))))))))))))) (fun q => q.elim (fun h => hm (Or.inr (Or.inr (Or.inr (Or.inr (Or.inr (Or.inr (Or.inr (Or.inr (Or.inr (Or.inr (Or.inr (Or.inr (Or.inr (Or.inl h))))))))))))))) (fun h => hm (Or.inr (Or.inr (Or.inr (Or.inr (Or.inr (Or.inr (Or.inr (Or.inr (Or.inr (Or.inr (Or.inr (Or.inr (Or.inr (Or.inr h))))))))))))))))))))))))))))))) ⟨by first | exact rgp_l hv1.1 (by decide) | omega, by first | exact q_798f64f00 h_60 h_70 | (clear hv1 hx1 h_56 h_57 h_58 h_59 h_61 h_62 h_63 h_64 h_65 h_66 h_67 h_68 h_69 h_72; omega) | omega⟩ hr_84 ⟨by first | (clear hv1 h_56 h_57 h_58 h_59 h_60 h_61 h_62 h_63 h_64 h_65 h_66 h_67 h_68 h_69 h_70 h_72; omega) | omega, by first | (clear hv1 h_56 h_57 h_58 h_59 h_60 h_61 h_62 h_63 h_64 h_65 h_66 h_67 h_68 h_69 h_70 h_72; omega) | omega, by first | (clear hv1 h_56 h_57 h_58 h_59 h_60 h_61 h_62 h_63 h_64 h_65 h_66 h_67 h_68 h_69 h_70 h_72; omega) | omega, by first | (clear hv1 h_56 h_57 h_58 h_59 h_60 h_61 h_62 h_63 h_64 h_65 h_66 h_67 h_68 h_69 h_70 h_72; omega) | omega, by first | (clear hv1 h_56 h_57 h_58 h_59 h_60 h_61 h_62 h_63 h_64 h_65 h_66 h_67 h_68 h_69 h_70 h_72; omega) | omega, by first | (clear hv1 h_56 h_57 h_58 h_59 h_60 h_61 h_62 h_63 h_64 h_65 h_66 h_67 h_68 h_69 h_70 h_72; omega) | omega, by first | (clear hv1 h_56 h_57 h_58 h_59 h_60 h_61 h_62 h_63 h_64 h_65 h_66 h_67 h_68 h_69 h_70 h_72; omega) | omega, by first | (clear hv1 h_56 h_57 h_58 h_59 h_60 h_61 h_62 h_63 h_64 h_65 h_66 h_67 h_68 h_69 h_70 h_72; omega) | omega, by first | (clear hv1 h_56 h_57 h_58 h_59 h_60 h_61 h_62 h_63 h_64 h_65 h_66 h_67 h_68 h_69 h_70 h_72; omega) | omega, by first | (clear hv1 h_56 h_57 h_58 h_59 h_60 h_61 h_62 h_63 h_64 h_65 h_66 h_67 h_68 h_69 h_70 h_72; omega) | omega⟩ (by omega)
set_option maxRecDepth 100000 in
set_option maxHeartbeats 4000000 in
theorem s_149 {sc : List Int32} {d P Q : Nat} {c : ME} {Z : AR → Prop} (hI : Iv 58 (-1) P Q c)  (K : ∀ (c2 : ME), Iv 0 (-1) P Q c2 → (∀ (a : Nat) (j : Int), ¬ ((a = 41 ∧ j = 20) ∨ (a = 41 ∧ j = 21) ∨ (a = 41 ∧ j = 22) ∨ (a = 41 ∧ j = 23) ∨ (a = 41 ∧ j = 30) ∨ (a = 41 ∧ j = 35) ∨ (a = 41 ∧ j = 36) ∨ (a = 41 ∧ j = 47) ∨ (a = 41 ∧ j = 48) ∨ (a = 41 ∧ j = 52) ∨ a = 47 ∨ a = 48 ∨ a = 49 ∨ a = 58 ∨ a = 64) → c2 a j = c a j) → ((c2 41 20 = c 41 16 ∧ c2 41 21 = c 41 17 ∧ c2 41 22 = c 41 18 ∧ c2 41 23 = c 41 19 ∧ c2 41 30 = 0 ∧ c2 41 35 = 0 ∧ c2 41 36 = 0 ∧ c2 41 47 = 0 ∧ c2 41 48 = 0 ∧ c2 41 52 = 0)) → Z (.inl (none), Wd P Q P P c2, 0, 0)) : Wp sc (d + 7) 149 0 [(0, .ref 41)] [] (Wd P Q P P c) 0 0 Z := by
  have hP := iv_P hI
  have hQ := iv_Q hI
  refine q_aload_n rfl rfl (q_aload_n rfl rfl ?_)
  have h_85 := ir_41_16 hI
  refine v_gi (z := 16) (v := c 41 16) rfl rfl rfl (Nat.le_of_ble_eq_true rfl) rfl rfl rfl (v_pi (z := 20) rfl rfl rfl (Nat.le_of_ble_eq_true rfl) rfl rfl rfl (by decide) (q_aload_n rfl rfl (q_aload_n rfl rfl ?_)))
  have h_86 := ir_41_17 hI
  refine v_gi (z := 17) (v := c 41 17) rfl rfl rfl (Nat.le_of_ble_eq_true rfl) rfl rfl (up_n (by decide)) (v_pi (z := 21) rfl rfl rfl (Nat.le_of_ble_eq_true rfl) rfl rfl rfl (by decide) (q_aload_n rfl rfl (q_aload_n rfl rfl ?_)))
  have h_87 := ir_41_18 hI
  refine v_gi (z := 18) (v := c 41 18) rfl rfl rfl (Nat.le_of_ble_eq_true rfl) rfl rfl ((up_n (by decide)).trans (up_n (by decide))) (v_pi (z := 22) rfl rfl rfl (Nat.le_of_ble_eq_true rfl) rfl rfl rfl (by decide) (q_aload_n rfl rfl (q_aload_n rfl rfl ?_)))
  have h_88 := ir_41_19 hI
  refine v_gi (z := 19) (v := c 41 19) rfl rfl rfl (Nat.le_of_ble_eq_true rfl) rfl rfl ((up_n (by decide)).trans ((up_n (by decide)).trans (up_n (by decide)))) (v_pi (z := 23) rfl rfl rfl (Nat.le_of_ble_eq_true rfl) rfl rfl rfl (by decide) (q_aload_n rfl rfl (q_aload_n rfl rfl (v_gr (t := 44) rfl rfl rfl (Nat.le_of_ble_eq_true rfl) rfl (q_aload_n rfl rfl (v_gr (t := 47) rfl rfl rfl (Nat.le_of_ble_eq_true rfl) rfl (v_bip rfl (by decide) ?_)))))))
  refine v_cv rfl rfl rfl rfl (Nat.le_of_ble_eq_true rfl) ⟨⟨rfl, rfl⟩, Nat.le_of_ble_eq_true rfl, rfl⟩ (Nat.le_of_ble_eq_true rfl) (Nat.le_of_ble_eq_true rfl) (s_148 (f := 44) (t := 47) (nf := 24) (nt := 24) (n := 24) rfl rfl (by decide) (by decide) (by decide) (by decide) (by decide) (by omega) (bk_inl (q_aload_n rfl rfl (q_aload_n rfl rfl (v_gr (t := 45) rfl rfl rfl (Nat.le_of_ble_eq_true rfl) rfl (q_aload_n rfl rfl (v_gr (t := 48) rfl rfl rfl (Nat.le_of_ble_eq_true rfl) rfl (v_bip rfl (by decide) ?_))))))))
  refine v_cv rfl rfl rfl rfl (Nat.le_of_ble_eq_true rfl) ⟨⟨rfl, rfl⟩, Nat.le_of_ble_eq_true rfl, rfl⟩ (Nat.le_of_ble_eq_true rfl) (Nat.le_of_ble_eq_true rfl) (s_148 (f := 45) (t := 48) (nf := 12) (nt := 12) (n := 12) rfl rfl (by decide) (by decide) (by decide) (by decide) (by decide) (by omega) (bk_inl (q_aload_n rfl rfl (q_aload_n rfl rfl (v_gr (t := 46) rfl rfl rfl (Nat.le_of_ble_eq_true rfl) rfl (q_aload_n rfl rfl (v_gr (t := 49) rfl rfl rfl (Nat.le_of_ble_eq_true rfl) rfl (q_iconst rfl ?_))))))))
  refine v_cv rfl rfl rfl rfl (Nat.le_of_ble_eq_true rfl) ⟨⟨rfl, rfl⟩, Nat.le_of_ble_eq_true rfl, rfl⟩ (Nat.le_of_ble_eq_true rfl) (Nat.le_of_ble_eq_true rfl) (s_148 (f := 46) (t := 49) (nf := 4) (nt := 4) (n := 4) rfl rfl (by decide) (by decide) (by decide) (by decide) (by decide) (by omega) (bk_inl (q_aload_n rfl rfl (q_iconst rfl (v_pi (z := 30) rfl rfl rfl (Nat.le_of_ble_eq_true rfl) rfl rfl rfl (by decide) (q_aload_n rfl rfl (q_iconst rfl (v_pi (z := 47) rfl rfl rfl (Nat.le_of_ble_eq_true rfl) rfl rfl rfl (by decide) ?_))))))))
  refine q_aload_n rfl rfl (q_iconst rfl (v_pi (z := 48) rfl rfl rfl (Nat.le_of_ble_eq_true rfl) rfl rfl rfl (by decide) (q_aload_n rfl rfl (q_iconst rfl (v_pi (z := 35) rfl rfl rfl (Nat.le_of_ble_eq_true rfl) rfl rfl rfl (by decide) (q_aload_n rfl rfl (q_iconst rfl ?_)))))))
  refine v_pi (z := 52) rfl rfl rfl (Nat.le_of_ble_eq_true rfl) rfl rfl rfl (by decide) (q_aload_n rfl rfl (q_iconst rfl (v_pi (z := 36) rfl rfl rfl (Nat.le_of_ble_eq_true rfl) rfl rfl rfl (by decide) (q_iconst rfl (q_istore_n rfl (Nat.le_of_ble_eq_true rfl) ?_)))))
  have hI_89 := iw_41_20 (v := c 41 16) hI ⟨h_85.1, h_85.2⟩
  have hI_90 := iw_41_21 (v := c 41 17) hI_89 ⟨h_86.1, h_86.2⟩
  have hI_91 := iw_41_22 (v := c 41 18) hI_90 ⟨h_87.1, h_87.2⟩
  have hI_92 := iw_41_23 (v := c 41 19) hI_91 ⟨h_88.1, h_88.2⟩
  have hI_93 := cp_44_47 hI_92
  have hI_94 := cp_45_48 hI_93
  have hI_95 := cp_46_49 hI_94
  have hI_96 := iw_codes0 hI_95
  have hI_97 := iw_41_47 (v := 0) hI_96 ⟨by decide, by decide⟩
  have hI_98 := iw_41_48 (v := 0) hI_97 ⟨by decide, by decide⟩
  have hI_99 := iw_41_35 (v := 0) hI_98 ⟨by decide, by decide⟩
  have hI_100 := iw_41_52 (v := 0) hI_99 ⟨by decide, by decide⟩
  have hI_101 := iw_41_36 (v := 0) hI_100 ⟨by decide, by decide⟩
  refine Wp_ls [(0, .ref 41), (1, vi 0)] (lsub_cons rfl (lsub_cons rfl lsub_nil)) ?_
  have h_102 : (up (up (up (up (up (up (upc (upc (upc (up (up (up (up c 41 20 (c 41 16)) 41 21 (c 41 17)) 41 22 (c 41 18)) 41 23 (c 41 19)) 44 0 47 0 24) 45 0 48 0 12) 46 0 49 0 4) 41 30 0) 41 47 0) 41 48 0) 41 35 0) 41 52 0) 41 36 0) 41 20 = c 41 16 := ((up_n (by decide)).trans ((up_n (by decide)).trans ((up_n (by decide)).trans ((up_n (by decide)).trans ((up_n (by decide)).trans ((up_n (by decide)).trans ((upc_c (by omega)).trans ((upc_c (by omega)).trans ((upc_c (by omega)).trans ((up_n (by decide)).trans ((up_n (by decide)).trans ((up_n (by decide)).trans (up_e rfl)))))))))))))
  have h_103 : (up (up (up (up (up (up (upc (upc (upc (up (up (up (up c 41 20 (c 41 16)) 41 21 (c 41 17)) 41 22 (c 41 18)) 41 23 (c 41 19)) 44 0 47 0 24) 45 0 48 0 12) 46 0 49 0 4) 41 30 0) 41 47 0) 41 48 0) 41 35 0) 41 52 0) 41 36 0) 41 21 = c 41 17 := ((up_n (by decide)).trans ((up_n (by decide)).trans ((up_n (by decide)).trans ((up_n (by decide)).trans ((up_n (by decide)).trans ((up_n (by decide)).trans ((upc_c (by omega)).trans ((upc_c (by omega)).trans ((upc_c (by omega)).trans ((up_n (by decide)).trans ((up_n (by decide)).trans (up_e rfl))))))))))))
  have h_104 : (up (up (up (up (up (up (upc (upc (upc (up (up (up (up c 41 20 (c 41 16)) 41 21 (c 41 17)) 41 22 (c 41 18)) 41 23 (c 41 19)) 44 0 47 0 24) 45 0 48 0 12) 46 0 49 0 4) 41 30 0) 41 47 0) 41 48 0) 41 35 0) 41 52 0) 41 36 0) 41 22 = c 41 18 := ((up_n (by decide)).trans ((up_n (by decide)).trans ((up_n (by decide)).trans ((up_n (by decide)).trans ((up_n (by decide)).trans ((up_n (by decide)).trans ((upc_c (by omega)).trans ((upc_c (by omega)).trans ((upc_c (by omega)).trans ((up_n (by decide)).trans (up_e rfl)))))))))))
  have h_105 : (up (up (up (up (up (up (upc (upc (upc (up (up (up (up c 41 20 (c 41 16)) 41 21 (c 41 17)) 41 22 (c 41 18)) 41 23 (c 41 19)) 44 0 47 0 24) 45 0 48 0 12) 46 0 49 0 4) 41 30 0) 41 47 0) 41 48 0) 41 35 0) 41 52 0) 41 36 0) 41 23 = c 41 19 := ((up_n (by decide)).trans ((up_n (by decide)).trans ((up_n (by decide)).trans ((up_n (by decide)).trans ((up_n (by decide)).trans ((up_n (by decide)).trans ((upc_c (by omega)).trans ((upc_c (by omega)).trans ((upc_c (by omega)).trans (up_e rfl))))))))))
  have h_106 : (up (up (up (up (up (up (upc (upc (upc (up (up (up (up c 41 20 (c 41 16)) 41 21 (c 41 17)) 41 22 (c 41 18)) 41 23 (c 41 19)) 44 0 47 0 24) 45 0 48 0 12) 46 0 49 0 4) 41 30 0) 41 47 0) 41 48 0) 41 35 0) 41 52 0) 41 36 0) 41 30 = 0 := ((up_n (by decide)).trans ((up_n (by decide)).trans ((up_n (by decide)).trans ((up_n (by decide)).trans ((up_n (by decide)).trans (up_e rfl))))))
  have h_107 : (up (up (up (up (up (up (upc (upc (upc (up (up (up (up c 41 20 (c 41 16)) 41 21 (c 41 17)) 41 22 (c 41 18)) 41 23 (c 41 19)) 44 0 47 0 24) 45 0 48 0 12) 46 0 49 0 4) 41 30 0) 41 47 0) 41 48 0) 41 35 0) 41 52 0) 41 36 0) 41 35 = 0 := ((up_n (by decide)).trans ((up_n (by decide)).trans (up_e rfl)))
  have h_108 : (up (up (up (up (up (up (upc (upc (upc (up (up (up (up c 41 20 (c 41 16)) 41 21 (c 41 17)) 41 22 (c 41 18)) 41 23 (c 41 19)) 44 0 47 0 24) 45 0 48 0 12) 46 0 49 0 4) 41 30 0) 41 47 0) 41 48 0) 41 35 0) 41 52 0) 41 36 0) 41 36 = 0 := (up_e rfl)
  have h_109 : (up (up (up (up (up (up (upc (upc (upc (up (up (up (up c 41 20 (c 41 16)) 41 21 (c 41 17)) 41 22 (c 41 18)) 41 23 (c 41 19)) 44 0 47 0 24) 45 0 48 0 12) 46 0 49 0 4) 41 30 0) 41 47 0) 41 48 0) 41 35 0) 41 52 0) 41 36 0) 41 47 = 0 := ((up_n (by decide)).trans ((up_n (by decide)).trans ((up_n (by decide)).trans ((up_n (by decide)).trans (up_e rfl)))))
  have h_110 : (up (up (up (up (up (up (upc (upc (upc (up (up (up (up c 41 20 (c 41 16)) 41 21 (c 41 17)) 41 22 (c 41 18)) 41 23 (c 41 19)) 44 0 47 0 24) 45 0 48 0 12) 46 0 49 0 4) 41 30 0) 41 47 0) 41 48 0) 41 35 0) 41 52 0) 41 36 0) 41 48 = 0 := ((up_n (by decide)).trans ((up_n (by decide)).trans ((up_n (by decide)).trans (up_e rfl))))
  have h_111 : (up (up (up (up (up (up (upc (upc (upc (up (up (up (up c 41 20 (c 41 16)) 41 21 (c 41 17)) 41 22 (c 41 18)) 41 23 (c 41 19)) 44 0 47 0 24) 45 0 48 0 12) 46 0 49 0 4) 41 30 0) 41 47 0) 41 48 0) 41 35 0) 41 52 0) 41 36 0) 41 52 = 0 := ((up_n (by decide)).trans (up_e rfl))
  exact (s_149_l (sc := sc) (d := d) hI K 140).1 (up (up (up (up (up (up (upc (upc (upc (up (up (up (up c 41 20 (c 41 16)) 41 21 (c 41 17)) 41 22 (c 41 18)) 41 23 (c 41 19)) 44 0 47 0 24) 45 0 48 0 12) 46 0 49 0 4) 41 30 0) 41 47 0) 41 48 0) 41 35 0) 41 52 0) 41 36 0) 0 hI_101 (fun a j hm => (up_b (Decidable.or_iff_not_imp_left.mpr (fun h1 h2 => hm (Or.inr (Or.inr (Or.inr (Or.inr (Or.inr (Or.inr (Or.inl ⟨Decidable.not_not.mp h1, h2⟩)))))))))).trans ((up_b (Decidable.or_iff_not_imp_left.mpr (fun h1 h2 => hm (Or.inr (Or.inr (Or.inr (Or.inr (Or.inr (Or.inr (Or.inr (Or.inr (Or.inr (Or.inl ⟨Decidable.not_not.mp h1, h2⟩))))))))))))).trans ((up_b (Decidable.or_iff_not_imp_left.mpr (fun h1 h2 => hm (Or.inr (Or.inr (Or.inr (Or.inr (Or.inr (Or.inl ⟨Decidable.not_not.mp h1, h2⟩))))))))).trans ((up_b (Decidable.or_iff_not_imp_left.mpr (fun h1 h2 => hm (Or.inr (Or.inr (Or.inr (Or.inr (Or.inr (Or.inr (Or.inr (Or.inr (Or.inl ⟨Decidable.not_not.mp h1, h2⟩)))))))))))).trans ((up_b (Decidable.or_iff_not_imp_left.mpr (fun h1 h2 => hm (Or.inr (Or.inr (Or.inr (Or.inr (Or.inr (Or.inr (Or.inr (Or.inl ⟨Decidable.not_not.mp h1, h2⟩))))))))))).trans ((up_b (Decidable.or_iff_not_imp_left.mpr (fun h1 h2 => hm (Or.inr (Or.inr (Or.inr (Or.inr (Or.inl ⟨Decidable.not_not.mp h1, h2⟩)))))))).trans ((upc_c (fun h => hm (Or.inr (Or.inr (Or.inr (Or.inr (Or.inr (Or.inr (Or.inr (Or.inr (Or.inr (Or.inr (Or.inr (Or.inr (Or.inl h))))))))))))))).trans ((upc_c (fun h => hm (Or.inr (Or.inr (Or.inr (Or.inr (Or.inr (Or.inr (Or.inr (Or.inr (Or.inr (Or.inr (Or.inr (Or.inl h)))))))))))))).trans ((upc_c (fun h => hm (Or.inr (Or.inr (Or.inr (Or.inr (Or.inr (Or.inr (Or.inr (Or.inr (Or.inr (Or.inr (Or.inl h))))))))))))).trans ((up_b (Decidable.or_iff_not_imp_left.mpr (fun h1 h2 => hm (Or.inr (Or.inr (Or.inr (Or.inl ⟨Decidable.not_not.mp h1, h2⟩))))))).trans ((up_b (Decidable.or_iff_not_imp_left.mpr (fun h1 h2 => hm (Or.inr (Or.inr (Or.inl ⟨Decidable.not_not.mp h1, h2⟩)))))).trans ((up_b (Decidable.or_iff_not_imp_left.mpr (fun h1 h2 => hm (Or.inr (Or.inl ⟨Decidable.not_not.mp h1, h2⟩))))).trans (up_b (Decidable.or_iff_not_imp_left.mpr (fun h1 h2 => hm (Or.inl ⟨Decidable.not_not.mp h1, h2⟩)))))))))))))))) ⟨by decide, by decide⟩ ⟨by first | exact q_94b7ed2f4 | omega, by first | exact q_94b7ed2f4 | omega, by first | exact q_94b7ed2f4 | omega, by first | exact q_94b7ed2f4 | omega, by first | decide | omega, by first | decide | omega, by first | decide | omega, by first | decide | omega, by first | decide | omega, by first | decide | omega⟩ (by omega)

set_option maxRecDepth 100000 in
set_option maxHeartbeats 4000000 in
theorem s_151_l {sc : List Int32} {e : Int} {d u P Q : Nat} {c : ME} {a1 : Int} {a2 : Int} {a3 : Int} {a4 : Int} {a5 : Int} {Z : AR → Prop} (hI : Iv u e P Q c) (ha1 : (-2147483648) ≤ a1 ∧ a1 ≤ 2147483647) (ha2 : (-2147483648) ≤ a2 ∧ a2 ≤ 2147483647) (ha3 : (-2147483648) ≤ a3 ∧ a3 ≤ 2147483647) (ha4 : (-2147483648) ≤ a4 ∧ a4 ≤ 2147483647) (ha5 : (-2147483648) ≤ a5 ∧ a5 ≤ 2147483647) (K : ∀ (c2 : ME) (y : Int), Iv u e P Q c2 → (∀ (a : Nat) (j : Int), ¬ ((a = 41 ∧ j = 0) ∨ (a = 41 ∧ j = 2) ∨ a = 43) → c2 a j = c a j) → (-1) ≤ y ∧ y ≤ 600 → Z (.inl (some (vi y)), Wd P Q P P c2, 0, 0)) : ∀ n : Nat, (∀ (c2 : ME) (v6 : Int), Iv u e P Q c2 → (∀ (a : Nat) (j : Int), ¬ ((a = 41 ∧ j = 0) ∨ (a = 41 ∧ j = 2) ∨ a = 43) → c2 a j = c a j) → 0 ≤ v6 ∧ v6 ≤ 20 → ((c2 41 2 = c 41 2 + v6)) → ((c 41 2 ≤ 580)) → 41 - 2 * v6 < (n : Int) → Wp sc (d + 7) 151 23 [(0, .ref 41), (1, vi a1), (2, vi a2), (3, vi a3), (4, vi a4), (5, vi a5), (6, vi v6)] [] (Wd P Q P P c2) 0 0 Z)
  | 0 => by intro c2 v6 hI2 hF hv6 hx0 hx1 hm9; have hP := iv_P hI; have hQ := iv_Q hI; exfalso; omega
  | n + 1 => by
    have hP := iv_P hI
    have hQ := iv_Q hI
    have ih := s_151_l (sc := sc) (d := d) hI ha1 ha2 ha3 ha4 ha5 K n
    intro c2 v6 hI2 hF hv6 hx0 hx1 hm9
    have h_1 := ir_41_2 hI
    have h_2 := ir_41_2 hI2
    refine q_iload rfl rfl (v_bip rfl (by decide) ?_)
    by_cases h_3 : v6 ≥ 20
    · refine v_ic_ge_t (t := 120) rfl rfl ⟨by decide, h_3, (Int.le_trans hv6.2 (by decide))⟩ (q_aload_n rfl rfl (v_gi (z := 2) (v := c2 41 2) rfl rfl rfl (Nat.le_of_ble_eq_true rfl) rfl rfl rfl (q_iret rfl rfl ?_)))
      exact K c2 (c2 41 2) hI2 (fun a j hm => hF a j (fun q => q.elim (fun h => hm (Or.inl h)) (fun q => q.elim (fun h => hm (Or.inr (Or.inl h))) (fun h => hm (Or.inr (Or.inr h)))))) ⟨(Int.le_trans (by decide) h_2.1), h_2.2⟩
    · refine v_ic_ge_f (t := 120) rfl rfl ⟨(Int.le_trans (by decide) hv6.1), (Int.not_le.mp h_3), by decide⟩ (q_iload rfl rfl (q_iconst rfl ?_))
      by_cases h_4 : v6 ≥ 4
      · refine v_ic_ge_t (t := 40) rfl rfl ⟨by decide, h_4, (Int.le_trans hv6.2 (by decide))⟩ (q_iload rfl rfl (v_bip rfl (by decide) ?_))
        by_cases h_5 : v6 ≥ 8
        · refine v_ic_ge_t (t := 51) rfl rfl ⟨by decide, h_5, (Int.le_trans hv6.2 (by decide))⟩ (q_iload rfl rfl (v_bip rfl (by decide) ?_))
          by_cases h_6 : v6 ≥ 12
          · refine v_ic_ge_t (t := 62) rfl rfl ⟨by decide, h_6, (Int.le_trans hv6.2 (by decide))⟩ (q_iload rfl rfl (v_bip rfl (by decide) ?_))
            by_cases h_7 : v6 ≥ 16
            · refine v_ic_ge_t (t := 74) rfl rfl ⟨by decide, h_7, (Int.le_trans hv6.2 (by decide))⟩ (q_iload rfl rfl (q_istore rfl (Nat.le_of_ble_eq_true rfl) (q_aload_n rfl rfl (v_gr (t := 43) rfl rfl rfl (Nat.le_of_ble_eq_true rfl) rfl (q_aload_n rfl rfl (v_gi (z := 2) (v := c2 41 2) rfl rfl rfl (Nat.le_of_ble_eq_true rfl) rfl rfl rfl (q_iload rfl rfl ?_)))))))
              refine v_bip rfl (by decide) (v_bip rfl (by decide) (q_iload rfl rfl (q_iconst rfl (v_irem (v := (v6 % 4)) rfl (by omega) rfl (v_imul (v := 8 * (v6 % 4)) rfl rfl (v_isub (v := 24 - 8 * (v6 % 4)) rfl (by first | (clear ha1 ha2 ha3 ha4 ha5 hv6 hx0 hx1 h_1 h_2 h_3 h_4 h_5 h_6 h_7; omega) | omega) (v_ishrx rfl (fun y_8 hy_8 => ?_))))))))
              refine v_sip rfl (by decide) (v_and8 (v := (y_8 % 256)) rfl rfl (v_is rfl rfl (by decide) (by decide) ⟨h_2.1, by first | (clear ha1 ha2 ha3 ha4 ha5 hv6 h_1 h_2 h_4 h_5 h_6 h_7; omega) | omega⟩ (q_aload_n rfl rfl (q_dup rfl rfl (v_gi (z := 2) (v := c2 41 2) rfl rfl rfl (Nat.le_of_ble_eq_true rfl) rfl rfl (up_c (nn rfl)) (q_iconst rfl (v_iadd (v := c2 41 2 + 1) rfl rfl ?_)))))))
              refine v_pi (z := 2) rfl rfl rfl (Nat.le_of_ble_eq_true rfl) rfl rfl rfl (by decide) (v_iinc (v := v6 + 1) rfl rfl (Nat.le_of_ble_eq_true rfl) rfl (q_goto (t := 23) rfl rfl ?_))
              have hI_9 := iw_43 (j := c2 41 2) (v := (y_8 % 256)) hI2 ⟨by first | (clear ha1 ha2 ha3 ha4 ha5 hv6 hx0 hx1 h_1 h_2 h_3 h_4 h_5 h_6 h_7; omega) | omega, by first | (clear ha1 ha2 ha3 ha4 ha5 hv6 hx0 hx1 h_1 h_2 h_3 h_4 h_5 h_6 h_7; omega) | omega⟩
              have hI_10 := iw_41_2 (v := c2 41 2 + 1) hI_9 ⟨by first | exact rgp_l h_2.1 (by decide) | omega, by first | (clear ha1 ha2 ha3 ha4 ha5 hv6 h_1 h_2 h_4 h_5 h_6 h_7; omega) | omega⟩
              refine Wp_ls [(0, .ref 41), (1, vi a1), (2, vi a2), (3, vi a3), (4, vi a4), (5, vi a5), (6, vi (v6 + 1))] (lsub_cons rfl (lsub_cons rfl (lsub_cons rfl (lsub_cons rfl (lsub_cons rfl (lsub_cons rfl (lsub_cons rfl lsub_nil))))))) ?_
              have h_11 : (up (up c2 43 (c2 41 2) (y_8 % 256)) 41 2 (c2 41 2 + 1)) 41 2 = c2 41 2 + 1 := (up_e rfl)
              exact ih (up (up c2 43 (c2 41 2) (y_8 % 256)) 41 2 (c2 41 2 + 1)) (v6 + 1) hI_10 (fun a j hm => (up_b (Decidable.or_iff_not_imp_left.mpr (fun h1 h2 => hm (Or.inr (Or.inl ⟨Decidable.not_not.mp h1, h2⟩))))).trans ((up_b (Decidable.or_iff_not_imp_left.mpr (fun h1 h2 => hm (Or.inr (Or.inr (Decidable.not_not.mp h1)))))).trans (hF a j (fun q => q.elim (fun h => hm (Or.inl h)) (fun q => q.elim (fun h => hm (Or.inr (Or.inl h))) (fun h => hm (Or.inr (Or.inr h)))))))) ⟨by first | exact rgp_l hv6.1 (by decide) | omega, by first | exact q_7164d7a2b h_3 | (clear ha1 ha2 ha3 ha4 ha5 hv6 hx0 hx1 h_1 h_2 h_4 h_5 h_6 h_7; omega) | omega⟩ (by first | (clear ha1 ha2 ha3 ha4 ha5 hv6 hx1 h_1 h_2 h_3 h_4 h_5 h_6 h_7; omega) | omega) (by first | (clear ha1 ha2 ha3 ha4 ha5 hv6 hx0 h_1 h_2 h_3 h_4 h_5 h_6 h_7; omega) | omega) (by omega)
            · refine v_ic_ge_f (t := 74) rfl rfl ⟨(Int.le_trans (by decide) hv6.1), (Int.not_le.mp h_7), by decide⟩ (q_iload rfl rfl (q_goto (t := 76) rfl rfl (q_istore rfl (Nat.le_of_ble_eq_true rfl) (q_aload_n rfl rfl (v_gr (t := 43) rfl rfl rfl (Nat.le_of_ble_eq_true rfl) rfl (q_aload_n rfl rfl (v_gi (z := 2) (v := c2 41 2) rfl rfl rfl (Nat.le_of_ble_eq_true rfl) rfl rfl rfl ?_)))))))
              refine q_iload rfl rfl (v_bip rfl (by decide) (v_bip rfl (by decide) (q_iload rfl rfl (q_iconst rfl (v_irem (v := (v6 % 4)) rfl (by omega) rfl (v_imul (v := 8 * (v6 % 4)) rfl rfl (v_isub (v := 24 - 8 * (v6 % 4)) rfl (by first | (clear ha1 ha2 ha3 ha4 ha5 hv6 hx0 hx1 h_1 h_2 h_3 h_4 h_5 h_6 h_7; omega) | omega) ?_)))))))
              refine v_ishrx rfl (fun y_12 hy_12 => (v_sip rfl (by decide) (v_and8 (v := (y_12 % 256)) rfl rfl (v_is rfl rfl (by decide) (by decide) ⟨h_2.1, by first | (clear ha1 ha2 ha3 ha4 ha5 hv6 h_1 h_2 h_3 h_4 h_5 h_6; omega) | omega⟩ (q_aload_n rfl rfl (q_dup rfl rfl (v_gi (z := 2) (v := c2 41 2) rfl rfl rfl (Nat.le_of_ble_eq_true rfl) rfl rfl (up_c (nn rfl)) (q_iconst rfl ?_))))))))
              refine v_iadd (v := c2 41 2 + 1) rfl rfl (v_pi (z := 2) rfl rfl rfl (Nat.le_of_ble_eq_true rfl) rfl rfl rfl (by decide) (v_iinc (v := v6 + 1) rfl rfl (Nat.le_of_ble_eq_true rfl) rfl (q_goto (t := 23) rfl rfl ?_)))
              have hI_13 := iw_43 (j := c2 41 2) (v := (y_12 % 256)) hI2 ⟨by first | (clear ha1 ha2 ha3 ha4 ha5 hv6 hx0 hx1 h_1 h_2 h_3 h_4 h_5 h_6 h_7; omega) | omega, by first | (clear ha1 ha2 ha3 ha4 ha5 hv6 hx0 hx1 h_1 h_2 h_3 h_4 h_5 h_6 h_7; omega) | omega⟩
              have hI_14 := iw_41_2 (v := c2 41 2 + 1) hI_13 ⟨by first | exact rgp_l h_2.1 (by decide) | omega, by first | (clear ha1 ha2 ha3 ha4 ha5 hv6 h_1 h_2 h_3 h_4 h_5 h_6; omega) | omega⟩
              refine Wp_ls [(0, .ref 41), (1, vi a1), (2, vi a2), (3, vi a3), (4, vi a4), (5, vi a5), (6, vi (v6 + 1))] (lsub_cons rfl (lsub_cons rfl (lsub_cons rfl (lsub_cons rfl (lsub_cons rfl (lsub_cons rfl (lsub_cons rfl lsub_nil))))))) ?_
              have h_15 : (up (up c2 43 (c2 41 2) (y_12 % 256)) 41 2 (c2 41 2 + 1)) 41 2 = c2 41 2 + 1 := (up_e rfl)
              exact ih (up (up c2 43 (c2 41 2) (y_12 % 256)) 41 2 (c2 41 2 + 1)) (v6 + 1) hI_14 (fun a j hm => (up_b (Decidable.or_iff_not_imp_left.mpr (fun h1 h2 => hm (Or.inr (Or.inl ⟨Decidable.not_not.mp h1, h2⟩))))).trans ((up_b (Decidable.or_iff_not_imp_left.mpr (fun h1 h2 => hm (Or.inr (Or.inr (Decidable.not_not.mp h1)))))).trans (hF a j (fun q => q.elim (fun h => hm (Or.inl h)) (fun q => q.elim (fun h => hm (Or.inr (Or.inl h))) (fun h => hm (Or.inr (Or.inr h)))))))) ⟨by first | exact rgp_l hv6.1 (by decide) | omega, by first | exact q_295dd9ba7 h_7 | (clear ha1 ha2 ha3 ha4 ha5 hv6 hx0 hx1 h_1 h_2 h_3 h_4 h_5 h_6; omega) | omega⟩ (by first | (clear ha1 ha2 ha3 ha4 ha5 hv6 hx1 h_1 h_2 h_3 h_4 h_5 h_6 h_7; omega) | omega) (by first | (clear ha1 ha2 ha3 ha4 ha5 hv6 hx0 h_1 h_2 h_3 h_4 h_5 h_6 h_7; omega) | omega) (by omega)
          · refine v_ic_ge_f (t := 62) rfl rfl ⟨(Int.le_trans (by decide) hv6.1), (Int.not_le.mp h_6), by decide⟩ (q_iload_n rfl rfl (q_goto (t := 76) rfl rfl (q_istore rfl (Nat.le_of_ble_eq_true rfl) (q_aload_n rfl rfl (v_gr (t := 43) rfl rfl rfl (Nat.le_of_ble_eq_true rfl) rfl (q_aload_n rfl rfl (v_gi (z := 2) (v := c2 41 2) rfl rfl rfl (Nat.le_of_ble_eq_true rfl) rfl rfl rfl ?_)))))))
            refine q_iload rfl rfl (v_bip rfl (by decide) (v_bip rfl (by decide) (q_iload rfl rfl (q_iconst rfl (v_irem (v := (v6 % 4)) rfl (by omega) rfl (v_imul (v := 8 * (v6 % 4)) rfl rfl (v_isub (v := 24 - 8 * (v6 % 4)) rfl (by first | (clear ha1 ha2 ha3 ha4 ha5 hv6 hx0 hx1 h_1 h_2 h_3 h_4 h_5 h_6; omega) | omega) ?_)))))))
            refine v_ishrx rfl (fun y_16 hy_16 => (v_sip rfl (by decide) (v_and8 (v := (y_16 % 256)) rfl rfl (v_is rfl rfl (by decide) (by decide) ⟨h_2.1, by first | (clear ha1 ha2 ha3 ha4 ha5 hv6 h_1 h_2 h_3 h_4 h_5; omega) | omega⟩ (q_aload_n rfl rfl (q_dup rfl rfl (v_gi (z := 2) (v := c2 41 2) rfl rfl rfl (Nat.le_of_ble_eq_true rfl) rfl rfl (up_c (nn rfl)) (q_iconst rfl ?_))))))))
            refine v_iadd (v := c2 41 2 + 1) rfl rfl (v_pi (z := 2) rfl rfl rfl (Nat.le_of_ble_eq_true rfl) rfl rfl rfl (by decide) (v_iinc (v := v6 + 1) rfl rfl (Nat.le_of_ble_eq_true rfl) rfl (q_goto (t := 23) rfl rfl ?_)))
            have hI_17 := iw_43 (j := c2 41 2) (v := (y_16 % 256)) hI2 ⟨by first | (clear ha1 ha2 ha3 ha4 ha5 hv6 hx0 hx1 h_1 h_2 h_3 h_4 h_5 h_6; omega) | omega, by first | (clear ha1 ha2 ha3 ha4 ha5 hv6 hx0 hx1 h_1 h_2 h_3 h_4 h_5 h_6; omega) | omega⟩
            have hI_18 := iw_41_2 (v := c2 41 2 + 1) hI_17 ⟨by first | exact rgp_l h_2.1 (by decide) | omega, by first | (clear ha1 ha2 ha3 ha4 ha5 hv6 h_1 h_2 h_3 h_4 h_5; omega) | omega⟩
            refine Wp_ls [(0, .ref 41), (1, vi a1), (2, vi a2), (3, vi a3), (4, vi a4), (5, vi a5), (6, vi (v6 + 1))] (lsub_cons rfl (lsub_cons rfl (lsub_cons rfl (lsub_cons rfl (lsub_cons rfl (lsub_cons rfl (lsub_cons rfl lsub_nil))))))) ?_
            have h_19 : (up (up c2 43 (c2 41 2) (y_16 % 256)) 41 2 (c2 41 2 + 1)) 41 2 = c2 41 2 + 1 := (up_e rfl)
            exact ih (up (up c2 43 (c2 41 2) (y_16 % 256)) 41 2 (c2 41 2 + 1)) (v6 + 1) hI_18 (fun a j hm => (up_b (Decidable.or_iff_not_imp_left.mpr (fun h1 h2 => hm (Or.inr (Or.inl ⟨Decidable.not_not.mp h1, h2⟩))))).trans ((up_b (Decidable.or_iff_not_imp_left.mpr (fun h1 h2 => hm (Or.inr (Or.inr (Decidable.not_not.mp h1)))))).trans (hF a j (fun q => q.elim (fun h => hm (Or.inl h)) (fun q => q.elim (fun h => hm (Or.inr (Or.inl h))) (fun h => hm (Or.inr (Or.inr h)))))))) ⟨by first | exact rgp_l hv6.1 (by decide) | omega, by first | exact q_265ba0740 h_6 | (clear ha1 ha2 ha3 ha4 ha5 hv6 hx0 hx1 h_1 h_2 h_3 h_4 h_5; omega) | omega⟩ (by first | (clear ha1 ha2 ha3 ha4 ha5 hv6 hx1 h_1 h_2 h_3 h_4 h_5 h_6; omega) | omega) (by first | (clear ha1 ha2 ha3 ha4 ha5 hv6 hx0 h_1 h_2 h_3 h_4 h_5 h_6; omega) | omega) (by omega)
        · refine v_ic_ge_f (t := 51) rfl rfl ⟨(Int.le_trans (by decide) hv6.1), (Int.not_le.mp h_5), by decide⟩ (q_iload_n rfl rfl (q_goto (t := 76) rfl rfl (q_istore rfl (Nat.le_of_ble_eq_true rfl) (q_aload_n rfl rfl (v_gr (t := 43) rfl rfl rfl (Nat.le_of_ble_eq_true rfl) rfl (q_aload_n rfl rfl (v_gi (z := 2) (v := c2 41 2) rfl rfl rfl (Nat.le_of_ble_eq_true rfl) rfl rfl rfl ?_)))))))
          refine q_iload rfl rfl (v_bip rfl (by decide) (v_bip rfl (by decide) (q_iload rfl rfl (q_iconst rfl (v_irem (v := (v6 % 4)) rfl (by omega) rfl (v_imul (v := 8 * (v6 % 4)) rfl rfl (v_isub (v := 24 - 8 * (v6 % 4)) rfl (by omega) ?_)))))))
          refine v_ishrx rfl (fun y_20 hy_20 => (v_sip rfl (by decide) (v_and8 (v := (y_20 % 256)) rfl rfl (v_is rfl rfl (by decide) (by decide) ⟨h_2.1, by omega⟩ (q_aload_n rfl rfl (q_dup rfl rfl (v_gi (z := 2) (v := c2 41 2) rfl rfl rfl (Nat.le_of_ble_eq_true rfl) rfl rfl (up_c (nn rfl)) (q_iconst rfl ?_))))))))
          refine v_iadd (v := c2 41 2 + 1) rfl rfl (v_pi (z := 2) rfl rfl rfl (Nat.le_of_ble_eq_true rfl) rfl rfl rfl (by decide) (v_iinc (v := v6 + 1) rfl rfl (Nat.le_of_ble_eq_true rfl) rfl (q_goto (t := 23) rfl rfl ?_)))
          have hI_21 := iw_43 (j := c2 41 2) (v := (y_20 % 256)) hI2 ⟨by omega, by omega⟩
          have hI_22 := iw_41_2 (v := c2 41 2 + 1) hI_21 ⟨by first | exact rgp_l h_2.1 (by decide) | omega, by omega⟩
          refine Wp_ls [(0, .ref 41), (1, vi a1), (2, vi a2), (3, vi a3), (4, vi a4), (5, vi a5), (6, vi (v6 + 1))] (lsub_cons rfl (lsub_cons rfl (lsub_cons rfl (lsub_cons rfl (lsub_cons rfl (lsub_cons rfl (lsub_cons rfl lsub_nil))))))) ?_
          have h_23 : (up (up c2 43 (c2 41 2) (y_20 % 256)) 41 2 (c2 41 2 + 1)) 41 2 = c2 41 2 + 1 := (up_e rfl)
          exact ih (up (up c2 43 (c2 41 2) (y_20 % 256)) 41 2 (c2 41 2 + 1)) (v6 + 1) hI_22 (fun a j hm => (up_b (Decidable.or_iff_not_imp_left.mpr (fun h1 h2 => hm (Or.inr (Or.inl ⟨Decidable.not_not.mp h1, h2⟩))))).trans ((up_b (Decidable.or_iff_not_imp_left.mpr (fun h1 h2 => hm (Or.inr (Or.inr (Decidable.not_not.mp h1)))))).trans (hF a j (fun q => q.elim (fun h => hm (Or.inl h)) (fun q => q.elim (fun h => hm (Or.inr (Or.inl h))) (fun h => hm (Or.inr (Or.inr h)))))))) ⟨by first | exact rgp_l hv6.1 (by decide) | omega, by first | exact q_ea4103e0d h_5 | omega⟩ (by omega) (by omega) (by omega)
      · refine v_ic_ge_f (t := 40) rfl rfl ⟨(Int.le_trans (by decide) hv6.1), (Int.not_le.mp h_4), by decide⟩ (q_iload_n rfl rfl (q_goto (t := 76) rfl rfl (q_istore rfl (Nat.le_of_ble_eq_true rfl) (q_aload_n rfl rfl (v_gr (t := 43) rfl rfl rfl (Nat.le_of_ble_eq_true rfl) rfl (q_aload_n rfl rfl (v_gi (z := 2) (v := c2 41 2) rfl rfl rfl (Nat.le_of_ble_eq_true rfl) rfl rfl rfl ?_)))))))
        refine q_iload rfl rfl (v_bip rfl (by decide) (v_bip rfl (by decide) (q_iload rfl rfl (q_iconst rfl (v_irem (v := (v6 % 4)) rfl (by omega) rfl (v_imul (v := 8 * (v6 % 4)) rfl rfl (v_isub (v := 24 - 8 * (v6 % 4)) rfl (by omega) ?_)))))))
        refine v_ishrx rfl (fun y_24 hy_24 => (v_sip rfl (by decide) (v_and8 (v := (y_24 % 256)) rfl rfl (v_is rfl rfl (by decide) (by decide) ⟨h_2.1, by omega⟩ (q_aload_n rfl rfl (q_dup rfl rfl (v_gi (z := 2) (v := c2 41 2) rfl rfl rfl (Nat.le_of_ble_eq_true rfl) rfl rfl (up_c (nn rfl)) (q_iconst rfl ?_))))))))
        refine v_iadd (v := c2 41 2 + 1) rfl rfl (v_pi (z := 2) rfl rfl rfl (Nat.le_of_ble_eq_true rfl) rfl rfl rfl (by decide) (v_iinc (v := v6 + 1) rfl rfl (Nat.le_of_ble_eq_true rfl) rfl (q_goto (t := 23) rfl rfl ?_)))
        have hI_25 := iw_43 (j := c2 41 2) (v := (y_24 % 256)) hI2 ⟨by omega, by omega⟩
        have hI_26 := iw_41_2 (v := c2 41 2 + 1) hI_25 ⟨by first | exact rgp_l h_2.1 (by decide) | omega, by omega⟩
        refine Wp_ls [(0, .ref 41), (1, vi a1), (2, vi a2), (3, vi a3), (4, vi a4), (5, vi a5), (6, vi (v6 + 1))] (lsub_cons rfl (lsub_cons rfl (lsub_cons rfl (lsub_cons rfl (lsub_cons rfl (lsub_cons rfl (lsub_cons rfl lsub_nil))))))) ?_
        have h_27 : (up (up c2 43 (c2 41 2) (y_24 % 256)) 41 2 (c2 41 2 + 1)) 41 2 = c2 41 2 + 1 := (up_e rfl)
        exact ih (up (up c2 43 (c2 41 2) (y_24 % 256)) 41 2 (c2 41 2 + 1)) (v6 + 1) hI_26 (fun a j hm => (up_b (Decidable.or_iff_not_imp_left.mpr (fun h1 h2 => hm (Or.inr (Or.inl ⟨Decidable.not_not.mp h1, h2⟩))))).trans ((up_b (Decidable.or_iff_not_imp_left.mpr (fun h1 h2 => hm (Or.inr (Or.inr (Decidable.not_not.mp h1)))))).trans (hF a j (fun q => q.elim (fun h => hm (Or.inl h)) (fun q => q.elim (fun h => hm (Or.inr (Or.inl h))) (fun h => hm (Or.inr (Or.inr h)))))))) ⟨by first | exact rgp_l hv6.1 (by decide) | omega, by first | exact q_c3775e7c2 h_4 | omega⟩ (by omega) (by omega) (by omega)
set_option maxRecDepth 100000 in
set_option maxHeartbeats 4000000 in
theorem s_151 {sc : List Int32} {e : Int} {d u P Q : Nat} {c : ME} {a1 : Int} {a2 : Int} {a3 : Int} {a4 : Int} {a5 : Int} {Z : AR → Prop} (hI : Iv u e P Q c) (ha1 : (-2147483648) ≤ a1 ∧ a1 ≤ 2147483647) (ha2 : (-2147483648) ≤ a2 ∧ a2 ≤ 2147483647) (ha3 : (-2147483648) ≤ a3 ∧ a3 ≤ 2147483647) (ha4 : (-2147483648) ≤ a4 ∧ a4 ≤ 2147483647) (ha5 : (-2147483648) ≤ a5 ∧ a5 ≤ 2147483647) (K : ∀ (c2 : ME) (y : Int), Iv u e P Q c2 → (∀ (a : Nat) (j : Int), ¬ ((a = 41 ∧ j = 0) ∨ (a = 41 ∧ j = 2) ∨ a = 43) → c2 a j = c a j) → (-1) ≤ y ∧ y ≤ 600 → Z (.inl (some (vi y)), Wd P Q P P c2, 0, 0)) : Wp sc (d + 7) 151 0 [(0, .ref 41), (1, vi a1), (2, vi a2), (3, vi a3), (4, vi a4), (5, vi a5)] [] (Wd P Q P P c) 0 0 Z := by
  have hP := iv_P hI
  have hQ := iv_Q hI
  refine q_aload_n rfl rfl (q_iconst rfl (v_pi (z := 0) rfl rfl rfl (Nat.le_of_ble_eq_true rfl) rfl rfl rfl (by decide) (q_aload_n rfl rfl ?_)))
  have h_28 := ir_41_2 hI
  refine v_gi (z := 2) (v := c 41 2) rfl rfl rfl (Nat.le_of_ble_eq_true rfl) rfl rfl (up_n (by decide)) (v_bip rfl (by decide) (v_iadd (v := c 41 2 + 20) rfl rfl (v_sip rfl (by decide) ?_)))
  by_cases h_29 : c 41 2 + 20 ≤ 600
  · refine v_ic_le_t (t := 20) rfl rfl ⟨by first | exact rgp_l h_28.1 (by decide) | omega, h_29, by decide⟩ (q_iconst rfl (q_istore rfl (Nat.le_of_ble_eq_true rfl) ?_))
    have hI_30 := iw_41_0 (v := 0) hI ⟨by decide, by decide⟩
    refine Wp_ls [(0, .ref 41), (1, vi a1), (2, vi a2), (3, vi a3), (4, vi a4), (5, vi a5), (6, vi 0)] (lsub_cons rfl (lsub_cons rfl (lsub_cons rfl (lsub_cons rfl (lsub_cons rfl (lsub_cons rfl (lsub_cons rfl lsub_nil))))))) ?_
    have h_31 : (up c 41 0 0) 41 2 = c 41 2 := (up_n (by decide))
    exact (s_151_l (sc := sc) (d := d) hI ha1 ha2 ha3 ha4 ha5 K 44) (up c 41 0 0) 0 hI_30 (fun a j hm => up_b (Decidable.or_iff_not_imp_left.mpr (fun h1 h2 => hm (Or.inl ⟨Decidable.not_not.mp h1, h2⟩)))) ⟨by decide, by decide⟩ (by first | exact q_94b7ed2f4 | omega) (by first | exact q_54b025b5a h_29 | omega) (by omega)
  · refine v_ic_le_f (t := 20) rfl rfl ⟨by decide, (Int.not_le.mp h_29), by first | exact rgp_h h_28.2 (by decide) | omega⟩ (q_iconst rfl (q_iret rfl rfl ?_))
    have hI_32 := iw_41_0 (v := 0) hI ⟨by decide, by decide⟩
    exact K (up c 41 0 0) (-1) hI_32 (fun a j hm => up_b (Decidable.or_iff_not_imp_left.mpr (fun h1 h2 => hm (Or.inl ⟨Decidable.not_not.mp h1, h2⟩)))) ⟨by decide, by decide⟩

set_option maxRecDepth 100000 in
set_option maxHeartbeats 4000000 in
theorem s_153 {sc : List Int32} {e : Int} {d u P Q : Nat} {c : ME} {a1 : Int} {a2 : Int} {Z : AR → Prop} (hI : Iv u e P Q c) (ha1 : 1 ≤ a1 ∧ a1 ≤ 3) (ha2 : 0 ≤ a2 ∧ a2 ≤ 605) (K : ∀ (c2 : ME), Iv u e P Q c2 → (∀ (a : Nat) (j : Int), ¬ ((a = 41 ∧ j = 5) ∨ (a = 41 ∧ j = 6)) → c2 a j = c a j) → ((c2 41 5 ≠ (-1))) → Z (.inl (none), Wd P Q P P c2, 0, 0)) : Wp sc (d + 7) 153 0 [(0, .ref 41), (1, vi a1), (2, vi a2)] [] (Wd P Q P P c) 0 0 Z := by
  have hP := iv_P hI
  have hQ := iv_Q hI
  refine q_aload_n rfl rfl ?_
  have h_1 := ir_41_5 hI
  refine v_gi (z := 5) (v := c 41 5) rfl rfl rfl (Nat.le_of_ble_eq_true rfl) rfl rfl rfl (q_iconst rfl ?_)
  by_cases h_2 : c 41 5 = (-1)
  · refine v_ic_eq_t (t := 9) rfl rfl h_2 (q_aload_n rfl rfl (q_iload_n rfl rfl (v_pi (z := 5) rfl rfl rfl (Nat.le_of_ble_eq_true rfl) rfl rfl rfl (by decide) (q_aload_n rfl rfl (q_iload_n rfl rfl (v_pi (z := 6) rfl rfl rfl (Nat.le_of_ble_eq_true rfl) rfl rfl rfl (by decide) (q_vret rfl rfl ?_)))))))
    have hI_3 := iw_41_5 (v := a2) hI ⟨(Int.le_trans (by decide) ha2.1), ha2.2⟩
    have hI_4 := iw_41_6 (v := a1) hI_3 ⟨(Int.le_trans (by decide) ha1.1), ha1.2⟩
    have h_5 : (up (up c 41 5 a2) 41 6 a1) 41 5 = a2 := ((up_n (by decide)).trans (up_e rfl))
    exact K (up (up c 41 5 a2) 41 6 a1) hI_4 (fun a j hm => (up_b (Decidable.or_iff_not_imp_left.mpr (fun h1 h2 => hm (Or.inr ⟨Decidable.not_not.mp h1, h2⟩)))).trans (up_b (Decidable.or_iff_not_imp_left.mpr (fun h1 h2 => hm (Or.inl ⟨Decidable.not_not.mp h1, h2⟩))))) (by first | exact q_24fba09a9 ha2 | omega)
  · refine v_ic_eq_f (t := 9) rfl rfl ⟨h_2, ⟨(Int.le_trans (by decide) h_1.1), (Int.le_trans h_1.2 (by decide))⟩, by decide, by decide⟩ (q_vret rfl rfl ?_)
    exact K c hI (fun a j hm => rfl) (by first | exact q_c967a1259 h_1 h_2 | omega)

set_option maxRecDepth 100000 in
set_option maxHeartbeats 4000000 in
theorem s_154_l {sc : List Int32} {e : Int} {d u P Q : Nat} {c : ME} {Z : AR → Prop} (hI : Iv u e P Q c)  (K : ∀ (c2 : ME) (y : Int), Iv u e P Q c2 → (∀ (a : Nat) (j : Int), ¬ ((a = 41 ∧ j = 4)) → c2 a j = c a j) → (-2147483648) ≤ y ∧ y ≤ 2147483647 → ((c2 41 4 ≥ c 41 4)) → ((y = 0) ∨ (c2 41 4 < c 41 3)) → ((c2 41 4 ≤ c 41 3) ∨ (c2 41 4 = c 41 4)) → ((y = 0) ∨ (y = c 43 (c2 41 4))) → Z (.inl (some (vi y)), Wd P Q P P c2, 0, 0)) : ∀ n : Nat, (∀ (c2 : ME), Iv u e P Q c2 → (∀ (a : Nat) (j : Int), ¬ ((a = 41 ∧ j = 4)) → c2 a j = c a j) → ((c2 41 4 ≥ c 41 4)) → ((c2 41 4 ≤ c 41 3) ∨ (c2 41 4 = c 41 4)) → 1211 - 2 * c2 41 4 < (n : Int) → Wp sc (d + 7) 154 0 [(0, .ref 41)] [] (Wd P Q P P c2) 0 0 Z)
  | 0 => by intro c2 hI2 hF hx0 hx1 hm9; have hP := iv_P hI; have hQ := iv_Q hI; have h_14 := ir_41_4 hI2; exfalso; omega
  | n + 1 => by
    have hP := iv_P hI
    have hQ := iv_Q hI
    have ih := s_154_l (sc := sc) (d := d) hI K n
    intro c2 hI2 hF hx0 hx1 hm9
    have h_1 := ir_41_4 hI
    have h_2 := ir_41_4 hI2
    have h_3 := ir_41_3 hI
    refine q_aload_n rfl rfl (v_gi (z := 4) (v := c2 41 4) rfl rfl rfl (Nat.le_of_ble_eq_true rfl) rfl rfl rfl (q_aload_n rfl rfl ?_))
    have kn_4 : Hid (c2 41 3 = c 41 3) := hF 41 3 (fun h => absurd h.2 (ni rfl))
    refine v_gi (z := 3) (v := c 41 3) rfl rfl rfl (Nat.le_of_ble_eq_true rfl) rfl rfl (hid kn_4) ?_
    by_cases h_5 : c2 41 4 ≥ c 41 3
    · refine v_ic_ge_t (t := 38) rfl rfl ⟨(Int.le_trans (by decide) h_3.1), h_5, (Int.le_trans h_2.2 (by decide))⟩ (q_aload_n rfl rfl (v_gi (z := 4) (v := c2 41 4) rfl rfl rfl (Nat.le_of_ble_eq_true rfl) rfl rfl rfl (q_aload_n rfl rfl (v_gi (z := 3) (v := c 41 3) rfl rfl rfl (Nat.le_of_ble_eq_true rfl) rfl rfl (hid kn_4) (v_ic_ge_t (t := 61) rfl rfl ⟨(Int.le_trans (by decide) h_3.1), by first | exact q_a29fbb6d7 h_5 | (clear hx0 h_1 h_2 h_3 hx1; omega) | omega, (Int.le_trans h_2.2 (by decide))⟩ (q_iconst rfl (q_iret rfl rfl ?_)))))))
      have h_6 := ir_43 hI (c2 41 4)
      have h_7 : c 43 ((c2 41 4)) = c 43 (c2 41 4) := congrArg (c 43) (by first | exact q_ef0f4cfe4 | assumption | exact Int.le_antisymm (by omega) (by omega))
      exact K c2 0 hI2 (fun a j hm => hF a j (fun h => hm h)) ⟨by decide, by decide⟩ (by first | (clear h_1 h_2 h_3 h_5 h_6 hx1; omega) | omega) (Or.inl (by first | decide | (clear hx0 h_1 h_2 h_3 h_5 h_6 hx1; omega) | omega)) (by omega) (Or.inl (by first | decide | (clear hx0 h_1 h_2 h_3 h_5 h_6 hx1; omega) | omega))
    · refine v_ic_ge_f (t := 38) rfl rfl ⟨(Int.le_trans (by decide) h_2.1), (Int.not_le.mp h_5), (Int.le_trans h_3.2 (by decide))⟩ (q_aload_n rfl rfl (v_gr (t := 43) rfl rfl rfl (Nat.le_of_ble_eq_true rfl) rfl (q_aload_n rfl rfl (v_gi (z := 4) (v := c2 41 4) rfl rfl rfl (Nat.le_of_ble_eq_true rfl) rfl rfl rfl ?_))))
      have h_8 := ir_43 hI (c2 41 4)
      have kn_9 : Hid (c2 43 (c2 41 4) = c 43 (c2 41 4)) := hF 43 (c2 41 4) (fun h => absurd h.1 (nn rfl))
      refine v_ia (v := c 43 (c2 41 4)) rfl rfl (by decide) (by decide) ⟨h_2.1, by first | exact q_364416c3d h_3 h_5 | (clear hx0 h_1 h_2 h_8 hx1; omega) | omega⟩ (hid kn_9) (v_bip rfl (by decide) ?_)
      by_cases h_10 : c 43 (c2 41 4) ≠ 32
      · refine v_ic_ne_t (t := 38) rfl rfl ⟨h_10, ⟨by first | exact q_cc1935a2a h_8 | (clear hx0 h_1 h_2 h_3 h_5 hx1; omega) | omega, by first | exact q_4e52e4576 h_8 | (clear hx0 h_1 h_2 h_3 h_5 hx1; omega) | omega⟩, by decide, by decide⟩ (q_aload_n rfl rfl (v_gi (z := 4) (v := c2 41 4) rfl rfl rfl (Nat.le_of_ble_eq_true rfl) rfl rfl rfl (q_aload_n rfl rfl (v_gi (z := 3) (v := c 41 3) rfl rfl rfl (Nat.le_of_ble_eq_true rfl) rfl rfl (hid kn_4) (v_ic_ge_f (t := 61) rfl rfl ⟨(Int.le_trans (by decide) h_2.1), by first | exact q_d17d18138 h_5 | (clear hx0 h_1 h_2 h_3 h_8 hx1 h_10; omega) | omega, (Int.le_trans h_3.2 (by decide))⟩ (q_aload_n rfl rfl (v_gr (t := 43) rfl rfl rfl (Nat.le_of_ble_eq_true rfl) rfl ?_)))))))
        refine q_aload_n rfl rfl (v_gi (z := 4) (v := c2 41 4) rfl rfl rfl (Nat.le_of_ble_eq_true rfl) rfl rfl rfl (v_ia (v := c 43 (c2 41 4)) rfl rfl (by decide) (by decide) ⟨h_2.1, by first | exact q_364416c3d h_3 h_5 | (clear hx0 h_1 h_2 h_8 hx1 h_10; omega) | omega⟩ (hid kn_9) (q_goto (t := 62) rfl rfl (q_iret rfl rfl ?_))))
        have h_11 : c 43 ((c2 41 4)) = c 43 (c2 41 4) := congrArg (c 43) (by first | exact q_ef0f4cfe4 | assumption | exact Int.le_antisymm (by omega) (by omega))
        exact K c2 (c 43 (c2 41 4)) hI2 (fun a j hm => hF a j (fun h => hm h)) ⟨by first | exact q_cc1935a2a h_8 | (clear hx0 h_1 h_2 h_3 h_5 hx1 h_10; omega) | omega, by first | exact q_4e52e4576 h_8 | (clear hx0 h_1 h_2 h_3 h_5 hx1 h_10; omega) | omega⟩ (by first | (clear h_1 h_2 h_3 h_5 h_8 hx1 h_10; omega) | omega) (Or.inr (by first | exact q_d17d18138 h_5 | (clear hx0 h_1 h_2 h_3 h_8 hx1 h_10; omega) | omega)) (Or.inl (by first | exact q_5fcb01701 h_5 | (clear hx0 h_1 h_2 h_3 h_8 hx1 h_10; omega) | omega)) (Or.inr (by first | exact q_94b7ed2f4 | (clear hx0 h_1 h_2 h_3 h_5 h_8 hx1 h_10; omega) | omega))
      · refine v_ic_ne_f (t := 38) rfl rfl (Decidable.not_not.mp h_10) (q_aload_n rfl rfl (q_dup rfl rfl (v_gi (z := 4) (v := c2 41 4) rfl rfl rfl (Nat.le_of_ble_eq_true rfl) rfl rfl rfl (q_iconst rfl (v_iadd (v := c2 41 4 + 1) rfl rfl (v_pi (z := 4) rfl rfl rfl (Nat.le_of_ble_eq_true rfl) rfl rfl rfl (by decide) (q_goto (t := 0) rfl rfl ?_)))))))
        have hI_12 := iw_41_4 (v := c2 41 4 + 1) hI2 ⟨by first | exact rgp_l h_2.1 (by decide) | omega, by first | exact q_dadb204b8 h_3 h_5 | (clear hx0 h_1 h_2 h_8 h_10 hx1; omega) | omega⟩
        refine Wp_ls [(0, .ref 41)] (lsub_cons rfl lsub_nil) ?_
        have h_13 : (up c2 41 4 (c2 41 4 + 1)) 41 4 = c2 41 4 + 1 := (up_e rfl)
        exact ih (up c2 41 4 (c2 41 4 + 1)) hI_12 (fun a j hm => (up_b (Decidable.or_iff_not_imp_left.mpr (fun h1 h2 => hm ⟨Decidable.not_not.mp h1, h2⟩))).trans (hF a j (fun h => hm h))) (by first | (clear h_1 h_2 h_3 h_5 h_8 h_10 hx1; omega) | omega) (Or.inl (by first | exact q_d6c070bf6 h_5 | (clear hx0 h_1 h_2 h_3 h_8 h_10 hx1; omega) | omega)) (by omega)
set_option maxRecDepth 100000 in
set_option maxHeartbeats 4000000 in
theorem s_154 {sc : List Int32} {e : Int} {d u P Q : Nat} {c : ME} {Z : AR → Prop} (hI : Iv u e P Q c)  (K : ∀ (c2 : ME) (y : Int), Iv u e P Q c2 → (∀ (a : Nat) (j : Int), ¬ ((a = 41 ∧ j = 4)) → c2 a j = c a j) → (-2147483648) ≤ y ∧ y ≤ 2147483647 → ((c2 41 4 ≥ c 41 4)) → ((y = 0) ∨ (c2 41 4 < c 41 3)) → ((c2 41 4 ≤ c 41 3) ∨ (c2 41 4 = c 41 4)) → ((y = 0) ∨ (y = c 43 (c2 41 4))) → Z (.inl (some (vi y)), Wd P Q P P c2, 0, 0)) : Wp sc (d + 7) 154 0 [(0, .ref 41)] [] (Wd P Q P P c) 0 0 Z := by
  have hP := iv_P hI
  have hQ := iv_Q hI
  refine Wp_ls [(0, .ref 41)] (lsub_cons rfl lsub_nil) ?_
  have h_15 := ir_41_4 hI
  exact (s_154_l (sc := sc) (d := d) hI K 1214) c hI (fun a j hm => rfl) (by first | exact q_e074ea49a | omega) (Or.inr (by first | exact q_94b7ed2f4 | omega)) (by omega)

