/-! ===== contracts 1 ===== -/
theorem q_3b2b08511 {x0 : Int} (f0 : 0 ≤ x0 ∧ x0 ≤ 600) : (-2147483648) ≤ x0 := by omega
theorem q_94b7ed2f4 {x0 : Int}  : x0 = x0 := by omega
theorem q_3885e607f {x0 : Int} (f0 : 0 ≤ x0 ∧ x0 ≤ 600) : x0 ≤ 2147483647 := by omega
theorem q_364416c3d {x0 x1 : Int} (f0 : 0 ≤ x0 ∧ x0 ≤ 600) (f1 : ¬ (x1 ≥ x0)) : x1 < 600 := by omega
theorem q_cc1935a2a {x0 : Int} (f0 : (-2147483648) ≤ x0 ∧ x0 ≤ 2147483647) : (-2147483648) ≤ x0 := by omega
theorem q_4e52e4576 {x0 : Int} (f0 : (-2147483648) ≤ x0 ∧ x0 ≤ 2147483647) : x0 ≤ 2147483647 := by omega
theorem q_e9d2b66ad {x0 x1 : Int} (f0 : 0 ≤ x0 ∧ x0 ≤ 600) (f1 : ¬ (x1 ≥ x0)) : x1 + 1 ≤ 600 := by omega
theorem q_cc605f3b6 {x0 : Int} (f0 : ¬ (x0 ≥ 150)) : x0 < 150 := by omega
theorem q_e92c430a0 {x0 : Int} (f0 : ¬ (x0 ≥ 150)) : x0 + 1 ≤ 150 := by omega
theorem q_993cab007 {x0 : Int} (f0 : ¬ (x0 < 48)) : (-2147483648) ≤ x0 := by omega
theorem q_646bc4652 {x0 : Int} (f0 : 0 ≤ x0 ∧ x0 ≤ 3) (f1 : x0 ≠ 0) : ¬ x0 = 0 := by omega
theorem q_59cb102df {x0 : Int} (f0 : 1 ≤ x0 ∧ x0 ≤ 3) : ¬ x0 = 0 := by omega
theorem q_3bbf258e8 {x0 x1 : Int} (f0 : x0 ≤ x1) (f1 : (-1) ≤ x1 ∧ x1 ≤ 9999) : x0 ≤ 9999 := by omega
theorem q_514734711 {x0 x1 : Int} (f0 : x0 ≤ x1) : x0 ≤ x1 := by omega
theorem q_06511f6df {x0 x1 : Int} (f0 : 0 ≤ x0 ∧ x0 ≤ 600) (f1 : 0 ≤ x1 ∧ x1 ≤ 600) : 0 ≤ x0 + x1 := by omega
theorem q_4a9017cbe {x0 x1 x2 : Int} (f0 : ¬ (x0 ≥ x1)) (f1 : (x2 + x1 ≤ 600)) : x2 + x0 < 600 := by omega
theorem q_831bb82af {x0 : Int} (f0 : ¬ (x0 < 97)) : (-2147483648) ≤ x0 := by omega
theorem q_95fe11e65 {x0 x1 : Int} (f0 : 0 ≤ x0 ∧ x0 ≤ 101) (f1 : 0 ≤ x1 ∧ x1 ≤ 101) : x1 - x0 ≤ 2147483647 := by omega
theorem q_7129fde9c {x0 x1 : Int} (f0 : 0 ≤ x0 ∧ x0 ≤ 600) (f1 : 0 ≤ x1 ∧ x1 ≤ 600) : (-2147483648) ≤ x1 - x0 := by omega
theorem q_2ad8cd73d {x0 x1 : Int} (f0 : 0 ≤ x0 ∧ x0 ≤ 600) (f1 : 0 ≤ x1 ∧ x1 ≤ 600) : x1 - x0 ≤ 2147483647 := by omega
theorem q_3bb02af3e {x0 : Int}  : x0 + 1 ≤ x0 + 1 := by omega
theorem q_78480ff12 {x0 x1 : Int} (f0 : ¬ (x0 > x1)) : x0 + 1 ≤ x1 + 1 := by omega
theorem q_9e10f4d12 {x0 x1 x2 x3 : Int} (f0 : ¬ (x0 - x1 ≠ x2 - x3)) (f1 : 0 ≤ x1 ∧ x1 ≤ 101) (f2 : 0 ≤ x0 ∧ x0 ≤ 101) : x2 - x3 ≤ 600 := by omega
theorem q_73a1117df {x0 x1 x2 x3 x4 : Int} (f0 : ¬ (x0 - x1 ≠ x2 - x3)) (f1 : ¬ (x0 > x4)) : x2 + x1 - x3 ≤ x4 := by omega
theorem q_c7aae8bb3 {x0 : Int} (f0 : 0 ≤ x0 ∧ x0 ≤ 600) : x0 ≤ 600 := by omega
theorem q_fdb951d2d {x0 : Int} (f0 : 0 ≤ x0 ∧ x0 ≤ 101) : 0 ≤ x0 := by omega
theorem q_3b235b8a8 {x0 : Int} (f0 : x0 ≥ 8) : 2000 ≤ x0 + 1997 := by omega
theorem q_119c61ad1 {x0 : Int} (f0 : ¬ (x0 ≥ 8)) : x0 + 1000 < 1008 := by omega
theorem q_107d648c6 {x0 : Int} (f0 : 0 ≤ x0 ∧ x0 ≤ 3) : (-2147483648) ≤ x0 := by omega
theorem q_509aaa6b6 {x0 : Int} (f0 : 0 ≤ x0 ∧ x0 ≤ 3) : x0 ≤ 2147483647 := by omega
theorem q_47cb9e6c6 {x0 : Int} (f0 : 0 ≤ x0 ∧ x0 ≤ 150) : 0 ≤ x0 := by omega
theorem q_4ed2d8592 {x0 : Int} (f0 : 0 ≤ x0 ∧ x0 ≤ 150) : x0 ≤ 150 := by omega
theorem q_7c38ad3f6 {x0 : Int} (f0 : 0 ≤ x0 ∧ x0 ≤ 150) : (-2147483648) ≤ x0 := by omega
theorem q_059235c2c {x0 : Int} (f0 : x0 ≥ 0) : 0 ≤ x0 := by omega
theorem q_a6cbc6a20 {x0 : Int} (f0 : x0 ≤ 99) : x0 ≤ 99 := by omega
theorem q_b7d7f2b1a {x0 : Int} (f0 : 0 ≤ x0 ∧ x0 ≤ 150) : x0 ≤ 2147483647 := by omega
theorem q_8d9392337 {x0 x1 : Int} (f0 : 0 ≤ x0 ∧ x0 ≤ 150) (f1 : ¬ (x1 ≥ x0)) : x1 < 150 := by omega
theorem q_b47906294 {x0 x1 : Int} (f0 : 0 ≤ x0 ∧ x0 ≤ 150) (f1 : ¬ (x1 ≥ x0)) : x1 + 1 ≤ 150 := by omega
theorem q_3fd0c26f9 {x0 : Int} (f0 : ¬ (x0 ≤ 1)) : 0 ≤ x0 - 2 := by omega
theorem q_2d3808a94 {x0 : Int} (f0 : 0 ≤ x0 ∧ x0 ≤ 150) : x0 - 2 < 150 := by omega
theorem q_96d88faef {x0 : Int} (f0 : ¬ (x0 ≤ 1)) : 0 ≤ x0 - 1 := by omega
theorem q_8528fcf54 {x0 : Int} (f0 : 0 ≤ x0 ∧ x0 ≤ 150) : x0 - 1 < 150 := by omega
theorem q_efcdaf7e7 {x0 : Int} (f0 : x0 ≥ 2000) : (-2147483648) ≤ x0 := by omega
theorem q_8e843b4e6 {x0 : Int} (f0 : ¬ (x0 ≥ 2000)) : x0 ≤ 2147483647 := by omega
theorem q_3b6849c3a {x0 : Int} (f0 : x0 ≥ 1000) : 0 ≤ x0 - 1000 := by omega
theorem q_626295773 {x0 : Int} (f0 : ¬ (x0 ≥ 1000)) : x0 ≤ 2147483647 := by omega
theorem q_8c4697e7c {x0 x1 x2 x3 : Int} (f0 : 0 ≤ x0 ∧ x0 ≤ 9999) (f1 : 0 ≤ x1 ∧ x1 ≤ 9999) (f2 : 0 ≤ x2 ∧ x2 ≤ 9999) (f3 : 0 ≤ x3 ∧ x3 ≤ 9999) : (-2147483648) ≤ x0 + x1 + x2 + x3 := by omega
theorem q_46d991406 {x0 x1 x2 x3 : Int} (f0 : 0 ≤ x0 ∧ x0 ≤ 9999) (f1 : 0 ≤ x1 ∧ x1 ≤ 9999) (f2 : 0 ≤ x2 ∧ x2 ≤ 9999) (f3 : 0 ≤ x3 ∧ x3 ≤ 9999) : x0 + x1 + x2 + x3 ≤ 2147483647 := by omega
theorem q_3a12ae26c {x0 x1 x2 x3 : Int} (f0 : 0 ≤ x0 ∧ x0 ≤ 9999) (f1 : 0 ≤ x1 ∧ x1 ≤ 9999) (f2 : 0 ≤ x2 ∧ x2 ≤ 9999) (f3 : 0 ≤ x3 ∧ x3 ≤ 9999) : 0 ≤ x0 + x1 + x2 + x3 := by omega
theorem q_1bb4088f7 {x0 x1 x2 x3 : Int} (f0 : 0 ≤ x0 ∧ x0 ≤ 9999) (f1 : 0 ≤ x1 ∧ x1 ≤ 9999) (f2 : 0 ≤ x2 ∧ x2 ≤ 9999) (f3 : 0 ≤ x3 ∧ x3 ≤ 9999) : x0 + x1 + x2 + x3 ≤ 39996 := by omega
theorem q_b9b7f355a {x0 : Int} (f0 : x0 < 16) : x0 + 1 ≤ 16 := by omega
theorem q_aa6ed1614 {x0 : Int} (f0 : x0 < 16) : x0 ≤ 15 := by omega
theorem q_17ab3fb37 {x0 : Int}  : x0 + 1 = x0 + 1 := by omega
theorem q_d306fa533 {x0 : Int} (f0 : ¬ (x0 < 16)) : 16 ≤ x0 := by omega
theorem q_f0d4f2762 {x0 : Int} (f0 : x0 ≤ 0) : x0 ≤ 0 := by omega
theorem q_3ca0fc078 {x0 : Int} (f0 : ¬ (x0 ≤ 0)) : 0 ≤ x0 - 1 := by omega
theorem q_ca88f5637 {x0 : Int} (f0 : ¬ (x0 ≤ 0)) : 0 < x0 := by omega
theorem q_f8eb4c5e4 {x0 : Int}  : x0 - 1 = x0 - 1 := by omega
theorem q_67bc6dc49 {x0 : Int} (f0 : x0 ≥ 3) : 3 ≤ x0 := by omega
theorem q_c644f7bb7 {x0 : Int} (f0 : ¬ (x0 ≥ 3)) : x0 < 3 := by omega
theorem q_d380ec9e8 {x0 : Int} (f0 : ¬ (x0 ≥ 3)) : x0 + 1 ≤ 3 := by omega
theorem q_1aec5e53f {x0 : Int} (f0 : ¬ (x0 ≥ 3)) : x0 ≤ 2 := by omega
theorem q_6660ef6d1 {x0 : Int} (f0 : 0 ≤ x0 ∧ x0 ≤ 3) : x0 - 1 < 3 := by omega
theorem q_51965173a {x0 x1 : Int} (f0 : 0 ≤ x0 ∧ x0 ≤ 3) (f1 : 0 ≤ x1 ∧ x1 ≤ 2) : 0 ≤ 3 * x0 + x1 := by omega
theorem q_d187370ec {x0 x1 : Int} (f0 : 0 ≤ x0 ∧ x0 ≤ 3) (f1 : 0 ≤ x1 ∧ x1 ≤ 2) : 3 * x0 + x1 < 12 := by omega
theorem q_2e808647e {x0 : Int} (f0 : ¬ (x0 ≥ 4)) : x0 < 4 := by omega
theorem q_121241f94 {x0 : Int} (f0 : ¬ (x0 ≥ 4)) : x0 + 1 ≤ 4 := by omega
set_option maxRecDepth 100000 in
set_option maxHeartbeats 4000000 in
theorem s_1 {sc : List Int32} {e : Int} {d u P Q A : Nat} {c : ME} {Z : AR → Prop} (hI : Iv u e P Q c) (hA : A = 13 ∨ A = 25) (K : ∀ (c2 : ME), Iv u e P Q c2 → (∀ (a : Nat) (j : Int), ¬ ((a = (A + 7) ∧ j = 4)) → c2 a j = c a j) → ((c2 (A + 7) 4 = 0)) → Z (.inl (none), Wd P Q P P c2, 0, 0)) : Wp sc (d + 7) 1 0 [(0, .ref (A + 7))] [] (Wd P Q P P c) 0 0 Z := by
  have hP := iv_P hI
  have hQ := iv_Q hI
  refine q_aload_n rfl rfl (q_iconst rfl (v_pi (z := 4) rfl rfl (ck_p7 hA) (a68 hA rfl) rfl rfl rfl (by decide) (q_vret rfl rfl ?_)))
  have hI_1 := iw_p7_4 (v := 0) hI hA ⟨by decide, by decide⟩
  have h_2 : (up c (A + 7) 4 0) (A + 7) 4 = 0 := (up_e rfl)
  exact K (up c (A + 7) 4 0) hI_1 (fun a j hm => up_b (Decidable.or_iff_not_imp_left.mpr (fun h1 h2 => hm ⟨Decidable.not_not.mp h1, h2⟩))) (by first | decide | omega)

set_option maxRecDepth 100000 in
set_option maxHeartbeats 4000000 in
theorem s_3_l {sc : List Int32} {e : Int} {d u P Q : Nat} {c : ME} {Z : AR → Prop} (hI : Iv u e P Q c)  (K : ∀ (c2 : ME) (y : Int), Iv u e P Q c2 → (∀ (a : Nat) (j : Int), ¬ ((a = 1 ∧ j = 2)) → c2 a j = c a j) → 0 ≤ y ∧ y ≤ 600 → ((c2 1 2 = y)) → Z (.inl (some (vi y)), Wd P Q P P c2, 0, 0)) : ∀ n : Nat, (∀ (c2 : ME), Iv u e P Q c2 → (∀ (a : Nat) (j : Int), ¬ ((a = 1 ∧ j = 2)) → c2 a j = c a j) → 1201 - 2 * c2 1 2 < (n : Int) → Wp sc (d + 7) 3 0 [(0, .ref 1)] [] (Wd P Q P P c2) 0 0 Z)
  | 0 => by intro c2 hI2 hF hm9; have hP := iv_P hI; have hQ := iv_Q hI; have h_10 := ir_1_2 hI2; exfalso; omega
  | n + 1 => by
    have hP := iv_P hI
    have hQ := iv_Q hI
    have ih := s_3_l (sc := sc) (d := d) hI K n
    intro c2 hI2 hF hm9
    have h_1 := ir_1_2 hI2
    refine q_aload_n rfl rfl (v_gi (z := 2) (v := c2 1 2) rfl rfl rfl (Nat.le_of_ble_eq_true rfl) rfl rfl rfl (q_aload_n rfl rfl ?_))
    have h_2 := ir_1_1 hI
    have kn_3 : Hid (c2 1 1 = c 1 1) := hF 1 1 (fun h => absurd h.2 (ni rfl))
    refine v_gi (z := 1) (v := c 1 1) rfl rfl rfl (Nat.le_of_ble_eq_true rfl) rfl rfl (hid kn_3) ?_
    by_cases h_4 : c2 1 2 ≥ c 1 1
    · refine v_ic_ge_t (t := 38) rfl rfl ⟨by first | exact q_3b2b08511 h_2 | omega, h_4, (Int.le_trans h_1.2 (by decide))⟩ (q_aload_n rfl rfl (v_gi (z := 2) (v := c2 1 2) rfl rfl rfl (Nat.le_of_ble_eq_true rfl) rfl rfl rfl (q_iret rfl rfl ?_)))
      exact K c2 (c2 1 2) hI2 (fun a j hm => hF a j (fun h => hm h)) h_1 (by first | exact q_94b7ed2f4 | omega)
    · refine v_ic_ge_f (t := 38) rfl rfl ⟨(Int.le_trans (by decide) h_1.1), (Int.not_le.mp h_4), by first | exact q_3885e607f h_2 | omega⟩ (q_aload_n rfl rfl (v_gr (t := 2) rfl rfl rfl (Nat.le_of_ble_eq_true rfl) rfl (q_aload_n rfl rfl (v_gi (z := 2) (v := c2 1 2) rfl rfl rfl (Nat.le_of_ble_eq_true rfl) rfl rfl rfl ?_))))
      have h_5 := ir_2 hI (c2 1 2)
      have kn_6 : Hid (c2 2 (c2 1 2) = c 2 (c2 1 2)) := hF 2 (c2 1 2) (fun h => absurd h.1 (nn rfl))
      refine v_ba (v := c 2 (c2 1 2)) rfl rfl (by decide) (by decide) ⟨h_1.1, by first | exact q_364416c3d h_2 h_4 | omega⟩ (hid kn_6) (v_bip rfl (by decide) ?_)
      by_cases h_7 : c 2 (c2 1 2) ≠ 32
      · refine v_ic_ne_t (t := 38) rfl rfl ⟨h_7, ⟨by first | exact q_cc1935a2a h_5 | omega, by first | exact q_4e52e4576 h_5 | omega⟩, by decide, by decide⟩ (q_aload_n rfl rfl (v_gi (z := 2) (v := c2 1 2) rfl rfl rfl (Nat.le_of_ble_eq_true rfl) rfl rfl rfl (q_iret rfl rfl ?_)))
        exact K c2 (c2 1 2) hI2 (fun a j hm => hF a j (fun h => hm h)) h_1 (by first | exact q_94b7ed2f4 | (clear h_1 h_2 h_4 h_5 h_7; omega) | omega)
      · refine v_ic_ne_f (t := 38) rfl rfl (Decidable.not_not.mp h_7) (q_aload_n rfl rfl (q_dup rfl rfl (v_gi (z := 2) (v := c2 1 2) rfl rfl rfl (Nat.le_of_ble_eq_true rfl) rfl rfl rfl (q_iconst rfl (v_iadd (v := c2 1 2 + 1) rfl rfl (v_pi (z := 2) rfl rfl rfl (Nat.le_of_ble_eq_true rfl) rfl rfl rfl (by decide) (q_goto (t := 0) rfl rfl ?_)))))))
        have hI_8 := iw_1_2 (v := c2 1 2 + 1) hI2 ⟨by first | exact rgp_l h_1.1 (by decide) | omega, by first | exact q_e9d2b66ad h_2 h_4 | omega⟩
        refine Wp_ls [(0, .ref 1)] (lsub_cons rfl lsub_nil) ?_
        have h_9 : (up c2 1 2 (c2 1 2 + 1)) 1 2 = c2 1 2 + 1 := (up_e rfl)
        exact ih (up c2 1 2 (c2 1 2 + 1)) hI_8 (fun a j hm => (up_b (Decidable.or_iff_not_imp_left.mpr (fun h1 h2 => hm ⟨Decidable.not_not.mp h1, h2⟩))).trans (hF a j (fun h => hm h))) (by omega)
set_option maxRecDepth 100000 in
set_option maxHeartbeats 4000000 in
theorem s_3 {sc : List Int32} {e : Int} {d u P Q : Nat} {c : ME} {Z : AR → Prop} (hI : Iv u e P Q c)  (K : ∀ (c2 : ME) (y : Int), Iv u e P Q c2 → (∀ (a : Nat) (j : Int), ¬ ((a = 1 ∧ j = 2)) → c2 a j = c a j) → 0 ≤ y ∧ y ≤ 600 → ((c2 1 2 = y)) → Z (.inl (some (vi y)), Wd P Q P P c2, 0, 0)) : Wp sc (d + 7) 3 0 [(0, .ref 1)] [] (Wd P Q P P c) 0 0 Z := by
  have hP := iv_P hI
  have hQ := iv_Q hI
  refine Wp_ls [(0, .ref 1)] (lsub_cons rfl lsub_nil) ?_
  have h_11 := ir_1_2 hI
  exact (s_3_l (sc := sc) (d := d) hI K 1204) c hI (fun a j hm => rfl) (by omega)

set_option maxRecDepth 100000 in
set_option maxHeartbeats 4000000 in
theorem s_4_l {sc : List Int32} {e : Int} {d u P Q : Nat} {q nt : Nat} {c : ME} {Z : AR → Prop} (hI : Iv u e P Q c) (hq : q < sN) (hnt : (sB q).length = nt) (hn9 : nt ≤ 100) (K : ∀ (c2 : ME) (y : Int), Iv u e P Q c2 → (∀ (a : Nat) (j : Int), ¬ ((a = 1 ∧ j = 2)) → c2 a j = c a j) → (-1) ≤ y ∧ y ≤ 100 → Z (.inl (some (vi y)), Wd P Q P P c2, 0, 0)) : ∀ n : Nat, (∀ (c2 : ME) (v2 : Int) (v3 : Int), Iv u e P Q c2 → (∀ (a : Nat) (j : Int), ¬ ((a = 1 ∧ j = 2)) → c2 a j = c a j) → 0 ≤ v2 ∧ v2 ≤ 600 → 0 ≤ v3 ∧ v3 ≤ 100 → ((c2 1 2 = v2)) → 201 - 2 * v3 < (n : Int) → Wp sc (d + 8) 4 7 [(0, .ref 1), (1, .ref (a_SB + q)), (2, vi v2), (3, vi v3)] [] (Wd P Q P P c2) 0 0 Z)
  | 0 => by intro c2 v2 v3 hI2 hF hv2 hv3 hx0 hm9; have hP := iv_P hI; have hQ := iv_Q hI; exfalso; omega
  | n + 1 => by
    have hP := iv_P hI
    have hQ := iv_Q hI
    have ih := s_4_l (sc := sc) (d := d) hI hq hnt hn9 K n
    intro c2 v2 v3 hI2 hF hv2 hv3 hx0 hm9
    have h_1 := ir_1_2 hI2
    refine q_iload_n rfl rfl (q_aload_n rfl rfl (v_sln nt rfl rfl (by omega) (Nat.le_of_ble_eq_true rfl) hq hnt ?_))
    by_cases h_2 : v3 ≥ nt
    · refine v_ic_ge_t (t := 55) rfl rfl ⟨by omega, h_2, (Int.le_trans hv3.2 (by decide))⟩ (q_iconst rfl (q_iret rfl rfl ?_))
      exact K c2 (-1) hI2 (fun a j hm => hF a j (fun h => hm h)) ⟨by decide, by decide⟩
    · refine v_ic_ge_f (t := 55) rfl rfl ⟨(Int.le_trans (by decide) hv3.1), (Int.not_le.mp h_2), by omega⟩ (q_iload_n rfl rfl (q_aload_n rfl rfl ?_))
      have h_3 := ir_1_1 hI
      have kn_4 : Hid (c2 1 1 = c 1 1) := hF 1 1 (fun h => absurd h.2 (ni rfl))
      refine v_gi (z := 1) (v := c 1 1) rfl rfl rfl (Nat.le_of_ble_eq_true rfl) rfl rfl (hid kn_4) ?_
      by_cases h_5 : v2 ≥ c 1 1
      · refine v_ic_ge_t (t := 55) rfl rfl ⟨by first | exact q_3b2b08511 h_3 | omega, h_5, (Int.le_trans hv2.2 (by decide))⟩ (q_iconst rfl (q_iret rfl rfl ?_))
        exact K c2 (-1) hI2 (fun a j hm => hF a j (fun h => hm h)) ⟨by decide, by decide⟩
      · refine v_ic_ge_f (t := 55) rfl rfl ⟨(Int.le_trans (by decide) hv2.1), (Int.not_le.mp h_5), by first | exact q_3885e607f h_3 | omega⟩ (q_aload_n rfl rfl (v_gr (t := 2) rfl rfl rfl (Nat.le_of_ble_eq_true rfl) rfl (q_iload_n rfl rfl ?_)))
        have h_6 := ir_2 hI v2
        have kn_7 : Hid (c2 2 v2 = c 2 v2) := hF 2 v2 (fun h => absurd h.1 (nn rfl))
        refine v_ba (v := c 2 v2) rfl rfl (by decide) (by decide) ⟨hv2.1, by first | exact q_364416c3d h_3 h_5 | omega⟩ (hid kn_7) (q_aload_n rfl rfl (q_iload_n rfl rfl (v_schx rfl rfl (by omega) (Nat.le_of_ble_eq_true rfl) hq hnt ⟨by omega, by omega⟩ hn9 (fun y_8 hy_8 => ?_))))
        by_cases h_9 : c 2 v2 ≠ y_8
        · refine v_ic_ne_t (t := 49) rfl rfl ⟨h_9, ⟨by first | exact q_cc1935a2a h_6 | omega, by first | exact q_4e52e4576 h_6 | omega⟩, hy_8.1, hy_8.2⟩ (v_iinc (v := v3 + 1) rfl rfl (Nat.le_of_ble_eq_true rfl) rfl (q_goto (t := 7) rfl rfl (Wp_ls [(0, .ref 1), (1, .ref (a_SB + q)), (2, vi v2), (3, vi (v3 + 1))] (lsub_cons rfl (lsub_cons rfl (lsub_cons rfl (lsub_cons rfl lsub_nil)))) ?_)))
          exact ih c2 v2 (v3 + 1) hI2 (fun a j hm => hF a j (fun h => hm h)) hv2 ⟨by first | exact rgp_l hv3.1 (by decide) | omega, by first | (clear hv2 hv3 hx0 h_1 h_3 h_5 h_6 h_9; omega) | omega⟩ (by first | (clear hv2 hv3 h_1 h_2 h_3 h_5 h_6 h_9; omega) | omega) (by omega)
        · refine v_ic_ne_f (t := 49) rfl rfl (Decidable.not_not.mp h_9) (q_aload_n rfl rfl (q_dup rfl rfl (v_gi (z := 2) (v := c2 1 2) rfl rfl rfl (Nat.le_of_ble_eq_true rfl) rfl rfl rfl (q_iconst rfl (v_iadd (v := c2 1 2 + 1) rfl rfl (v_pi (z := 2) rfl rfl rfl (Nat.le_of_ble_eq_true rfl) rfl rfl rfl (by decide) (q_iload_n rfl rfl ?_)))))))
          refine q_iret rfl rfl ?_
          have hI_10 := iw_1_2 (v := c2 1 2 + 1) hI2 ⟨by first | exact rgp_l h_1.1 (by decide) | omega, by omega⟩
          exact K (up c2 1 2 (c2 1 2 + 1)) v3 hI_10 (fun a j hm => (up_b (Decidable.or_iff_not_imp_left.mpr (fun h1 h2 => hm ⟨Decidable.not_not.mp h1, h2⟩))).trans (hF a j (fun h => hm h))) ⟨(Int.le_trans (by decide) hv3.1), hv3.2⟩
set_option maxRecDepth 100000 in
set_option maxHeartbeats 4000000 in
theorem s_4 {sc : List Int32} {e : Int} {d u P Q : Nat} {q nt : Nat} {c : ME} {Z : AR → Prop} (hI : Iv u e P Q c) (hq : q < sN) (hnt : (sB q).length = nt) (hn9 : nt ≤ 100) (K : ∀ (c2 : ME) (y : Int), Iv u e P Q c2 → (∀ (a : Nat) (j : Int), ¬ ((a = 1 ∧ j = 2)) → c2 a j = c a j) → (-1) ≤ y ∧ y ≤ 100 → Z (.inl (some (vi y)), Wd P Q P P c2, 0, 0)) : Wp sc (d + 8) 4 0 [(0, .ref 1), (1, .ref (a_SB + q))] [] (Wd P Q P P c) 0 0 Z := by
  have hP := iv_P hI
  have hQ := iv_Q hI
  refine q_aload_n rfl rfl (v_cv rfl rfl rfl rfl (Nat.le_of_ble_eq_true rfl) ⟨⟨rfl, rfl⟩, Nat.le_of_ble_eq_true rfl, rfl⟩ (Nat.le_of_ble_eq_true rfl) (Nat.le_of_ble_eq_true rfl) (s_3 hI (fun c_11 y_14 hI_12 hF_13 hy_14 h_15 => (bk_inl ?_))))
  have h_16 := ir_1_2 hI_12
  refine q_istore_n rfl (Nat.le_of_ble_eq_true rfl) (q_iconst rfl (q_istore_n rfl (Nat.le_of_ble_eq_true rfl) (Wp_ls [(0, .ref 1), (1, .ref (a_SB + q)), (2, vi y_14), (3, vi 0)] (lsub_cons rfl (lsub_cons rfl (lsub_cons rfl (lsub_cons rfl lsub_nil)))) ?_)))
  exact (s_4_l (sc := sc) (d := d) hI hq hnt hn9 K 204) c_11 y_14 0 hI_12 (fun a j hm => hF_13 a j (fun h => hm h)) hy_14 ⟨by decide, by decide⟩ (by omega) (by omega)

set_option maxRecDepth 100000 in
set_option maxHeartbeats 4000000 in
theorem s_5 {sc : List Int32} {e : Int} {d u P Q A : Nat} {c : ME} {a1 : Int} {Z : AR → Prop} (hI : Iv u e P Q c) (hA : A = 13 ∨ A = 25) (ha1 : 0 ≤ a1 ∧ a1 ≤ 3000) (hq0 : (a1 < 1008) ∨ (a1 ≥ 2000)) (K : ∀ (c2 : ME), Iv u e P Q c2 → (∀ (a : Nat) (j : Int), ¬ ((a = (A + 7) ∧ j = 5) ∨ a = (A + 9)) → c2 a j = c a j) → Z (.inl (none), Wd P Q P P c2, 0, 0)) : Wp sc (d + 7) 5 0 [(0, .ref (A + 7)), (1, vi a1)] [] (Wd P Q P P c) 0 0 Z := by
  have hP := iv_P hI
  have hQ := iv_Q hI
  refine q_aload_n rfl rfl ?_
  have h_1 := ir_p7_5 hI hA
  refine v_gi (z := 5) (v := c (A + 7) 5) rfl rfl (ck_p7 hA) (a68 hA rfl) rfl rfl rfl (q_aload_n rfl rfl (v_gr (t := (A + 9)) rfl rfl (ck_p7 hA) (a68 hA rfl) rfl (v_al rfl (ck_p9 hA) (a68 hA rfl) (by decide) ?_)))
  by_cases h_2 : c (A + 7) 5 ≥ 150
  · refine v_ic_ge_t (t := 32) rfl rfl ⟨by decide, h_2, (Int.le_trans h_1.2 (by decide))⟩ (q_vret rfl rfl ?_)
    exact K c hI (fun a j hm => rfl)
  · refine v_ic_ge_f (t := 32) rfl rfl ⟨(Int.le_trans (by decide) h_1.1), (Int.not_le.mp h_2), by decide⟩ (q_aload_n rfl rfl (v_gr (t := (A + 9)) rfl rfl (ck_p7 hA) (a68 hA rfl) rfl (q_aload_n rfl rfl (v_gi (z := 5) (v := c (A + 7) 5) rfl rfl (ck_p7 hA) (a68 hA rfl) rfl rfl rfl (q_iload_n rfl rfl (v_is rfl (ck_p9 hA) (a68 hA rfl) (by decide) ⟨h_1.1, by first | exact q_cc605f3b6 h_2 | (clear ha1 h_1 hq0; omega) | omega⟩ (q_aload_n rfl rfl ?_)))))))
    refine q_dup rfl rfl (v_gi (z := 5) (v := c (A + 7) 5) rfl rfl (ck_p7 hA) (a68 hA rfl) rfl rfl (up_c (pp rfl)) (q_iconst rfl (v_iadd (v := c (A + 7) 5 + 1) rfl rfl (v_pi (z := 5) rfl rfl (ck_p7 hA) (a68 hA rfl) rfl rfl rfl (by decide) (q_vret rfl rfl ?_)))))
    have hI_3 := iw_lg (j := c (A + 7) 5) (v := a1) hI (lgp (k := 9) hA (by decide)) ⟨by omega, by omega⟩ (by omega)
    have hI_4 := iw_p7_5 (v := c (A + 7) 5 + 1) hI_3 hA ⟨by first | exact rgp_l h_1.1 (by decide) | omega, by first | exact q_e92c430a0 h_2 | (clear ha1 h_1 hq0; omega) | omega⟩
    exact K (up (up c (A + 9) (c (A + 7) 5) a1) (A + 7) 5 (c (A + 7) 5 + 1)) hI_4 (fun a j hm => (up_b (Decidable.or_iff_not_imp_left.mpr (fun h1 h2 => hm (Or.inl ⟨Decidable.not_not.mp h1, h2⟩)))).trans (up_b (Decidable.or_iff_not_imp_left.mpr (fun h1 h2 => hm (Or.inr (Decidable.not_not.mp h1))))))

set_option maxRecDepth 100000 in
set_option maxHeartbeats 4000000 in
theorem s_6 {sc : List Int32} {e : Int} {d u P Q : Nat} {c : ME} {Z : AR → Prop} (hI : Iv u e P Q c)  (K : ∀ (c2 : ME) (y : Int), Iv u e P Q c2 → (∀ (a : Nat) (j : Int), ¬ ((a = 1 ∧ j = 2)) → c2 a j = c a j) → 0 ≤ y ∧ y ≤ 1 → ((y = 0) ∨ (c2 1 2 < c2 1 1)) → Z (.inl (some (vi y)), Wd P Q P P c2, 0, 0)) : Wp sc (d + 8) 6 0 [(0, .ref 1)] [] (Wd P Q P P c) 0 0 Z := by
  have hP := iv_P hI
  have hQ := iv_Q hI
  refine q_aload_n rfl rfl (v_cv rfl rfl rfl rfl (Nat.le_of_ble_eq_true rfl) ⟨⟨rfl, rfl⟩, Nat.le_of_ble_eq_true rfl, rfl⟩ (Nat.le_of_ble_eq_true rfl) (Nat.le_of_ble_eq_true rfl) (s_3 hI (fun c_1 y_4 hI_2 hF_3 hy_4 h_5 => (bk_inl ?_))))
  have h_6 := ir_1_2 hI_2
  refine q_istore_n rfl (Nat.le_of_ble_eq_true rfl) (q_iload_n rfl rfl (q_aload_n rfl rfl ?_))
  have h_7 := ir_1_1 hI
  have kn_8 : Hid (c_1 1 1 = c 1 1) := hF_3 1 1 (fun h => absurd h.2 (ni rfl))
  refine v_gi (z := 1) (v := c 1 1) rfl rfl rfl (Nat.le_of_ble_eq_true rfl) rfl rfl (hid kn_8) ?_
  by_cases h_9 : y_4 ≥ c 1 1
  · refine v_ic_ge_t (t := 39) rfl rfl ⟨by first | exact q_3b2b08511 h_7 | omega, h_9, (Int.le_trans hy_4.2 (by decide))⟩ (q_iconst rfl (v_zret rfl rfl (by decide) ?_))
    have h_10 : c_1 1 1 = c 1 1 := (hid kn_8)
    exact K c_1 0 hI_2 (fun a j hm => hF_3 a j (fun h => hm h)) ⟨by decide, by decide⟩ (Or.inl (by first | decide | omega))
  · refine v_ic_ge_f (t := 39) rfl rfl ⟨(Int.le_trans (by decide) hy_4.1), (Int.not_le.mp h_9), by first | exact q_3885e607f h_7 | omega⟩ (q_aload_n rfl rfl (v_gr (t := 2) rfl rfl rfl (Nat.le_of_ble_eq_true rfl) rfl (q_iload_n rfl rfl ?_)))
    have h_11 := ir_2 hI y_4
    have kn_12 : Hid (c_1 2 y_4 = c 2 y_4) := hF_3 2 y_4 (fun h => absurd h.1 (nn rfl))
    refine v_ba (v := c 2 y_4) rfl rfl (by decide) (by decide) ⟨hy_4.1, by first | exact q_364416c3d h_7 h_9 | omega⟩ (hid kn_12) (v_bip rfl (by decide) ?_)
    by_cases h_13 : c 2 y_4 < 48
    · refine v_ic_lt_t (t := 39) rfl rfl ⟨by first | exact q_cc1935a2a h_11 | omega, h_13, by decide⟩ (q_iconst rfl (v_zret rfl rfl (by decide) ?_))
      have h_14 : c_1 1 1 = c 1 1 := (hid kn_8)
      exact K c_1 0 hI_2 (fun a j hm => hF_3 a j (fun h => hm h)) ⟨by decide, by decide⟩ (Or.inl (by first | decide | omega))
    · refine v_ic_lt_f (t := 39) rfl rfl ⟨by decide, (Int.not_lt.mp h_13), by first | exact q_4e52e4576 h_11 | omega⟩ (q_aload_n rfl rfl (v_gr (t := 2) rfl rfl rfl (Nat.le_of_ble_eq_true rfl) rfl (q_iload_n rfl rfl (v_ba (v := c 2 y_4) rfl rfl (by decide) (by decide) ⟨hy_4.1, by first | exact q_364416c3d h_7 h_9 | omega⟩ (hid kn_12) (v_bip rfl (by decide) ?_)))))
      by_cases h_15 : c 2 y_4 > 57
      · refine v_ic_gt_t (t := 39) rfl rfl ⟨by decide, h_15, by first | exact q_4e52e4576 h_11 | omega⟩ (q_iconst rfl (v_zret rfl rfl (by decide) ?_))
        have h_16 : c_1 1 1 = c 1 1 := (hid kn_8)
        exact K c_1 0 hI_2 (fun a j hm => hF_3 a j (fun h => hm h)) ⟨by decide, by decide⟩ (Or.inl (by first | decide | omega))
      · refine v_ic_gt_f (t := 39) rfl rfl ⟨by first | exact q_993cab007 h_13 | omega, (Int.not_lt.mp h_15), by decide⟩ (q_iconst rfl (q_goto (t := 40) rfl rfl (v_zret rfl rfl (by decide) ?_)))
        have h_17 : c_1 1 1 = c 1 1 := (hid kn_8)
        exact K c_1 1 hI_2 (fun a j hm => hF_3 a j (fun h => hm h)) ⟨by decide, by decide⟩ (Or.inr (by omega))

set_option maxRecDepth 100000 in
set_option maxHeartbeats 4000000 in
theorem s_7 {sc : List Int32} {e : Int} {d u P Q : Nat} {c : ME} {a1 : Int} {a2 : Int} {Z : AR → Prop} (hI : Iv u e P Q c) (ha1 : 1 ≤ a1 ∧ a1 ≤ 3) (ha2 : 0 ≤ a2 ∧ a2 ≤ 600) (K : ∀ (c2 : ME), Iv u e P Q c2 → (∀ (a : Nat) (j : Int), ¬ ((a = 1 ∧ j = 4) ∨ (a = 1 ∧ j = 5)) → c2 a j = c a j) → ((c2 1 4 ≠ 0)) → Z (.inl (none), Wd P Q P P c2, 0, 0)) : Wp sc (d + 7) 7 0 [(0, .ref 1), (1, vi a1), (2, vi a2)] [] (Wd P Q P P c) 0 0 Z := by
  have hP := iv_P hI
  have hQ := iv_Q hI
  refine q_aload_n rfl rfl ?_
  have h_1 := ir_1_4 hI
  refine v_gi (z := 4) (v := c 1 4) rfl rfl rfl (Nat.le_of_ble_eq_true rfl) rfl rfl rfl ?_
  by_cases h_2 : c 1 4 ≠ 0
  · refine v_if_ne_t (t := 17) rfl rfl ⟨h_2, ⟨(Int.le_trans (by decide) h_1.1), (Int.le_trans h_1.2 (by decide))⟩, by decide, by decide⟩ (q_vret rfl rfl ?_)
    exact K c hI (fun a j hm => rfl) (by first | exact q_646bc4652 h_1 h_2 | omega)
  · refine v_if_ne_f (t := 17) rfl rfl (Decidable.not_not.mp h_2) (q_aload_n rfl rfl (q_iload_n rfl rfl (v_pi (z := 4) rfl rfl rfl (Nat.le_of_ble_eq_true rfl) rfl rfl rfl (by decide) (q_aload_n rfl rfl (q_iload_n rfl rfl (v_pi (z := 5) rfl rfl rfl (Nat.le_of_ble_eq_true rfl) rfl rfl rfl (by decide) (q_vret rfl rfl ?_)))))))
    have hI_3 := iw_1_4 (v := a1) hI ⟨(Int.le_trans (by decide) ha1.1), ha1.2⟩
    have hI_4 := iw_1_5 (v := a2) hI_3 ⟨(Int.le_trans (by decide) ha2.1), ha2.2⟩
    have h_5 : (up (up c 1 4 a1) 1 5 a2) 1 4 = a1 := ((up_n (by decide)).trans (up_e rfl))
    exact K (up (up c 1 4 a1) 1 5 a2) hI_4 (fun a j hm => (up_b (Decidable.or_iff_not_imp_left.mpr (fun h1 h2 => hm (Or.inr ⟨Decidable.not_not.mp h1, h2⟩)))).trans (up_b (Decidable.or_iff_not_imp_left.mpr (fun h1 h2 => hm (Or.inl ⟨Decidable.not_not.mp h1, h2⟩))))) (by first | exact q_59cb102df ha1 | omega)

set_option maxRecDepth 100000 in
set_option maxHeartbeats 4000000 in
theorem s_8_l {sc : List Int32} {e : Int} {d u P Q : Nat} {c : ME} {a1 : Int} {Z : AR → Prop} (hI : Iv u e P Q c) (ha1 : (-1) ≤ a1 ∧ a1 ≤ 9999) (K : ∀ (c2 : ME) (y : Int), Iv u e P Q c2 → (∀ (a : Nat) (j : Int), ¬ ((a = 1 ∧ j = 2) ∨ (a = 1 ∧ j = 4) ∨ (a = 1 ∧ j = 5)) → c2 a j = c a j) → 0 ≤ y ∧ y ≤ 9999 → ((y ≤ a1) ∨ (y = 0)) → Z (.inl (some (vi y)), Wd P Q P P c2, 0, 0)) : ∀ n : Nat, (∀ (c2 : ME) (v2 : Int) (v3 : Int), Iv u e P Q c2 → (∀ (a : Nat) (j : Int), ¬ ((a = 1 ∧ j = 2) ∨ (a = 1 ∧ j = 4) ∨ (a = 1 ∧ j = 5)) → c2 a j = c a j) → 0 ≤ v2 ∧ v2 ≤ 600 → 0 ≤ v3 ∧ v3 ≤ 99999 → 1201 - 2 * c2 1 2 < (n : Int) → Wp sc (d + 9) 8 34 [(0, .ref 1), (1, vi a1), (2, vi v2), (3, vi v3)] [] (Wd P Q P P c2) 0 0 Z)
  | 0 => by intro c2 v2 v3 hI2 hF hv2 hv3 hm9; have hP := iv_P hI; have hQ := iv_Q hI; have h_30 := ir_1_2 hI2; exfalso; omega
  | n + 1 => by
    have hP := iv_P hI
    have hQ := iv_Q hI
    have ih := s_8_l (sc := sc) (d := d) hI ha1 K n
    intro c2 v2 v3 hI2 hF hv2 hv3 hm9
    have h_1 := ir_1_2 hI2
    refine q_aload_n rfl rfl (v_gi (z := 2) (v := c2 1 2) rfl rfl rfl (Nat.le_of_ble_eq_true rfl) rfl rfl rfl (q_aload_n rfl rfl ?_))
    have h_2 := ir_1_1 hI
    have kn_3 : Hid (c2 1 1 = c 1 1) := hF 1 1 (fun q => q.elim (fun h => absurd h.2 (ni rfl)) (fun q => q.elim (fun h => absurd h.2 (ni rfl)) (fun h => absurd h.2 (ni rfl))))
    refine v_gi (z := 1) (v := c 1 1) rfl rfl rfl (Nat.le_of_ble_eq_true rfl) rfl rfl (hid kn_3) ?_
    by_cases h_4 : c2 1 2 ≥ c 1 1
    · refine v_ic_ge_t (t := 109) rfl rfl ⟨by first | exact q_3b2b08511 h_2 | omega, h_4, (Int.le_trans h_1.2 (by decide))⟩ (q_iload_n rfl rfl (q_iload_n rfl rfl ?_))
      by_cases h_5 : v3 ≤ a1
      · refine v_ic_le_t (t := 122) rfl rfl ⟨(Int.le_trans (by decide) hv3.1), h_5, (Int.le_trans ha1.2 (by decide))⟩ (q_iload_n rfl rfl (q_iret rfl rfl ?_))
        exact K c2 v3 hI2 (fun a j hm => hF a j (fun q => q.elim (fun h => hm (Or.inl h)) (fun q => q.elim (fun h => hm (Or.inr (Or.inl h))) (fun h => hm (Or.inr (Or.inr h)))))) ⟨hv3.1, by first | exact q_3bbf258e8 h_5 ha1 | omega⟩ (Or.inl (by first | exact q_514734711 h_5 | omega))
      · refine v_ic_le_f (t := 122) rfl rfl ⟨(Int.le_trans (by decide) ha1.1), (Int.not_le.mp h_5), (Int.le_trans hv3.2 (by decide))⟩ (q_aload_n rfl rfl (q_iconst rfl (q_iload_n rfl rfl (v_cv rfl rfl rfl rfl (Nat.le_of_ble_eq_true rfl) ⟨⟨rfl, rfl⟩, Nat.le_of_ble_eq_true rfl, rfl⟩ (Nat.le_of_ble_eq_true rfl) (Nat.le_of_ble_eq_true rfl) (s_7 (a1 := 2) (a2 := v2) hI2 (show 1 ≤ 2 ∧ 2 ≤ 3 from ⟨by decide, by decide⟩) (show 0 ≤ v2 ∧ v2 ≤ 600 from hv2) (fun c_6 hI_7 hF_8 h_9 => (bk_inl ?_)))))))
        have h_10 := ir_1_4 hI_7
        refine q_iconst rfl (q_iret rfl rfl ?_)
        exact K c_6 0 hI_7 (fun a j hm => (hF_8 a j (fun q => q.elim (fun h => hm (Or.inr (Or.inl h))) (fun h => hm (Or.inr (Or.inr h))))).trans (hF a j (fun q => q.elim (fun h => hm (Or.inl h)) (fun q => q.elim (fun h => hm (Or.inr (Or.inl h))) (fun h => hm (Or.inr (Or.inr h))))))) ⟨by decide, by decide⟩ (Or.inr (by first | decide | (clear ha1 hv2 hv3 h_1 h_2 h_4 h_5 h_10 h_9; omega) | omega))
    · refine v_ic_ge_f (t := 109) rfl rfl ⟨(Int.le_trans (by decide) h_1.1), (Int.not_le.mp h_4), by first | exact q_3885e607f h_2 | omega⟩ (q_aload_n rfl rfl (v_gr (t := 2) rfl rfl rfl (Nat.le_of_ble_eq_true rfl) rfl (q_aload_n rfl rfl (v_gi (z := 2) (v := c2 1 2) rfl rfl rfl (Nat.le_of_ble_eq_true rfl) rfl rfl rfl ?_))))
      have h_11 := ir_2 hI (c2 1 2)
      have kn_12 : Hid (c2 2 (c2 1 2) = c 2 (c2 1 2)) := hF 2 (c2 1 2) (fun q => q.elim (fun h => absurd h.1 (nn rfl)) (fun q => q.elim (fun h => absurd h.1 (nn rfl)) (fun h => absurd h.1 (nn rfl))))
      refine v_ba (v := c 2 (c2 1 2)) rfl rfl (by decide) (by decide) ⟨h_1.1, by first | exact q_364416c3d h_2 h_4 | omega⟩ (hid kn_12) (v_bip rfl (by decide) ?_)
      by_cases h_13 : c 2 (c2 1 2) < 48
      · refine v_ic_lt_t (t := 109) rfl rfl ⟨by first | exact q_cc1935a2a h_11 | omega, h_13, by decide⟩ (q_iload_n rfl rfl (q_iload_n rfl rfl ?_))
        by_cases h_14 : v3 ≤ a1
        · refine v_ic_le_t (t := 122) rfl rfl ⟨(Int.le_trans (by decide) hv3.1), h_14, (Int.le_trans ha1.2 (by decide))⟩ (q_iload_n rfl rfl (q_iret rfl rfl ?_))
          exact K c2 v3 hI2 (fun a j hm => hF a j (fun q => q.elim (fun h => hm (Or.inl h)) (fun q => q.elim (fun h => hm (Or.inr (Or.inl h))) (fun h => hm (Or.inr (Or.inr h)))))) ⟨hv3.1, by first | exact q_3bbf258e8 h_14 ha1 | omega⟩ (Or.inl (by first | exact q_514734711 h_14 | omega))
        · refine v_ic_le_f (t := 122) rfl rfl ⟨(Int.le_trans (by decide) ha1.1), (Int.not_le.mp h_14), (Int.le_trans hv3.2 (by decide))⟩ (q_aload_n rfl rfl (q_iconst rfl (q_iload_n rfl rfl (v_cv rfl rfl rfl rfl (Nat.le_of_ble_eq_true rfl) ⟨⟨rfl, rfl⟩, Nat.le_of_ble_eq_true rfl, rfl⟩ (Nat.le_of_ble_eq_true rfl) (Nat.le_of_ble_eq_true rfl) (s_7 (a1 := 2) (a2 := v2) hI2 (show 1 ≤ 2 ∧ 2 ≤ 3 from ⟨by decide, by decide⟩) (show 0 ≤ v2 ∧ v2 ≤ 600 from hv2) (fun c_15 hI_16 hF_17 h_18 => (bk_inl ?_)))))))
          have h_19 := ir_1_4 hI_16
          refine q_iconst rfl (q_iret rfl rfl ?_)
          exact K c_15 0 hI_16 (fun a j hm => (hF_17 a j (fun q => q.elim (fun h => hm (Or.inr (Or.inl h))) (fun h => hm (Or.inr (Or.inr h))))).trans (hF a j (fun q => q.elim (fun h => hm (Or.inl h)) (fun q => q.elim (fun h => hm (Or.inr (Or.inl h))) (fun h => hm (Or.inr (Or.inr h))))))) ⟨by decide, by decide⟩ (Or.inr (by first | decide | (clear ha1 hv2 hv3 h_1 h_2 h_4 h_11 h_13 h_14 h_19 h_18; omega) | omega))
      · refine v_ic_lt_f (t := 109) rfl rfl ⟨by decide, (Int.not_lt.mp h_13), by first | exact q_4e52e4576 h_11 | omega⟩ (q_aload_n rfl rfl (v_gr (t := 2) rfl rfl rfl (Nat.le_of_ble_eq_true rfl) rfl (q_aload_n rfl rfl (v_gi (z := 2) (v := c2 1 2) rfl rfl rfl (Nat.le_of_ble_eq_true rfl) rfl rfl rfl (v_ba (v := c 2 (c2 1 2)) rfl rfl (by decide) (by decide) ⟨h_1.1, by first | exact q_364416c3d h_2 h_4 | omega⟩ (hid kn_12) (v_bip rfl (by decide) ?_))))))
        by_cases h_20 : c 2 (c2 1 2) > 57
        · refine v_ic_gt_t (t := 109) rfl rfl ⟨by decide, h_20, by first | exact q_4e52e4576 h_11 | omega⟩ (q_iload_n rfl rfl (q_iload_n rfl rfl ?_))
          by_cases h_21 : v3 ≤ a1
          · refine v_ic_le_t (t := 122) rfl rfl ⟨(Int.le_trans (by decide) hv3.1), h_21, (Int.le_trans ha1.2 (by decide))⟩ (q_iload_n rfl rfl (q_iret rfl rfl ?_))
            exact K c2 v3 hI2 (fun a j hm => hF a j (fun q => q.elim (fun h => hm (Or.inl h)) (fun q => q.elim (fun h => hm (Or.inr (Or.inl h))) (fun h => hm (Or.inr (Or.inr h)))))) ⟨hv3.1, by first | exact q_3bbf258e8 h_21 ha1 | omega⟩ (Or.inl (by first | exact q_514734711 h_21 | omega))
          · refine v_ic_le_f (t := 122) rfl rfl ⟨(Int.le_trans (by decide) ha1.1), (Int.not_le.mp h_21), (Int.le_trans hv3.2 (by decide))⟩ (q_aload_n rfl rfl (q_iconst rfl (q_iload_n rfl rfl (v_cv rfl rfl rfl rfl (Nat.le_of_ble_eq_true rfl) ⟨⟨rfl, rfl⟩, Nat.le_of_ble_eq_true rfl, rfl⟩ (Nat.le_of_ble_eq_true rfl) (Nat.le_of_ble_eq_true rfl) (s_7 (a1 := 2) (a2 := v2) hI2 (show 1 ≤ 2 ∧ 2 ≤ 3 from ⟨by decide, by decide⟩) (show 0 ≤ v2 ∧ v2 ≤ 600 from hv2) (fun c_22 hI_23 hF_24 h_25 => (bk_inl ?_)))))))
            have h_26 := ir_1_4 hI_23
            refine q_iconst rfl (q_iret rfl rfl ?_)
            exact K c_22 0 hI_23 (fun a j hm => (hF_24 a j (fun q => q.elim (fun h => hm (Or.inr (Or.inl h))) (fun h => hm (Or.inr (Or.inr h))))).trans (hF a j (fun q => q.elim (fun h => hm (Or.inl h)) (fun q => q.elim (fun h => hm (Or.inr (Or.inl h))) (fun h => hm (Or.inr (Or.inr h))))))) ⟨by decide, by decide⟩ (Or.inr (by first | decide | (clear ha1 hv2 hv3 h_1 h_2 h_4 h_11 h_13 h_20 h_21 h_26 h_25; omega) | omega))
        · refine v_ic_gt_f (t := 109) rfl rfl ⟨by first | exact q_993cab007 h_13 | omega, (Int.not_lt.mp h_20), by decide⟩ (q_iload_n rfl rfl (v_bip rfl (by decide) (v_imul (v := 10 * v3) rfl (by omega) (q_aload_n rfl rfl (v_gr (t := 2) rfl rfl rfl (Nat.le_of_ble_eq_true rfl) rfl (q_aload_n rfl rfl (v_gi (z := 2) (v := c2 1 2) rfl rfl rfl (Nat.le_of_ble_eq_true rfl) rfl rfl rfl ?_)))))))
          refine v_ba (v := c 2 (c2 1 2)) rfl rfl (by decide) (by decide) ⟨h_1.1, by first | exact q_364416c3d h_2 h_4 | omega⟩ (hid kn_12) (v_iadd (v := c 2 (c2 1 2) + 10 * v3) rfl (by omega) (v_bip rfl (by decide) (v_isub (v := c 2 (c2 1 2) + 10 * v3 - 48) rfl rfl (v_ldc (n := 99999) rfl rfl (by decide +kernel) (v_minx rfl rfl (by omega) (Nat.le_of_ble_eq_true rfl) ⟨by omega, by omega, by omega, by omega⟩ (fun y_27 hy_27 => (q_istore_n rfl (Nat.le_of_ble_eq_true rfl) (q_aload_n rfl rfl ?_))))))))
          refine q_dup rfl rfl (v_gi (z := 2) (v := c2 1 2) rfl rfl rfl (Nat.le_of_ble_eq_true rfl) rfl rfl rfl (q_iconst rfl (v_iadd (v := c2 1 2 + 1) rfl rfl (v_pi (z := 2) rfl rfl rfl (Nat.le_of_ble_eq_true rfl) rfl rfl rfl (by decide) (q_goto (t := 34) rfl rfl ?_)))))
          have hI_28 := iw_1_2 (v := c2 1 2 + 1) hI2 ⟨by first | exact rgp_l h_1.1 (by decide) | omega, by first | exact q_e9d2b66ad h_2 h_4 | omega⟩
          refine Wp_ls [(0, .ref 1), (1, vi a1), (2, vi v2), (3, vi y_27)] (lsub_cons rfl (lsub_cons rfl (lsub_cons rfl (lsub_cons rfl lsub_nil)))) ?_
          have h_29 : (up c2 1 2 (c2 1 2 + 1)) 1 2 = c2 1 2 + 1 := (up_e rfl)
          exact ih (up c2 1 2 (c2 1 2 + 1)) v2 y_27 hI_28 (fun a j hm => (up_b (Decidable.or_iff_not_imp_left.mpr (fun h1 h2 => hm (Or.inl ⟨Decidable.not_not.mp h1, h2⟩)))).trans (hF a j (fun q => q.elim (fun h => hm (Or.inl h)) (fun q => q.elim (fun h => hm (Or.inr (Or.inl h))) (fun h => hm (Or.inr (Or.inr h))))))) hv2 ⟨by omega, by omega⟩ (by omega)
set_option maxRecDepth 100000 in
set_option maxHeartbeats 4000000 in
theorem s_8 {sc : List Int32} {e : Int} {d u P Q : Nat} {c : ME} {a1 : Int} {Z : AR → Prop} (hI : Iv u e P Q c) (ha1 : (-1) ≤ a1 ∧ a1 ≤ 9999) (K : ∀ (c2 : ME) (y : Int), Iv u e P Q c2 → (∀ (a : Nat) (j : Int), ¬ ((a = 1 ∧ j = 2) ∨ (a = 1 ∧ j = 4) ∨ (a = 1 ∧ j = 5)) → c2 a j = c a j) → 0 ≤ y ∧ y ≤ 9999 → ((y ≤ a1) ∨ (y = 0)) → Z (.inl (some (vi y)), Wd P Q P P c2, 0, 0)) : Wp sc (d + 9) 8 0 [(0, .ref 1), (1, vi a1)] [] (Wd P Q P P c) 0 0 Z := by
  have hP := iv_P hI
  have hQ := iv_Q hI
  refine q_aload_n rfl rfl (v_cv rfl rfl rfl rfl (Nat.le_of_ble_eq_true rfl) ⟨⟨rfl, rfl⟩, Nat.le_of_ble_eq_true rfl, rfl⟩ (Nat.le_of_ble_eq_true rfl) (Nat.le_of_ble_eq_true rfl) (q_aload_n rfl rfl ?_))
  have h_31 := ir_1_4 hI
  refine v_gi (z := 4) (v := c 1 4) rfl rfl rfl (Nat.le_of_ble_eq_true rfl) rfl rfl rfl ?_
  by_cases h_32 : c 1 4 ≠ 0
  · refine v_if_ne_t (t := 11) rfl rfl ⟨h_32, ⟨(Int.le_trans (by decide) h_31.1), (Int.le_trans h_31.2 (by decide))⟩, by decide, by decide⟩ (q_iconst rfl (v_zret rfl rfl (by decide) (bk_inl (v_if_ne_f (t := 9) rfl rfl (by decide) (q_iconst rfl (q_iret rfl rfl ?_))))))
    exact K c 0 hI (fun a j hm => rfl) ⟨by decide, by decide⟩ (Or.inr (by first | decide | (clear ha1 h_31 h_32; omega) | omega))
  · refine v_if_ne_f (t := 11) rfl rfl (Decidable.not_not.mp h_32) (q_iconst rfl (q_goto (t := 12) rfl rfl (v_zret rfl rfl (by decide) (bk_inl (v_if_ne_t (t := 9) rfl rfl (by decide) (q_aload_n rfl rfl (v_cv rfl rfl rfl rfl (Nat.le_of_ble_eq_true rfl) ⟨⟨rfl, rfl⟩, Nat.le_of_ble_eq_true rfl, rfl⟩ (Nat.le_of_ble_eq_true rfl) (Nat.le_of_ble_eq_true rfl) (s_6 hI (fun c_33 y_36 hI_34 hF_35 hy_36 h_37 => ?_)))))))))
    refine bk_inl ?_
    have h_38 := ir_1_1 hI_34
    have h_39 := ir_1_2 hI_34
    by_cases h_40 : y_36 ≠ 0
    · refine v_if_ne_t (t := 27) rfl rfl ⟨h_40, ⟨(Int.le_trans (by decide) hy_36.1), (Int.le_trans hy_36.2 (by decide))⟩, by decide, by decide⟩ (q_aload_n rfl rfl (v_gi (z := 2) (v := c_33 1 2) rfl rfl rfl (Nat.le_of_ble_eq_true rfl) rfl rfl rfl (q_istore_n rfl (Nat.le_of_ble_eq_true rfl) (q_iconst rfl (q_istore_n rfl (Nat.le_of_ble_eq_true rfl) (Wp_ls [(0, .ref 1), (1, vi a1), (2, vi (c_33 1 2)), (3, vi 0)] (lsub_cons rfl (lsub_cons rfl (lsub_cons rfl (lsub_cons rfl lsub_nil)))) ?_))))))
      exact (s_8_l (sc := sc) (d := d) hI ha1 K 1204) c_33 (c_33 1 2) 0 hI_34 (fun a j hm => hF_35 a j (fun h => hm (Or.inl h))) h_39 ⟨by decide, by decide⟩ (by omega)
    · refine v_if_ne_f (t := 27) rfl rfl (Decidable.not_not.mp h_40) (q_aload_n rfl rfl (q_iconst rfl (q_aload_n rfl rfl (v_gi (z := 2) (v := c_33 1 2) rfl rfl rfl (Nat.le_of_ble_eq_true rfl) rfl rfl rfl (v_cv rfl rfl rfl rfl (Nat.le_of_ble_eq_true rfl) ⟨⟨rfl, rfl⟩, Nat.le_of_ble_eq_true rfl, rfl⟩ (Nat.le_of_ble_eq_true rfl) (Nat.le_of_ble_eq_true rfl) (s_7 (a1 := 1) (a2 := c_33 1 2) hI_34 (show 1 ≤ 1 ∧ 1 ≤ 3 from ⟨by decide, by decide⟩) (show 0 ≤ c_33 1 2 ∧ c_33 1 2 ≤ 600 from h_39) (fun c_41 hI_42 hF_43 h_44 => (bk_inl ?_))))))))
      have h_45 := ir_1_4 hI_42
      refine q_iconst rfl (q_iret rfl rfl ?_)
      exact K c_41 0 hI_42 (fun a j hm => (hF_43 a j (fun q => q.elim (fun h => hm (Or.inr (Or.inl h))) (fun h => hm (Or.inr (Or.inr h))))).trans (hF_35 a j (fun h => hm (Or.inl h)))) ⟨by decide, by decide⟩ (Or.inr (by first | decide | (clear ha1 h_31 h_32 h_38 h_39 h_40 h_45 h_37 h_44; omega) | omega))

set_option maxRecDepth 100000 in
set_option maxHeartbeats 4000000 in
theorem s_9_l {sc : List Int32} {e : Int} {d u P Q : Nat} {q nt : Nat} {c : ME} {a2 : Int} {a3 : Int} {a4 : Int} {Z : AR → Prop} (hI : Iv u e P Q c) (hq : q < sN) (hnt : (sB q).length = nt) (hn9 : nt ≤ 100) (ha2 : 0 ≤ a2 ∧ a2 ≤ 100) (ha3 : 0 ≤ a3 ∧ a3 ≤ 600) (ha4 : 0 ≤ a4 ∧ a4 ≤ 600) (hq0 : (a2 + a4 ≤ nt)) (hq1 : (a3 + a4 ≤ 600)) (K : ∀ (y : Int), 0 ≤ y ∧ y ≤ 1 → Z (.inl (some (vi y)), Wd P Q P P c, 0, 0)) : ∀ n : Nat, (∀ (v5 : Int), 0 ≤ v5 ∧ v5 ≤ 600 → 1201 - 2 * v5 < (n : Int) → Wp sc (d + 7) 9 3 [(0, .ref 1), (1, .ref (a_SB + q)), (2, vi a2), (3, vi a3), (4, vi a4), (5, vi v5)] [] (Wd P Q P P c) 0 0 Z)
  | 0 => by intro v5 hv5 hm9; have hP := iv_P hI; have hQ := iv_Q hI; exfalso; omega
  | n + 1 => by
    have hP := iv_P hI
    have hQ := iv_Q hI
    have ih := s_9_l (sc := sc) (d := d) hI hq hnt hn9 ha2 ha3 ha4 hq0 hq1 K n
    intro v5 hv5 hm9
    refine q_iload rfl rfl (q_iload rfl rfl ?_)
    by_cases h_1 : v5 ≥ a4
    · refine v_ic_ge_t (t := 38) rfl rfl ⟨(Int.le_trans (by decide) ha4.1), h_1, (Int.le_trans hv5.2 (by decide))⟩ (q_iconst rfl (v_zret rfl rfl (by decide) ?_))
      exact K 1 ⟨by decide, by decide⟩
    · refine v_ic_ge_f (t := 38) rfl rfl ⟨(Int.le_trans (by decide) hv5.1), (Int.not_le.mp h_1), (Int.le_trans ha4.2 (by decide))⟩ (q_aload_n rfl rfl (q_iload_n rfl rfl (q_iload rfl rfl (v_iadd (v := a2 + v5) rfl rfl (v_schx rfl rfl (by omega) (Nat.le_of_ble_eq_true rfl) hq hnt ⟨by omega, by omega⟩ hn9 (fun y_2 hy_2 => (q_aload_n rfl rfl (v_gr (t := 2) rfl rfl rfl (Nat.le_of_ble_eq_true rfl) rfl ?_))))))))
      refine q_iload_n rfl rfl (q_iload rfl rfl (v_iadd (v := a3 + v5) rfl rfl ?_))
      have h_3 := ir_2 hI (a3 + v5)
      refine v_ba (v := c 2 (a3 + v5)) rfl rfl (by decide) (by decide) ⟨by first | exact q_06511f6df ha3 hv5 | omega, by first | exact q_4a9017cbe h_1 hq1 | omega⟩ rfl ?_
      by_cases h_4 : y_2 = c 2 (a3 + v5)
      · refine v_ic_eq_t (t := 32) rfl rfl h_4 (v_iinc (v := v5 + 1) rfl rfl (Nat.le_of_ble_eq_true rfl) rfl (q_goto (t := 3) rfl rfl (Wp_ls [(0, .ref 1), (1, .ref (a_SB + q)), (2, vi a2), (3, vi a3), (4, vi a4), (5, vi (v5 + 1))] (lsub_cons rfl (lsub_cons rfl (lsub_cons rfl (lsub_cons rfl (lsub_cons rfl (lsub_cons rfl lsub_nil)))))) ?_)))
        exact ih (v5 + 1) ⟨by first | exact rgp_l hv5.1 (by decide) | omega, by omega⟩ (by omega)
      · refine v_ic_eq_f (t := 32) rfl rfl ⟨h_4, ⟨hy_2.1, hy_2.2⟩, h_3.1, h_3.2⟩ (q_iconst rfl (v_zret rfl rfl (by decide) ?_))
        exact K 0 ⟨by decide, by decide⟩
set_option maxRecDepth 100000 in
set_option maxHeartbeats 4000000 in
theorem s_9 {sc : List Int32} {e : Int} {d u P Q : Nat} {q nt : Nat} {c : ME} {a2 : Int} {a3 : Int} {a4 : Int} {Z : AR → Prop} (hI : Iv u e P Q c) (hq : q < sN) (hnt : (sB q).length = nt) (hn9 : nt ≤ 100) (ha2 : 0 ≤ a2 ∧ a2 ≤ 100) (ha3 : 0 ≤ a3 ∧ a3 ≤ 600) (ha4 : 0 ≤ a4 ∧ a4 ≤ 600) (hq0 : (a2 + a4 ≤ nt)) (hq1 : (a3 + a4 ≤ 600)) (K : ∀ (y : Int), 0 ≤ y ∧ y ≤ 1 → Z (.inl (some (vi y)), Wd P Q P P c, 0, 0)) : Wp sc (d + 7) 9 0 [(0, .ref 1), (1, .ref (a_SB + q)), (2, vi a2), (3, vi a3), (4, vi a4)] [] (Wd P Q P P c) 0 0 Z := by
  have hP := iv_P hI
  have hQ := iv_Q hI
  refine q_iconst rfl (q_istore rfl (Nat.le_of_ble_eq_true rfl) (Wp_ls [(0, .ref 1), (1, .ref (a_SB + q)), (2, vi a2), (3, vi a3), (4, vi a4), (5, vi 0)] (lsub_cons rfl (lsub_cons rfl (lsub_cons rfl (lsub_cons rfl (lsub_cons rfl (lsub_cons rfl lsub_nil)))))) ?_))
  exact (s_9_l (sc := sc) (d := d) hI hq hnt hn9 ha2 ha3 ha4 hq0 hq1 K 1204) 0 ⟨by decide, by decide⟩ (by omega)

set_option maxRecDepth 100000 in
set_option maxHeartbeats 4000000 in
theorem s_10_l {sc : List Int32} {e : Int} {d u P Q : Nat} {q nt : Nat} {c : ME} {Z : AR → Prop} (hI : Iv u e P Q c) (hq : q < sN) (hnt : (sB q).length = nt) (hn9 : nt ≤ 100) (K : ∀ (c2 : ME) (y : Int), Iv u e P Q c2 → (∀ (a : Nat) (j : Int), ¬ ((a = 1 ∧ j = 2) ∨ (a = 1 ∧ j = 4) ∨ (a = 1 ∧ j = 5)) → c2 a j = c a j) → (-1) ≤ y ∧ y ≤ 100 → ((y ≥ 0) ∨ (c2 1 4 ≠ 0)) → Z (.inl (some (vi y)), Wd P Q P P c2, 0, 0)) : ∀ n : Nat, (∀ (c2 : ME) (v2 : Int) (v3 : Int), Iv u e P Q c2 → (∀ (a : Nat) (j : Int), ¬ ((a = 1 ∧ j = 2) ∨ (a = 1 ∧ j = 4) ∨ (a = 1 ∧ j = 5)) → c2 a j = c a j) → 0 ≤ v2 ∧ v2 ≤ 600 → 0 ≤ v3 ∧ v3 ≤ 600 → 1406 - 2 * v3 < (n : Int) → Wp sc (d + 8) 10 7 [(0, .ref 1), (1, .ref (a_SB + q)), (2, vi v2), (3, vi v3)] [] (Wd P Q P P c2) 0 0 Z) ∧ (∀ (c2 : ME) (v2 : Int) (v3 : Int) (v4 : Int) (v5 : Int) (v6 : Int), Iv u e P Q c2 → (∀ (a : Nat) (j : Int), ¬ ((a = 1 ∧ j = 2) ∨ (a = 1 ∧ j = 4) ∨ (a = 1 ∧ j = 5)) → c2 a j = c a j) → 0 ≤ v2 ∧ v2 ≤ 600 → 0 ≤ v3 ∧ v3 ≤ 600 → 0 ≤ v4 ∧ v4 ≤ 101 → 0 ≤ v5 ∧ v5 ≤ 101 → 0 ≤ v6 ∧ v6 ≤ 101 → ((v5 ≤ v6)) → ((v4 ≤ v6)) → ((v6 ≤ nt + 1)) → 203 - 2 * v6 < (n : Int) → Wp sc (d + 8) 10 52 [(0, .ref 1), (1, .ref (a_SB + q)), (2, vi v2), (3, vi v3), (4, vi v4), (5, vi v5), (6, vi v6)] [] (Wd P Q P P c2) 0 0 Z)
  | 0 => by exact ⟨by (intro c2 v2 v3 hI2 hF hv2 hv3 hm9; have hP := iv_P hI; have hQ := iv_Q hI; exfalso; omega), by (intro c2 v2 v3 v4 v5 v6 hI2 hF hv2 hv3 hv4 hv5 hv6 hx0 hx1 hx2 hm9; have hP := iv_P hI; have hQ := iv_Q hI; exfalso; omega)⟩
  | n + 1 => by
    have hP := iv_P hI
    have hQ := iv_Q hI
    have ih := s_10_l (sc := sc) (d := d) hI hq hnt hn9 K n
    refine ⟨?_, ?_⟩
    · skip
      intro c2 v2 v3 hI2 hF hv2 hv3 hm9
      refine q_iload_n rfl rfl (q_aload_n rfl rfl ?_)
      have h_1 := ir_1_1 hI
      have kn_2 : Hid (c2 1 1 = c 1 1) := hF 1 1 (fun q => q.elim (fun h => absurd h.2 (ni rfl)) (fun q => q.elim (fun h => absurd h.2 (ni rfl)) (fun h => absurd h.2 (ni rfl))))
      refine v_gi (z := 1) (v := c 1 1) rfl rfl rfl (Nat.le_of_ble_eq_true rfl) rfl rfl (hid kn_2) ?_
      by_cases h_3 : v3 ≥ c 1 1
      · refine v_ic_ge_t (t := 43) rfl rfl ⟨by first | exact q_3b2b08511 h_1 | omega, h_3, (Int.le_trans hv3.2 (by decide))⟩ (q_iconst rfl (q_istore rfl (Nat.le_of_ble_eq_true rfl) (q_iconst rfl (q_istore rfl (Nat.le_of_ble_eq_true rfl) (q_iconst rfl (q_istore rfl (Nat.le_of_ble_eq_true rfl) (Wp_ls [(0, .ref 1), (1, .ref (a_SB + q)), (2, vi v2), (3, vi v3), (4, vi 0), (5, vi 0), (6, vi 0)] (lsub_cons rfl (lsub_cons rfl (lsub_cons rfl (lsub_cons rfl (lsub_cons rfl (lsub_cons rfl (lsub_cons rfl lsub_nil))))))) ?_)))))))
        exact ih.2 c2 v2 v3 0 0 0 hI2 (fun a j hm => hF a j (fun q => q.elim (fun h => hm (Or.inl h)) (fun q => q.elim (fun h => hm (Or.inr (Or.inl h))) (fun h => hm (Or.inr (Or.inr h)))))) hv2 hv3 ⟨by decide, by decide⟩ ⟨by decide, by decide⟩ ⟨by decide, by decide⟩ (by first | decide | omega) (by first | decide | omega) (by omega) (by omega)
      · refine v_ic_ge_f (t := 43) rfl rfl ⟨(Int.le_trans (by decide) hv3.1), (Int.not_le.mp h_3), by first | exact q_3885e607f h_1 | omega⟩ (q_aload_n rfl rfl (v_gr (t := 2) rfl rfl rfl (Nat.le_of_ble_eq_true rfl) rfl (q_iload_n rfl rfl ?_)))
        have h_4 := ir_2 hI v3
        have kn_5 : Hid (c2 2 v3 = c 2 v3) := hF 2 v3 (fun q => q.elim (fun h => absurd h.1 (nn rfl)) (fun q => q.elim (fun h => absurd h.1 (nn rfl)) (fun h => absurd h.1 (nn rfl))))
        refine v_ba (v := c 2 v3) rfl rfl (by decide) (by decide) ⟨hv3.1, by first | exact q_364416c3d h_1 h_3 | omega⟩ (hid kn_5) (v_bip rfl (by decide) ?_)
        by_cases h_6 : c 2 v3 < 97
        · refine v_ic_lt_t (t := 43) rfl rfl ⟨by first | exact q_cc1935a2a h_4 | omega, h_6, by decide⟩ (q_iconst rfl (q_istore rfl (Nat.le_of_ble_eq_true rfl) (q_iconst rfl (q_istore rfl (Nat.le_of_ble_eq_true rfl) (q_iconst rfl (q_istore rfl (Nat.le_of_ble_eq_true rfl) (Wp_ls [(0, .ref 1), (1, .ref (a_SB + q)), (2, vi v2), (3, vi v3), (4, vi 0), (5, vi 0), (6, vi 0)] (lsub_cons rfl (lsub_cons rfl (lsub_cons rfl (lsub_cons rfl (lsub_cons rfl (lsub_cons rfl (lsub_cons rfl lsub_nil))))))) ?_)))))))
          exact ih.2 c2 v2 v3 0 0 0 hI2 (fun a j hm => hF a j (fun q => q.elim (fun h => hm (Or.inl h)) (fun q => q.elim (fun h => hm (Or.inr (Or.inl h))) (fun h => hm (Or.inr (Or.inr h)))))) hv2 hv3 ⟨by decide, by decide⟩ ⟨by decide, by decide⟩ ⟨by decide, by decide⟩ (by first | decide | omega) (by first | decide | omega) (by omega) (by omega)
        · refine v_ic_lt_f (t := 43) rfl rfl ⟨by decide, (Int.not_lt.mp h_6), by first | exact q_4e52e4576 h_4 | omega⟩ (q_aload_n rfl rfl (v_gr (t := 2) rfl rfl rfl (Nat.le_of_ble_eq_true rfl) rfl (q_iload_n rfl rfl (v_ba (v := c 2 v3) rfl rfl (by decide) (by decide) ⟨hv3.1, by first | exact q_364416c3d h_1 h_3 | omega⟩ (hid kn_5) (v_bip rfl (by decide) ?_)))))
          by_cases h_7 : c 2 v3 > 122
          · refine v_ic_gt_t (t := 43) rfl rfl ⟨by decide, h_7, by first | exact q_4e52e4576 h_4 | omega⟩ (q_iconst rfl (q_istore rfl (Nat.le_of_ble_eq_true rfl) (q_iconst rfl (q_istore rfl (Nat.le_of_ble_eq_true rfl) (q_iconst rfl (q_istore rfl (Nat.le_of_ble_eq_true rfl) (Wp_ls [(0, .ref 1), (1, .ref (a_SB + q)), (2, vi v2), (3, vi v3), (4, vi 0), (5, vi 0), (6, vi 0)] (lsub_cons rfl (lsub_cons rfl (lsub_cons rfl (lsub_cons rfl (lsub_cons rfl (lsub_cons rfl (lsub_cons rfl lsub_nil))))))) ?_)))))))
            exact ih.2 c2 v2 v3 0 0 0 hI2 (fun a j hm => hF a j (fun q => q.elim (fun h => hm (Or.inl h)) (fun q => q.elim (fun h => hm (Or.inr (Or.inl h))) (fun h => hm (Or.inr (Or.inr h)))))) hv2 hv3 ⟨by decide, by decide⟩ ⟨by decide, by decide⟩ ⟨by decide, by decide⟩ (by first | decide | omega) (by first | decide | omega) (by omega) (by omega)
          · refine v_ic_gt_f (t := 43) rfl rfl ⟨by first | exact q_831bb82af h_6 | omega, (Int.not_lt.mp h_7), by decide⟩ (v_iinc (v := v3 + 1) rfl rfl (Nat.le_of_ble_eq_true rfl) rfl (q_goto (t := 7) rfl rfl (Wp_ls [(0, .ref 1), (1, .ref (a_SB + q)), (2, vi v2), (3, vi (v3 + 1))] (lsub_cons rfl (lsub_cons rfl (lsub_cons rfl (lsub_cons rfl lsub_nil)))) ?_)))
            exact ih.1 c2 v2 (v3 + 1) hI2 (fun a j hm => hF a j (fun q => q.elim (fun h => hm (Or.inl h)) (fun q => q.elim (fun h => hm (Or.inr (Or.inl h))) (fun h => hm (Or.inr (Or.inr h)))))) hv2 ⟨by first | exact rgp_l hv3.1 (by decide) | omega, by first | exact q_e9d2b66ad h_1 h_3 | omega⟩ (by omega)
    · skip
      intro c2 v2 v3 v4 v5 v6 hI2 hF hv2 hv3 hv4 hv5 hv6 hx0 hx1 hx2 hm9
      refine q_iload rfl rfl (q_aload_n rfl rfl (v_sln nt rfl rfl (by omega) (Nat.le_of_ble_eq_true rfl) hq hnt ?_))
      by_cases h_8 : v6 > nt
      · refine v_ic_gt_t (t := 136) rfl rfl ⟨by omega, h_8, (Int.le_trans hv6.2 (by decide))⟩ (q_aload_n rfl rfl (q_iconst rfl (q_iload_n rfl rfl (v_cv rfl rfl rfl rfl (Nat.le_of_ble_eq_true rfl) ⟨⟨rfl, rfl⟩, Nat.le_of_ble_eq_true rfl, rfl⟩ (Nat.le_of_ble_eq_true rfl) (Nat.le_of_ble_eq_true rfl) (s_7 (a1 := 1) (a2 := v2) hI2 (show 1 ≤ 1 ∧ 1 ≤ 3 from ⟨by decide, by decide⟩) (show 0 ≤ v2 ∧ v2 ≤ 600 from hv2) (fun c_9 hI_10 hF_11 h_12 => (bk_inl ?_)))))))
        have h_13 := ir_1_4 hI_10
        refine q_iconst rfl (q_iret rfl rfl ?_)
        exact K c_9 (-1) hI_10 (fun a j hm => (hF_11 a j (fun q => q.elim (fun h => hm (Or.inr (Or.inl h))) (fun h => hm (Or.inr (Or.inr h))))).trans (hF a j (fun q => q.elim (fun h => hm (Or.inl h)) (fun q => q.elim (fun h => hm (Or.inr (Or.inl h))) (fun h => hm (Or.inr (Or.inr h))))))) ⟨by decide, by decide⟩ (Or.inr (by omega))
      · refine v_ic_gt_f (t := 136) rfl rfl ⟨(Int.le_trans (by decide) hv6.1), (Int.not_lt.mp h_8), by omega⟩ (q_aload_n rfl rfl (v_cv rfl rfl rfl rfl (Nat.le_of_ble_eq_true rfl) ⟨⟨rfl, rfl⟩, Nat.le_of_ble_eq_true rfl, rfl⟩ (Nat.le_of_ble_eq_true rfl) (Nat.le_of_ble_eq_true rfl) (q_aload_n rfl rfl ?_)))
        have h_14 := ir_1_4 hI2
        refine v_gi (z := 4) (v := c2 1 4) rfl rfl rfl (Nat.le_of_ble_eq_true rfl) rfl rfl rfl ?_
        by_cases h_15 : c2 1 4 ≠ 0
        · refine v_if_ne_t (t := 11) rfl rfl ⟨h_15, ⟨(Int.le_trans (by decide) h_14.1), (Int.le_trans h_14.2 (by decide))⟩, by decide, by decide⟩ (q_iconst rfl (v_zret rfl rfl (by decide) (bk_inl (v_if_eq_t (t := 136) rfl rfl (by decide) (q_aload_n rfl rfl (q_iconst rfl (q_iload_n rfl rfl ?_)))))))
          refine v_cv rfl rfl rfl rfl (Nat.le_of_ble_eq_true rfl) ⟨⟨rfl, rfl⟩, Nat.le_of_ble_eq_true rfl, rfl⟩ (Nat.le_of_ble_eq_true rfl) (Nat.le_of_ble_eq_true rfl) (s_7 (a1 := 1) (a2 := v2) hI2 (show 1 ≤ 1 ∧ 1 ≤ 3 from ⟨by decide, by decide⟩) (show 0 ≤ v2 ∧ v2 ≤ 600 from hv2) (fun c_16 hI_17 hF_18 h_19 => (bk_inl ?_)))
          have h_20 := ir_1_4 hI_17
          refine q_iconst rfl (q_iret rfl rfl ?_)
          exact K c_16 (-1) hI_17 (fun a j hm => (hF_18 a j (fun q => q.elim (fun h => hm (Or.inr (Or.inl h))) (fun h => hm (Or.inr (Or.inr h))))).trans (hF a j (fun q => q.elim (fun h => hm (Or.inl h)) (fun q => q.elim (fun h => hm (Or.inr (Or.inl h))) (fun h => hm (Or.inr (Or.inr h))))))) ⟨by decide, by decide⟩ (Or.inr (by first | (clear hv2 hv3 hv4 hv5 hv6 hx0 hx1 hx2 h_8 h_14 h_15; omega) | omega))
        · refine v_if_ne_f (t := 11) rfl rfl (Decidable.not_not.mp h_15) (q_iconst rfl (q_goto (t := 12) rfl rfl (v_zret rfl rfl (by decide) (bk_inl (v_if_eq_f (t := 136) rfl rfl (by decide) (q_iload rfl rfl (q_aload_n rfl rfl ?_)))))))
          refine v_sln nt rfl rfl (by omega) (Nat.le_of_ble_eq_true rfl) hq hnt ?_
          by_cases h_21 : v6 = nt
          · refine v_ic_eq_t (t := 88) rfl rfl h_21 (q_iload rfl rfl (q_iload rfl rfl (v_isub (v := v6 - v5) rfl rfl (q_iload_n rfl rfl (q_iload_n rfl rfl (v_isub (v := v3 - v2) rfl rfl ?_))))))
            by_cases h_22 : v6 - v5 ≠ v3 - v2
            · refine v_ic_ne_t (t := 121) rfl rfl ⟨h_22, ⟨by omega, by first | exact q_95fe11e65 hv5 hv6 | omega⟩, by first | exact q_7129fde9c hv2 hv3 | omega, by first | exact q_2ad8cd73d hv2 hv3 | omega⟩ (v_iinc (v := v4 + 1) rfl rfl (Nat.le_of_ble_eq_true rfl) rfl (q_iload rfl rfl (q_iconst rfl (v_iadd (v := v6 + 1) rfl rfl (q_istore rfl (Nat.le_of_ble_eq_true rfl) (v_iinc (v := v6 + 1) rfl rfl (Nat.le_of_ble_eq_true rfl) rfl (q_goto (t := 52) rfl rfl ?_)))))))
              refine Wp_ls [(0, .ref 1), (1, .ref (a_SB + q)), (2, vi v2), (3, vi v3), (4, vi (v4 + 1)), (5, vi (v6 + 1)), (6, vi (v6 + 1))] (lsub_cons rfl (lsub_cons rfl (lsub_cons rfl (lsub_cons rfl (lsub_cons rfl (lsub_cons rfl (lsub_cons rfl lsub_nil))))))) ?_
              exact ih.2 c2 v2 v3 (v4 + 1) (v6 + 1) (v6 + 1) hI2 (fun a j hm => hF a j (fun q => q.elim (fun h => hm (Or.inl h)) (fun q => q.elim (fun h => hm (Or.inr (Or.inl h))) (fun h => hm (Or.inr (Or.inr h)))))) hv2 hv3 ⟨by first | exact rgp_l hv4.1 (by decide) | omega, by first | (clear hv2 hv3 hv4 hv5 hv6 hx0 hx2 h_14 h_15 h_21 h_22; omega) | omega⟩ ⟨by first | exact rgp_l hv6.1 (by decide) | omega, by first | (clear hv2 hv3 hv4 hv5 hv6 hx0 hx1 hx2 h_14 h_15 h_21 h_22; omega) | omega⟩ ⟨by first | exact rgp_l hv6.1 (by decide) | omega, by first | (clear hv2 hv3 hv4 hv5 hv6 hx0 hx1 hx2 h_14 h_15 h_21 h_22; omega) | omega⟩ (by first | exact q_3bb02af3e | (clear hv2 hv3 hv4 hv5 hv6 hx0 hx1 hx2 h_8 h_14 h_15 h_21 h_22; omega) | omega) (by first | (clear hv2 hv3 hv4 hv5 hv6 hx0 hx2 h_8 h_14 h_15 h_21 h_22; omega) | omega) (by first | exact q_78480ff12 h_8 | (clear hv2 hv3 hv4 hv5 hv6 hx0 hx1 hx2 h_14 h_15 h_21 h_22; omega) | omega) (by omega)
            · refine v_ic_ne_f (t := 121) rfl rfl (Decidable.not_not.mp h_22) (q_aload_n rfl rfl (q_aload_n rfl rfl (q_iload rfl rfl (q_iload_n rfl rfl (q_iload_n rfl rfl (q_iload_n rfl rfl (v_isub (v := v3 - v2) rfl rfl ?_)))))))
              refine v_cv rfl rfl rfl rfl (Nat.le_of_ble_eq_true rfl) ⟨⟨rfl, rfl⟩, Nat.le_of_ble_eq_true rfl, rfl⟩ (Nat.le_of_ble_eq_true rfl) (Nat.le_of_ble_eq_true rfl) (s_9 (a2 := v5) (a3 := v2) (a4 := v3 - v2) hI2 hq hnt hn9 (show 0 ≤ v5 ∧ v5 ≤ 100 from ⟨hv5.1, by omega⟩) (show 0 ≤ v2 ∧ v2 ≤ 600 from hv2) (show 0 ≤ v3 - v2 ∧ v3 - v2 ≤ 600 from ⟨by omega, by first | exact q_9e10f4d12 h_22 hv5 hv6 | omega⟩) (by first | exact q_73a1117df h_22 h_8 | omega) (by first | exact q_c7aae8bb3 hv3 | omega) (fun y_23 hy_23 => (bk_inl ?_)))
              by_cases h_24 : y_23 = 0
              · refine v_if_eq_t (t := 121) rfl rfl h_24 (v_iinc (v := v4 + 1) rfl rfl (Nat.le_of_ble_eq_true rfl) rfl (q_iload rfl rfl (q_iconst rfl (v_iadd (v := v6 + 1) rfl rfl (q_istore rfl (Nat.le_of_ble_eq_true rfl) (v_iinc (v := v6 + 1) rfl rfl (Nat.le_of_ble_eq_true rfl) rfl (q_goto (t := 52) rfl rfl ?_)))))))
                refine Wp_ls [(0, .ref 1), (1, .ref (a_SB + q)), (2, vi v2), (3, vi v3), (4, vi (v4 + 1)), (5, vi (v6 + 1)), (6, vi (v6 + 1))] (lsub_cons rfl (lsub_cons rfl (lsub_cons rfl (lsub_cons rfl (lsub_cons rfl (lsub_cons rfl (lsub_cons rfl lsub_nil))))))) ?_
                exact ih.2 c2 v2 v3 (v4 + 1) (v6 + 1) (v6 + 1) hI2 (fun a j hm => hF a j (fun q => q.elim (fun h => hm (Or.inl h)) (fun q => q.elim (fun h => hm (Or.inr (Or.inl h))) (fun h => hm (Or.inr (Or.inr h)))))) hv2 hv3 ⟨by first | exact rgp_l hv4.1 (by decide) | omega, by first | (clear hv2 hv3 hv4 hv5 hv6 hx0 hx2 h_14 h_15 h_21 h_22 h_24; omega) | omega⟩ ⟨by first | exact rgp_l hv6.1 (by decide) | omega, by first | (clear hv2 hv3 hv4 hv5 hv6 hx0 hx1 hx2 h_14 h_15 h_21 h_22 h_24; omega) | omega⟩ ⟨by first | exact rgp_l hv6.1 (by decide) | omega, by first | (clear hv2 hv3 hv4 hv5 hv6 hx0 hx1 hx2 h_14 h_15 h_21 h_22 h_24; omega) | omega⟩ (by first | exact q_3bb02af3e | (clear hv2 hv3 hv4 hv5 hv6 hx0 hx1 hx2 h_8 h_14 h_15 h_21 h_22 h_24; omega) | omega) (by first | (clear hv2 hv3 hv4 hv5 hv6 hx0 hx2 h_8 h_14 h_15 h_21 h_22 h_24; omega) | omega) (by first | exact q_78480ff12 h_8 | (clear hv2 hv3 hv4 hv5 hv6 hx0 hx1 hx2 h_14 h_15 h_21 h_22 h_24; omega) | omega) (by omega)
              · refine v_if_eq_f (t := 121) rfl rfl ⟨h_24, ⟨(Int.le_trans (by decide) hy_23.1), (Int.le_trans hy_23.2 (by decide))⟩, by decide, by decide⟩ (q_aload_n rfl rfl (q_iload_n rfl rfl (v_pi (z := 2) rfl rfl rfl (Nat.le_of_ble_eq_true rfl) rfl rfl rfl (by decide) (q_iload rfl rfl (q_iret rfl rfl ?_)))))
                have hI_25 := iw_1_2 (v := v3) hI2 ⟨hv3.1, hv3.2⟩
                have h_26 : (up c2 1 2 v3) 1 4 = c2 1 4 := (up_n (by decide))
                exact K (up c2 1 2 v3) v4 hI_25 (fun a j hm => (up_b (Decidable.or_iff_not_imp_left.mpr (fun h1 h2 => hm (Or.inl ⟨Decidable.not_not.mp h1, h2⟩)))).trans (hF a j (fun q => q.elim (fun h => hm (Or.inl h)) (fun q => q.elim (fun h => hm (Or.inr (Or.inl h))) (fun h => hm (Or.inr (Or.inr h))))))) ⟨(Int.le_trans (by decide) hv4.1), by first | (clear hv2 hv3 hv4 hv5 hv6 hx0 hx2 h_14 h_15 h_21 h_22 h_24; omega) | omega⟩ (Or.inl (by first | exact q_fdb951d2d hv4 | (clear hv2 hv3 hv5 hv6 hx0 hx1 hx2 h_8 h_14 h_15 h_21 h_22 h_24; omega) | omega))
          · refine v_ic_eq_f (t := 88) rfl rfl ⟨h_21, ⟨(Int.le_trans (by decide) hv6.1), (Int.le_trans hv6.2 (by decide))⟩, by omega, by omega⟩ (q_aload_n rfl rfl (q_iload rfl rfl (v_schx rfl rfl (by omega) (Nat.le_of_ble_eq_true rfl) hq hnt ⟨by omega, by omega⟩ hn9 (fun y_27 hy_27 => (v_bip rfl (by decide) ?_)))))
            by_cases h_28 : y_27 ≠ 32
            · refine v_ic_ne_t (t := 130) rfl rfl ⟨h_28, ⟨hy_27.1, hy_27.2⟩, by decide, by decide⟩ (v_iinc (v := v6 + 1) rfl rfl (Nat.le_of_ble_eq_true rfl) rfl (q_goto (t := 52) rfl rfl (Wp_ls [(0, .ref 1), (1, .ref (a_SB + q)), (2, vi v2), (3, vi v3), (4, vi v4), (5, vi v5), (6, vi (v6 + 1))] (lsub_cons rfl (lsub_cons rfl (lsub_cons rfl (lsub_cons rfl (lsub_cons rfl (lsub_cons rfl (lsub_cons rfl lsub_nil))))))) ?_)))
              exact ih.2 c2 v2 v3 v4 v5 (v6 + 1) hI2 (fun a j hm => hF a j (fun q => q.elim (fun h => hm (Or.inl h)) (fun q => q.elim (fun h => hm (Or.inr (Or.inl h))) (fun h => hm (Or.inr (Or.inr h)))))) hv2 hv3 hv4 hv5 ⟨by first | exact rgp_l hv6.1 (by decide) | omega, by first | (clear hv2 hv3 hv4 hv5 hv6 hx0 hx1 hx2 h_14 h_15 h_21 h_28; omega) | omega⟩ (by first | (clear hv2 hv3 hv4 hv5 hv6 hx1 hx2 h_8 h_14 h_15 h_21 h_28; omega) | omega) (by first | (clear hv2 hv3 hv4 hv5 hv6 hx0 hx2 h_8 h_14 h_15 h_21 h_28; omega) | omega) (by first | exact q_78480ff12 h_8 | (clear hv2 hv3 hv4 hv5 hv6 hx0 hx1 hx2 h_14 h_15 h_21 h_28; omega) | omega) (by omega)
            · refine v_ic_ne_f (t := 130) rfl rfl (Decidable.not_not.mp h_28) (q_iload rfl rfl (q_iload rfl rfl (v_isub (v := v6 - v5) rfl rfl (q_iload_n rfl rfl (q_iload_n rfl rfl (v_isub (v := v3 - v2) rfl rfl ?_))))))
              by_cases h_29 : v6 - v5 ≠ v3 - v2
              · refine v_ic_ne_t (t := 121) rfl rfl ⟨h_29, ⟨by first | (clear hv2 hv3 hv4 hv5 hv6 hx1 hx2 h_8 h_14 h_15 h_28 h_21; omega) | omega, by first | exact q_95fe11e65 hv5 hv6 | (clear hv2 hv3 hv4 hx0 hx1 hx2 h_8 h_14 h_15 h_28 h_21; omega) | omega⟩, by first | exact q_7129fde9c hv2 hv3 | (clear hv4 hv5 hv6 hx0 hx1 hx2 h_8 h_14 h_15 h_28 h_21; omega) | omega, by first | exact q_2ad8cd73d hv2 hv3 | (clear hv4 hv5 hv6 hx0 hx1 hx2 h_8 h_14 h_15 h_28 h_21; omega) | omega⟩ (v_iinc (v := v4 + 1) rfl rfl (Nat.le_of_ble_eq_true rfl) rfl (q_iload rfl rfl (q_iconst rfl (v_iadd (v := v6 + 1) rfl rfl (q_istore rfl (Nat.le_of_ble_eq_true rfl) (v_iinc (v := v6 + 1) rfl rfl (Nat.le_of_ble_eq_true rfl) rfl (q_goto (t := 52) rfl rfl ?_)))))))
                refine Wp_ls [(0, .ref 1), (1, .ref (a_SB + q)), (2, vi v2), (3, vi v3), (4, vi (v4 + 1)), (5, vi (v6 + 1)), (6, vi (v6 + 1))] (lsub_cons rfl (lsub_cons rfl (lsub_cons rfl (lsub_cons rfl (lsub_cons rfl (lsub_cons rfl (lsub_cons rfl lsub_nil))))))) ?_
                exact ih.2 c2 v2 v3 (v4 + 1) (v6 + 1) (v6 + 1) hI2 (fun a j hm => hF a j (fun q => q.elim (fun h => hm (Or.inl h)) (fun q => q.elim (fun h => hm (Or.inr (Or.inl h))) (fun h => hm (Or.inr (Or.inr h)))))) hv2 hv3 ⟨by first | exact rgp_l hv4.1 (by decide) | omega, by first | (clear hv2 hv3 hv4 hv5 hv6 hx0 hx2 h_14 h_15 h_28 h_21 h_29; omega) | omega⟩ ⟨by first | exact rgp_l hv6.1 (by decide) | omega, by first | (clear hv2 hv3 hv4 hv5 hv6 hx0 hx1 hx2 h_14 h_15 h_28 h_21 h_29; omega) | omega⟩ ⟨by first | exact rgp_l hv6.1 (by decide) | omega, by first | (clear hv2 hv3 hv4 hv5 hv6 hx0 hx1 hx2 h_14 h_15 h_28 h_21 h_29; omega) | omega⟩ (by first | exact q_3bb02af3e | (clear hv2 hv3 hv4 hv5 hv6 hx0 hx1 hx2 h_8 h_14 h_15 h_28 h_21 h_29; omega) | omega) (by first | (clear hv2 hv3 hv4 hv5 hv6 hx0 hx2 h_8 h_14 h_15 h_28 h_21 h_29; omega) | omega) (by first | exact q_78480ff12 h_8 | (clear hv2 hv3 hv4 hv5 hv6 hx0 hx1 hx2 h_14 h_15 h_28 h_21 h_29; omega) | omega) (by omega)
              · refine v_ic_ne_f (t := 121) rfl rfl (Decidable.not_not.mp h_29) (q_aload_n rfl rfl (q_aload_n rfl rfl (q_iload rfl rfl (q_iload_n rfl rfl (q_iload_n rfl rfl (q_iload_n rfl rfl (v_isub (v := v3 - v2) rfl rfl ?_)))))))
                refine v_cv rfl rfl rfl rfl (Nat.le_of_ble_eq_true rfl) ⟨⟨rfl, rfl⟩, Nat.le_of_ble_eq_true rfl, rfl⟩ (Nat.le_of_ble_eq_true rfl) (Nat.le_of_ble_eq_true rfl) (s_9 (a2 := v5) (a3 := v2) (a4 := v3 - v2) hI2 hq hnt hn9 (show 0 ≤ v5 ∧ v5 ≤ 100 from ⟨hv5.1, by first | (clear hv2 hv3 hv4 hv5 hv6 hx1 hx2 h_14 h_15 h_28 h_29 h_21; omega) | omega⟩) (show 0 ≤ v2 ∧ v2 ≤ 600 from hv2) (show 0 ≤ v3 - v2 ∧ v3 - v2 ≤ 600 from ⟨by first | (clear hv2 hv3 hv4 hv5 hv6 hx1 hx2 h_8 h_14 h_15 h_28 h_21; omega) | omega, by first | exact q_9e10f4d12 h_29 hv5 hv6 | (clear hv2 hv3 hv4 hx0 hx1 hx2 h_8 h_14 h_15 h_28 h_21; omega) | omega⟩) (by first | exact q_73a1117df h_29 h_8 | (clear hv2 hv3 hv4 hv5 hv6 hx0 hx1 hx2 h_14 h_15 h_28 h_21; omega) | omega) (by first | exact q_c7aae8bb3 hv3 | (clear hv2 hv4 hv5 hv6 hx0 hx1 hx2 h_8 h_14 h_15 h_28 h_29 h_21; omega) | omega) (fun y_30 hy_30 => (bk_inl ?_)))
                by_cases h_31 : y_30 = 0
                · refine v_if_eq_t (t := 121) rfl rfl h_31 (v_iinc (v := v4 + 1) rfl rfl (Nat.le_of_ble_eq_true rfl) rfl (q_iload rfl rfl (q_iconst rfl (v_iadd (v := v6 + 1) rfl rfl (q_istore rfl (Nat.le_of_ble_eq_true rfl) (v_iinc (v := v6 + 1) rfl rfl (Nat.le_of_ble_eq_true rfl) rfl (q_goto (t := 52) rfl rfl ?_)))))))
                  refine Wp_ls [(0, .ref 1), (1, .ref (a_SB + q)), (2, vi v2), (3, vi v3), (4, vi (v4 + 1)), (5, vi (v6 + 1)), (6, vi (v6 + 1))] (lsub_cons rfl (lsub_cons rfl (lsub_cons rfl (lsub_cons rfl (lsub_cons rfl (lsub_cons rfl (lsub_cons rfl lsub_nil))))))) ?_
                  exact ih.2 c2 v2 v3 (v4 + 1) (v6 + 1) (v6 + 1) hI2 (fun a j hm => hF a j (fun q => q.elim (fun h => hm (Or.inl h)) (fun q => q.elim (fun h => hm (Or.inr (Or.inl h))) (fun h => hm (Or.inr (Or.inr h)))))) hv2 hv3 ⟨by first | exact rgp_l hv4.1 (by decide) | omega, by first | (clear hv2 hv3 hv4 hv5 hv6 hx0 hx2 h_14 h_15 h_28 h_29 h_31 h_21; omega) | omega⟩ ⟨by first | exact rgp_l hv6.1 (by decide) | omega, by first | (clear hv2 hv3 hv4 hv5 hv6 hx0 hx1 hx2 h_14 h_15 h_28 h_29 h_31 h_21; omega) | omega⟩ ⟨by first | exact rgp_l hv6.1 (by decide) | omega, by first | (clear hv2 hv3 hv4 hv5 hv6 hx0 hx1 hx2 h_14 h_15 h_28 h_29 h_31 h_21; omega) | omega⟩ (by first | exact q_3bb02af3e | (clear hv2 hv3 hv4 hv5 hv6 hx0 hx1 hx2 h_8 h_14 h_15 h_28 h_29 h_31 h_21; omega) | omega) (by first | (clear hv2 hv3 hv4 hv5 hv6 hx0 hx2 h_8 h_14 h_15 h_28 h_29 h_31 h_21; omega) | omega) (by first | exact q_78480ff12 h_8 | (clear hv2 hv3 hv4 hv5 hv6 hx0 hx1 hx2 h_14 h_15 h_28 h_29 h_31 h_21; omega) | omega) (by omega)
                · refine v_if_eq_f (t := 121) rfl rfl ⟨h_31, ⟨(Int.le_trans (by decide) hy_30.1), (Int.le_trans hy_30.2 (by decide))⟩, by decide, by decide⟩ (q_aload_n rfl rfl (q_iload_n rfl rfl (v_pi (z := 2) rfl rfl rfl (Nat.le_of_ble_eq_true rfl) rfl rfl rfl (by decide) (q_iload rfl rfl (q_iret rfl rfl ?_)))))
                  have hI_32 := iw_1_2 (v := v3) hI2 ⟨hv3.1, hv3.2⟩
                  have h_33 : (up c2 1 2 v3) 1 4 = c2 1 4 := (up_n (by decide))
                  exact K (up c2 1 2 v3) v4 hI_32 (fun a j hm => (up_b (Decidable.or_iff_not_imp_left.mpr (fun h1 h2 => hm (Or.inl ⟨Decidable.not_not.mp h1, h2⟩)))).trans (hF a j (fun q => q.elim (fun h => hm (Or.inl h)) (fun q => q.elim (fun h => hm (Or.inr (Or.inl h))) (fun h => hm (Or.inr (Or.inr h))))))) ⟨(Int.le_trans (by decide) hv4.1), by first | (clear hv2 hv3 hv4 hv5 hv6 hx0 hx2 h_14 h_15 h_28 h_29 h_21 h_31; omega) | omega⟩ (Or.inl (by first | exact q_fdb951d2d hv4 | (clear hv2 hv3 hv5 hv6 hx0 hx1 hx2 h_8 h_14 h_15 h_28 h_29 h_21 h_31; omega) | omega))
set_option maxRecDepth 100000 in
set_option maxHeartbeats 4000000 in
theorem s_10 {sc : List Int32} {e : Int} {d u P Q : Nat} {q nt : Nat} {c : ME} {Z : AR → Prop} (hI : Iv u e P Q c) (hq : q < sN) (hnt : (sB q).length = nt) (hn9 : nt ≤ 100) (K : ∀ (c2 : ME) (y : Int), Iv u e P Q c2 → (∀ (a : Nat) (j : Int), ¬ ((a = 1 ∧ j = 2) ∨ (a = 1 ∧ j = 4) ∨ (a = 1 ∧ j = 5)) → c2 a j = c a j) → (-1) ≤ y ∧ y ≤ 100 → ((y ≥ 0) ∨ (c2 1 4 ≠ 0)) → Z (.inl (some (vi y)), Wd P Q P P c2, 0, 0)) : Wp sc (d + 8) 10 0 [(0, .ref 1), (1, .ref (a_SB + q))] [] (Wd P Q P P c) 0 0 Z := by
  have hP := iv_P hI
  have hQ := iv_Q hI
  refine q_aload_n rfl rfl (v_cv rfl rfl rfl rfl (Nat.le_of_ble_eq_true rfl) ⟨⟨rfl, rfl⟩, Nat.le_of_ble_eq_true rfl, rfl⟩ (Nat.le_of_ble_eq_true rfl) (Nat.le_of_ble_eq_true rfl) (s_3 hI (fun c_34 y_37 hI_35 hF_36 hy_37 h_38 => (bk_inl ?_))))
  have h_39 := ir_1_2 hI_35
  refine q_istore_n rfl (Nat.le_of_ble_eq_true rfl) (q_iload_n rfl rfl (q_istore_n rfl (Nat.le_of_ble_eq_true rfl) (Wp_ls [(0, .ref 1), (1, .ref (a_SB + q)), (2, vi y_37), (3, vi y_37)] (lsub_cons rfl (lsub_cons rfl (lsub_cons rfl (lsub_cons rfl lsub_nil)))) ?_)))
  exact (s_10_l (sc := sc) (d := d) hI hq hnt hn9 K 1409).1 c_34 y_37 y_37 hI_35 (fun a j hm => hF_36 a j (fun h => hm (Or.inl h))) hy_37 hy_37 (by omega)

set_option maxRecDepth 100000 in
set_option maxHeartbeats 4000000 in
theorem s_11 {sc : List Int32} {e : Int} {d u P Q : Nat} {q nt : Nat} {c : ME} {Z : AR → Prop} (hI : Iv u e P Q c) (hq : q < sN) (hnt : (sB q).length = nt) (hn9 : nt ≤ 100) (K : ∀ (c2 : ME), Iv u e P Q c2 → (∀ (a : Nat) (j : Int), ¬ ((a = 1 ∧ j = 2) ∨ (a = 1 ∧ j = 4) ∨ (a = 1 ∧ j = 5)) → c2 a j = c a j) → Z (.inl (none), Wd P Q P P c2, 0, 0)) : Wp sc (d + 9) 11 0 [(0, .ref 1), (1, .ref (a_SB + q))] [] (Wd P Q P P c) 0 0 Z := by
  have hP := iv_P hI
  have hQ := iv_Q hI
  refine q_aload_n rfl rfl (v_cv rfl rfl rfl rfl (Nat.le_of_ble_eq_true rfl) ⟨⟨rfl, rfl⟩, Nat.le_of_ble_eq_true rfl, rfl⟩ (Nat.le_of_ble_eq_true rfl) (Nat.le_of_ble_eq_true rfl) (q_aload_n rfl rfl ?_))
  have h_1 := ir_1_4 hI
  refine v_gi (z := 4) (v := c 1 4) rfl rfl rfl (Nat.le_of_ble_eq_true rfl) rfl rfl rfl ?_
  by_cases h_2 : c 1 4 ≠ 0
  · refine v_if_ne_t (t := 11) rfl rfl ⟨h_2, ⟨(Int.le_trans (by decide) h_1.1), (Int.le_trans h_1.2 (by decide))⟩, by decide, by decide⟩ (q_iconst rfl (v_zret rfl rfl (by decide) (bk_inl (v_if_eq_t (t := 25) rfl rfl (by decide) (q_vret rfl rfl ?_)))))
    exact K c hI (fun a j hm => rfl)
  · refine v_if_ne_f (t := 11) rfl rfl (Decidable.not_not.mp h_2) (q_iconst rfl (q_goto (t := 12) rfl rfl (v_zret rfl rfl (by decide) (bk_inl (v_if_eq_f (t := 25) rfl rfl (by decide) (q_aload_n rfl rfl (q_aload_n rfl rfl ?_)))))))
    refine v_cv rfl rfl rfl rfl (Nat.le_of_ble_eq_true rfl) ⟨⟨rfl, rfl⟩, Nat.le_of_ble_eq_true rfl, rfl⟩ (Nat.le_of_ble_eq_true rfl) (Nat.le_of_ble_eq_true rfl) (s_4 hI hq hnt hn9 (fun c_3 y_6 hI_4 hF_5 hy_6 => (bk_inl (q_iconst rfl ?_))))
    by_cases h_7 : y_6 ≠ (-1)
    · refine v_ic_ne_t (t := 25) rfl rfl ⟨h_7, ⟨(Int.le_trans (by decide) hy_6.1), (Int.le_trans hy_6.2 (by decide))⟩, by decide, by decide⟩ (q_vret rfl rfl ?_)
      exact K c_3 hI_4 (fun a j hm => hF_5 a j (fun h => hm (Or.inl h)))
    · refine v_ic_ne_f (t := 25) rfl rfl (Decidable.not_not.mp h_7) (q_aload_n rfl rfl (q_iconst rfl (q_aload_n rfl rfl ?_)))
      have h_8 := ir_1_2 hI_4
      refine v_gi (z := 2) (v := c_3 1 2) rfl rfl rfl (Nat.le_of_ble_eq_true rfl) rfl rfl rfl (v_cv rfl rfl rfl rfl (Nat.le_of_ble_eq_true rfl) ⟨⟨rfl, rfl⟩, Nat.le_of_ble_eq_true rfl, rfl⟩ (Nat.le_of_ble_eq_true rfl) (Nat.le_of_ble_eq_true rfl) (s_7 (a1 := 1) (a2 := c_3 1 2) hI_4 (show 1 ≤ 1 ∧ 1 ≤ 3 from ⟨by decide, by decide⟩) (show 0 ≤ c_3 1 2 ∧ c_3 1 2 ≤ 600 from h_8) (fun c_9 hI_10 hF_11 h_12 => (bk_inl ?_))))
      have h_13 := ir_1_4 hI_10
      refine q_vret rfl rfl ?_
      exact K c_9 hI_10 (fun a j hm => (hF_11 a j (fun q => q.elim (fun h => hm (Or.inr (Or.inl h))) (fun h => hm (Or.inr (Or.inr h))))).trans (hF_5 a j (fun h => hm (Or.inl h))))

set_option maxRecDepth 100000 in
set_option maxHeartbeats 4000000 in
theorem s_14 {sc : List Int32} {e : Int} {d u P Q A : Nat} {c : ME} {a2 : Int} {Z : AR → Prop} (hI : Iv u e P Q c) (hA : A = 13 ∨ A = 25) (ha2 : 0 ≤ a2 ∧ a2 ≤ 6) (H13 : ∀ (c : ME) (Z : AR → Prop), a2 + 1 ≤ 6 → Iv u e P Q c → (∀ c2 : ME, Iv u e P Q c2 → (∀ (a : Nat) (j : Int), ¬ ((a = 1 ∧ j = 2) ∨ (a = 1 ∧ j = 4) ∨ (a = 1 ∧ j = 5) ∨ (a = (A + 7) ∧ j = 5) ∨ a = (A + 9)) → c2 a j = c a j) → Z (.inl none, Wd P Q P P c2, 0, 0)) → Wp sc (d + 11) 13 0 [(0, .ref (A + 7)), (1, .ref 1), (2, vi (a2 + 1))] [] (Wd P Q P P c) 0 0 Z) (K : ∀ (c2 : ME), Iv u e P Q c2 → (∀ (a : Nat) (j : Int), ¬ ((a = 1 ∧ j = 2) ∨ (a = 1 ∧ j = 4) ∨ (a = 1 ∧ j = 5) ∨ (a = (A + 7) ∧ j = 5) ∨ a = (A + 9)) → c2 a j = c a j) → Z (.inl (none), Wd P Q P P c2, 0, 0)) : Wp sc (d + 12) 14 0 [(0, .ref (A + 7)), (1, .ref 1), (2, vi a2)] [] (Wd P Q P P c) 0 0 Z := by
  have hP := iv_P hI
  have hQ := iv_Q hI
  refine q_aload_n rfl rfl (v_cv rfl rfl rfl rfl (Nat.le_of_ble_eq_true rfl) ⟨⟨rfl, rfl⟩, Nat.le_of_ble_eq_true rfl, rfl⟩ (Nat.le_of_ble_eq_true rfl) (Nat.le_of_ble_eq_true rfl) (s_6 hI (fun c_1 y_4 hI_2 hF_3 hy_4 h_5 => (bk_inl ?_))))
  have h_6 := ir_1_1 hI_2
  have h_7 := ir_1_2 hI_2
  by_cases h_8 : y_4 = 0
  · refine v_if_eq_t (t := 19) rfl rfl h_8 (q_aload_n rfl rfl (v_cv rfl rfl rfl rfl (Nat.le_of_ble_eq_true rfl) ⟨⟨rfl, rfl⟩, Nat.le_of_ble_eq_true rfl, rfl⟩ (Nat.le_of_ble_eq_true rfl) (Nat.le_of_ble_eq_true rfl) (s_3 hI_2 (fun c_9 y_12 hI_10 hF_11 hy_12 h_13 => (bk_inl ?_)))))
    have h_14 := ir_1_2 hI_10
    refine q_istore_n rfl (Nat.le_of_ble_eq_true rfl) (q_aload_n rfl rfl (q_ldc_s rfl rfl rfl (by decide) (v_cv rfl rfl rfl rfl (Nat.le_of_ble_eq_true rfl) ⟨⟨rfl, rfl⟩, Nat.le_of_ble_eq_true rfl, rfl⟩ (Nat.le_of_ble_eq_true rfl) (Nat.le_of_ble_eq_true rfl) (s_4 hI_10 (q := 0) (nt := 1) (by decide) (by decide) (by decide) (fun c_15 y_18 hI_16 hF_17 hy_18 => (bk_inl (q_iconst rfl ?_)))))))
    by_cases h_19 : y_18 = (-1)
    · refine v_ic_eq_t (t := 38) rfl rfl h_19 (q_iconst rfl (q_istore rfl (Nat.le_of_ble_eq_true rfl) (q_iload rfl rfl (v_if_eq_t (t := 50) rfl rfl (by decide) (q_aload_n rfl rfl (q_ldc_s rfl rfl rfl (by decide) (v_cv rfl rfl rfl rfl (Nat.le_of_ble_eq_true rfl) ⟨⟨rfl, rfl⟩, Nat.le_of_ble_eq_true rfl, rfl⟩ (Nat.le_of_ble_eq_true rfl) (Nat.le_of_ble_eq_true rfl) (s_10 hI_16 (q := 1) (nt := 47) (by decide) (by decide) (by decide) (fun c_20 y_23 hI_21 hF_22 hy_23 h_24 => ?_)))))))))
      refine bk_inl ?_
      have h_25 := ir_1_4 hI_21
      refine q_istore rfl (Nat.le_of_ble_eq_true rfl) (q_iload rfl rfl (q_iconst rfl ?_))
      by_cases h_26 : y_23 = (-1)
      · refine v_ic_eq_t (t := 82) rfl rfl h_26 (q_iload_n rfl rfl (v_bip rfl (by decide) ?_))
        by_cases h_27 : a2 < 6
        · refine v_ic_lt_t (t := 94) rfl rfl ⟨(Int.le_trans (by decide) ha2.1), h_27, by decide⟩ (q_aload_n rfl rfl (v_cv rfl rfl rfl rfl (Nat.le_of_ble_eq_true rfl) ⟨⟨rfl, rfl⟩, Nat.le_of_ble_eq_true rfl, rfl⟩ (Nat.le_of_ble_eq_true rfl) (Nat.le_of_ble_eq_true rfl) (q_aload_n rfl rfl (v_gi (z := 4) (v := c_20 1 4) rfl rfl rfl (Nat.le_of_ble_eq_true rfl) rfl rfl rfl (v_if_ne_t (t := 11) rfl rfl ⟨by first | (clear ha2 h_6 h_7 h_8 h_14 h_13 h_19 h_27 h_5; omega) | omega, ⟨(Int.le_trans (by decide) h_25.1), (Int.le_trans h_25.2 (by decide))⟩, by decide, by decide⟩ (q_iconst rfl (v_zret rfl rfl (by decide) ?_)))))))
          refine bk_inl (v_if_ne_f (t := 102) rfl rfl (by decide) (q_vret rfl rfl ?_))
          exact K c_20 hI_21 (fun a j hm => (hF_22 a j (fun q => q.elim (fun h => hm (Or.inl h)) (fun q => q.elim (fun h => hm (Or.inr (Or.inl h))) (fun h => hm (Or.inr (Or.inr (Or.inl h))))))).trans ((hF_17 a j (fun h => hm (Or.inl h))).trans ((hF_11 a j (fun h => hm (Or.inl h))).trans (hF_3 a j (fun h => hm (Or.inl h))))))
        · refine v_ic_lt_f (t := 94) rfl rfl ⟨by decide, (Int.not_lt.mp h_27), (Int.le_trans ha2.2 (by decide))⟩ (q_aload_n rfl rfl (q_iconst rfl (q_iload_n rfl rfl (v_cv rfl rfl rfl rfl (Nat.le_of_ble_eq_true rfl) ⟨⟨rfl, rfl⟩, Nat.le_of_ble_eq_true rfl, rfl⟩ (Nat.le_of_ble_eq_true rfl) (Nat.le_of_ble_eq_true rfl) (s_7 (a1 := 3) (a2 := y_12) hI_21 (show 1 ≤ 3 ∧ 3 ≤ 3 from ⟨by decide, by decide⟩) (show 0 ≤ y_12 ∧ y_12 ≤ 600 from hy_12) (fun c_28 hI_29 hF_30 h_31 => (bk_inl ?_)))))))
          have h_32 := ir_1_4 hI_29
          refine q_aload_n rfl rfl (v_cv rfl rfl rfl rfl (Nat.le_of_ble_eq_true rfl) ⟨⟨rfl, rfl⟩, Nat.le_of_ble_eq_true rfl, rfl⟩ (Nat.le_of_ble_eq_true rfl) (Nat.le_of_ble_eq_true rfl) (q_aload_n rfl rfl (v_gi (z := 4) (v := c_28 1 4) rfl rfl rfl (Nat.le_of_ble_eq_true rfl) rfl rfl rfl (v_if_ne_t (t := 11) rfl rfl ⟨by first | (clear ha2 h_6 h_7 h_8 h_14 h_13 h_19 h_25 h_26 h_27 h_5 h_24; omega) | omega, ⟨(Int.le_trans (by decide) h_32.1), (Int.le_trans h_32.2 (by decide))⟩, by decide, by decide⟩ (q_iconst rfl (v_zret rfl rfl (by decide) (bk_inl ?_)))))))
          refine v_if_ne_f (t := 102) rfl rfl (by decide) (q_vret rfl rfl ?_)
          exact K c_28 hI_29 (fun a j hm => (hF_30 a j (fun q => q.elim (fun h => hm (Or.inr (Or.inl h))) (fun h => hm (Or.inr (Or.inr (Or.inl h)))))).trans ((hF_22 a j (fun q => q.elim (fun h => hm (Or.inl h)) (fun q => q.elim (fun h => hm (Or.inr (Or.inl h))) (fun h => hm (Or.inr (Or.inr (Or.inl h))))))).trans ((hF_17 a j (fun h => hm (Or.inl h))).trans ((hF_11 a j (fun h => hm (Or.inl h))).trans (hF_3 a j (fun h => hm (Or.inl h)))))))
      · refine v_ic_eq_f (t := 82) rfl rfl ⟨h_26, ⟨(Int.le_trans (by decide) hy_23.1), (Int.le_trans hy_23.2 (by decide))⟩, by decide, by decide⟩ (q_iload rfl rfl (v_bip rfl (by decide) ?_))
        by_cases h_33 : y_23 ≥ 8
        · refine v_ic_ge_t (t := 82) rfl rfl ⟨by decide, h_33, (Int.le_trans hy_23.2 (by decide))⟩ (q_iload_n rfl rfl (v_bip rfl (by decide) ?_))
          by_cases h_34 : a2 < 6
          · refine v_ic_lt_t (t := 94) rfl rfl ⟨(Int.le_trans (by decide) ha2.1), h_34, by decide⟩ (q_aload_n rfl rfl (v_cv rfl rfl rfl rfl (Nat.le_of_ble_eq_true rfl) ⟨⟨rfl, rfl⟩, Nat.le_of_ble_eq_true rfl, rfl⟩ (Nat.le_of_ble_eq_true rfl) (Nat.le_of_ble_eq_true rfl) (q_aload_n rfl rfl (v_gi (z := 4) (v := c_20 1 4) rfl rfl rfl (Nat.le_of_ble_eq_true rfl) rfl rfl rfl ?_))))
            by_cases h_35 : c_20 1 4 ≠ 0
            · refine v_if_ne_t (t := 11) rfl rfl ⟨h_35, ⟨(Int.le_trans (by decide) h_25.1), (Int.le_trans h_25.2 (by decide))⟩, by decide, by decide⟩ (q_iconst rfl (v_zret rfl rfl (by decide) (bk_inl (v_if_ne_f (t := 102) rfl rfl (by decide) (q_vret rfl rfl ?_)))))
              exact K c_20 hI_21 (fun a j hm => (hF_22 a j (fun q => q.elim (fun h => hm (Or.inl h)) (fun q => q.elim (fun h => hm (Or.inr (Or.inl h))) (fun h => hm (Or.inr (Or.inr (Or.inl h))))))).trans ((hF_17 a j (fun h => hm (Or.inl h))).trans ((hF_11 a j (fun h => hm (Or.inl h))).trans (hF_3 a j (fun h => hm (Or.inl h))))))
            · refine v_if_ne_f (t := 11) rfl rfl (Decidable.not_not.mp h_35) (q_iconst rfl (q_goto (t := 12) rfl rfl (v_zret rfl rfl (by decide) (bk_inl (v_if_ne_t (t := 102) rfl rfl (by decide) (q_iload rfl rfl (v_if_eq_t (t := 124) rfl rfl (by decide) ?_)))))))
              refine q_aload_n rfl rfl (q_ldc_s rfl rfl rfl (by decide) (v_cv rfl rfl rfl rfl (Nat.le_of_ble_eq_true rfl) ⟨⟨rfl, rfl⟩, Nat.le_of_ble_eq_true rfl, rfl⟩ (Nat.le_of_ble_eq_true rfl) (Nat.le_of_ble_eq_true rfl) (s_11 hI_21 (q := 3) (nt := 1) (by decide) (by decide) (by decide) (fun c_36 hI_37 hF_38 => (bk_inl (q_aload_n rfl rfl (q_aload_n rfl rfl (q_iload_n rfl rfl (q_iconst rfl ?_)))))))))
              refine v_iadd (v := a2 + 1) rfl rfl (v_cv rfl rfl rfl (ck_p7 hA) (a68 hA rfl) ⟨⟨rfl, rfl⟩, by decide, rfl⟩ (Nat.le_of_ble_eq_true rfl) (Nat.le_of_ble_eq_true rfl) (H13 _ _ (by omega) hI_37 (fun c_39 hI_40 hF_41 => (bk_inl (q_aload_n rfl rfl (q_ldc_s rfl rfl rfl (by decide) (v_cv rfl rfl rfl rfl (Nat.le_of_ble_eq_true rfl) ⟨⟨rfl, rfl⟩, Nat.le_of_ble_eq_true rfl, rfl⟩ (Nat.le_of_ble_eq_true rfl) (Nat.le_of_ble_eq_true rfl) (s_11 hI_40 (q := 4) (nt := 1) (by decide) (by decide) (by decide) (fun c_42 hI_43 hF_44 => (bk_inl (q_aload_n rfl rfl ?_)))))))))))
              refine q_aload_n rfl rfl (q_iload_n rfl rfl (q_iconst rfl (v_iadd (v := a2 + 1) rfl rfl (v_cv rfl rfl rfl (ck_p7 hA) (a68 hA rfl) ⟨⟨rfl, rfl⟩, by decide, rfl⟩ (Nat.le_of_ble_eq_true rfl) (Nat.le_of_ble_eq_true rfl) (H13 _ _ (by omega) hI_43 (fun c_45 hI_46 hF_47 => (bk_inl (q_aload_n rfl rfl (q_ldc_s rfl rfl rfl (by decide) ?_)))))))))
              refine v_cv rfl rfl rfl rfl (Nat.le_of_ble_eq_true rfl) ⟨⟨rfl, rfl⟩, Nat.le_of_ble_eq_true rfl, rfl⟩ (Nat.le_of_ble_eq_true rfl) (Nat.le_of_ble_eq_true rfl) (s_11 hI_46 (q := 5) (nt := 1) (by decide) (by decide) (by decide) (fun c_48 hI_49 hF_50 => (bk_inl (q_aload_n rfl rfl (v_sip rfl (by decide) (q_iload rfl rfl (v_iadd (v := y_23 + 2005) rfl (by first | (clear ha2 h_6 h_7 h_8 h_14 h_13 h_19 h_25 h_33 h_34 h_35 h_5 h_24 h_26; omega) | omega) (v_bip rfl (by decide) (v_isub (v := y_23 + 1997) rfl (by first | (clear ha2 h_6 h_7 h_8 h_14 h_13 h_19 h_25 h_33 h_34 h_35 h_5 h_24 h_26; omega) | omega) ?_)))))))))
              refine v_cv rfl rfl rfl (ck_p7 hA) (a68 hA rfl) ⟨⟨rfl, rfl⟩, by decide, rfl⟩ (Nat.le_of_ble_eq_true rfl) (Nat.le_of_ble_eq_true rfl) (s_5 (a1 := y_23 + 1997) hI_49 hA (show 0 ≤ y_23 + 1997 ∧ y_23 + 1997 ≤ 3000 from ⟨by first | exact rgp_l hy_23.1 (by decide) | omega, by first | exact rgp_h hy_23.2 (by decide) | omega⟩) (Or.inr (by first | exact q_3b235b8a8 h_33 | (clear ha2 h_6 h_7 h_8 h_14 h_13 h_19 h_25 h_34 h_35 h_5 h_24 h_26; omega) | omega)) (fun c_51 hI_52 hF_53 => (bk_inl (q_vret rfl rfl ?_))))
              exact K c_51 hI_52 (fun a j hm => (hF_53 a j (fun q => q.elim (fun h => hm (Or.inr (Or.inr (Or.inr (Or.inl h))))) (fun h => hm (Or.inr (Or.inr (Or.inr (Or.inr h))))))).trans ((hF_50 a j (fun q => q.elim (fun h => hm (Or.inl h)) (fun q => q.elim (fun h => hm (Or.inr (Or.inl h))) (fun h => hm (Or.inr (Or.inr (Or.inl h))))))).trans ((hF_47 a j (fun q => q.elim (fun h => hm (Or.inl h)) (fun q => q.elim (fun h => hm (Or.inr (Or.inl h))) (fun q => q.elim (fun h => hm (Or.inr (Or.inr (Or.inl h)))) (fun q => q.elim (fun h => hm (Or.inr (Or.inr (Or.inr (Or.inl h))))) (fun h => hm (Or.inr (Or.inr (Or.inr (Or.inr h)))))))))).trans ((hF_44 a j (fun q => q.elim (fun h => hm (Or.inl h)) (fun q => q.elim (fun h => hm (Or.inr (Or.inl h))) (fun h => hm (Or.inr (Or.inr (Or.inl h))))))).trans ((hF_41 a j (fun q => q.elim (fun h => hm (Or.inl h)) (fun q => q.elim (fun h => hm (Or.inr (Or.inl h))) (fun q => q.elim (fun h => hm (Or.inr (Or.inr (Or.inl h)))) (fun q => q.elim (fun h => hm (Or.inr (Or.inr (Or.inr (Or.inl h))))) (fun h => hm (Or.inr (Or.inr (Or.inr (Or.inr h)))))))))).trans ((hF_38 a j (fun q => q.elim (fun h => hm (Or.inl h)) (fun q => q.elim (fun h => hm (Or.inr (Or.inl h))) (fun h => hm (Or.inr (Or.inr (Or.inl h))))))).trans ((hF_22 a j (fun q => q.elim (fun h => hm (Or.inl h)) (fun q => q.elim (fun h => hm (Or.inr (Or.inl h))) (fun h => hm (Or.inr (Or.inr (Or.inl h))))))).trans ((hF_17 a j (fun h => hm (Or.inl h))).trans ((hF_11 a j (fun h => hm (Or.inl h))).trans (hF_3 a j (fun h => hm (Or.inl h))))))))))))
          · refine v_ic_lt_f (t := 94) rfl rfl ⟨by decide, (Int.not_lt.mp h_34), (Int.le_trans ha2.2 (by decide))⟩ (q_aload_n rfl rfl (q_iconst rfl (q_iload_n rfl rfl (v_cv rfl rfl rfl rfl (Nat.le_of_ble_eq_true rfl) ⟨⟨rfl, rfl⟩, Nat.le_of_ble_eq_true rfl, rfl⟩ (Nat.le_of_ble_eq_true rfl) (Nat.le_of_ble_eq_true rfl) (s_7 (a1 := 3) (a2 := y_12) hI_21 (show 1 ≤ 3 ∧ 3 ≤ 3 from ⟨by decide, by decide⟩) (show 0 ≤ y_12 ∧ y_12 ≤ 600 from hy_12) (fun c_54 hI_55 hF_56 h_57 => (bk_inl ?_)))))))
            have h_58 := ir_1_4 hI_55
            refine q_aload_n rfl rfl (v_cv rfl rfl rfl rfl (Nat.le_of_ble_eq_true rfl) ⟨⟨rfl, rfl⟩, Nat.le_of_ble_eq_true rfl, rfl⟩ (Nat.le_of_ble_eq_true rfl) (Nat.le_of_ble_eq_true rfl) (q_aload_n rfl rfl (v_gi (z := 4) (v := c_54 1 4) rfl rfl rfl (Nat.le_of_ble_eq_true rfl) rfl rfl rfl (v_if_ne_t (t := 11) rfl rfl ⟨by first | (clear ha2 h_6 h_7 h_8 h_14 h_13 h_19 h_25 h_33 h_34 h_5 h_24 h_26; omega) | omega, ⟨(Int.le_trans (by decide) h_58.1), (Int.le_trans h_58.2 (by decide))⟩, by decide, by decide⟩ (q_iconst rfl (v_zret rfl rfl (by decide) (bk_inl ?_)))))))
            refine v_if_ne_f (t := 102) rfl rfl (by decide) (q_vret rfl rfl ?_)
            exact K c_54 hI_55 (fun a j hm => (hF_56 a j (fun q => q.elim (fun h => hm (Or.inr (Or.inl h))) (fun h => hm (Or.inr (Or.inr (Or.inl h)))))).trans ((hF_22 a j (fun q => q.elim (fun h => hm (Or.inl h)) (fun q => q.elim (fun h => hm (Or.inr (Or.inl h))) (fun h => hm (Or.inr (Or.inr (Or.inl h))))))).trans ((hF_17 a j (fun h => hm (Or.inl h))).trans ((hF_11 a j (fun h => hm (Or.inl h))).trans (hF_3 a j (fun h => hm (Or.inl h)))))))
        · refine v_ic_ge_f (t := 82) rfl rfl ⟨(Int.le_trans (by decide) hy_23.1), (Int.not_le.mp h_33), by decide⟩ (q_aload_n rfl rfl (v_sip rfl (by decide) (q_iload rfl rfl (v_iadd (v := y_23 + 1000) rfl (by first | (clear ha2 h_6 h_7 h_8 h_14 h_13 h_19 h_25 h_33 h_5 h_24 h_26; omega) | omega) (v_cv rfl rfl rfl (ck_p7 hA) (a68 hA rfl) ⟨⟨rfl, rfl⟩, by decide, rfl⟩ (Nat.le_of_ble_eq_true rfl) (Nat.le_of_ble_eq_true rfl) (s_5 (a1 := y_23 + 1000) hI_21 hA (show 0 ≤ y_23 + 1000 ∧ y_23 + 1000 ≤ 3000 from ⟨by first | exact rgp_l hy_23.1 (by decide) | omega, by first | exact rgp_h hy_23.2 (by decide) | omega⟩) (Or.inl (by first | exact q_119c61ad1 h_33 | (clear ha2 h_6 h_7 h_8 h_14 h_13 h_19 h_25 h_5 h_24 h_26; omega) | omega)) (fun c_59 hI_60 hF_61 => (bk_inl (q_vret rfl rfl ?_)))))))))
          exact K c_59 hI_60 (fun a j hm => (hF_61 a j (fun q => q.elim (fun h => hm (Or.inr (Or.inr (Or.inr (Or.inl h))))) (fun h => hm (Or.inr (Or.inr (Or.inr (Or.inr h))))))).trans ((hF_22 a j (fun q => q.elim (fun h => hm (Or.inl h)) (fun q => q.elim (fun h => hm (Or.inr (Or.inl h))) (fun h => hm (Or.inr (Or.inr (Or.inl h))))))).trans ((hF_17 a j (fun h => hm (Or.inl h))).trans ((hF_11 a j (fun h => hm (Or.inl h))).trans (hF_3 a j (fun h => hm (Or.inl h)))))))
    · refine v_ic_eq_f (t := 38) rfl rfl ⟨h_19, ⟨(Int.le_trans (by decide) hy_18.1), (Int.le_trans hy_18.2 (by decide))⟩, by decide, by decide⟩ (q_iconst rfl (q_goto (t := 39) rfl rfl (q_istore rfl (Nat.le_of_ble_eq_true rfl) (q_iload rfl rfl (v_if_eq_f (t := 50) rfl rfl (by decide) (q_iconst rfl (q_goto (t := 56) rfl rfl ?_)))))))
      refine q_istore rfl (Nat.le_of_ble_eq_true rfl) (q_iload rfl rfl (q_iconst rfl (v_ic_eq_t (t := 82) rfl rfl (by decide) (q_iload_n rfl rfl (v_bip rfl (by decide) ?_)))))
      by_cases h_62 : a2 < 6
      · refine v_ic_lt_t (t := 94) rfl rfl ⟨(Int.le_trans (by decide) ha2.1), h_62, by decide⟩ (q_aload_n rfl rfl (v_cv rfl rfl rfl rfl (Nat.le_of_ble_eq_true rfl) ⟨⟨rfl, rfl⟩, Nat.le_of_ble_eq_true rfl, rfl⟩ (Nat.le_of_ble_eq_true rfl) (Nat.le_of_ble_eq_true rfl) (q_aload_n rfl rfl ?_)))
        have h_63 := ir_1_4 hI
        have kn_64 : Hid (c_1 1 4 = c 1 4) := hF_3 1 4 (fun h => absurd h.2 (ni rfl))
        have kn_65 : Hid (c_9 1 4 = c 1 4) := (hF_11 1 4 (fun h => absurd h.2 (ni rfl))).trans (hid kn_64)
        have kn_66 : Hid (c_15 1 4 = c 1 4) := (hF_17 1 4 (fun h => absurd h.2 (ni rfl))).trans (hid kn_65)
        refine v_gi (z := 4) (v := c 1 4) rfl rfl rfl (Nat.le_of_ble_eq_true rfl) rfl rfl (hid kn_66) ?_
        by_cases h_67 : c 1 4 ≠ 0
        · refine v_if_ne_t (t := 11) rfl rfl ⟨h_67, ⟨by first | exact q_107d648c6 h_63 | (clear ha2 h_6 h_7 h_8 h_14 h_13 h_62 h_5 h_19; omega) | omega, by first | exact q_509aaa6b6 h_63 | (clear ha2 h_6 h_7 h_8 h_14 h_13 h_62 h_5 h_19; omega) | omega⟩, by decide, by decide⟩ (q_iconst rfl (v_zret rfl rfl (by decide) (bk_inl (v_if_ne_f (t := 102) rfl rfl (by decide) (q_vret rfl rfl ?_)))))
          exact K c_15 hI_16 (fun a j hm => (hF_17 a j (fun h => hm (Or.inl h))).trans ((hF_11 a j (fun h => hm (Or.inl h))).trans (hF_3 a j (fun h => hm (Or.inl h)))))
        · refine v_if_ne_f (t := 11) rfl rfl (Decidable.not_not.mp h_67) (q_iconst rfl (q_goto (t := 12) rfl rfl (v_zret rfl rfl (by decide) (bk_inl (v_if_ne_t (t := 102) rfl rfl (by decide) (q_iload rfl rfl (v_if_eq_f (t := 124) rfl rfl (by decide) ?_)))))))
          refine q_aload_n rfl rfl (q_aload_n rfl rfl (q_iload_n rfl rfl (q_iconst rfl (v_iadd (v := a2 + 1) rfl rfl (v_cv rfl rfl rfl (ck_p7 hA) (a68 hA rfl) ⟨⟨rfl, rfl⟩, by decide, rfl⟩ (Nat.le_of_ble_eq_true rfl) (Nat.le_of_ble_eq_true rfl) (H13 _ _ (by omega) hI_16 (fun c_68 hI_69 hF_70 => (bk_inl (q_aload_n rfl rfl ?_)))))))))
          refine q_ldc_s rfl rfl rfl (by decide) (v_cv rfl rfl rfl rfl (Nat.le_of_ble_eq_true rfl) ⟨⟨rfl, rfl⟩, Nat.le_of_ble_eq_true rfl, rfl⟩ (Nat.le_of_ble_eq_true rfl) (Nat.le_of_ble_eq_true rfl) (s_11 hI_69 (q := 2) (nt := 1) (by decide) (by decide) (by decide) (fun c_71 hI_72 hF_73 => (bk_inl (q_goto (t := 171) rfl rfl (q_vret rfl rfl ?_))))))
          exact K c_71 hI_72 (fun a j hm => (hF_73 a j (fun q => q.elim (fun h => hm (Or.inl h)) (fun q => q.elim (fun h => hm (Or.inr (Or.inl h))) (fun h => hm (Or.inr (Or.inr (Or.inl h))))))).trans ((hF_70 a j (fun q => q.elim (fun h => hm (Or.inl h)) (fun q => q.elim (fun h => hm (Or.inr (Or.inl h))) (fun q => q.elim (fun h => hm (Or.inr (Or.inr (Or.inl h)))) (fun q => q.elim (fun h => hm (Or.inr (Or.inr (Or.inr (Or.inl h))))) (fun h => hm (Or.inr (Or.inr (Or.inr (Or.inr h)))))))))).trans ((hF_17 a j (fun h => hm (Or.inl h))).trans ((hF_11 a j (fun h => hm (Or.inl h))).trans (hF_3 a j (fun h => hm (Or.inl h)))))))
      · refine v_ic_lt_f (t := 94) rfl rfl ⟨by decide, (Int.not_lt.mp h_62), (Int.le_trans ha2.2 (by decide))⟩ (q_aload_n rfl rfl (q_iconst rfl (q_iload_n rfl rfl (v_cv rfl rfl rfl rfl (Nat.le_of_ble_eq_true rfl) ⟨⟨rfl, rfl⟩, Nat.le_of_ble_eq_true rfl, rfl⟩ (Nat.le_of_ble_eq_true rfl) (Nat.le_of_ble_eq_true rfl) (s_7 (a1 := 3) (a2 := y_12) hI_16 (show 1 ≤ 3 ∧ 3 ≤ 3 from ⟨by decide, by decide⟩) (show 0 ≤ y_12 ∧ y_12 ≤ 600 from hy_12) (fun c_74 hI_75 hF_76 h_77 => (bk_inl ?_)))))))
        have h_78 := ir_1_4 hI_75
        refine q_aload_n rfl rfl (v_cv rfl rfl rfl rfl (Nat.le_of_ble_eq_true rfl) ⟨⟨rfl, rfl⟩, Nat.le_of_ble_eq_true rfl, rfl⟩ (Nat.le_of_ble_eq_true rfl) (Nat.le_of_ble_eq_true rfl) (q_aload_n rfl rfl (v_gi (z := 4) (v := c_74 1 4) rfl rfl rfl (Nat.le_of_ble_eq_true rfl) rfl rfl rfl (v_if_ne_t (t := 11) rfl rfl ⟨by first | (clear ha2 h_6 h_7 h_8 h_14 h_13 h_62 h_5 h_19; omega) | omega, ⟨(Int.le_trans (by decide) h_78.1), (Int.le_trans h_78.2 (by decide))⟩, by decide, by decide⟩ (q_iconst rfl (v_zret rfl rfl (by decide) (bk_inl ?_)))))))
        refine v_if_ne_f (t := 102) rfl rfl (by decide) (q_vret rfl rfl ?_)
        exact K c_74 hI_75 (fun a j hm => (hF_76 a j (fun q => q.elim (fun h => hm (Or.inr (Or.inl h))) (fun h => hm (Or.inr (Or.inr (Or.inl h)))))).trans ((hF_17 a j (fun h => hm (Or.inl h))).trans ((hF_11 a j (fun h => hm (Or.inl h))).trans (hF_3 a j (fun h => hm (Or.inl h))))))
  · refine v_if_eq_f (t := 19) rfl rfl ⟨h_8, ⟨(Int.le_trans (by decide) hy_4.1), (Int.le_trans hy_4.2 (by decide))⟩, by decide, by decide⟩ (q_aload_n rfl rfl (q_aload_n rfl rfl (v_sip rfl (by decide) (v_cv rfl rfl rfl rfl (Nat.le_of_ble_eq_true rfl) ⟨⟨rfl, rfl⟩, Nat.le_of_ble_eq_true rfl, rfl⟩ (Nat.le_of_ble_eq_true rfl) (Nat.le_of_ble_eq_true rfl) (s_8 (a1 := 999) hI_2 (show (-1) ≤ 999 ∧ 999 ≤ 9999 from ⟨by decide, by decide⟩) (fun c_79 y_82 hI_80 hF_81 hy_82 h_83 => (bk_inl (v_cv rfl rfl rfl (ck_p7 hA) (a68 hA rfl) ⟨⟨rfl, rfl⟩, by decide, rfl⟩ (Nat.le_of_ble_eq_true rfl) (Nat.le_of_ble_eq_true rfl) (s_5 (a1 := y_82) hI_80 hA (show 0 ≤ y_82 ∧ y_82 ≤ 3000 from ⟨hy_82.1, by first | (clear ha2 h_6 h_7 h_5 h_8; omega) | omega⟩) (Or.inl (by first | (clear ha2 h_6 h_7 h_5 h_8; omega) | omega)) (fun c_84 hI_85 hF_86 => (bk_inl ?_)))))))))))
    refine q_vret rfl rfl ?_
    exact K c_84 hI_85 (fun a j hm => (hF_86 a j (fun q => q.elim (fun h => hm (Or.inr (Or.inr (Or.inr (Or.inl h))))) (fun h => hm (Or.inr (Or.inr (Or.inr (Or.inr h))))))).trans ((hF_81 a j (fun q => q.elim (fun h => hm (Or.inl h)) (fun q => q.elim (fun h => hm (Or.inr (Or.inl h))) (fun h => hm (Or.inr (Or.inr (Or.inl h))))))).trans (hF_3 a j (fun h => hm (Or.inl h)))))

set_option maxRecDepth 100000 in
set_option maxHeartbeats 4000000 in
theorem s_12_l {sc : List Int32} {e : Int} {d u P Q A : Nat} {c : ME} {a2 : Int} {Z : AR → Prop} (hI : Iv u e P Q c) (hA : A = 13 ∨ A = 25) (ha2 : 0 ≤ a2 ∧ a2 ≤ 6) (H13 : ∀ (c : ME) (Z : AR → Prop), a2 + 1 ≤ 6 → Iv u e P Q c → (∀ c2 : ME, Iv u e P Q c2 → (∀ (a : Nat) (j : Int), ¬ ((a = 1 ∧ j = 2) ∨ (a = 1 ∧ j = 4) ∨ (a = 1 ∧ j = 5) ∨ (a = (A + 7) ∧ j = 5) ∨ a = (A + 9)) → c2 a j = c a j) → Z (.inl none, Wd P Q P P c2, 0, 0)) → Wp sc (d + 11) 13 0 [(0, .ref (A + 7)), (1, .ref 1), (2, vi (a2 + 1))] [] (Wd P Q P P c) 0 0 Z) (K : ∀ (c2 : ME), Iv u e P Q c2 → (∀ (a : Nat) (j : Int), ¬ ((a = 1 ∧ j = 2) ∨ (a = 1 ∧ j = 4) ∨ (a = 1 ∧ j = 5) ∨ (a = (A + 7) ∧ j = 5) ∨ a = (A + 9)) → c2 a j = c a j) → Z (.inl (none), Wd P Q P P c2, 0, 0)) : ∀ n : Nat, (∀ (c2 : ME) (v3 : Int), Iv u e P Q c2 → (∀ (a : Nat) (j : Int), ¬ ((a = 1 ∧ j = 2) ∨ (a = 1 ∧ j = 4) ∨ (a = 1 ∧ j = 5) ∨ (a = (A + 7) ∧ j = 5) ∨ a = (A + 9)) → c2 a j = c a j) → 0 ≤ v3 ∧ v3 ≤ 150 → 301 - 2 * v3 < (n : Int) → Wp sc (d + 13) 12 8 [(0, .ref (A + 7)), (1, .ref 1), (2, vi a2), (3, vi v3)] [] (Wd P Q P P c2) 0 0 Z)
  | 0 => by intro c2 v3 hI2 hF hv3 hm9; have hP := iv_P hI; have hQ := iv_Q hI; exfalso; omega
  | n + 1 => by
    have hP := iv_P hI
    have hQ := iv_Q hI
    have ih := s_12_l (sc := sc) (d := d) hI hA ha2 H13 K n
    intro c2 v3 hI2 hF hv3 hm9
    refine q_iload_n rfl rfl (v_sip rfl (by decide) ?_)
    by_cases h_1 : v3 ≥ 150
    · refine v_ic_ge_t (t := 59) rfl rfl ⟨by decide, h_1, (Int.le_trans hv3.2 (by decide))⟩ (q_vret rfl rfl ?_)
      exact K c2 hI2 (fun a j hm => hF a j (fun q => q.elim (fun h => hm (Or.inl h)) (fun q => q.elim (fun h => hm (Or.inr (Or.inl h))) (fun q => q.elim (fun h => hm (Or.inr (Or.inr (Or.inl h)))) (fun q => q.elim (fun h => hm (Or.inr (Or.inr (Or.inr (Or.inl h))))) (fun h => hm (Or.inr (Or.inr (Or.inr (Or.inr h))))))))))
    · refine v_ic_ge_f (t := 59) rfl rfl ⟨(Int.le_trans (by decide) hv3.1), (Int.not_le.mp h_1), by decide⟩ (q_aload_n rfl rfl (v_cv rfl rfl rfl rfl (Nat.le_of_ble_eq_true rfl) ⟨⟨rfl, rfl⟩, Nat.le_of_ble_eq_true rfl, rfl⟩ (Nat.le_of_ble_eq_true rfl) (Nat.le_of_ble_eq_true rfl) (q_aload_n rfl rfl ?_)))
      have h_2 := ir_1_4 hI2
      refine v_gi (z := 4) (v := c2 1 4) rfl rfl rfl (Nat.le_of_ble_eq_true rfl) rfl rfl rfl ?_
      by_cases h_3 : c2 1 4 ≠ 0
      · refine v_if_ne_t (t := 11) rfl rfl ⟨h_3, ⟨(Int.le_trans (by decide) h_2.1), (Int.le_trans h_2.2 (by decide))⟩, by decide, by decide⟩ (q_iconst rfl (v_zret rfl rfl (by decide) (bk_inl (v_if_eq_t (t := 59) rfl rfl (by decide) (q_vret rfl rfl ?_)))))
        exact K c2 hI2 (fun a j hm => hF a j (fun q => q.elim (fun h => hm (Or.inl h)) (fun q => q.elim (fun h => hm (Or.inr (Or.inl h))) (fun q => q.elim (fun h => hm (Or.inr (Or.inr (Or.inl h)))) (fun q => q.elim (fun h => hm (Or.inr (Or.inr (Or.inr (Or.inl h))))) (fun h => hm (Or.inr (Or.inr (Or.inr (Or.inr h))))))))))
      · refine v_if_ne_f (t := 11) rfl rfl (Decidable.not_not.mp h_3) (q_iconst rfl (q_goto (t := 12) rfl rfl (v_zret rfl rfl (by decide) (bk_inl (v_if_eq_f (t := 59) rfl rfl (by decide) (q_aload_n rfl rfl (q_ldc_s rfl rfl rfl (by decide) ?_)))))))
        refine v_cv rfl rfl rfl rfl (Nat.le_of_ble_eq_true rfl) ⟨⟨rfl, rfl⟩, Nat.le_of_ble_eq_true rfl, rfl⟩ (Nat.le_of_ble_eq_true rfl) (Nat.le_of_ble_eq_true rfl) (s_4 hI2 (q := 6) (nt := 3) (by decide) (by decide) (by decide) (fun c_4 y_7 hI_5 hF_6 hy_7 => (bk_inl (q_istore rfl (Nat.le_of_ble_eq_true rfl) (q_iload rfl rfl (q_iconst rfl ?_))))))
        by_cases h_8 : y_7 ≠ (-1)
        · refine v_ic_ne_t (t := 37) rfl rfl ⟨h_8, ⟨(Int.le_trans (by decide) hy_7.1), (Int.le_trans hy_7.2 (by decide))⟩, by decide, by decide⟩ (q_aload_n rfl rfl (q_aload_n rfl rfl (q_iload_n rfl rfl (v_cv rfl rfl rfl (ck_p7 hA) (a68 hA rfl) ⟨⟨rfl, rfl⟩, by decide, rfl⟩ (Nat.le_of_ble_eq_true rfl) (Nat.le_of_ble_eq_true rfl) (s_14 (a2 := a2) hI_5 hA (show 0 ≤ a2 ∧ a2 ≤ 6 from ha2) H13 (fun c_9 hI_10 hF_11 => (bk_inl (q_aload_n rfl rfl (v_sip rfl (by decide) ?_)))))))))
          refine q_iload rfl rfl (v_iadd (v := y_7 + 2002) rfl (by first | (clear ha2 hv3 h_1 h_2 h_3 h_8; omega) | omega) (v_cv rfl rfl rfl (ck_p7 hA) (a68 hA rfl) ⟨⟨rfl, rfl⟩, by decide, rfl⟩ (Nat.le_of_ble_eq_true rfl) (Nat.le_of_ble_eq_true rfl) (s_5 (a1 := y_7 + 2002) hI_10 hA (show 0 ≤ y_7 + 2002 ∧ y_7 + 2002 ≤ 3000 from ⟨by first | exact rgp_l hy_7.1 (by decide) | omega, by first | exact rgp_h hy_7.2 (by decide) | omega⟩) (Or.inr (by first | (clear ha2 hv3 h_1 h_2 h_3 h_8; omega) | omega)) (fun c_12 hI_13 hF_14 => (bk_inl (v_iinc (v := v3 + 1) rfl rfl (Nat.le_of_ble_eq_true rfl) rfl (q_goto (t := 8) rfl rfl (Wp_ls [(0, .ref (A + 7)), (1, .ref 1), (2, vi a2), (3, vi (v3 + 1))] (lsub_cons rfl (lsub_cons rfl (lsub_cons rfl (lsub_cons rfl lsub_nil)))) ?_))))))))
          exact ih c_12 (v3 + 1) hI_13 (fun a j hm => (hF_14 a j (fun q => q.elim (fun h => hm (Or.inr (Or.inr (Or.inr (Or.inl h))))) (fun h => hm (Or.inr (Or.inr (Or.inr (Or.inr h))))))).trans ((hF_11 a j (fun q => q.elim (fun h => hm (Or.inl h)) (fun q => q.elim (fun h => hm (Or.inr (Or.inl h))) (fun q => q.elim (fun h => hm (Or.inr (Or.inr (Or.inl h)))) (fun q => q.elim (fun h => hm (Or.inr (Or.inr (Or.inr (Or.inl h))))) (fun h => hm (Or.inr (Or.inr (Or.inr (Or.inr h)))))))))).trans ((hF_6 a j (fun h => hm (Or.inl h))).trans (hF a j (fun q => q.elim (fun h => hm (Or.inl h)) (fun q => q.elim (fun h => hm (Or.inr (Or.inl h))) (fun q => q.elim (fun h => hm (Or.inr (Or.inr (Or.inl h)))) (fun q => q.elim (fun h => hm (Or.inr (Or.inr (Or.inr (Or.inl h))))) (fun h => hm (Or.inr (Or.inr (Or.inr (Or.inr h))))))))))))) ⟨by first | exact rgp_l hv3.1 (by decide) | omega, by first | exact q_e92c430a0 h_1 | (clear ha2 hv3 h_2 h_3 h_8; omega) | omega⟩ (by omega)
        · refine v_ic_ne_f (t := 37) rfl rfl (Decidable.not_not.mp h_8) (q_vret rfl rfl ?_)
          exact K c_4 hI_5 (fun a j hm => (hF_6 a j (fun h => hm (Or.inl h))).trans (hF a j (fun q => q.elim (fun h => hm (Or.inl h)) (fun q => q.elim (fun h => hm (Or.inr (Or.inl h))) (fun q => q.elim (fun h => hm (Or.inr (Or.inr (Or.inl h)))) (fun q => q.elim (fun h => hm (Or.inr (Or.inr (Or.inr (Or.inl h))))) (fun h => hm (Or.inr (Or.inr (Or.inr (Or.inr h)))))))))))
set_option maxRecDepth 100000 in
set_option maxHeartbeats 4000000 in
theorem s_12 {sc : List Int32} {e : Int} {d u P Q A : Nat} {c : ME} {a2 : Int} {Z : AR → Prop} (hI : Iv u e P Q c) (hA : A = 13 ∨ A = 25) (ha2 : 0 ≤ a2 ∧ a2 ≤ 6) (H13 : ∀ (c : ME) (Z : AR → Prop), a2 + 1 ≤ 6 → Iv u e P Q c → (∀ c2 : ME, Iv u e P Q c2 → (∀ (a : Nat) (j : Int), ¬ ((a = 1 ∧ j = 2) ∨ (a = 1 ∧ j = 4) ∨ (a = 1 ∧ j = 5) ∨ (a = (A + 7) ∧ j = 5) ∨ a = (A + 9)) → c2 a j = c a j) → Z (.inl none, Wd P Q P P c2, 0, 0)) → Wp sc (d + 11) 13 0 [(0, .ref (A + 7)), (1, .ref 1), (2, vi (a2 + 1))] [] (Wd P Q P P c) 0 0 Z) (K : ∀ (c2 : ME), Iv u e P Q c2 → (∀ (a : Nat) (j : Int), ¬ ((a = 1 ∧ j = 2) ∨ (a = 1 ∧ j = 4) ∨ (a = 1 ∧ j = 5) ∨ (a = (A + 7) ∧ j = 5) ∨ a = (A + 9)) → c2 a j = c a j) → Z (.inl (none), Wd P Q P P c2, 0, 0)) : Wp sc (d + 13) 12 0 [(0, .ref (A + 7)), (1, .ref 1), (2, vi a2)] [] (Wd P Q P P c) 0 0 Z := by
  have hP := iv_P hI
  have hQ := iv_Q hI
  refine q_aload_n rfl rfl (q_aload_n rfl rfl (q_iload_n rfl rfl (v_cv rfl rfl rfl (ck_p7 hA) (a68 hA rfl) ⟨⟨rfl, rfl⟩, by decide, rfl⟩ (Nat.le_of_ble_eq_true rfl) (Nat.le_of_ble_eq_true rfl) (s_14 (a2 := a2) hI hA (show 0 ≤ a2 ∧ a2 ≤ 6 from ha2) H13 (fun c_15 hI_16 hF_17 => (bk_inl (q_iconst rfl (q_istore_n rfl (Nat.le_of_ble_eq_true rfl) (Wp_ls [(0, .ref (A + 7)), (1, .ref 1), (2, vi a2), (3, vi 0)] (lsub_cons rfl (lsub_cons rfl (lsub_cons rfl (lsub_cons rfl lsub_nil)))) ?_)))))))))
  exact (s_12_l (sc := sc) (d := d) hI hA ha2 H13 K 304) c_15 0 hI_16 (fun a j hm => hF_17 a j (fun q => q.elim (fun h => hm (Or.inl h)) (fun q => q.elim (fun h => hm (Or.inr (Or.inl h))) (fun q => q.elim (fun h => hm (Or.inr (Or.inr (Or.inl h)))) (fun q => q.elim (fun h => hm (Or.inr (Or.inr (Or.inr (Or.inl h))))) (fun h => hm (Or.inr (Or.inr (Or.inr (Or.inr h)))))))))) ⟨by decide, by decide⟩ (by omega)

set_option maxRecDepth 100000 in
set_option maxHeartbeats 4000000 in
theorem s_13_l {sc : List Int32} {e : Int} {d u P Q A : Nat} {c : ME} {a2 : Int} {Z : AR → Prop} (hI : Iv u e P Q c) (hA : A = 13 ∨ A = 25) (ha2 : 0 ≤ a2 ∧ a2 ≤ 6) (H13 : ∀ (c : ME) (Z : AR → Prop), a2 + 1 ≤ 6 → Iv u e P Q c → (∀ c2 : ME, Iv u e P Q c2 → (∀ (a : Nat) (j : Int), ¬ ((a = 1 ∧ j = 2) ∨ (a = 1 ∧ j = 4) ∨ (a = 1 ∧ j = 5) ∨ (a = (A + 7) ∧ j = 5) ∨ a = (A + 9)) → c2 a j = c a j) → Z (.inl none, Wd P Q P P c2, 0, 0)) → Wp sc (d + 11) 13 0 [(0, .ref (A + 7)), (1, .ref 1), (2, vi (a2 + 1))] [] (Wd P Q P P c) 0 0 Z) (K : ∀ (c2 : ME), Iv u e P Q c2 → (∀ (a : Nat) (j : Int), ¬ ((a = 1 ∧ j = 2) ∨ (a = 1 ∧ j = 4) ∨ (a = 1 ∧ j = 5) ∨ (a = (A + 7) ∧ j = 5) ∨ a = (A + 9)) → c2 a j = c a j) → Z (.inl (none), Wd P Q P P c2, 0, 0)) : ∀ n : Nat, (∀ (c2 : ME) (v3 : Int), Iv u e P Q c2 → (∀ (a : Nat) (j : Int), ¬ ((a = 1 ∧ j = 2) ∨ (a = 1 ∧ j = 4) ∨ (a = 1 ∧ j = 5) ∨ (a = (A + 7) ∧ j = 5) ∨ a = (A + 9)) → c2 a j = c a j) → 0 ≤ v3 ∧ v3 ≤ 150 → 301 - 2 * v3 < (n : Int) → Wp sc (d + 14) 13 8 [(0, .ref (A + 7)), (1, .ref 1), (2, vi a2), (3, vi v3)] [] (Wd P Q P P c2) 0 0 Z)
  | 0 => by intro c2 v3 hI2 hF hv3 hm9; have hP := iv_P hI; have hQ := iv_Q hI; exfalso; omega
  | n + 1 => by
    have hP := iv_P hI
    have hQ := iv_Q hI
    have ih := s_13_l (sc := sc) (d := d) hI hA ha2 H13 K n
    intro c2 v3 hI2 hF hv3 hm9
    refine q_iload_n rfl rfl (v_sip rfl (by decide) ?_)
    by_cases h_1 : v3 ≥ 150
    · refine v_ic_ge_t (t := 59) rfl rfl ⟨by decide, h_1, (Int.le_trans hv3.2 (by decide))⟩ (q_vret rfl rfl ?_)
      exact K c2 hI2 (fun a j hm => hF a j (fun q => q.elim (fun h => hm (Or.inl h)) (fun q => q.elim (fun h => hm (Or.inr (Or.inl h))) (fun q => q.elim (fun h => hm (Or.inr (Or.inr (Or.inl h)))) (fun q => q.elim (fun h => hm (Or.inr (Or.inr (Or.inr (Or.inl h))))) (fun h => hm (Or.inr (Or.inr (Or.inr (Or.inr h))))))))))
    · refine v_ic_ge_f (t := 59) rfl rfl ⟨(Int.le_trans (by decide) hv3.1), (Int.not_le.mp h_1), by decide⟩ (q_aload_n rfl rfl (v_cv rfl rfl rfl rfl (Nat.le_of_ble_eq_true rfl) ⟨⟨rfl, rfl⟩, Nat.le_of_ble_eq_true rfl, rfl⟩ (Nat.le_of_ble_eq_true rfl) (Nat.le_of_ble_eq_true rfl) (q_aload_n rfl rfl ?_)))
      have h_2 := ir_1_4 hI2
      refine v_gi (z := 4) (v := c2 1 4) rfl rfl rfl (Nat.le_of_ble_eq_true rfl) rfl rfl rfl ?_
      by_cases h_3 : c2 1 4 ≠ 0
      · refine v_if_ne_t (t := 11) rfl rfl ⟨h_3, ⟨(Int.le_trans (by decide) h_2.1), (Int.le_trans h_2.2 (by decide))⟩, by decide, by decide⟩ (q_iconst rfl (v_zret rfl rfl (by decide) (bk_inl (v_if_eq_t (t := 59) rfl rfl (by decide) (q_vret rfl rfl ?_)))))
        exact K c2 hI2 (fun a j hm => hF a j (fun q => q.elim (fun h => hm (Or.inl h)) (fun q => q.elim (fun h => hm (Or.inr (Or.inl h))) (fun q => q.elim (fun h => hm (Or.inr (Or.inr (Or.inl h)))) (fun q => q.elim (fun h => hm (Or.inr (Or.inr (Or.inr (Or.inl h))))) (fun h => hm (Or.inr (Or.inr (Or.inr (Or.inr h))))))))))
      · refine v_if_ne_f (t := 11) rfl rfl (Decidable.not_not.mp h_3) (q_iconst rfl (q_goto (t := 12) rfl rfl (v_zret rfl rfl (by decide) (bk_inl (v_if_eq_f (t := 59) rfl rfl (by decide) (q_aload_n rfl rfl (q_ldc_s rfl rfl rfl (by decide) ?_)))))))
        refine v_cv rfl rfl rfl rfl (Nat.le_of_ble_eq_true rfl) ⟨⟨rfl, rfl⟩, Nat.le_of_ble_eq_true rfl, rfl⟩ (Nat.le_of_ble_eq_true rfl) (Nat.le_of_ble_eq_true rfl) (s_4 hI2 (q := 7) (nt := 2) (by decide) (by decide) (by decide) (fun c_4 y_7 hI_5 hF_6 hy_7 => (bk_inl (q_istore rfl (Nat.le_of_ble_eq_true rfl) (q_iload rfl rfl (q_iconst rfl ?_))))))
        by_cases h_8 : y_7 ≠ (-1)
        · refine v_ic_ne_t (t := 37) rfl rfl ⟨h_8, ⟨(Int.le_trans (by decide) hy_7.1), (Int.le_trans hy_7.2 (by decide))⟩, by decide, by decide⟩ (q_aload_n rfl rfl (q_aload_n rfl rfl (q_iload_n rfl rfl (v_cv rfl rfl rfl (ck_p7 hA) (a68 hA rfl) ⟨⟨rfl, rfl⟩, by decide, rfl⟩ (Nat.le_of_ble_eq_true rfl) (Nat.le_of_ble_eq_true rfl) (s_12 (a2 := a2) hI_5 hA (show 0 ≤ a2 ∧ a2 ≤ 6 from ha2) H13 (fun c_9 hI_10 hF_11 => (bk_inl (q_aload_n rfl rfl (v_sip rfl (by decide) ?_)))))))))
          refine q_iload rfl rfl (v_iadd (v := y_7 + 2000) rfl (by first | (clear ha2 hv3 h_1 h_2 h_3 h_8; omega) | omega) (v_cv rfl rfl rfl (ck_p7 hA) (a68 hA rfl) ⟨⟨rfl, rfl⟩, by decide, rfl⟩ (Nat.le_of_ble_eq_true rfl) (Nat.le_of_ble_eq_true rfl) (s_5 (a1 := y_7 + 2000) hI_10 hA (show 0 ≤ y_7 + 2000 ∧ y_7 + 2000 ≤ 3000 from ⟨by first | exact rgp_l hy_7.1 (by decide) | omega, by first | exact rgp_h hy_7.2 (by decide) | omega⟩) (Or.inr (by omega)) (fun c_12 hI_13 hF_14 => (bk_inl (v_iinc (v := v3 + 1) rfl rfl (Nat.le_of_ble_eq_true rfl) rfl (q_goto (t := 8) rfl rfl (Wp_ls [(0, .ref (A + 7)), (1, .ref 1), (2, vi a2), (3, vi (v3 + 1))] (lsub_cons rfl (lsub_cons rfl (lsub_cons rfl (lsub_cons rfl lsub_nil)))) ?_))))))))
          exact ih c_12 (v3 + 1) hI_13 (fun a j hm => (hF_14 a j (fun q => q.elim (fun h => hm (Or.inr (Or.inr (Or.inr (Or.inl h))))) (fun h => hm (Or.inr (Or.inr (Or.inr (Or.inr h))))))).trans ((hF_11 a j (fun q => q.elim (fun h => hm (Or.inl h)) (fun q => q.elim (fun h => hm (Or.inr (Or.inl h))) (fun q => q.elim (fun h => hm (Or.inr (Or.inr (Or.inl h)))) (fun q => q.elim (fun h => hm (Or.inr (Or.inr (Or.inr (Or.inl h))))) (fun h => hm (Or.inr (Or.inr (Or.inr (Or.inr h)))))))))).trans ((hF_6 a j (fun h => hm (Or.inl h))).trans (hF a j (fun q => q.elim (fun h => hm (Or.inl h)) (fun q => q.elim (fun h => hm (Or.inr (Or.inl h))) (fun q => q.elim (fun h => hm (Or.inr (Or.inr (Or.inl h)))) (fun q => q.elim (fun h => hm (Or.inr (Or.inr (Or.inr (Or.inl h))))) (fun h => hm (Or.inr (Or.inr (Or.inr (Or.inr h))))))))))))) ⟨by first | exact rgp_l hv3.1 (by decide) | omega, by first | exact q_e92c430a0 h_1 | (clear ha2 hv3 h_2 h_3 h_8; omega) | omega⟩ (by omega)
        · refine v_ic_ne_f (t := 37) rfl rfl (Decidable.not_not.mp h_8) (q_vret rfl rfl ?_)
          exact K c_4 hI_5 (fun a j hm => (hF_6 a j (fun h => hm (Or.inl h))).trans (hF a j (fun q => q.elim (fun h => hm (Or.inl h)) (fun q => q.elim (fun h => hm (Or.inr (Or.inl h))) (fun q => q.elim (fun h => hm (Or.inr (Or.inr (Or.inl h)))) (fun q => q.elim (fun h => hm (Or.inr (Or.inr (Or.inr (Or.inl h))))) (fun h => hm (Or.inr (Or.inr (Or.inr (Or.inr h)))))))))))
set_option maxRecDepth 100000 in
set_option maxHeartbeats 4000000 in
theorem s_13 {sc : List Int32} {e : Int} {d u P Q A : Nat} {c : ME} {a2 : Int} {Z : AR → Prop} (hI : Iv u e P Q c) (hA : A = 13 ∨ A = 25) (ha2 : 0 ≤ a2 ∧ a2 ≤ 6) (H13 : ∀ (c : ME) (Z : AR → Prop), a2 + 1 ≤ 6 → Iv u e P Q c → (∀ c2 : ME, Iv u e P Q c2 → (∀ (a : Nat) (j : Int), ¬ ((a = 1 ∧ j = 2) ∨ (a = 1 ∧ j = 4) ∨ (a = 1 ∧ j = 5) ∨ (a = (A + 7) ∧ j = 5) ∨ a = (A + 9)) → c2 a j = c a j) → Z (.inl none, Wd P Q P P c2, 0, 0)) → Wp sc (d + 11) 13 0 [(0, .ref (A + 7)), (1, .ref 1), (2, vi (a2 + 1))] [] (Wd P Q P P c) 0 0 Z) (K : ∀ (c2 : ME), Iv u e P Q c2 → (∀ (a : Nat) (j : Int), ¬ ((a = 1 ∧ j = 2) ∨ (a = 1 ∧ j = 4) ∨ (a = 1 ∧ j = 5) ∨ (a = (A + 7) ∧ j = 5) ∨ a = (A + 9)) → c2 a j = c a j) → Z (.inl (none), Wd P Q P P c2, 0, 0)) : Wp sc (d + 14) 13 0 [(0, .ref (A + 7)), (1, .ref 1), (2, vi a2)] [] (Wd P Q P P c) 0 0 Z := by
  have hP := iv_P hI
  have hQ := iv_Q hI
  refine q_aload_n rfl rfl (q_aload_n rfl rfl (q_iload_n rfl rfl (v_cv rfl rfl rfl (ck_p7 hA) (a68 hA rfl) ⟨⟨rfl, rfl⟩, by decide, rfl⟩ (Nat.le_of_ble_eq_true rfl) (Nat.le_of_ble_eq_true rfl) (s_12 (a2 := a2) hI hA (show 0 ≤ a2 ∧ a2 ≤ 6 from ha2) H13 (fun c_15 hI_16 hF_17 => (bk_inl (q_iconst rfl (q_istore_n rfl (Nat.le_of_ble_eq_true rfl) (Wp_ls [(0, .ref (A + 7)), (1, .ref 1), (2, vi a2), (3, vi 0)] (lsub_cons rfl (lsub_cons rfl (lsub_cons rfl (lsub_cons rfl lsub_nil)))) ?_)))))))))
  exact (s_13_l (sc := sc) (d := d) hI hA ha2 H13 K 304) c_15 0 hI_16 (fun a j hm => hF_17 a j (fun q => q.elim (fun h => hm (Or.inl h)) (fun q => q.elim (fun h => hm (Or.inr (Or.inl h))) (fun q => q.elim (fun h => hm (Or.inr (Or.inr (Or.inl h)))) (fun q => q.elim (fun h => hm (Or.inr (Or.inr (Or.inr (Or.inl h))))) (fun h => hm (Or.inr (Or.inr (Or.inr (Or.inr h)))))))))) ⟨by decide, by decide⟩ (by omega)
set_option maxRecDepth 100000 in
set_option maxHeartbeats 4000000 in
theorem r_13_n {sc : List Int32} {e : Int} {d u P Q A : Nat} (hA : A = 13 ∨ A = 25) : ∀ (m : Nat) (c : ME) (a2 : Int) (Z : AR → Prop), a2 + (m : Int) = 6 → 0 ≤ a2 → Iv u e P Q c → (∀ c2 : ME, Iv u e P Q c2 → (∀ (a : Nat) (j : Int), ¬ ((a = 1 ∧ j = 2) ∨ (a = 1 ∧ j = 4) ∨ (a = 1 ∧ j = 5) ∨ (a = (A + 7) ∧ j = 5) ∨ a = (A + 9)) → c2 a j = c a j) → Z (.inl none, Wd P Q P P c2, 0, 0)) → Wp sc (d + 3 * m + 14) 13 0 [(0, .ref (A + 7)), (1, .ref 1), (2, vi a2)] [] (Wd P Q P P c) 0 0 Z
  | 0, c, a2, Z, hm, h0, hI, K => s_13 (d := d) (a2 := a2) hI hA (show 0 ≤ a2 ∧ a2 ≤ 6 from ⟨by omega, by omega⟩) (fun c9 Z9 hc => absurd hc (by omega)) K
  | m + 1, c, a2, Z, hm, h0, hI, K => by
    have ih := r_13_n (sc := sc) (e := e) (d := d) (u := u) (P := P) (Q := Q) hA m
    rw [show d + 3 * (m + 1) + 14 = (d + 3 * m + 3) + 14 by omega]
    refine s_13 (d := d + 3 * m + 3) (a2 := a2) hI hA (show 0 ≤ a2 ∧ a2 ≤ 6 from ⟨by omega, by omega⟩) (fun c9 Z9 hc hI9 K9 => ?_) K
    have r := ih c9 (a2 + 1) Z9 (by omega) (by omega) hI9 K9
    rw [show d + 3 * m + 14 = (d + 3 * m + 3) + 11 by omega] at r
    exact r
set_option maxRecDepth 100000 in
set_option maxHeartbeats 4000000 in
theorem r_13 {sc : List Int32} {e : Int} {d u P Q A : Nat} {c : ME} {a2 : Int} {Z : AR → Prop} (hI : Iv u e P Q c) (hA : A = 13 ∨ A = 25) (ha2 : 0 ≤ a2 ∧ a2 ≤ 6) (K : (∀ c2 : ME, Iv u e P Q c2 → (∀ (a : Nat) (j : Int), ¬ ((a = 1 ∧ j = 2) ∨ (a = 1 ∧ j = 4) ∨ (a = 1 ∧ j = 5) ∨ (a = (A + 7) ∧ j = 5) ∨ a = (A + 9)) → c2 a j = c a j) → Z (.inl none, Wd P Q P P c2, 0, 0))) : Wp sc (d + 32) 13 0 [(0, .ref (A + 7)), (1, .ref 1), (2, vi a2)] [] (Wd P Q P P c) 0 0 Z := by
  obtain ⟨m, hm⟩ : ∃ m : Nat, (m : Int) = 6 - a2 := ⟨(6 - a2).toNat, by omega⟩
  rw [show d + 32 = (d + 18 - 3 * m) + 3 * m + 14 by omega]
  exact r_13_n hA m c a2 Z (by omega) (by omega) hI K

set_option maxRecDepth 100000 in
set_option maxHeartbeats 4000000 in
theorem s_15 {sc : List Int32} {e : Int} {d u P Q : Nat} {c : ME} {Z : AR → Prop} (hI : Iv u e P Q c)  (K : ∀ (c2 : ME) (y : Int), Iv u e P Q c2 → (∀ (a : Nat) (j : Int), ¬ ((a = 1 ∧ j = 2)) → c2 a j = c a j) → 0 ≤ y ∧ y ≤ 1 → Z (.inl (some (vi y)), Wd P Q P P c2, 0, 0)) : Wp sc (d + 8) 15 0 [(0, .ref 1)] [] (Wd P Q P P c) 0 0 Z := by
  have hP := iv_P hI
  have hQ := iv_Q hI
  refine q_aload_n rfl rfl (v_cv rfl rfl rfl rfl (Nat.le_of_ble_eq_true rfl) ⟨⟨rfl, rfl⟩, Nat.le_of_ble_eq_true rfl, rfl⟩ (Nat.le_of_ble_eq_true rfl) (Nat.le_of_ble_eq_true rfl) (q_aload_n rfl rfl ?_))
  have h_1 := ir_1_4 hI
  refine v_gi (z := 4) (v := c 1 4) rfl rfl rfl (Nat.le_of_ble_eq_true rfl) rfl rfl rfl ?_
  by_cases h_2 : c 1 4 ≠ 0
  · refine v_if_ne_t (t := 11) rfl rfl ⟨h_2, ⟨(Int.le_trans (by decide) h_1.1), (Int.le_trans h_1.2 (by decide))⟩, by decide, by decide⟩ (q_iconst rfl (v_zret rfl rfl (by decide) (bk_inl (v_if_eq_t (t := 22) rfl rfl (by decide) (q_iconst rfl (v_zret rfl rfl (by decide) ?_))))))
    exact K c 0 hI (fun a j hm => rfl) ⟨by decide, by decide⟩
  · refine v_if_ne_f (t := 11) rfl rfl (Decidable.not_not.mp h_2) (q_iconst rfl (q_goto (t := 12) rfl rfl (v_zret rfl rfl (by decide) (bk_inl (v_if_eq_f (t := 22) rfl rfl (by decide) (q_aload_n rfl rfl (v_cv rfl rfl rfl rfl (Nat.le_of_ble_eq_true rfl) ⟨⟨rfl, rfl⟩, Nat.le_of_ble_eq_true rfl, rfl⟩ (Nat.le_of_ble_eq_true rfl) (Nat.le_of_ble_eq_true rfl) (s_3 hI (fun c_3 y_6 hI_4 hF_5 hy_6 h_7 => ?_)))))))))
    refine bk_inl ?_
    have h_8 := ir_1_2 hI_4
    refine q_aload_n rfl rfl ?_
    have h_9 := ir_1_1 hI
    have kn_10 : Hid (c_3 1 1 = c 1 1) := hF_5 1 1 (fun h => absurd h.2 (ni rfl))
    refine v_gi (z := 1) (v := c 1 1) rfl rfl rfl (Nat.le_of_ble_eq_true rfl) rfl rfl (hid kn_10) ?_
    by_cases h_11 : y_6 ≥ c 1 1
    · refine v_ic_ge_t (t := 22) rfl rfl ⟨by first | exact q_3b2b08511 h_9 | omega, h_11, (Int.le_trans hy_6.2 (by decide))⟩ (q_iconst rfl (v_zret rfl rfl (by decide) ?_))
      exact K c_3 0 hI_4 (fun a j hm => hF_5 a j (fun h => hm h)) ⟨by decide, by decide⟩
    · refine v_ic_ge_f (t := 22) rfl rfl ⟨(Int.le_trans (by decide) hy_6.1), (Int.not_le.mp h_11), by first | exact q_3885e607f h_9 | omega⟩ (q_iconst rfl (q_goto (t := 23) rfl rfl (v_zret rfl rfl (by decide) ?_)))
      exact K c_3 1 hI_4 (fun a j hm => hF_5 a j (fun h => hm h)) ⟨by decide, by decide⟩

set_option maxRecDepth 100000 in
set_option maxHeartbeats 4000000 in
theorem s_16 {sc : List Int32} {e : Int} {d u P Q : Nat} {c : ME} {Z : AR → Prop} (hI : Iv u e P Q c)  (K : ∀ (c2 : ME), Iv u e P Q c2 → (∀ (a : Nat) (j : Int), ¬ ((a = 1 ∧ j = 2) ∨ (a = 1 ∧ j = 4) ∨ (a = 1 ∧ j = 5)) → c2 a j = c a j) → Z (.inl (none), Wd P Q P P c2, 0, 0)) : Wp sc (d + 9) 16 0 [(0, .ref 1)] [] (Wd P Q P P c) 0 0 Z := by
  have hP := iv_P hI
  have hQ := iv_Q hI
  refine q_aload_n rfl rfl (v_cv rfl rfl rfl rfl (Nat.le_of_ble_eq_true rfl) ⟨⟨rfl, rfl⟩, Nat.le_of_ble_eq_true rfl, rfl⟩ (Nat.le_of_ble_eq_true rfl) (Nat.le_of_ble_eq_true rfl) (s_15 hI (fun c_1 y_4 hI_2 hF_3 hy_4 => (bk_inl ?_))))
  by_cases h_5 : y_4 = 0
  · refine v_if_eq_t (t := 16) rfl rfl h_5 (q_vret rfl rfl ?_)
    exact K c_1 hI_2 (fun a j hm => hF_3 a j (fun h => hm (Or.inl h)))
  · refine v_if_eq_f (t := 16) rfl rfl ⟨h_5, ⟨(Int.le_trans (by decide) hy_4.1), (Int.le_trans hy_4.2 (by decide))⟩, by decide, by decide⟩ (q_aload_n rfl rfl (q_iconst rfl (q_aload_n rfl rfl ?_)))
    have h_6 := ir_1_2 hI_2
    refine v_gi (z := 2) (v := c_1 1 2) rfl rfl rfl (Nat.le_of_ble_eq_true rfl) rfl rfl rfl (v_cv rfl rfl rfl rfl (Nat.le_of_ble_eq_true rfl) ⟨⟨rfl, rfl⟩, Nat.le_of_ble_eq_true rfl, rfl⟩ (Nat.le_of_ble_eq_true rfl) (Nat.le_of_ble_eq_true rfl) (s_7 (a1 := 1) (a2 := c_1 1 2) hI_2 (show 1 ≤ 1 ∧ 1 ≤ 3 from ⟨by decide, by decide⟩) (show 0 ≤ c_1 1 2 ∧ c_1 1 2 ≤ 600 from h_6) (fun c_7 hI_8 hF_9 h_10 => (bk_inl ?_))))
    have h_11 := ir_1_4 hI_8
    refine q_vret rfl rfl ?_
    exact K c_7 hI_8 (fun a j hm => (hF_9 a j (fun q => q.elim (fun h => hm (Or.inr (Or.inl h))) (fun h => hm (Or.inr (Or.inr h))))).trans (hF_3 a j (fun h => hm (Or.inl h))))

set_option maxRecDepth 100000 in
set_option maxHeartbeats 4000000 in
theorem s_17 {sc : List Int32} {e : Int} {d u P Q A : Nat} {c : ME} {Z : AR → Prop} (hI : Iv u e P Q c) (hA : A = 13 ∨ A = 25) (K : ∀ (c2 : ME), Iv u e P Q c2 → (∀ (a : Nat) (j : Int), ¬ ((a = 1 ∧ j = 2) ∨ (a = 1 ∧ j = 4) ∨ (a = 1 ∧ j = 5) ∨ (a = (A + 7) ∧ j = 5) ∨ a = (A + 9) ∨ (a = (A + 7) ∧ j = 4) ∨ a = (A + 8)) → c2 a j = c a j) → Z (.inl (none), Wd P Q P P c2, 0, 0)) : Wp sc (d + 33) 17 0 [(0, .ref (A + 7)), (1, .ref 1)] [] (Wd P Q P P c) 0 0 Z := by
  have hP := iv_P hI
  have hQ := iv_Q hI
  refine q_aload_n rfl rfl (q_iconst rfl (v_pi (z := 5) rfl rfl (ck_p7 hA) (a68 hA rfl) rfl rfl rfl (by decide) (q_aload_n rfl rfl (q_aload_n rfl rfl (q_iconst rfl ?_)))))
  have hI_1 := iw_p7_5 (v := 0) hI hA ⟨by decide, by decide⟩
  refine v_cv rfl rfl rfl (ck_p7 hA) (a68 hA rfl) ⟨⟨rfl, rfl⟩, by decide, rfl⟩ (Nat.le_of_ble_eq_true rfl) (Nat.le_of_ble_eq_true rfl) (r_13 (a2 := 0) hI_1 hA (show 0 ≤ 0 ∧ 0 ≤ 6 from ⟨by decide, by decide⟩) (fun c_2 hI_3 hF_4 => (bk_inl (q_aload_n rfl rfl (v_cv rfl rfl rfl rfl (Nat.le_of_ble_eq_true rfl) ⟨⟨rfl, rfl⟩, Nat.le_of_ble_eq_true rfl, rfl⟩ (Nat.le_of_ble_eq_true rfl) (Nat.le_of_ble_eq_true rfl) (s_16 hI_3 (fun c_5 hI_6 hF_7 => (bk_inl (q_aload_n rfl rfl (v_cv rfl rfl rfl rfl (Nat.le_of_ble_eq_true rfl) ⟨⟨rfl, rfl⟩, Nat.le_of_ble_eq_true rfl, rfl⟩ (Nat.le_of_ble_eq_true rfl) (Nat.le_of_ble_eq_true rfl) (q_aload_n rfl rfl ?_)))))))))))
  have h_8 := ir_1_4 hI_6
  refine v_gi (z := 4) (v := c_5 1 4) rfl rfl rfl (Nat.le_of_ble_eq_true rfl) rfl rfl rfl ?_
  by_cases h_9 : c_5 1 4 ≠ 0
  · refine v_if_ne_t (t := 11) rfl rfl ⟨h_9, ⟨(Int.le_trans (by decide) h_8.1), (Int.le_trans h_8.2 (by decide))⟩, by decide, by decide⟩ (q_iconst rfl (v_zret rfl rfl (by decide) (bk_inl (v_if_eq_t (t := 46) rfl rfl (by decide) (q_vret rfl rfl ?_)))))
    exact K c_5 hI_6 (fun a j hm => (hF_7 a j (fun q => q.elim (fun h => hm (Or.inl h)) (fun q => q.elim (fun h => hm (Or.inr (Or.inl h))) (fun h => hm (Or.inr (Or.inr (Or.inl h))))))).trans ((hF_4 a j (fun q => q.elim (fun h => hm (Or.inl h)) (fun q => q.elim (fun h => hm (Or.inr (Or.inl h))) (fun q => q.elim (fun h => hm (Or.inr (Or.inr (Or.inl h)))) (fun q => q.elim (fun h => hm (Or.inr (Or.inr (Or.inr (Or.inl h))))) (fun h => hm (Or.inr (Or.inr (Or.inr (Or.inr (Or.inl h))))))))))).trans (up_b (Decidable.or_iff_not_imp_left.mpr (fun h1 h2 => hm (Or.inr (Or.inr (Or.inr (Or.inl ⟨Decidable.not_not.mp h1, h2⟩)))))))))
  · refine v_if_ne_f (t := 11) rfl rfl (Decidable.not_not.mp h_9) (q_iconst rfl (q_goto (t := 12) rfl rfl (v_zret rfl rfl (by decide) (bk_inl (v_if_eq_f (t := 46) rfl rfl (by decide) (q_aload_n rfl rfl (v_gr (t := (A + 9)) rfl rfl (ck_p7 hA) (a68 hA rfl) rfl ?_)))))))
    refine q_iconst rfl (q_aload_n rfl rfl (v_gr (t := (A + 8)) rfl rfl (ck_p7 hA) (a68 hA rfl) rfl (q_iconst rfl (v_sip rfl (by decide) (v_cpy rfl rfl (ck_p8 hA) (a68 hA rfl) (ck_p9 hA) (a68 hA rfl) rfl rfl (by omega) (Nat.le_of_ble_eq_true rfl) (by omega) (q_aload_n rfl rfl (q_aload_n rfl rfl ?_)))))))
    have h_10 := ir_p7_5 hI_3 hA
    have kn_11 : Hid (c_5 (A + 7) 5 = c_2 (A + 7) 5) := hF_7 (A + 7) 5 (fun q => q.elim (fun h => absurd h.1 (np hA rfl rfl)) (fun q => q.elim (fun h => absurd h.1 (np hA rfl rfl)) (fun h => absurd h.1 (np hA rfl rfl))))
    refine v_gi (z := 5) (v := c_2 (A + 7) 5) rfl rfl (ck_p7 hA) (a68 hA rfl) rfl rfl ((upc_c (by omega)).trans (hid kn_11)) (v_pi (z := 4) rfl rfl (ck_p7 hA) (a68 hA rfl) rfl rfl rfl (by decide) (q_vret rfl rfl ?_))
    have hI_12 := cp_p9_p8 (n := 150) hI_6 hA
    have hI_13 := iw_p7_4 (v := c_2 (A + 7) 5) hI_12 hA ⟨by first | exact q_47cb9e6c6 h_10 | omega, by first | exact q_4ed2d8592 h_10 | omega⟩
    exact K (up (upc c_5 (A + 9) 0 (A + 8) 0 150) (A + 7) 4 (c_2 (A + 7) 5)) hI_13 (fun a j hm => (up_b (Decidable.or_iff_not_imp_left.mpr (fun h1 h2 => hm (Or.inr (Or.inr (Or.inr (Or.inr (Or.inr (Or.inl ⟨Decidable.not_not.mp h1, h2⟩))))))))).trans ((upc_c (fun h => hm (Or.inr (Or.inr (Or.inr (Or.inr (Or.inr (Or.inr h)))))))).trans ((hF_7 a j (fun q => q.elim (fun h => hm (Or.inl h)) (fun q => q.elim (fun h => hm (Or.inr (Or.inl h))) (fun h => hm (Or.inr (Or.inr (Or.inl h))))))).trans ((hF_4 a j (fun q => q.elim (fun h => hm (Or.inl h)) (fun q => q.elim (fun h => hm (Or.inr (Or.inl h))) (fun q => q.elim (fun h => hm (Or.inr (Or.inr (Or.inl h)))) (fun q => q.elim (fun h => hm (Or.inr (Or.inr (Or.inr (Or.inl h))))) (fun h => hm (Or.inr (Or.inr (Or.inr (Or.inr (Or.inl h))))))))))).trans (up_b (Decidable.or_iff_not_imp_left.mpr (fun h1 h2 => hm (Or.inr (Or.inr (Or.inr (Or.inl ⟨Decidable.not_not.mp h1, h2⟩)))))))))))

set_option maxRecDepth 100000 in
set_option maxHeartbeats 4000000 in
theorem s_19 {sc : List Int32} {e : Int} {d u P Q : Nat} {c : ME} {a0 : Int} {a1 : Int} {a2 : Int} {Z : AR → Prop} (hI : Iv u e P Q c) (ha0 : (-2147483648) ≤ a0 ∧ a0 ≤ 2147483647) (ha1 : (-2147483648) ≤ a1 ∧ a1 ≤ 2147483647) (ha2 : (-2147483648) ≤ a2 ∧ a2 ≤ 2147483647) (K : ∀ (y : Int), (-2147483648) ≤ y ∧ y ≤ 2147483647 → Z (.inl (some (vi y)), Wd P Q P P c, 0, 0)) : Wp sc (d + 7) 19 0 [(0, vi a0), (1, vi a1), (2, vi a2)] [] (Wd P Q P P c) 0 0 Z := by
  have hP := iv_P hI
  have hQ := iv_Q hI
  refine q_iload_n rfl rfl ?_
  by_cases h_1 : a0 = 2000
  · skip
    refine v_tsw_i (t := 40) 2000 rfl (by omega) (by decide) rfl (by decide) (q_iload_n rfl rfl (q_iload_n rfl rfl (v_iadd (v := a1 + a2) rfl rfl (v_nrm (fun y_2 hy_2 => (q_iret rfl rfl ?_))))))
    exact K y_2 hy_2
  by_cases h_3 : a0 = 2001
  · skip
    refine v_tsw_i (t := 44) 2001 rfl (by omega) (by decide) rfl (by decide) (q_iload_n rfl rfl (q_iload_n rfl rfl (v_isub (v := a1 - a2) rfl rfl (v_nrm (fun y_4 hy_4 => (q_iret rfl rfl ?_))))))
    exact K y_4 hy_4
  by_cases h_5 : a0 = 2002
  · skip
    refine v_tsw_i (t := 48) 2002 rfl (by omega) (by decide) rfl (by decide) (q_iload_n rfl rfl (q_iload_n rfl rfl (v_imul (v := (a1 * a2)) rfl rfl (v_nrm (fun y_6 hy_6 => (q_iret rfl rfl ?_))))))
    exact K y_6 hy_6
  by_cases h_7 : a0 = 2003
  · skip
    refine v_tsw_i (t := 52) 2003 rfl (by omega) (by decide) rfl (by decide) (q_iload_n rfl rfl ?_)
    by_cases h_8 : a2 ≠ 0
    · refine v_if_ne_t (t := 60) rfl rfl ⟨h_8, ⟨ha2.1, ha2.2⟩, by decide, by decide⟩ (q_iload_n rfl rfl (q_iload_n rfl rfl (v_idivx rfl ⟨by omega, by omega, by omega⟩ (fun y_9 hy_9 => (q_iret rfl rfl ?_)))))
      exact K y_9 hy_9
    · refine v_if_ne_f (t := 60) rfl rfl (Decidable.not_not.mp h_8) (q_iconst rfl (q_goto (t := 63) rfl rfl (q_iret rfl rfl ?_)))
      exact K 0 ⟨by decide, by decide⟩
  by_cases h_10 : a0 = 2004
  · skip
    refine v_tsw_i (t := 64) 2004 rfl (by omega) (by decide) rfl (by decide) (q_iload_n rfl rfl ?_)
    by_cases h_11 : a2 ≠ 0
    · refine v_if_ne_t (t := 72) rfl rfl ⟨h_11, ⟨ha2.1, ha2.2⟩, by decide, by decide⟩ (q_iload_n rfl rfl (q_iload_n rfl rfl (v_iremx rfl ⟨by omega, by omega, by omega⟩ (fun y_12 hy_12 => (q_iret rfl rfl ?_)))))
      exact K y_12 hy_12
    · refine v_if_ne_f (t := 72) rfl rfl (Decidable.not_not.mp h_11) (q_iconst rfl (q_goto (t := 75) rfl rfl (q_iret rfl rfl ?_)))
      exact K 0 ⟨by decide, by decide⟩
  by_cases h_13 : a0 = 2005
  · skip
    refine v_tsw_i (t := 76) 2005 rfl (by omega) (by decide) rfl (by decide) (q_iload_n rfl rfl (q_iload_n rfl rfl ?_))
    by_cases h_14 : a1 > a2
    · refine v_ic_gt_t (t := 85) rfl rfl ⟨ha2.1, h_14, ha1.2⟩ (q_iload_n rfl rfl (q_iret rfl rfl ?_))
      exact K a2 ha2
    · refine v_ic_gt_f (t := 85) rfl rfl ⟨ha1.1, (Int.not_lt.mp h_14), ha2.2⟩ (q_iload_n rfl rfl (q_goto (t := 86) rfl rfl (q_iret rfl rfl ?_)))
      exact K a1 ha1
  refine v_tsw_o (t := 87) rfl (by omega) (by decide) (q_iload_n rfl rfl (q_iload_n rfl rfl ?_))
  by_cases h_15 : a1 < a2
  · refine v_ic_lt_t (t := 96) rfl rfl ⟨ha1.1, h_15, ha2.2⟩ (q_iload_n rfl rfl (q_iret rfl rfl ?_))
    exact K a2 ha2
  · refine v_ic_lt_f (t := 96) rfl rfl ⟨ha2.1, (Int.not_lt.mp h_15), ha1.2⟩ (q_iload_n rfl rfl (q_goto (t := 97) rfl rfl (q_iret rfl rfl ?_)))
    exact K a1 ha1

set_option maxRecDepth 100000 in
set_option maxHeartbeats 4000000 in
theorem s_20_l {sc : List Int32} {e : Int} {d u P Q A : Nat} {c : ME} {a1 : Int} {a2 : Int} {a3 : Int} {a4 : Int} {a5 : Int} {a6 : Int} {a7 : Int} {Z : AR → Prop} (hI : Iv u e P Q c) (hA : A = 13 ∨ A = 25) (ha1 : 0 ≤ a1 ∧ a1 ≤ 9999) (ha2 : 0 ≤ a2 ∧ a2 ≤ 9999) (ha3 : 0 ≤ a3 ∧ a3 ≤ 9999) (ha4 : 0 ≤ a4 ∧ a4 ≤ 9999) (ha5 : (-2147483648) ≤ a5 ∧ a5 ≤ 2147483647) (ha6 : (-2147483648) ≤ a6 ∧ a6 ≤ 2147483647) (ha7 : (-2147483648) ≤ a7 ∧ a7 ≤ 2147483647) (K : ∀ (c2 : ME) (y : Int), Iv u e P Q c2 → (∀ (a : Nat) (j : Int), ¬ (a = (A + 10) ∨ a = (A + 11)) → c2 a j = c a j) → 0 ≤ y ∧ y ≤ 99 → Z (.inl (some (vi y)), Wd P Q P P c2, 0, 0)) : ∀ n : Nat, (∀ (c2 : ME) (v8 : Int) (v9 : Int) (v10 : Int), Iv u e P Q c2 → (∀ (a : Nat) (j : Int), ¬ (a = (A + 10) ∨ a = (A + 11)) → c2 a j = c a j) → 0 ≤ v8 ∧ v8 ≤ 39996 → 0 ≤ v9 ∧ v9 ≤ 150 → 0 ≤ v10 ∧ v10 ≤ 150 → ((v9 ≤ v10)) → 301 - 2 * v10 < (n : Int) → Wp sc (d + 8) 20 108 [(0, .ref (A + 7)), (1, vi a1), (2, vi a2), (3, vi a3), (4, vi a4), (5, vi a5), (6, vi a6), (7, vi a7), (8, vi v8), (9, vi v9), (10, vi v10)] [] (Wd P Q P P c2) 0 0 Z)
  | 0 => by intro c2 v8 v9 v10 hI2 hF hv8 hv9 hv10 hx0 hm9; have hP := iv_P hI; have hQ := iv_Q hI; exfalso; omega
  | n + 1 => by
    have hP := iv_P hI
    have hQ := iv_Q hI
    have ih := s_20_l (sc := sc) (d := d) hI hA ha1 ha2 ha3 ha4 ha5 ha6 ha7 K n
    intro c2 v8 v9 v10 hI2 hF hv8 hv9 hv10 hx0 hm9
    refine q_iload rfl rfl (q_aload_n rfl rfl ?_)
    have h_1 := ir_p7_4 hI hA
    have kn_2 : Hid (c2 (A + 7) 4 = c (A + 7) 4) := hF (A + 7) 4 (fun q => q.elim (fun h => absurd h (pp rfl)) (fun h => absurd h (pp rfl)))
    refine v_gi (z := 4) (v := c (A + 7) 4) rfl rfl (ck_p7 hA) (a68 hA rfl) rfl rfl (hid kn_2) ?_
    by_cases h_3 : v10 ≥ c (A + 7) 4
    · refine v_ic_ge_t (t := 216) rfl rfl ⟨by first | exact q_7c38ad3f6 h_1 | omega, h_3, (Int.le_trans hv10.2 (by decide))⟩ (q_aload_n rfl rfl (v_gr (t := (A + 10)) rfl rfl (ck_p7 hA) (a68 hA rfl) rfl (q_iconst rfl ?_)))
      have h_4 := ir_p10 hI2 hA 0
      refine v_ia (v := c2 (A + 10) 0) rfl (ck_p10 hA) (a68 hA rfl) (by decide) (by decide) rfl (q_call rfl rfl rfl rfl (q_iload_n rfl rfl ?_))
      by_cases h_5 : c2 (A + 10) 0 ≥ 0
      · refine v_if_ge_t (t := 8) rfl rfl ⟨by decide, h_5, h_4.2⟩ (q_iload_n rfl rfl (v_bip rfl (by decide) ?_))
        by_cases h_6 : c2 (A + 10) 0 ≤ 99
        · refine v_ic_le_t (t := 19) rfl rfl ⟨h_4.1, h_6, by decide⟩ (q_iload_n rfl rfl (q_iret rfl rfl (bk_inl (q_iret rfl rfl ?_))))
          exact K c2 (c2 (A + 10) 0) hI2 (fun a j hm => hF a j (fun q => q.elim (fun h => hm (Or.inl h)) (fun h => hm (Or.inr h)))) ⟨by first | exact q_059235c2c h_5 | (clear ha1 ha2 ha3 ha4 ha5 ha6 ha7 hv8 hv9 hv10 hx0 h_1 h_3 h_4 h_6; omega) | omega, by first | exact q_a6cbc6a20 h_6 | (clear ha1 ha2 ha3 ha4 ha5 ha6 ha7 hv8 hv9 hv10 hx0 h_1 h_3 h_4 h_5; omega) | omega⟩
        · refine v_ic_le_f (t := 19) rfl rfl ⟨by decide, (Int.not_le.mp h_6), h_4.2⟩ (v_bip rfl (by decide) (q_goto (t := 20) rfl rfl (q_iret rfl rfl (bk_inl (q_iret rfl rfl ?_)))))
          exact K c2 99 hI2 (fun a j hm => hF a j (fun q => q.elim (fun h => hm (Or.inl h)) (fun h => hm (Or.inr h)))) ⟨by decide, by decide⟩
      · refine v_if_ge_f (t := 8) rfl rfl ⟨h_4.1, (Int.not_le.mp h_5), by decide⟩ (q_iconst rfl (q_goto (t := 20) rfl rfl (q_iret rfl rfl (bk_inl (q_iret rfl rfl ?_)))))
        exact K c2 0 hI2 (fun a j hm => hF a j (fun q => q.elim (fun h => hm (Or.inl h)) (fun h => hm (Or.inr h)))) ⟨by decide, by decide⟩
    · refine v_ic_ge_f (t := 216) rfl rfl ⟨(Int.le_trans (by decide) hv10.1), (Int.not_le.mp h_3), by first | exact q_b7d7f2b1a h_1 | omega⟩ (q_aload_n rfl rfl (v_gr (t := (A + 8)) rfl rfl (ck_p7 hA) (a68 hA rfl) rfl (q_iload rfl rfl ?_)))
      have h_7 := ir_p8 hI hA v10
      have h_8 := ir_p8_x hI hA v10
      have kn_9 : Hid (c2 (A + 8) v10 = c (A + 8) v10) := hF (A + 8) v10 (fun q => q.elim (fun h => absurd h (pp rfl)) (fun h => absurd h (pp rfl)))
      refine v_ia (v := c (A + 8) v10) rfl (ck_p8 hA) (a68 hA rfl) (by decide) ⟨hv10.1, by first | exact q_8d9392337 h_1 h_3 | (clear ha1 ha2 ha3 ha4 ha5 ha6 ha7 hv8 hv9 hv10 hx0 h_7 h_8; omega) | omega⟩ (hid kn_9) (q_istore rfl (Nat.le_of_ble_eq_true rfl) (q_iload rfl rfl (v_sip rfl (by decide) ?_)))
      by_cases h_10 : c (A + 8) v10 ≥ 2000
      · refine v_ic_ge_t (t := 171) rfl rfl ⟨by decide, h_10, by first | exact q_4e52e4576 h_7 | (clear ha1 ha2 ha3 ha4 ha5 ha6 ha7 hv8 hv9 hv10 hx0 h_1 h_3 h_8; omega) | omega⟩ (q_iload rfl rfl (q_iconst rfl ?_))
        by_cases h_11 : v9 ≤ 1
        · refine v_ic_le_t (t := 210) rfl rfl ⟨(Int.le_trans (by decide) hv9.1), h_11, by decide⟩ (v_iinc (v := v10 + 1) rfl rfl (Nat.le_of_ble_eq_true rfl) rfl (q_goto (t := 108) rfl rfl (Wp_ls [(0, .ref (A + 7)), (1, vi a1), (2, vi a2), (3, vi a3), (4, vi a4), (5, vi a5), (6, vi a6), (7, vi a7), (8, vi v8), (9, vi v9), (10, vi (v10 + 1))] (lsub_cons rfl (lsub_cons rfl (lsub_cons rfl (lsub_cons rfl (lsub_cons rfl (lsub_cons rfl (lsub_cons rfl (lsub_cons rfl (lsub_cons rfl (lsub_cons rfl (lsub_cons rfl lsub_nil))))))))))) ?_)))
          exact ih c2 v8 v9 (v10 + 1) hI2 (fun a j hm => hF a j (fun q => q.elim (fun h => hm (Or.inl h)) (fun h => hm (Or.inr h)))) hv8 hv9 ⟨by first | exact rgp_l hv10.1 (by decide) | omega, by first | exact q_b47906294 h_1 h_3 | (clear ha1 ha2 ha3 ha4 ha5 ha6 ha7 hv8 hv9 hv10 hx0 h_7 h_10 h_11 h_8; omega) | omega⟩ (by first | (clear ha1 ha2 ha3 ha4 ha5 ha6 ha7 hv8 hv9 hv10 h_1 h_3 h_7 h_10 h_11 h_8; omega) | omega) (by omega)
        · refine v_ic_le_f (t := 210) rfl rfl ⟨by decide, (Int.not_le.mp h_11), (Int.le_trans hv9.2 (by decide))⟩ (v_iinc (v := v9 - 1) rfl rfl (Nat.le_of_ble_eq_true rfl) (by first | (clear ha1 ha2 ha3 ha4 ha5 ha6 ha7 hv8 hv9 hv10 hx0 h_1 h_3 h_7 h_10 h_11 h_8; omega) | omega) (q_aload_n rfl rfl (v_gr (t := (A + 10)) rfl rfl (ck_p7 hA) (a68 hA rfl) rfl (q_iload rfl rfl (q_iconst rfl (v_isub (v := v9 - 2) rfl (by first | (clear ha1 ha2 ha3 ha4 ha5 ha6 ha7 hv8 hv9 hv10 hx0 h_1 h_3 h_7 h_10 h_11 h_8; omega) | omega) (q_iload rfl rfl ?_)))))))
          refine q_aload_n rfl rfl (v_gr (t := (A + 10)) rfl rfl (ck_p7 hA) (a68 hA rfl) rfl (q_iload rfl rfl (q_iconst rfl (v_isub (v := v9 - 2) rfl (by first | (clear ha1 ha2 ha3 ha4 ha5 ha6 ha7 hv8 hv9 hv10 hx0 h_1 h_3 h_7 h_10 h_11 h_8; omega) | omega) ?_))))
          have h_12 := ir_p10 hI2 hA (v9 - 2)
          refine v_ia (v := c2 (A + 10) (v9 - 2)) rfl (ck_p10 hA) (a68 hA rfl) (by decide) ⟨by first | exact q_3fd0c26f9 h_11 | (clear ha1 ha2 ha3 ha4 ha5 ha6 ha7 hv8 hv9 hv10 hx0 h_1 h_3 h_7 h_10 h_12 h_8; omega) | omega, by first | exact q_2d3808a94 hv9 | (clear ha1 ha2 ha3 ha4 ha5 ha6 ha7 hv8 hv10 hx0 h_1 h_3 h_7 h_10 h_11 h_12 h_8; omega) | omega⟩ rfl (q_aload_n rfl rfl (v_gr (t := (A + 10)) rfl rfl (ck_p7 hA) (a68 hA rfl) rfl (q_iload rfl rfl ?_)))
          have h_13 := ir_p10 hI2 hA (v9 - 1)
          refine v_ia (v := c2 (A + 10) (v9 - 1)) rfl (ck_p10 hA) (a68 hA rfl) (by decide) ⟨by first | exact q_96d88faef h_11 | (clear ha1 ha2 ha3 ha4 ha5 ha6 ha7 hv8 hv9 hv10 hx0 h_1 h_3 h_7 h_10 h_12 h_13 h_8; omega) | omega, by first | exact q_8528fcf54 hv9 | (clear ha1 ha2 ha3 ha4 ha5 ha6 ha7 hv8 hv10 hx0 h_1 h_3 h_7 h_10 h_11 h_12 h_13 h_8; omega) | omega⟩ rfl (q_call rfl rfl rfl rfl (s_19 (a0 := c (A + 8) v10) (a1 := c2 (A + 10) (v9 - 2)) (a2 := c2 (A + 10) (v9 - 1)) hI2 (show (-2147483648) ≤ c (A + 8) v10 ∧ c (A + 8) v10 ≤ 2147483647 from ⟨by first | exact q_efcdaf7e7 h_10 | (clear ha1 ha2 ha3 ha4 ha5 ha6 ha7 hv8 hv9 hv10 hx0 h_1 h_3 h_7 h_11 h_12 h_13 h_8; omega) | omega, by first | exact q_4e52e4576 h_7 | (clear ha1 ha2 ha3 ha4 ha5 ha6 ha7 hv8 hv9 hv10 hx0 h_1 h_3 h_10 h_11 h_12 h_13 h_8; omega) | omega⟩) (show (-2147483648) ≤ c2 (A + 10) (v9 - 2) ∧ c2 (A + 10) (v9 - 2) ≤ 2147483647 from h_12) (show (-2147483648) ≤ c2 (A + 10) (v9 - 1) ∧ c2 (A + 10) (v9 - 1) ≤ 2147483647 from h_13) (fun y_14 hy_14 => (bk_inl (v_is rfl (ck_p10 hA) (a68 hA rfl) (by decide) ⟨by first | exact q_3fd0c26f9 h_11 | (clear ha1 ha2 ha3 ha4 ha5 ha6 ha7 hv8 hv9 hv10 hx0 h_1 h_3 h_7 h_10 h_12 h_13 h_8; omega) | omega, by first | exact q_2d3808a94 hv9 | (clear ha1 ha2 ha3 ha4 ha5 ha6 ha7 hv8 hv10 hx0 h_1 h_3 h_7 h_10 h_11 h_12 h_13 h_8; omega) | omega⟩ (v_iinc (v := v10 + 1) rfl rfl (Nat.le_of_ble_eq_true rfl) rfl (q_goto (t := 108) rfl rfl ?_)))))))
          have hI_15 := iw_p10 (j := v9 - 2) (v := y_14) hI2 hA ⟨hy_14.1, hy_14.2⟩
          refine Wp_ls [(0, .ref (A + 7)), (1, vi a1), (2, vi a2), (3, vi a3), (4, vi a4), (5, vi a5), (6, vi a6), (7, vi a7), (8, vi v8), (9, vi (v9 - 1)), (10, vi (v10 + 1))] (lsub_cons rfl (lsub_cons rfl (lsub_cons rfl (lsub_cons rfl (lsub_cons rfl (lsub_cons rfl (lsub_cons rfl (lsub_cons rfl (lsub_cons rfl (lsub_cons rfl (lsub_cons rfl lsub_nil))))))))))) ?_
          exact ih (up c2 (A + 10) (v9 - 2) y_14) v8 (v9 - 1) (v10 + 1) hI_15 (fun a j hm => (up_b (Decidable.or_iff_not_imp_left.mpr (fun h1 h2 => hm (Or.inl (Decidable.not_not.mp h1))))).trans (hF a j (fun q => q.elim (fun h => hm (Or.inl h)) (fun h => hm (Or.inr h))))) hv8 ⟨by first | exact q_96d88faef h_11 | (clear ha1 ha2 ha3 ha4 ha5 ha6 ha7 hv8 hv9 hv10 hx0 h_1 h_3 h_7 h_10 h_12 h_13 h_8; omega) | omega, by first | exact rgm_h hv9.2 (by decide) | omega⟩ ⟨by first | exact rgp_l hv10.1 (by decide) | omega, by first | exact q_b47906294 h_1 h_3 | (clear ha1 ha2 ha3 ha4 ha5 ha6 ha7 hv8 hv9 hv10 hx0 h_7 h_10 h_11 h_12 h_13 h_8; omega) | omega⟩ (by first | (clear ha1 ha2 ha3 ha4 ha5 ha6 ha7 hv8 hv9 hv10 h_1 h_3 h_7 h_10 h_11 h_12 h_13 h_8; omega) | omega) (by omega)
      · refine v_ic_ge_f (t := 171) rfl rfl ⟨by first | exact q_cc1935a2a h_7 | (clear ha1 ha2 ha3 ha4 ha5 ha6 ha7 hv8 hv9 hv10 hx0 h_1 h_3 h_8; omega) | omega, (Int.not_le.mp h_10), by decide⟩ (q_aload_n rfl rfl (v_gr (t := (A + 10)) rfl rfl (ck_p7 hA) (a68 hA rfl) rfl (q_iload rfl rfl (q_iload rfl rfl (v_sip rfl (by decide) ?_)))))
        by_cases h_16 : c (A + 8) v10 ≥ 1000
        · refine v_ic_ge_t (t := 153) rfl rfl ⟨by decide, h_16, by first | exact q_8e843b4e6 h_10 | (clear ha1 ha2 ha3 ha4 ha5 ha6 ha7 hv8 hv9 hv10 hx0 h_1 h_3 h_7 h_8; omega) | omega⟩ (q_aload_n rfl rfl (v_gr (t := (A + 11)) rfl rfl (ck_p7 hA) (a68 hA rfl) rfl (q_iload rfl rfl (v_sip rfl (by decide) (v_isub (v := c (A + 8) v10 - 1000) rfl rfl ?_)))))
          have h_17 := ir_p11 hI2 hA (c (A + 8) v10 - 1000)
          refine v_ia (v := c2 (A + 11) (c (A + 8) v10 - 1000)) rfl (ck_p11 hA) (a68 hA rfl) (by decide) ⟨by first | exact q_3b6849c3a h_16 | (clear ha1 ha2 ha3 ha4 ha5 ha6 ha7 hv8 hv9 hv10 hx0 h_1 h_3 h_7 h_10 h_17 h_8; omega) | omega, by first | (clear ha1 ha2 ha3 ha4 ha5 ha6 ha7 hv8 hv9 hv10 hx0 h_1 h_3 h_7 h_16 h_17; omega) | omega⟩ rfl (v_is rfl (ck_p10 hA) (a68 hA rfl) (by decide) ⟨hv9.1, by first | (clear ha1 ha2 ha3 ha4 ha5 ha6 ha7 hv8 hv9 hv10 h_7 h_10 h_16 h_17 h_8; omega) | omega⟩ (v_iinc (v := v9 + 1) rfl rfl (Nat.le_of_ble_eq_true rfl) rfl (q_goto (t := 210) rfl rfl (v_iinc (v := v10 + 1) rfl rfl (Nat.le_of_ble_eq_true rfl) rfl (q_goto (t := 108) rfl rfl ?_)))))
          have hI_18 := iw_p10 (j := v9) (v := c2 (A + 11) (c (A + 8) v10 - 1000)) hI2 hA ⟨h_17.1, h_17.2⟩
          refine Wp_ls [(0, .ref (A + 7)), (1, vi a1), (2, vi a2), (3, vi a3), (4, vi a4), (5, vi a5), (6, vi a6), (7, vi a7), (8, vi v8), (9, vi (v9 + 1)), (10, vi (v10 + 1))] (lsub_cons rfl (lsub_cons rfl (lsub_cons rfl (lsub_cons rfl (lsub_cons rfl (lsub_cons rfl (lsub_cons rfl (lsub_cons rfl (lsub_cons rfl (lsub_cons rfl (lsub_cons rfl lsub_nil))))))))))) ?_
          exact ih (up c2 (A + 10) v9 (c2 (A + 11) (c (A + 8) v10 - 1000))) v8 (v9 + 1) (v10 + 1) hI_18 (fun a j hm => (up_b (Decidable.or_iff_not_imp_left.mpr (fun h1 h2 => hm (Or.inl (Decidable.not_not.mp h1))))).trans (hF a j (fun q => q.elim (fun h => hm (Or.inl h)) (fun h => hm (Or.inr h))))) hv8 ⟨by first | exact rgp_l hv9.1 (by decide) | omega, by first | (clear ha1 ha2 ha3 ha4 ha5 ha6 ha7 hv8 hv9 hv10 h_7 h_10 h_16 h_17 h_8; omega) | omega⟩ ⟨by first | exact rgp_l hv10.1 (by decide) | omega, by first | exact q_b47906294 h_1 h_3 | (clear ha1 ha2 ha3 ha4 ha5 ha6 ha7 hv8 hv9 hv10 hx0 h_7 h_10 h_16 h_17 h_8; omega) | omega⟩ (by first | (clear ha1 ha2 ha3 ha4 ha5 ha6 ha7 hv8 hv9 hv10 h_1 h_3 h_7 h_10 h_16 h_17 h_8; omega) | omega) (by omega)
        · refine v_ic_ge_f (t := 153) rfl rfl ⟨by first | exact q_cc1935a2a h_7 | (clear ha1 ha2 ha3 ha4 ha5 ha6 ha7 hv8 hv9 hv10 hx0 h_1 h_3 h_10 h_8; omega) | omega, (Int.not_le.mp h_16), by decide⟩ (q_iload rfl rfl (q_goto (t := 164) rfl rfl (v_is rfl (ck_p10 hA) (a68 hA rfl) (by decide) ⟨hv9.1, by first | (clear ha1 ha2 ha3 ha4 ha5 ha6 ha7 hv8 hv9 hv10 h_7 h_10 h_16 h_8; omega) | omega⟩ (v_iinc (v := v9 + 1) rfl rfl (Nat.le_of_ble_eq_true rfl) rfl (q_goto (t := 210) rfl rfl (v_iinc (v := v10 + 1) rfl rfl (Nat.le_of_ble_eq_true rfl) rfl (q_goto (t := 108) rfl rfl ?_)))))))
          have hI_19 := iw_p10 (j := v9) (v := c (A + 8) v10) hI2 hA ⟨by first | exact q_cc1935a2a h_7 | (clear ha1 ha2 ha3 ha4 ha5 ha6 ha7 hv8 hv9 hv10 hx0 h_1 h_3 h_10 h_16 h_8; omega) | omega, by first | exact q_626295773 h_16 | (clear ha1 ha2 ha3 ha4 ha5 ha6 ha7 hv8 hv9 hv10 hx0 h_1 h_3 h_7 h_10 h_8; omega) | omega⟩
          refine Wp_ls [(0, .ref (A + 7)), (1, vi a1), (2, vi a2), (3, vi a3), (4, vi a4), (5, vi a5), (6, vi a6), (7, vi a7), (8, vi v8), (9, vi (v9 + 1)), (10, vi (v10 + 1))] (lsub_cons rfl (lsub_cons rfl (lsub_cons rfl (lsub_cons rfl (lsub_cons rfl (lsub_cons rfl (lsub_cons rfl (lsub_cons rfl (lsub_cons rfl (lsub_cons rfl (lsub_cons rfl lsub_nil))))))))))) ?_
          exact ih (up c2 (A + 10) v9 (c (A + 8) v10)) v8 (v9 + 1) (v10 + 1) hI_19 (fun a j hm => (up_b (Decidable.or_iff_not_imp_left.mpr (fun h1 h2 => hm (Or.inl (Decidable.not_not.mp h1))))).trans (hF a j (fun q => q.elim (fun h => hm (Or.inl h)) (fun h => hm (Or.inr h))))) hv8 ⟨by first | exact rgp_l hv9.1 (by decide) | omega, by first | (clear ha1 ha2 ha3 ha4 ha5 ha6 ha7 hv8 hv9 hv10 h_7 h_10 h_16 h_8; omega) | omega⟩ ⟨by first | exact rgp_l hv10.1 (by decide) | omega, by first | exact q_b47906294 h_1 h_3 | (clear ha1 ha2 ha3 ha4 ha5 ha6 ha7 hv8 hv9 hv10 hx0 h_7 h_10 h_16 h_8; omega) | omega⟩ (by first | (clear ha1 ha2 ha3 ha4 ha5 ha6 ha7 hv8 hv9 hv10 h_1 h_3 h_7 h_10 h_16 h_8; omega) | omega) (by omega)
set_option maxRecDepth 100000 in
set_option maxHeartbeats 4000000 in
theorem s_20 {sc : List Int32} {e : Int} {d u P Q A : Nat} {c : ME} {a1 : Int} {a2 : Int} {a3 : Int} {a4 : Int} {a5 : Int} {a6 : Int} {a7 : Int} {Z : AR → Prop} (hI : Iv u e P Q c) (hA : A = 13 ∨ A = 25) (ha1 : 0 ≤ a1 ∧ a1 ≤ 9999) (ha2 : 0 ≤ a2 ∧ a2 ≤ 9999) (ha3 : 0 ≤ a3 ∧ a3 ≤ 9999) (ha4 : 0 ≤ a4 ∧ a4 ≤ 9999) (ha5 : (-2147483648) ≤ a5 ∧ a5 ≤ 2147483647) (ha6 : (-2147483648) ≤ a6 ∧ a6 ≤ 2147483647) (ha7 : (-2147483648) ≤ a7 ∧ a7 ≤ 2147483647) (K : ∀ (c2 : ME) (y : Int), Iv u e P Q c2 → (∀ (a : Nat) (j : Int), ¬ (a = (A + 10) ∨ a = (A + 11)) → c2 a j = c a j) → 0 ≤ y ∧ y ≤ 99 → Z (.inl (some (vi y)), Wd P Q P P c2, 0, 0)) : Wp sc (d + 8) 20 0 [(0, .ref (A + 7)), (1, vi a1), (2, vi a2), (3, vi a3), (4, vi a4), (5, vi a5), (6, vi a6), (7, vi a7)] [] (Wd P Q P P c) 0 0 Z := by
  have hP := iv_P hI
  have hQ := iv_Q hI
  refine q_iload_n rfl rfl (q_iload_n rfl rfl (v_iadd (v := a1 + a2) rfl rfl (q_iload_n rfl rfl (v_iadd (v := a1 + a2 + a3) rfl rfl (q_iload rfl rfl (v_iadd (v := a1 + a2 + a3 + a4) rfl rfl (q_istore rfl (Nat.le_of_ble_eq_true rfl) ?_)))))))
  refine q_aload_n rfl rfl ?_
  have h_20 := ir_p7_4 hI hA
  refine v_gi (z := 4) (v := c (A + 7) 4) rfl rfl (ck_p7 hA) (a68 hA rfl) rfl rfl rfl ?_
  by_cases h_21 : c (A + 7) 4 ≠ 0
  · refine v_if_ne_t (t := 39) rfl rfl ⟨h_21, ⟨(Int.le_trans (by decide) h_20.1), (Int.le_trans h_20.2 (by decide))⟩, by decide, by decide⟩ (q_aload_n rfl rfl (v_gr (t := (A + 11)) rfl rfl (ck_p7 hA) (a68 hA rfl) rfl (q_iconst rfl (q_iload_n rfl rfl (v_is rfl (ck_p11 hA) (a68 hA rfl) (by decide) (by decide) (q_aload_n rfl rfl (v_gr (t := (A + 11)) rfl rfl (ck_p7 hA) (a68 hA rfl) rfl ?_)))))))
    refine q_iconst rfl (q_iload_n rfl rfl (v_is rfl (ck_p11 hA) (a68 hA rfl) (by decide) (by decide) (q_aload_n rfl rfl (v_gr (t := (A + 11)) rfl rfl (ck_p7 hA) (a68 hA rfl) rfl (q_iconst rfl (q_iload_n rfl rfl (v_is rfl (ck_p11 hA) (a68 hA rfl) (by decide) (by decide) ?_)))))))
    refine q_aload_n rfl rfl (v_gr (t := (A + 11)) rfl rfl (ck_p7 hA) (a68 hA rfl) rfl (q_iconst rfl (q_iload rfl rfl (v_is rfl (ck_p11 hA) (a68 hA rfl) (by decide) (by decide) (q_aload_n rfl rfl (v_gr (t := (A + 11)) rfl rfl (ck_p7 hA) (a68 hA rfl) rfl (q_iconst rfl ?_)))))))
    refine q_iload rfl rfl (v_is rfl (ck_p11 hA) (a68 hA rfl) (by decide) (by decide) (q_aload_n rfl rfl (v_gr (t := (A + 11)) rfl rfl (ck_p7 hA) (a68 hA rfl) rfl (q_iconst rfl (q_iload rfl rfl (v_is rfl (ck_p11 hA) (a68 hA rfl) (by decide) (by decide) (q_aload_n rfl rfl ?_)))))))
    refine v_gr (t := (A + 11)) rfl rfl (ck_p7 hA) (a68 hA rfl) rfl (v_bip rfl (by decide) (q_iload rfl rfl (v_is rfl (ck_p11 hA) (a68 hA rfl) (by decide) (by decide) (q_aload_n rfl rfl (v_gr (t := (A + 11)) rfl rfl (ck_p7 hA) (a68 hA rfl) rfl (v_bip rfl (by decide) (q_iload rfl rfl ?_)))))))
    refine v_is rfl (ck_p11 hA) (a68 hA rfl) (by decide) (by decide) (q_iconst rfl (q_istore rfl (Nat.le_of_ble_eq_true rfl) (q_iconst rfl (q_istore rfl (Nat.le_of_ble_eq_true rfl) ?_))))
    have hI_22 := iw_p11 (j := 0) (v := a1) hI hA ⟨(Int.le_trans (by decide) ha1.1), (Int.le_trans ha1.2 (by decide))⟩
    have hI_23 := iw_p11 (j := 1) (v := a2) hI_22 hA ⟨(Int.le_trans (by decide) ha2.1), (Int.le_trans ha2.2 (by decide))⟩
    have hI_24 := iw_p11 (j := 2) (v := a3) hI_23 hA ⟨(Int.le_trans (by decide) ha3.1), (Int.le_trans ha3.2 (by decide))⟩
    have hI_25 := iw_p11 (j := 3) (v := a4) hI_24 hA ⟨(Int.le_trans (by decide) ha4.1), (Int.le_trans ha4.2 (by decide))⟩
    have hI_26 := iw_p11 (j := 4) (v := a1 + a2 + a3 + a4) hI_25 hA ⟨by first | exact q_8c4697e7c ha1 ha2 ha3 ha4 | (clear ha5 ha6 ha7 h_20 h_21; omega) | omega, by first | exact q_46d991406 ha1 ha2 ha3 ha4 | (clear ha5 ha6 ha7 h_20 h_21; omega) | omega⟩
    have hI_27 := iw_p11 (j := 5) (v := a5) hI_26 hA ⟨ha5.1, ha5.2⟩
    have hI_28 := iw_p11 (j := 6) (v := a6) hI_27 hA ⟨ha6.1, ha6.2⟩
    have hI_29 := iw_p11 (j := 7) (v := a7) hI_28 hA ⟨ha7.1, ha7.2⟩
    refine Wp_ls [(0, .ref (A + 7)), (1, vi a1), (2, vi a2), (3, vi a3), (4, vi a4), (5, vi a5), (6, vi a6), (7, vi a7), (8, vi (a1 + a2 + a3 + a4)), (9, vi 0), (10, vi 0)] (lsub_cons rfl (lsub_cons rfl (lsub_cons rfl (lsub_cons rfl (lsub_cons rfl (lsub_cons rfl (lsub_cons rfl (lsub_cons rfl (lsub_cons rfl (lsub_cons rfl (lsub_cons rfl lsub_nil))))))))))) ?_
    exact (s_20_l (sc := sc) (d := d) hI hA ha1 ha2 ha3 ha4 ha5 ha6 ha7 K 304) (up (up (up (up (up (up (up (up c (A + 11) 0 a1) (A + 11) 1 a2) (A + 11) 2 a3) (A + 11) 3 a4) (A + 11) 4 (a1 + a2 + a3 + a4)) (A + 11) 5 a5) (A + 11) 6 a6) (A + 11) 7 a7) (a1 + a2 + a3 + a4) 0 0 hI_29 (fun a j hm => (up_b (Decidable.or_iff_not_imp_left.mpr (fun h1 h2 => hm (Or.inr (Decidable.not_not.mp h1))))).trans ((up_b (Decidable.or_iff_not_imp_left.mpr (fun h1 h2 => hm (Or.inr (Decidable.not_not.mp h1))))).trans ((up_b (Decidable.or_iff_not_imp_left.mpr (fun h1 h2 => hm (Or.inr (Decidable.not_not.mp h1))))).trans ((up_b (Decidable.or_iff_not_imp_left.mpr (fun h1 h2 => hm (Or.inr (Decidable.not_not.mp h1))))).trans ((up_b (Decidable.or_iff_not_imp_left.mpr (fun h1 h2 => hm (Or.inr (Decidable.not_not.mp h1))))).trans ((up_b (Decidable.or_iff_not_imp_left.mpr (fun h1 h2 => hm (Or.inr (Decidable.not_not.mp h1))))).trans ((up_b (Decidable.or_iff_not_imp_left.mpr (fun h1 h2 => hm (Or.inr (Decidable.not_not.mp h1))))).trans (up_b (Decidable.or_iff_not_imp_left.mpr (fun h1 h2 => hm (Or.inr (Decidable.not_not.mp h1)))))))))))) ⟨by first | exact q_3a12ae26c ha1 ha2 ha3 ha4 | (clear ha5 ha6 ha7 h_20 h_21; omega) | omega, by first | exact q_1bb4088f7 ha1 ha2 ha3 ha4 | (clear ha5 ha6 ha7 h_20 h_21; omega) | omega⟩ ⟨by decide, by decide⟩ ⟨by decide, by decide⟩ (by first | decide | (clear ha1 ha2 ha3 ha4 ha5 ha6 ha7 h_20 h_21; omega) | omega) (by omega)
  · refine v_if_ne_f (t := 39) rfl rfl (Decidable.not_not.mp h_21) (q_iload rfl rfl (v_if_lt_f (t := 37) rfl rfl ⟨by decide, by first | exact q_3a12ae26c ha1 ha2 ha3 ha4 | omega, by first | exact q_46d991406 ha1 ha2 ha3 ha4 | omega⟩ (q_iload_n rfl rfl (v_bip rfl (by decide) (v_imul (v := 90 * a1) rfl (by omega) (q_iload rfl rfl (q_iconst rfl ?_)))))))
    refine v_iadd (v := a1 + a2 + a3 + a4 + 1) rfl rfl (v_idivx rfl ⟨by omega, by omega, by omega⟩ (fun y_30 hy_30 => (q_call rfl rfl rfl rfl (q_iload_n rfl rfl ?_))))
    by_cases h_31 : y_30 ≥ 0
    · refine v_if_ge_t (t := 8) rfl rfl ⟨by decide, h_31, hy_30.2⟩ (q_iload_n rfl rfl (v_bip rfl (by decide) ?_))
      by_cases h_32 : y_30 ≤ 99
      · refine v_ic_le_t (t := 19) rfl rfl ⟨hy_30.1, h_32, by decide⟩ (q_iload_n rfl rfl (q_iret rfl rfl (bk_inl (q_goto (t := 38) rfl rfl (q_iret rfl rfl ?_)))))
        exact K c y_30 hI (fun a j hm => rfl) ⟨by first | exact q_059235c2c h_31 | omega, by first | exact q_a6cbc6a20 h_32 | omega⟩
      · refine v_ic_le_f (t := 19) rfl rfl ⟨by decide, (Int.not_le.mp h_32), hy_30.2⟩ (v_bip rfl (by decide) (q_goto (t := 20) rfl rfl (q_iret rfl rfl (bk_inl (q_goto (t := 38) rfl rfl (q_iret rfl rfl ?_))))))
        exact K c 99 hI (fun a j hm => rfl) ⟨by decide, by decide⟩
    · refine v_if_ge_f (t := 8) rfl rfl ⟨hy_30.1, (Int.not_le.mp h_31), by decide⟩ (q_iconst rfl (q_goto (t := 20) rfl rfl (q_iret rfl rfl (bk_inl (q_goto (t := 38) rfl rfl (q_iret rfl rfl ?_))))))
      exact K c 0 hI (fun a j hm => rfl) ⟨by decide, by decide⟩

set_option maxRecDepth 100000 in
set_option maxHeartbeats 4000000 in
theorem s_22 {sc : List Int32} {e : Int} {d u P Q : Nat} {c : ME} {Z : AR → Prop} (hI : Iv u e P Q c)  (K : ∀ (c2 : ME), Iv u e P Q c2 → (∀ (a : Nat) (j : Int), ¬ ((a = 3 ∧ j = 3) ∨ (a = 3 ∧ j = 4)) → c2 a j = c a j) → ((c2 3 3 = 0 ∧ c2 3 4 = 0)) → Z (.inl (none), Wd P Q P P c2, 0, 0)) : Wp sc (d + 7) 22 0 [(0, .ref 3)] [] (Wd P Q P P c) 0 0 Z := by
  have hP := iv_P hI
  have hQ := iv_Q hI
  refine q_aload_n rfl rfl (q_iconst rfl (v_pi (z := 3) rfl rfl rfl (Nat.le_of_ble_eq_true rfl) rfl rfl rfl (by decide) (q_aload_n rfl rfl (q_iconst rfl (v_pi (z := 4) rfl rfl rfl (Nat.le_of_ble_eq_true rfl) rfl rfl rfl (by decide) (q_vret rfl rfl ?_))))))
  have hI_1 := iw_3_3 (v := 0) hI ⟨by decide, by decide⟩
  have hI_2 := iw_3_4 (v := 0) hI_1 ⟨by decide, by decide⟩
  have h_3 : (up (up c 3 3 0) 3 4 0) 3 3 = 0 := ((up_n (by decide)).trans (up_e rfl))
  have h_4 : (up (up c 3 3 0) 3 4 0) 3 4 = 0 := (up_e rfl)
  exact K (up (up c 3 3 0) 3 4 0) hI_2 (fun a j hm => (up_b (Decidable.or_iff_not_imp_left.mpr (fun h1 h2 => hm (Or.inr ⟨Decidable.not_not.mp h1, h2⟩)))).trans (up_b (Decidable.or_iff_not_imp_left.mpr (fun h1 h2 => hm (Or.inl ⟨Decidable.not_not.mp h1, h2⟩))))) ⟨by first | decide | omega, by first | decide | omega⟩

set_option maxRecDepth 100000 in
set_option maxHeartbeats 4000000 in
theorem s_24 {sc : List Int32} {d P Q : Nat} {c : ME} {Z : AR → Prop} (hI : Iv 0 (-1) P Q c)  (K : ∀ (c2 : ME), Iv 0 (-1) P Q c2 → (∀ (a : Nat) (j : Int), ¬ ((a = 3 ∧ j = 3) ∨ a = 4) → c2 a j = c a j) → ((c 3 3 ≤ 15 ∧ c2 3 3 = c 3 3 + 1) ∨ (c 3 3 ≥ 16 ∧ c2 3 3 = c 3 3)) → Z (.inl (none), Wd P Q P P c2, 0, 0)) : Wp sc (d + 8) 24 0 [(0, .ref 3), (1, .ref 37)] [] (Wd P Q P P c) 0 0 Z := by
  have hP := iv_P hI
  have hQ := iv_Q hI
  refine q_aload_n rfl rfl (v_cv rfl rfl rfl rfl (Nat.le_of_ble_eq_true rfl) ⟨⟨rfl, rfl⟩, Nat.le_of_ble_eq_true rfl, rfl⟩ (Nat.le_of_ble_eq_true rfl) (Nat.le_of_ble_eq_true rfl) (q_aload_n rfl rfl ?_))
  have h_1 := ir_3_3 hI
  refine v_gi (z := 3) (v := c 3 3) rfl rfl rfl (Nat.le_of_ble_eq_true rfl) rfl rfl rfl (v_bip rfl (by decide) ?_)
  by_cases h_2 : c 3 3 < 16
  · refine v_ic_lt_t (t := 13) rfl rfl ⟨(Int.le_trans (by decide) h_1.1), h_2, by decide⟩ (q_iconst rfl (v_zret rfl rfl (by decide) (bk_inl (v_if_ne_f (t := 38) rfl rfl (by decide) (q_aload_n rfl rfl (v_gr (t := 38) rfl rfl rfl (Nat.le_of_ble_eq_true rfl) rfl (q_iconst rfl ?_)))))))
    refine q_aload_n rfl rfl (v_gr (t := 4) rfl rfl rfl (Nat.le_of_ble_eq_true rfl) rfl (q_aload_n rfl rfl (v_gi (z := 3) (v := c 3 3) rfl rfl rfl (Nat.le_of_ble_eq_true rfl) rfl rfl rfl (v_bip rfl (by decide) (v_imul (v := 34 * c 3 3) rfl (by omega) (v_bip rfl (by decide) (v_cpy rfl rfl rfl (by decide) rfl (by decide) rfl rfl (by omega) (Nat.le_of_ble_eq_true rfl) (by omega) ?_)))))))
    refine q_aload_n rfl rfl (q_dup rfl rfl (v_gi (z := 3) (v := c 3 3) rfl rfl rfl (Nat.le_of_ble_eq_true rfl) rfl rfl (upc_c (by omega)) (q_iconst rfl (v_iadd (v := c 3 3 + 1) rfl rfl (v_pi (z := 3) rfl rfl rfl (Nat.le_of_ble_eq_true rfl) rfl rfl rfl (by decide) (q_vret rfl rfl ?_))))))
    have hI_3 := cp_38_4 (w := 34 * c 3 3) (i := c 3 3) hI (by omega) (by omega)
    have hI_4 := iw_3_3 (v := c 3 3 + 1) hI_3 ⟨by first | exact rgp_l h_1.1 (by decide) | omega, by first | exact q_b9b7f355a h_2 | omega⟩
    have h_5 : (up (upc c 38 0 4 (34 * c 3 3) 34) 3 3 (c 3 3 + 1)) 3 3 = c 3 3 + 1 := (up_e rfl)
    exact K (up (upc c 38 0 4 (34 * c 3 3) 34) 3 3 (c 3 3 + 1)) hI_4 (fun a j hm => (up_b (Decidable.or_iff_not_imp_left.mpr (fun h1 h2 => hm (Or.inl ⟨Decidable.not_not.mp h1, h2⟩)))).trans (upc_c (fun h => hm (Or.inr h)))) (Or.inl ⟨by first | exact q_aa6ed1614 h_2 | omega, by first | exact q_17ab3fb37 | omega⟩)
  · refine v_ic_lt_f (t := 13) rfl rfl ⟨by decide, (Int.not_lt.mp h_2), (Int.le_trans h_1.2 (by decide))⟩ (q_iconst rfl (q_goto (t := 14) rfl rfl (v_zret rfl rfl (by decide) (bk_inl (v_if_ne_t (t := 38) rfl rfl (by decide) (q_vret rfl rfl ?_))))))
    exact K c hI (fun a j hm => rfl) (Or.inr ⟨by first | exact q_d306fa533 h_2 | omega, by first | exact q_94b7ed2f4 | omega⟩)

set_option maxRecDepth 100000 in
set_option maxHeartbeats 4000000 in
theorem s_25 {sc : List Int32} {d P Q : Nat} {c : ME} {Z : AR → Prop} (hI : Iv 0 (-1) P Q c)  (K : ∀ (c2 : ME), Iv 0 (-1) P Q c2 → (∀ (a : Nat) (j : Int), ¬ ((a = 3 ∧ j = 3) ∨ a = 38) → c2 a j = c a j) → ((c 3 3 > 0 ∧ c2 3 3 = c 3 3 - 1) ∨ (c 3 3 ≤ 0 ∧ c2 3 3 = c 3 3)) → Z (.inl (none), Wd P Q P P c2, 0, 0)) : Wp sc (d + 7) 25 0 [(0, .ref 3), (1, .ref 37)] [] (Wd P Q P P c) 0 0 Z := by
  have hP := iv_P hI
  have hQ := iv_Q hI
  refine q_aload_n rfl rfl ?_
  have h_1 := ir_3_3 hI
  refine v_gi (z := 3) (v := c 3 3) rfl rfl rfl (Nat.le_of_ble_eq_true rfl) rfl rfl rfl ?_
  by_cases h_2 : c 3 3 ≤ 0
  · refine v_if_le_t (t := 38) rfl rfl ⟨(Int.le_trans (by decide) h_1.1), h_2, by decide⟩ (q_vret rfl rfl ?_)
    exact K c hI (fun a j hm => rfl) (Or.inr ⟨by first | exact q_f0d4f2762 h_2 | omega, by first | exact q_94b7ed2f4 | omega⟩)
  · refine v_if_le_f (t := 38) rfl rfl ⟨by decide, (Int.not_le.mp h_2), (Int.le_trans h_1.2 (by decide))⟩ (q_aload_n rfl rfl (q_dup rfl rfl (v_gi (z := 3) (v := c 3 3) rfl rfl rfl (Nat.le_of_ble_eq_true rfl) rfl rfl rfl (q_iconst rfl (v_isub (v := c 3 3 - 1) rfl rfl (v_pi (z := 3) rfl rfl rfl (Nat.le_of_ble_eq_true rfl) rfl rfl rfl (by decide) (q_aload_n rfl rfl ?_)))))))
    refine v_gr (t := 4) rfl rfl rfl (Nat.le_of_ble_eq_true rfl) rfl (q_aload_n rfl rfl (v_gi (z := 3) (v := c 3 3 - 1) rfl rfl rfl (Nat.le_of_ble_eq_true rfl) rfl rfl (up_e rfl) (v_bip rfl (by decide) (v_imul (v := 34 * c 3 3 - 34) rfl (by omega) (q_aload_n rfl rfl (v_gr (t := 38) rfl rfl rfl (Nat.le_of_ble_eq_true rfl) rfl (q_iconst rfl ?_)))))))
    refine v_bip rfl (by decide) (v_cpy rfl rfl rfl (by decide) rfl (by decide) rfl rfl (by omega) (Nat.le_of_ble_eq_true rfl) (by omega) (q_vret rfl rfl ?_))
    have hI_3 := iw_3_3 (v := c 3 3 - 1) hI ⟨by first | exact q_3ca0fc078 h_2 | omega, by first | exact rgm_h h_1.2 (by decide) | omega⟩
    have hI_4 := cp_4_38 (w := 34 * c 3 3 - 34) (i := c 3 3 - 1) hI_3 (by omega) (by omega)
    have h_5 : (upc (up c 3 3 (c 3 3 - 1)) 4 (34 * c 3 3 - 34) 38 0 34) 3 3 = c 3 3 - 1 := ((upc_c (by omega)).trans (up_e rfl))
    exact K (upc (up c 3 3 (c 3 3 - 1)) 4 (34 * c 3 3 - 34) 38 0 34) hI_4 (fun a j hm => (upc_c (fun h => hm (Or.inr h))).trans (up_b (Decidable.or_iff_not_imp_left.mpr (fun h1 h2 => hm (Or.inl ⟨Decidable.not_not.mp h1, h2⟩))))) (Or.inl ⟨by first | exact q_ca88f5637 h_2 | omega, by first | exact q_f8eb4c5e4 | omega⟩)

set_option maxRecDepth 100000 in
set_option maxHeartbeats 4000000 in
theorem s_26 {sc : List Int32} {d P Q : Nat} {c : ME} {Z : AR → Prop} (hI : Iv 0 (-1) P Q c)  (K : ∀ (c2 : ME), Iv 0 (-1) P Q c2 → (∀ (a : Nat) (j : Int), ¬ ((a = 3 ∧ j = 4) ∨ a = 5 ∨ a = 6) → c2 a j = c a j) → ((c 3 4 ≤ 2 ∧ c2 3 4 = c 3 4 + 1) ∨ (c 3 4 ≥ 3 ∧ c2 3 4 = c 3 4)) → Z (.inl (none), Wd P Q P P c2, 0, 0)) : Wp sc (d + 7) 26 0 [(0, .ref 3), (1, .ref 37)] [] (Wd P Q P P c) 0 0 Z := by
  have hP := iv_P hI
  have hQ := iv_Q hI
  refine q_aload_n rfl rfl ?_
  have h_1 := ir_3_4 hI
  refine v_gi (z := 4) (v := c 3 4) rfl rfl rfl (Nat.le_of_ble_eq_true rfl) rfl rfl rfl (q_iconst rfl ?_)
  by_cases h_2 : c 3 4 ≥ 3
  · refine v_ic_ge_t (t := 78) rfl rfl ⟨by decide, h_2, (Int.le_trans h_1.2 (by decide))⟩ (q_vret rfl rfl ?_)
    exact K c hI (fun a j hm => rfl) (Or.inr ⟨by first | exact q_67bc6dc49 h_2 | omega, by first | exact q_94b7ed2f4 | omega⟩)
  · refine v_ic_ge_f (t := 78) rfl rfl ⟨(Int.le_trans (by decide) h_1.1), (Int.not_le.mp h_2), by decide⟩ (q_aload_n rfl rfl (v_gi (z := 4) (v := c 3 4) rfl rfl rfl (Nat.le_of_ble_eq_true rfl) rfl rfl rfl (v_sip rfl (by decide) (v_imul (v := 578 * c 3 4) rfl (by omega) (q_istore_n rfl (Nat.le_of_ble_eq_true rfl) (q_aload_n rfl rfl (v_gr (t := 38) rfl rfl rfl (Nat.le_of_ble_eq_true rfl) rfl ?_)))))))
    refine q_iconst rfl (q_aload_n rfl rfl (v_gr (t := 5) rfl rfl rfl (Nat.le_of_ble_eq_true rfl) rfl (q_iload_n rfl rfl (v_bip rfl (by decide) (v_cpy rfl rfl rfl (by decide) rfl (by decide) rfl rfl (by omega) (Nat.le_of_ble_eq_true rfl) (by omega) (q_aload_n rfl rfl (v_gr (t := 4) rfl rfl rfl (Nat.le_of_ble_eq_true rfl) rfl ?_)))))))
    refine q_iconst rfl (q_aload_n rfl rfl (v_gr (t := 5) rfl rfl rfl (Nat.le_of_ble_eq_true rfl) rfl (q_iload_n rfl rfl (v_bip rfl (by decide) (v_iadd (v := 578 * c 3 4 + 34) rfl rfl (q_aload_n rfl rfl ?_))))))
    have h_3 := ir_3_3 hI
    refine v_gi (z := 3) (v := c 3 3) rfl rfl rfl (Nat.le_of_ble_eq_true rfl) rfl rfl (upc_c (by omega)) (v_bip rfl (by decide) (v_imul (v := 34 * c 3 3) rfl (by omega) (v_cpy rfl rfl rfl (by decide) rfl (by decide) rfl rfl (by omega) (Nat.le_of_ble_eq_true rfl) (by omega) (q_aload_n rfl rfl (v_gr (t := 6) rfl rfl rfl (Nat.le_of_ble_eq_true rfl) rfl (q_aload_n rfl rfl (v_gi (z := 4) (v := c 3 4) rfl rfl rfl (Nat.le_of_ble_eq_true rfl) rfl rfl ((upc_c (by omega)).trans (upc_c (by omega))) ?_)))))))
    refine q_aload_n rfl rfl (v_gi (z := 3) (v := c 3 3) rfl rfl rfl (Nat.le_of_ble_eq_true rfl) rfl rfl ((upc_c (by omega)).trans (upc_c (by omega))) (v_is rfl rfl (by decide) (by decide) ⟨h_1.1, by first | exact q_c644f7bb7 h_2 | omega⟩ (q_aload_n rfl rfl (q_dup rfl rfl (v_gi (z := 4) (v := c 3 4) rfl rfl rfl (Nat.le_of_ble_eq_true rfl) rfl rfl ((up_c (nn rfl)).trans ((upc_c (by omega)).trans (upc_c (by omega)))) (q_iconst rfl (v_iadd (v := c 3 4 + 1) rfl rfl ?_)))))))
    refine v_pi (z := 4) rfl rfl rfl (Nat.le_of_ble_eq_true rfl) rfl rfl rfl (by decide) (q_vret rfl rfl ?_)
    have hI_4 := cp_38_5 (w := 578 * c 3 4) (i := c 3 4) hI (by omega) (by omega)
    have hI_5 := cp_4_5 (w := 578 * c 3 4 + 34) (i := c 3 4) (n := 34 * c 3 3) (k := c 3 3) hI_4 (by omega) (by omega) (by omega) (by omega)
    have hI_6 := iw_6 (j := c 3 4) (v := c 3 3) hI_5 ⟨h_3.1, h_3.2⟩
    have hI_7 := iw_3_4 (v := c 3 4 + 1) hI_6 ⟨by first | exact rgp_l h_1.1 (by decide) | omega, by first | exact q_d380ec9e8 h_2 | omega⟩
    have h_8 : (up (up (upc (upc c 38 0 5 (578 * c 3 4) 34) 4 0 5 (578 * c 3 4 + 34) (34 * c 3 3)) 6 (c 3 4) (c 3 3)) 3 4 (c 3 4 + 1)) 3 4 = c 3 4 + 1 := (up_e rfl)
    exact K (up (up (upc (upc c 38 0 5 (578 * c 3 4) 34) 4 0 5 (578 * c 3 4 + 34) (34 * c 3 3)) 6 (c 3 4) (c 3 3)) 3 4 (c 3 4 + 1)) hI_7 (fun a j hm => (up_b (Decidable.or_iff_not_imp_left.mpr (fun h1 h2 => hm (Or.inl ⟨Decidable.not_not.mp h1, h2⟩)))).trans ((up_b (Decidable.or_iff_not_imp_left.mpr (fun h1 h2 => hm (Or.inr (Or.inr (Decidable.not_not.mp h1)))))).trans ((upc_c (fun h => hm (Or.inr (Or.inl h)))).trans (upc_c (fun h => hm (Or.inr (Or.inl h))))))) (Or.inl ⟨by first | exact q_1aec5e53f h_2 | omega, by first | exact q_17ab3fb37 | omega⟩)

set_option maxRecDepth 100000 in
set_option maxHeartbeats 4000000 in
theorem s_27 {sc : List Int32} {d P Q : Nat} {c : ME} {Z : AR → Prop} (hI : Iv 0 (-1) P Q c)  (K : ∀ (c2 : ME), Iv 0 (-1) P Q c2 → (∀ (a : Nat) (j : Int), ¬ ((a = 3 ∧ j = 3) ∨ (a = 3 ∧ j = 4) ∨ a = 38 ∨ a = 4) → c2 a j = c a j) → ((c 3 4 > 0 ∧ c2 3 4 = c 3 4 - 1) ∨ (c 3 4 ≤ 0 ∧ c2 3 4 = c 3 4)) → Z (.inl (none), Wd P Q P P c2, 0, 0)) : Wp sc (d + 7) 27 0 [(0, .ref 3), (1, .ref 37)] [] (Wd P Q P P c) 0 0 Z := by
  have hP := iv_P hI
  have hQ := iv_Q hI
  refine q_aload_n rfl rfl ?_
  have h_1 := ir_3_4 hI
  refine v_gi (z := 4) (v := c 3 4) rfl rfl rfl (Nat.le_of_ble_eq_true rfl) rfl rfl rfl ?_
  by_cases h_2 : c 3 4 ≤ 0
  · refine v_if_le_t (t := 77) rfl rfl ⟨(Int.le_trans (by decide) h_1.1), h_2, by decide⟩ (q_vret rfl rfl ?_)
    exact K c hI (fun a j hm => rfl) (Or.inr ⟨by first | exact q_f0d4f2762 h_2 | omega, by first | exact q_94b7ed2f4 | omega⟩)
  · refine v_if_le_f (t := 77) rfl rfl ⟨by decide, (Int.not_le.mp h_2), (Int.le_trans h_1.2 (by decide))⟩ (q_aload_n rfl rfl (q_dup rfl rfl (v_gi (z := 4) (v := c 3 4) rfl rfl rfl (Nat.le_of_ble_eq_true rfl) rfl rfl rfl (q_iconst rfl (v_isub (v := c 3 4 - 1) rfl rfl (v_pi (z := 4) rfl rfl rfl (Nat.le_of_ble_eq_true rfl) rfl rfl rfl (by decide) (q_aload_n rfl rfl ?_)))))))
    refine q_aload_n rfl rfl (v_gr (t := 6) rfl rfl rfl (Nat.le_of_ble_eq_true rfl) rfl (q_aload_n rfl rfl (v_gi (z := 4) (v := c 3 4 - 1) rfl rfl rfl (Nat.le_of_ble_eq_true rfl) rfl rfl (up_e rfl) ?_)))
    have h_3 := ir_6 hI (c 3 4 - 1)
    refine v_ia (v := c 6 (c 3 4 - 1)) rfl rfl (by decide) (by decide) ⟨by first | exact q_3ca0fc078 h_2 | omega, by first | exact q_6660ef6d1 h_1 | omega⟩ (up_c (nn rfl)) (v_pi (z := 3) rfl rfl rfl (Nat.le_of_ble_eq_true rfl) rfl rfl rfl (by decide) (q_aload_n rfl rfl (v_gi (z := 4) (v := c 3 4 - 1) rfl rfl rfl (Nat.le_of_ble_eq_true rfl) rfl rfl ((up_n (by decide)).trans (up_e rfl)) (v_sip rfl (by decide) (v_imul (v := 578 * c 3 4 - 578) rfl (by omega) (q_istore_n rfl (Nat.le_of_ble_eq_true rfl) (q_aload_n rfl rfl ?_)))))))
    refine v_gr (t := 5) rfl rfl rfl (Nat.le_of_ble_eq_true rfl) rfl (q_iload_n rfl rfl (q_aload_n rfl rfl (v_gr (t := 38) rfl rfl rfl (Nat.le_of_ble_eq_true rfl) rfl (q_iconst rfl (v_bip rfl (by decide) (v_cpy rfl rfl rfl (by decide) rfl (by decide) rfl rfl (by omega) (Nat.le_of_ble_eq_true rfl) (by omega) (q_aload_n rfl rfl ?_)))))))
    refine v_gr (t := 5) rfl rfl rfl (Nat.le_of_ble_eq_true rfl) rfl (q_iload_n rfl rfl (v_bip rfl (by decide) (v_iadd (v := 578 * c 3 4 - 544) rfl (by omega) (q_aload_n rfl rfl (v_gr (t := 4) rfl rfl rfl (Nat.le_of_ble_eq_true rfl) rfl (q_iconst rfl (q_aload_n rfl rfl ?_)))))))
    refine v_gi (z := 3) (v := c 6 (c 3 4 - 1)) rfl rfl rfl (Nat.le_of_ble_eq_true rfl) rfl rfl ((upc_c (by omega)).trans (up_e rfl)) (v_bip rfl (by decide) (v_imul (v := 34 * c 6 (c 3 4 - 1)) rfl (by omega) (v_cpy rfl rfl rfl (by decide) rfl (by decide) rfl rfl (by omega) (Nat.le_of_ble_eq_true rfl) (by omega) (q_vret rfl rfl ?_))))
    have hI_4 := iw_3_4 (v := c 3 4 - 1) hI ⟨by first | exact q_3ca0fc078 h_2 | omega, by first | exact rgm_h h_1.2 (by decide) | omega⟩
    have hI_5 := iw_3_3 (v := c 6 (c 3 4 - 1)) hI_4 ⟨h_3.1, h_3.2⟩
    have hI_6 := cp_5_38 (w := 578 * c 3 4 - 578) (i := c 3 4 - 1) hI_5 (by omega) (by omega)
    have hI_7 := cp_5_4 (w := 578 * c 3 4 - 544) (i := c 3 4 - 1) (n := 34 * c 6 (c 3 4 - 1)) (k := c 6 (c 3 4 - 1)) hI_6 (by omega) (by omega) (by omega) (by omega)
    have h_8 : (upc (upc (up (up c 3 4 (c 3 4 - 1)) 3 3 (c 6 (c 3 4 - 1))) 5 (578 * c 3 4 - 578) 38 0 34) 5 (578 * c 3 4 - 544) 4 0 (34 * c 6 (c 3 4 - 1))) 3 4 = c 3 4 - 1 := ((upc_c (by omega)).trans ((upc_c (by omega)).trans ((up_n (by decide)).trans (up_e rfl))))
    exact K (upc (upc (up (up c 3 4 (c 3 4 - 1)) 3 3 (c 6 (c 3 4 - 1))) 5 (578 * c 3 4 - 578) 38 0 34) 5 (578 * c 3 4 - 544) 4 0 (34 * c 6 (c 3 4 - 1))) hI_7 (fun a j hm => (upc_c (fun h => hm (Or.inr (Or.inr (Or.inr h))))).trans ((upc_c (fun h => hm (Or.inr (Or.inr (Or.inl h))))).trans ((up_b (Decidable.or_iff_not_imp_left.mpr (fun h1 h2 => hm (Or.inl ⟨Decidable.not_not.mp h1, h2⟩)))).trans (up_b (Decidable.or_iff_not_imp_left.mpr (fun h1 h2 => hm (Or.inr (Or.inl ⟨Decidable.not_not.mp h1, h2⟩)))))))) (Or.inl ⟨by first | exact q_ca88f5637 h_2 | omega, by first | exact q_f8eb4c5e4 | omega⟩)

set_option maxRecDepth 100000 in
set_option maxHeartbeats 4000000 in
theorem s_29 {sc : List Int32} {e : Int} {d u P Q A : Nat} {c : ME} {a1 : Int} {a2 : Int} {Z : AR → Prop} (hI : Iv u e P Q c) (hA : A = 13 ∨ A = 25) (ha1 : 0 ≤ a1 ∧ a1 ≤ 3) (ha2 : 0 ≤ a2 ∧ a2 ≤ 2) (K : ∀ (y : Int), 0 ≤ y ∧ y ≤ 10 → Z (.inl (some (vi y)), Wd P Q P P c, 0, 0)) : Wp sc (d + 7) 29 0 [(0, .ref A), (1, vi a1), (2, vi a2)] [] (Wd P Q P P c) 0 0 Z := by
  have hP := iv_P hI
  have hQ := iv_Q hI
  refine q_aload_n rfl rfl (v_gr (t := (A + 2)) rfl rfl (ck_p0 hA) (a68z hA) rfl (q_iload_n rfl rfl (q_iconst rfl (v_imul (v := 3 * a1) rfl (by omega) (q_iload_n rfl rfl (v_iadd (v := 3 * a1 + a2) rfl rfl ?_))))))
  have h_1 := ir_p2 hI hA (3 * a1 + a2)
  refine v_ia (v := c (A + 2) (3 * a1 + a2)) rfl (ck_p2 hA) (a68 hA rfl) (by decide) ⟨by first | exact q_51965173a ha1 ha2 | omega, by first | exact q_d187370ec ha1 ha2 | omega⟩ rfl (q_iret rfl rfl ?_)
  exact K (c (A + 2) (3 * a1 + a2)) h_1

set_option maxRecDepth 100000 in
set_option maxHeartbeats 4000000 in
theorem s_30_l {sc : List Int32} {e : Int} {d u P Q A : Nat} {c : ME} {Z : AR → Prop} (hI : Iv u e P Q c) (hA : A = 13 ∨ A = 25) (K : ∀ (c2 : ME), Iv u e P Q c2 → (∀ (a : Nat) (j : Int), ¬ ((a = A ∧ j = 0) ∨ (a = A ∧ j = 1) ∨ (a = A ∧ j = 2) ∨ (a = A ∧ j = 3) ∨ (a = A ∧ j = 4) ∨ (a = A ∧ j = 5) ∨ a = (A + 6) ∨ (a = (A + 7) ∧ j = 4)) → c2 a j = c a j) → ((c2 A 0 = 0 ∧ c2 A 1 = 0 ∧ c2 A 2 = 0 ∧ c2 A 3 = 5 ∧ c2 A 4 = 0 ∧ c2 A 5 = 0)) → ((c2 (A + 7) 4 = 0)) → Z (.inl (none), Wd P Q P P c2, 0, 0)) : ∀ n : Nat, (∀ (c2 : ME) (v1 : Int), Iv u e P Q c2 → (∀ (a : Nat) (j : Int), ¬ ((a = A ∧ j = 0) ∨ (a = A ∧ j = 1) ∨ (a = A ∧ j = 2) ∨ (a = A ∧ j = 3) ∨ (a = A ∧ j = 4) ∨ (a = A ∧ j = 5) ∨ a = (A + 6) ∨ (a = (A + 7) ∧ j = 4)) → c2 a j = c a j) → 0 ≤ v1 ∧ v1 ≤ 4 → ((c2 A 0 = 0 ∧ c2 A 1 = 0 ∧ c2 A 2 = 0 ∧ c2 A 3 = 5 ∧ c2 A 4 = 0 ∧ c2 A 5 = 0)) → 9 - 2 * v1 < (n : Int) → Wp sc (d + 8) 30 32 [(0, .ref A), (1, vi v1)] [] (Wd P Q P P c2) 0 0 Z)
  | 0 => by intro c2 v1 hI2 hF hv1 hx0 hm9; have hP := iv_P hI; have hQ := iv_Q hI; exfalso; omega
  | n + 1 => by
    have hP := iv_P hI
    have hQ := iv_Q hI
    have ih := s_30_l (sc := sc) (d := d) hI hA K n
    intro c2 v1 hI2 hF hv1 hx0 hm9
    have h_1 := ir_p0_0 hI2 hA
    have h_2 := ir_p0_1 hI2 hA
    have h_3 := ir_p0_2 hI2 hA
    have h_4 := ir_p0_3 hI2 hA
    have h_5 := ir_p0_4 hI2 hA
    have h_6 := ir_p0_5 hI2 hA
    refine q_iload_n rfl rfl (q_iconst rfl ?_)
    by_cases h_7 : v1 ≥ 4
    · refine v_ic_ge_t (t := 50) rfl rfl ⟨by decide, h_7, (Int.le_trans hv1.2 (by decide))⟩ (q_aload_n rfl rfl (v_gr (t := (A + 7)) rfl rfl (ck_p0 hA) (a68z hA) rfl (v_cv rfl rfl rfl (ck_p7 hA) (a68 hA rfl) ⟨⟨rfl, rfl⟩, by decide, rfl⟩ (Nat.le_of_ble_eq_true rfl) (Nat.le_of_ble_eq_true rfl) (s_1 hI2 hA (fun c_8 hI_9 hF_10 h_11 => (bk_inl ?_))))))
      have h_12 := ir_p7_4 hI_9 hA
      refine q_vret rfl rfl ?_
      have kn_13 : Hid (c_8 A 0 = c2 A 0) := hF_10 A 0 (fun h => absurd h.1 (p0p rfl))
      have h_14 : c_8 A 0 = c2 A 0 := (hid kn_13)
      have kn_15 : Hid (c_8 A 1 = c2 A 1) := hF_10 A 1 (fun h => absurd h.1 (p0p rfl))
      have h_16 : c_8 A 1 = c2 A 1 := (hid kn_15)
      have kn_17 : Hid (c_8 A 2 = c2 A 2) := hF_10 A 2 (fun h => absurd h.1 (p0p rfl))
      have h_18 : c_8 A 2 = c2 A 2 := (hid kn_17)
      have kn_19 : Hid (c_8 A 3 = c2 A 3) := hF_10 A 3 (fun h => absurd h.1 (p0p rfl))
      have h_20 : c_8 A 3 = c2 A 3 := (hid kn_19)
      have kn_21 : Hid (c_8 A 4 = c2 A 4) := hF_10 A 4 (fun h => absurd h.1 (p0p rfl))
      have h_22 : c_8 A 4 = c2 A 4 := (hid kn_21)
      have kn_23 : Hid (c_8 A 5 = c2 A 5) := hF_10 A 5 (fun h => absurd h.1 (p0p rfl))
      have h_24 : c_8 A 5 = c2 A 5 := (hid kn_23)
      exact K c_8 hI_9 (fun a j hm => (hF_10 a j (fun h => hm (Or.inr (Or.inr (Or.inr (Or.inr (Or.inr (Or.inr (Or.inr h))))))))).trans (hF a j (fun q => q.elim (fun h => hm (Or.inl h)) (fun q => q.elim (fun h => hm (Or.inr (Or.inl h))) (fun q => q.elim (fun h => hm (Or.inr (Or.inr (Or.inl h)))) (fun q => q.elim (fun h => hm (Or.inr (Or.inr (Or.inr (Or.inl h))))) (fun q => q.elim (fun h => hm (Or.inr (Or.inr (Or.inr (Or.inr (Or.inl h)))))) (fun q => q.elim (fun h => hm (Or.inr (Or.inr (Or.inr (Or.inr (Or.inr (Or.inl h))))))) (fun q => q.elim (fun h => hm (Or.inr (Or.inr (Or.inr (Or.inr (Or.inr (Or.inr (Or.inl h)))))))) (fun h => hm (Or.inr (Or.inr (Or.inr (Or.inr (Or.inr (Or.inr (Or.inr h))))))))))))))))) ⟨by omega, by omega, by omega, by omega, by omega, by omega⟩ (by omega)
    · refine v_ic_ge_f (t := 50) rfl rfl ⟨(Int.le_trans (by decide) hv1.1), (Int.not_le.mp h_7), by decide⟩ (q_aload_n rfl rfl (v_gr (t := (A + 6)) rfl rfl (ck_p0 hA) (a68z hA) rfl (q_iload_n rfl rfl (q_iconst rfl (v_is rfl (ck_p6 hA) (a68 hA rfl) (by decide) ⟨hv1.1, by first | exact q_2e808647e h_7 | omega⟩ (v_iinc (v := v1 + 1) rfl rfl (Nat.le_of_ble_eq_true rfl) rfl (q_goto (t := 32) rfl rfl ?_)))))))
      have hI_25 := iw_p6 (j := v1) (v := (-1)) hI2 hA ⟨by decide, by decide⟩
      refine Wp_ls [(0, .ref A), (1, vi (v1 + 1))] (lsub_cons rfl (lsub_cons rfl lsub_nil)) ?_
      have h_26 : (up c2 (A + 6) v1 (-1)) A 0 = c2 A 0 := (up_c (p0p rfl))
      have h_27 : (up c2 (A + 6) v1 (-1)) A 1 = c2 A 1 := (up_c (p0p rfl))
      have h_28 : (up c2 (A + 6) v1 (-1)) A 2 = c2 A 2 := (up_c (p0p rfl))
      have h_29 : (up c2 (A + 6) v1 (-1)) A 3 = c2 A 3 := (up_c (p0p rfl))
      have h_30 : (up c2 (A + 6) v1 (-1)) A 4 = c2 A 4 := (up_c (p0p rfl))
      have h_31 : (up c2 (A + 6) v1 (-1)) A 5 = c2 A 5 := (up_c (p0p rfl))
      exact ih (up c2 (A + 6) v1 (-1)) (v1 + 1) hI_25 (fun a j hm => (up_b (Decidable.or_iff_not_imp_left.mpr (fun h1 h2 => hm (Or.inr (Or.inr (Or.inr (Or.inr (Or.inr (Or.inr (Or.inl (Decidable.not_not.mp h1))))))))))).trans (hF a j (fun q => q.elim (fun h => hm (Or.inl h)) (fun q => q.elim (fun h => hm (Or.inr (Or.inl h))) (fun q => q.elim (fun h => hm (Or.inr (Or.inr (Or.inl h)))) (fun q => q.elim (fun h => hm (Or.inr (Or.inr (Or.inr (Or.inl h))))) (fun q => q.elim (fun h => hm (Or.inr (Or.inr (Or.inr (Or.inr (Or.inl h)))))) (fun q => q.elim (fun h => hm (Or.inr (Or.inr (Or.inr (Or.inr (Or.inr (Or.inl h))))))) (fun q => q.elim (fun h => hm (Or.inr (Or.inr (Or.inr (Or.inr (Or.inr (Or.inr (Or.inl h)))))))) (fun h => hm (Or.inr (Or.inr (Or.inr (Or.inr (Or.inr (Or.inr (Or.inr h))))))))))))))))) ⟨by first | exact rgp_l hv1.1 (by decide) | omega, by first | exact q_121241f94 h_7 | omega⟩ ⟨by omega, by omega, by omega, by omega, by omega, by omega⟩ (by omega)
set_option maxRecDepth 100000 in
set_option maxHeartbeats 4000000 in
theorem s_30 {sc : List Int32} {e : Int} {d u P Q A : Nat} {c : ME} {Z : AR → Prop} (hI : Iv u e P Q c) (hA : A = 13 ∨ A = 25) (K : ∀ (c2 : ME), Iv u e P Q c2 → (∀ (a : Nat) (j : Int), ¬ ((a = A ∧ j = 0) ∨ (a = A ∧ j = 1) ∨ (a = A ∧ j = 2) ∨ (a = A ∧ j = 3) ∨ (a = A ∧ j = 4) ∨ (a = A ∧ j = 5) ∨ a = (A + 6) ∨ (a = (A + 7) ∧ j = 4)) → c2 a j = c a j) → ((c2 A 0 = 0 ∧ c2 A 1 = 0 ∧ c2 A 2 = 0 ∧ c2 A 3 = 5 ∧ c2 A 4 = 0 ∧ c2 A 5 = 0)) → ((c2 (A + 7) 4 = 0)) → Z (.inl (none), Wd P Q P P c2, 0, 0)) : Wp sc (d + 8) 30 0 [(0, .ref A)] [] (Wd P Q P P c) 0 0 Z := by
  have hP := iv_P hI
  have hQ := iv_Q hI
  refine q_aload_n rfl rfl (q_iconst rfl (v_pi (z := 0) rfl rfl (ck_p0 hA) (a68z hA) rfl rfl rfl (by decide) (q_aload_n rfl rfl (q_iconst rfl (v_pi (z := 1) rfl rfl (ck_p0 hA) (a68z hA) rfl rfl rfl (by decide) (q_aload_n rfl rfl (q_iconst rfl ?_)))))))
  refine v_pi (z := 2) rfl rfl (ck_p0 hA) (a68z hA) rfl rfl rfl (by decide) (q_aload_n rfl rfl (q_iconst rfl (v_pi (z := 3) rfl rfl (ck_p0 hA) (a68z hA) rfl rfl rfl (by decide) (q_aload_n rfl rfl (q_iconst rfl (v_pi (z := 4) rfl rfl (ck_p0 hA) (a68z hA) rfl rfl rfl (by decide) (q_aload_n rfl rfl ?_)))))))
  refine q_iconst rfl (v_pi (z := 5) rfl rfl (ck_p0 hA) (a68z hA) rfl rfl rfl (by decide) (q_iconst rfl (q_istore_n rfl (Nat.le_of_ble_eq_true rfl) ?_)))
  have hI_32 := iw_p0_0 (v := 0) hI hA ⟨by decide, by decide⟩
  have hI_33 := iw_p0_1 (v := 0) hI_32 hA ⟨by decide, by decide⟩
  have hI_34 := iw_p0_2 (v := 0) hI_33 hA ⟨by decide, by decide⟩
  have hI_35 := iw_p0_3 (v := 5) hI_34 hA ⟨by decide, by decide⟩
  have hI_36 := iw_p0_4 (v := 0) hI_35 hA ⟨by decide, by decide⟩ (fun j h1 h2 => by omega)
  have hI_37 := iw_p0_5 (v := 0) hI_36 hA ⟨by decide, by decide⟩
  refine Wp_ls [(0, .ref A), (1, vi 0)] (lsub_cons rfl (lsub_cons rfl lsub_nil)) ?_
  have h_38 : (up (up (up (up (up (up c A 0 0) A 1 0) A 2 0) A 3 5) A 4 0) A 5 0) A 0 = 0 := ((up_n (by decide)).trans ((up_n (by decide)).trans ((up_n (by decide)).trans ((up_n (by decide)).trans ((up_n (by decide)).trans (up_e rfl))))))
  have h_39 : (up (up (up (up (up (up c A 0 0) A 1 0) A 2 0) A 3 5) A 4 0) A 5 0) A 1 = 0 := ((up_n (by decide)).trans ((up_n (by decide)).trans ((up_n (by decide)).trans ((up_n (by decide)).trans (up_e rfl)))))
  have h_40 : (up (up (up (up (up (up c A 0 0) A 1 0) A 2 0) A 3 5) A 4 0) A 5 0) A 2 = 0 := ((up_n (by decide)).trans ((up_n (by decide)).trans ((up_n (by decide)).trans (up_e rfl))))
  have h_41 : (up (up (up (up (up (up c A 0 0) A 1 0) A 2 0) A 3 5) A 4 0) A 5 0) A 3 = 5 := ((up_n (by decide)).trans ((up_n (by decide)).trans (up_e rfl)))
  have h_42 : (up (up (up (up (up (up c A 0 0) A 1 0) A 2 0) A 3 5) A 4 0) A 5 0) A 4 = 0 := ((up_n (by decide)).trans (up_e rfl))
  have h_43 : (up (up (up (up (up (up c A 0 0) A 1 0) A 2 0) A 3 5) A 4 0) A 5 0) A 5 = 0 := (up_e rfl)
  exact (s_30_l (sc := sc) (d := d) hI hA K 12) (up (up (up (up (up (up c A 0 0) A 1 0) A 2 0) A 3 5) A 4 0) A 5 0) 0 hI_37 (fun a j hm => (up_b (Decidable.or_iff_not_imp_left.mpr (fun h1 h2 => hm (Or.inr (Or.inr (Or.inr (Or.inr (Or.inr (Or.inl ⟨Decidable.not_not.mp h1, h2⟩))))))))).trans ((up_b (Decidable.or_iff_not_imp_left.mpr (fun h1 h2 => hm (Or.inr (Or.inr (Or.inr (Or.inr (Or.inl ⟨Decidable.not_not.mp h1, h2⟩)))))))).trans ((up_b (Decidable.or_iff_not_imp_left.mpr (fun h1 h2 => hm (Or.inr (Or.inr (Or.inr (Or.inl ⟨Decidable.not_not.mp h1, h2⟩))))))).trans ((up_b (Decidable.or_iff_not_imp_left.mpr (fun h1 h2 => hm (Or.inr (Or.inr (Or.inl ⟨Decidable.not_not.mp h1, h2⟩)))))).trans ((up_b (Decidable.or_iff_not_imp_left.mpr (fun h1 h2 => hm (Or.inr (Or.inl ⟨Decidable.not_not.mp h1, h2⟩))))).trans (up_b (Decidable.or_iff_not_imp_left.mpr (fun h1 h2 => hm (Or.inl ⟨Decidable.not_not.mp h1, h2⟩))))))))) ⟨by decide, by decide⟩ ⟨by first | decide | omega, by first | decide | omega, by first | decide | omega, by first | decide | omega, by first | decide | omega, by first | decide | omega⟩ (by omega)

