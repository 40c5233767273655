/-! ===== the texts, exactly ===== -/
theorem q_0002e0578 {x0 : Int} (f0 : ¬ (x0 ≠ 0)) : x0 = 0 := by omega
theorem q_324f7a7fb {x0 : Int} (f0 : ¬ (x0 ≠ (-1))) : x0 = (-1) := by omega
theorem q_e102c8f11 {x0 x1 : Int} (f0 : ¬ (4 ≠ x0 - x1)) : 0 < x0 - x1 := by omega
theorem q_559789b9d {x0 x1 : Int} (f0 : ¬ (4 ≠ x0 - x1)) : x0 - x1 ≤ 2147483647 := by omega
theorem q_a2240bc6c {x0 x1 : Int} (f0 : ¬ (4 ≠ x0 - x1)) : 1 < x0 - x1 := by omega
theorem q_81cf1e9c6 {x0 x1 : Int} (f0 : ¬ (4 ≠ x0 - x1)) : 2 < x0 - x1 := by omega
theorem q_bf9798940 {x0 x1 : Int} (f0 : ¬ (4 ≠ x0 - x1)) : 3 < x0 - x1 := by omega
theorem q_5edcef13d {x0 x1 : Int} (f0 : ¬ (4 ≠ x0 - x1)) : (-2147483648) ≤ x0 - x1 := by omega
theorem q_62ba5a5ea {x0 x1 : Int} (f0 : ¬ (4 ≠ x0 - x1)) : x0 - x1 ≤ 4 := by omega
theorem q_38a4b4bff {x0 x1 : Int} (f0 : ¬ (5 ≠ x0 - x1)) : 0 < x0 - x1 := by omega
theorem q_fe3598997 {x0 x1 : Int} (f0 : ¬ (5 ≠ x0 - x1)) : x0 - x1 ≤ 2147483647 := by omega
theorem q_2f422e7b9 {x0 x1 : Int} (f0 : ¬ (5 ≠ x0 - x1)) : 1 < x0 - x1 := by omega
theorem q_415b3b712 {x0 x1 : Int} (f0 : ¬ (5 ≠ x0 - x1)) : 2 < x0 - x1 := by omega
theorem q_170273d75 {x0 x1 : Int} (f0 : ¬ (5 ≠ x0 - x1)) : 3 < x0 - x1 := by omega
theorem q_9d61d9b81 {x0 x1 : Int} (f0 : ¬ (5 ≠ x0 - x1)) : 4 < x0 - x1 := by omega
theorem q_c439bfa43 {x0 x1 : Int} (f0 : ¬ (5 ≠ x0 - x1)) : (-2147483648) ≤ x0 - x1 := by omega
theorem q_fc9a05b17 {x0 x1 : Int} (f0 : ¬ (5 ≠ x0 - x1)) : x0 - x1 ≤ 5 := by omega
theorem q_8d10d25b6 {x0 x1 : Int} (f0 : ¬ (3 ≠ x0 - x1)) : 0 < x0 - x1 := by omega
theorem q_22d63526a {x0 x1 : Int} (f0 : ¬ (3 ≠ x0 - x1)) : x0 - x1 ≤ 2147483647 := by omega
theorem q_f1d336e40 {x0 x1 : Int} (f0 : ¬ (3 ≠ x0 - x1)) : 1 < x0 - x1 := by omega
theorem q_3cb5391db {x0 x1 : Int} (f0 : ¬ (3 ≠ x0 - x1)) : 2 < x0 - x1 := by omega
theorem q_2271afefa {x0 x1 : Int} (f0 : ¬ (3 ≠ x0 - x1)) : (-2147483648) ≤ x0 - x1 := by omega
theorem q_8e661bf2d {x0 x1 : Int} (f0 : ¬ (3 ≠ x0 - x1)) : x0 - x1 ≤ 3 := by omega
theorem q_09476ad38 {x0 x1 : Int} (f0 : ¬ (6 ≠ x0 - x1)) : 0 < x0 - x1 := by omega
theorem q_881184168 {x0 x1 : Int} (f0 : ¬ (6 ≠ x0 - x1)) : x0 - x1 ≤ 2147483647 := by omega
theorem q_0e4b485b8 {x0 x1 : Int} (f0 : ¬ (6 ≠ x0 - x1)) : 1 < x0 - x1 := by omega
theorem q_f95e75b3b {x0 x1 : Int} (f0 : ¬ (6 ≠ x0 - x1)) : 2 < x0 - x1 := by omega
theorem q_694ccc537 {x0 x1 : Int} (f0 : ¬ (6 ≠ x0 - x1)) : 3 < x0 - x1 := by omega
theorem q_9e78fb4c3 {x0 x1 : Int} (f0 : ¬ (6 ≠ x0 - x1)) : 4 < x0 - x1 := by omega
theorem q_f88b1f598 {x0 x1 : Int} (f0 : ¬ (6 ≠ x0 - x1)) : 5 < x0 - x1 := by omega
theorem q_594136ddf {x0 x1 : Int} (f0 : ¬ (6 ≠ x0 - x1)) : (-2147483648) ≤ x0 - x1 := by omega
theorem q_0e87a78aa {x0 x1 : Int} (f0 : ¬ (6 ≠ x0 - x1)) : x0 - x1 ≤ 6 := by omega
theorem q_bf023cfbf {x0 : Int} (f0 : x0 < 48) : x0 < 48 := by omega
theorem q_a721ec4f4 {x0 : Int} (f0 : x0 > 57) : 57 < x0 := by omega
theorem q_cf7de2a6a {x0 : Int} (f0 : ¬ (x0 < 48)) : 48 ≤ x0 := by omega
theorem q_ffc24702f {x0 : Int} (f0 : ¬ (x0 > 57)) : x0 ≤ 57 := by omega
theorem c_10_55 : mLk 10 55 = some (.invokevirtual 56, 3) := rfl
theorem c_10_71 : mLk 10 71 = some (.invokevirtual 56, 3) := rfl
theorem c_4_9 : mLk 4 9 = some (.invokevirtual 56, 3) := rfl
set_option maxRecDepth 100000 in
set_option maxHeartbeats 4000000 in
theorem f_3_l {sc : List Int32} {e : Int} {d u P Q : Nat} {c : ME} {e1 a9 r8 : Int} {B : Int → Int} {Z : AR → Prop} (hI : Iv u e P Q c) (hv0 : c 1 1 = e1) (hv1 : c 1 2 = a9) (hB : ∀ j : Int, c 2 j = B j) (hdr8 : nx B e1 a9 = r8) (K0 : ∀ c2 : ME, Iv u e P Q c2 → (∀ (a : Nat) (j : Int), ¬ ((a = 1 ∧ j = 2)) → c2 a j = c a j) → (c2 1 2 = r8) → Z (.inl (some (vi r8)), Wd P Q P P c2, 0, 0)) : ∀ n : Nat, (∀ (c2 : ME), Iv u e P Q c2 → (∀ (a : Nat) (j : Int), ¬ ((a = 1 ∧ j = 2)) → c2 a j = c a j) → (nx B e1 (c2 1 2) = r8) → 600 - c2 1 2 < (n : Int) → Wp sc (d + 7) 3 0 [(0, .ref 1)] [] (Wd P Q P P c2) 0 0 Z)
  | 0 => by intro c2 hI2 hF hx0 hm9; have hP := iv_P hI; have hQ := iv_Q hI; have h_1 := ir_1_1 hI; have h_2 := ir_1_2 hI; have h_3 := ir_1_2 hI2; exfalso; omega
  | n + 1 => by
    have hP := iv_P hI
    have hQ := iv_Q hI
    have ih := f_3_l (sc := sc) (d := d) hI hv0 hv1 hB hdr8 K0 n
    intro c2 hI2 hF hx0 hm9
    have h_1 := ir_1_1 hI
    have h_2 := ir_1_2 hI
    have h_3 := ir_1_2 hI2
    refine q_aload_n c_3_0 rfl (v_gi (z := 2) (v := c2 1 2) c_3_1 kf_5_35 rfl (Nat.le_of_ble_eq_true rfl) rfl rfl rfl (q_aload_n c_3_4 rfl ?_))
    have kn_4 : Hid (c2 1 1 = e1) := (hF 1 1 (fun h => absurd h.2 (ni rfl))).trans (hv0)
    refine v_gi (z := 1) (v := e1) c_3_5 kf_5_32 rfl (Nat.le_of_ble_eq_true rfl) rfl rfl (hid kn_4) ?_
    by_cases h_5 : c2 1 2 ≥ e1
    · refine v_ic_ge_t (t := 38) c_3_8 rfl ⟨by omega, h_5, (Int.le_trans h_3.2 (by decide))⟩ (q_aload_n c_3_38 rfl (v_gi (z := 2) (v := c2 1 2) c_3_39 kf_5_35 rfl (Nat.le_of_ble_eq_true rfl) rfl rfl rfl (q_iret c_3_42 rfl ?_)))
      have hz8 : nx B e1 (c2 1 2) = c2 1 2 := nx_z (by omega)
      have hz9 : r8 = c2 1 2 := hx0.symm.trans hz8
      exact zv (by omega) (K0 c2 hI2 (fun a j hm => hF a j hm) (by omega))
    · refine v_ic_ge_f (t := 38) c_3_8 rfl ⟨(Int.le_trans (by decide) h_3.1), (Int.not_le.mp h_5), by omega⟩ (q_aload_n c_3_11 rfl (v_gr (t := 2) c_3_12 kf_5_9 rfl (Nat.le_of_ble_eq_true rfl) rfl (q_aload_n c_3_15 rfl (v_gi (z := 2) (v := c2 1 2) c_3_16 kf_5_35 rfl (Nat.le_of_ble_eq_true rfl) rfl rfl rfl ?_))))
      have h_6 : -2147483648 ≤ (B (c2 1 2)) ∧ (B (c2 1 2)) ≤ 2147483647 := by rw [← hB (c2 1 2)]; exact ir_2 hI (c2 1 2)
      have kn_7 : Hid (c2 2 (c2 1 2) = (B (c2 1 2))) := (hF 2 (c2 1 2) (fun h => absurd h.1 (nn rfl))).trans (hB (c2 1 2))
      refine v_ba (v := (B (c2 1 2))) c_3_19 rfl (by decide) (by decide) ⟨h_3.1, by omega⟩ (hid kn_7) (v_bip c_3_20 (by decide) ?_)
      by_cases h_8 : (B (c2 1 2)) ≠ 32
      · refine v_ic_ne_t (t := 38) c_3_22 rfl ⟨h_8, ⟨by first | exact q_f97c35332 h_6 | omega, by first | exact q_79e53d295 h_6 | omega⟩, by decide, by decide⟩ (q_aload_n c_3_38 rfl (v_gi (z := 2) (v := c2 1 2) c_3_39 kf_5_35 rfl (Nat.le_of_ble_eq_true rfl) rfl rfl rfl (q_iret c_3_42 rfl ?_)))
        have hz8 : nx B e1 (c2 1 2) = c2 1 2 := nx_z (by omega)
        have hz9 : r8 = c2 1 2 := hx0.symm.trans hz8
        exact zv (by omega) (K0 c2 hI2 (fun a j hm => hF a j hm) (by omega))
      · refine v_ic_ne_f (t := 38) c_3_22 rfl (Decidable.not_not.mp h_8) (q_aload_n c_3_25 rfl (q_dup c_3_26 rfl (v_gi (z := 2) (v := c2 1 2) c_3_27 kf_5_35 rfl (Nat.le_of_ble_eq_true rfl) rfl rfl rfl (q_iconst c_3_30 (v_iadd (v := c2 1 2 + 1) c_3_31 rfl (v_pi (z := 2) c_3_32 kf_5_35 rfl (Nat.le_of_ble_eq_true rfl) rfl rfl rfl (by decide) (q_goto (t := 0) c_3_35 rfl ?_)))))))
        have hI_9 := iw_1_2 (v := c2 1 2 + 1) hI2 ⟨by first | exact rgp_l h_3.1 (by decide) | omega, by omega⟩
        refine Wp_ls [(0, .ref 1)] (lsub_cons rfl lsub_nil) ?_
        have h_10 : (up c2 1 2 (c2 1 2 + 1)) 1 2 = c2 1 2 + 1 := (up_e rfl)
        exact ih (up c2 1 2 (c2 1 2 + 1)) hI_9 (fun a j hm => (up_b (Decidable.or_iff_not_imp_left.mpr (fun h1 h2 => hm ⟨Decidable.not_not.mp h1, h2⟩))).trans (hF a j hm)) (by rw [show (up c2 1 2 (c2 1 2 + 1)) 1 2 = c2 1 2 + 1 from (up_e rfl)]; exact (nx_s (by omega) (by omega)).symm.trans hx0) (by omega)
set_option maxRecDepth 100000 in
set_option maxHeartbeats 4000000 in
theorem f_3 {sc : List Int32} {e : Int} {d u P Q : Nat} {c : ME} {e1 a9 r8 : Int} {B : Int → Int} {Z : AR → Prop} (hI : Iv u e P Q c) (hv0 : c 1 1 = e1) (hv1 : c 1 2 = a9) (hB : ∀ j : Int, c 2 j = B j) (hdr8 : nx B e1 a9 = r8) (K0 : ∀ c2 : ME, Iv u e P Q c2 → (∀ (a : Nat) (j : Int), ¬ ((a = 1 ∧ j = 2)) → c2 a j = c a j) → (c2 1 2 = r8) → Z (.inl (some (vi r8)), Wd P Q P P c2, 0, 0)) : Wp sc (d + 7) 3 0 [(0, .ref 1)] [] (Wd P Q P P c) 0 0 Z := by
  have hP := iv_P hI
  have hQ := iv_Q hI
  have h_11 := ir_1_1 hI
  have h_12 := ir_1_2 hI
  refine Wp_ls [(0, .ref 1)] (lsub_cons rfl lsub_nil) ?_
  have h_13 : c 1 2 = a9 := (hv1)
  exact (f_3_l (sc := sc) (d := d) hI hv0 hv1 hB hdr8 K0 601) c hI (fun a j hm => rfl) (by rw [hv1]; exact hdr8) (by omega)

set_option maxRecDepth 100000 in
set_option maxHeartbeats 4000000 in
theorem f_8_l {sc : List Int32} {e : Int} {d u P Q : Nat} {c : ME} {e1 a9 f9 p9 r8 D8 V8 a1 : Int} {B : Int → Int} {Z : AR → Prop} (hI : Iv u e P Q c) (ha1 : (-1) ≤ a1 ∧ a1 ≤ 9999) (hv0 : c 1 1 = e1) (hv1 : c 1 2 = a9) (hv2 : c 1 4 = f9) (hv3 : c 1 5 = p9) (hB : ∀ j : Int, c 2 j = B j) (hdr8 : nx B e1 a9 = r8) (hdD8 : (dg B e1 r8 0).1 = D8) (hdV8 : (dg B e1 r8 0).2 = V8) (K0 : ∀ c2 : ME, Iv u e P Q c2 → (∀ (a : Nat) (j : Int), ¬ ((a = 1 ∧ j = 2) ∨ (a = 1 ∧ j = 4) ∨ (a = 1 ∧ j = 5)) → c2 a j = c a j) → ((f9 ≠ 0)) → (c2 1 2 = a9) → (c2 1 4 = f9) → (c2 1 5 = p9) → Z (.inl (some (vi 0)), Wd P Q P P c2, 0, 0)) (K1 : ∀ c2 : ME, Iv u e P Q c2 → (∀ (a : Nat) (j : Int), ¬ ((a = 1 ∧ j = 2) ∨ (a = 1 ∧ j = 4) ∨ (a = 1 ∧ j = 5)) → c2 a j = c a j) → ((f9 = 0)) → ((r8 ≥ e1) ∨ ((B r8) < 48) ∨ ((B r8) > 57)) → (c2 1 2 = r8) → (c2 1 4 = 1) → (c2 1 5 = r8) → Z (.inl (some (vi 0)), Wd P Q P P c2, 0, 0)) (K2 : ∀ c2 : ME, Iv u e P Q c2 → (∀ (a : Nat) (j : Int), ¬ ((a = 1 ∧ j = 2) ∨ (a = 1 ∧ j = 4) ∨ (a = 1 ∧ j = 5)) → c2 a j = c a j) → ((f9 = 0)) → ((r8 < e1 ∧ (B r8) ≥ 48 ∧ (B r8) ≤ 57)) → ((V8 > a1)) → (c2 1 2 = D8) → (c2 1 4 = 2) → (c2 1 5 = r8) → Z (.inl (some (vi 0)), Wd P Q P P c2, 0, 0)) (K3 : ∀ c2 : ME, Iv u e P Q c2 → (∀ (a : Nat) (j : Int), ¬ ((a = 1 ∧ j = 2) ∨ (a = 1 ∧ j = 4) ∨ (a = 1 ∧ j = 5)) → c2 a j = c a j) → ((f9 = 0)) → ((r8 < e1 ∧ (B r8) ≥ 48 ∧ (B r8) ≤ 57)) → ((V8 ≤ a1)) → (c2 1 2 = D8) → (c2 1 4 = 0) → (c2 1 5 = p9) → Z (.inl (some (vi V8)), Wd P Q P P c2, 0, 0)) : ∀ n : Nat, (∀ (c2 : ME) (v3 : Int), Iv u e P Q c2 → (∀ (a : Nat) (j : Int), ¬ ((a = 1 ∧ j = 2) ∨ (a = 1 ∧ j = 4) ∨ (a = 1 ∧ j = 5)) → c2 a j = c a j) → 0 ≤ v3 ∧ v3 ≤ 99999 → (dg B e1 (c2 1 2) v3 = dg B e1 r8 0) → ((c2 1 4 = 0)) → ((c2 1 5 = p9)) → ((f9 = 0)) → ((c2 1 2 ≥ r8)) → ((r8 < e1 ∧ (B r8) ≥ 48 ∧ (B r8) ≤ 57)) → 600 - c2 1 2 < (n : Int) → Wp sc (d + 12) 8 34 [(0, .ref 1), (1, vi a1), (2, vi r8), (3, vi v3)] [] (Wd P Q P P c2) 0 0 Z)
  | 0 => by intro c2 v3 hI2 hF hv3 hx0 hx1 hx2 hx3 hx4 hx5 hm9; have hP := iv_P hI; have hQ := iv_Q hI; have h_1 := ir_1_1 hI; have h_2 := ir_1_2 hI; have h_3 := ir_1_4 hI; have h_4 := ir_1_5 hI; have h_5 : -2147483648 ≤ (B r8) ∧ (B r8) ≤ 2147483647 := (by rw [← hB r8]; exact ir_2 hI r8); have h_6 := ir_1_4 hI2; have h_7 := ir_1_5 hI2; have h_8 := ir_1_2 hI2; exfalso; omega
  | n + 1 => by
    have hP := iv_P hI
    have hQ := iv_Q hI
    have ih := f_8_l (sc := sc) (d := d) hI ha1 hv0 hv1 hv2 hv3 hB hdr8 hdD8 hdV8 K0 K1 K2 K3 n
    intro c2 v3 hI2 hF hv3 hx0 hx1 hx2 hx3 hx4 hx5 hm9
    have h_1 := ir_1_1 hI
    have h_2 := ir_1_2 hI
    have h_3 := ir_1_4 hI
    have h_4 := ir_1_5 hI
    have hn1 := nx_bd (b := B) (e := e1) (a := a9)
    rw [hdr8] at hn1
    have hn2 := dg_bd (b := B) (e := e1) (a := r8) (v := 0) (by decide)
    rw [hdD8, hdV8] at hn2
    have hn3 := nx_n (b := B) (e := e1) (a := a9)
    rw [hdr8] at hn3
    have h_5 : -2147483648 ≤ (B r8) ∧ (B r8) ≤ 2147483647 := by rw [← hB r8]; exact ir_2 hI r8
    have h_6 := ir_1_4 hI2
    have h_7 := ir_1_5 hI2
    have h_8 := ir_1_2 hI2
    refine q_aload_n c_8_34 rfl (v_gi (z := 2) (v := c2 1 2) c_8_35 kf_5_35 rfl (Nat.le_of_ble_eq_true rfl) rfl rfl rfl (q_aload_n c_8_38 rfl ?_))
    have kn_9 : Hid (c2 1 1 = e1) := (hF 1 1 qn_b782e6d88).trans (hv0)
    refine v_gi (z := 1) (v := e1) c_8_39 kf_5_32 rfl (Nat.le_of_ble_eq_true rfl) rfl rfl (hid kn_9) ?_
    by_cases h_10 : c2 1 2 ≥ e1
    · refine v_ic_ge_t (t := 109) c_8_42 rfl ⟨by first | (clear h_2 h_3 h_4 h_5 h_6 h_7 h_8; omega) | omega, h_10, (Int.le_trans h_8.2 (by decide))⟩ (q_iload_n c_8_109 rfl (q_iload_n c_8_110 rfl ?_))
      by_cases h_11 : v3 ≤ a1
      · refine v_ic_le_t (t := 122) c_8_111 rfl ⟨(Int.le_trans (by decide) hv3.1), h_11, (Int.le_trans ha1.2 (by decide))⟩ (q_iload_n c_8_122 rfl (q_iret c_8_123 rfl ?_))
        have hz8 : dg B e1 (c2 1 2) v3 = (c2 1 2, v3) := dg_z (by omega)
        have hz9 : D8 = c2 1 2 := by rw [← hdD8, ← hx0, hz8]
        have hz10 : V8 = v3 := by rw [← hdV8, ← hx0, hz8]
        exact zv (by omega) (K3 c2 hI2 (fun a j hm => hF a j hm) (by omega) (by omega) (by omega) (by omega) (by omega) (by omega))
      · refine v_ic_le_f (t := 122) c_8_111 rfl ⟨(Int.le_trans (by decide) ha1.1), (Int.not_le.mp h_11), (Int.le_trans hv3.2 (by decide))⟩ (q_aload_n c_8_114 rfl (q_iconst c_8_115 (q_iload_n c_8_116 rfl (v_cv c_8_117 km_5_52 rfl rfl (Nat.le_of_ble_eq_true rfl) ⟨⟨rfl, rfl⟩, Nat.le_of_ble_eq_true rfl, rfl⟩ (Nat.le_of_ble_eq_true rfl) (Nat.le_of_ble_eq_true rfl) (q_aload_n c_7_0 rfl (v_gi (z := 4) (v := c2 1 4) c_7_1 kf_5_38 rfl (Nat.le_of_ble_eq_true rfl) rfl rfl rfl (v_if_ne_f (t := 17) c_7_4 rfl (by omega) ?_)))))))
        refine q_aload_n c_7_7 rfl (q_iload_n c_7_8 rfl (v_pi (z := 4) c_7_9 kf_5_38 rfl (Nat.le_of_ble_eq_true rfl) rfl rfl rfl (by decide) (q_aload_n c_7_12 rfl (q_iload_n c_7_13 rfl (v_pi (z := 5) c_7_14 kf_5_15 rfl (Nat.le_of_ble_eq_true rfl) rfl rfl rfl (by decide) (q_vret rfl rfl (bk_inl ?_)))))))
        refine q_iconst c_8_120 (q_iret c_8_121 rfl ?_)
        have hz8 : dg B e1 (c2 1 2) v3 = (c2 1 2, v3) := dg_z (by omega)
        have hz9 : D8 = c2 1 2 := by rw [← hdD8, ← hx0, hz8]
        have hz10 : V8 = v3 := by rw [← hdV8, ← hx0, hz8]
        have hI_12 := iw_1_4 (v := 2) hI2 ⟨by decide, by decide⟩
        have hI_13 := iw_1_5 (v := r8) hI_12 ⟨by first | (clear h_1 h_3 h_4 h_5 h_6 h_7 h_8 h_10 h_11 hz10; omega) | omega, by first | (clear h_1 h_2 h_3 h_4 h_5 h_6 h_7 h_11 hz10; omega) | omega⟩
        have h_14 : (up (up c2 1 4 2) 1 5 r8) 1 2 = c2 1 2 := ((up_n (by decide)).trans (up_n (by decide)))
        have h_15 : (up (up c2 1 4 2) 1 5 r8) 1 4 = 2 := ((up_n (by decide)).trans (up_e rfl))
        have h_16 : (up (up c2 1 4 2) 1 5 r8) 1 5 = r8 := (up_e rfl)
        exact zv (by omega) (K2 (up (up c2 1 4 2) 1 5 r8) hI_13 (fun a j hm => (up_b (Decidable.or_iff_not_imp_left.mpr (fun h1 h2 => hm (Or.inr (Or.inr ⟨Decidable.not_not.mp h1, h2⟩))))).trans ((up_b (Decidable.or_iff_not_imp_left.mpr (fun h1 h2 => hm (Or.inr (Or.inl ⟨Decidable.not_not.mp h1, h2⟩))))).trans (hF a j hm))) (by omega) (by omega) (by omega) (by omega) (by omega) (by omega))
    · refine v_ic_ge_f (t := 109) c_8_42 rfl ⟨(Int.le_trans (by decide) h_8.1), (Int.not_le.mp h_10), by first | (clear h_2 h_3 h_4 h_5 h_6 h_7 h_8; omega) | omega⟩ (q_aload_n c_8_45 rfl (v_gr (t := 2) c_8_46 kf_5_9 rfl (Nat.le_of_ble_eq_true rfl) rfl (q_aload_n c_8_49 rfl (v_gi (z := 2) (v := c2 1 2) c_8_50 kf_5_35 rfl (Nat.le_of_ble_eq_true rfl) rfl rfl rfl ?_))))
      have h_17 : -2147483648 ≤ (B (c2 1 2)) ∧ (B (c2 1 2)) ≤ 2147483647 := by rw [← hB (c2 1 2)]; exact ir_2 hI (c2 1 2)
      have kn_18 : Hid (c2 2 (c2 1 2) = (B (c2 1 2))) := (hF 2 (c2 1 2) qn_e2b123f84).trans (hB (c2 1 2))
      refine v_ba (v := (B (c2 1 2))) c_8_53 rfl (by decide) (by decide) ⟨h_8.1, by first | (clear h_2 h_3 h_4 h_5 h_6 h_7 h_8 h_17; omega) | omega⟩ (hid kn_18) (v_bip c_8_54 (by decide) ?_)
      by_cases h_19 : (B (c2 1 2)) < 48
      · refine v_ic_lt_t (t := 109) c_8_56 rfl ⟨by first | exact q_f97c35332 h_17 | (clear h_1 h_2 h_3 h_4 h_5 h_6 h_7 h_8 h_10; omega) | omega, h_19, by decide⟩ (q_iload_n c_8_109 rfl (q_iload_n c_8_110 rfl ?_))
        by_cases h_20 : v3 ≤ a1
        · refine v_ic_le_t (t := 122) c_8_111 rfl ⟨(Int.le_trans (by decide) hv3.1), h_20, (Int.le_trans ha1.2 (by decide))⟩ (q_iload_n c_8_122 rfl (q_iret c_8_123 rfl ?_))
          have hz8 : dg B e1 (c2 1 2) v3 = (c2 1 2, v3) := dg_z (by omega)
          have hz9 : D8 = c2 1 2 := by rw [← hdD8, ← hx0, hz8]
          have hz10 : V8 = v3 := by rw [← hdV8, ← hx0, hz8]
          exact zv (by omega) (K3 c2 hI2 (fun a j hm => hF a j hm) (by omega) (by omega) (by omega) (by omega) (by omega) (by omega))
        · refine v_ic_le_f (t := 122) c_8_111 rfl ⟨(Int.le_trans (by decide) ha1.1), (Int.not_le.mp h_20), (Int.le_trans hv3.2 (by decide))⟩ (q_aload_n c_8_114 rfl (q_iconst c_8_115 (q_iload_n c_8_116 rfl (v_cv c_8_117 km_5_52 rfl rfl (Nat.le_of_ble_eq_true rfl) ⟨⟨rfl, rfl⟩, Nat.le_of_ble_eq_true rfl, rfl⟩ (Nat.le_of_ble_eq_true rfl) (Nat.le_of_ble_eq_true rfl) (q_aload_n c_7_0 rfl (v_gi (z := 4) (v := c2 1 4) c_7_1 kf_5_38 rfl (Nat.le_of_ble_eq_true rfl) rfl rfl rfl (v_if_ne_f (t := 17) c_7_4 rfl (by first | (clear h_1 h_2 h_3 h_4 h_6 h_7 h_8 h_10 h_17 h_19 h_20; omega) | omega) ?_)))))))
          refine q_aload_n c_7_7 rfl (q_iload_n c_7_8 rfl (v_pi (z := 4) c_7_9 kf_5_38 rfl (Nat.le_of_ble_eq_true rfl) rfl rfl rfl (by decide) (q_aload_n c_7_12 rfl (q_iload_n c_7_13 rfl (v_pi (z := 5) c_7_14 kf_5_15 rfl (Nat.le_of_ble_eq_true rfl) rfl rfl rfl (by decide) (q_vret rfl rfl (bk_inl ?_)))))))
          refine q_iconst c_8_120 (q_iret c_8_121 rfl ?_)
          have hz8 : dg B e1 (c2 1 2) v3 = (c2 1 2, v3) := dg_z (by omega)
          have hz9 : D8 = c2 1 2 := by rw [← hdD8, ← hx0, hz8]
          have hz10 : V8 = v3 := by rw [← hdV8, ← hx0, hz8]
          have hI_21 := iw_1_4 (v := 2) hI2 ⟨by decide, by decide⟩
          have hI_22 := iw_1_5 (v := r8) hI_21 ⟨by first | (clear h_1 h_3 h_4 h_5 h_6 h_7 h_8 h_10 h_17 h_19 h_20 hz10; omega) | omega, by first | (clear h_2 h_3 h_4 h_5 h_6 h_7 h_10 h_17 h_19 h_20 hz10; omega) | omega⟩
          have h_23 : (up (up c2 1 4 2) 1 5 r8) 1 2 = c2 1 2 := ((up_n (by decide)).trans (up_n (by decide)))
          have h_24 : (up (up c2 1 4 2) 1 5 r8) 1 4 = 2 := ((up_n (by decide)).trans (up_e rfl))
          have h_25 : (up (up c2 1 4 2) 1 5 r8) 1 5 = r8 := (up_e rfl)
          exact zv (by omega) (K2 (up (up c2 1 4 2) 1 5 r8) hI_22 (fun a j hm => (up_b (Decidable.or_iff_not_imp_left.mpr (fun h1 h2 => hm (Or.inr (Or.inr ⟨Decidable.not_not.mp h1, h2⟩))))).trans ((up_b (Decidable.or_iff_not_imp_left.mpr (fun h1 h2 => hm (Or.inr (Or.inl ⟨Decidable.not_not.mp h1, h2⟩))))).trans (hF a j hm))) (by omega) (by omega) (by omega) (by omega) (by omega) (by omega))
      · refine v_ic_lt_f (t := 109) c_8_56 rfl ⟨by decide, (Int.not_lt.mp h_19), by first | exact q_79e53d295 h_17 | (clear h_1 h_2 h_3 h_4 h_5 h_6 h_7 h_8 h_10; omega) | omega⟩ (q_aload_n c_8_59 rfl (v_gr (t := 2) c_8_60 kf_5_9 rfl (Nat.le_of_ble_eq_true rfl) rfl (q_aload_n c_8_63 rfl (v_gi (z := 2) (v := c2 1 2) c_8_64 kf_5_35 rfl (Nat.le_of_ble_eq_true rfl) rfl rfl rfl (v_ba (v := (B (c2 1 2))) c_8_67 rfl (by decide) (by decide) ⟨h_8.1, by first | (clear h_2 h_3 h_4 h_5 h_6 h_7 h_8 h_17 h_19; omega) | omega⟩ (hid kn_18) (v_bip c_8_68 (by decide) ?_))))))
        by_cases h_26 : (B (c2 1 2)) > 57
        · refine v_ic_gt_t (t := 109) c_8_70 rfl ⟨by decide, h_26, by first | exact q_79e53d295 h_17 | (clear h_1 h_2 h_3 h_4 h_5 h_6 h_7 h_8 h_10 h_19; omega) | omega⟩ (q_iload_n c_8_109 rfl (q_iload_n c_8_110 rfl ?_))
          by_cases h_27 : v3 ≤ a1
          · refine v_ic_le_t (t := 122) c_8_111 rfl ⟨(Int.le_trans (by decide) hv3.1), h_27, (Int.le_trans ha1.2 (by decide))⟩ (q_iload_n c_8_122 rfl (q_iret c_8_123 rfl ?_))
            have hz8 : dg B e1 (c2 1 2) v3 = (c2 1 2, v3) := dg_z (by omega)
            have hz9 : D8 = c2 1 2 := by rw [← hdD8, ← hx0, hz8]
            have hz10 : V8 = v3 := by rw [← hdV8, ← hx0, hz8]
            exact zv (by omega) (K3 c2 hI2 (fun a j hm => hF a j hm) (by omega) (by omega) (by omega) (by omega) (by omega) (by omega))
          · refine v_ic_le_f (t := 122) c_8_111 rfl ⟨(Int.le_trans (by decide) ha1.1), (Int.not_le.mp h_27), (Int.le_trans hv3.2 (by decide))⟩ (q_aload_n c_8_114 rfl (q_iconst c_8_115 (q_iload_n c_8_116 rfl (v_cv c_8_117 km_5_52 rfl rfl (Nat.le_of_ble_eq_true rfl) ⟨⟨rfl, rfl⟩, Nat.le_of_ble_eq_true rfl, rfl⟩ (Nat.le_of_ble_eq_true rfl) (Nat.le_of_ble_eq_true rfl) (q_aload_n c_7_0 rfl (v_gi (z := 4) (v := c2 1 4) c_7_1 kf_5_38 rfl (Nat.le_of_ble_eq_true rfl) rfl rfl rfl (v_if_ne_f (t := 17) c_7_4 rfl (by first | (clear h_1 h_2 h_3 h_4 h_6 h_7 h_8 h_10 h_17 h_19 h_26 h_27; omega) | omega) ?_)))))))
            refine q_aload_n c_7_7 rfl (q_iload_n c_7_8 rfl (v_pi (z := 4) c_7_9 kf_5_38 rfl (Nat.le_of_ble_eq_true rfl) rfl rfl rfl (by decide) (q_aload_n c_7_12 rfl (q_iload_n c_7_13 rfl (v_pi (z := 5) c_7_14 kf_5_15 rfl (Nat.le_of_ble_eq_true rfl) rfl rfl rfl (by decide) (q_vret rfl rfl (bk_inl ?_)))))))
            refine q_iconst c_8_120 (q_iret c_8_121 rfl ?_)
            have hz8 : dg B e1 (c2 1 2) v3 = (c2 1 2, v3) := dg_z (by omega)
            have hz9 : D8 = c2 1 2 := by rw [← hdD8, ← hx0, hz8]
            have hz10 : V8 = v3 := by rw [← hdV8, ← hx0, hz8]
            have hI_28 := iw_1_4 (v := 2) hI2 ⟨by decide, by decide⟩
            have hI_29 := iw_1_5 (v := r8) hI_28 ⟨by first | (clear h_1 h_3 h_4 h_5 h_6 h_7 h_8 h_10 h_17 h_19 h_26 h_27 hz10; omega) | omega, by first | (clear h_2 h_3 h_4 h_5 h_6 h_7 h_10 h_17 h_19 h_26 h_27 hz10; omega) | omega⟩
            have h_30 : (up (up c2 1 4 2) 1 5 r8) 1 2 = c2 1 2 := ((up_n (by decide)).trans (up_n (by decide)))
            have h_31 : (up (up c2 1 4 2) 1 5 r8) 1 4 = 2 := ((up_n (by decide)).trans (up_e rfl))
            have h_32 : (up (up c2 1 4 2) 1 5 r8) 1 5 = r8 := (up_e rfl)
            exact zv (by omega) (K2 (up (up c2 1 4 2) 1 5 r8) hI_29 (fun a j hm => (up_b (Decidable.or_iff_not_imp_left.mpr (fun h1 h2 => hm (Or.inr (Or.inr ⟨Decidable.not_not.mp h1, h2⟩))))).trans ((up_b (Decidable.or_iff_not_imp_left.mpr (fun h1 h2 => hm (Or.inr (Or.inl ⟨Decidable.not_not.mp h1, h2⟩))))).trans (hF a j hm))) (by omega) (by omega) (by omega) (by omega) (by omega) (by omega))
        · refine v_ic_gt_f (t := 109) c_8_70 rfl ⟨by first | exact q_993cab007 h_19 | (clear h_1 h_2 h_3 h_4 h_5 h_6 h_7 h_8 h_10 h_17; omega) | omega, (Int.not_lt.mp h_26), by decide⟩ (q_iload_n c_8_73 rfl (v_bip c_8_74 (by decide) (v_imul (v := 10 * v3) c_8_76 (by first | (clear h_1 h_2 h_3 h_4 h_5 h_6 h_7 h_8 h_10 h_17 h_19 h_26; omega) | omega) (q_aload_n c_8_77 rfl (v_gr (t := 2) c_8_78 kf_5_9 rfl (Nat.le_of_ble_eq_true rfl) rfl (q_aload_n c_8_81 rfl (v_gi (z := 2) (v := c2 1 2) c_8_82 kf_5_35 rfl (Nat.le_of_ble_eq_true rfl) rfl rfl rfl ?_)))))))
          refine v_ba (v := (B (c2 1 2))) c_8_85 rfl (by decide) (by decide) ⟨h_8.1, by first | (clear h_2 h_3 h_4 h_5 h_6 h_7 h_8 h_17 h_19 h_26; omega) | omega⟩ (hid kn_18) (v_iadd (v := (B (c2 1 2)) + 10 * v3) c_8_86 (by first | (clear h_1 h_2 h_3 h_4 h_5 h_6 h_7 h_8 h_10 h_17 h_19 h_26; omega) | omega) (v_bip c_8_87 (by decide) (v_isub (v := (B (c2 1 2)) + 10 * v3 - 48) c_8_89 rfl (v_ldc (n := 99999) c_8_90 rfl (by decide +kernel) (v_minx c_8_92 rfl (by omega) (Nat.le_of_ble_eq_true rfl) ⟨by omega, by omega, by omega, by omega⟩ (fun y_33 hy_33 => (q_istore_n c_8_95 (Nat.le_of_ble_eq_true rfl) (q_aload_n c_8_96 rfl ?_))))))))
          refine q_dup c_8_97 rfl (v_gi (z := 2) (v := c2 1 2) c_8_98 kf_5_35 rfl (Nat.le_of_ble_eq_true rfl) rfl rfl rfl (q_iconst c_8_101 (v_iadd (v := c2 1 2 + 1) c_8_102 rfl (v_pi (z := 2) c_8_103 kf_5_35 rfl (Nat.le_of_ble_eq_true rfl) rfl rfl rfl (by decide) (q_goto (t := 34) c_8_106 rfl ?_)))))
          have hI_34 := iw_1_2 (v := c2 1 2 + 1) hI2 ⟨by first | exact rgp_l h_8.1 (by decide) | omega, by first | (clear h_2 h_3 h_4 h_5 h_6 h_7 h_8 h_17 h_19 h_26; omega) | omega⟩
          refine Wp_ls [(0, .ref 1), (1, vi a1), (2, vi r8), (3, vi y_33)] (lsub_cons rfl (lsub_cons rfl (lsub_cons rfl (lsub_cons rfl lsub_nil)))) ?_
          have hc9 := cp_or (10 * v3 + (B (c2 1 2)) - 48)
          have hc8 : y_33 = cp (10 * v3 + (B (c2 1 2)) - 48) := by omega
          have h_35 : (up c2 1 2 (c2 1 2 + 1)) 1 4 = c2 1 4 := (up_n (by decide))
          have h_36 : (up c2 1 2 (c2 1 2 + 1)) 1 5 = c2 1 5 := (up_n (by decide))
          have h_37 : (up c2 1 2 (c2 1 2 + 1)) 1 2 = c2 1 2 + 1 := (up_e rfl)
          exact ih (up c2 1 2 (c2 1 2 + 1)) y_33 hI_34 (fun a j hm => (up_b (Decidable.or_iff_not_imp_left.mpr (fun h1 h2 => hm (Or.inl ⟨Decidable.not_not.mp h1, h2⟩)))).trans (hF a j hm)) ⟨by omega, by omega⟩ (by rw [show (up c2 1 2 (c2 1 2 + 1)) 1 2 = c2 1 2 + 1 from (up_e rfl), hc8]; exact (dg_s (by omega)).symm.trans hx0) (by omega) (by omega) (by omega) (by omega) (by omega) (by omega)
set_option maxRecDepth 100000 in
set_option maxHeartbeats 4000000 in
theorem f_8 {sc : List Int32} {e : Int} {d u P Q : Nat} {c : ME} {e1 a9 f9 p9 r8 D8 V8 a1 : Int} {B : Int → Int} {Z : AR → Prop} (hI : Iv u e P Q c) (ha1 : (-1) ≤ a1 ∧ a1 ≤ 9999) (hv0 : c 1 1 = e1) (hv1 : c 1 2 = a9) (hv2 : c 1 4 = f9) (hv3 : c 1 5 = p9) (hB : ∀ j : Int, c 2 j = B j) (hdr8 : nx B e1 a9 = r8) (hdD8 : (dg B e1 r8 0).1 = D8) (hdV8 : (dg B e1 r8 0).2 = V8) (K0 : ∀ c2 : ME, Iv u e P Q c2 → (∀ (a : Nat) (j : Int), ¬ ((a = 1 ∧ j = 2) ∨ (a = 1 ∧ j = 4) ∨ (a = 1 ∧ j = 5)) → c2 a j = c a j) → ((f9 ≠ 0)) → (c2 1 2 = a9) → (c2 1 4 = f9) → (c2 1 5 = p9) → Z (.inl (some (vi 0)), Wd P Q P P c2, 0, 0)) (K1 : ∀ c2 : ME, Iv u e P Q c2 → (∀ (a : Nat) (j : Int), ¬ ((a = 1 ∧ j = 2) ∨ (a = 1 ∧ j = 4) ∨ (a = 1 ∧ j = 5)) → c2 a j = c a j) → ((f9 = 0)) → ((r8 ≥ e1) ∨ ((B r8) < 48) ∨ ((B r8) > 57)) → (c2 1 2 = r8) → (c2 1 4 = 1) → (c2 1 5 = r8) → Z (.inl (some (vi 0)), Wd P Q P P c2, 0, 0)) (K2 : ∀ c2 : ME, Iv u e P Q c2 → (∀ (a : Nat) (j : Int), ¬ ((a = 1 ∧ j = 2) ∨ (a = 1 ∧ j = 4) ∨ (a = 1 ∧ j = 5)) → c2 a j = c a j) → ((f9 = 0)) → ((r8 < e1 ∧ (B r8) ≥ 48 ∧ (B r8) ≤ 57)) → ((V8 > a1)) → (c2 1 2 = D8) → (c2 1 4 = 2) → (c2 1 5 = r8) → Z (.inl (some (vi 0)), Wd P Q P P c2, 0, 0)) (K3 : ∀ c2 : ME, Iv u e P Q c2 → (∀ (a : Nat) (j : Int), ¬ ((a = 1 ∧ j = 2) ∨ (a = 1 ∧ j = 4) ∨ (a = 1 ∧ j = 5)) → c2 a j = c a j) → ((f9 = 0)) → ((r8 < e1 ∧ (B r8) ≥ 48 ∧ (B r8) ≤ 57)) → ((V8 ≤ a1)) → (c2 1 2 = D8) → (c2 1 4 = 0) → (c2 1 5 = p9) → Z (.inl (some (vi V8)), Wd P Q P P c2, 0, 0)) : Wp sc (d + 12) 8 0 [(0, .ref 1), (1, vi a1)] [] (Wd P Q P P c) 0 0 Z := by
  have hP := iv_P hI
  have hQ := iv_Q hI
  have h_38 := ir_1_1 hI
  have h_39 := ir_1_2 hI
  have h_40 := ir_1_4 hI
  have h_41 := ir_1_5 hI
  have hn1 := nx_bd (b := B) (e := e1) (a := a9)
  rw [hdr8] at hn1
  have hn2 := dg_bd (b := B) (e := e1) (a := r8) (v := 0) (by decide)
  rw [hdD8, hdV8] at hn2
  have hn3 := nx_n (b := B) (e := e1) (a := a9)
  rw [hdr8] at hn3
  have h_42 : -2147483648 ≤ (B r8) ∧ (B r8) ≤ 2147483647 := by rw [← hB r8]; exact ir_2 hI r8
  refine q_aload_n c_8_0 rfl (v_cv c_8_1 km_5_45 rfl rfl (Nat.le_of_ble_eq_true rfl) ⟨⟨rfl, rfl⟩, Nat.le_of_ble_eq_true rfl, rfl⟩ (Nat.le_of_ble_eq_true rfl) (Nat.le_of_ble_eq_true rfl) (q_aload_n c_2_0 rfl (v_gi (z := 4) (v := f9) c_2_1 kf_5_38 rfl (Nat.le_of_ble_eq_true rfl) rfl rfl (hv2) ?_)))
  by_cases h_43 : f9 ≠ 0
  · refine v_if_ne_t (t := 11) c_2_4 rfl ⟨h_43, ⟨by first | (clear h_38 h_39 h_41 h_42; omega) | omega, by first | (clear h_38 h_39 h_41 h_42; omega) | omega⟩, by decide, by decide⟩ (q_iconst c_2_11 (v_zret c_2_12 rfl (by decide) (bk_inl (v_if_ne_f (t := 9) c_8_4 rfl (by decide) (q_iconst c_8_7 (q_iret c_8_8 rfl ?_))))))
    have h_44 : c 1 2 = a9 := (hv1)
    have h_45 : c 1 4 = f9 := (hv2)
    have h_46 : c 1 5 = p9 := (hv3)
    exact zv (by omega) (K0 c hI (fun a j hm => rfl) (by omega) (by omega) (by omega) (by omega))
  · refine v_if_ne_f (t := 11) c_2_4 rfl (Decidable.not_not.mp h_43) (q_iconst c_2_7 (q_goto (t := 12) c_2_8 rfl (v_zret c_2_12 rfl (by decide) (bk_inl (v_if_ne_t (t := 9) c_8_4 rfl (by decide) (q_aload_n c_8_9 rfl (v_cv c_8_10 km_5_69 rfl rfl (Nat.le_of_ble_eq_true rfl) ⟨⟨rfl, rfl⟩, Nat.le_of_ble_eq_true rfl, rfl⟩ (Nat.le_of_ble_eq_true rfl) (Nat.le_of_ble_eq_true rfl) ?_)))))))
    refine q_aload_n c_6_0 rfl ?_
    have h_47 : -2147483648 ≤ (B a9) ∧ (B a9) ≤ 2147483647 := by rw [← hB a9]; exact ir_2 hI a9
    refine v_cv c_6_1 km_5_41 rfl rfl (Nat.le_of_ble_eq_true rfl) ⟨⟨rfl, rfl⟩, Nat.le_of_ble_eq_true rfl, rfl⟩ (Nat.le_of_ble_eq_true rfl) (Nat.le_of_ble_eq_true rfl) (f_3 (e1 := e1) (a9 := a9) (B := B) (r8 := r8) hI ((hv0)) ((hv1)) (fun j => hB j) hdr8 (fun c_48 hI_49 hF_50 hz_51 => (bk_inl (q_istore_n c_6_4 (Nat.le_of_ble_eq_true rfl) (q_iload_n c_6_5 rfl (q_aload_n c_6_6 rfl ?_))))))
    have kn_52 : Hid (c_48 1 1 = e1) := (hF_50 1 1 (fun h => absurd h.2 (ni rfl))).trans (hv0)
    refine v_gi (z := 1) (v := e1) c_6_7 kf_5_32 rfl (Nat.le_of_ble_eq_true rfl) rfl rfl (hid kn_52) ?_
    by_cases h_53 : r8 ≥ e1
    · refine v_ic_ge_t (t := 39) c_6_10 rfl ⟨by first | (clear h_39 h_40 h_41 h_42 h_43 h_47; omega) | omega, h_53, by omega⟩ (q_iconst c_6_39 (v_zret c_6_40 rfl (by decide) (bk_inl (v_if_ne_f (t := 27) c_8_13 rfl (by decide) (q_aload_n c_8_16 rfl (q_iconst c_8_17 (q_aload_n c_8_18 rfl ?_)))))))
      refine v_gi (z := 2) (v := r8) c_8_19 kf_5_35 rfl (Nat.le_of_ble_eq_true rfl) rfl rfl (hz_51) (v_cv c_8_22 km_5_52 rfl rfl (Nat.le_of_ble_eq_true rfl) ⟨⟨rfl, rfl⟩, Nat.le_of_ble_eq_true rfl, rfl⟩ (Nat.le_of_ble_eq_true rfl) (Nat.le_of_ble_eq_true rfl) (q_aload_n c_7_0 rfl ?_))
      have kn_54 : Hid (c_48 1 4 = f9) := (hF_50 1 4 (fun h => absurd h.2 (ni rfl))).trans (hv2)
      refine v_gi (z := 4) (v := f9) c_7_1 kf_5_38 rfl (Nat.le_of_ble_eq_true rfl) rfl rfl (hid kn_54) (v_if_ne_f (t := 17) c_7_4 rfl (by first | exact q_0002e0578 h_43 | (clear h_38 h_39 h_40 h_41 h_42 h_47 h_53; omega) | omega) (q_aload_n c_7_7 rfl (q_iload_n c_7_8 rfl (v_pi (z := 4) c_7_9 kf_5_38 rfl (Nat.le_of_ble_eq_true rfl) rfl rfl rfl (by decide) (q_aload_n c_7_12 rfl (q_iload_n c_7_13 rfl (v_pi (z := 5) c_7_14 kf_5_15 rfl (Nat.le_of_ble_eq_true rfl) rfl rfl rfl (by decide) ?_)))))))
      refine q_vret rfl rfl (bk_inl (q_iconst c_8_25 (q_iret c_8_26 rfl ?_)))
      have hI_55 := iw_1_4 (v := 1) hI_49 ⟨by decide, by decide⟩
      have hI_56 := iw_1_5 (v := r8) hI_55 ⟨by first | (clear h_39 h_40 h_41 h_42 h_43 h_47; omega) | omega, by omega⟩
      have h_57 : (up (up c_48 1 4 1) 1 5 r8) 1 2 = r8 := ((up_n (by decide)).trans ((up_n (by decide)).trans (hz_51)))
      have h_58 : (up (up c_48 1 4 1) 1 5 r8) 1 4 = 1 := ((up_n (by decide)).trans (up_e rfl))
      have h_59 : (up (up c_48 1 4 1) 1 5 r8) 1 5 = r8 := (up_e rfl)
      exact zv (by omega) (K1 (up (up c_48 1 4 1) 1 5 r8) hI_56 (fun a j hm => (up_b (Decidable.or_iff_not_imp_left.mpr (fun h1 h2 => hm (Or.inr (Or.inr ⟨Decidable.not_not.mp h1, h2⟩))))).trans ((up_b (Decidable.or_iff_not_imp_left.mpr (fun h1 h2 => hm (Or.inr (Or.inl ⟨Decidable.not_not.mp h1, h2⟩))))).trans (hF_50 a j (fun h => hm (Or.inl h))))) (by omega) (by omega) (by omega) (by omega) (by omega))
    · refine v_ic_ge_f (t := 39) c_6_10 rfl ⟨by first | (clear h_38 h_40 h_41 h_42 h_43 h_47; omega) | omega, (Int.not_le.mp h_53), by first | (clear h_39 h_40 h_41 h_42 h_43 h_47; omega) | omega⟩ (q_aload_n c_6_13 rfl (v_gr (t := 2) c_6_14 kf_5_9 rfl (Nat.le_of_ble_eq_true rfl) rfl (q_iload_n c_6_17 rfl ?_)))
      have kn_60 : Hid (c_48 2 r8 = (B r8)) := (hF_50 2 r8 (fun h => absurd h.1 (nn rfl))).trans (hB r8)
      refine v_ba (v := (B r8)) c_6_18 rfl (by decide) (by decide) ⟨by first | (clear h_38 h_40 h_41 h_42 h_43 h_47 h_53; omega) | omega, by first | (clear h_39 h_40 h_41 h_42 h_43 h_47; omega) | omega⟩ (hid kn_60) (v_bip c_6_19 (by decide) ?_)
      by_cases h_61 : (B r8) < 48
      · refine v_ic_lt_t (t := 39) c_6_21 rfl ⟨h_42.1, h_61, by decide⟩ (q_iconst c_6_39 (v_zret c_6_40 rfl (by decide) (bk_inl (v_if_ne_f (t := 27) c_8_13 rfl (by decide) (q_aload_n c_8_16 rfl (q_iconst c_8_17 (q_aload_n c_8_18 rfl ?_)))))))
        refine v_gi (z := 2) (v := r8) c_8_19 kf_5_35 rfl (Nat.le_of_ble_eq_true rfl) rfl rfl (hz_51) (v_cv c_8_22 km_5_52 rfl rfl (Nat.le_of_ble_eq_true rfl) ⟨⟨rfl, rfl⟩, Nat.le_of_ble_eq_true rfl, rfl⟩ (Nat.le_of_ble_eq_true rfl) (Nat.le_of_ble_eq_true rfl) (q_aload_n c_7_0 rfl ?_))
        have kn_62 : Hid (c_48 1 4 = f9) := (hF_50 1 4 (fun h => absurd h.2 (ni rfl))).trans (hv2)
        refine v_gi (z := 4) (v := f9) c_7_1 kf_5_38 rfl (Nat.le_of_ble_eq_true rfl) rfl rfl (hid kn_62) (v_if_ne_f (t := 17) c_7_4 rfl (by first | exact q_0002e0578 h_43 | (clear h_38 h_39 h_40 h_41 h_42 h_47 h_53 h_61; omega) | omega) (q_aload_n c_7_7 rfl (q_iload_n c_7_8 rfl (v_pi (z := 4) c_7_9 kf_5_38 rfl (Nat.le_of_ble_eq_true rfl) rfl rfl rfl (by decide) (q_aload_n c_7_12 rfl (q_iload_n c_7_13 rfl (v_pi (z := 5) c_7_14 kf_5_15 rfl (Nat.le_of_ble_eq_true rfl) rfl rfl rfl (by decide) ?_)))))))
        refine q_vret rfl rfl (bk_inl (q_iconst c_8_25 (q_iret c_8_26 rfl ?_)))
        have hI_63 := iw_1_4 (v := 1) hI_49 ⟨by decide, by decide⟩
        have hI_64 := iw_1_5 (v := r8) hI_63 ⟨by first | (clear h_38 h_40 h_41 h_42 h_43 h_47 h_53 h_61; omega) | omega, by first | (clear h_39 h_40 h_41 h_42 h_43 h_47 h_61; omega) | omega⟩
        have h_65 : (up (up c_48 1 4 1) 1 5 r8) 1 2 = r8 := ((up_n (by decide)).trans ((up_n (by decide)).trans (hz_51)))
        have h_66 : (up (up c_48 1 4 1) 1 5 r8) 1 4 = 1 := ((up_n (by decide)).trans (up_e rfl))
        have h_67 : (up (up c_48 1 4 1) 1 5 r8) 1 5 = r8 := (up_e rfl)
        exact zv (by omega) (K1 (up (up c_48 1 4 1) 1 5 r8) hI_64 (fun a j hm => (up_b (Decidable.or_iff_not_imp_left.mpr (fun h1 h2 => hm (Or.inr (Or.inr ⟨Decidable.not_not.mp h1, h2⟩))))).trans ((up_b (Decidable.or_iff_not_imp_left.mpr (fun h1 h2 => hm (Or.inr (Or.inl ⟨Decidable.not_not.mp h1, h2⟩))))).trans (hF_50 a j (fun h => hm (Or.inl h))))) (by omega) (by omega) (by omega) (by omega) (by omega))
      · refine v_ic_lt_f (t := 39) c_6_21 rfl ⟨by decide, (Int.not_lt.mp h_61), h_42.2⟩ (q_aload_n c_6_24 rfl (v_gr (t := 2) c_6_25 kf_5_9 rfl (Nat.le_of_ble_eq_true rfl) rfl (q_iload_n c_6_28 rfl (v_ba (v := (B r8)) c_6_29 rfl (by decide) (by decide) ⟨by first | (clear h_38 h_40 h_41 h_42 h_43 h_47 h_53 h_61; omega) | omega, by first | (clear h_39 h_40 h_41 h_42 h_43 h_47 h_61; omega) | omega⟩ (hid kn_60) (v_bip c_6_30 (by decide) ?_)))))
        by_cases h_68 : (B r8) > 57
        · refine v_ic_gt_t (t := 39) c_6_32 rfl ⟨by decide, h_68, h_42.2⟩ (q_iconst c_6_39 (v_zret c_6_40 rfl (by decide) (bk_inl (v_if_ne_f (t := 27) c_8_13 rfl (by decide) (q_aload_n c_8_16 rfl (q_iconst c_8_17 (q_aload_n c_8_18 rfl ?_)))))))
          refine v_gi (z := 2) (v := r8) c_8_19 kf_5_35 rfl (Nat.le_of_ble_eq_true rfl) rfl rfl (hz_51) (v_cv c_8_22 km_5_52 rfl rfl (Nat.le_of_ble_eq_true rfl) ⟨⟨rfl, rfl⟩, Nat.le_of_ble_eq_true rfl, rfl⟩ (Nat.le_of_ble_eq_true rfl) (Nat.le_of_ble_eq_true rfl) (q_aload_n c_7_0 rfl ?_))
          have kn_69 : Hid (c_48 1 4 = f9) := (hF_50 1 4 (fun h => absurd h.2 (ni rfl))).trans (hv2)
          refine v_gi (z := 4) (v := f9) c_7_1 kf_5_38 rfl (Nat.le_of_ble_eq_true rfl) rfl rfl (hid kn_69) (v_if_ne_f (t := 17) c_7_4 rfl (by first | exact q_0002e0578 h_43 | (clear h_38 h_39 h_40 h_41 h_42 h_47 h_53 h_61 h_68; omega) | omega) (q_aload_n c_7_7 rfl (q_iload_n c_7_8 rfl (v_pi (z := 4) c_7_9 kf_5_38 rfl (Nat.le_of_ble_eq_true rfl) rfl rfl rfl (by decide) (q_aload_n c_7_12 rfl (q_iload_n c_7_13 rfl (v_pi (z := 5) c_7_14 kf_5_15 rfl (Nat.le_of_ble_eq_true rfl) rfl rfl rfl (by decide) ?_)))))))
          refine q_vret rfl rfl (bk_inl (q_iconst c_8_25 (q_iret c_8_26 rfl ?_)))
          have hI_70 := iw_1_4 (v := 1) hI_49 ⟨by decide, by decide⟩
          have hI_71 := iw_1_5 (v := r8) hI_70 ⟨by first | (clear h_38 h_40 h_41 h_42 h_43 h_47 h_53 h_61 h_68; omega) | omega, by first | (clear h_39 h_40 h_41 h_42 h_43 h_47 h_61 h_68; omega) | omega⟩
          have h_72 : (up (up c_48 1 4 1) 1 5 r8) 1 2 = r8 := ((up_n (by decide)).trans ((up_n (by decide)).trans (hz_51)))
          have h_73 : (up (up c_48 1 4 1) 1 5 r8) 1 4 = 1 := ((up_n (by decide)).trans (up_e rfl))
          have h_74 : (up (up c_48 1 4 1) 1 5 r8) 1 5 = r8 := (up_e rfl)
          exact zv (by omega) (K1 (up (up c_48 1 4 1) 1 5 r8) hI_71 (fun a j hm => (up_b (Decidable.or_iff_not_imp_left.mpr (fun h1 h2 => hm (Or.inr (Or.inr ⟨Decidable.not_not.mp h1, h2⟩))))).trans ((up_b (Decidable.or_iff_not_imp_left.mpr (fun h1 h2 => hm (Or.inr (Or.inl ⟨Decidable.not_not.mp h1, h2⟩))))).trans (hF_50 a j (fun h => hm (Or.inl h))))) (by omega) (by omega) (by omega) (by omega) (by omega))
        · refine v_ic_gt_f (t := 39) c_6_32 rfl ⟨h_42.1, (Int.not_lt.mp h_68), by decide⟩ (q_iconst c_6_35 (q_goto (t := 40) c_6_36 rfl (v_zret c_6_40 rfl (by decide) (bk_inl (v_if_ne_t (t := 27) c_8_13 rfl (by decide) (q_aload_n c_8_27 rfl (v_gi (z := 2) (v := r8) c_8_28 kf_5_35 rfl (Nat.le_of_ble_eq_true rfl) rfl rfl (hz_51) ?_)))))))
          refine q_istore_n c_8_31 (Nat.le_of_ble_eq_true rfl) (q_iconst c_8_32 (q_istore_n c_8_33 (Nat.le_of_ble_eq_true rfl) (Wp_ls [(0, .ref 1), (1, vi a1), (2, vi r8), (3, vi 0)] (lsub_cons rfl (lsub_cons rfl (lsub_cons rfl (lsub_cons rfl lsub_nil)))) ?_)))
          have kn_75 : Hid (c_48 1 4 = f9) := (hF_50 1 4 (fun h => absurd h.2 (ni rfl))).trans (hv2)
          have h_76 : c_48 1 4 = f9 := (hid kn_75)
          have kn_77 : Hid (c_48 1 5 = p9) := (hF_50 1 5 (fun h => absurd h.2 (ni rfl))).trans (hv3)
          have h_78 : c_48 1 5 = p9 := (hid kn_77)
          have h_79 : c_48 1 2 = r8 := (hz_51)
          exact (f_8_l (sc := sc) (d := d) hI ha1 hv0 hv1 hv2 hv3 hB hdr8 hdD8 hdV8 K0 K1 K2 K3 601) c_48 0 hI_49 (fun a j hm => hF_50 a j (fun h => hm (Or.inl h))) ⟨by omega, by omega⟩ (by rw [show c_48 1 2 = r8 from (hz_51)]) (by omega) (by omega) (by omega) (by omega) (by omega) (by omega)

set_option maxRecDepth 100000 in
set_option maxHeartbeats 4000000 in
theorem f_160_l {sc : List Int32} {e : Int} {d u P Q : Nat} {c : ME} {e1 a9 f9 k9 r8 D8 V8 a1 a2 : Int} {B : Int → Int} {Z : AR → Prop} (hI : Iv u e P Q c) (ha1 : 0 ≤ a1 ∧ a1 ≤ 1) (ha2 : (-1) ≤ a2 ∧ a2 ≤ 9999) (hv0 : c 41 3 = e1) (hv1 : c 41 4 = a9) (hv2 : c 41 5 = f9) (hv3 : c 41 6 = k9) (hB : ∀ j : Int, c 43 j = B j) (hdr8 : nx B e1 a9 = r8) (hdD8 : (dg B e1 r8 0).1 = D8) (hdV8 : (dg B e1 r8 0).2 = V8) (K0 : ∀ c2 : ME, Iv u e P Q c2 → (∀ (a : Nat) (j : Int), ¬ ((a = 41 ∧ j = 4) ∨ (a = 41 ∧ j = 5) ∨ (a = 41 ∧ j = 6)) → c2 a j = c a j) → ((f9 ≠ (-1))) → (c2 41 4 = a9) → (c2 41 5 = f9) → (c2 41 6 = k9) → Z (.inl (some (vi 0)), Wd P Q P P c2, 0, 0)) (K1 : ∀ c2 : ME, Iv u e P Q c2 → (∀ (a : Nat) (j : Int), ¬ ((a = 41 ∧ j = 4) ∨ (a = 41 ∧ j = 5) ∨ (a = 41 ∧ j = 6)) → c2 a j = c a j) → ((f9 = (-1))) → ((r8 ≥ e1) ∨ ((B r8) < 48) ∨ ((B r8) > 57)) → (c2 41 4 = r8) → (c2 41 5 = r8) → (c2 41 6 = 1) → Z (.inl (some (vi 0)), Wd P Q P P c2, 0, 0)) (K2 : ∀ c2 : ME, Iv u e P Q c2 → (∀ (a : Nat) (j : Int), ¬ ((a = 41 ∧ j = 4) ∨ (a = 41 ∧ j = 5) ∨ (a = 41 ∧ j = 6)) → c2 a j = c a j) → ((f9 = (-1))) → ((r8 < e1 ∧ (B r8) ≥ 48 ∧ (B r8) ≤ 57)) → ((V8 < a1) ∨ (V8 > a2)) → (c2 41 4 = D8) → (c2 41 5 = r8) → (c2 41 6 = 2) → Z (.inl (some (vi 0)), Wd P Q P P c2, 0, 0)) (K3 : ∀ c2 : ME, Iv u e P Q c2 → (∀ (a : Nat) (j : Int), ¬ ((a = 41 ∧ j = 4) ∨ (a = 41 ∧ j = 5) ∨ (a = 41 ∧ j = 6)) → c2 a j = c a j) → ((f9 = (-1))) → ((r8 < e1 ∧ (B r8) ≥ 48 ∧ (B r8) ≤ 57)) → ((V8 ≥ a1)) → ((V8 ≤ a2)) → (c2 41 4 = D8) → (c2 41 5 = (-1)) → (c2 41 6 = k9) → Z (.inl (some (vi V8)), Wd P Q P P c2, 0, 0)) : ∀ n : Nat, (∀ (c2 : ME) (v5 : Int) (u4 : Int), Iv u e P Q c2 → (∀ (a : Nat) (j : Int), ¬ ((a = 41 ∧ j = 4) ∨ (a = 41 ∧ j = 5) ∨ (a = 41 ∧ j = 6)) → c2 a j = c a j) → 0 ≤ v5 ∧ v5 ≤ 99999 → 0 ≤ u4 ∧ u4 ≤ 99999 → (dg B e1 (c2 41 4) u4 = dg B e1 r8 0) → ((v5 = u4) ∨ (v5 ≥ 10000 ∧ u4 ≥ 10000)) → ((c2 41 5 = (-1))) → ((c2 41 6 = k9)) → ((f9 = (-1))) → ((c2 41 4 ≥ r8)) → ((r8 < e1 ∧ (B r8) ≥ 48 ∧ (B r8) ≤ 57)) → 605 - c2 41 4 < (n : Int) → Wp sc (d + 12) 160 41 [(0, .ref 41), (1, vi a1), (2, vi a2), (4, vi r8), (5, vi v5)] [] (Wd P Q P P c2) 0 0 Z)
  | 0 => by intro c2 v5 u4 hI2 hF hv5 hu4 hx0 hx1 hx2 hx3 hx4 hx5 hx6 hm9; have hP := iv_P hI; have hQ := iv_Q hI; have h_1 := ir_41_3 hI; have h_2 := ir_41_4 hI; have h_3 := ir_41_5 hI; have h_4 := ir_41_6 hI; have h_5 : -2147483648 ≤ (B r8) ∧ (B r8) ≤ 2147483647 := (by rw [← hB r8]; exact ir_43 hI r8); have h_6 := ir_41_5 hI2; have h_7 := ir_41_6 hI2; have h_8 := ir_41_4 hI2; exfalso; omega
  | n + 1 => by
    have hP := iv_P hI
    have hQ := iv_Q hI
    have ih := f_160_l (sc := sc) (d := d) hI ha1 ha2 hv0 hv1 hv2 hv3 hB hdr8 hdD8 hdV8 K0 K1 K2 K3 n
    intro c2 v5 u4 hI2 hF hv5 hu4 hx0 hx1 hx2 hx3 hx4 hx5 hx6 hm9
    have h_1 := ir_41_3 hI
    have h_2 := ir_41_4 hI
    have h_3 := ir_41_5 hI
    have h_4 := ir_41_6 hI
    have hn1 := nx_bd (b := B) (e := e1) (a := a9)
    rw [hdr8] at hn1
    have hn2 := dg_bd (b := B) (e := e1) (a := r8) (v := 0) (by decide)
    rw [hdD8, hdV8] at hn2
    have hn3 := nx_n (b := B) (e := e1) (a := a9)
    rw [hdr8] at hn3
    have h_5 : -2147483648 ≤ (B r8) ∧ (B r8) ≤ 2147483647 := by rw [← hB r8]; exact ir_43 hI r8
    have h_6 := ir_41_5 hI2
    have h_7 := ir_41_6 hI2
    have h_8 := ir_41_4 hI2
    refine q_aload_n c_160_41 rfl (v_gi (z := 4) (v := c2 41 4) c_160_42 kf_8_108 rfl (Nat.le_of_ble_eq_true rfl) rfl rfl rfl (q_aload_n c_160_45 rfl ?_))
    have kn_9 : Hid (c2 41 3 = e1) := (hF 41 3 qn_97fd72088).trans (hv0)
    refine v_gi (z := 3) (v := e1) c_160_46 kf_8_111 rfl (Nat.le_of_ble_eq_true rfl) rfl rfl (hid kn_9) ?_
    by_cases h_10 : c2 41 4 ≥ e1
    · refine v_ic_ge_t (t := 114) c_160_49 rfl ⟨by first | (clear h_2 h_3 h_4 h_5 h_6 h_7 h_8; omega) | omega, h_10, (Int.le_trans h_8.2 (by decide))⟩ (q_iload c_160_114 rfl (q_iload_n c_160_116 rfl ?_))
      by_cases h_11 : v5 < a1
      · refine v_ic_lt_t (t := 126) c_160_117 rfl ⟨(Int.le_trans (by decide) hv5.1), h_11, (Int.le_trans ha1.2 (by decide))⟩ (q_aload_n c_160_126 rfl (q_iconst c_160_127 (q_iload c_160_128 rfl (v_cv c_160_130 km_8_138 rfl rfl (Nat.le_of_ble_eq_true rfl) ⟨⟨rfl, rfl⟩, Nat.le_of_ble_eq_true rfl, rfl⟩ (Nat.le_of_ble_eq_true rfl) (Nat.le_of_ble_eq_true rfl) (q_aload_n c_153_0 rfl (v_gi (z := 5) (v := c2 41 5) c_153_1 kf_8_102 rfl (Nat.le_of_ble_eq_true rfl) rfl rfl rfl (q_iconst c_153_4 ?_)))))))
        refine v_ic_eq_t (t := 9) c_153_5 rfl (by omega) (q_aload_n c_153_9 rfl (q_iload_n c_153_10 rfl (v_pi (z := 5) c_153_11 kf_8_102 rfl (Nat.le_of_ble_eq_true rfl) rfl rfl rfl (by decide) (q_aload_n c_153_14 rfl (q_iload_n c_153_15 rfl (v_pi (z := 6) c_153_16 kf_8_105 rfl (Nat.le_of_ble_eq_true rfl) rfl rfl rfl (by decide) (q_vret rfl rfl ?_)))))))
        refine bk_inl (q_iconst c_160_133 (q_iret c_160_134 rfl ?_))
        have hz8 : dg B e1 (c2 41 4) u4 = (c2 41 4, u4) := dg_z (by omega)
        have hz9 : D8 = c2 41 4 := by rw [← hdD8, ← hx0, hz8]
        have hz10 : V8 = u4 := by rw [← hdV8, ← hx0, hz8]
        have hI_12 := iw_41_5 (v := r8) hI2 ⟨by first | (clear h_1 h_3 h_4 h_5 h_6 h_7 h_8 h_10 h_11 hz10; omega) | omega, by first | (clear h_2 h_3 h_4 h_5 h_6 h_7 h_10 h_11 hz10; omega) | omega⟩
        have hI_13 := iw_41_6 (v := 2) hI_12 ⟨by decide, by decide⟩
        have h_14 : (up (up c2 41 5 r8) 41 6 2) 41 4 = c2 41 4 := ((up_n (by decide)).trans (up_n (by decide)))
        have h_15 : (up (up c2 41 5 r8) 41 6 2) 41 5 = r8 := ((up_n (by decide)).trans (up_e rfl))
        have h_16 : (up (up c2 41 5 r8) 41 6 2) 41 6 = 2 := (up_e rfl)
        exact zv (by omega) (K2 (up (up c2 41 5 r8) 41 6 2) hI_13 (fun a j hm => (up_b (Decidable.or_iff_not_imp_left.mpr (fun h1 h2 => hm (Or.inr (Or.inr ⟨Decidable.not_not.mp h1, h2⟩))))).trans ((up_b (Decidable.or_iff_not_imp_left.mpr (fun h1 h2 => hm (Or.inr (Or.inl ⟨Decidable.not_not.mp h1, h2⟩))))).trans (hF a j hm))) (by omega) (by omega) (by omega) (by omega) (by omega) (by omega))
      · refine v_ic_lt_f (t := 126) c_160_117 rfl ⟨(Int.le_trans (by decide) ha1.1), (Int.not_lt.mp h_11), (Int.le_trans hv5.2 (by decide))⟩ (q_iload c_160_120 rfl (q_iload_n c_160_122 rfl ?_))
        by_cases h_17 : v5 ≤ a2
        · refine v_ic_le_t (t := 135) c_160_123 rfl ⟨(Int.le_trans (by decide) hv5.1), h_17, (Int.le_trans ha2.2 (by decide))⟩ (q_iload c_160_135 rfl (q_iret c_160_137 rfl ?_))
          have hz8 : dg B e1 (c2 41 4) u4 = (c2 41 4, u4) := dg_z (by omega)
          have hz9 : D8 = c2 41 4 := by rw [← hdD8, ← hx0, hz8]
          have hz10 : V8 = u4 := by rw [← hdV8, ← hx0, hz8]
          exact zv (by omega) (K3 c2 hI2 (fun a j hm => hF a j hm) (by omega) (by omega) (by omega) (by omega) (by omega) (by omega) (by omega))
        · refine v_ic_le_f (t := 135) c_160_123 rfl ⟨(Int.le_trans (by decide) ha2.1), (Int.not_le.mp h_17), (Int.le_trans hv5.2 (by decide))⟩ (q_aload_n c_160_126 rfl (q_iconst c_160_127 (q_iload c_160_128 rfl (v_cv c_160_130 km_8_138 rfl rfl (Nat.le_of_ble_eq_true rfl) ⟨⟨rfl, rfl⟩, Nat.le_of_ble_eq_true rfl, rfl⟩ (Nat.le_of_ble_eq_true rfl) (Nat.le_of_ble_eq_true rfl) (q_aload_n c_153_0 rfl (v_gi (z := 5) (v := c2 41 5) c_153_1 kf_8_102 rfl (Nat.le_of_ble_eq_true rfl) rfl rfl rfl (q_iconst c_153_4 ?_)))))))
          refine v_ic_eq_t (t := 9) c_153_5 rfl (by first | (clear h_1 h_2 h_3 h_4 h_6 h_7 h_8 h_10 h_11 h_17; omega) | omega) (q_aload_n c_153_9 rfl (q_iload_n c_153_10 rfl (v_pi (z := 5) c_153_11 kf_8_102 rfl (Nat.le_of_ble_eq_true rfl) rfl rfl rfl (by decide) (q_aload_n c_153_14 rfl (q_iload_n c_153_15 rfl (v_pi (z := 6) c_153_16 kf_8_105 rfl (Nat.le_of_ble_eq_true rfl) rfl rfl rfl (by decide) (q_vret rfl rfl ?_)))))))
          refine bk_inl (q_iconst c_160_133 (q_iret c_160_134 rfl ?_))
          have hz8 : dg B e1 (c2 41 4) u4 = (c2 41 4, u4) := dg_z (by omega)
          have hz9 : D8 = c2 41 4 := by rw [← hdD8, ← hx0, hz8]
          have hz10 : V8 = u4 := by rw [← hdV8, ← hx0, hz8]
          have hI_18 := iw_41_5 (v := r8) hI2 ⟨by first | (clear h_1 h_3 h_4 h_5 h_6 h_7 h_8 h_10 h_11 h_17 hz10; omega) | omega, by first | (clear h_2 h_3 h_4 h_5 h_6 h_7 h_10 h_11 h_17 hz10; omega) | omega⟩
          have hI_19 := iw_41_6 (v := 2) hI_18 ⟨by decide, by decide⟩
          have h_20 : (up (up c2 41 5 r8) 41 6 2) 41 4 = c2 41 4 := ((up_n (by decide)).trans (up_n (by decide)))
          have h_21 : (up (up c2 41 5 r8) 41 6 2) 41 5 = r8 := ((up_n (by decide)).trans (up_e rfl))
          have h_22 : (up (up c2 41 5 r8) 41 6 2) 41 6 = 2 := (up_e rfl)
          exact zv (by omega) (K2 (up (up c2 41 5 r8) 41 6 2) hI_19 (fun a j hm => (up_b (Decidable.or_iff_not_imp_left.mpr (fun h1 h2 => hm (Or.inr (Or.inr ⟨Decidable.not_not.mp h1, h2⟩))))).trans ((up_b (Decidable.or_iff_not_imp_left.mpr (fun h1 h2 => hm (Or.inr (Or.inl ⟨Decidable.not_not.mp h1, h2⟩))))).trans (hF a j hm))) (by omega) (by omega) (by omega) (by omega) (by omega) (by omega))
    · refine v_ic_ge_f (t := 114) c_160_49 rfl ⟨(Int.le_trans (by decide) h_8.1), (Int.not_le.mp h_10), by first | (clear h_2 h_3 h_4 h_5 h_6 h_7 h_8; omega) | omega⟩ (q_aload_n c_160_52 rfl (v_gr (t := 43) c_160_53 kf_8_20 rfl (Nat.le_of_ble_eq_true rfl) rfl (q_aload_n c_160_56 rfl (v_gi (z := 4) (v := c2 41 4) c_160_57 kf_8_108 rfl (Nat.le_of_ble_eq_true rfl) rfl rfl rfl ?_))))
      have h_23 : -2147483648 ≤ (B (c2 41 4)) ∧ (B (c2 41 4)) ≤ 2147483647 := by rw [← hB (c2 41 4)]; exact ir_43 hI (c2 41 4)
      have kn_24 : Hid (c2 43 (c2 41 4) = (B (c2 41 4))) := (hF 43 (c2 41 4) qn_0f2179ecb).trans (hB (c2 41 4))
      refine v_ia (v := (B (c2 41 4))) c_160_60 rfl (by decide) (by decide) ⟨h_8.1, by first | (clear h_2 h_3 h_4 h_5 h_6 h_7 h_8 h_23; omega) | omega⟩ (hid kn_24) (q_call c_160_61 rfl rfl rfl (q_iload_n c_156_0 rfl (v_bip c_156_1 (by decide) ?_)))
      by_cases h_25 : (B (c2 41 4)) < 48
      · refine v_ic_lt_t (t := 16) c_156_3 rfl ⟨by first | exact q_f97c35332 h_23 | (clear h_1 h_2 h_3 h_4 h_5 h_6 h_7 h_8 h_10; omega) | omega, h_25, by decide⟩ (q_iconst c_156_16 (v_zret c_156_17 rfl (by decide) (bk_inl (v_if_eq_t (t := 114) c_160_64 rfl (by decide) (q_iload c_160_114 rfl (q_iload_n c_160_116 rfl ?_))))))
        by_cases h_26 : v5 < a1
        · refine v_ic_lt_t (t := 126) c_160_117 rfl ⟨(Int.le_trans (by decide) hv5.1), h_26, (Int.le_trans ha1.2 (by decide))⟩ (q_aload_n c_160_126 rfl (q_iconst c_160_127 (q_iload c_160_128 rfl (v_cv c_160_130 km_8_138 rfl rfl (Nat.le_of_ble_eq_true rfl) ⟨⟨rfl, rfl⟩, Nat.le_of_ble_eq_true rfl, rfl⟩ (Nat.le_of_ble_eq_true rfl) (Nat.le_of_ble_eq_true rfl) (q_aload_n c_153_0 rfl (v_gi (z := 5) (v := c2 41 5) c_153_1 kf_8_102 rfl (Nat.le_of_ble_eq_true rfl) rfl rfl rfl (q_iconst c_153_4 ?_)))))))
          refine v_ic_eq_t (t := 9) c_153_5 rfl (by first | (clear h_1 h_2 h_3 h_4 h_6 h_7 h_8 h_10 h_23 h_25 h_26; omega) | omega) (q_aload_n c_153_9 rfl (q_iload_n c_153_10 rfl (v_pi (z := 5) c_153_11 kf_8_102 rfl (Nat.le_of_ble_eq_true rfl) rfl rfl rfl (by decide) (q_aload_n c_153_14 rfl (q_iload_n c_153_15 rfl (v_pi (z := 6) c_153_16 kf_8_105 rfl (Nat.le_of_ble_eq_true rfl) rfl rfl rfl (by decide) (q_vret rfl rfl ?_)))))))
          refine bk_inl (q_iconst c_160_133 (q_iret c_160_134 rfl ?_))
          have hz8 : dg B e1 (c2 41 4) u4 = (c2 41 4, u4) := dg_z (by omega)
          have hz9 : D8 = c2 41 4 := by rw [← hdD8, ← hx0, hz8]
          have hz10 : V8 = u4 := by rw [← hdV8, ← hx0, hz8]
          have hI_27 := iw_41_5 (v := r8) hI2 ⟨by first | (clear h_1 h_3 h_4 h_5 h_6 h_7 h_8 h_10 h_23 h_25 h_26 hz10; omega) | omega, by first | (clear h_2 h_3 h_4 h_5 h_6 h_7 h_10 h_23 h_25 h_26 hz10; omega) | omega⟩
          have hI_28 := iw_41_6 (v := 2) hI_27 ⟨by decide, by decide⟩
          have h_29 : (up (up c2 41 5 r8) 41 6 2) 41 4 = c2 41 4 := ((up_n (by decide)).trans (up_n (by decide)))
          have h_30 : (up (up c2 41 5 r8) 41 6 2) 41 5 = r8 := ((up_n (by decide)).trans (up_e rfl))
          have h_31 : (up (up c2 41 5 r8) 41 6 2) 41 6 = 2 := (up_e rfl)
          exact zv (by omega) (K2 (up (up c2 41 5 r8) 41 6 2) hI_28 (fun a j hm => (up_b (Decidable.or_iff_not_imp_left.mpr (fun h1 h2 => hm (Or.inr (Or.inr ⟨Decidable.not_not.mp h1, h2⟩))))).trans ((up_b (Decidable.or_iff_not_imp_left.mpr (fun h1 h2 => hm (Or.inr (Or.inl ⟨Decidable.not_not.mp h1, h2⟩))))).trans (hF a j hm))) (by omega) (by omega) (by omega) (by omega) (by omega) (by omega))
        · refine v_ic_lt_f (t := 126) c_160_117 rfl ⟨(Int.le_trans (by decide) ha1.1), (Int.not_lt.mp h_26), (Int.le_trans hv5.2 (by decide))⟩ (q_iload c_160_120 rfl (q_iload_n c_160_122 rfl ?_))
          by_cases h_32 : v5 ≤ a2
          · refine v_ic_le_t (t := 135) c_160_123 rfl ⟨(Int.le_trans (by decide) hv5.1), h_32, (Int.le_trans ha2.2 (by decide))⟩ (q_iload c_160_135 rfl (q_iret c_160_137 rfl ?_))
            have hz8 : dg B e1 (c2 41 4) u4 = (c2 41 4, u4) := dg_z (by omega)
            have hz9 : D8 = c2 41 4 := by rw [← hdD8, ← hx0, hz8]
            have hz10 : V8 = u4 := by rw [← hdV8, ← hx0, hz8]
            exact zv (by omega) (K3 c2 hI2 (fun a j hm => hF a j hm) (by omega) (by omega) (by omega) (by omega) (by omega) (by omega) (by omega))
          · refine v_ic_le_f (t := 135) c_160_123 rfl ⟨(Int.le_trans (by decide) ha2.1), (Int.not_le.mp h_32), (Int.le_trans hv5.2 (by decide))⟩ (q_aload_n c_160_126 rfl (q_iconst c_160_127 (q_iload c_160_128 rfl (v_cv c_160_130 km_8_138 rfl rfl (Nat.le_of_ble_eq_true rfl) ⟨⟨rfl, rfl⟩, Nat.le_of_ble_eq_true rfl, rfl⟩ (Nat.le_of_ble_eq_true rfl) (Nat.le_of_ble_eq_true rfl) (q_aload_n c_153_0 rfl (v_gi (z := 5) (v := c2 41 5) c_153_1 kf_8_102 rfl (Nat.le_of_ble_eq_true rfl) rfl rfl rfl (q_iconst c_153_4 ?_)))))))
            refine v_ic_eq_t (t := 9) c_153_5 rfl (by first | (clear h_1 h_2 h_3 h_4 h_6 h_7 h_8 h_10 h_23 h_25 h_26 h_32; omega) | omega) (q_aload_n c_153_9 rfl (q_iload_n c_153_10 rfl (v_pi (z := 5) c_153_11 kf_8_102 rfl (Nat.le_of_ble_eq_true rfl) rfl rfl rfl (by decide) (q_aload_n c_153_14 rfl (q_iload_n c_153_15 rfl (v_pi (z := 6) c_153_16 kf_8_105 rfl (Nat.le_of_ble_eq_true rfl) rfl rfl rfl (by decide) (q_vret rfl rfl ?_)))))))
            refine bk_inl (q_iconst c_160_133 (q_iret c_160_134 rfl ?_))
            have hz8 : dg B e1 (c2 41 4) u4 = (c2 41 4, u4) := dg_z (by omega)
            have hz9 : D8 = c2 41 4 := by rw [← hdD8, ← hx0, hz8]
            have hz10 : V8 = u4 := by rw [← hdV8, ← hx0, hz8]
            have hI_33 := iw_41_5 (v := r8) hI2 ⟨by first | (clear h_1 h_3 h_4 h_5 h_6 h_7 h_8 h_10 h_23 h_25 h_26 h_32 hz10; omega) | omega, by first | (clear h_2 h_3 h_4 h_5 h_6 h_7 h_10 h_23 h_25 h_26 h_32 hz10; omega) | omega⟩
            have hI_34 := iw_41_6 (v := 2) hI_33 ⟨by decide, by decide⟩
            have h_35 : (up (up c2 41 5 r8) 41 6 2) 41 4 = c2 41 4 := ((up_n (by decide)).trans (up_n (by decide)))
            have h_36 : (up (up c2 41 5 r8) 41 6 2) 41 5 = r8 := ((up_n (by decide)).trans (up_e rfl))
            have h_37 : (up (up c2 41 5 r8) 41 6 2) 41 6 = 2 := (up_e rfl)
            exact zv (by omega) (K2 (up (up c2 41 5 r8) 41 6 2) hI_34 (fun a j hm => (up_b (Decidable.or_iff_not_imp_left.mpr (fun h1 h2 => hm (Or.inr (Or.inr ⟨Decidable.not_not.mp h1, h2⟩))))).trans ((up_b (Decidable.or_iff_not_imp_left.mpr (fun h1 h2 => hm (Or.inr (Or.inl ⟨Decidable.not_not.mp h1, h2⟩))))).trans (hF a j hm))) (by omega) (by omega) (by omega) (by omega) (by omega) (by omega))
      · refine v_ic_lt_f (t := 16) c_156_3 rfl ⟨by decide, (Int.not_lt.mp h_25), by first | exact q_79e53d295 h_23 | (clear h_1 h_2 h_3 h_4 h_5 h_6 h_7 h_8 h_10; omega) | omega⟩ (q_iload_n c_156_6 rfl (v_bip c_156_7 (by decide) ?_))
        by_cases h_38 : (B (c2 41 4)) > 57
        · refine v_ic_gt_t (t := 16) c_156_9 rfl ⟨by decide, h_38, by first | exact q_79e53d295 h_23 | (clear h_1 h_2 h_3 h_4 h_5 h_6 h_7 h_8 h_10 h_25; omega) | omega⟩ (q_iconst c_156_16 (v_zret c_156_17 rfl (by decide) (bk_inl (v_if_eq_t (t := 114) c_160_64 rfl (by decide) (q_iload c_160_114 rfl (q_iload_n c_160_116 rfl ?_))))))
          by_cases h_39 : v5 < a1
          · refine v_ic_lt_t (t := 126) c_160_117 rfl ⟨(Int.le_trans (by decide) hv5.1), h_39, (Int.le_trans ha1.2 (by decide))⟩ (q_aload_n c_160_126 rfl (q_iconst c_160_127 (q_iload c_160_128 rfl (v_cv c_160_130 km_8_138 rfl rfl (Nat.le_of_ble_eq_true rfl) ⟨⟨rfl, rfl⟩, Nat.le_of_ble_eq_true rfl, rfl⟩ (Nat.le_of_ble_eq_true rfl) (Nat.le_of_ble_eq_true rfl) (q_aload_n c_153_0 rfl (v_gi (z := 5) (v := c2 41 5) c_153_1 kf_8_102 rfl (Nat.le_of_ble_eq_true rfl) rfl rfl rfl (q_iconst c_153_4 ?_)))))))
            refine v_ic_eq_t (t := 9) c_153_5 rfl (by first | (clear h_1 h_2 h_3 h_4 h_6 h_7 h_8 h_10 h_23 h_25 h_38 h_39; omega) | omega) (q_aload_n c_153_9 rfl (q_iload_n c_153_10 rfl (v_pi (z := 5) c_153_11 kf_8_102 rfl (Nat.le_of_ble_eq_true rfl) rfl rfl rfl (by decide) (q_aload_n c_153_14 rfl (q_iload_n c_153_15 rfl (v_pi (z := 6) c_153_16 kf_8_105 rfl (Nat.le_of_ble_eq_true rfl) rfl rfl rfl (by decide) (q_vret rfl rfl ?_)))))))
            refine bk_inl (q_iconst c_160_133 (q_iret c_160_134 rfl ?_))
            have hz8 : dg B e1 (c2 41 4) u4 = (c2 41 4, u4) := dg_z (by omega)
            have hz9 : D8 = c2 41 4 := by rw [← hdD8, ← hx0, hz8]
            have hz10 : V8 = u4 := by rw [← hdV8, ← hx0, hz8]
            have hI_40 := iw_41_5 (v := r8) hI2 ⟨by first | (clear h_1 h_3 h_4 h_5 h_6 h_7 h_8 h_10 h_23 h_25 h_38 h_39 hz10; omega) | omega, by first | (clear h_2 h_3 h_4 h_5 h_6 h_7 h_10 h_23 h_25 h_38 h_39 hz10; omega) | omega⟩
            have hI_41 := iw_41_6 (v := 2) hI_40 ⟨by decide, by decide⟩
            have h_42 : (up (up c2 41 5 r8) 41 6 2) 41 4 = c2 41 4 := ((up_n (by decide)).trans (up_n (by decide)))
            have h_43 : (up (up c2 41 5 r8) 41 6 2) 41 5 = r8 := ((up_n (by decide)).trans (up_e rfl))
            have h_44 : (up (up c2 41 5 r8) 41 6 2) 41 6 = 2 := (up_e rfl)
            exact zv (by omega) (K2 (up (up c2 41 5 r8) 41 6 2) hI_41 (fun a j hm => (up_b (Decidable.or_iff_not_imp_left.mpr (fun h1 h2 => hm (Or.inr (Or.inr ⟨Decidable.not_not.mp h1, h2⟩))))).trans ((up_b (Decidable.or_iff_not_imp_left.mpr (fun h1 h2 => hm (Or.inr (Or.inl ⟨Decidable.not_not.mp h1, h2⟩))))).trans (hF a j hm))) (by omega) (by omega) (by omega) (by omega) (by omega) (by omega))
          · refine v_ic_lt_f (t := 126) c_160_117 rfl ⟨(Int.le_trans (by decide) ha1.1), (Int.not_lt.mp h_39), (Int.le_trans hv5.2 (by decide))⟩ (q_iload c_160_120 rfl (q_iload_n c_160_122 rfl ?_))
            by_cases h_45 : v5 ≤ a2
            · refine v_ic_le_t (t := 135) c_160_123 rfl ⟨(Int.le_trans (by decide) hv5.1), h_45, (Int.le_trans ha2.2 (by decide))⟩ (q_iload c_160_135 rfl (q_iret c_160_137 rfl ?_))
              have hz8 : dg B e1 (c2 41 4) u4 = (c2 41 4, u4) := dg_z (by omega)
              have hz9 : D8 = c2 41 4 := by rw [← hdD8, ← hx0, hz8]
              have hz10 : V8 = u4 := by rw [← hdV8, ← hx0, hz8]
              exact zv (by omega) (K3 c2 hI2 (fun a j hm => hF a j hm) (by omega) (by omega) (by omega) (by omega) (by omega) (by omega) (by omega))
            · refine v_ic_le_f (t := 135) c_160_123 rfl ⟨(Int.le_trans (by decide) ha2.1), (Int.not_le.mp h_45), (Int.le_trans hv5.2 (by decide))⟩ (q_aload_n c_160_126 rfl (q_iconst c_160_127 (q_iload c_160_128 rfl (v_cv c_160_130 km_8_138 rfl rfl (Nat.le_of_ble_eq_true rfl) ⟨⟨rfl, rfl⟩, Nat.le_of_ble_eq_true rfl, rfl⟩ (Nat.le_of_ble_eq_true rfl) (Nat.le_of_ble_eq_true rfl) (q_aload_n c_153_0 rfl (v_gi (z := 5) (v := c2 41 5) c_153_1 kf_8_102 rfl (Nat.le_of_ble_eq_true rfl) rfl rfl rfl (q_iconst c_153_4 ?_)))))))
              refine v_ic_eq_t (t := 9) c_153_5 rfl (by first | (clear h_1 h_2 h_3 h_4 h_6 h_7 h_8 h_10 h_23 h_25 h_38 h_39 h_45; omega) | omega) (q_aload_n c_153_9 rfl (q_iload_n c_153_10 rfl (v_pi (z := 5) c_153_11 kf_8_102 rfl (Nat.le_of_ble_eq_true rfl) rfl rfl rfl (by decide) (q_aload_n c_153_14 rfl (q_iload_n c_153_15 rfl (v_pi (z := 6) c_153_16 kf_8_105 rfl (Nat.le_of_ble_eq_true rfl) rfl rfl rfl (by decide) (q_vret rfl rfl ?_)))))))
              refine bk_inl (q_iconst c_160_133 (q_iret c_160_134 rfl ?_))
              have hz8 : dg B e1 (c2 41 4) u4 = (c2 41 4, u4) := dg_z (by omega)
              have hz9 : D8 = c2 41 4 := by rw [← hdD8, ← hx0, hz8]
              have hz10 : V8 = u4 := by rw [← hdV8, ← hx0, hz8]
              have hI_46 := iw_41_5 (v := r8) hI2 ⟨by first | (clear h_1 h_3 h_4 h_5 h_6 h_7 h_8 h_10 h_23 h_25 h_38 h_39 h_45 hz10; omega) | omega, by first | (clear h_2 h_3 h_4 h_5 h_6 h_7 h_10 h_23 h_25 h_38 h_39 h_45 hz10; omega) | omega⟩
              have hI_47 := iw_41_6 (v := 2) hI_46 ⟨by decide, by decide⟩
              have h_48 : (up (up c2 41 5 r8) 41 6 2) 41 4 = c2 41 4 := ((up_n (by decide)).trans (up_n (by decide)))
              have h_49 : (up (up c2 41 5 r8) 41 6 2) 41 5 = r8 := ((up_n (by decide)).trans (up_e rfl))
              have h_50 : (up (up c2 41 5 r8) 41 6 2) 41 6 = 2 := (up_e rfl)
              exact zv (by omega) (K2 (up (up c2 41 5 r8) 41 6 2) hI_47 (fun a j hm => (up_b (Decidable.or_iff_not_imp_left.mpr (fun h1 h2 => hm (Or.inr (Or.inr ⟨Decidable.not_not.mp h1, h2⟩))))).trans ((up_b (Decidable.or_iff_not_imp_left.mpr (fun h1 h2 => hm (Or.inr (Or.inl ⟨Decidable.not_not.mp h1, h2⟩))))).trans (hF a j hm))) (by omega) (by omega) (by omega) (by omega) (by omega) (by omega))
        · refine v_ic_gt_f (t := 16) c_156_9 rfl ⟨by first | exact q_993cab007 h_25 | (clear h_1 h_2 h_3 h_4 h_5 h_6 h_7 h_8 h_10 h_23; omega) | omega, (Int.not_lt.mp h_38), by decide⟩ (q_iconst c_156_12 (q_goto (t := 17) c_156_13 rfl (v_zret c_156_17 rfl (by decide) (bk_inl (v_if_eq_f (t := 114) c_160_64 rfl (by decide) (q_iload c_160_67 rfl (v_sip c_160_69 (by decide) ?_)))))))
          by_cases h_51 : v5 ≤ 9999
          · refine v_ic_le_t (t := 81) c_160_72 rfl ⟨(Int.le_trans (by decide) hv5.1), h_51, by decide⟩ (v_bip c_160_81 (by decide) (q_iload c_160_83 rfl (v_imul (v := 10 * v5) c_160_85 rfl (q_aload_n c_160_86 rfl (v_gr (t := 43) c_160_87 kf_8_20 rfl (Nat.le_of_ble_eq_true rfl) rfl (q_aload_n c_160_90 rfl (v_gi (z := 4) (v := c2 41 4) c_160_91 kf_8_108 rfl (Nat.le_of_ble_eq_true rfl) rfl rfl rfl ?_)))))))
            refine v_ia (v := (B (c2 41 4))) c_160_94 rfl (by decide) (by decide) ⟨h_8.1, by first | (clear h_2 h_3 h_4 h_5 h_6 h_7 h_8 h_23 h_25 h_38 h_51; omega) | omega⟩ (hid kn_24) (v_iadd (v := (B (c2 41 4)) + 10 * v5) c_160_95 (by first | (clear h_1 h_2 h_3 h_4 h_5 h_6 h_7 h_8 h_10 h_23 h_25 h_38 h_51; omega) | omega) (v_bip c_160_96 (by decide) (v_isub (v := (B (c2 41 4)) + 10 * v5 - 48) c_160_98 rfl (q_istore c_160_99 (Nat.le_of_ble_eq_true rfl) (q_aload_n c_160_101 rfl (q_dup c_160_102 rfl (v_gi (z := 4) (v := c2 41 4) c_160_103 kf_8_108 rfl (Nat.le_of_ble_eq_true rfl) rfl rfl rfl ?_)))))))
            refine q_iconst c_160_106 (v_iadd (v := c2 41 4 + 1) c_160_107 rfl (v_pi (z := 4) c_160_108 kf_8_108 rfl (Nat.le_of_ble_eq_true rfl) rfl rfl rfl (by decide) (q_goto (t := 41) c_160_111 rfl ?_)))
            have hI_52 := iw_41_4 (v := c2 41 4 + 1) hI2 ⟨by first | exact rgp_l h_8.1 (by decide) | omega, by first | (clear h_2 h_3 h_4 h_5 h_6 h_7 h_8 h_23 h_25 h_38 h_51; omega) | omega⟩
            refine Wp_ls [(0, .ref 41), (1, vi a1), (2, vi a2), (4, vi r8), (5, vi ((B (c2 41 4)) + 10 * v5 - 48))] (lsub_cons rfl (lsub_cons rfl (lsub_cons rfl (lsub_cons rfl (lsub_cons rfl lsub_nil))))) ?_
            have hc9 := cp_or ((B (c2 41 4)) + 10 * u4 - 48)
            have hc8 : (cp ((B (c2 41 4)) + 10 * u4 - 48)) = cp (10 * u4 + (B (c2 41 4)) - 48) := congrArg cp (by omega)
            have h_53 : (up c2 41 4 (c2 41 4 + 1)) 41 5 = c2 41 5 := (up_n (by decide))
            have h_54 : (up c2 41 4 (c2 41 4 + 1)) 41 6 = c2 41 6 := (up_n (by decide))
            have h_55 : (up c2 41 4 (c2 41 4 + 1)) 41 4 = c2 41 4 + 1 := (up_e rfl)
            exact ih (up c2 41 4 (c2 41 4 + 1)) ((B (c2 41 4)) + 10 * v5 - 48) (cp ((B (c2 41 4)) + 10 * u4 - 48)) hI_52 (fun a j hm => (up_b (Decidable.or_iff_not_imp_left.mpr (fun h1 h2 => hm (Or.inl ⟨Decidable.not_not.mp h1, h2⟩)))).trans (hF a j hm)) ⟨by omega, by omega⟩ ⟨by omega, by omega⟩ (by rw [show (up c2 41 4 (c2 41 4 + 1)) 41 4 = c2 41 4 + 1 from (up_e rfl), hc8]; exact (dg_s (by omega)).symm.trans hx0) (by omega) (by omega) (by omega) (by omega) (by omega) (by omega) (by omega)
          · refine v_ic_le_f (t := 81) c_160_72 rfl ⟨by decide, (Int.not_le.mp h_51), (Int.le_trans hv5.2 (by decide))⟩ (v_sip c_160_75 (by decide) (q_goto (t := 99) c_160_78 rfl (q_istore c_160_99 (Nat.le_of_ble_eq_true rfl) (q_aload_n c_160_101 rfl (q_dup c_160_102 rfl (v_gi (z := 4) (v := c2 41 4) c_160_103 kf_8_108 rfl (Nat.le_of_ble_eq_true rfl) rfl rfl rfl (q_iconst c_160_106 ?_)))))))
            refine v_iadd (v := c2 41 4 + 1) c_160_107 rfl (v_pi (z := 4) c_160_108 kf_8_108 rfl (Nat.le_of_ble_eq_true rfl) rfl rfl rfl (by decide) (q_goto (t := 41) c_160_111 rfl ?_))
            have hI_56 := iw_41_4 (v := c2 41 4 + 1) hI2 ⟨by first | exact rgp_l h_8.1 (by decide) | omega, by first | (clear h_2 h_3 h_4 h_5 h_6 h_7 h_8 h_23 h_25 h_38 h_51; omega) | omega⟩
            refine Wp_ls [(0, .ref 41), (1, vi a1), (2, vi a2), (4, vi r8), (5, vi 10000)] (lsub_cons rfl (lsub_cons rfl (lsub_cons rfl (lsub_cons rfl (lsub_cons rfl lsub_nil))))) ?_
            have hc9 := cp_or ((B (c2 41 4)) + 10 * u4 - 48)
            have hc8 : (cp ((B (c2 41 4)) + 10 * u4 - 48)) = cp (10 * u4 + (B (c2 41 4)) - 48) := congrArg cp (by omega)
            have h_57 : (up c2 41 4 (c2 41 4 + 1)) 41 5 = c2 41 5 := (up_n (by decide))
            have h_58 : (up c2 41 4 (c2 41 4 + 1)) 41 6 = c2 41 6 := (up_n (by decide))
            have h_59 : (up c2 41 4 (c2 41 4 + 1)) 41 4 = c2 41 4 + 1 := (up_e rfl)
            exact ih (up c2 41 4 (c2 41 4 + 1)) 10000 (cp ((B (c2 41 4)) + 10 * u4 - 48)) hI_56 (fun a j hm => (up_b (Decidable.or_iff_not_imp_left.mpr (fun h1 h2 => hm (Or.inl ⟨Decidable.not_not.mp h1, h2⟩)))).trans (hF a j hm)) ⟨by omega, by omega⟩ ⟨by omega, by omega⟩ (by rw [show (up c2 41 4 (c2 41 4 + 1)) 41 4 = c2 41 4 + 1 from (up_e rfl), hc8]; exact (dg_s (by omega)).symm.trans hx0) (by omega) (by omega) (by omega) (by omega) (by omega) (by omega) (by omega)
set_option maxRecDepth 100000 in
set_option maxHeartbeats 4000000 in
theorem f_160 {sc : List Int32} {e : Int} {d u P Q : Nat} {c : ME} {e1 a9 f9 k9 r8 D8 V8 a1 a2 : Int} {B : Int → Int} {Z : AR → Prop} (hI : Iv u e P Q c) (ha1 : 0 ≤ a1 ∧ a1 ≤ 1) (ha2 : (-1) ≤ a2 ∧ a2 ≤ 9999) (hv0 : c 41 3 = e1) (hv1 : c 41 4 = a9) (hv2 : c 41 5 = f9) (hv3 : c 41 6 = k9) (hB : ∀ j : Int, c 43 j = B j) (hdr8 : nx B e1 a9 = r8) (hdD8 : (dg B e1 r8 0).1 = D8) (hdV8 : (dg B e1 r8 0).2 = V8) (K0 : ∀ c2 : ME, Iv u e P Q c2 → (∀ (a : Nat) (j : Int), ¬ ((a = 41 ∧ j = 4) ∨ (a = 41 ∧ j = 5) ∨ (a = 41 ∧ j = 6)) → c2 a j = c a j) → ((f9 ≠ (-1))) → (c2 41 4 = a9) → (c2 41 5 = f9) → (c2 41 6 = k9) → Z (.inl (some (vi 0)), Wd P Q P P c2, 0, 0)) (K1 : ∀ c2 : ME, Iv u e P Q c2 → (∀ (a : Nat) (j : Int), ¬ ((a = 41 ∧ j = 4) ∨ (a = 41 ∧ j = 5) ∨ (a = 41 ∧ j = 6)) → c2 a j = c a j) → ((f9 = (-1))) → ((r8 ≥ e1) ∨ ((B r8) < 48) ∨ ((B r8) > 57)) → (c2 41 4 = r8) → (c2 41 5 = r8) → (c2 41 6 = 1) → Z (.inl (some (vi 0)), Wd P Q P P c2, 0, 0)) (K2 : ∀ c2 : ME, Iv u e P Q c2 → (∀ (a : Nat) (j : Int), ¬ ((a = 41 ∧ j = 4) ∨ (a = 41 ∧ j = 5) ∨ (a = 41 ∧ j = 6)) → c2 a j = c a j) → ((f9 = (-1))) → ((r8 < e1 ∧ (B r8) ≥ 48 ∧ (B r8) ≤ 57)) → ((V8 < a1) ∨ (V8 > a2)) → (c2 41 4 = D8) → (c2 41 5 = r8) → (c2 41 6 = 2) → Z (.inl (some (vi 0)), Wd P Q P P c2, 0, 0)) (K3 : ∀ c2 : ME, Iv u e P Q c2 → (∀ (a : Nat) (j : Int), ¬ ((a = 41 ∧ j = 4) ∨ (a = 41 ∧ j = 5) ∨ (a = 41 ∧ j = 6)) → c2 a j = c a j) → ((f9 = (-1))) → ((r8 < e1 ∧ (B r8) ≥ 48 ∧ (B r8) ≤ 57)) → ((V8 ≥ a1)) → ((V8 ≤ a2)) → (c2 41 4 = D8) → (c2 41 5 = (-1)) → (c2 41 6 = k9) → Z (.inl (some (vi V8)), Wd P Q P P c2, 0, 0)) : Wp sc (d + 12) 160 0 [(0, .ref 41), (1, vi a1), (2, vi a2)] [] (Wd P Q P P c) 0 0 Z := by
  have hP := iv_P hI
  have hQ := iv_Q hI
  have h_60 := ir_41_3 hI
  have h_61 := ir_41_4 hI
  have h_62 := ir_41_5 hI
  have h_63 := ir_41_6 hI
  have hn1 := nx_bd (b := B) (e := e1) (a := a9)
  rw [hdr8] at hn1
  have hn2 := dg_bd (b := B) (e := e1) (a := r8) (v := 0) (by decide)
  rw [hdD8, hdV8] at hn2
  have hn3 := nx_n (b := B) (e := e1) (a := a9)
  rw [hdr8] at hn3
  have h_64 : -2147483648 ≤ (B r8) ∧ (B r8) ≤ 2147483647 := by rw [← hB r8]; exact ir_43 hI r8
  refine q_aload_n c_160_0 rfl (v_cv c_160_1 km_8_131 rfl rfl (Nat.le_of_ble_eq_true rfl) ⟨⟨rfl, rfl⟩, Nat.le_of_ble_eq_true rfl, rfl⟩ (Nat.le_of_ble_eq_true rfl) (Nat.le_of_ble_eq_true rfl) (q_aload_n c_152_0 rfl (v_gi (z := 5) (v := f9) c_152_1 kf_8_102 rfl (Nat.le_of_ble_eq_true rfl) rfl rfl (hv2) (q_iconst c_152_4 ?_))))
  by_cases h_65 : f9 ≠ (-1)
  · refine v_ic_ne_t (t := 12) c_152_5 rfl ⟨h_65, ⟨by first | (clear h_60 h_61 h_63 h_64; omega) | omega, by first | (clear h_60 h_61 h_63 h_64; omega) | omega⟩, by decide, by decide⟩ (q_iconst c_152_12 (v_zret c_152_13 rfl (by decide) (bk_inl (v_if_ne_f (t := 9) c_160_4 rfl (by decide) (q_iconst c_160_7 (q_iret c_160_8 rfl ?_))))))
    have h_66 : c 41 4 = a9 := (hv1)
    have h_67 : c 41 5 = f9 := (hv2)
    have h_68 : c 41 6 = k9 := (hv3)
    exact zv (by omega) (K0 c hI (fun a j hm => rfl) (by omega) (by omega) (by omega) (by omega))
  · refine v_ic_ne_f (t := 12) c_152_5 rfl (Decidable.not_not.mp h_65) (q_iconst c_152_8 (q_goto (t := 13) c_152_9 rfl (v_zret c_152_13 rfl (by decide) (bk_inl (v_if_ne_t (t := 9) c_160_4 rfl (by decide) (q_aload_n c_160_9 rfl ?_))))))
    have h_69 : -2147483648 ≤ (B a9) ∧ (B a9) ≤ 2147483647 := by rw [← hB a9]; exact ir_43 hI a9
    have h_70 := hb_or (b := B) (e := e1) (r := r8)
    have h_71 := hb_bd (b := B) (e := e1) (r := r8) (lo := -2147483648) (hi := 2147483647) h_64 (by decide)
    refine v_cv c_160_10 km_8_114 rfl rfl (Nat.le_of_ble_eq_true rfl) ⟨⟨rfl, rfl⟩, Nat.le_of_ble_eq_true rfl, rfl⟩ (Nat.le_of_ble_eq_true rfl) (Nat.le_of_ble_eq_true rfl) (f_154 (e1 := e1) (a9 := a9) (B := B) (r8 := r8) (r := (hb B e1 r8)) hI ((hv0)) ((hv1)) (fun j => hB j) hdr8 rfl (fun c_72 hI_73 hF_74 h_75 => (bk_inl (q_istore_n c_160_13 (Nat.le_of_ble_eq_true rfl) (q_aload_n c_160_14 rfl (v_gi (z := 4) (v := r8) c_160_15 kf_8_108 rfl (Nat.le_of_ble_eq_true rfl) rfl rfl (h_75) (q_istore c_160_18 (Nat.le_of_ble_eq_true rfl) (q_iconst c_160_20 (q_istore c_160_21 (Nat.le_of_ble_eq_true rfl) ?_)))))))))
    refine q_iload_n c_160_23 rfl (q_call c_160_24 rfl rfl rfl (q_iload_n c_156_0 rfl (v_bip c_156_1 (by decide) ?_)))
    by_cases h_76 : (hb B e1 r8) < 48
    · refine v_ic_lt_t (t := 16) c_156_3 rfl ⟨h_71.1, h_76, by decide⟩ (q_iconst c_156_16 (v_zret c_156_17 rfl (by decide) (bk_inl (v_if_ne_f (t := 41) c_160_27 rfl (by decide) (q_aload_n c_160_30 rfl (q_iconst c_160_31 (q_aload_n c_160_32 rfl ?_)))))))
      refine v_gi (z := 4) (v := r8) c_160_33 kf_8_108 rfl (Nat.le_of_ble_eq_true rfl) rfl rfl (h_75) (v_cv c_160_36 km_8_138 rfl rfl (Nat.le_of_ble_eq_true rfl) ⟨⟨rfl, rfl⟩, Nat.le_of_ble_eq_true rfl, rfl⟩ (Nat.le_of_ble_eq_true rfl) (Nat.le_of_ble_eq_true rfl) (q_aload_n c_153_0 rfl ?_))
      have kn_77 : Hid (c_72 41 5 = f9) := (hF_74 41 5 (fun h => absurd h.2 (ni rfl))).trans (hv2)
      refine v_gi (z := 5) (v := f9) c_153_1 kf_8_102 rfl (Nat.le_of_ble_eq_true rfl) rfl rfl (hid kn_77) (q_iconst c_153_4 (v_ic_eq_t (t := 9) c_153_5 rfl (by first | exact q_324f7a7fb h_65 | (clear h_60 h_61 h_62 h_63 h_64 h_69 h_71 h_76 h_70; omega) | omega) (q_aload_n c_153_9 rfl (q_iload_n c_153_10 rfl (v_pi (z := 5) c_153_11 kf_8_102 rfl (Nat.le_of_ble_eq_true rfl) rfl rfl rfl (by decide) (q_aload_n c_153_14 rfl (q_iload_n c_153_15 rfl ?_)))))))
      refine v_pi (z := 6) c_153_16 kf_8_105 rfl (Nat.le_of_ble_eq_true rfl) rfl rfl rfl (by decide) (q_vret rfl rfl (bk_inl (q_iconst c_160_39 (q_iret c_160_40 rfl ?_))))
      have hI_78 := iw_41_5 (v := r8) hI_73 ⟨by first | (clear h_60 h_62 h_63 h_64 h_65 h_69 h_71 h_76 h_70; omega) | omega, by omega⟩
      have hI_79 := iw_41_6 (v := 1) hI_78 ⟨by decide, by decide⟩
      have h_80 : (up (up c_72 41 5 r8) 41 6 1) 41 4 = r8 := ((up_n (by decide)).trans ((up_n (by decide)).trans (h_75)))
      have h_81 : (up (up c_72 41 5 r8) 41 6 1) 41 5 = r8 := ((up_n (by decide)).trans (up_e rfl))
      have h_82 : (up (up c_72 41 5 r8) 41 6 1) 41 6 = 1 := (up_e rfl)
      exact zv (by omega) (K1 (up (up c_72 41 5 r8) 41 6 1) hI_79 (fun a j hm => (up_b (Decidable.or_iff_not_imp_left.mpr (fun h1 h2 => hm (Or.inr (Or.inr ⟨Decidable.not_not.mp h1, h2⟩))))).trans ((up_b (Decidable.or_iff_not_imp_left.mpr (fun h1 h2 => hm (Or.inr (Or.inl ⟨Decidable.not_not.mp h1, h2⟩))))).trans (hF_74 a j (fun h => hm (Or.inl h))))) (by omega) (by omega) (by omega) (by omega) (by omega))
    · refine v_ic_lt_f (t := 16) c_156_3 rfl ⟨by decide, (Int.not_lt.mp h_76), h_71.2⟩ (q_iload_n c_156_6 rfl (v_bip c_156_7 (by decide) ?_))
      by_cases h_83 : (hb B e1 r8) > 57
      · refine v_ic_gt_t (t := 16) c_156_9 rfl ⟨by decide, h_83, h_71.2⟩ (q_iconst c_156_16 (v_zret c_156_17 rfl (by decide) (bk_inl (v_if_ne_f (t := 41) c_160_27 rfl (by decide) (q_aload_n c_160_30 rfl (q_iconst c_160_31 (q_aload_n c_160_32 rfl ?_)))))))
        refine v_gi (z := 4) (v := r8) c_160_33 kf_8_108 rfl (Nat.le_of_ble_eq_true rfl) rfl rfl (h_75) (v_cv c_160_36 km_8_138 rfl rfl (Nat.le_of_ble_eq_true rfl) ⟨⟨rfl, rfl⟩, Nat.le_of_ble_eq_true rfl, rfl⟩ (Nat.le_of_ble_eq_true rfl) (Nat.le_of_ble_eq_true rfl) (q_aload_n c_153_0 rfl ?_))
        have kn_84 : Hid (c_72 41 5 = f9) := (hF_74 41 5 (fun h => absurd h.2 (ni rfl))).trans (hv2)
        refine v_gi (z := 5) (v := f9) c_153_1 kf_8_102 rfl (Nat.le_of_ble_eq_true rfl) rfl rfl (hid kn_84) (q_iconst c_153_4 (v_ic_eq_t (t := 9) c_153_5 rfl (by first | exact q_324f7a7fb h_65 | (clear h_60 h_61 h_62 h_63 h_64 h_69 h_71 h_76 h_83 h_70; omega) | omega) (q_aload_n c_153_9 rfl (q_iload_n c_153_10 rfl (v_pi (z := 5) c_153_11 kf_8_102 rfl (Nat.le_of_ble_eq_true rfl) rfl rfl rfl (by decide) (q_aload_n c_153_14 rfl (q_iload_n c_153_15 rfl ?_)))))))
        refine v_pi (z := 6) c_153_16 kf_8_105 rfl (Nat.le_of_ble_eq_true rfl) rfl rfl rfl (by decide) (q_vret rfl rfl (bk_inl (q_iconst c_160_39 (q_iret c_160_40 rfl ?_))))
        have hI_85 := iw_41_5 (v := r8) hI_73 ⟨by first | (clear h_60 h_62 h_63 h_64 h_65 h_69 h_71 h_76 h_83 h_70; omega) | omega, by first | (clear h_61 h_62 h_63 h_64 h_65 h_69 h_71 h_76; omega) | omega⟩
        have hI_86 := iw_41_6 (v := 1) hI_85 ⟨by decide, by decide⟩
        have h_87 : (up (up c_72 41 5 r8) 41 6 1) 41 4 = r8 := ((up_n (by decide)).trans ((up_n (by decide)).trans (h_75)))
        have h_88 : (up (up c_72 41 5 r8) 41 6 1) 41 5 = r8 := ((up_n (by decide)).trans (up_e rfl))
        have h_89 : (up (up c_72 41 5 r8) 41 6 1) 41 6 = 1 := (up_e rfl)
        exact zv (by omega) (K1 (up (up c_72 41 5 r8) 41 6 1) hI_86 (fun a j hm => (up_b (Decidable.or_iff_not_imp_left.mpr (fun h1 h2 => hm (Or.inr (Or.inr ⟨Decidable.not_not.mp h1, h2⟩))))).trans ((up_b (Decidable.or_iff_not_imp_left.mpr (fun h1 h2 => hm (Or.inr (Or.inl ⟨Decidable.not_not.mp h1, h2⟩))))).trans (hF_74 a j (fun h => hm (Or.inl h))))) (by omega) (by omega) (by omega) (by omega) (by omega))
      · refine v_ic_gt_f (t := 16) c_156_9 rfl ⟨h_71.1, (Int.not_lt.mp h_83), by decide⟩ (q_iconst c_156_12 (q_goto (t := 17) c_156_13 rfl (v_zret c_156_17 rfl (by decide) (bk_inl (v_if_ne_t (t := 41) c_160_27 rfl (by decide) (Wp_ls [(0, .ref 41), (1, vi a1), (2, vi a2), (4, vi r8), (5, vi 0)] (lsub_cons rfl (lsub_cons rfl (lsub_cons rfl (lsub_cons rfl (lsub_cons rfl lsub_nil))))) ?_))))))
        have kn_90 : Hid (c_72 41 5 = f9) := (hF_74 41 5 (fun h => absurd h.2 (ni rfl))).trans (hv2)
        have h_91 : c_72 41 5 = f9 := (hid kn_90)
        have kn_92 : Hid (c_72 41 6 = k9) := (hF_74 41 6 (fun h => absurd h.2 (ni rfl))).trans (hv3)
        have h_93 : c_72 41 6 = k9 := (hid kn_92)
        have h_94 : c_72 41 4 = r8 := (h_75)
        exact (f_160_l (sc := sc) (d := d) hI ha1 ha2 hv0 hv1 hv2 hv3 hB hdr8 hdD8 hdV8 K0 K1 K2 K3 606) c_72 0 0 hI_73 (fun a j hm => hF_74 a j (fun h => hm (Or.inl h))) ⟨by omega, by omega⟩ ⟨by omega, by omega⟩ (by rw [show c_72 41 4 = r8 from (h_75)]) (by omega) (by omega) (by omega) (by omega) (by omega) (by omega) (by omega)

set_option maxRecDepth 100000 in
set_option maxHeartbeats 4000000 in
theorem f_157_l {sc : List Int32} {e : Int} {d u P Q : Nat} {c : ME} {e1 a9 r8 L8 W8 : Int} {B : Int → Int} {Z : AR → Prop} (hI : Iv u e P Q c) (hv0 : c 41 3 = e1) (hv1 : c 41 4 = a9) (hB : ∀ j : Int, c 43 j = B j) (hdr8 : nx B e1 a9 = r8) (hdL8 : ln B e1 r8 = L8) (hdW8 : wv B r8 L8 = W8) (K0 : ∀ c2 : ME, Iv u e P Q c2 → (∀ (a : Nat) (j : Int), ¬ ((a = 41 ∧ j = 4)) → c2 a j = c a j) → (c2 41 4 = r8) → Z (.inl (some (vi W8)), Wd P Q P P c2, 0, 0)) : ∀ n : Nat, (∀ (c2 : ME) (v1 : Int) (v2 : Int) (v3 : Int), Iv u e P Q c2 → (∀ (a : Nat) (j : Int), ¬ ((a = 41 ∧ j = 4)) → c2 a j = c a j) → 0 ≤ v1 ∧ v1 ≤ 1073741823 → 0 ≤ v2 ∧ v2 ≤ 605 → 0 ≤ v3 ∧ v3 ≤ 605 → (ln B e1 v3 = L8) → ((v3 = r8 + v2)) → (v1 = if v2 ≤ 6 then pv B r8 v2.toNat else 0) → ((c2 41 4 = r8)) → 605 - v3 < (n : Int) → Wp sc (d + 12) 157 14 [(0, .ref 41), (1, vi v1), (2, vi v2), (3, vi v3)] [] (Wd P Q P P c2) 0 0 Z)
  | 0 => by intro c2 v1 v2 v3 hI2 hF hv1 hv2 hv3 hx0 hx1 hx2 hx3 hm9; have hP := iv_P hI; have hQ := iv_Q hI; have h_1 := ir_41_3 hI; have h_2 := ir_41_4 hI; have h_3 := ir_41_4 hI2; exfalso; omega
  | n + 1 => by
    have hP := iv_P hI
    have hQ := iv_Q hI
    have ih := f_157_l (sc := sc) (d := d) hI hv0 hv1 hB hdr8 hdL8 hdW8 K0 n
    intro c2 v1 v2 v3 hI2 hF hv1 hv2 hv3 hx0 hx1 hx2 hx3 hm9
    have h_1 := ir_41_3 hI
    have h_2 := ir_41_4 hI
    have hn1 := nx_bd (b := B) (e := e1) (a := a9)
    rw [hdr8] at hn1
    have hn2 := ln_bd (b := B) (e := e1) (a := r8)
    rw [hdL8] at hn2
    have hw1 : 0 ≤ W8 ∧ W8 ≤ 1073741823 := by rw [← hdW8]; exact wv_bd (fun j h1 h2 => ⟨(ln_in (e := e1) (a := r8) h1 (by omega)).1, (ln_in (e := e1) (a := r8) h1 (by omega)).2.1⟩)
    have hn3 := ln_bd (b := B) (e := e1) (a := v3)
    rw [hx0] at hn3
    have hp1 := pv_bd (b := B) (r := r8) v2.toNat (fun j h1 h2 => ⟨(ln_in (e := e1) (a := r8) h1 (by omega)).1, (ln_in (e := e1) (a := r8) h1 (by omega)).2.1⟩)
    have hp2 : v2 ≤ 6 → v1 = pv B r8 v2.toNat := fun q => hx2.trans (if_pos q)
    have hp3 : ¬ v2 ≤ 6 → v1 = 0 := fun q => hx2.trans (if_neg q)
    have hp4 : v2 ≤ 5 → v1 ≤ 33554431 := fun q => by have := hp1.2.2.2.2.2.1 (by omega); have := hp2 (by omega); omega
    have h_3 := ir_41_4 hI2
    refine q_iload_n c_157_14 rfl (q_aload_n c_157_15 rfl ?_)
    have kn_4 : Hid (c2 41 3 = e1) := (hF 41 3 (fun h => absurd h.2 (ni rfl))).trans (hv0)
    refine v_gi (z := 3) (v := e1) c_157_16 kf_8_111 rfl (Nat.le_of_ble_eq_true rfl) rfl rfl (hid kn_4) ?_
    by_cases h_5 : v3 ≥ e1
    · refine v_ic_ge_t (t := 67) c_157_19 rfl ⟨by first | (clear h_2 hw1 hp4 h_3; omega) | omega, h_5, (Int.le_trans hv3.2 (by decide))⟩ (q_iload_n c_157_67 rfl (v_bip c_157_68 (by decide) ?_))
      by_cases h_6 : v2 ≤ 6
      · refine v_ic_le_t (t := 77) c_157_70 rfl ⟨(Int.le_trans (by decide) hv2.1), h_6, by decide⟩ (q_iload_n c_157_77 rfl (q_iret c_157_78 rfl ?_))
        have hz8 : ln B e1 v3 = v3 := ln_z (by omega)
        have hz9 : v3 = L8 := hz8.symm.trans hx0
        have hw9 : W8 = v1 := by rw [← hdW8]; unfold wv; rw [if_pos (by omega), show (L8 - r8).toNat = v2.toNat by omega]; exact (hp2 (by omega)).symm
        exact zv (by omega) (K0 c2 hI2 (fun a j hm => hF a j hm) (by omega))
      · refine v_ic_le_f (t := 77) c_157_70 rfl ⟨by decide, (Int.not_le.mp h_6), (Int.le_trans hv2.2 (by decide))⟩ (q_iconst c_157_73 (q_goto (t := 78) c_157_74 rfl (q_iret c_157_78 rfl ?_)))
        have hz8 : ln B e1 v3 = v3 := ln_z (by omega)
        have hz9 : v3 = L8 := hz8.symm.trans hx0
        have hw9 : W8 = 0 := by rw [← hdW8]; unfold wv; exact if_neg (by omega)
        exact zv (by omega) (K0 c2 hI2 (fun a j hm => hF a j hm) (by omega))
    · refine v_ic_ge_f (t := 67) c_157_19 rfl ⟨(Int.le_trans (by decide) hv3.1), (Int.not_le.mp h_5), by first | (clear h_2 hw1 hp4 h_3; omega) | omega⟩ (q_aload_n c_157_22 rfl (v_gr (t := 43) c_157_23 kf_8_20 rfl (Nat.le_of_ble_eq_true rfl) rfl (q_iload_n c_157_26 rfl ?_)))
      have h_7 : -2147483648 ≤ (B v3) ∧ (B v3) ≤ 2147483647 := by rw [← hB v3]; exact ir_43 hI v3
      have kn_8 : Hid (c2 43 v3 = (B v3)) := (hF 43 v3 (fun h => absurd h.1 (nn rfl))).trans (hB v3)
      refine v_ia (v := (B v3)) c_157_27 rfl (by decide) (by decide) ⟨hv3.1, by first | (clear h_2 hw1 hp4 h_3 h_7; omega) | omega⟩ (hid kn_8) (q_call c_157_28 rfl rfl rfl (q_iload_n c_155_0 rfl (v_bip c_155_1 (by decide) ?_)))
      by_cases h_9 : (B v3) < 97
      · refine v_ic_lt_t (t := 16) c_155_3 rfl ⟨by first | exact q_f97c35332 h_7 | (clear h_1 h_2 hw1 hp4 h_3 h_5; omega) | omega, h_9, by decide⟩ (q_iconst c_155_16 (v_zret c_155_17 rfl (by decide) (bk_inl (v_if_eq_t (t := 67) c_157_31 rfl (by decide) (q_iload_n c_157_67 rfl (v_bip c_157_68 (by decide) ?_))))))
        by_cases h_10 : v2 ≤ 6
        · refine v_ic_le_t (t := 77) c_157_70 rfl ⟨(Int.le_trans (by decide) hv2.1), h_10, by decide⟩ (q_iload_n c_157_77 rfl (q_iret c_157_78 rfl ?_))
          have hz8 : ln B e1 v3 = v3 := ln_z (by omega)
          have hz9 : v3 = L8 := hz8.symm.trans hx0
          have hw9 : W8 = v1 := by rw [← hdW8]; unfold wv; rw [if_pos (by omega), show (L8 - r8).toNat = v2.toNat by omega]; exact (hp2 (by omega)).symm
          exact zv (by omega) (K0 c2 hI2 (fun a j hm => hF a j hm) (by omega))
        · refine v_ic_le_f (t := 77) c_157_70 rfl ⟨by decide, (Int.not_le.mp h_10), (Int.le_trans hv2.2 (by decide))⟩ (q_iconst c_157_73 (q_goto (t := 78) c_157_74 rfl (q_iret c_157_78 rfl ?_)))
          have hz8 : ln B e1 v3 = v3 := ln_z (by omega)
          have hz9 : v3 = L8 := hz8.symm.trans hx0
          have hw9 : W8 = 0 := by rw [← hdW8]; unfold wv; exact if_neg (by omega)
          exact zv (by omega) (K0 c2 hI2 (fun a j hm => hF a j hm) (by omega))
      · refine v_ic_lt_f (t := 16) c_155_3 rfl ⟨by decide, (Int.not_lt.mp h_9), by first | exact q_79e53d295 h_7 | (clear h_1 h_2 hw1 hp4 h_3 h_5; omega) | omega⟩ (q_iload_n c_155_6 rfl (v_bip c_155_7 (by decide) ?_))
        by_cases h_11 : (B v3) > 122
        · refine v_ic_gt_t (t := 16) c_155_9 rfl ⟨by decide, h_11, by first | exact q_79e53d295 h_7 | (clear h_1 h_2 hw1 hp4 h_3 h_5 h_9; omega) | omega⟩ (q_iconst c_155_16 (v_zret c_155_17 rfl (by decide) (bk_inl (v_if_eq_t (t := 67) c_157_31 rfl (by decide) (q_iload_n c_157_67 rfl (v_bip c_157_68 (by decide) ?_))))))
          by_cases h_12 : v2 ≤ 6
          · refine v_ic_le_t (t := 77) c_157_70 rfl ⟨(Int.le_trans (by decide) hv2.1), h_12, by decide⟩ (q_iload_n c_157_77 rfl (q_iret c_157_78 rfl ?_))
            have hz8 : ln B e1 v3 = v3 := ln_z (by omega)
            have hz9 : v3 = L8 := hz8.symm.trans hx0
            have hw9 : W8 = v1 := by rw [← hdW8]; unfold wv; rw [if_pos (by omega), show (L8 - r8).toNat = v2.toNat by omega]; exact (hp2 (by omega)).symm
            exact zv (by omega) (K0 c2 hI2 (fun a j hm => hF a j hm) (by omega))
          · refine v_ic_le_f (t := 77) c_157_70 rfl ⟨by decide, (Int.not_le.mp h_12), (Int.le_trans hv2.2 (by decide))⟩ (q_iconst c_157_73 (q_goto (t := 78) c_157_74 rfl (q_iret c_157_78 rfl ?_)))
            have hz8 : ln B e1 v3 = v3 := ln_z (by omega)
            have hz9 : v3 = L8 := hz8.symm.trans hx0
            have hw9 : W8 = 0 := by rw [← hdW8]; unfold wv; exact if_neg (by omega)
            exact zv (by omega) (K0 c2 hI2 (fun a j hm => hF a j hm) (by omega))
        · refine v_ic_gt_f (t := 16) c_155_9 rfl ⟨by first | exact q_831bb82af h_9 | (clear h_1 h_2 hw1 hp4 h_3 h_5 h_7; omega) | omega, (Int.not_lt.mp h_11), by decide⟩ (q_iconst c_155_12 (q_goto (t := 17) c_155_13 rfl (v_zret c_155_17 rfl (by decide) (bk_inl (v_if_eq_f (t := 67) c_157_31 rfl (by decide) (q_iload_n c_157_34 rfl (v_bip c_157_35 (by decide) ?_)))))))
          by_cases h_13 : v2 ≥ 6
          · refine v_ic_ge_t (t := 56) c_157_37 rfl ⟨by decide, h_13, (Int.le_trans hv2.2 (by decide))⟩ (q_iconst c_157_56 (q_istore_n c_157_57 (Nat.le_of_ble_eq_true rfl) (v_iinc (v := v2 + 1) c_157_58 rfl (Nat.le_of_ble_eq_true rfl) rfl (v_iinc (v := v3 + 1) c_157_61 rfl (Nat.le_of_ble_eq_true rfl) rfl (q_goto (t := 14) c_157_64 rfl (Wp_ls [(0, .ref 41), (1, vi 0), (2, vi (v2 + 1)), (3, vi (v3 + 1))] (lsub_cons rfl (lsub_cons rfl (lsub_cons rfl (lsub_cons rfl lsub_nil)))) ?_))))))
            exact ih c2 0 (v2 + 1) (v3 + 1) hI2 (fun a j hm => hF a j hm) ⟨by omega, by omega⟩ ⟨by omega, by omega⟩ ⟨by omega, by omega⟩ ((ln_s (by omega)).symm.trans hx0) (by omega) (if_neg (by omega)).symm (by omega) (by omega)
          · refine v_ic_ge_f (t := 56) c_157_37 rfl ⟨(Int.le_trans (by decide) hv2.1), (Int.not_le.mp h_13), by decide⟩ (q_iload_n c_157_40 rfl (q_iconst c_157_41 (v_shl5 (v := 32 * v1) c_157_42 (by omega) (q_aload_n c_157_43 rfl (v_gr (t := 43) c_157_44 kf_8_20 rfl (Nat.le_of_ble_eq_true rfl) rfl (q_iload_n c_157_47 rfl (v_ia (v := (B v3)) c_157_48 rfl (by decide) (by decide) ⟨hv3.1, by first | (clear h_2 hw1 hp4 h_3 h_7 h_9 h_11 h_13; omega) | omega⟩ (hid kn_8) ?_)))))))
            refine v_bip c_157_49 (by decide) (v_isub (v := (B v3) - 96) c_157_51 rfl (v_or5 (m := v1) (v := (B v3) + 32 * v1 - 96) c_157_52 (by omega) ⟨by omega, by omega, by omega, by omega⟩ (by omega) (q_goto (t := 57) c_157_53 rfl (q_istore_n c_157_57 (Nat.le_of_ble_eq_true rfl) (v_iinc (v := v2 + 1) c_157_58 rfl (Nat.le_of_ble_eq_true rfl) rfl (v_iinc (v := v3 + 1) c_157_61 rfl (Nat.le_of_ble_eq_true rfl) rfl (q_goto (t := 14) c_157_64 rfl ?_)))))))
            refine Wp_ls [(0, .ref 41), (1, vi ((B v3) + 32 * v1 - 96)), (2, vi (v2 + 1)), (3, vi (v3 + 1))] (lsub_cons rfl (lsub_cons rfl (lsub_cons rfl (lsub_cons rfl lsub_nil)))) ?_
            exact ih c2 ((B v3) + 32 * v1 - 96) (v2 + 1) (v3 + 1) hI2 (fun a j hm => hF a j hm) ⟨by omega, by omega⟩ ⟨by omega, by omega⟩ ⟨by omega, by omega⟩ ((ln_s (by omega)).symm.trans hx0) (by omega) (by rw [if_pos (by omega), show (v2 + 1).toNat = v2.toNat + 1 by omega]; show _ = 32 * pv B r8 v2.toNat + (B (r8 + (v2.toNat : Int)) - 96); rw [show r8 + (v2.toNat : Int) = v3 by omega, ← hp2 (by omega)]; omega) (by omega) (by omega)
set_option maxRecDepth 100000 in
set_option maxHeartbeats 4000000 in
theorem f_157 {sc : List Int32} {e : Int} {d u P Q : Nat} {c : ME} {e1 a9 r8 L8 W8 : Int} {B : Int → Int} {Z : AR → Prop} (hI : Iv u e P Q c) (hv0 : c 41 3 = e1) (hv1 : c 41 4 = a9) (hB : ∀ j : Int, c 43 j = B j) (hdr8 : nx B e1 a9 = r8) (hdL8 : ln B e1 r8 = L8) (hdW8 : wv B r8 L8 = W8) (K0 : ∀ c2 : ME, Iv u e P Q c2 → (∀ (a : Nat) (j : Int), ¬ ((a = 41 ∧ j = 4)) → c2 a j = c a j) → (c2 41 4 = r8) → Z (.inl (some (vi W8)), Wd P Q P P c2, 0, 0)) : Wp sc (d + 12) 157 0 [(0, .ref 41)] [] (Wd P Q P P c) 0 0 Z := by
  have hP := iv_P hI
  have hQ := iv_Q hI
  have h_14 := ir_41_3 hI
  have h_15 := ir_41_4 hI
  have hn1 := nx_bd (b := B) (e := e1) (a := a9)
  rw [hdr8] at hn1
  have hn2 := ln_bd (b := B) (e := e1) (a := r8)
  rw [hdL8] at hn2
  have hw1 : 0 ≤ W8 ∧ W8 ≤ 1073741823 := by rw [← hdW8]; exact wv_bd (fun j h1 h2 => ⟨(ln_in (e := e1) (a := r8) h1 (by omega)).1, (ln_in (e := e1) (a := r8) h1 (by omega)).2.1⟩)
  refine q_aload_n c_157_0 rfl ?_
  have h_16 : -2147483648 ≤ (B a9) ∧ (B a9) ≤ 2147483647 := by rw [← hB a9]; exact ir_43 hI a9
  have h_17 : -2147483648 ≤ (B r8) ∧ (B r8) ≤ 2147483647 := by rw [← hB r8]; exact ir_43 hI r8
  have h_18 := hb_or (b := B) (e := e1) (r := r8)
  have h_19 := hb_bd (b := B) (e := e1) (r := r8) (lo := -2147483648) (hi := 2147483647) h_17 (by decide)
  refine v_cv c_157_1 km_8_114 rfl rfl (Nat.le_of_ble_eq_true rfl) ⟨⟨rfl, rfl⟩, Nat.le_of_ble_eq_true rfl, rfl⟩ (Nat.le_of_ble_eq_true rfl) (Nat.le_of_ble_eq_true rfl) (f_154 (e1 := e1) (a9 := a9) (B := B) (r8 := r8) (r := (hb B e1 r8)) hI ((hv0)) ((hv1)) (fun j => hB j) hdr8 rfl (fun c_20 hI_21 hF_22 h_23 => (bk_inl (q_pop c_157_4 rfl (q_iconst c_157_5 (q_istore_n c_157_6 (Nat.le_of_ble_eq_true rfl) (q_iconst c_157_7 (q_istore_n c_157_8 (Nat.le_of_ble_eq_true rfl) (q_aload_n c_157_9 rfl ?_)))))))))
  refine v_gi (z := 4) (v := r8) c_157_10 kf_8_108 rfl (Nat.le_of_ble_eq_true rfl) rfl rfl (h_23) (q_istore_n c_157_13 (Nat.le_of_ble_eq_true rfl) (Wp_ls [(0, .ref 41), (1, vi 0), (2, vi 0), (3, vi r8)] (lsub_cons rfl (lsub_cons rfl (lsub_cons rfl (lsub_cons rfl lsub_nil)))) ?_))
  have h_24 : c_20 41 4 = r8 := (h_23)
  exact (f_157_l (sc := sc) (d := d) hI hv0 hv1 hB hdr8 hdL8 hdW8 K0 606) c_20 0 0 r8 hI_21 (fun a j hm => hF_22 a j hm) ⟨by omega, by omega⟩ ⟨by omega, by omega⟩ ⟨by omega, by omega⟩ hdL8 (by omega) (show (0 : Int) = if (0 : Int) ≤ 6 then pv B r8 (0 : Int).toNat else 0 from rfl) (by omega) (by omega)

set_option maxRecDepth 100000 in
set_option maxHeartbeats 4000000 in
theorem f_159_l {sc : List Int32} {e : Int} {d u P Q : Nat} {c : ME} {e1 a9 L8 : Int} {B : Int → Int} {Z : AR → Prop} (hI : Iv u e P Q c) (hv0 : c 41 3 = e1) (hv1 : c 41 4 = a9) (hB : ∀ j : Int, c 43 j = B j) (hdL8 : ln B e1 a9 = L8) (K0 : ∀ c2 : ME, Iv u e P Q c2 → (∀ (a : Nat) (j : Int), ¬ ((a = 41 ∧ j = 4)) → c2 a j = c a j) → (c2 41 4 = L8) → Z (.inl (none), Wd P Q P P c2, 0, 0)) : ∀ n : Nat, (∀ (c2 : ME), Iv u e P Q c2 → (∀ (a : Nat) (j : Int), ¬ ((a = 41 ∧ j = 4)) → c2 a j = c a j) → (ln B e1 (c2 41 4) = L8) → 605 - c2 41 4 < (n : Int) → Wp sc (d + 9) 159 0 [(0, .ref 41)] [] (Wd P Q P P c2) 0 0 Z)
  | 0 => by intro c2 hI2 hF hx0 hm9; have hP := iv_P hI; have hQ := iv_Q hI; have h_1 := ir_41_3 hI; have h_2 := ir_41_4 hI; have h_3 := ir_41_4 hI2; exfalso; omega
  | n + 1 => by
    have hP := iv_P hI
    have hQ := iv_Q hI
    have ih := f_159_l (sc := sc) (d := d) hI hv0 hv1 hB hdL8 K0 n
    intro c2 hI2 hF hx0 hm9
    have h_1 := ir_41_3 hI
    have h_2 := ir_41_4 hI
    have h_3 := ir_41_4 hI2
    refine q_aload_n c_159_0 rfl (v_gi (z := 4) (v := c2 41 4) c_159_1 kf_8_108 rfl (Nat.le_of_ble_eq_true rfl) rfl rfl rfl (q_aload_n c_159_4 rfl ?_))
    have kn_4 : Hid (c2 41 3 = e1) := (hF 41 3 (fun h => absurd h.2 (ni rfl))).trans (hv0)
    refine v_gi (z := 3) (v := e1) c_159_5 kf_8_111 rfl (Nat.le_of_ble_eq_true rfl) rfl rfl (hid kn_4) ?_
    by_cases h_5 : c2 41 4 ≥ e1
    · refine v_ic_ge_t (t := 39) c_159_8 rfl ⟨by omega, h_5, (Int.le_trans h_3.2 (by decide))⟩ (q_vret rfl rfl ?_)
      have hz8 : ln B e1 (c2 41 4) = c2 41 4 := ln_z (by omega)
      have hz9 : L8 = c2 41 4 := hx0.symm.trans hz8
      exact K0 c2 hI2 (fun a j hm => hF a j hm) (by omega)
    · refine v_ic_ge_f (t := 39) c_159_8 rfl ⟨(Int.le_trans (by decide) h_3.1), (Int.not_le.mp h_5), by omega⟩ (q_aload_n c_159_11 rfl (v_gr (t := 43) c_159_12 kf_8_20 rfl (Nat.le_of_ble_eq_true rfl) rfl (q_aload_n c_159_15 rfl (v_gi (z := 4) (v := c2 41 4) c_159_16 kf_8_108 rfl (Nat.le_of_ble_eq_true rfl) rfl rfl rfl ?_))))
      have h_6 : -2147483648 ≤ (B (c2 41 4)) ∧ (B (c2 41 4)) ≤ 2147483647 := by rw [← hB (c2 41 4)]; exact ir_43 hI (c2 41 4)
      have kn_7 : Hid (c2 43 (c2 41 4) = (B (c2 41 4))) := (hF 43 (c2 41 4) (fun h => absurd h.1 (nn rfl))).trans (hB (c2 41 4))
      refine v_ia (v := (B (c2 41 4))) c_159_19 rfl (by decide) (by decide) ⟨h_3.1, by omega⟩ (hid kn_7) (q_call c_159_20 rfl rfl rfl (q_iload_n c_155_0 rfl (v_bip c_155_1 (by decide) ?_)))
      by_cases h_8 : (B (c2 41 4)) < 97
      · refine v_ic_lt_t (t := 16) c_155_3 rfl ⟨by first | exact q_f97c35332 h_6 | omega, h_8, by decide⟩ (q_iconst c_155_16 (v_zret c_155_17 rfl (by decide) (bk_inl (v_if_eq_t (t := 39) c_159_23 rfl (by decide) (q_vret rfl rfl ?_)))))
        have hz8 : ln B e1 (c2 41 4) = c2 41 4 := ln_z (by omega)
        have hz9 : L8 = c2 41 4 := hx0.symm.trans hz8
        exact K0 c2 hI2 (fun a j hm => hF a j hm) (by omega)
      · refine v_ic_lt_f (t := 16) c_155_3 rfl ⟨by decide, (Int.not_lt.mp h_8), by first | exact q_79e53d295 h_6 | omega⟩ (q_iload_n c_155_6 rfl (v_bip c_155_7 (by decide) ?_))
        by_cases h_9 : (B (c2 41 4)) > 122
        · refine v_ic_gt_t (t := 16) c_155_9 rfl ⟨by decide, h_9, by first | exact q_79e53d295 h_6 | omega⟩ (q_iconst c_155_16 (v_zret c_155_17 rfl (by decide) (bk_inl (v_if_eq_t (t := 39) c_159_23 rfl (by decide) (q_vret rfl rfl ?_)))))
          have hz8 : ln B e1 (c2 41 4) = c2 41 4 := ln_z (by omega)
          have hz9 : L8 = c2 41 4 := hx0.symm.trans hz8
          exact K0 c2 hI2 (fun a j hm => hF a j hm) (by omega)
        · refine v_ic_gt_f (t := 16) c_155_9 rfl ⟨by first | exact q_831bb82af h_8 | omega, (Int.not_lt.mp h_9), by decide⟩ (q_iconst c_155_12 (q_goto (t := 17) c_155_13 rfl (v_zret c_155_17 rfl (by decide) (bk_inl (v_if_eq_f (t := 39) c_159_23 rfl (by decide) (q_aload_n c_159_26 rfl (q_dup c_159_27 rfl ?_)))))))
          refine v_gi (z := 4) (v := c2 41 4) c_159_28 kf_8_108 rfl (Nat.le_of_ble_eq_true rfl) rfl rfl rfl (q_iconst c_159_31 (v_iadd (v := c2 41 4 + 1) c_159_32 rfl (v_pi (z := 4) c_159_33 kf_8_108 rfl (Nat.le_of_ble_eq_true rfl) rfl rfl rfl (by decide) (q_goto (t := 0) c_159_36 rfl ?_))))
          have hI_10 := iw_41_4 (v := c2 41 4 + 1) hI2 ⟨by first | exact rgp_l h_3.1 (by decide) | omega, by omega⟩
          refine Wp_ls [(0, .ref 41)] (lsub_cons rfl lsub_nil) ?_
          have h_11 : (up c2 41 4 (c2 41 4 + 1)) 41 4 = c2 41 4 + 1 := (up_e rfl)
          exact ih (up c2 41 4 (c2 41 4 + 1)) hI_10 (fun a j hm => (up_b (Decidable.or_iff_not_imp_left.mpr (fun h1 h2 => hm ⟨Decidable.not_not.mp h1, h2⟩))).trans (hF a j hm)) (by rw [show (up c2 41 4 (c2 41 4 + 1)) 41 4 = c2 41 4 + 1 from (up_e rfl)]; exact (ln_s (by omega)).symm.trans hx0) (by omega)
set_option maxRecDepth 100000 in
set_option maxHeartbeats 4000000 in
theorem f_159 {sc : List Int32} {e : Int} {d u P Q : Nat} {c : ME} {e1 a9 L8 : Int} {B : Int → Int} {Z : AR → Prop} (hI : Iv u e P Q c) (hv0 : c 41 3 = e1) (hv1 : c 41 4 = a9) (hB : ∀ j : Int, c 43 j = B j) (hdL8 : ln B e1 a9 = L8) (K0 : ∀ c2 : ME, Iv u e P Q c2 → (∀ (a : Nat) (j : Int), ¬ ((a = 41 ∧ j = 4)) → c2 a j = c a j) → (c2 41 4 = L8) → Z (.inl (none), Wd P Q P P c2, 0, 0)) : Wp sc (d + 9) 159 0 [(0, .ref 41)] [] (Wd P Q P P c) 0 0 Z := by
  have hP := iv_P hI
  have hQ := iv_Q hI
  have h_12 := ir_41_3 hI
  have h_13 := ir_41_4 hI
  refine Wp_ls [(0, .ref 41)] (lsub_cons rfl lsub_nil) ?_
  have h_14 : c 41 4 = a9 := (hv1)
  exact (f_159_l (sc := sc) (d := d) hI hv0 hv1 hB hdL8 K0 606) c hI (fun a j hm => rfl) (by rw [hv1]; exact hdL8) (by omega)

set_option maxRecDepth 100000 in
set_option maxHeartbeats 4000000 in
theorem f_10_1_9 {sc : List Int32} {e : Int} {d u P Q : Nat} {c : ME} {e1 a9 f9 p9 W8 r8 L8 : Int} {B : Int → Int} {Z : AR → Prop} (hI : Iv u e P Q c) (hq0 : (f9 = 0)) (hq1 : (r8 ≥ 0 ∧ r8 ≤ L8 ∧ L8 ≤ 600)) (hv0 : c 1 1 = e1) (hv1 : c 1 2 = a9) (hv2 : c 1 4 = f9) (hv3 : c 1 5 = p9) (hB : ∀ j : Int, c 2 j = B j) (hdW8 : wd1_9 B r8 L8 = W8) (K0 : ∀ c2 : ME, Iv u e P Q c2 → (∀ (a : Nat) (j : Int), ¬ ((a = 1 ∧ j = 2) ∨ (a = 1 ∧ j = 4) ∨ (a = 1 ∧ j = 5)) → c2 a j = c a j) → ((W8 = (-1))) → (c2 1 2 = a9) → (c2 1 4 = 1) → (c2 1 5 = r8) → Z (.inl (some (vi (-1))), Wd P Q P P c2, 0, 0)) (K1 : ∀ c2 : ME, Iv u e P Q c2 → (∀ (a : Nat) (j : Int), ¬ ((a = 1 ∧ j = 2) ∨ (a = 1 ∧ j = 4) ∨ (a = 1 ∧ j = 5)) → c2 a j = c a j) → ((W8 ≥ 0 ∧ W8 ≤ 9)) → (c2 1 2 = L8) → (c2 1 4 = 0) → (c2 1 5 = p9) → Z (.inl (some (vi W8)), Wd P Q P P c2, 0, 0)) : Wp sc (d + 12) 10 52 [(0, .ref 1), (1, .ref (a_SB + 1)), (2, vi r8), (3, vi L8), (4, vi 9), (5, vi 43), (6, vi 43)] [] (Wd P Q P P c) 0 0 Z := by
  have hP := iv_P hI
  have hQ := iv_Q hI
  have h_1 := ir_1_1 hI
  have h_2 := ir_1_2 hI
  have h_3 := ir_1_4 hI
  have h_4 := ir_1_5 hI
  refine q_iload c_10_52 rfl (q_aload_n c_10_54 rfl (v_sln 47 c_10_55 rfl (by omega) (Nat.le_of_ble_eq_true rfl) (by decide) (by decide) (v_ic_gt_f (t := 136) c_10_58 rfl (by decide) (q_aload_n c_10_61 rfl (v_cv c_10_62 km_5_45 rfl rfl (Nat.le_of_ble_eq_true rfl) ⟨⟨rfl, rfl⟩, Nat.le_of_ble_eq_true rfl, rfl⟩ (Nat.le_of_ble_eq_true rfl) (Nat.le_of_ble_eq_true rfl) (q_aload_n c_2_0 rfl (v_gi (z := 4) (v := f9) c_2_1 kf_5_38 rfl (Nat.le_of_ble_eq_true rfl) rfl rfl (hv2) ?_)))))))
  refine v_if_ne_f (t := 11) c_2_4 rfl (by omega) (q_iconst c_2_7 (q_goto (t := 12) c_2_8 rfl (v_zret c_2_12 rfl (by decide) (bk_inl (v_if_eq_f (t := 136) c_10_65 rfl (by decide) (q_iload c_10_68 rfl (q_aload_n c_10_70 rfl ?_)))))))
  refine v_sln 47 c_10_71 rfl (by omega) (Nat.le_of_ble_eq_true rfl) (by decide) (by decide) (v_ic_eq_f (t := 88) c_10_74 rfl (by decide) (q_aload_n c_10_77 rfl (q_iload c_10_78 rfl (v_sch 109 c_10_80 rfl (by omega) (Nat.le_of_ble_eq_true rfl) (by decide) (by decide) (by decide) (v_bip c_10_83 (by decide) (v_ic_ne_t (t := 130) c_10_85 rfl (by decide) (v_iinc (v := 44) c_10_130 rfl (Nat.le_of_ble_eq_true rfl) (by decide) ?_)))))))
  refine q_goto (t := 52) c_10_133 rfl (q_iload c_10_52 rfl (q_aload_n c_10_54 rfl (v_sln 47 c_10_55 rfl (by omega) (Nat.le_of_ble_eq_true rfl) (by decide) (by decide) (v_ic_gt_f (t := 136) c_10_58 rfl (by decide) (q_aload_n c_10_61 rfl (v_cv c_10_62 km_5_45 rfl rfl (Nat.le_of_ble_eq_true rfl) ⟨⟨rfl, rfl⟩, Nat.le_of_ble_eq_true rfl, rfl⟩ (Nat.le_of_ble_eq_true rfl) (Nat.le_of_ble_eq_true rfl) (q_aload_n c_2_0 rfl ?_)))))))
  refine v_gi (z := 4) (v := f9) c_2_1 kf_5_38 rfl (Nat.le_of_ble_eq_true rfl) rfl rfl (hv2) (v_if_ne_f (t := 11) c_2_4 rfl (by omega) (q_iconst c_2_7 (q_goto (t := 12) c_2_8 rfl (v_zret c_2_12 rfl (by decide) (bk_inl (v_if_eq_f (t := 136) c_10_65 rfl (by decide) (q_iload c_10_68 rfl ?_)))))))
  refine q_aload_n c_10_70 rfl (v_sln 47 c_10_71 rfl (by omega) (Nat.le_of_ble_eq_true rfl) (by decide) (by decide) (v_ic_eq_f (t := 88) c_10_74 rfl (by decide) (q_aload_n c_10_77 rfl (q_iload c_10_78 rfl (v_sch 111 c_10_80 rfl (by omega) (Nat.le_of_ble_eq_true rfl) (by decide) (by decide) (by decide) (v_bip c_10_83 (by decide) (v_ic_ne_t (t := 130) c_10_85 rfl (by decide) ?_)))))))
  refine v_iinc (v := 45) c_10_130 rfl (Nat.le_of_ble_eq_true rfl) (by decide) (q_goto (t := 52) c_10_133 rfl (q_iload c_10_52 rfl (q_aload_n c_10_54 rfl (v_sln 47 c_10_55 rfl (by omega) (Nat.le_of_ble_eq_true rfl) (by decide) (by decide) (v_ic_gt_f (t := 136) c_10_58 rfl (by decide) (q_aload_n c_10_61 rfl (v_cv c_10_62 km_5_45 rfl rfl (Nat.le_of_ble_eq_true rfl) ⟨⟨rfl, rfl⟩, Nat.le_of_ble_eq_true rfl, rfl⟩ (Nat.le_of_ble_eq_true rfl) (Nat.le_of_ble_eq_true rfl) ?_)))))))
  refine q_aload_n c_2_0 rfl (v_gi (z := 4) (v := f9) c_2_1 kf_5_38 rfl (Nat.le_of_ble_eq_true rfl) rfl rfl (hv2) (v_if_ne_f (t := 11) c_2_4 rfl (by omega) (q_iconst c_2_7 (q_goto (t := 12) c_2_8 rfl (v_zret c_2_12 rfl (by decide) (bk_inl (v_if_eq_f (t := 136) c_10_65 rfl (by decide) ?_)))))))
  refine q_iload c_10_68 rfl (q_aload_n c_10_70 rfl (v_sln 47 c_10_71 rfl (by omega) (Nat.le_of_ble_eq_true rfl) (by decide) (by decide) (v_ic_eq_f (t := 88) c_10_74 rfl (by decide) (q_aload_n c_10_77 rfl (q_iload c_10_78 rfl (v_sch 115 c_10_80 rfl (by omega) (Nat.le_of_ble_eq_true rfl) (by decide) (by decide) (by decide) (v_bip c_10_83 (by decide) ?_)))))))
  refine v_ic_ne_t (t := 130) c_10_85 rfl (by decide) (v_iinc (v := 46) c_10_130 rfl (Nat.le_of_ble_eq_true rfl) (by decide) (q_goto (t := 52) c_10_133 rfl (q_iload c_10_52 rfl (q_aload_n c_10_54 rfl (v_sln 47 c_10_55 rfl (by omega) (Nat.le_of_ble_eq_true rfl) (by decide) (by decide) (v_ic_gt_f (t := 136) c_10_58 rfl (by decide) (q_aload_n c_10_61 rfl ?_)))))))
  refine v_cv c_10_62 km_5_45 rfl rfl (Nat.le_of_ble_eq_true rfl) ⟨⟨rfl, rfl⟩, Nat.le_of_ble_eq_true rfl, rfl⟩ (Nat.le_of_ble_eq_true rfl) (Nat.le_of_ble_eq_true rfl) (q_aload_n c_2_0 rfl (v_gi (z := 4) (v := f9) c_2_1 kf_5_38 rfl (Nat.le_of_ble_eq_true rfl) rfl rfl (hv2) (v_if_ne_f (t := 11) c_2_4 rfl (by omega) (q_iconst c_2_7 (q_goto (t := 12) c_2_8 rfl (v_zret c_2_12 rfl (by decide) (bk_inl ?_)))))))
  refine v_if_eq_f (t := 136) c_10_65 rfl (by decide) (q_iload c_10_68 rfl (q_aload_n c_10_70 rfl (v_sln 47 c_10_71 rfl (by omega) (Nat.le_of_ble_eq_true rfl) (by decide) (by decide) (v_ic_eq_f (t := 88) c_10_74 rfl (by decide) (q_aload_n c_10_77 rfl (q_iload c_10_78 rfl (v_sch 116 c_10_80 rfl (by omega) (Nat.le_of_ble_eq_true rfl) (by decide) (by decide) (by decide) ?_)))))))
  refine v_bip c_10_83 (by decide) (v_ic_ne_t (t := 130) c_10_85 rfl (by decide) (v_iinc (v := 47) c_10_130 rfl (Nat.le_of_ble_eq_true rfl) (by decide) (q_goto (t := 52) c_10_133 rfl (q_iload c_10_52 rfl (q_aload_n c_10_54 rfl (v_sln 47 c_10_55 rfl (by omega) (Nat.le_of_ble_eq_true rfl) (by decide) (by decide) (v_ic_gt_f (t := 136) c_10_58 rfl (by decide) ?_)))))))
  refine q_aload_n c_10_61 rfl (v_cv c_10_62 km_5_45 rfl rfl (Nat.le_of_ble_eq_true rfl) ⟨⟨rfl, rfl⟩, Nat.le_of_ble_eq_true rfl, rfl⟩ (Nat.le_of_ble_eq_true rfl) (Nat.le_of_ble_eq_true rfl) (q_aload_n c_2_0 rfl (v_gi (z := 4) (v := f9) c_2_1 kf_5_38 rfl (Nat.le_of_ble_eq_true rfl) rfl rfl (hv2) (v_if_ne_f (t := 11) c_2_4 rfl (by omega) (q_iconst c_2_7 (q_goto (t := 12) c_2_8 rfl (v_zret c_2_12 rfl (by decide) ?_)))))))
  refine bk_inl (v_if_eq_f (t := 136) c_10_65 rfl (by decide) (q_iload c_10_68 rfl (q_aload_n c_10_70 rfl (v_sln 47 c_10_71 rfl (by omega) (Nat.le_of_ble_eq_true rfl) (by decide) (by decide) (v_ic_eq_t (t := 88) c_10_74 rfl (by decide) (q_iload c_10_88 rfl (q_iload c_10_90 rfl ?_)))))))
  refine v_isub (v := 4) c_10_92 (by decide) (q_iload_n c_10_93 rfl (q_iload_n c_10_94 rfl (v_isub (v := L8 - r8) c_10_95 rfl ?_)))
  by_cases h_5 : 4 ≠ L8 - r8
  · refine v_ic_ne_t (t := 121) c_10_96 rfl ⟨h_5, ⟨by decide, by decide⟩, by omega, by omega⟩ (v_iinc (v := 10) c_10_121 rfl (Nat.le_of_ble_eq_true rfl) (by decide) (Wp_ls [(4, vi 10), (6, vi 47), (0, .ref 1), (1, .ref (a_SB + 1)), (2, vi r8), (3, vi L8), (5, vi 43)] (lsub_cons rfl (lsub_cons rfl (lsub_cons rfl (lsub_cons rfl (lsub_cons rfl (lsub_cons rfl (lsub_cons rfl lsub_nil))))))) (q_iload c_10_124 rfl (q_iconst c_10_126 (v_iadd (v := 48) c_10_127 (by decide) (q_istore c_10_128 (Nat.le_of_ble_eq_true rfl) (v_iinc (v := 48) c_10_130 rfl (Nat.le_of_ble_eq_true rfl) (by decide) ?_)))))))
    refine q_goto (t := 52) c_10_133 rfl (q_iload c_10_52 rfl (q_aload_n c_10_54 rfl (v_sln 47 c_10_55 rfl (by omega) (Nat.le_of_ble_eq_true rfl) (by decide) (by decide) (v_ic_gt_t (t := 136) c_10_58 rfl (by decide) (q_aload_n c_10_136 rfl (q_iconst c_10_137 (q_iload_n c_10_138 rfl ?_)))))))
    refine v_cv c_10_139 km_5_52 rfl rfl (Nat.le_of_ble_eq_true rfl) ⟨⟨rfl, rfl⟩, Nat.le_of_ble_eq_true rfl, rfl⟩ (Nat.le_of_ble_eq_true rfl) (Nat.le_of_ble_eq_true rfl) (q_aload_n c_7_0 rfl (v_gi (z := 4) (v := f9) c_7_1 kf_5_38 rfl (Nat.le_of_ble_eq_true rfl) rfl rfl (hv2) (v_if_ne_f (t := 17) c_7_4 rfl (by first | (clear h_1 h_2 h_3 h_4 h_5; omega) | omega) (q_aload_n c_7_7 rfl (q_iload_n c_7_8 rfl (v_pi (z := 4) c_7_9 kf_5_38 rfl (Nat.le_of_ble_eq_true rfl) rfl rfl rfl (by decide) (q_aload_n c_7_12 rfl ?_)))))))
    refine q_iload_n c_7_13 rfl (v_pi (z := 5) c_7_14 kf_5_15 rfl (Nat.le_of_ble_eq_true rfl) rfl rfl rfl (by decide) (q_vret rfl rfl (bk_inl (q_iconst c_10_142 (q_iret c_10_143 rfl ?_)))))
    have hw9 : W8 = (-1) := hdW8.symm.trans (wd1_9_f (by omega))
    have hI_6 := iw_1_4 (v := 1) hI ⟨by decide, by decide⟩
    have hI_7 := iw_1_5 (v := r8) hI_6 ⟨by first | (clear h_1 h_2 h_3 h_4 hw9 h_5; omega) | omega, by first | (clear h_1 h_2 h_3 h_4 hw9 h_5; omega) | omega⟩
    have h_8 : (up (up c 1 4 1) 1 5 r8) 1 2 = a9 := ((up_n (by decide)).trans ((up_n (by decide)).trans (hv1)))
    have h_9 : (up (up c 1 4 1) 1 5 r8) 1 4 = 1 := ((up_n (by decide)).trans (up_e rfl))
    have h_10 : (up (up c 1 4 1) 1 5 r8) 1 5 = r8 := (up_e rfl)
    exact zv (by omega) (K0 (up (up c 1 4 1) 1 5 r8) hI_7 (fun a j hm => (up_b (Decidable.or_iff_not_imp_left.mpr (fun h1 h2 => hm (Or.inr (Or.inr ⟨Decidable.not_not.mp h1, h2⟩))))).trans (up_b (Decidable.or_iff_not_imp_left.mpr (fun h1 h2 => hm (Or.inr (Or.inl ⟨Decidable.not_not.mp h1, h2⟩)))))) (by omega) (by omega) (by omega) (by omega))
  · refine v_ic_ne_f (t := 121) c_10_96 rfl (Decidable.not_not.mp h_5) (q_aload_n c_10_99 rfl (q_aload_n c_10_100 rfl (q_iload c_10_101 rfl (q_iload_n c_10_103 rfl (q_iload_n c_10_104 rfl (q_iload_n c_10_105 rfl (v_isub (v := L8 - r8) c_10_106 rfl ?_)))))))
    refine v_cv c_10_107 km_5_73 rfl rfl (Nat.le_of_ble_eq_true rfl) ⟨⟨rfl, rfl⟩, Nat.le_of_ble_eq_true rfl, rfl⟩ (Nat.le_of_ble_eq_true rfl) (Nat.le_of_ble_eq_true rfl) (q_iconst c_9_0 (q_istore c_9_1 (Nat.le_of_ble_eq_true rfl) (q_iload c_9_3 rfl (q_iload c_9_5 rfl (v_ic_ge_f (t := 38) c_9_7 rfl ⟨by decide, by first | exact q_e102c8f11 h_5 | omega, by first | exact q_559789b9d h_5 | omega⟩ (q_aload_n c_9_10 rfl (q_iload_n c_9_11 rfl ?_)))))))
    refine q_iload c_9_12 rfl (v_iadd (v := 43) c_9_14 (by decide) (v_sch 109 c_9_15 rfl (by omega) (Nat.le_of_ble_eq_true rfl) (by decide) (by decide) (by decide) (q_aload_n c_9_18 rfl (v_gr (t := 2) c_9_19 kf_5_9 rfl (Nat.le_of_ble_eq_true rfl) rfl (q_iload_n c_9_22 rfl (q_iload c_9_23 rfl (v_iadd (v := r8) c_9_25 (by omega) ?_)))))))
    have h_11 : -2147483648 ≤ (B r8) ∧ (B r8) ≤ 2147483647 := by rw [← hB r8]; exact ir_2 hI r8
    refine v_ba (v := (B r8)) c_9_26 rfl (by decide) (by decide) (by omega) (hB r8) ?_
    by_cases h_12 : 109 = (B r8)
    · refine v_ic_eq_t (t := 32) c_9_27 rfl h_12 (v_iinc (v := 1) c_9_32 rfl (Nat.le_of_ble_eq_true rfl) (by decide) (q_goto (t := 3) c_9_35 rfl (q_iload c_9_3 rfl (q_iload c_9_5 rfl (v_ic_ge_f (t := 38) c_9_7 rfl ⟨by decide, by first | exact q_a2240bc6c h_5 | omega, by first | exact q_559789b9d h_5 | omega⟩ (q_aload_n c_9_10 rfl (q_iload_n c_9_11 rfl ?_)))))))
      refine q_iload c_9_12 rfl (v_iadd (v := 44) c_9_14 (by decide) (v_sch 111 c_9_15 rfl (by omega) (Nat.le_of_ble_eq_true rfl) (by decide) (by decide) (by decide) (q_aload_n c_9_18 rfl (v_gr (t := 2) c_9_19 kf_5_9 rfl (Nat.le_of_ble_eq_true rfl) rfl (q_iload_n c_9_22 rfl (q_iload c_9_23 rfl (v_iadd (v := r8 + 1) c_9_25 rfl ?_)))))))
      have h_13 : -2147483648 ≤ (B (r8 + 1)) ∧ (B (r8 + 1)) ≤ 2147483647 := by rw [← hB (r8 + 1)]; exact ir_2 hI (r8 + 1)
      refine v_ba (v := (B (r8 + 1))) c_9_26 rfl (by decide) (by decide) (by omega) (hB (r8 + 1)) ?_
      by_cases h_14 : 111 = (B (r8 + 1))
      · refine v_ic_eq_t (t := 32) c_9_27 rfl h_14 (v_iinc (v := 2) c_9_32 rfl (Nat.le_of_ble_eq_true rfl) (by decide) (q_goto (t := 3) c_9_35 rfl (q_iload c_9_3 rfl (q_iload c_9_5 rfl (v_ic_ge_f (t := 38) c_9_7 rfl ⟨by decide, by first | exact q_81cf1e9c6 h_5 | omega, by first | exact q_559789b9d h_5 | omega⟩ (q_aload_n c_9_10 rfl (q_iload_n c_9_11 rfl ?_)))))))
        refine q_iload c_9_12 rfl (v_iadd (v := 45) c_9_14 (by decide) (v_sch 115 c_9_15 rfl (by omega) (Nat.le_of_ble_eq_true rfl) (by decide) (by decide) (by decide) (q_aload_n c_9_18 rfl (v_gr (t := 2) c_9_19 kf_5_9 rfl (Nat.le_of_ble_eq_true rfl) rfl (q_iload_n c_9_22 rfl (q_iload c_9_23 rfl (v_iadd (v := r8 + 2) c_9_25 rfl ?_)))))))
        have h_15 : -2147483648 ≤ (B (r8 + 2)) ∧ (B (r8 + 2)) ≤ 2147483647 := by rw [← hB (r8 + 2)]; exact ir_2 hI (r8 + 2)
        refine v_ba (v := (B (r8 + 2))) c_9_26 rfl (by decide) (by decide) (by omega) (hB (r8 + 2)) ?_
        by_cases h_16 : 115 = (B (r8 + 2))
        · refine v_ic_eq_t (t := 32) c_9_27 rfl h_16 (v_iinc (v := 3) c_9_32 rfl (Nat.le_of_ble_eq_true rfl) (by decide) (q_goto (t := 3) c_9_35 rfl (q_iload c_9_3 rfl (q_iload c_9_5 rfl (v_ic_ge_f (t := 38) c_9_7 rfl ⟨by decide, by first | exact q_bf9798940 h_5 | omega, by first | exact q_559789b9d h_5 | omega⟩ (q_aload_n c_9_10 rfl (q_iload_n c_9_11 rfl ?_)))))))
          refine q_iload c_9_12 rfl (v_iadd (v := 46) c_9_14 (by decide) (v_sch 116 c_9_15 rfl (by omega) (Nat.le_of_ble_eq_true rfl) (by decide) (by decide) (by decide) (q_aload_n c_9_18 rfl (v_gr (t := 2) c_9_19 kf_5_9 rfl (Nat.le_of_ble_eq_true rfl) rfl (q_iload_n c_9_22 rfl (q_iload c_9_23 rfl (v_iadd (v := r8 + 3) c_9_25 rfl ?_)))))))
          have h_17 : -2147483648 ≤ (B (r8 + 3)) ∧ (B (r8 + 3)) ≤ 2147483647 := by rw [← hB (r8 + 3)]; exact ir_2 hI (r8 + 3)
          refine v_ba (v := (B (r8 + 3))) c_9_26 rfl (by decide) (by decide) (by omega) (hB (r8 + 3)) ?_
          by_cases h_18 : 116 = (B (r8 + 3))
          · refine v_ic_eq_t (t := 32) c_9_27 rfl h_18 (v_iinc (v := 4) c_9_32 rfl (Nat.le_of_ble_eq_true rfl) (by decide) (Wp_ls [(5, vi 4), (0, .ref 1), (1, .ref (a_SB + 1)), (2, vi 43), (3, vi r8), (4, vi (L8 - r8))] (lsub_cons rfl (lsub_cons rfl (lsub_cons rfl (lsub_cons rfl (lsub_cons rfl (lsub_cons rfl lsub_nil)))))) (q_goto (t := 3) c_9_35 rfl (q_iload c_9_3 rfl (q_iload c_9_5 rfl (v_ic_ge_t (t := 38) c_9_7 rfl ⟨by first | exact q_5edcef13d h_5 | omega, by first | exact q_62ba5a5ea h_5 | omega, by decide⟩ (q_iconst c_9_38 ?_)))))))
            refine v_zret c_9_39 rfl (by decide) (bk_inl (v_if_eq_f (t := 121) c_10_110 rfl (by decide) (q_aload_n c_10_113 rfl (q_iload_n c_10_114 rfl (v_pi (z := 2) c_10_115 kf_5_35 rfl (Nat.le_of_ble_eq_true rfl) rfl rfl rfl (by decide) (q_iload c_10_118 rfl (q_iret c_10_120 rfl ?_)))))))
            have hw9 : W8 = 9 := hdW8.symm.trans (wd1_9_t (by omega))
            have hI_19 := iw_1_2 (v := L8) hI ⟨by first | (clear h_1 h_2 h_3 h_4 h_11 h_12 h_13 h_14 h_15 h_16 h_17 h_18 hw9; omega) | omega, by first | (clear h_1 h_2 h_3 h_4 h_5 h_11 h_12 h_13 h_14 h_15 h_16 h_17 h_18 hw9; omega) | omega⟩
            have h_20 : (up c 1 2 L8) 1 2 = L8 := (up_e rfl)
            have h_21 : (up c 1 2 L8) 1 4 = f9 := ((up_n (by decide)).trans (hv2))
            have h_22 : (up c 1 2 L8) 1 5 = p9 := ((up_n (by decide)).trans (hv3))
            exact zv (by omega) (K1 (up c 1 2 L8) hI_19 (fun a j hm => up_b (Decidable.or_iff_not_imp_left.mpr (fun h1 h2 => hm (Or.inl ⟨Decidable.not_not.mp h1, h2⟩)))) (by omega) (by omega) (by omega) (by omega))
          · refine v_ic_eq_f (t := 32) c_9_27 rfl ⟨h_18, ⟨by decide, by decide⟩, by first | exact q_f97c35332 h_17 | omega, by first | exact q_79e53d295 h_17 | omega⟩ (q_iconst c_9_30 (v_zret c_9_31 rfl (by decide) (bk_inl (v_if_eq_t (t := 121) c_10_110 rfl (by decide) (v_iinc (v := 10) c_10_121 rfl (Nat.le_of_ble_eq_true rfl) (by decide) (Wp_ls [(4, vi 10), (6, vi 47), (0, .ref 1), (1, .ref (a_SB + 1)), (2, vi r8), (3, vi L8), (5, vi 43)] (lsub_cons rfl (lsub_cons rfl (lsub_cons rfl (lsub_cons rfl (lsub_cons rfl (lsub_cons rfl (lsub_cons rfl lsub_nil))))))) (q_iload c_10_124 rfl ?_)))))))
            refine q_iconst c_10_126 (v_iadd (v := 48) c_10_127 (by decide) (q_istore c_10_128 (Nat.le_of_ble_eq_true rfl) (v_iinc (v := 48) c_10_130 rfl (Nat.le_of_ble_eq_true rfl) (by decide) (q_goto (t := 52) c_10_133 rfl (q_iload c_10_52 rfl (q_aload_n c_10_54 rfl (v_sln 47 c_10_55 rfl (by omega) (Nat.le_of_ble_eq_true rfl) (by decide) (by decide) ?_)))))))
            refine v_ic_gt_t (t := 136) c_10_58 rfl (by decide) (q_aload_n c_10_136 rfl (q_iconst c_10_137 (q_iload_n c_10_138 rfl (v_cv c_10_139 km_5_52 rfl rfl (Nat.le_of_ble_eq_true rfl) ⟨⟨rfl, rfl⟩, Nat.le_of_ble_eq_true rfl, rfl⟩ (Nat.le_of_ble_eq_true rfl) (Nat.le_of_ble_eq_true rfl) (q_aload_n c_7_0 rfl (v_gi (z := 4) (v := f9) c_7_1 kf_5_38 rfl (Nat.le_of_ble_eq_true rfl) rfl rfl (hv2) (v_if_ne_f (t := 17) c_7_4 rfl (by first | (clear h_1 h_2 h_3 h_4 h_5 h_11 h_12 h_13 h_14 h_15 h_16 h_17 h_18; omega) | omega) ?_)))))))
            refine q_aload_n c_7_7 rfl (q_iload_n c_7_8 rfl (v_pi (z := 4) c_7_9 kf_5_38 rfl (Nat.le_of_ble_eq_true rfl) rfl rfl rfl (by decide) (q_aload_n c_7_12 rfl (q_iload_n c_7_13 rfl (v_pi (z := 5) c_7_14 kf_5_15 rfl (Nat.le_of_ble_eq_true rfl) rfl rfl rfl (by decide) (q_vret rfl rfl (bk_inl ?_)))))))
            refine q_iconst c_10_142 (q_iret c_10_143 rfl ?_)
            have hw9 : W8 = (-1) := hdW8.symm.trans (wd1_9_f (by omega))
            have hI_23 := iw_1_4 (v := 1) hI ⟨by decide, by decide⟩
            have hI_24 := iw_1_5 (v := r8) hI_23 ⟨by first | (clear h_1 h_2 h_3 h_4 h_5 h_11 h_12 h_13 h_14 h_15 h_16 h_17 hw9 h_18; omega) | omega, by first | (clear h_1 h_2 h_3 h_4 h_11 h_12 h_13 h_14 h_15 h_16 h_17 hw9 h_18; omega) | omega⟩
            have h_25 : (up (up c 1 4 1) 1 5 r8) 1 2 = a9 := ((up_n (by decide)).trans ((up_n (by decide)).trans (hv1)))
            have h_26 : (up (up c 1 4 1) 1 5 r8) 1 4 = 1 := ((up_n (by decide)).trans (up_e rfl))
            have h_27 : (up (up c 1 4 1) 1 5 r8) 1 5 = r8 := (up_e rfl)
            exact zv (by omega) (K0 (up (up c 1 4 1) 1 5 r8) hI_24 (fun a j hm => (up_b (Decidable.or_iff_not_imp_left.mpr (fun h1 h2 => hm (Or.inr (Or.inr ⟨Decidable.not_not.mp h1, h2⟩))))).trans (up_b (Decidable.or_iff_not_imp_left.mpr (fun h1 h2 => hm (Or.inr (Or.inl ⟨Decidable.not_not.mp h1, h2⟩)))))) (by omega) (by omega) (by omega) (by omega))
        · refine v_ic_eq_f (t := 32) c_9_27 rfl ⟨h_16, ⟨by decide, by decide⟩, by first | exact q_f97c35332 h_15 | omega, by first | exact q_79e53d295 h_15 | omega⟩ (q_iconst c_9_30 (v_zret c_9_31 rfl (by decide) (bk_inl (v_if_eq_t (t := 121) c_10_110 rfl (by decide) (v_iinc (v := 10) c_10_121 rfl (Nat.le_of_ble_eq_true rfl) (by decide) (Wp_ls [(4, vi 10), (6, vi 47), (0, .ref 1), (1, .ref (a_SB + 1)), (2, vi r8), (3, vi L8), (5, vi 43)] (lsub_cons rfl (lsub_cons rfl (lsub_cons rfl (lsub_cons rfl (lsub_cons rfl (lsub_cons rfl (lsub_cons rfl lsub_nil))))))) (q_iload c_10_124 rfl ?_)))))))
          refine q_iconst c_10_126 (v_iadd (v := 48) c_10_127 (by decide) (q_istore c_10_128 (Nat.le_of_ble_eq_true rfl) (v_iinc (v := 48) c_10_130 rfl (Nat.le_of_ble_eq_true rfl) (by decide) (q_goto (t := 52) c_10_133 rfl (q_iload c_10_52 rfl (q_aload_n c_10_54 rfl (v_sln 47 c_10_55 rfl (by omega) (Nat.le_of_ble_eq_true rfl) (by decide) (by decide) ?_)))))))
          refine v_ic_gt_t (t := 136) c_10_58 rfl (by decide) (q_aload_n c_10_136 rfl (q_iconst c_10_137 (q_iload_n c_10_138 rfl (v_cv c_10_139 km_5_52 rfl rfl (Nat.le_of_ble_eq_true rfl) ⟨⟨rfl, rfl⟩, Nat.le_of_ble_eq_true rfl, rfl⟩ (Nat.le_of_ble_eq_true rfl) (Nat.le_of_ble_eq_true rfl) (q_aload_n c_7_0 rfl (v_gi (z := 4) (v := f9) c_7_1 kf_5_38 rfl (Nat.le_of_ble_eq_true rfl) rfl rfl (hv2) (v_if_ne_f (t := 17) c_7_4 rfl (by first | (clear h_1 h_2 h_3 h_4 h_5 h_11 h_12 h_13 h_14 h_15 h_16; omega) | omega) ?_)))))))
          refine q_aload_n c_7_7 rfl (q_iload_n c_7_8 rfl (v_pi (z := 4) c_7_9 kf_5_38 rfl (Nat.le_of_ble_eq_true rfl) rfl rfl rfl (by decide) (q_aload_n c_7_12 rfl (q_iload_n c_7_13 rfl (v_pi (z := 5) c_7_14 kf_5_15 rfl (Nat.le_of_ble_eq_true rfl) rfl rfl rfl (by decide) (q_vret rfl rfl (bk_inl ?_)))))))
          refine q_iconst c_10_142 (q_iret c_10_143 rfl ?_)
          have hw9 : W8 = (-1) := hdW8.symm.trans (wd1_9_f (by omega))
          have hI_28 := iw_1_4 (v := 1) hI ⟨by decide, by decide⟩
          have hI_29 := iw_1_5 (v := r8) hI_28 ⟨by first | (clear h_1 h_2 h_3 h_4 h_5 h_11 h_12 h_13 h_14 h_15 hw9 h_16; omega) | omega, by first | (clear h_1 h_2 h_3 h_4 h_11 h_12 h_13 h_14 h_15 hw9 h_16; omega) | omega⟩
          have h_30 : (up (up c 1 4 1) 1 5 r8) 1 2 = a9 := ((up_n (by decide)).trans ((up_n (by decide)).trans (hv1)))
          have h_31 : (up (up c 1 4 1) 1 5 r8) 1 4 = 1 := ((up_n (by decide)).trans (up_e rfl))
          have h_32 : (up (up c 1 4 1) 1 5 r8) 1 5 = r8 := (up_e rfl)
          exact zv (by omega) (K0 (up (up c 1 4 1) 1 5 r8) hI_29 (fun a j hm => (up_b (Decidable.or_iff_not_imp_left.mpr (fun h1 h2 => hm (Or.inr (Or.inr ⟨Decidable.not_not.mp h1, h2⟩))))).trans (up_b (Decidable.or_iff_not_imp_left.mpr (fun h1 h2 => hm (Or.inr (Or.inl ⟨Decidable.not_not.mp h1, h2⟩)))))) (by omega) (by omega) (by omega) (by omega))
      · refine v_ic_eq_f (t := 32) c_9_27 rfl ⟨h_14, ⟨by decide, by decide⟩, by first | exact q_f97c35332 h_13 | omega, by first | exact q_79e53d295 h_13 | omega⟩ (q_iconst c_9_30 (v_zret c_9_31 rfl (by decide) (bk_inl (v_if_eq_t (t := 121) c_10_110 rfl (by decide) (v_iinc (v := 10) c_10_121 rfl (Nat.le_of_ble_eq_true rfl) (by decide) (Wp_ls [(4, vi 10), (6, vi 47), (0, .ref 1), (1, .ref (a_SB + 1)), (2, vi r8), (3, vi L8), (5, vi 43)] (lsub_cons rfl (lsub_cons rfl (lsub_cons rfl (lsub_cons rfl (lsub_cons rfl (lsub_cons rfl (lsub_cons rfl lsub_nil))))))) (q_iload c_10_124 rfl ?_)))))))
        refine q_iconst c_10_126 (v_iadd (v := 48) c_10_127 (by decide) (q_istore c_10_128 (Nat.le_of_ble_eq_true rfl) (v_iinc (v := 48) c_10_130 rfl (Nat.le_of_ble_eq_true rfl) (by decide) (q_goto (t := 52) c_10_133 rfl (q_iload c_10_52 rfl (q_aload_n c_10_54 rfl (v_sln 47 c_10_55 rfl (by omega) (Nat.le_of_ble_eq_true rfl) (by decide) (by decide) ?_)))))))
        refine v_ic_gt_t (t := 136) c_10_58 rfl (by decide) (q_aload_n c_10_136 rfl (q_iconst c_10_137 (q_iload_n c_10_138 rfl (v_cv c_10_139 km_5_52 rfl rfl (Nat.le_of_ble_eq_true rfl) ⟨⟨rfl, rfl⟩, Nat.le_of_ble_eq_true rfl, rfl⟩ (Nat.le_of_ble_eq_true rfl) (Nat.le_of_ble_eq_true rfl) (q_aload_n c_7_0 rfl (v_gi (z := 4) (v := f9) c_7_1 kf_5_38 rfl (Nat.le_of_ble_eq_true rfl) rfl rfl (hv2) (v_if_ne_f (t := 17) c_7_4 rfl (by first | (clear h_1 h_2 h_3 h_4 h_5 h_11 h_12 h_13 h_14; omega) | omega) ?_)))))))
        refine q_aload_n c_7_7 rfl (q_iload_n c_7_8 rfl (v_pi (z := 4) c_7_9 kf_5_38 rfl (Nat.le_of_ble_eq_true rfl) rfl rfl rfl (by decide) (q_aload_n c_7_12 rfl (q_iload_n c_7_13 rfl (v_pi (z := 5) c_7_14 kf_5_15 rfl (Nat.le_of_ble_eq_true rfl) rfl rfl rfl (by decide) (q_vret rfl rfl (bk_inl ?_)))))))
        refine q_iconst c_10_142 (q_iret c_10_143 rfl ?_)
        have hw9 : W8 = (-1) := hdW8.symm.trans (wd1_9_f (by omega))
        have hI_33 := iw_1_4 (v := 1) hI ⟨by decide, by decide⟩
        have hI_34 := iw_1_5 (v := r8) hI_33 ⟨by first | (clear h_1 h_2 h_3 h_4 h_5 h_11 h_12 h_13 hw9 h_14; omega) | omega, by first | (clear h_1 h_2 h_3 h_4 h_11 h_12 h_13 hw9 h_14; omega) | omega⟩
        have h_35 : (up (up c 1 4 1) 1 5 r8) 1 2 = a9 := ((up_n (by decide)).trans ((up_n (by decide)).trans (hv1)))
        have h_36 : (up (up c 1 4 1) 1 5 r8) 1 4 = 1 := ((up_n (by decide)).trans (up_e rfl))
        have h_37 : (up (up c 1 4 1) 1 5 r8) 1 5 = r8 := (up_e rfl)
        exact zv (by omega) (K0 (up (up c 1 4 1) 1 5 r8) hI_34 (fun a j hm => (up_b (Decidable.or_iff_not_imp_left.mpr (fun h1 h2 => hm (Or.inr (Or.inr ⟨Decidable.not_not.mp h1, h2⟩))))).trans (up_b (Decidable.or_iff_not_imp_left.mpr (fun h1 h2 => hm (Or.inr (Or.inl ⟨Decidable.not_not.mp h1, h2⟩)))))) (by omega) (by omega) (by omega) (by omega))
    · refine v_ic_eq_f (t := 32) c_9_27 rfl ⟨h_12, ⟨by decide, by decide⟩, by first | exact q_f97c35332 h_11 | omega, by first | exact q_79e53d295 h_11 | omega⟩ (q_iconst c_9_30 (v_zret c_9_31 rfl (by decide) (bk_inl (v_if_eq_t (t := 121) c_10_110 rfl (by decide) (v_iinc (v := 10) c_10_121 rfl (Nat.le_of_ble_eq_true rfl) (by decide) (Wp_ls [(4, vi 10), (6, vi 47), (0, .ref 1), (1, .ref (a_SB + 1)), (2, vi r8), (3, vi L8), (5, vi 43)] (lsub_cons rfl (lsub_cons rfl (lsub_cons rfl (lsub_cons rfl (lsub_cons rfl (lsub_cons rfl (lsub_cons rfl lsub_nil))))))) (q_iload c_10_124 rfl ?_)))))))
      refine q_iconst c_10_126 (v_iadd (v := 48) c_10_127 (by decide) (q_istore c_10_128 (Nat.le_of_ble_eq_true rfl) (v_iinc (v := 48) c_10_130 rfl (Nat.le_of_ble_eq_true rfl) (by decide) (q_goto (t := 52) c_10_133 rfl (q_iload c_10_52 rfl (q_aload_n c_10_54 rfl (v_sln 47 c_10_55 rfl (by omega) (Nat.le_of_ble_eq_true rfl) (by decide) (by decide) ?_)))))))
      refine v_ic_gt_t (t := 136) c_10_58 rfl (by decide) (q_aload_n c_10_136 rfl (q_iconst c_10_137 (q_iload_n c_10_138 rfl (v_cv c_10_139 km_5_52 rfl rfl (Nat.le_of_ble_eq_true rfl) ⟨⟨rfl, rfl⟩, Nat.le_of_ble_eq_true rfl, rfl⟩ (Nat.le_of_ble_eq_true rfl) (Nat.le_of_ble_eq_true rfl) (q_aload_n c_7_0 rfl (v_gi (z := 4) (v := f9) c_7_1 kf_5_38 rfl (Nat.le_of_ble_eq_true rfl) rfl rfl (hv2) (v_if_ne_f (t := 17) c_7_4 rfl (by first | (clear h_1 h_2 h_3 h_4 h_5 h_11 h_12; omega) | omega) ?_)))))))
      refine q_aload_n c_7_7 rfl (q_iload_n c_7_8 rfl (v_pi (z := 4) c_7_9 kf_5_38 rfl (Nat.le_of_ble_eq_true rfl) rfl rfl rfl (by decide) (q_aload_n c_7_12 rfl (q_iload_n c_7_13 rfl (v_pi (z := 5) c_7_14 kf_5_15 rfl (Nat.le_of_ble_eq_true rfl) rfl rfl rfl (by decide) (q_vret rfl rfl (bk_inl ?_)))))))
      refine q_iconst c_10_142 (q_iret c_10_143 rfl ?_)
      have hw9 : W8 = (-1) := hdW8.symm.trans (wd1_9_f (by omega))
      have hI_38 := iw_1_4 (v := 1) hI ⟨by decide, by decide⟩
      have hI_39 := iw_1_5 (v := r8) hI_38 ⟨by first | (clear h_1 h_2 h_3 h_4 h_5 h_11 hw9 h_12; omega) | omega, by first | (clear h_1 h_2 h_3 h_4 h_11 hw9 h_12; omega) | omega⟩
      have h_40 : (up (up c 1 4 1) 1 5 r8) 1 2 = a9 := ((up_n (by decide)).trans ((up_n (by decide)).trans (hv1)))
      have h_41 : (up (up c 1 4 1) 1 5 r8) 1 4 = 1 := ((up_n (by decide)).trans (up_e rfl))
      have h_42 : (up (up c 1 4 1) 1 5 r8) 1 5 = r8 := (up_e rfl)
      exact zv (by omega) (K0 (up (up c 1 4 1) 1 5 r8) hI_39 (fun a j hm => (up_b (Decidable.or_iff_not_imp_left.mpr (fun h1 h2 => hm (Or.inr (Or.inr ⟨Decidable.not_not.mp h1, h2⟩))))).trans (up_b (Decidable.or_iff_not_imp_left.mpr (fun h1 h2 => hm (Or.inr (Or.inl ⟨Decidable.not_not.mp h1, h2⟩)))))) (by omega) (by omega) (by omega) (by omega))

set_option maxRecDepth 100000 in
set_option maxHeartbeats 4000000 in
theorem f_10_1_8 {sc : List Int32} {e : Int} {d u P Q : Nat} {c : ME} {e1 a9 f9 p9 W8 r8 L8 : Int} {B : Int → Int} {Z : AR → Prop} (hI : Iv u e P Q c) (hq0 : (f9 = 0)) (hq1 : (r8 ≥ 0 ∧ r8 ≤ L8 ∧ L8 ≤ 600)) (hv0 : c 1 1 = e1) (hv1 : c 1 2 = a9) (hv2 : c 1 4 = f9) (hv3 : c 1 5 = p9) (hB : ∀ j : Int, c 2 j = B j) (hdW8 : wd1_8 B r8 L8 = W8) (K0 : ∀ c2 : ME, Iv u e P Q c2 → (∀ (a : Nat) (j : Int), ¬ ((a = 1 ∧ j = 2) ∨ (a = 1 ∧ j = 4) ∨ (a = 1 ∧ j = 5)) → c2 a j = c a j) → ((W8 = (-1))) → (c2 1 2 = a9) → (c2 1 4 = 1) → (c2 1 5 = r8) → Z (.inl (some (vi (-1))), Wd P Q P P c2, 0, 0)) (K1 : ∀ c2 : ME, Iv u e P Q c2 → (∀ (a : Nat) (j : Int), ¬ ((a = 1 ∧ j = 2) ∨ (a = 1 ∧ j = 4) ∨ (a = 1 ∧ j = 5)) → c2 a j = c a j) → ((W8 ≥ 0 ∧ W8 ≤ 9)) → (c2 1 2 = L8) → (c2 1 4 = 0) → (c2 1 5 = p9) → Z (.inl (some (vi W8)), Wd P Q P P c2, 0, 0)) : Wp sc (d + 12) 10 52 [(0, .ref 1), (1, .ref (a_SB + 1)), (2, vi r8), (3, vi L8), (4, vi 8), (5, vi 37), (6, vi 37)] [] (Wd P Q P P c) 0 0 Z := by
  have hP := iv_P hI
  have hQ := iv_Q hI
  have h_1 := ir_1_1 hI
  have h_2 := ir_1_2 hI
  have h_3 := ir_1_4 hI
  have h_4 := ir_1_5 hI
  refine q_iload c_10_52 rfl (q_aload_n c_10_54 rfl (v_sln 47 c_10_55 rfl (by omega) (Nat.le_of_ble_eq_true rfl) (by decide) (by decide) (v_ic_gt_f (t := 136) c_10_58 rfl (by decide) (q_aload_n c_10_61 rfl (v_cv c_10_62 km_5_45 rfl rfl (Nat.le_of_ble_eq_true rfl) ⟨⟨rfl, rfl⟩, Nat.le_of_ble_eq_true rfl, rfl⟩ (Nat.le_of_ble_eq_true rfl) (Nat.le_of_ble_eq_true rfl) (q_aload_n c_2_0 rfl (v_gi (z := 4) (v := f9) c_2_1 kf_5_38 rfl (Nat.le_of_ble_eq_true rfl) rfl rfl (hv2) ?_)))))))
  refine v_if_ne_f (t := 11) c_2_4 rfl (by omega) (q_iconst c_2_7 (q_goto (t := 12) c_2_8 rfl (v_zret c_2_12 rfl (by decide) (bk_inl (v_if_eq_f (t := 136) c_10_65 rfl (by decide) (q_iload c_10_68 rfl (q_aload_n c_10_70 rfl ?_)))))))
  refine v_sln 47 c_10_71 rfl (by omega) (Nat.le_of_ble_eq_true rfl) (by decide) (by decide) (v_ic_eq_f (t := 88) c_10_74 rfl (by decide) (q_aload_n c_10_77 rfl (q_iload c_10_78 rfl (v_sch 108 c_10_80 rfl (by omega) (Nat.le_of_ble_eq_true rfl) (by decide) (by decide) (by decide) (v_bip c_10_83 (by decide) (v_ic_ne_t (t := 130) c_10_85 rfl (by decide) (v_iinc (v := 38) c_10_130 rfl (Nat.le_of_ble_eq_true rfl) (by decide) ?_)))))))
  refine q_goto (t := 52) c_10_133 rfl (q_iload c_10_52 rfl (q_aload_n c_10_54 rfl (v_sln 47 c_10_55 rfl (by omega) (Nat.le_of_ble_eq_true rfl) (by decide) (by decide) (v_ic_gt_f (t := 136) c_10_58 rfl (by decide) (q_aload_n c_10_61 rfl (v_cv c_10_62 km_5_45 rfl rfl (Nat.le_of_ble_eq_true rfl) ⟨⟨rfl, rfl⟩, Nat.le_of_ble_eq_true rfl, rfl⟩ (Nat.le_of_ble_eq_true rfl) (Nat.le_of_ble_eq_true rfl) (q_aload_n c_2_0 rfl ?_)))))))
  refine v_gi (z := 4) (v := f9) c_2_1 kf_5_38 rfl (Nat.le_of_ble_eq_true rfl) rfl rfl (hv2) (v_if_ne_f (t := 11) c_2_4 rfl (by omega) (q_iconst c_2_7 (q_goto (t := 12) c_2_8 rfl (v_zret c_2_12 rfl (by decide) (bk_inl (v_if_eq_f (t := 136) c_10_65 rfl (by decide) (q_iload c_10_68 rfl ?_)))))))
  refine q_aload_n c_10_70 rfl (v_sln 47 c_10_71 rfl (by omega) (Nat.le_of_ble_eq_true rfl) (by decide) (by decide) (v_ic_eq_f (t := 88) c_10_74 rfl (by decide) (q_aload_n c_10_77 rfl (q_iload c_10_78 rfl (v_sch 101 c_10_80 rfl (by omega) (Nat.le_of_ble_eq_true rfl) (by decide) (by decide) (by decide) (v_bip c_10_83 (by decide) (v_ic_ne_t (t := 130) c_10_85 rfl (by decide) ?_)))))))
  refine v_iinc (v := 39) c_10_130 rfl (Nat.le_of_ble_eq_true rfl) (by decide) (q_goto (t := 52) c_10_133 rfl (q_iload c_10_52 rfl (q_aload_n c_10_54 rfl (v_sln 47 c_10_55 rfl (by omega) (Nat.le_of_ble_eq_true rfl) (by decide) (by decide) (v_ic_gt_f (t := 136) c_10_58 rfl (by decide) (q_aload_n c_10_61 rfl (v_cv c_10_62 km_5_45 rfl rfl (Nat.le_of_ble_eq_true rfl) ⟨⟨rfl, rfl⟩, Nat.le_of_ble_eq_true rfl, rfl⟩ (Nat.le_of_ble_eq_true rfl) (Nat.le_of_ble_eq_true rfl) ?_)))))))
  refine q_aload_n c_2_0 rfl (v_gi (z := 4) (v := f9) c_2_1 kf_5_38 rfl (Nat.le_of_ble_eq_true rfl) rfl rfl (hv2) (v_if_ne_f (t := 11) c_2_4 rfl (by omega) (q_iconst c_2_7 (q_goto (t := 12) c_2_8 rfl (v_zret c_2_12 rfl (by decide) (bk_inl (v_if_eq_f (t := 136) c_10_65 rfl (by decide) ?_)))))))
  refine q_iload c_10_68 rfl (q_aload_n c_10_70 rfl (v_sln 47 c_10_71 rfl (by omega) (Nat.le_of_ble_eq_true rfl) (by decide) (by decide) (v_ic_eq_f (t := 88) c_10_74 rfl (by decide) (q_aload_n c_10_77 rfl (q_iload c_10_78 rfl (v_sch 97 c_10_80 rfl (by omega) (Nat.le_of_ble_eq_true rfl) (by decide) (by decide) (by decide) (v_bip c_10_83 (by decide) ?_)))))))
  refine v_ic_ne_t (t := 130) c_10_85 rfl (by decide) (v_iinc (v := 40) c_10_130 rfl (Nat.le_of_ble_eq_true rfl) (by decide) (q_goto (t := 52) c_10_133 rfl (q_iload c_10_52 rfl (q_aload_n c_10_54 rfl (v_sln 47 c_10_55 rfl (by omega) (Nat.le_of_ble_eq_true rfl) (by decide) (by decide) (v_ic_gt_f (t := 136) c_10_58 rfl (by decide) (q_aload_n c_10_61 rfl ?_)))))))
  refine v_cv c_10_62 km_5_45 rfl rfl (Nat.le_of_ble_eq_true rfl) ⟨⟨rfl, rfl⟩, Nat.le_of_ble_eq_true rfl, rfl⟩ (Nat.le_of_ble_eq_true rfl) (Nat.le_of_ble_eq_true rfl) (q_aload_n c_2_0 rfl (v_gi (z := 4) (v := f9) c_2_1 kf_5_38 rfl (Nat.le_of_ble_eq_true rfl) rfl rfl (hv2) (v_if_ne_f (t := 11) c_2_4 rfl (by omega) (q_iconst c_2_7 (q_goto (t := 12) c_2_8 rfl (v_zret c_2_12 rfl (by decide) (bk_inl ?_)))))))
  refine v_if_eq_f (t := 136) c_10_65 rfl (by decide) (q_iload c_10_68 rfl (q_aload_n c_10_70 rfl (v_sln 47 c_10_71 rfl (by omega) (Nat.le_of_ble_eq_true rfl) (by decide) (by decide) (v_ic_eq_f (t := 88) c_10_74 rfl (by decide) (q_aload_n c_10_77 rfl (q_iload c_10_78 rfl (v_sch 115 c_10_80 rfl (by omega) (Nat.le_of_ble_eq_true rfl) (by decide) (by decide) (by decide) ?_)))))))
  refine v_bip c_10_83 (by decide) (v_ic_ne_t (t := 130) c_10_85 rfl (by decide) (v_iinc (v := 41) c_10_130 rfl (Nat.le_of_ble_eq_true rfl) (by decide) (q_goto (t := 52) c_10_133 rfl (q_iload c_10_52 rfl (q_aload_n c_10_54 rfl (v_sln 47 c_10_55 rfl (by omega) (Nat.le_of_ble_eq_true rfl) (by decide) (by decide) (v_ic_gt_f (t := 136) c_10_58 rfl (by decide) ?_)))))))
  refine q_aload_n c_10_61 rfl (v_cv c_10_62 km_5_45 rfl rfl (Nat.le_of_ble_eq_true rfl) ⟨⟨rfl, rfl⟩, Nat.le_of_ble_eq_true rfl, rfl⟩ (Nat.le_of_ble_eq_true rfl) (Nat.le_of_ble_eq_true rfl) (q_aload_n c_2_0 rfl (v_gi (z := 4) (v := f9) c_2_1 kf_5_38 rfl (Nat.le_of_ble_eq_true rfl) rfl rfl (hv2) (v_if_ne_f (t := 11) c_2_4 rfl (by omega) (q_iconst c_2_7 (q_goto (t := 12) c_2_8 rfl (v_zret c_2_12 rfl (by decide) ?_)))))))
  refine bk_inl (v_if_eq_f (t := 136) c_10_65 rfl (by decide) (q_iload c_10_68 rfl (q_aload_n c_10_70 rfl (v_sln 47 c_10_71 rfl (by omega) (Nat.le_of_ble_eq_true rfl) (by decide) (by decide) (v_ic_eq_f (t := 88) c_10_74 rfl (by decide) (q_aload_n c_10_77 rfl (q_iload c_10_78 rfl ?_)))))))
  refine v_sch 116 c_10_80 rfl (by omega) (Nat.le_of_ble_eq_true rfl) (by decide) (by decide) (by decide) (v_bip c_10_83 (by decide) (v_ic_ne_t (t := 130) c_10_85 rfl (by decide) (v_iinc (v := 42) c_10_130 rfl (Nat.le_of_ble_eq_true rfl) (by decide) (Wp_ls [(6, vi 42), (0, .ref 1), (1, .ref (a_SB + 1)), (2, vi r8), (3, vi L8), (4, vi 8), (5, vi 37)] (lsub_cons rfl (lsub_cons rfl (lsub_cons rfl (lsub_cons rfl (lsub_cons rfl (lsub_cons rfl (lsub_cons rfl lsub_nil))))))) (q_goto (t := 52) c_10_133 rfl (q_iload c_10_52 rfl (q_aload_n c_10_54 rfl ?_)))))))
  refine v_sln 47 c_10_55 rfl (by omega) (Nat.le_of_ble_eq_true rfl) (by decide) (by decide) (v_ic_gt_f (t := 136) c_10_58 rfl (by decide) (q_aload_n c_10_61 rfl (v_cv c_10_62 km_5_45 rfl rfl (Nat.le_of_ble_eq_true rfl) ⟨⟨rfl, rfl⟩, Nat.le_of_ble_eq_true rfl, rfl⟩ (Nat.le_of_ble_eq_true rfl) (Nat.le_of_ble_eq_true rfl) (q_aload_n c_2_0 rfl (v_gi (z := 4) (v := f9) c_2_1 kf_5_38 rfl (Nat.le_of_ble_eq_true rfl) rfl rfl (hv2) (v_if_ne_f (t := 11) c_2_4 rfl (by omega) (q_iconst c_2_7 ?_)))))))
  refine q_goto (t := 12) c_2_8 rfl (v_zret c_2_12 rfl (by decide) (bk_inl (v_if_eq_f (t := 136) c_10_65 rfl (by decide) (q_iload c_10_68 rfl (q_aload_n c_10_70 rfl (v_sln 47 c_10_71 rfl (by omega) (Nat.le_of_ble_eq_true rfl) (by decide) (by decide) (v_ic_eq_f (t := 88) c_10_74 rfl (by decide) ?_)))))))
  refine q_aload_n c_10_77 rfl (q_iload c_10_78 rfl (v_sch 32 c_10_80 rfl (by omega) (Nat.le_of_ble_eq_true rfl) (by decide) (by decide) (by decide) (v_bip c_10_83 (by decide) (v_ic_ne_f (t := 130) c_10_85 rfl (by decide) (q_iload c_10_88 rfl (q_iload c_10_90 rfl (v_isub (v := 5) c_10_92 (by decide) ?_)))))))
  refine q_iload_n c_10_93 rfl (q_iload_n c_10_94 rfl (v_isub (v := L8 - r8) c_10_95 rfl ?_))
  by_cases h_5 : 5 ≠ L8 - r8
  · refine v_ic_ne_t (t := 121) c_10_96 rfl ⟨h_5, ⟨by decide, by decide⟩, by omega, by omega⟩ (v_iinc (v := 9) c_10_121 rfl (Nat.le_of_ble_eq_true rfl) (by decide) (q_iload c_10_124 rfl (q_iconst c_10_126 (v_iadd (v := 43) c_10_127 (by decide) (q_istore c_10_128 (Nat.le_of_ble_eq_true rfl) (v_iinc (v := 43) c_10_130 rfl (Nat.le_of_ble_eq_true rfl) (by decide) (q_goto (t := 52) c_10_133 rfl ?_)))))))
    refine Wp_ls [(0, .ref 1), (1, .ref (a_SB + 1)), (2, vi r8), (3, vi L8), (4, vi 9), (5, vi 43), (6, vi 43)] (lsub_cons rfl (lsub_cons rfl (lsub_cons rfl (lsub_cons rfl (lsub_cons rfl (lsub_cons rfl (lsub_cons rfl lsub_nil))))))) ?_
    exact f_10_1_9 (d := d) (r8 := r8) (L8 := L8) (W8 := W8) hI hq0 hq1 hv0 hv1 hv2 hv3 hB ((wd1_8_f (by omega)).symm.trans hdW8) K0 K1
  · refine v_ic_ne_f (t := 121) c_10_96 rfl (Decidable.not_not.mp h_5) (q_aload_n c_10_99 rfl (q_aload_n c_10_100 rfl (q_iload c_10_101 rfl (q_iload_n c_10_103 rfl (q_iload_n c_10_104 rfl (q_iload_n c_10_105 rfl (v_isub (v := L8 - r8) c_10_106 rfl ?_)))))))
    refine v_cv c_10_107 km_5_73 rfl rfl (Nat.le_of_ble_eq_true rfl) ⟨⟨rfl, rfl⟩, Nat.le_of_ble_eq_true rfl, rfl⟩ (Nat.le_of_ble_eq_true rfl) (Nat.le_of_ble_eq_true rfl) (q_iconst c_9_0 (q_istore c_9_1 (Nat.le_of_ble_eq_true rfl) (q_iload c_9_3 rfl (q_iload c_9_5 rfl (v_ic_ge_f (t := 38) c_9_7 rfl ⟨by decide, by first | exact q_38a4b4bff h_5 | omega, by first | exact q_fe3598997 h_5 | omega⟩ (q_aload_n c_9_10 rfl (q_iload_n c_9_11 rfl ?_)))))))
    refine q_iload c_9_12 rfl (v_iadd (v := 37) c_9_14 (by decide) (v_sch 108 c_9_15 rfl (by omega) (Nat.le_of_ble_eq_true rfl) (by decide) (by decide) (by decide) (q_aload_n c_9_18 rfl (v_gr (t := 2) c_9_19 kf_5_9 rfl (Nat.le_of_ble_eq_true rfl) rfl (q_iload_n c_9_22 rfl (q_iload c_9_23 rfl (v_iadd (v := r8) c_9_25 (by omega) ?_)))))))
    have h_6 : -2147483648 ≤ (B r8) ∧ (B r8) ≤ 2147483647 := by rw [← hB r8]; exact ir_2 hI r8
    refine v_ba (v := (B r8)) c_9_26 rfl (by decide) (by decide) (by omega) (hB r8) ?_
    by_cases h_7 : 108 = (B r8)
    · refine v_ic_eq_t (t := 32) c_9_27 rfl h_7 (v_iinc (v := 1) c_9_32 rfl (Nat.le_of_ble_eq_true rfl) (by decide) (q_goto (t := 3) c_9_35 rfl (q_iload c_9_3 rfl (q_iload c_9_5 rfl (v_ic_ge_f (t := 38) c_9_7 rfl ⟨by decide, by first | exact q_2f422e7b9 h_5 | omega, by first | exact q_fe3598997 h_5 | omega⟩ (q_aload_n c_9_10 rfl (q_iload_n c_9_11 rfl ?_)))))))
      refine q_iload c_9_12 rfl (v_iadd (v := 38) c_9_14 (by decide) (v_sch 101 c_9_15 rfl (by omega) (Nat.le_of_ble_eq_true rfl) (by decide) (by decide) (by decide) (q_aload_n c_9_18 rfl (v_gr (t := 2) c_9_19 kf_5_9 rfl (Nat.le_of_ble_eq_true rfl) rfl (q_iload_n c_9_22 rfl (q_iload c_9_23 rfl (v_iadd (v := r8 + 1) c_9_25 rfl ?_)))))))
      have h_8 : -2147483648 ≤ (B (r8 + 1)) ∧ (B (r8 + 1)) ≤ 2147483647 := by rw [← hB (r8 + 1)]; exact ir_2 hI (r8 + 1)
      refine v_ba (v := (B (r8 + 1))) c_9_26 rfl (by decide) (by decide) (by omega) (hB (r8 + 1)) ?_
      by_cases h_9 : 101 = (B (r8 + 1))
      · refine v_ic_eq_t (t := 32) c_9_27 rfl h_9 (v_iinc (v := 2) c_9_32 rfl (Nat.le_of_ble_eq_true rfl) (by decide) (q_goto (t := 3) c_9_35 rfl (q_iload c_9_3 rfl (q_iload c_9_5 rfl (v_ic_ge_f (t := 38) c_9_7 rfl ⟨by decide, by first | exact q_415b3b712 h_5 | omega, by first | exact q_fe3598997 h_5 | omega⟩ (q_aload_n c_9_10 rfl (q_iload_n c_9_11 rfl ?_)))))))
        refine q_iload c_9_12 rfl (v_iadd (v := 39) c_9_14 (by decide) (v_sch 97 c_9_15 rfl (by omega) (Nat.le_of_ble_eq_true rfl) (by decide) (by decide) (by decide) (q_aload_n c_9_18 rfl (v_gr (t := 2) c_9_19 kf_5_9 rfl (Nat.le_of_ble_eq_true rfl) rfl (q_iload_n c_9_22 rfl (q_iload c_9_23 rfl (v_iadd (v := r8 + 2) c_9_25 rfl ?_)))))))
        have h_10 : -2147483648 ≤ (B (r8 + 2)) ∧ (B (r8 + 2)) ≤ 2147483647 := by rw [← hB (r8 + 2)]; exact ir_2 hI (r8 + 2)
        refine v_ba (v := (B (r8 + 2))) c_9_26 rfl (by decide) (by decide) (by omega) (hB (r8 + 2)) ?_
        by_cases h_11 : 97 = (B (r8 + 2))
        · refine v_ic_eq_t (t := 32) c_9_27 rfl h_11 (v_iinc (v := 3) c_9_32 rfl (Nat.le_of_ble_eq_true rfl) (by decide) (q_goto (t := 3) c_9_35 rfl (q_iload c_9_3 rfl (q_iload c_9_5 rfl (v_ic_ge_f (t := 38) c_9_7 rfl ⟨by decide, by first | exact q_170273d75 h_5 | omega, by first | exact q_fe3598997 h_5 | omega⟩ (q_aload_n c_9_10 rfl (q_iload_n c_9_11 rfl ?_)))))))
          refine q_iload c_9_12 rfl (v_iadd (v := 40) c_9_14 (by decide) (v_sch 115 c_9_15 rfl (by omega) (Nat.le_of_ble_eq_true rfl) (by decide) (by decide) (by decide) (q_aload_n c_9_18 rfl (v_gr (t := 2) c_9_19 kf_5_9 rfl (Nat.le_of_ble_eq_true rfl) rfl (q_iload_n c_9_22 rfl (q_iload c_9_23 rfl (v_iadd (v := r8 + 3) c_9_25 rfl ?_)))))))
          have h_12 : -2147483648 ≤ (B (r8 + 3)) ∧ (B (r8 + 3)) ≤ 2147483647 := by rw [← hB (r8 + 3)]; exact ir_2 hI (r8 + 3)
          refine v_ba (v := (B (r8 + 3))) c_9_26 rfl (by decide) (by decide) (by omega) (hB (r8 + 3)) ?_
          by_cases h_13 : 115 = (B (r8 + 3))
          · refine v_ic_eq_t (t := 32) c_9_27 rfl h_13 (v_iinc (v := 4) c_9_32 rfl (Nat.le_of_ble_eq_true rfl) (by decide) (Wp_ls [(5, vi 4), (0, .ref 1), (1, .ref (a_SB + 1)), (2, vi 37), (3, vi r8), (4, vi (L8 - r8))] (lsub_cons rfl (lsub_cons rfl (lsub_cons rfl (lsub_cons rfl (lsub_cons rfl (lsub_cons rfl lsub_nil)))))) (q_goto (t := 3) c_9_35 rfl (q_iload c_9_3 rfl (q_iload c_9_5 rfl (v_ic_ge_f (t := 38) c_9_7 rfl ⟨by decide, by first | exact q_9d61d9b81 h_5 | omega, by first | exact q_fe3598997 h_5 | omega⟩ (q_aload_n c_9_10 rfl ?_)))))))
            refine q_iload_n c_9_11 rfl (q_iload c_9_12 rfl (v_iadd (v := 41) c_9_14 (by decide) (v_sch 116 c_9_15 rfl (by omega) (Nat.le_of_ble_eq_true rfl) (by decide) (by decide) (by decide) (q_aload_n c_9_18 rfl (v_gr (t := 2) c_9_19 kf_5_9 rfl (Nat.le_of_ble_eq_true rfl) rfl (q_iload_n c_9_22 rfl (q_iload c_9_23 rfl ?_)))))))
            refine v_iadd (v := r8 + 4) c_9_25 rfl ?_
            have h_14 : -2147483648 ≤ (B (r8 + 4)) ∧ (B (r8 + 4)) ≤ 2147483647 := by rw [← hB (r8 + 4)]; exact ir_2 hI (r8 + 4)
            refine v_ba (v := (B (r8 + 4))) c_9_26 rfl (by decide) (by decide) ⟨by first | (clear h_1 h_2 h_3 h_4 h_5 h_6 h_7 h_8 h_9 h_10 h_11 h_12 h_13 h_14; omega) | omega, by first | (clear h_1 h_2 h_3 h_4 h_6 h_7 h_8 h_9 h_10 h_11 h_12 h_13 h_14; omega) | omega⟩ (hB (r8 + 4)) ?_
            by_cases h_15 : 116 = (B (r8 + 4))
            · refine v_ic_eq_t (t := 32) c_9_27 rfl h_15 (v_iinc (v := 5) c_9_32 rfl (Nat.le_of_ble_eq_true rfl) (by decide) (q_goto (t := 3) c_9_35 rfl (q_iload c_9_3 rfl (q_iload c_9_5 rfl (v_ic_ge_t (t := 38) c_9_7 rfl ⟨by first | exact q_c439bfa43 h_5 | (clear h_1 h_2 h_3 h_4 h_6 h_7 h_8 h_9 h_10 h_11 h_12 h_13 h_14 h_15; omega) | omega, by first | exact q_fc9a05b17 h_5 | (clear h_1 h_2 h_3 h_4 h_6 h_7 h_8 h_9 h_10 h_11 h_12 h_13 h_14 h_15; omega) | omega, by decide⟩ (q_iconst c_9_38 (v_zret c_9_39 rfl (by decide) ?_)))))))
              refine bk_inl (v_if_eq_f (t := 121) c_10_110 rfl (by decide) (q_aload_n c_10_113 rfl (q_iload_n c_10_114 rfl (v_pi (z := 2) c_10_115 kf_5_35 rfl (Nat.le_of_ble_eq_true rfl) rfl rfl rfl (by decide) (q_iload c_10_118 rfl (q_iret c_10_120 rfl ?_))))))
              have hw9 : W8 = 8 := hdW8.symm.trans (wd1_8_t (by omega))
              have hI_16 := iw_1_2 (v := L8) hI ⟨by first | (clear h_1 h_2 h_3 h_4 h_6 h_7 h_8 h_9 h_10 h_11 h_12 h_13 h_14 h_15 hw9; omega) | omega, by first | (clear h_1 h_2 h_3 h_4 h_5 h_6 h_7 h_8 h_9 h_10 h_11 h_12 h_13 h_14 h_15 hw9; omega) | omega⟩
              have h_17 : (up c 1 2 L8) 1 2 = L8 := (up_e rfl)
              have h_18 : (up c 1 2 L8) 1 4 = f9 := ((up_n (by decide)).trans (hv2))
              have h_19 : (up c 1 2 L8) 1 5 = p9 := ((up_n (by decide)).trans (hv3))
              exact zv (by omega) (K1 (up c 1 2 L8) hI_16 (fun a j hm => up_b (Decidable.or_iff_not_imp_left.mpr (fun h1 h2 => hm (Or.inl ⟨Decidable.not_not.mp h1, h2⟩)))) (by omega) (by omega) (by omega) (by omega))
            · refine v_ic_eq_f (t := 32) c_9_27 rfl ⟨h_15, ⟨by decide, by decide⟩, by first | exact q_f97c35332 h_14 | (clear h_1 h_2 h_3 h_4 h_5 h_6 h_7 h_8 h_9 h_10 h_11 h_12 h_13; omega) | omega, by first | exact q_79e53d295 h_14 | (clear h_1 h_2 h_3 h_4 h_5 h_6 h_7 h_8 h_9 h_10 h_11 h_12 h_13; omega) | omega⟩ (q_iconst c_9_30 (v_zret c_9_31 rfl (by decide) (bk_inl (v_if_eq_t (t := 121) c_10_110 rfl (by decide) (v_iinc (v := 9) c_10_121 rfl (Nat.le_of_ble_eq_true rfl) (by decide) (q_iload c_10_124 rfl (q_iconst c_10_126 ?_)))))))
              refine v_iadd (v := 43) c_10_127 (by decide) (q_istore c_10_128 (Nat.le_of_ble_eq_true rfl) (v_iinc (v := 43) c_10_130 rfl (Nat.le_of_ble_eq_true rfl) (by decide) (q_goto (t := 52) c_10_133 rfl (Wp_ls [(0, .ref 1), (1, .ref (a_SB + 1)), (2, vi r8), (3, vi L8), (4, vi 9), (5, vi 43), (6, vi 43)] (lsub_cons rfl (lsub_cons rfl (lsub_cons rfl (lsub_cons rfl (lsub_cons rfl (lsub_cons rfl (lsub_cons rfl lsub_nil))))))) ?_))))
              exact f_10_1_9 (d := d) (r8 := r8) (L8 := L8) (W8 := W8) hI hq0 hq1 hv0 hv1 hv2 hv3 hB ((wd1_8_f (by omega)).symm.trans hdW8) K0 K1
          · refine v_ic_eq_f (t := 32) c_9_27 rfl ⟨h_13, ⟨by decide, by decide⟩, by first | exact q_f97c35332 h_12 | omega, by first | exact q_79e53d295 h_12 | omega⟩ (q_iconst c_9_30 (v_zret c_9_31 rfl (by decide) (bk_inl (v_if_eq_t (t := 121) c_10_110 rfl (by decide) (v_iinc (v := 9) c_10_121 rfl (Nat.le_of_ble_eq_true rfl) (by decide) (q_iload c_10_124 rfl (q_iconst c_10_126 ?_)))))))
            refine v_iadd (v := 43) c_10_127 (by decide) (q_istore c_10_128 (Nat.le_of_ble_eq_true rfl) (v_iinc (v := 43) c_10_130 rfl (Nat.le_of_ble_eq_true rfl) (by decide) (q_goto (t := 52) c_10_133 rfl (Wp_ls [(0, .ref 1), (1, .ref (a_SB + 1)), (2, vi r8), (3, vi L8), (4, vi 9), (5, vi 43), (6, vi 43)] (lsub_cons rfl (lsub_cons rfl (lsub_cons rfl (lsub_cons rfl (lsub_cons rfl (lsub_cons rfl (lsub_cons rfl lsub_nil))))))) ?_))))
            exact f_10_1_9 (d := d) (r8 := r8) (L8 := L8) (W8 := W8) hI hq0 hq1 hv0 hv1 hv2 hv3 hB ((wd1_8_f (by omega)).symm.trans hdW8) K0 K1
        · refine v_ic_eq_f (t := 32) c_9_27 rfl ⟨h_11, ⟨by decide, by decide⟩, by first | exact q_f97c35332 h_10 | omega, by first | exact q_79e53d295 h_10 | omega⟩ (q_iconst c_9_30 (v_zret c_9_31 rfl (by decide) (bk_inl (v_if_eq_t (t := 121) c_10_110 rfl (by decide) (v_iinc (v := 9) c_10_121 rfl (Nat.le_of_ble_eq_true rfl) (by decide) (q_iload c_10_124 rfl (q_iconst c_10_126 ?_)))))))
          refine v_iadd (v := 43) c_10_127 (by decide) (q_istore c_10_128 (Nat.le_of_ble_eq_true rfl) (v_iinc (v := 43) c_10_130 rfl (Nat.le_of_ble_eq_true rfl) (by decide) (q_goto (t := 52) c_10_133 rfl (Wp_ls [(0, .ref 1), (1, .ref (a_SB + 1)), (2, vi r8), (3, vi L8), (4, vi 9), (5, vi 43), (6, vi 43)] (lsub_cons rfl (lsub_cons rfl (lsub_cons rfl (lsub_cons rfl (lsub_cons rfl (lsub_cons rfl (lsub_cons rfl lsub_nil))))))) ?_))))
          exact f_10_1_9 (d := d) (r8 := r8) (L8 := L8) (W8 := W8) hI hq0 hq1 hv0 hv1 hv2 hv3 hB ((wd1_8_f (by omega)).symm.trans hdW8) K0 K1
      · refine v_ic_eq_f (t := 32) c_9_27 rfl ⟨h_9, ⟨by decide, by decide⟩, by first | exact q_f97c35332 h_8 | omega, by first | exact q_79e53d295 h_8 | omega⟩ (q_iconst c_9_30 (v_zret c_9_31 rfl (by decide) (bk_inl (v_if_eq_t (t := 121) c_10_110 rfl (by decide) (v_iinc (v := 9) c_10_121 rfl (Nat.le_of_ble_eq_true rfl) (by decide) (q_iload c_10_124 rfl (q_iconst c_10_126 ?_)))))))
        refine v_iadd (v := 43) c_10_127 (by decide) (q_istore c_10_128 (Nat.le_of_ble_eq_true rfl) (v_iinc (v := 43) c_10_130 rfl (Nat.le_of_ble_eq_true rfl) (by decide) (q_goto (t := 52) c_10_133 rfl (Wp_ls [(0, .ref 1), (1, .ref (a_SB + 1)), (2, vi r8), (3, vi L8), (4, vi 9), (5, vi 43), (6, vi 43)] (lsub_cons rfl (lsub_cons rfl (lsub_cons rfl (lsub_cons rfl (lsub_cons rfl (lsub_cons rfl (lsub_cons rfl lsub_nil))))))) ?_))))
        exact f_10_1_9 (d := d) (r8 := r8) (L8 := L8) (W8 := W8) hI hq0 hq1 hv0 hv1 hv2 hv3 hB ((wd1_8_f (by omega)).symm.trans hdW8) K0 K1
    · refine v_ic_eq_f (t := 32) c_9_27 rfl ⟨h_7, ⟨by decide, by decide⟩, by first | exact q_f97c35332 h_6 | omega, by first | exact q_79e53d295 h_6 | omega⟩ (q_iconst c_9_30 (v_zret c_9_31 rfl (by decide) (bk_inl (v_if_eq_t (t := 121) c_10_110 rfl (by decide) (v_iinc (v := 9) c_10_121 rfl (Nat.le_of_ble_eq_true rfl) (by decide) (q_iload c_10_124 rfl (q_iconst c_10_126 ?_)))))))
      refine v_iadd (v := 43) c_10_127 (by decide) (q_istore c_10_128 (Nat.le_of_ble_eq_true rfl) (v_iinc (v := 43) c_10_130 rfl (Nat.le_of_ble_eq_true rfl) (by decide) (q_goto (t := 52) c_10_133 rfl (Wp_ls [(0, .ref 1), (1, .ref (a_SB + 1)), (2, vi r8), (3, vi L8), (4, vi 9), (5, vi 43), (6, vi 43)] (lsub_cons rfl (lsub_cons rfl (lsub_cons rfl (lsub_cons rfl (lsub_cons rfl (lsub_cons rfl (lsub_cons rfl lsub_nil))))))) ?_))))
      exact f_10_1_9 (d := d) (r8 := r8) (L8 := L8) (W8 := W8) hI hq0 hq1 hv0 hv1 hv2 hv3 hB ((wd1_8_f (by omega)).symm.trans hdW8) K0 K1

set_option maxRecDepth 100000 in
set_option maxHeartbeats 4000000 in
theorem f_10_1_7 {sc : List Int32} {e : Int} {d u P Q : Nat} {c : ME} {e1 a9 f9 p9 W8 r8 L8 : Int} {B : Int → Int} {Z : AR → Prop} (hI : Iv u e P Q c) (hq0 : (f9 = 0)) (hq1 : (r8 ≥ 0 ∧ r8 ≤ L8 ∧ L8 ≤ 600)) (hv0 : c 1 1 = e1) (hv1 : c 1 2 = a9) (hv2 : c 1 4 = f9) (hv3 : c 1 5 = p9) (hB : ∀ j : Int, c 2 j = B j) (hdW8 : wd1_7 B r8 L8 = W8) (K0 : ∀ c2 : ME, Iv u e P Q c2 → (∀ (a : Nat) (j : Int), ¬ ((a = 1 ∧ j = 2) ∨ (a = 1 ∧ j = 4) ∨ (a = 1 ∧ j = 5)) → c2 a j = c a j) → ((W8 = (-1))) → (c2 1 2 = a9) → (c2 1 4 = 1) → (c2 1 5 = r8) → Z (.inl (some (vi (-1))), Wd P Q P P c2, 0, 0)) (K1 : ∀ c2 : ME, Iv u e P Q c2 → (∀ (a : Nat) (j : Int), ¬ ((a = 1 ∧ j = 2) ∨ (a = 1 ∧ j = 4) ∨ (a = 1 ∧ j = 5)) → c2 a j = c a j) → ((W8 ≥ 0 ∧ W8 ≤ 9)) → (c2 1 2 = L8) → (c2 1 4 = 0) → (c2 1 5 = p9) → Z (.inl (some (vi W8)), Wd P Q P P c2, 0, 0)) : Wp sc (d + 12) 10 52 [(0, .ref 1), (1, .ref (a_SB + 1)), (2, vi r8), (3, vi L8), (4, vi 7), (5, vi 33), (6, vi 33)] [] (Wd P Q P P c) 0 0 Z := by
  have hP := iv_P hI
  have hQ := iv_Q hI
  have h_1 := ir_1_1 hI
  have h_2 := ir_1_2 hI
  have h_3 := ir_1_4 hI
  have h_4 := ir_1_5 hI
  refine q_iload c_10_52 rfl (q_aload_n c_10_54 rfl (v_sln 47 c_10_55 rfl (by omega) (Nat.le_of_ble_eq_true rfl) (by decide) (by decide) (v_ic_gt_f (t := 136) c_10_58 rfl (by decide) (q_aload_n c_10_61 rfl (v_cv c_10_62 km_5_45 rfl rfl (Nat.le_of_ble_eq_true rfl) ⟨⟨rfl, rfl⟩, Nat.le_of_ble_eq_true rfl, rfl⟩ (Nat.le_of_ble_eq_true rfl) (Nat.le_of_ble_eq_true rfl) (q_aload_n c_2_0 rfl (v_gi (z := 4) (v := f9) c_2_1 kf_5_38 rfl (Nat.le_of_ble_eq_true rfl) rfl rfl (hv2) ?_)))))))
  refine v_if_ne_f (t := 11) c_2_4 rfl (by omega) (q_iconst c_2_7 (q_goto (t := 12) c_2_8 rfl (v_zret c_2_12 rfl (by decide) (bk_inl (v_if_eq_f (t := 136) c_10_65 rfl (by decide) (q_iload c_10_68 rfl (q_aload_n c_10_70 rfl ?_)))))))
  refine v_sln 47 c_10_71 rfl (by omega) (Nat.le_of_ble_eq_true rfl) (by decide) (by decide) (v_ic_eq_f (t := 88) c_10_74 rfl (by decide) (q_aload_n c_10_77 rfl (q_iload c_10_78 rfl (v_sch 106 c_10_80 rfl (by omega) (Nat.le_of_ble_eq_true rfl) (by decide) (by decide) (by decide) (v_bip c_10_83 (by decide) (v_ic_ne_t (t := 130) c_10_85 rfl (by decide) (v_iinc (v := 34) c_10_130 rfl (Nat.le_of_ble_eq_true rfl) (by decide) ?_)))))))
  refine q_goto (t := 52) c_10_133 rfl (q_iload c_10_52 rfl (q_aload_n c_10_54 rfl (v_sln 47 c_10_55 rfl (by omega) (Nat.le_of_ble_eq_true rfl) (by decide) (by decide) (v_ic_gt_f (t := 136) c_10_58 rfl (by decide) (q_aload_n c_10_61 rfl (v_cv c_10_62 km_5_45 rfl rfl (Nat.le_of_ble_eq_true rfl) ⟨⟨rfl, rfl⟩, Nat.le_of_ble_eq_true rfl, rfl⟩ (Nat.le_of_ble_eq_true rfl) (Nat.le_of_ble_eq_true rfl) (q_aload_n c_2_0 rfl ?_)))))))
  refine v_gi (z := 4) (v := f9) c_2_1 kf_5_38 rfl (Nat.le_of_ble_eq_true rfl) rfl rfl (hv2) (v_if_ne_f (t := 11) c_2_4 rfl (by omega) (q_iconst c_2_7 (q_goto (t := 12) c_2_8 rfl (v_zret c_2_12 rfl (by decide) (bk_inl (v_if_eq_f (t := 136) c_10_65 rfl (by decide) (q_iload c_10_68 rfl ?_)))))))
  refine q_aload_n c_10_70 rfl (v_sln 47 c_10_71 rfl (by omega) (Nat.le_of_ble_eq_true rfl) (by decide) (by decide) (v_ic_eq_f (t := 88) c_10_74 rfl (by decide) (q_aload_n c_10_77 rfl (q_iload c_10_78 rfl (v_sch 97 c_10_80 rfl (by omega) (Nat.le_of_ble_eq_true rfl) (by decide) (by decide) (by decide) (v_bip c_10_83 (by decide) (v_ic_ne_t (t := 130) c_10_85 rfl (by decide) ?_)))))))
  refine v_iinc (v := 35) c_10_130 rfl (Nat.le_of_ble_eq_true rfl) (by decide) (q_goto (t := 52) c_10_133 rfl (q_iload c_10_52 rfl (q_aload_n c_10_54 rfl (v_sln 47 c_10_55 rfl (by omega) (Nat.le_of_ble_eq_true rfl) (by decide) (by decide) (v_ic_gt_f (t := 136) c_10_58 rfl (by decide) (q_aload_n c_10_61 rfl (v_cv c_10_62 km_5_45 rfl rfl (Nat.le_of_ble_eq_true rfl) ⟨⟨rfl, rfl⟩, Nat.le_of_ble_eq_true rfl, rfl⟩ (Nat.le_of_ble_eq_true rfl) (Nat.le_of_ble_eq_true rfl) ?_)))))))
  refine q_aload_n c_2_0 rfl (v_gi (z := 4) (v := f9) c_2_1 kf_5_38 rfl (Nat.le_of_ble_eq_true rfl) rfl rfl (hv2) (v_if_ne_f (t := 11) c_2_4 rfl (by omega) (q_iconst c_2_7 (q_goto (t := 12) c_2_8 rfl (v_zret c_2_12 rfl (by decide) (bk_inl (v_if_eq_f (t := 136) c_10_65 rfl (by decide) ?_)))))))
  refine q_iload c_10_68 rfl (q_aload_n c_10_70 rfl (v_sln 47 c_10_71 rfl (by omega) (Nat.le_of_ble_eq_true rfl) (by decide) (by decide) (v_ic_eq_f (t := 88) c_10_74 rfl (by decide) (q_aload_n c_10_77 rfl (q_iload c_10_78 rfl (v_sch 114 c_10_80 rfl (by omega) (Nat.le_of_ble_eq_true rfl) (by decide) (by decide) (by decide) (v_bip c_10_83 (by decide) ?_)))))))
  refine v_ic_ne_t (t := 130) c_10_85 rfl (by decide) (v_iinc (v := 36) c_10_130 rfl (Nat.le_of_ble_eq_true rfl) (by decide) (q_goto (t := 52) c_10_133 rfl (q_iload c_10_52 rfl (q_aload_n c_10_54 rfl (v_sln 47 c_10_55 rfl (by omega) (Nat.le_of_ble_eq_true rfl) (by decide) (by decide) (v_ic_gt_f (t := 136) c_10_58 rfl (by decide) (q_aload_n c_10_61 rfl ?_)))))))
  refine v_cv c_10_62 km_5_45 rfl rfl (Nat.le_of_ble_eq_true rfl) ⟨⟨rfl, rfl⟩, Nat.le_of_ble_eq_true rfl, rfl⟩ (Nat.le_of_ble_eq_true rfl) (Nat.le_of_ble_eq_true rfl) (q_aload_n c_2_0 rfl (v_gi (z := 4) (v := f9) c_2_1 kf_5_38 rfl (Nat.le_of_ble_eq_true rfl) rfl rfl (hv2) (v_if_ne_f (t := 11) c_2_4 rfl (by omega) (q_iconst c_2_7 (q_goto (t := 12) c_2_8 rfl (v_zret c_2_12 rfl (by decide) (bk_inl ?_)))))))
  refine v_if_eq_f (t := 136) c_10_65 rfl (by decide) (q_iload c_10_68 rfl (q_aload_n c_10_70 rfl (v_sln 47 c_10_71 rfl (by omega) (Nat.le_of_ble_eq_true rfl) (by decide) (by decide) (v_ic_eq_f (t := 88) c_10_74 rfl (by decide) (q_aload_n c_10_77 rfl (q_iload c_10_78 rfl (v_sch 32 c_10_80 rfl (by omega) (Nat.le_of_ble_eq_true rfl) (by decide) (by decide) (by decide) ?_)))))))
  refine v_bip c_10_83 (by decide) (v_ic_ne_f (t := 130) c_10_85 rfl (by decide) (q_iload c_10_88 rfl (q_iload c_10_90 rfl (v_isub (v := 3) c_10_92 (by decide) (q_iload_n c_10_93 rfl (q_iload_n c_10_94 rfl (v_isub (v := L8 - r8) c_10_95 rfl ?_)))))))
  by_cases h_5 : 3 ≠ L8 - r8
  · refine v_ic_ne_t (t := 121) c_10_96 rfl ⟨h_5, ⟨by decide, by decide⟩, by omega, by omega⟩ (v_iinc (v := 8) c_10_121 rfl (Nat.le_of_ble_eq_true rfl) (by decide) (q_iload c_10_124 rfl (q_iconst c_10_126 (v_iadd (v := 37) c_10_127 (by decide) (q_istore c_10_128 (Nat.le_of_ble_eq_true rfl) (Wp_ls [(5, vi 37), (4, vi 8), (6, vi 36), (0, .ref 1), (1, .ref (a_SB + 1)), (2, vi r8), (3, vi L8)] (lsub_cons rfl (lsub_cons rfl (lsub_cons rfl (lsub_cons rfl (lsub_cons rfl (lsub_cons rfl (lsub_cons rfl lsub_nil))))))) (v_iinc (v := 37) c_10_130 rfl (Nat.le_of_ble_eq_true rfl) (by decide) ?_)))))))
    refine q_goto (t := 52) c_10_133 rfl (Wp_ls [(0, .ref 1), (1, .ref (a_SB + 1)), (2, vi r8), (3, vi L8), (4, vi 8), (5, vi 37), (6, vi 37)] (lsub_cons rfl (lsub_cons rfl (lsub_cons rfl (lsub_cons rfl (lsub_cons rfl (lsub_cons rfl (lsub_cons rfl lsub_nil))))))) ?_)
    exact f_10_1_8 (d := d) (r8 := r8) (L8 := L8) (W8 := W8) hI hq0 hq1 hv0 hv1 hv2 hv3 hB ((wd1_7_f (by omega)).symm.trans hdW8) K0 K1
  · refine v_ic_ne_f (t := 121) c_10_96 rfl (Decidable.not_not.mp h_5) (q_aload_n c_10_99 rfl (q_aload_n c_10_100 rfl (q_iload c_10_101 rfl (q_iload_n c_10_103 rfl (q_iload_n c_10_104 rfl (q_iload_n c_10_105 rfl (v_isub (v := L8 - r8) c_10_106 rfl ?_)))))))
    refine v_cv c_10_107 km_5_73 rfl rfl (Nat.le_of_ble_eq_true rfl) ⟨⟨rfl, rfl⟩, Nat.le_of_ble_eq_true rfl, rfl⟩ (Nat.le_of_ble_eq_true rfl) (Nat.le_of_ble_eq_true rfl) (q_iconst c_9_0 (q_istore c_9_1 (Nat.le_of_ble_eq_true rfl) (q_iload c_9_3 rfl (q_iload c_9_5 rfl (v_ic_ge_f (t := 38) c_9_7 rfl ⟨by decide, by first | exact q_8d10d25b6 h_5 | omega, by first | exact q_22d63526a h_5 | omega⟩ (q_aload_n c_9_10 rfl (q_iload_n c_9_11 rfl ?_)))))))
    refine q_iload c_9_12 rfl (v_iadd (v := 33) c_9_14 (by decide) (v_sch 106 c_9_15 rfl (by omega) (Nat.le_of_ble_eq_true rfl) (by decide) (by decide) (by decide) (q_aload_n c_9_18 rfl (v_gr (t := 2) c_9_19 kf_5_9 rfl (Nat.le_of_ble_eq_true rfl) rfl (q_iload_n c_9_22 rfl (q_iload c_9_23 rfl (v_iadd (v := r8) c_9_25 (by omega) ?_)))))))
    have h_6 : -2147483648 ≤ (B r8) ∧ (B r8) ≤ 2147483647 := by rw [← hB r8]; exact ir_2 hI r8
    refine v_ba (v := (B r8)) c_9_26 rfl (by decide) (by decide) (by omega) (hB r8) ?_
    by_cases h_7 : 106 = (B r8)
    · refine v_ic_eq_t (t := 32) c_9_27 rfl h_7 (v_iinc (v := 1) c_9_32 rfl (Nat.le_of_ble_eq_true rfl) (by decide) (q_goto (t := 3) c_9_35 rfl (q_iload c_9_3 rfl (q_iload c_9_5 rfl (v_ic_ge_f (t := 38) c_9_7 rfl ⟨by decide, by first | exact q_f1d336e40 h_5 | omega, by first | exact q_22d63526a h_5 | omega⟩ (q_aload_n c_9_10 rfl (q_iload_n c_9_11 rfl ?_)))))))
      refine q_iload c_9_12 rfl (v_iadd (v := 34) c_9_14 (by decide) (v_sch 97 c_9_15 rfl (by omega) (Nat.le_of_ble_eq_true rfl) (by decide) (by decide) (by decide) (q_aload_n c_9_18 rfl (v_gr (t := 2) c_9_19 kf_5_9 rfl (Nat.le_of_ble_eq_true rfl) rfl (q_iload_n c_9_22 rfl (q_iload c_9_23 rfl (v_iadd (v := r8 + 1) c_9_25 rfl ?_)))))))
      have h_8 : -2147483648 ≤ (B (r8 + 1)) ∧ (B (r8 + 1)) ≤ 2147483647 := by rw [← hB (r8 + 1)]; exact ir_2 hI (r8 + 1)
      refine v_ba (v := (B (r8 + 1))) c_9_26 rfl (by decide) (by decide) (by omega) (hB (r8 + 1)) ?_
      by_cases h_9 : 97 = (B (r8 + 1))
      · refine v_ic_eq_t (t := 32) c_9_27 rfl h_9 (v_iinc (v := 2) c_9_32 rfl (Nat.le_of_ble_eq_true rfl) (by decide) (q_goto (t := 3) c_9_35 rfl (q_iload c_9_3 rfl (q_iload c_9_5 rfl (v_ic_ge_f (t := 38) c_9_7 rfl ⟨by decide, by first | exact q_3cb5391db h_5 | omega, by first | exact q_22d63526a h_5 | omega⟩ (q_aload_n c_9_10 rfl (q_iload_n c_9_11 rfl ?_)))))))
        refine q_iload c_9_12 rfl (v_iadd (v := 35) c_9_14 (by decide) (v_sch 114 c_9_15 rfl (by omega) (Nat.le_of_ble_eq_true rfl) (by decide) (by decide) (by decide) (q_aload_n c_9_18 rfl (v_gr (t := 2) c_9_19 kf_5_9 rfl (Nat.le_of_ble_eq_true rfl) rfl (q_iload_n c_9_22 rfl (q_iload c_9_23 rfl (v_iadd (v := r8 + 2) c_9_25 rfl ?_)))))))
        have h_10 : -2147483648 ≤ (B (r8 + 2)) ∧ (B (r8 + 2)) ≤ 2147483647 := by rw [← hB (r8 + 2)]; exact ir_2 hI (r8 + 2)
        refine v_ba (v := (B (r8 + 2))) c_9_26 rfl (by decide) (by decide) (by omega) (hB (r8 + 2)) ?_
        by_cases h_11 : 114 = (B (r8 + 2))
        · refine v_ic_eq_t (t := 32) c_9_27 rfl h_11 (v_iinc (v := 3) c_9_32 rfl (Nat.le_of_ble_eq_true rfl) (by decide) (q_goto (t := 3) c_9_35 rfl (q_iload c_9_3 rfl (q_iload c_9_5 rfl (v_ic_ge_t (t := 38) c_9_7 rfl ⟨by first | exact q_2271afefa h_5 | omega, by first | exact q_8e661bf2d h_5 | omega, by decide⟩ (q_iconst c_9_38 (v_zret c_9_39 rfl (by decide) ?_)))))))
          refine bk_inl (v_if_eq_f (t := 121) c_10_110 rfl (by decide) (q_aload_n c_10_113 rfl (q_iload_n c_10_114 rfl (v_pi (z := 2) c_10_115 kf_5_35 rfl (Nat.le_of_ble_eq_true rfl) rfl rfl rfl (by decide) (q_iload c_10_118 rfl (q_iret c_10_120 rfl ?_))))))
          have hw9 : W8 = 7 := hdW8.symm.trans (wd1_7_t (by omega))
          have hI_12 := iw_1_2 (v := L8) hI ⟨by omega, by omega⟩
          have h_13 : (up c 1 2 L8) 1 2 = L8 := (up_e rfl)
          have h_14 : (up c 1 2 L8) 1 4 = f9 := ((up_n (by decide)).trans (hv2))
          have h_15 : (up c 1 2 L8) 1 5 = p9 := ((up_n (by decide)).trans (hv3))
          exact zv (by omega) (K1 (up c 1 2 L8) hI_12 (fun a j hm => up_b (Decidable.or_iff_not_imp_left.mpr (fun h1 h2 => hm (Or.inl ⟨Decidable.not_not.mp h1, h2⟩)))) (by omega) (by omega) (by omega) (by omega))
        · refine v_ic_eq_f (t := 32) c_9_27 rfl ⟨h_11, ⟨by decide, by decide⟩, by first | exact q_f97c35332 h_10 | omega, by first | exact q_79e53d295 h_10 | omega⟩ (q_iconst c_9_30 (v_zret c_9_31 rfl (by decide) (bk_inl (v_if_eq_t (t := 121) c_10_110 rfl (by decide) (v_iinc (v := 8) c_10_121 rfl (Nat.le_of_ble_eq_true rfl) (by decide) (q_iload c_10_124 rfl (q_iconst c_10_126 ?_)))))))
          refine v_iadd (v := 37) c_10_127 (by decide) (q_istore c_10_128 (Nat.le_of_ble_eq_true rfl) (Wp_ls [(5, vi 37), (4, vi 8), (6, vi 36), (0, .ref 1), (1, .ref (a_SB + 1)), (2, vi r8), (3, vi L8)] (lsub_cons rfl (lsub_cons rfl (lsub_cons rfl (lsub_cons rfl (lsub_cons rfl (lsub_cons rfl (lsub_cons rfl lsub_nil))))))) (v_iinc (v := 37) c_10_130 rfl (Nat.le_of_ble_eq_true rfl) (by decide) (q_goto (t := 52) c_10_133 rfl (Wp_ls [(0, .ref 1), (1, .ref (a_SB + 1)), (2, vi r8), (3, vi L8), (4, vi 8), (5, vi 37), (6, vi 37)] (lsub_cons rfl (lsub_cons rfl (lsub_cons rfl (lsub_cons rfl (lsub_cons rfl (lsub_cons rfl (lsub_cons rfl lsub_nil))))))) ?_)))))
          exact f_10_1_8 (d := d) (r8 := r8) (L8 := L8) (W8 := W8) hI hq0 hq1 hv0 hv1 hv2 hv3 hB ((wd1_7_f (by omega)).symm.trans hdW8) K0 K1
      · refine v_ic_eq_f (t := 32) c_9_27 rfl ⟨h_9, ⟨by decide, by decide⟩, by first | exact q_f97c35332 h_8 | omega, by first | exact q_79e53d295 h_8 | omega⟩ (q_iconst c_9_30 (v_zret c_9_31 rfl (by decide) (bk_inl (v_if_eq_t (t := 121) c_10_110 rfl (by decide) (v_iinc (v := 8) c_10_121 rfl (Nat.le_of_ble_eq_true rfl) (by decide) (q_iload c_10_124 rfl (q_iconst c_10_126 ?_)))))))
        refine v_iadd (v := 37) c_10_127 (by decide) (q_istore c_10_128 (Nat.le_of_ble_eq_true rfl) (Wp_ls [(5, vi 37), (4, vi 8), (6, vi 36), (0, .ref 1), (1, .ref (a_SB + 1)), (2, vi r8), (3, vi L8)] (lsub_cons rfl (lsub_cons rfl (lsub_cons rfl (lsub_cons rfl (lsub_cons rfl (lsub_cons rfl (lsub_cons rfl lsub_nil))))))) (v_iinc (v := 37) c_10_130 rfl (Nat.le_of_ble_eq_true rfl) (by decide) (q_goto (t := 52) c_10_133 rfl (Wp_ls [(0, .ref 1), (1, .ref (a_SB + 1)), (2, vi r8), (3, vi L8), (4, vi 8), (5, vi 37), (6, vi 37)] (lsub_cons rfl (lsub_cons rfl (lsub_cons rfl (lsub_cons rfl (lsub_cons rfl (lsub_cons rfl (lsub_cons rfl lsub_nil))))))) ?_)))))
        exact f_10_1_8 (d := d) (r8 := r8) (L8 := L8) (W8 := W8) hI hq0 hq1 hv0 hv1 hv2 hv3 hB ((wd1_7_f (by omega)).symm.trans hdW8) K0 K1
    · refine v_ic_eq_f (t := 32) c_9_27 rfl ⟨h_7, ⟨by decide, by decide⟩, by first | exact q_f97c35332 h_6 | omega, by first | exact q_79e53d295 h_6 | omega⟩ (q_iconst c_9_30 (v_zret c_9_31 rfl (by decide) (bk_inl (v_if_eq_t (t := 121) c_10_110 rfl (by decide) (v_iinc (v := 8) c_10_121 rfl (Nat.le_of_ble_eq_true rfl) (by decide) (q_iload c_10_124 rfl (q_iconst c_10_126 ?_)))))))
      refine v_iadd (v := 37) c_10_127 (by decide) (q_istore c_10_128 (Nat.le_of_ble_eq_true rfl) (Wp_ls [(5, vi 37), (4, vi 8), (6, vi 36), (0, .ref 1), (1, .ref (a_SB + 1)), (2, vi r8), (3, vi L8)] (lsub_cons rfl (lsub_cons rfl (lsub_cons rfl (lsub_cons rfl (lsub_cons rfl (lsub_cons rfl (lsub_cons rfl lsub_nil))))))) (v_iinc (v := 37) c_10_130 rfl (Nat.le_of_ble_eq_true rfl) (by decide) (q_goto (t := 52) c_10_133 rfl (Wp_ls [(0, .ref 1), (1, .ref (a_SB + 1)), (2, vi r8), (3, vi L8), (4, vi 8), (5, vi 37), (6, vi 37)] (lsub_cons rfl (lsub_cons rfl (lsub_cons rfl (lsub_cons rfl (lsub_cons rfl (lsub_cons rfl (lsub_cons rfl lsub_nil))))))) ?_)))))
      exact f_10_1_8 (d := d) (r8 := r8) (L8 := L8) (W8 := W8) hI hq0 hq1 hv0 hv1 hv2 hv3 hB ((wd1_7_f (by omega)).symm.trans hdW8) K0 K1

set_option maxRecDepth 100000 in
set_option maxHeartbeats 4000000 in
theorem f_10_1_6 {sc : List Int32} {e : Int} {d u P Q : Nat} {c : ME} {e1 a9 f9 p9 W8 r8 L8 : Int} {B : Int → Int} {Z : AR → Prop} (hI : Iv u e P Q c) (hq0 : (f9 = 0)) (hq1 : (r8 ≥ 0 ∧ r8 ≤ L8 ∧ L8 ≤ 600)) (hv0 : c 1 1 = e1) (hv1 : c 1 2 = a9) (hv2 : c 1 4 = f9) (hv3 : c 1 5 = p9) (hB : ∀ j : Int, c 2 j = B j) (hdW8 : wd1_6 B r8 L8 = W8) (K0 : ∀ c2 : ME, Iv u e P Q c2 → (∀ (a : Nat) (j : Int), ¬ ((a = 1 ∧ j = 2) ∨ (a = 1 ∧ j = 4) ∨ (a = 1 ∧ j = 5)) → c2 a j = c a j) → ((W8 = (-1))) → (c2 1 2 = a9) → (c2 1 4 = 1) → (c2 1 5 = r8) → Z (.inl (some (vi (-1))), Wd P Q P P c2, 0, 0)) (K1 : ∀ c2 : ME, Iv u e P Q c2 → (∀ (a : Nat) (j : Int), ¬ ((a = 1 ∧ j = 2) ∨ (a = 1 ∧ j = 4) ∨ (a = 1 ∧ j = 5)) → c2 a j = c a j) → ((W8 ≥ 0 ∧ W8 ≤ 9)) → (c2 1 2 = L8) → (c2 1 4 = 0) → (c2 1 5 = p9) → Z (.inl (some (vi W8)), Wd P Q P P c2, 0, 0)) : Wp sc (d + 12) 10 52 [(0, .ref 1), (1, .ref (a_SB + 1)), (2, vi r8), (3, vi L8), (4, vi 6), (5, vi 29), (6, vi 29)] [] (Wd P Q P P c) 0 0 Z := by
  have hP := iv_P hI
  have hQ := iv_Q hI
  have h_1 := ir_1_1 hI
  have h_2 := ir_1_2 hI
  have h_3 := ir_1_4 hI
  have h_4 := ir_1_5 hI
  refine q_iload c_10_52 rfl (q_aload_n c_10_54 rfl (v_sln 47 c_10_55 rfl (by omega) (Nat.le_of_ble_eq_true rfl) (by decide) (by decide) (v_ic_gt_f (t := 136) c_10_58 rfl (by decide) (q_aload_n c_10_61 rfl (v_cv c_10_62 km_5_45 rfl rfl (Nat.le_of_ble_eq_true rfl) ⟨⟨rfl, rfl⟩, Nat.le_of_ble_eq_true rfl, rfl⟩ (Nat.le_of_ble_eq_true rfl) (Nat.le_of_ble_eq_true rfl) (q_aload_n c_2_0 rfl (v_gi (z := 4) (v := f9) c_2_1 kf_5_38 rfl (Nat.le_of_ble_eq_true rfl) rfl rfl (hv2) ?_)))))))
  refine v_if_ne_f (t := 11) c_2_4 rfl (by omega) (q_iconst c_2_7 (q_goto (t := 12) c_2_8 rfl (v_zret c_2_12 rfl (by decide) (bk_inl (v_if_eq_f (t := 136) c_10_65 rfl (by decide) (q_iload c_10_68 rfl (q_aload_n c_10_70 rfl ?_)))))))
  refine v_sln 47 c_10_71 rfl (by omega) (Nat.le_of_ble_eq_true rfl) (by decide) (by decide) (v_ic_eq_f (t := 88) c_10_74 rfl (by decide) (q_aload_n c_10_77 rfl (q_iload c_10_78 rfl (v_sch 100 c_10_80 rfl (by omega) (Nat.le_of_ble_eq_true rfl) (by decide) (by decide) (by decide) (v_bip c_10_83 (by decide) (v_ic_ne_t (t := 130) c_10_85 rfl (by decide) (v_iinc (v := 30) c_10_130 rfl (Nat.le_of_ble_eq_true rfl) (by decide) ?_)))))))
  refine q_goto (t := 52) c_10_133 rfl (q_iload c_10_52 rfl (q_aload_n c_10_54 rfl (v_sln 47 c_10_55 rfl (by omega) (Nat.le_of_ble_eq_true rfl) (by decide) (by decide) (v_ic_gt_f (t := 136) c_10_58 rfl (by decide) (q_aload_n c_10_61 rfl (v_cv c_10_62 km_5_45 rfl rfl (Nat.le_of_ble_eq_true rfl) ⟨⟨rfl, rfl⟩, Nat.le_of_ble_eq_true rfl, rfl⟩ (Nat.le_of_ble_eq_true rfl) (Nat.le_of_ble_eq_true rfl) (q_aload_n c_2_0 rfl ?_)))))))
  refine v_gi (z := 4) (v := f9) c_2_1 kf_5_38 rfl (Nat.le_of_ble_eq_true rfl) rfl rfl (hv2) (v_if_ne_f (t := 11) c_2_4 rfl (by omega) (q_iconst c_2_7 (q_goto (t := 12) c_2_8 rfl (v_zret c_2_12 rfl (by decide) (bk_inl (v_if_eq_f (t := 136) c_10_65 rfl (by decide) (q_iload c_10_68 rfl ?_)))))))
  refine q_aload_n c_10_70 rfl (v_sln 47 c_10_71 rfl (by omega) (Nat.le_of_ble_eq_true rfl) (by decide) (by decide) (v_ic_eq_f (t := 88) c_10_74 rfl (by decide) (q_aload_n c_10_77 rfl (q_iload c_10_78 rfl (v_sch 97 c_10_80 rfl (by omega) (Nat.le_of_ble_eq_true rfl) (by decide) (by decide) (by decide) (v_bip c_10_83 (by decide) (v_ic_ne_t (t := 130) c_10_85 rfl (by decide) ?_)))))))
  refine v_iinc (v := 31) c_10_130 rfl (Nat.le_of_ble_eq_true rfl) (by decide) (q_goto (t := 52) c_10_133 rfl (q_iload c_10_52 rfl (q_aload_n c_10_54 rfl (v_sln 47 c_10_55 rfl (by omega) (Nat.le_of_ble_eq_true rfl) (by decide) (by decide) (v_ic_gt_f (t := 136) c_10_58 rfl (by decide) (q_aload_n c_10_61 rfl (v_cv c_10_62 km_5_45 rfl rfl (Nat.le_of_ble_eq_true rfl) ⟨⟨rfl, rfl⟩, Nat.le_of_ble_eq_true rfl, rfl⟩ (Nat.le_of_ble_eq_true rfl) (Nat.le_of_ble_eq_true rfl) ?_)))))))
  refine q_aload_n c_2_0 rfl (v_gi (z := 4) (v := f9) c_2_1 kf_5_38 rfl (Nat.le_of_ble_eq_true rfl) rfl rfl (hv2) (v_if_ne_f (t := 11) c_2_4 rfl (by omega) (q_iconst c_2_7 (q_goto (t := 12) c_2_8 rfl (v_zret c_2_12 rfl (by decide) (bk_inl (v_if_eq_f (t := 136) c_10_65 rfl (by decide) ?_)))))))
  refine q_iload c_10_68 rfl (q_aload_n c_10_70 rfl (v_sln 47 c_10_71 rfl (by omega) (Nat.le_of_ble_eq_true rfl) (by decide) (by decide) (v_ic_eq_f (t := 88) c_10_74 rfl (by decide) (q_aload_n c_10_77 rfl (q_iload c_10_78 rfl (v_sch 121 c_10_80 rfl (by omega) (Nat.le_of_ble_eq_true rfl) (by decide) (by decide) (by decide) (v_bip c_10_83 (by decide) ?_)))))))
  refine v_ic_ne_t (t := 130) c_10_85 rfl (by decide) (v_iinc (v := 32) c_10_130 rfl (Nat.le_of_ble_eq_true rfl) (by decide) (q_goto (t := 52) c_10_133 rfl (q_iload c_10_52 rfl (q_aload_n c_10_54 rfl (v_sln 47 c_10_55 rfl (by omega) (Nat.le_of_ble_eq_true rfl) (by decide) (by decide) (v_ic_gt_f (t := 136) c_10_58 rfl (by decide) (q_aload_n c_10_61 rfl ?_)))))))
  refine v_cv c_10_62 km_5_45 rfl rfl (Nat.le_of_ble_eq_true rfl) ⟨⟨rfl, rfl⟩, Nat.le_of_ble_eq_true rfl, rfl⟩ (Nat.le_of_ble_eq_true rfl) (Nat.le_of_ble_eq_true rfl) (q_aload_n c_2_0 rfl (v_gi (z := 4) (v := f9) c_2_1 kf_5_38 rfl (Nat.le_of_ble_eq_true rfl) rfl rfl (hv2) (v_if_ne_f (t := 11) c_2_4 rfl (by omega) (q_iconst c_2_7 (q_goto (t := 12) c_2_8 rfl (v_zret c_2_12 rfl (by decide) (bk_inl ?_)))))))
  refine v_if_eq_f (t := 136) c_10_65 rfl (by decide) (q_iload c_10_68 rfl (q_aload_n c_10_70 rfl (v_sln 47 c_10_71 rfl (by omega) (Nat.le_of_ble_eq_true rfl) (by decide) (by decide) (v_ic_eq_f (t := 88) c_10_74 rfl (by decide) (q_aload_n c_10_77 rfl (q_iload c_10_78 rfl (v_sch 32 c_10_80 rfl (by omega) (Nat.le_of_ble_eq_true rfl) (by decide) (by decide) (by decide) ?_)))))))
  refine v_bip c_10_83 (by decide) (v_ic_ne_f (t := 130) c_10_85 rfl (by decide) (q_iload c_10_88 rfl (q_iload c_10_90 rfl (v_isub (v := 3) c_10_92 (by decide) (q_iload_n c_10_93 rfl (q_iload_n c_10_94 rfl (v_isub (v := L8 - r8) c_10_95 rfl ?_)))))))
  by_cases h_5 : 3 ≠ L8 - r8
  · refine v_ic_ne_t (t := 121) c_10_96 rfl ⟨h_5, ⟨by decide, by decide⟩, by omega, by omega⟩ (v_iinc (v := 7) c_10_121 rfl (Nat.le_of_ble_eq_true rfl) (by decide) (q_iload c_10_124 rfl (q_iconst c_10_126 (v_iadd (v := 33) c_10_127 (by decide) (q_istore c_10_128 (Nat.le_of_ble_eq_true rfl) (Wp_ls [(5, vi 33), (4, vi 7), (6, vi 32), (0, .ref 1), (1, .ref (a_SB + 1)), (2, vi r8), (3, vi L8)] (lsub_cons rfl (lsub_cons rfl (lsub_cons rfl (lsub_cons rfl (lsub_cons rfl (lsub_cons rfl (lsub_cons rfl lsub_nil))))))) (v_iinc (v := 33) c_10_130 rfl (Nat.le_of_ble_eq_true rfl) (by decide) ?_)))))))
    refine q_goto (t := 52) c_10_133 rfl (Wp_ls [(0, .ref 1), (1, .ref (a_SB + 1)), (2, vi r8), (3, vi L8), (4, vi 7), (5, vi 33), (6, vi 33)] (lsub_cons rfl (lsub_cons rfl (lsub_cons rfl (lsub_cons rfl (lsub_cons rfl (lsub_cons rfl (lsub_cons rfl lsub_nil))))))) ?_)
    exact f_10_1_7 (d := d) (r8 := r8) (L8 := L8) (W8 := W8) hI hq0 hq1 hv0 hv1 hv2 hv3 hB ((wd1_6_f (by omega)).symm.trans hdW8) K0 K1
  · refine v_ic_ne_f (t := 121) c_10_96 rfl (Decidable.not_not.mp h_5) (q_aload_n c_10_99 rfl (q_aload_n c_10_100 rfl (q_iload c_10_101 rfl (q_iload_n c_10_103 rfl (q_iload_n c_10_104 rfl (q_iload_n c_10_105 rfl (v_isub (v := L8 - r8) c_10_106 rfl ?_)))))))
    refine v_cv c_10_107 km_5_73 rfl rfl (Nat.le_of_ble_eq_true rfl) ⟨⟨rfl, rfl⟩, Nat.le_of_ble_eq_true rfl, rfl⟩ (Nat.le_of_ble_eq_true rfl) (Nat.le_of_ble_eq_true rfl) (q_iconst c_9_0 (q_istore c_9_1 (Nat.le_of_ble_eq_true rfl) (q_iload c_9_3 rfl (q_iload c_9_5 rfl (v_ic_ge_f (t := 38) c_9_7 rfl ⟨by decide, by first | exact q_8d10d25b6 h_5 | omega, by first | exact q_22d63526a h_5 | omega⟩ (q_aload_n c_9_10 rfl (q_iload_n c_9_11 rfl ?_)))))))
    refine q_iload c_9_12 rfl (v_iadd (v := 29) c_9_14 (by decide) (v_sch 100 c_9_15 rfl (by omega) (Nat.le_of_ble_eq_true rfl) (by decide) (by decide) (by decide) (q_aload_n c_9_18 rfl (v_gr (t := 2) c_9_19 kf_5_9 rfl (Nat.le_of_ble_eq_true rfl) rfl (q_iload_n c_9_22 rfl (q_iload c_9_23 rfl (v_iadd (v := r8) c_9_25 (by omega) ?_)))))))
    have h_6 : -2147483648 ≤ (B r8) ∧ (B r8) ≤ 2147483647 := by rw [← hB r8]; exact ir_2 hI r8
    refine v_ba (v := (B r8)) c_9_26 rfl (by decide) (by decide) (by omega) (hB r8) ?_
    by_cases h_7 : 100 = (B r8)
    · refine v_ic_eq_t (t := 32) c_9_27 rfl h_7 (v_iinc (v := 1) c_9_32 rfl (Nat.le_of_ble_eq_true rfl) (by decide) (q_goto (t := 3) c_9_35 rfl (q_iload c_9_3 rfl (q_iload c_9_5 rfl (v_ic_ge_f (t := 38) c_9_7 rfl ⟨by decide, by first | exact q_f1d336e40 h_5 | omega, by first | exact q_22d63526a h_5 | omega⟩ (q_aload_n c_9_10 rfl (q_iload_n c_9_11 rfl ?_)))))))
      refine q_iload c_9_12 rfl (v_iadd (v := 30) c_9_14 (by decide) (v_sch 97 c_9_15 rfl (by omega) (Nat.le_of_ble_eq_true rfl) (by decide) (by decide) (by decide) (q_aload_n c_9_18 rfl (v_gr (t := 2) c_9_19 kf_5_9 rfl (Nat.le_of_ble_eq_true rfl) rfl (q_iload_n c_9_22 rfl (q_iload c_9_23 rfl (v_iadd (v := r8 + 1) c_9_25 rfl ?_)))))))
      have h_8 : -2147483648 ≤ (B (r8 + 1)) ∧ (B (r8 + 1)) ≤ 2147483647 := by rw [← hB (r8 + 1)]; exact ir_2 hI (r8 + 1)
      refine v_ba (v := (B (r8 + 1))) c_9_26 rfl (by decide) (by decide) (by omega) (hB (r8 + 1)) ?_
      by_cases h_9 : 97 = (B (r8 + 1))
      · refine v_ic_eq_t (t := 32) c_9_27 rfl h_9 (v_iinc (v := 2) c_9_32 rfl (Nat.le_of_ble_eq_true rfl) (by decide) (q_goto (t := 3) c_9_35 rfl (q_iload c_9_3 rfl (q_iload c_9_5 rfl (v_ic_ge_f (t := 38) c_9_7 rfl ⟨by decide, by first | exact q_3cb5391db h_5 | omega, by first | exact q_22d63526a h_5 | omega⟩ (q_aload_n c_9_10 rfl (q_iload_n c_9_11 rfl ?_)))))))
        refine q_iload c_9_12 rfl (v_iadd (v := 31) c_9_14 (by decide) (v_sch 121 c_9_15 rfl (by omega) (Nat.le_of_ble_eq_true rfl) (by decide) (by decide) (by decide) (q_aload_n c_9_18 rfl (v_gr (t := 2) c_9_19 kf_5_9 rfl (Nat.le_of_ble_eq_true rfl) rfl (q_iload_n c_9_22 rfl (q_iload c_9_23 rfl (v_iadd (v := r8 + 2) c_9_25 rfl ?_)))))))
        have h_10 : -2147483648 ≤ (B (r8 + 2)) ∧ (B (r8 + 2)) ≤ 2147483647 := by rw [← hB (r8 + 2)]; exact ir_2 hI (r8 + 2)
        refine v_ba (v := (B (r8 + 2))) c_9_26 rfl (by decide) (by decide) (by omega) (hB (r8 + 2)) ?_
        by_cases h_11 : 121 = (B (r8 + 2))
        · refine v_ic_eq_t (t := 32) c_9_27 rfl h_11 (v_iinc (v := 3) c_9_32 rfl (Nat.le_of_ble_eq_true rfl) (by decide) (q_goto (t := 3) c_9_35 rfl (q_iload c_9_3 rfl (q_iload c_9_5 rfl (v_ic_ge_t (t := 38) c_9_7 rfl ⟨by first | exact q_2271afefa h_5 | omega, by first | exact q_8e661bf2d h_5 | omega, by decide⟩ (q_iconst c_9_38 (v_zret c_9_39 rfl (by decide) ?_)))))))
          refine bk_inl (v_if_eq_f (t := 121) c_10_110 rfl (by decide) (q_aload_n c_10_113 rfl (q_iload_n c_10_114 rfl (v_pi (z := 2) c_10_115 kf_5_35 rfl (Nat.le_of_ble_eq_true rfl) rfl rfl rfl (by decide) (q_iload c_10_118 rfl (q_iret c_10_120 rfl ?_))))))
          have hw9 : W8 = 6 := hdW8.symm.trans (wd1_6_t (by omega))
          have hI_12 := iw_1_2 (v := L8) hI ⟨by omega, by omega⟩
          have h_13 : (up c 1 2 L8) 1 2 = L8 := (up_e rfl)
          have h_14 : (up c 1 2 L8) 1 4 = f9 := ((up_n (by decide)).trans (hv2))
          have h_15 : (up c 1 2 L8) 1 5 = p9 := ((up_n (by decide)).trans (hv3))
          exact zv (by omega) (K1 (up c 1 2 L8) hI_12 (fun a j hm => up_b (Decidable.or_iff_not_imp_left.mpr (fun h1 h2 => hm (Or.inl ⟨Decidable.not_not.mp h1, h2⟩)))) (by omega) (by omega) (by omega) (by omega))
        · refine v_ic_eq_f (t := 32) c_9_27 rfl ⟨h_11, ⟨by decide, by decide⟩, by first | exact q_f97c35332 h_10 | omega, by first | exact q_79e53d295 h_10 | omega⟩ (q_iconst c_9_30 (v_zret c_9_31 rfl (by decide) (bk_inl (v_if_eq_t (t := 121) c_10_110 rfl (by decide) (v_iinc (v := 7) c_10_121 rfl (Nat.le_of_ble_eq_true rfl) (by decide) (q_iload c_10_124 rfl (q_iconst c_10_126 ?_)))))))
          refine v_iadd (v := 33) c_10_127 (by decide) (q_istore c_10_128 (Nat.le_of_ble_eq_true rfl) (Wp_ls [(5, vi 33), (4, vi 7), (6, vi 32), (0, .ref 1), (1, .ref (a_SB + 1)), (2, vi r8), (3, vi L8)] (lsub_cons rfl (lsub_cons rfl (lsub_cons rfl (lsub_cons rfl (lsub_cons rfl (lsub_cons rfl (lsub_cons rfl lsub_nil))))))) (v_iinc (v := 33) c_10_130 rfl (Nat.le_of_ble_eq_true rfl) (by decide) (q_goto (t := 52) c_10_133 rfl (Wp_ls [(0, .ref 1), (1, .ref (a_SB + 1)), (2, vi r8), (3, vi L8), (4, vi 7), (5, vi 33), (6, vi 33)] (lsub_cons rfl (lsub_cons rfl (lsub_cons rfl (lsub_cons rfl (lsub_cons rfl (lsub_cons rfl (lsub_cons rfl lsub_nil))))))) ?_)))))
          exact f_10_1_7 (d := d) (r8 := r8) (L8 := L8) (W8 := W8) hI hq0 hq1 hv0 hv1 hv2 hv3 hB ((wd1_6_f (by omega)).symm.trans hdW8) K0 K1
      · refine v_ic_eq_f (t := 32) c_9_27 rfl ⟨h_9, ⟨by decide, by decide⟩, by first | exact q_f97c35332 h_8 | omega, by first | exact q_79e53d295 h_8 | omega⟩ (q_iconst c_9_30 (v_zret c_9_31 rfl (by decide) (bk_inl (v_if_eq_t (t := 121) c_10_110 rfl (by decide) (v_iinc (v := 7) c_10_121 rfl (Nat.le_of_ble_eq_true rfl) (by decide) (q_iload c_10_124 rfl (q_iconst c_10_126 ?_)))))))
        refine v_iadd (v := 33) c_10_127 (by decide) (q_istore c_10_128 (Nat.le_of_ble_eq_true rfl) (Wp_ls [(5, vi 33), (4, vi 7), (6, vi 32), (0, .ref 1), (1, .ref (a_SB + 1)), (2, vi r8), (3, vi L8)] (lsub_cons rfl (lsub_cons rfl (lsub_cons rfl (lsub_cons rfl (lsub_cons rfl (lsub_cons rfl (lsub_cons rfl lsub_nil))))))) (v_iinc (v := 33) c_10_130 rfl (Nat.le_of_ble_eq_true rfl) (by decide) (q_goto (t := 52) c_10_133 rfl (Wp_ls [(0, .ref 1), (1, .ref (a_SB + 1)), (2, vi r8), (3, vi L8), (4, vi 7), (5, vi 33), (6, vi 33)] (lsub_cons rfl (lsub_cons rfl (lsub_cons rfl (lsub_cons rfl (lsub_cons rfl (lsub_cons rfl (lsub_cons rfl lsub_nil))))))) ?_)))))
        exact f_10_1_7 (d := d) (r8 := r8) (L8 := L8) (W8 := W8) hI hq0 hq1 hv0 hv1 hv2 hv3 hB ((wd1_6_f (by omega)).symm.trans hdW8) K0 K1
    · refine v_ic_eq_f (t := 32) c_9_27 rfl ⟨h_7, ⟨by decide, by decide⟩, by first | exact q_f97c35332 h_6 | omega, by first | exact q_79e53d295 h_6 | omega⟩ (q_iconst c_9_30 (v_zret c_9_31 rfl (by decide) (bk_inl (v_if_eq_t (t := 121) c_10_110 rfl (by decide) (v_iinc (v := 7) c_10_121 rfl (Nat.le_of_ble_eq_true rfl) (by decide) (q_iload c_10_124 rfl (q_iconst c_10_126 ?_)))))))
      refine v_iadd (v := 33) c_10_127 (by decide) (q_istore c_10_128 (Nat.le_of_ble_eq_true rfl) (Wp_ls [(5, vi 33), (4, vi 7), (6, vi 32), (0, .ref 1), (1, .ref (a_SB + 1)), (2, vi r8), (3, vi L8)] (lsub_cons rfl (lsub_cons rfl (lsub_cons rfl (lsub_cons rfl (lsub_cons rfl (lsub_cons rfl (lsub_cons rfl lsub_nil))))))) (v_iinc (v := 33) c_10_130 rfl (Nat.le_of_ble_eq_true rfl) (by decide) (q_goto (t := 52) c_10_133 rfl (Wp_ls [(0, .ref 1), (1, .ref (a_SB + 1)), (2, vi r8), (3, vi L8), (4, vi 7), (5, vi 33), (6, vi 33)] (lsub_cons rfl (lsub_cons rfl (lsub_cons rfl (lsub_cons rfl (lsub_cons rfl (lsub_cons rfl (lsub_cons rfl lsub_nil))))))) ?_)))))
      exact f_10_1_7 (d := d) (r8 := r8) (L8 := L8) (W8 := W8) hI hq0 hq1 hv0 hv1 hv2 hv3 hB ((wd1_6_f (by omega)).symm.trans hdW8) K0 K1

set_option maxRecDepth 100000 in
set_option maxHeartbeats 4000000 in
theorem f_10_1_5 {sc : List Int32} {e : Int} {d u P Q : Nat} {c : ME} {e1 a9 f9 p9 W8 r8 L8 : Int} {B : Int → Int} {Z : AR → Prop} (hI : Iv u e P Q c) (hq0 : (f9 = 0)) (hq1 : (r8 ≥ 0 ∧ r8 ≤ L8 ∧ L8 ≤ 600)) (hv0 : c 1 1 = e1) (hv1 : c 1 2 = a9) (hv2 : c 1 4 = f9) (hv3 : c 1 5 = p9) (hB : ∀ j : Int, c 2 j = B j) (hdW8 : wd1_5 B r8 L8 = W8) (K0 : ∀ c2 : ME, Iv u e P Q c2 → (∀ (a : Nat) (j : Int), ¬ ((a = 1 ∧ j = 2) ∨ (a = 1 ∧ j = 4) ∨ (a = 1 ∧ j = 5)) → c2 a j = c a j) → ((W8 = (-1))) → (c2 1 2 = a9) → (c2 1 4 = 1) → (c2 1 5 = r8) → Z (.inl (some (vi (-1))), Wd P Q P P c2, 0, 0)) (K1 : ∀ c2 : ME, Iv u e P Q c2 → (∀ (a : Nat) (j : Int), ¬ ((a = 1 ∧ j = 2) ∨ (a = 1 ∧ j = 4) ∨ (a = 1 ∧ j = 5)) → c2 a j = c a j) → ((W8 ≥ 0 ∧ W8 ≤ 9)) → (c2 1 2 = L8) → (c2 1 4 = 0) → (c2 1 5 = p9) → Z (.inl (some (vi W8)), Wd P Q P P c2, 0, 0)) : Wp sc (d + 12) 10 52 [(0, .ref 1), (1, .ref (a_SB + 1)), (2, vi r8), (3, vi L8), (4, vi 5), (5, vi 25), (6, vi 25)] [] (Wd P Q P P c) 0 0 Z := by
  have hP := iv_P hI
  have hQ := iv_Q hI
  have h_1 := ir_1_1 hI
  have h_2 := ir_1_2 hI
  have h_3 := ir_1_4 hI
  have h_4 := ir_1_5 hI
  refine q_iload c_10_52 rfl (q_aload_n c_10_54 rfl (v_sln 47 c_10_55 rfl (by omega) (Nat.le_of_ble_eq_true rfl) (by decide) (by decide) (v_ic_gt_f (t := 136) c_10_58 rfl (by decide) (q_aload_n c_10_61 rfl (v_cv c_10_62 km_5_45 rfl rfl (Nat.le_of_ble_eq_true rfl) ⟨⟨rfl, rfl⟩, Nat.le_of_ble_eq_true rfl, rfl⟩ (Nat.le_of_ble_eq_true rfl) (Nat.le_of_ble_eq_true rfl) (q_aload_n c_2_0 rfl (v_gi (z := 4) (v := f9) c_2_1 kf_5_38 rfl (Nat.le_of_ble_eq_true rfl) rfl rfl (hv2) ?_)))))))
  refine v_if_ne_f (t := 11) c_2_4 rfl (by omega) (q_iconst c_2_7 (q_goto (t := 12) c_2_8 rfl (v_zret c_2_12 rfl (by decide) (bk_inl (v_if_eq_f (t := 136) c_10_65 rfl (by decide) (q_iload c_10_68 rfl (q_aload_n c_10_70 rfl ?_)))))))
  refine v_sln 47 c_10_71 rfl (by omega) (Nat.le_of_ble_eq_true rfl) (by decide) (by decide) (v_ic_eq_f (t := 88) c_10_74 rfl (by decide) (q_aload_n c_10_77 rfl (q_iload c_10_78 rfl (v_sch 97 c_10_80 rfl (by omega) (Nat.le_of_ble_eq_true rfl) (by decide) (by decide) (by decide) (v_bip c_10_83 (by decide) (v_ic_ne_t (t := 130) c_10_85 rfl (by decide) (v_iinc (v := 26) c_10_130 rfl (Nat.le_of_ble_eq_true rfl) (by decide) ?_)))))))
  refine q_goto (t := 52) c_10_133 rfl (q_iload c_10_52 rfl (q_aload_n c_10_54 rfl (v_sln 47 c_10_55 rfl (by omega) (Nat.le_of_ble_eq_true rfl) (by decide) (by decide) (v_ic_gt_f (t := 136) c_10_58 rfl (by decide) (q_aload_n c_10_61 rfl (v_cv c_10_62 km_5_45 rfl rfl (Nat.le_of_ble_eq_true rfl) ⟨⟨rfl, rfl⟩, Nat.le_of_ble_eq_true rfl, rfl⟩ (Nat.le_of_ble_eq_true rfl) (Nat.le_of_ble_eq_true rfl) (q_aload_n c_2_0 rfl ?_)))))))
  refine v_gi (z := 4) (v := f9) c_2_1 kf_5_38 rfl (Nat.le_of_ble_eq_true rfl) rfl rfl (hv2) (v_if_ne_f (t := 11) c_2_4 rfl (by omega) (q_iconst c_2_7 (q_goto (t := 12) c_2_8 rfl (v_zret c_2_12 rfl (by decide) (bk_inl (v_if_eq_f (t := 136) c_10_65 rfl (by decide) (q_iload c_10_68 rfl ?_)))))))
  refine q_aload_n c_10_70 rfl (v_sln 47 c_10_71 rfl (by omega) (Nat.le_of_ble_eq_true rfl) (by decide) (by decide) (v_ic_eq_f (t := 88) c_10_74 rfl (by decide) (q_aload_n c_10_77 rfl (q_iload c_10_78 rfl (v_sch 103 c_10_80 rfl (by omega) (Nat.le_of_ble_eq_true rfl) (by decide) (by decide) (by decide) (v_bip c_10_83 (by decide) (v_ic_ne_t (t := 130) c_10_85 rfl (by decide) ?_)))))))
  refine v_iinc (v := 27) c_10_130 rfl (Nat.le_of_ble_eq_true rfl) (by decide) (q_goto (t := 52) c_10_133 rfl (q_iload c_10_52 rfl (q_aload_n c_10_54 rfl (v_sln 47 c_10_55 rfl (by omega) (Nat.le_of_ble_eq_true rfl) (by decide) (by decide) (v_ic_gt_f (t := 136) c_10_58 rfl (by decide) (q_aload_n c_10_61 rfl (v_cv c_10_62 km_5_45 rfl rfl (Nat.le_of_ble_eq_true rfl) ⟨⟨rfl, rfl⟩, Nat.le_of_ble_eq_true rfl, rfl⟩ (Nat.le_of_ble_eq_true rfl) (Nat.le_of_ble_eq_true rfl) ?_)))))))
  refine q_aload_n c_2_0 rfl (v_gi (z := 4) (v := f9) c_2_1 kf_5_38 rfl (Nat.le_of_ble_eq_true rfl) rfl rfl (hv2) (v_if_ne_f (t := 11) c_2_4 rfl (by omega) (q_iconst c_2_7 (q_goto (t := 12) c_2_8 rfl (v_zret c_2_12 rfl (by decide) (bk_inl (v_if_eq_f (t := 136) c_10_65 rfl (by decide) ?_)))))))
  refine q_iload c_10_68 rfl (q_aload_n c_10_70 rfl (v_sln 47 c_10_71 rfl (by omega) (Nat.le_of_ble_eq_true rfl) (by decide) (by decide) (v_ic_eq_f (t := 88) c_10_74 rfl (by decide) (q_aload_n c_10_77 rfl (q_iload c_10_78 rfl (v_sch 101 c_10_80 rfl (by omega) (Nat.le_of_ble_eq_true rfl) (by decide) (by decide) (by decide) (v_bip c_10_83 (by decide) ?_)))))))
  refine v_ic_ne_t (t := 130) c_10_85 rfl (by decide) (v_iinc (v := 28) c_10_130 rfl (Nat.le_of_ble_eq_true rfl) (by decide) (q_goto (t := 52) c_10_133 rfl (q_iload c_10_52 rfl (q_aload_n c_10_54 rfl (v_sln 47 c_10_55 rfl (by omega) (Nat.le_of_ble_eq_true rfl) (by decide) (by decide) (v_ic_gt_f (t := 136) c_10_58 rfl (by decide) (q_aload_n c_10_61 rfl ?_)))))))
  refine v_cv c_10_62 km_5_45 rfl rfl (Nat.le_of_ble_eq_true rfl) ⟨⟨rfl, rfl⟩, Nat.le_of_ble_eq_true rfl, rfl⟩ (Nat.le_of_ble_eq_true rfl) (Nat.le_of_ble_eq_true rfl) (q_aload_n c_2_0 rfl (v_gi (z := 4) (v := f9) c_2_1 kf_5_38 rfl (Nat.le_of_ble_eq_true rfl) rfl rfl (hv2) (v_if_ne_f (t := 11) c_2_4 rfl (by omega) (q_iconst c_2_7 (q_goto (t := 12) c_2_8 rfl (v_zret c_2_12 rfl (by decide) (bk_inl ?_)))))))
  refine v_if_eq_f (t := 136) c_10_65 rfl (by decide) (q_iload c_10_68 rfl (q_aload_n c_10_70 rfl (v_sln 47 c_10_71 rfl (by omega) (Nat.le_of_ble_eq_true rfl) (by decide) (by decide) (v_ic_eq_f (t := 88) c_10_74 rfl (by decide) (q_aload_n c_10_77 rfl (q_iload c_10_78 rfl (v_sch 32 c_10_80 rfl (by omega) (Nat.le_of_ble_eq_true rfl) (by decide) (by decide) (by decide) ?_)))))))
  refine v_bip c_10_83 (by decide) (v_ic_ne_f (t := 130) c_10_85 rfl (by decide) (q_iload c_10_88 rfl (q_iload c_10_90 rfl (v_isub (v := 3) c_10_92 (by decide) (q_iload_n c_10_93 rfl (q_iload_n c_10_94 rfl (v_isub (v := L8 - r8) c_10_95 rfl ?_)))))))
  by_cases h_5 : 3 ≠ L8 - r8
  · refine v_ic_ne_t (t := 121) c_10_96 rfl ⟨h_5, ⟨by decide, by decide⟩, by omega, by omega⟩ (v_iinc (v := 6) c_10_121 rfl (Nat.le_of_ble_eq_true rfl) (by decide) (q_iload c_10_124 rfl (q_iconst c_10_126 (v_iadd (v := 29) c_10_127 (by decide) (q_istore c_10_128 (Nat.le_of_ble_eq_true rfl) (Wp_ls [(5, vi 29), (4, vi 6), (6, vi 28), (0, .ref 1), (1, .ref (a_SB + 1)), (2, vi r8), (3, vi L8)] (lsub_cons rfl (lsub_cons rfl (lsub_cons rfl (lsub_cons rfl (lsub_cons rfl (lsub_cons rfl (lsub_cons rfl lsub_nil))))))) (v_iinc (v := 29) c_10_130 rfl (Nat.le_of_ble_eq_true rfl) (by decide) ?_)))))))
    refine q_goto (t := 52) c_10_133 rfl (Wp_ls [(0, .ref 1), (1, .ref (a_SB + 1)), (2, vi r8), (3, vi L8), (4, vi 6), (5, vi 29), (6, vi 29)] (lsub_cons rfl (lsub_cons rfl (lsub_cons rfl (lsub_cons rfl (lsub_cons rfl (lsub_cons rfl (lsub_cons rfl lsub_nil))))))) ?_)
    exact f_10_1_6 (d := d) (r8 := r8) (L8 := L8) (W8 := W8) hI hq0 hq1 hv0 hv1 hv2 hv3 hB ((wd1_5_f (by omega)).symm.trans hdW8) K0 K1
  · refine v_ic_ne_f (t := 121) c_10_96 rfl (Decidable.not_not.mp h_5) (q_aload_n c_10_99 rfl (q_aload_n c_10_100 rfl (q_iload c_10_101 rfl (q_iload_n c_10_103 rfl (q_iload_n c_10_104 rfl (q_iload_n c_10_105 rfl (v_isub (v := L8 - r8) c_10_106 rfl ?_)))))))
    refine v_cv c_10_107 km_5_73 rfl rfl (Nat.le_of_ble_eq_true rfl) ⟨⟨rfl, rfl⟩, Nat.le_of_ble_eq_true rfl, rfl⟩ (Nat.le_of_ble_eq_true rfl) (Nat.le_of_ble_eq_true rfl) (q_iconst c_9_0 (q_istore c_9_1 (Nat.le_of_ble_eq_true rfl) (q_iload c_9_3 rfl (q_iload c_9_5 rfl (v_ic_ge_f (t := 38) c_9_7 rfl ⟨by decide, by first | exact q_8d10d25b6 h_5 | omega, by first | exact q_22d63526a h_5 | omega⟩ (q_aload_n c_9_10 rfl (q_iload_n c_9_11 rfl ?_)))))))
    refine q_iload c_9_12 rfl (v_iadd (v := 25) c_9_14 (by decide) (v_sch 97 c_9_15 rfl (by omega) (Nat.le_of_ble_eq_true rfl) (by decide) (by decide) (by decide) (q_aload_n c_9_18 rfl (v_gr (t := 2) c_9_19 kf_5_9 rfl (Nat.le_of_ble_eq_true rfl) rfl (q_iload_n c_9_22 rfl (q_iload c_9_23 rfl (v_iadd (v := r8) c_9_25 (by omega) ?_)))))))
    have h_6 : -2147483648 ≤ (B r8) ∧ (B r8) ≤ 2147483647 := by rw [← hB r8]; exact ir_2 hI r8
    refine v_ba (v := (B r8)) c_9_26 rfl (by decide) (by decide) (by omega) (hB r8) ?_
    by_cases h_7 : 97 = (B r8)
    · refine v_ic_eq_t (t := 32) c_9_27 rfl h_7 (v_iinc (v := 1) c_9_32 rfl (Nat.le_of_ble_eq_true rfl) (by decide) (q_goto (t := 3) c_9_35 rfl (q_iload c_9_3 rfl (q_iload c_9_5 rfl (v_ic_ge_f (t := 38) c_9_7 rfl ⟨by decide, by first | exact q_f1d336e40 h_5 | omega, by first | exact q_22d63526a h_5 | omega⟩ (q_aload_n c_9_10 rfl (q_iload_n c_9_11 rfl ?_)))))))
      refine q_iload c_9_12 rfl (v_iadd (v := 26) c_9_14 (by decide) (v_sch 103 c_9_15 rfl (by omega) (Nat.le_of_ble_eq_true rfl) (by decide) (by decide) (by decide) (q_aload_n c_9_18 rfl (v_gr (t := 2) c_9_19 kf_5_9 rfl (Nat.le_of_ble_eq_true rfl) rfl (q_iload_n c_9_22 rfl (q_iload c_9_23 rfl (v_iadd (v := r8 + 1) c_9_25 rfl ?_)))))))
      have h_8 : -2147483648 ≤ (B (r8 + 1)) ∧ (B (r8 + 1)) ≤ 2147483647 := by rw [← hB (r8 + 1)]; exact ir_2 hI (r8 + 1)
      refine v_ba (v := (B (r8 + 1))) c_9_26 rfl (by decide) (by decide) (by omega) (hB (r8 + 1)) ?_
      by_cases h_9 : 103 = (B (r8 + 1))
      · refine v_ic_eq_t (t := 32) c_9_27 rfl h_9 (v_iinc (v := 2) c_9_32 rfl (Nat.le_of_ble_eq_true rfl) (by decide) (q_goto (t := 3) c_9_35 rfl (q_iload c_9_3 rfl (q_iload c_9_5 rfl (v_ic_ge_f (t := 38) c_9_7 rfl ⟨by decide, by first | exact q_3cb5391db h_5 | omega, by first | exact q_22d63526a h_5 | omega⟩ (q_aload_n c_9_10 rfl (q_iload_n c_9_11 rfl ?_)))))))
        refine q_iload c_9_12 rfl (v_iadd (v := 27) c_9_14 (by decide) (v_sch 101 c_9_15 rfl (by omega) (Nat.le_of_ble_eq_true rfl) (by decide) (by decide) (by decide) (q_aload_n c_9_18 rfl (v_gr (t := 2) c_9_19 kf_5_9 rfl (Nat.le_of_ble_eq_true rfl) rfl (q_iload_n c_9_22 rfl (q_iload c_9_23 rfl (v_iadd (v := r8 + 2) c_9_25 rfl ?_)))))))
        have h_10 : -2147483648 ≤ (B (r8 + 2)) ∧ (B (r8 + 2)) ≤ 2147483647 := by rw [← hB (r8 + 2)]; exact ir_2 hI (r8 + 2)
        refine v_ba (v := (B (r8 + 2))) c_9_26 rfl (by decide) (by decide) (by omega) (hB (r8 + 2)) ?_
        by_cases h_11 : 101 = (B (r8 + 2))
        · refine v_ic_eq_t (t := 32) c_9_27 rfl h_11 (v_iinc (v := 3) c_9_32 rfl (Nat.le_of_ble_eq_true rfl) (by decide) (q_goto (t := 3) c_9_35 rfl (q_iload c_9_3 rfl (q_iload c_9_5 rfl (v_ic_ge_t (t := 38) c_9_7 rfl ⟨by first | exact q_2271afefa h_5 | omega, by first | exact q_8e661bf2d h_5 | omega, by decide⟩ (q_iconst c_9_38 (v_zret c_9_39 rfl (by decide) ?_)))))))
          refine bk_inl (v_if_eq_f (t := 121) c_10_110 rfl (by decide) (q_aload_n c_10_113 rfl (q_iload_n c_10_114 rfl (v_pi (z := 2) c_10_115 kf_5_35 rfl (Nat.le_of_ble_eq_true rfl) rfl rfl rfl (by decide) (q_iload c_10_118 rfl (q_iret c_10_120 rfl ?_))))))
          have hw9 : W8 = 5 := hdW8.symm.trans (wd1_5_t (by omega))
          have hI_12 := iw_1_2 (v := L8) hI ⟨by omega, by omega⟩
          have h_13 : (up c 1 2 L8) 1 2 = L8 := (up_e rfl)
          have h_14 : (up c 1 2 L8) 1 4 = f9 := ((up_n (by decide)).trans (hv2))
          have h_15 : (up c 1 2 L8) 1 5 = p9 := ((up_n (by decide)).trans (hv3))
          exact zv (by omega) (K1 (up c 1 2 L8) hI_12 (fun a j hm => up_b (Decidable.or_iff_not_imp_left.mpr (fun h1 h2 => hm (Or.inl ⟨Decidable.not_not.mp h1, h2⟩)))) (by omega) (by omega) (by omega) (by omega))
        · refine v_ic_eq_f (t := 32) c_9_27 rfl ⟨h_11, ⟨by decide, by decide⟩, by first | exact q_f97c35332 h_10 | omega, by first | exact q_79e53d295 h_10 | omega⟩ (q_iconst c_9_30 (v_zret c_9_31 rfl (by decide) (bk_inl (v_if_eq_t (t := 121) c_10_110 rfl (by decide) (v_iinc (v := 6) c_10_121 rfl (Nat.le_of_ble_eq_true rfl) (by decide) (q_iload c_10_124 rfl (q_iconst c_10_126 ?_)))))))
          refine v_iadd (v := 29) c_10_127 (by decide) (q_istore c_10_128 (Nat.le_of_ble_eq_true rfl) (Wp_ls [(5, vi 29), (4, vi 6), (6, vi 28), (0, .ref 1), (1, .ref (a_SB + 1)), (2, vi r8), (3, vi L8)] (lsub_cons rfl (lsub_cons rfl (lsub_cons rfl (lsub_cons rfl (lsub_cons rfl (lsub_cons rfl (lsub_cons rfl lsub_nil))))))) (v_iinc (v := 29) c_10_130 rfl (Nat.le_of_ble_eq_true rfl) (by decide) (q_goto (t := 52) c_10_133 rfl (Wp_ls [(0, .ref 1), (1, .ref (a_SB + 1)), (2, vi r8), (3, vi L8), (4, vi 6), (5, vi 29), (6, vi 29)] (lsub_cons rfl (lsub_cons rfl (lsub_cons rfl (lsub_cons rfl (lsub_cons rfl (lsub_cons rfl (lsub_cons rfl lsub_nil))))))) ?_)))))
          exact f_10_1_6 (d := d) (r8 := r8) (L8 := L8) (W8 := W8) hI hq0 hq1 hv0 hv1 hv2 hv3 hB ((wd1_5_f (by omega)).symm.trans hdW8) K0 K1
      · refine v_ic_eq_f (t := 32) c_9_27 rfl ⟨h_9, ⟨by decide, by decide⟩, by first | exact q_f97c35332 h_8 | omega, by first | exact q_79e53d295 h_8 | omega⟩ (q_iconst c_9_30 (v_zret c_9_31 rfl (by decide) (bk_inl (v_if_eq_t (t := 121) c_10_110 rfl (by decide) (v_iinc (v := 6) c_10_121 rfl (Nat.le_of_ble_eq_true rfl) (by decide) (q_iload c_10_124 rfl (q_iconst c_10_126 ?_)))))))
        refine v_iadd (v := 29) c_10_127 (by decide) (q_istore c_10_128 (Nat.le_of_ble_eq_true rfl) (Wp_ls [(5, vi 29), (4, vi 6), (6, vi 28), (0, .ref 1), (1, .ref (a_SB + 1)), (2, vi r8), (3, vi L8)] (lsub_cons rfl (lsub_cons rfl (lsub_cons rfl (lsub_cons rfl (lsub_cons rfl (lsub_cons rfl (lsub_cons rfl lsub_nil))))))) (v_iinc (v := 29) c_10_130 rfl (Nat.le_of_ble_eq_true rfl) (by decide) (q_goto (t := 52) c_10_133 rfl (Wp_ls [(0, .ref 1), (1, .ref (a_SB + 1)), (2, vi r8), (3, vi L8), (4, vi 6), (5, vi 29), (6, vi 29)] (lsub_cons rfl (lsub_cons rfl (lsub_cons rfl (lsub_cons rfl (lsub_cons rfl (lsub_cons rfl (lsub_cons rfl lsub_nil))))))) ?_)))))
        exact f_10_1_6 (d := d) (r8 := r8) (L8 := L8) (W8 := W8) hI hq0 hq1 hv0 hv1 hv2 hv3 hB ((wd1_5_f (by omega)).symm.trans hdW8) K0 K1
    · refine v_ic_eq_f (t := 32) c_9_27 rfl ⟨h_7, ⟨by decide, by decide⟩, by first | exact q_f97c35332 h_6 | omega, by first | exact q_79e53d295 h_6 | omega⟩ (q_iconst c_9_30 (v_zret c_9_31 rfl (by decide) (bk_inl (v_if_eq_t (t := 121) c_10_110 rfl (by decide) (v_iinc (v := 6) c_10_121 rfl (Nat.le_of_ble_eq_true rfl) (by decide) (q_iload c_10_124 rfl (q_iconst c_10_126 ?_)))))))
      refine v_iadd (v := 29) c_10_127 (by decide) (q_istore c_10_128 (Nat.le_of_ble_eq_true rfl) (Wp_ls [(5, vi 29), (4, vi 6), (6, vi 28), (0, .ref 1), (1, .ref (a_SB + 1)), (2, vi r8), (3, vi L8)] (lsub_cons rfl (lsub_cons rfl (lsub_cons rfl (lsub_cons rfl (lsub_cons rfl (lsub_cons rfl (lsub_cons rfl lsub_nil))))))) (v_iinc (v := 29) c_10_130 rfl (Nat.le_of_ble_eq_true rfl) (by decide) (q_goto (t := 52) c_10_133 rfl (Wp_ls [(0, .ref 1), (1, .ref (a_SB + 1)), (2, vi r8), (3, vi L8), (4, vi 6), (5, vi 29), (6, vi 29)] (lsub_cons rfl (lsub_cons rfl (lsub_cons rfl (lsub_cons rfl (lsub_cons rfl (lsub_cons rfl (lsub_cons rfl lsub_nil))))))) ?_)))))
      exact f_10_1_6 (d := d) (r8 := r8) (L8 := L8) (W8 := W8) hI hq0 hq1 hv0 hv1 hv2 hv3 hB ((wd1_5_f (by omega)).symm.trans hdW8) K0 K1

set_option maxRecDepth 100000 in
set_option maxHeartbeats 4000000 in
theorem f_10_1_4 {sc : List Int32} {e : Int} {d u P Q : Nat} {c : ME} {e1 a9 f9 p9 W8 r8 L8 : Int} {B : Int → Int} {Z : AR → Prop} (hI : Iv u e P Q c) (hq0 : (f9 = 0)) (hq1 : (r8 ≥ 0 ∧ r8 ≤ L8 ∧ L8 ≤ 600)) (hv0 : c 1 1 = e1) (hv1 : c 1 2 = a9) (hv2 : c 1 4 = f9) (hv3 : c 1 5 = p9) (hB : ∀ j : Int, c 2 j = B j) (hdW8 : wd1_4 B r8 L8 = W8) (K0 : ∀ c2 : ME, Iv u e P Q c2 → (∀ (a : Nat) (j : Int), ¬ ((a = 1 ∧ j = 2) ∨ (a = 1 ∧ j = 4) ∨ (a = 1 ∧ j = 5)) → c2 a j = c a j) → ((W8 = (-1))) → (c2 1 2 = a9) → (c2 1 4 = 1) → (c2 1 5 = r8) → Z (.inl (some (vi (-1))), Wd P Q P P c2, 0, 0)) (K1 : ∀ c2 : ME, Iv u e P Q c2 → (∀ (a : Nat) (j : Int), ¬ ((a = 1 ∧ j = 2) ∨ (a = 1 ∧ j = 4) ∨ (a = 1 ∧ j = 5)) → c2 a j = c a j) → ((W8 ≥ 0 ∧ W8 ≤ 9)) → (c2 1 2 = L8) → (c2 1 4 = 0) → (c2 1 5 = p9) → Z (.inl (some (vi W8)), Wd P Q P P c2, 0, 0)) : Wp sc (d + 12) 10 52 [(0, .ref 1), (1, .ref (a_SB + 1)), (2, vi r8), (3, vi L8), (4, vi 4), (5, vi 21), (6, vi 21)] [] (Wd P Q P P c) 0 0 Z := by
  have hP := iv_P hI
  have hQ := iv_Q hI
  have h_1 := ir_1_1 hI
  have h_2 := ir_1_2 hI
  have h_3 := ir_1_4 hI
  have h_4 := ir_1_5 hI
  refine q_iload c_10_52 rfl (q_aload_n c_10_54 rfl (v_sln 47 c_10_55 rfl (by omega) (Nat.le_of_ble_eq_true rfl) (by decide) (by decide) (v_ic_gt_f (t := 136) c_10_58 rfl (by decide) (q_aload_n c_10_61 rfl (v_cv c_10_62 km_5_45 rfl rfl (Nat.le_of_ble_eq_true rfl) ⟨⟨rfl, rfl⟩, Nat.le_of_ble_eq_true rfl, rfl⟩ (Nat.le_of_ble_eq_true rfl) (Nat.le_of_ble_eq_true rfl) (q_aload_n c_2_0 rfl (v_gi (z := 4) (v := f9) c_2_1 kf_5_38 rfl (Nat.le_of_ble_eq_true rfl) rfl rfl (hv2) ?_)))))))
  refine v_if_ne_f (t := 11) c_2_4 rfl (by omega) (q_iconst c_2_7 (q_goto (t := 12) c_2_8 rfl (v_zret c_2_12 rfl (by decide) (bk_inl (v_if_eq_f (t := 136) c_10_65 rfl (by decide) (q_iload c_10_68 rfl (q_aload_n c_10_70 rfl ?_)))))))
  refine v_sln 47 c_10_71 rfl (by omega) (Nat.le_of_ble_eq_true rfl) (by decide) (by decide) (v_ic_eq_f (t := 88) c_10_74 rfl (by decide) (q_aload_n c_10_77 rfl (q_iload c_10_78 rfl (v_sch 97 c_10_80 rfl (by omega) (Nat.le_of_ble_eq_true rfl) (by decide) (by decide) (by decide) (v_bip c_10_83 (by decide) (v_ic_ne_t (t := 130) c_10_85 rfl (by decide) (v_iinc (v := 22) c_10_130 rfl (Nat.le_of_ble_eq_true rfl) (by decide) ?_)))))))
  refine q_goto (t := 52) c_10_133 rfl (q_iload c_10_52 rfl (q_aload_n c_10_54 rfl (v_sln 47 c_10_55 rfl (by omega) (Nat.le_of_ble_eq_true rfl) (by decide) (by decide) (v_ic_gt_f (t := 136) c_10_58 rfl (by decide) (q_aload_n c_10_61 rfl (v_cv c_10_62 km_5_45 rfl rfl (Nat.le_of_ble_eq_true rfl) ⟨⟨rfl, rfl⟩, Nat.le_of_ble_eq_true rfl, rfl⟩ (Nat.le_of_ble_eq_true rfl) (Nat.le_of_ble_eq_true rfl) (q_aload_n c_2_0 rfl ?_)))))))
  refine v_gi (z := 4) (v := f9) c_2_1 kf_5_38 rfl (Nat.le_of_ble_eq_true rfl) rfl rfl (hv2) (v_if_ne_f (t := 11) c_2_4 rfl (by omega) (q_iconst c_2_7 (q_goto (t := 12) c_2_8 rfl (v_zret c_2_12 rfl (by decide) (bk_inl (v_if_eq_f (t := 136) c_10_65 rfl (by decide) (q_iload c_10_68 rfl ?_)))))))
  refine q_aload_n c_10_70 rfl (v_sln 47 c_10_71 rfl (by omega) (Nat.le_of_ble_eq_true rfl) (by decide) (by decide) (v_ic_eq_f (t := 88) c_10_74 rfl (by decide) (q_aload_n c_10_77 rfl (q_iload c_10_78 rfl (v_sch 108 c_10_80 rfl (by omega) (Nat.le_of_ble_eq_true rfl) (by decide) (by decide) (by decide) (v_bip c_10_83 (by decide) (v_ic_ne_t (t := 130) c_10_85 rfl (by decide) ?_)))))))
  refine v_iinc (v := 23) c_10_130 rfl (Nat.le_of_ble_eq_true rfl) (by decide) (q_goto (t := 52) c_10_133 rfl (q_iload c_10_52 rfl (q_aload_n c_10_54 rfl (v_sln 47 c_10_55 rfl (by omega) (Nat.le_of_ble_eq_true rfl) (by decide) (by decide) (v_ic_gt_f (t := 136) c_10_58 rfl (by decide) (q_aload_n c_10_61 rfl (v_cv c_10_62 km_5_45 rfl rfl (Nat.le_of_ble_eq_true rfl) ⟨⟨rfl, rfl⟩, Nat.le_of_ble_eq_true rfl, rfl⟩ (Nat.le_of_ble_eq_true rfl) (Nat.le_of_ble_eq_true rfl) ?_)))))))
  refine q_aload_n c_2_0 rfl (v_gi (z := 4) (v := f9) c_2_1 kf_5_38 rfl (Nat.le_of_ble_eq_true rfl) rfl rfl (hv2) (v_if_ne_f (t := 11) c_2_4 rfl (by omega) (q_iconst c_2_7 (q_goto (t := 12) c_2_8 rfl (v_zret c_2_12 rfl (by decide) (bk_inl (v_if_eq_f (t := 136) c_10_65 rfl (by decide) ?_)))))))
  refine q_iload c_10_68 rfl (q_aload_n c_10_70 rfl (v_sln 47 c_10_71 rfl (by omega) (Nat.le_of_ble_eq_true rfl) (by decide) (by decide) (v_ic_eq_f (t := 88) c_10_74 rfl (by decide) (q_aload_n c_10_77 rfl (q_iload c_10_78 rfl (v_sch 108 c_10_80 rfl (by omega) (Nat.le_of_ble_eq_true rfl) (by decide) (by decide) (by decide) (v_bip c_10_83 (by decide) ?_)))))))
  refine v_ic_ne_t (t := 130) c_10_85 rfl (by decide) (v_iinc (v := 24) c_10_130 rfl (Nat.le_of_ble_eq_true rfl) (by decide) (q_goto (t := 52) c_10_133 rfl (q_iload c_10_52 rfl (q_aload_n c_10_54 rfl (v_sln 47 c_10_55 rfl (by omega) (Nat.le_of_ble_eq_true rfl) (by decide) (by decide) (v_ic_gt_f (t := 136) c_10_58 rfl (by decide) (q_aload_n c_10_61 rfl ?_)))))))
  refine v_cv c_10_62 km_5_45 rfl rfl (Nat.le_of_ble_eq_true rfl) ⟨⟨rfl, rfl⟩, Nat.le_of_ble_eq_true rfl, rfl⟩ (Nat.le_of_ble_eq_true rfl) (Nat.le_of_ble_eq_true rfl) (q_aload_n c_2_0 rfl (v_gi (z := 4) (v := f9) c_2_1 kf_5_38 rfl (Nat.le_of_ble_eq_true rfl) rfl rfl (hv2) (v_if_ne_f (t := 11) c_2_4 rfl (by omega) (q_iconst c_2_7 (q_goto (t := 12) c_2_8 rfl (v_zret c_2_12 rfl (by decide) (bk_inl ?_)))))))
  refine v_if_eq_f (t := 136) c_10_65 rfl (by decide) (q_iload c_10_68 rfl (q_aload_n c_10_70 rfl (v_sln 47 c_10_71 rfl (by omega) (Nat.le_of_ble_eq_true rfl) (by decide) (by decide) (v_ic_eq_f (t := 88) c_10_74 rfl (by decide) (q_aload_n c_10_77 rfl (q_iload c_10_78 rfl (v_sch 32 c_10_80 rfl (by omega) (Nat.le_of_ble_eq_true rfl) (by decide) (by decide) (by decide) ?_)))))))
  refine v_bip c_10_83 (by decide) (v_ic_ne_f (t := 130) c_10_85 rfl (by decide) (q_iload c_10_88 rfl (q_iload c_10_90 rfl (v_isub (v := 3) c_10_92 (by decide) (q_iload_n c_10_93 rfl (q_iload_n c_10_94 rfl (v_isub (v := L8 - r8) c_10_95 rfl ?_)))))))
  by_cases h_5 : 3 ≠ L8 - r8
  · refine v_ic_ne_t (t := 121) c_10_96 rfl ⟨h_5, ⟨by decide, by decide⟩, by omega, by omega⟩ (v_iinc (v := 5) c_10_121 rfl (Nat.le_of_ble_eq_true rfl) (by decide) (q_iload c_10_124 rfl (q_iconst c_10_126 (v_iadd (v := 25) c_10_127 (by decide) (q_istore c_10_128 (Nat.le_of_ble_eq_true rfl) (Wp_ls [(5, vi 25), (4, vi 5), (6, vi 24), (0, .ref 1), (1, .ref (a_SB + 1)), (2, vi r8), (3, vi L8)] (lsub_cons rfl (lsub_cons rfl (lsub_cons rfl (lsub_cons rfl (lsub_cons rfl (lsub_cons rfl (lsub_cons rfl lsub_nil))))))) (v_iinc (v := 25) c_10_130 rfl (Nat.le_of_ble_eq_true rfl) (by decide) ?_)))))))
    refine q_goto (t := 52) c_10_133 rfl (Wp_ls [(0, .ref 1), (1, .ref (a_SB + 1)), (2, vi r8), (3, vi L8), (4, vi 5), (5, vi 25), (6, vi 25)] (lsub_cons rfl (lsub_cons rfl (lsub_cons rfl (lsub_cons rfl (lsub_cons rfl (lsub_cons rfl (lsub_cons rfl lsub_nil))))))) ?_)
    exact f_10_1_5 (d := d) (r8 := r8) (L8 := L8) (W8 := W8) hI hq0 hq1 hv0 hv1 hv2 hv3 hB ((wd1_4_f (by omega)).symm.trans hdW8) K0 K1
  · refine v_ic_ne_f (t := 121) c_10_96 rfl (Decidable.not_not.mp h_5) (q_aload_n c_10_99 rfl (q_aload_n c_10_100 rfl (q_iload c_10_101 rfl (q_iload_n c_10_103 rfl (q_iload_n c_10_104 rfl (q_iload_n c_10_105 rfl (v_isub (v := L8 - r8) c_10_106 rfl ?_)))))))
    refine v_cv c_10_107 km_5_73 rfl rfl (Nat.le_of_ble_eq_true rfl) ⟨⟨rfl, rfl⟩, Nat.le_of_ble_eq_true rfl, rfl⟩ (Nat.le_of_ble_eq_true rfl) (Nat.le_of_ble_eq_true rfl) (q_iconst c_9_0 (q_istore c_9_1 (Nat.le_of_ble_eq_true rfl) (q_iload c_9_3 rfl (q_iload c_9_5 rfl (v_ic_ge_f (t := 38) c_9_7 rfl ⟨by decide, by first | exact q_8d10d25b6 h_5 | omega, by first | exact q_22d63526a h_5 | omega⟩ (q_aload_n c_9_10 rfl (q_iload_n c_9_11 rfl ?_)))))))
    refine q_iload c_9_12 rfl (v_iadd (v := 21) c_9_14 (by decide) (v_sch 97 c_9_15 rfl (by omega) (Nat.le_of_ble_eq_true rfl) (by decide) (by decide) (by decide) (q_aload_n c_9_18 rfl (v_gr (t := 2) c_9_19 kf_5_9 rfl (Nat.le_of_ble_eq_true rfl) rfl (q_iload_n c_9_22 rfl (q_iload c_9_23 rfl (v_iadd (v := r8) c_9_25 (by omega) ?_)))))))
    have h_6 : -2147483648 ≤ (B r8) ∧ (B r8) ≤ 2147483647 := by rw [← hB r8]; exact ir_2 hI r8
    refine v_ba (v := (B r8)) c_9_26 rfl (by decide) (by decide) (by omega) (hB r8) ?_
    by_cases h_7 : 97 = (B r8)
    · refine v_ic_eq_t (t := 32) c_9_27 rfl h_7 (v_iinc (v := 1) c_9_32 rfl (Nat.le_of_ble_eq_true rfl) (by decide) (q_goto (t := 3) c_9_35 rfl (q_iload c_9_3 rfl (q_iload c_9_5 rfl (v_ic_ge_f (t := 38) c_9_7 rfl ⟨by decide, by first | exact q_f1d336e40 h_5 | omega, by first | exact q_22d63526a h_5 | omega⟩ (q_aload_n c_9_10 rfl (q_iload_n c_9_11 rfl ?_)))))))
      refine q_iload c_9_12 rfl (v_iadd (v := 22) c_9_14 (by decide) (v_sch 108 c_9_15 rfl (by omega) (Nat.le_of_ble_eq_true rfl) (by decide) (by decide) (by decide) (q_aload_n c_9_18 rfl (v_gr (t := 2) c_9_19 kf_5_9 rfl (Nat.le_of_ble_eq_true rfl) rfl (q_iload_n c_9_22 rfl (q_iload c_9_23 rfl (v_iadd (v := r8 + 1) c_9_25 rfl ?_)))))))
      have h_8 : -2147483648 ≤ (B (r8 + 1)) ∧ (B (r8 + 1)) ≤ 2147483647 := by rw [← hB (r8 + 1)]; exact ir_2 hI (r8 + 1)
      refine v_ba (v := (B (r8 + 1))) c_9_26 rfl (by decide) (by decide) (by omega) (hB (r8 + 1)) ?_
      by_cases h_9 : 108 = (B (r8 + 1))
      · refine v_ic_eq_t (t := 32) c_9_27 rfl h_9 (v_iinc (v := 2) c_9_32 rfl (Nat.le_of_ble_eq_true rfl) (by decide) (q_goto (t := 3) c_9_35 rfl (q_iload c_9_3 rfl (q_iload c_9_5 rfl (v_ic_ge_f (t := 38) c_9_7 rfl ⟨by decide, by first | exact q_3cb5391db h_5 | omega, by first | exact q_22d63526a h_5 | omega⟩ (q_aload_n c_9_10 rfl (q_iload_n c_9_11 rfl ?_)))))))
        refine q_iload c_9_12 rfl (v_iadd (v := 23) c_9_14 (by decide) (v_sch 108 c_9_15 rfl (by omega) (Nat.le_of_ble_eq_true rfl) (by decide) (by decide) (by decide) (q_aload_n c_9_18 rfl (v_gr (t := 2) c_9_19 kf_5_9 rfl (Nat.le_of_ble_eq_true rfl) rfl (q_iload_n c_9_22 rfl (q_iload c_9_23 rfl (v_iadd (v := r8 + 2) c_9_25 rfl ?_)))))))
        have h_10 : -2147483648 ≤ (B (r8 + 2)) ∧ (B (r8 + 2)) ≤ 2147483647 := by rw [← hB (r8 + 2)]; exact ir_2 hI (r8 + 2)
        refine v_ba (v := (B (r8 + 2))) c_9_26 rfl (by decide) (by decide) (by omega) (hB (r8 + 2)) ?_
        by_cases h_11 : 108 = (B (r8 + 2))
        · refine v_ic_eq_t (t := 32) c_9_27 rfl h_11 (v_iinc (v := 3) c_9_32 rfl (Nat.le_of_ble_eq_true rfl) (by decide) (q_goto (t := 3) c_9_35 rfl (q_iload c_9_3 rfl (q_iload c_9_5 rfl (v_ic_ge_t (t := 38) c_9_7 rfl ⟨by first | exact q_2271afefa h_5 | omega, by first | exact q_8e661bf2d h_5 | omega, by decide⟩ (q_iconst c_9_38 (v_zret c_9_39 rfl (by decide) ?_)))))))
          refine bk_inl (v_if_eq_f (t := 121) c_10_110 rfl (by decide) (q_aload_n c_10_113 rfl (q_iload_n c_10_114 rfl (v_pi (z := 2) c_10_115 kf_5_35 rfl (Nat.le_of_ble_eq_true rfl) rfl rfl rfl (by decide) (q_iload c_10_118 rfl (q_iret c_10_120 rfl ?_))))))
          have hw9 : W8 = 4 := hdW8.symm.trans (wd1_4_t (by omega))
          have hI_12 := iw_1_2 (v := L8) hI ⟨by omega, by omega⟩
          have h_13 : (up c 1 2 L8) 1 2 = L8 := (up_e rfl)
          have h_14 : (up c 1 2 L8) 1 4 = f9 := ((up_n (by decide)).trans (hv2))
          have h_15 : (up c 1 2 L8) 1 5 = p9 := ((up_n (by decide)).trans (hv3))
          exact zv (by omega) (K1 (up c 1 2 L8) hI_12 (fun a j hm => up_b (Decidable.or_iff_not_imp_left.mpr (fun h1 h2 => hm (Or.inl ⟨Decidable.not_not.mp h1, h2⟩)))) (by omega) (by omega) (by omega) (by omega))
        · refine v_ic_eq_f (t := 32) c_9_27 rfl ⟨h_11, ⟨by decide, by decide⟩, by first | exact q_f97c35332 h_10 | omega, by first | exact q_79e53d295 h_10 | omega⟩ (q_iconst c_9_30 (v_zret c_9_31 rfl (by decide) (bk_inl (v_if_eq_t (t := 121) c_10_110 rfl (by decide) (v_iinc (v := 5) c_10_121 rfl (Nat.le_of_ble_eq_true rfl) (by decide) (q_iload c_10_124 rfl (q_iconst c_10_126 ?_)))))))
          refine v_iadd (v := 25) c_10_127 (by decide) (q_istore c_10_128 (Nat.le_of_ble_eq_true rfl) (Wp_ls [(5, vi 25), (4, vi 5), (6, vi 24), (0, .ref 1), (1, .ref (a_SB + 1)), (2, vi r8), (3, vi L8)] (lsub_cons rfl (lsub_cons rfl (lsub_cons rfl (lsub_cons rfl (lsub_cons rfl (lsub_cons rfl (lsub_cons rfl lsub_nil))))))) (v_iinc (v := 25) c_10_130 rfl (Nat.le_of_ble_eq_true rfl) (by decide) (q_goto (t := 52) c_10_133 rfl (Wp_ls [(0, .ref 1), (1, .ref (a_SB + 1)), (2, vi r8), (3, vi L8), (4, vi 5), (5, vi 25), (6, vi 25)] (lsub_cons rfl (lsub_cons rfl (lsub_cons rfl (lsub_cons rfl (lsub_cons rfl (lsub_cons rfl (lsub_cons rfl lsub_nil))))))) ?_)))))
          exact f_10_1_5 (d := d) (r8 := r8) (L8 := L8) (W8 := W8) hI hq0 hq1 hv0 hv1 hv2 hv3 hB ((wd1_4_f (by omega)).symm.trans hdW8) K0 K1
      · refine v_ic_eq_f (t := 32) c_9_27 rfl ⟨h_9, ⟨by decide, by decide⟩, by first | exact q_f97c35332 h_8 | omega, by first | exact q_79e53d295 h_8 | omega⟩ (q_iconst c_9_30 (v_zret c_9_31 rfl (by decide) (bk_inl (v_if_eq_t (t := 121) c_10_110 rfl (by decide) (v_iinc (v := 5) c_10_121 rfl (Nat.le_of_ble_eq_true rfl) (by decide) (q_iload c_10_124 rfl (q_iconst c_10_126 ?_)))))))
        refine v_iadd (v := 25) c_10_127 (by decide) (q_istore c_10_128 (Nat.le_of_ble_eq_true rfl) (Wp_ls [(5, vi 25), (4, vi 5), (6, vi 24), (0, .ref 1), (1, .ref (a_SB + 1)), (2, vi r8), (3, vi L8)] (lsub_cons rfl (lsub_cons rfl (lsub_cons rfl (lsub_cons rfl (lsub_cons rfl (lsub_cons rfl (lsub_cons rfl lsub_nil))))))) (v_iinc (v := 25) c_10_130 rfl (Nat.le_of_ble_eq_true rfl) (by decide) (q_goto (t := 52) c_10_133 rfl (Wp_ls [(0, .ref 1), (1, .ref (a_SB + 1)), (2, vi r8), (3, vi L8), (4, vi 5), (5, vi 25), (6, vi 25)] (lsub_cons rfl (lsub_cons rfl (lsub_cons rfl (lsub_cons rfl (lsub_cons rfl (lsub_cons rfl (lsub_cons rfl lsub_nil))))))) ?_)))))
        exact f_10_1_5 (d := d) (r8 := r8) (L8 := L8) (W8 := W8) hI hq0 hq1 hv0 hv1 hv2 hv3 hB ((wd1_4_f (by omega)).symm.trans hdW8) K0 K1
    · refine v_ic_eq_f (t := 32) c_9_27 rfl ⟨h_7, ⟨by decide, by decide⟩, by first | exact q_f97c35332 h_6 | omega, by first | exact q_79e53d295 h_6 | omega⟩ (q_iconst c_9_30 (v_zret c_9_31 rfl (by decide) (bk_inl (v_if_eq_t (t := 121) c_10_110 rfl (by decide) (v_iinc (v := 5) c_10_121 rfl (Nat.le_of_ble_eq_true rfl) (by decide) (q_iload c_10_124 rfl (q_iconst c_10_126 ?_)))))))
      refine v_iadd (v := 25) c_10_127 (by decide) (q_istore c_10_128 (Nat.le_of_ble_eq_true rfl) (Wp_ls [(5, vi 25), (4, vi 5), (6, vi 24), (0, .ref 1), (1, .ref (a_SB + 1)), (2, vi r8), (3, vi L8)] (lsub_cons rfl (lsub_cons rfl (lsub_cons rfl (lsub_cons rfl (lsub_cons rfl (lsub_cons rfl (lsub_cons rfl lsub_nil))))))) (v_iinc (v := 25) c_10_130 rfl (Nat.le_of_ble_eq_true rfl) (by decide) (q_goto (t := 52) c_10_133 rfl (Wp_ls [(0, .ref 1), (1, .ref (a_SB + 1)), (2, vi r8), (3, vi L8), (4, vi 5), (5, vi 25), (6, vi 25)] (lsub_cons rfl (lsub_cons rfl (lsub_cons rfl (lsub_cons rfl (lsub_cons rfl (lsub_cons rfl (lsub_cons rfl lsub_nil))))))) ?_)))))
      exact f_10_1_5 (d := d) (r8 := r8) (L8 := L8) (W8 := W8) hI hq0 hq1 hv0 hv1 hv2 hv3 hB ((wd1_4_f (by omega)).symm.trans hdW8) K0 K1

set_option maxRecDepth 100000 in
set_option maxHeartbeats 4000000 in
theorem f_10_1_3 {sc : List Int32} {e : Int} {d u P Q : Nat} {c : ME} {e1 a9 f9 p9 W8 r8 L8 : Int} {B : Int → Int} {Z : AR → Prop} (hI : Iv u e P Q c) (hq0 : (f9 = 0)) (hq1 : (r8 ≥ 0 ∧ r8 ≤ L8 ∧ L8 ≤ 600)) (hv0 : c 1 1 = e1) (hv1 : c 1 2 = a9) (hv2 : c 1 4 = f9) (hv3 : c 1 5 = p9) (hB : ∀ j : Int, c 2 j = B j) (hdW8 : wd1_3 B r8 L8 = W8) (K0 : ∀ c2 : ME, Iv u e P Q c2 → (∀ (a : Nat) (j : Int), ¬ ((a = 1 ∧ j = 2) ∨ (a = 1 ∧ j = 4) ∨ (a = 1 ∧ j = 5)) → c2 a j = c a j) → ((W8 = (-1))) → (c2 1 2 = a9) → (c2 1 4 = 1) → (c2 1 5 = r8) → Z (.inl (some (vi (-1))), Wd P Q P P c2, 0, 0)) (K1 : ∀ c2 : ME, Iv u e P Q c2 → (∀ (a : Nat) (j : Int), ¬ ((a = 1 ∧ j = 2) ∨ (a = 1 ∧ j = 4) ∨ (a = 1 ∧ j = 5)) → c2 a j = c a j) → ((W8 ≥ 0 ∧ W8 ≤ 9)) → (c2 1 2 = L8) → (c2 1 4 = 0) → (c2 1 5 = p9) → Z (.inl (some (vi W8)), Wd P Q P P c2, 0, 0)) : Wp sc (d + 12) 10 52 [(0, .ref 1), (1, .ref (a_SB + 1)), (2, vi r8), (3, vi L8), (4, vi 3), (5, vi 16), (6, vi 16)] [] (Wd P Q P P c) 0 0 Z := by
  have hP := iv_P hI
  have hQ := iv_Q hI
  have h_1 := ir_1_1 hI
  have h_2 := ir_1_2 hI
  have h_3 := ir_1_4 hI
  have h_4 := ir_1_5 hI
  refine q_iload c_10_52 rfl (q_aload_n c_10_54 rfl (v_sln 47 c_10_55 rfl (by omega) (Nat.le_of_ble_eq_true rfl) (by decide) (by decide) (v_ic_gt_f (t := 136) c_10_58 rfl (by decide) (q_aload_n c_10_61 rfl (v_cv c_10_62 km_5_45 rfl rfl (Nat.le_of_ble_eq_true rfl) ⟨⟨rfl, rfl⟩, Nat.le_of_ble_eq_true rfl, rfl⟩ (Nat.le_of_ble_eq_true rfl) (Nat.le_of_ble_eq_true rfl) (q_aload_n c_2_0 rfl (v_gi (z := 4) (v := f9) c_2_1 kf_5_38 rfl (Nat.le_of_ble_eq_true rfl) rfl rfl (hv2) ?_)))))))
  refine v_if_ne_f (t := 11) c_2_4 rfl (by omega) (q_iconst c_2_7 (q_goto (t := 12) c_2_8 rfl (v_zret c_2_12 rfl (by decide) (bk_inl (v_if_eq_f (t := 136) c_10_65 rfl (by decide) (q_iload c_10_68 rfl (q_aload_n c_10_70 rfl ?_)))))))
  refine v_sln 47 c_10_71 rfl (by omega) (Nat.le_of_ble_eq_true rfl) (by decide) (by decide) (v_ic_eq_f (t := 88) c_10_74 rfl (by decide) (q_aload_n c_10_77 rfl (q_iload c_10_78 rfl (v_sch 104 c_10_80 rfl (by omega) (Nat.le_of_ble_eq_true rfl) (by decide) (by decide) (by decide) (v_bip c_10_83 (by decide) (v_ic_ne_t (t := 130) c_10_85 rfl (by decide) (v_iinc (v := 17) c_10_130 rfl (Nat.le_of_ble_eq_true rfl) (by decide) ?_)))))))
  refine q_goto (t := 52) c_10_133 rfl (q_iload c_10_52 rfl (q_aload_n c_10_54 rfl (v_sln 47 c_10_55 rfl (by omega) (Nat.le_of_ble_eq_true rfl) (by decide) (by decide) (v_ic_gt_f (t := 136) c_10_58 rfl (by decide) (q_aload_n c_10_61 rfl (v_cv c_10_62 km_5_45 rfl rfl (Nat.le_of_ble_eq_true rfl) ⟨⟨rfl, rfl⟩, Nat.le_of_ble_eq_true rfl, rfl⟩ (Nat.le_of_ble_eq_true rfl) (Nat.le_of_ble_eq_true rfl) (q_aload_n c_2_0 rfl ?_)))))))
  refine v_gi (z := 4) (v := f9) c_2_1 kf_5_38 rfl (Nat.le_of_ble_eq_true rfl) rfl rfl (hv2) (v_if_ne_f (t := 11) c_2_4 rfl (by omega) (q_iconst c_2_7 (q_goto (t := 12) c_2_8 rfl (v_zret c_2_12 rfl (by decide) (bk_inl (v_if_eq_f (t := 136) c_10_65 rfl (by decide) (q_iload c_10_68 rfl ?_)))))))
  refine q_aload_n c_10_70 rfl (v_sln 47 c_10_71 rfl (by omega) (Nat.le_of_ble_eq_true rfl) (by decide) (by decide) (v_ic_eq_f (t := 88) c_10_74 rfl (by decide) (q_aload_n c_10_77 rfl (q_iload c_10_78 rfl (v_sch 117 c_10_80 rfl (by omega) (Nat.le_of_ble_eq_true rfl) (by decide) (by decide) (by decide) (v_bip c_10_83 (by decide) (v_ic_ne_t (t := 130) c_10_85 rfl (by decide) ?_)))))))
  refine v_iinc (v := 18) c_10_130 rfl (Nat.le_of_ble_eq_true rfl) (by decide) (q_goto (t := 52) c_10_133 rfl (q_iload c_10_52 rfl (q_aload_n c_10_54 rfl (v_sln 47 c_10_55 rfl (by omega) (Nat.le_of_ble_eq_true rfl) (by decide) (by decide) (v_ic_gt_f (t := 136) c_10_58 rfl (by decide) (q_aload_n c_10_61 rfl (v_cv c_10_62 km_5_45 rfl rfl (Nat.le_of_ble_eq_true rfl) ⟨⟨rfl, rfl⟩, Nat.le_of_ble_eq_true rfl, rfl⟩ (Nat.le_of_ble_eq_true rfl) (Nat.le_of_ble_eq_true rfl) ?_)))))))
  refine q_aload_n c_2_0 rfl (v_gi (z := 4) (v := f9) c_2_1 kf_5_38 rfl (Nat.le_of_ble_eq_true rfl) rfl rfl (hv2) (v_if_ne_f (t := 11) c_2_4 rfl (by omega) (q_iconst c_2_7 (q_goto (t := 12) c_2_8 rfl (v_zret c_2_12 rfl (by decide) (bk_inl (v_if_eq_f (t := 136) c_10_65 rfl (by decide) ?_)))))))
  refine q_iload c_10_68 rfl (q_aload_n c_10_70 rfl (v_sln 47 c_10_71 rfl (by omega) (Nat.le_of_ble_eq_true rfl) (by decide) (by decide) (v_ic_eq_f (t := 88) c_10_74 rfl (by decide) (q_aload_n c_10_77 rfl (q_iload c_10_78 rfl (v_sch 115 c_10_80 rfl (by omega) (Nat.le_of_ble_eq_true rfl) (by decide) (by decide) (by decide) (v_bip c_10_83 (by decide) ?_)))))))
  refine v_ic_ne_t (t := 130) c_10_85 rfl (by decide) (v_iinc (v := 19) c_10_130 rfl (Nat.le_of_ble_eq_true rfl) (by decide) (q_goto (t := 52) c_10_133 rfl (q_iload c_10_52 rfl (q_aload_n c_10_54 rfl (v_sln 47 c_10_55 rfl (by omega) (Nat.le_of_ble_eq_true rfl) (by decide) (by decide) (v_ic_gt_f (t := 136) c_10_58 rfl (by decide) (q_aload_n c_10_61 rfl ?_)))))))
  refine v_cv c_10_62 km_5_45 rfl rfl (Nat.le_of_ble_eq_true rfl) ⟨⟨rfl, rfl⟩, Nat.le_of_ble_eq_true rfl, rfl⟩ (Nat.le_of_ble_eq_true rfl) (Nat.le_of_ble_eq_true rfl) (q_aload_n c_2_0 rfl (v_gi (z := 4) (v := f9) c_2_1 kf_5_38 rfl (Nat.le_of_ble_eq_true rfl) rfl rfl (hv2) (v_if_ne_f (t := 11) c_2_4 rfl (by omega) (q_iconst c_2_7 (q_goto (t := 12) c_2_8 rfl (v_zret c_2_12 rfl (by decide) (bk_inl ?_)))))))
  refine v_if_eq_f (t := 136) c_10_65 rfl (by decide) (q_iload c_10_68 rfl (q_aload_n c_10_70 rfl (v_sln 47 c_10_71 rfl (by omega) (Nat.le_of_ble_eq_true rfl) (by decide) (by decide) (v_ic_eq_f (t := 88) c_10_74 rfl (by decide) (q_aload_n c_10_77 rfl (q_iload c_10_78 rfl (v_sch 107 c_10_80 rfl (by omega) (Nat.le_of_ble_eq_true rfl) (by decide) (by decide) (by decide) ?_)))))))
  refine v_bip c_10_83 (by decide) (v_ic_ne_t (t := 130) c_10_85 rfl (by decide) (v_iinc (v := 20) c_10_130 rfl (Nat.le_of_ble_eq_true rfl) (by decide) (q_goto (t := 52) c_10_133 rfl (q_iload c_10_52 rfl (q_aload_n c_10_54 rfl (v_sln 47 c_10_55 rfl (by omega) (Nat.le_of_ble_eq_true rfl) (by decide) (by decide) (v_ic_gt_f (t := 136) c_10_58 rfl (by decide) ?_)))))))
  refine q_aload_n c_10_61 rfl (v_cv c_10_62 km_5_45 rfl rfl (Nat.le_of_ble_eq_true rfl) ⟨⟨rfl, rfl⟩, Nat.le_of_ble_eq_true rfl, rfl⟩ (Nat.le_of_ble_eq_true rfl) (Nat.le_of_ble_eq_true rfl) (q_aload_n c_2_0 rfl (v_gi (z := 4) (v := f9) c_2_1 kf_5_38 rfl (Nat.le_of_ble_eq_true rfl) rfl rfl (hv2) (v_if_ne_f (t := 11) c_2_4 rfl (by omega) (q_iconst c_2_7 (q_goto (t := 12) c_2_8 rfl (v_zret c_2_12 rfl (by decide) ?_)))))))
  refine bk_inl (v_if_eq_f (t := 136) c_10_65 rfl (by decide) (q_iload c_10_68 rfl (q_aload_n c_10_70 rfl (v_sln 47 c_10_71 rfl (by omega) (Nat.le_of_ble_eq_true rfl) (by decide) (by decide) (v_ic_eq_f (t := 88) c_10_74 rfl (by decide) (q_aload_n c_10_77 rfl (q_iload c_10_78 rfl ?_)))))))
  refine v_sch 32 c_10_80 rfl (by omega) (Nat.le_of_ble_eq_true rfl) (by decide) (by decide) (by decide) (v_bip c_10_83 (by decide) (v_ic_ne_f (t := 130) c_10_85 rfl (by decide) (q_iload c_10_88 rfl (q_iload c_10_90 rfl (v_isub (v := 4) c_10_92 (by decide) (q_iload_n c_10_93 rfl (q_iload_n c_10_94 rfl ?_)))))))
  refine v_isub (v := L8 - r8) c_10_95 rfl ?_
  by_cases h_5 : 4 ≠ L8 - r8
  · refine v_ic_ne_t (t := 121) c_10_96 rfl ⟨h_5, ⟨by decide, by decide⟩, by omega, by omega⟩ (v_iinc (v := 4) c_10_121 rfl (Nat.le_of_ble_eq_true rfl) (by decide) (Wp_ls [(4, vi 4), (6, vi 20), (0, .ref 1), (1, .ref (a_SB + 1)), (2, vi r8), (3, vi L8), (5, vi 16)] (lsub_cons rfl (lsub_cons rfl (lsub_cons rfl (lsub_cons rfl (lsub_cons rfl (lsub_cons rfl (lsub_cons rfl lsub_nil))))))) (q_iload c_10_124 rfl (q_iconst c_10_126 (v_iadd (v := 21) c_10_127 (by decide) (q_istore c_10_128 (Nat.le_of_ble_eq_true rfl) (v_iinc (v := 21) c_10_130 rfl (Nat.le_of_ble_eq_true rfl) (by decide) ?_)))))))
    refine q_goto (t := 52) c_10_133 rfl (Wp_ls [(0, .ref 1), (1, .ref (a_SB + 1)), (2, vi r8), (3, vi L8), (4, vi 4), (5, vi 21), (6, vi 21)] (lsub_cons rfl (lsub_cons rfl (lsub_cons rfl (lsub_cons rfl (lsub_cons rfl (lsub_cons rfl (lsub_cons rfl lsub_nil))))))) ?_)
    exact f_10_1_4 (d := d) (r8 := r8) (L8 := L8) (W8 := W8) hI hq0 hq1 hv0 hv1 hv2 hv3 hB ((wd1_3_f (by omega)).symm.trans hdW8) K0 K1
  · refine v_ic_ne_f (t := 121) c_10_96 rfl (Decidable.not_not.mp h_5) (q_aload_n c_10_99 rfl (q_aload_n c_10_100 rfl (q_iload c_10_101 rfl (q_iload_n c_10_103 rfl (q_iload_n c_10_104 rfl (q_iload_n c_10_105 rfl (v_isub (v := L8 - r8) c_10_106 rfl ?_)))))))
    refine v_cv c_10_107 km_5_73 rfl rfl (Nat.le_of_ble_eq_true rfl) ⟨⟨rfl, rfl⟩, Nat.le_of_ble_eq_true rfl, rfl⟩ (Nat.le_of_ble_eq_true rfl) (Nat.le_of_ble_eq_true rfl) (q_iconst c_9_0 (q_istore c_9_1 (Nat.le_of_ble_eq_true rfl) (q_iload c_9_3 rfl (q_iload c_9_5 rfl (v_ic_ge_f (t := 38) c_9_7 rfl ⟨by decide, by first | exact q_e102c8f11 h_5 | omega, by first | exact q_559789b9d h_5 | omega⟩ (q_aload_n c_9_10 rfl (q_iload_n c_9_11 rfl ?_)))))))
    refine q_iload c_9_12 rfl (v_iadd (v := 16) c_9_14 (by decide) (v_sch 104 c_9_15 rfl (by omega) (Nat.le_of_ble_eq_true rfl) (by decide) (by decide) (by decide) (q_aload_n c_9_18 rfl (v_gr (t := 2) c_9_19 kf_5_9 rfl (Nat.le_of_ble_eq_true rfl) rfl (q_iload_n c_9_22 rfl (q_iload c_9_23 rfl (v_iadd (v := r8) c_9_25 (by omega) ?_)))))))
    have h_6 : -2147483648 ≤ (B r8) ∧ (B r8) ≤ 2147483647 := by rw [← hB r8]; exact ir_2 hI r8
    refine v_ba (v := (B r8)) c_9_26 rfl (by decide) (by decide) (by omega) (hB r8) ?_
    by_cases h_7 : 104 = (B r8)
    · refine v_ic_eq_t (t := 32) c_9_27 rfl h_7 (v_iinc (v := 1) c_9_32 rfl (Nat.le_of_ble_eq_true rfl) (by decide) (q_goto (t := 3) c_9_35 rfl (q_iload c_9_3 rfl (q_iload c_9_5 rfl (v_ic_ge_f (t := 38) c_9_7 rfl ⟨by decide, by first | exact q_a2240bc6c h_5 | omega, by first | exact q_559789b9d h_5 | omega⟩ (q_aload_n c_9_10 rfl (q_iload_n c_9_11 rfl ?_)))))))
      refine q_iload c_9_12 rfl (v_iadd (v := 17) c_9_14 (by decide) (v_sch 117 c_9_15 rfl (by omega) (Nat.le_of_ble_eq_true rfl) (by decide) (by decide) (by decide) (q_aload_n c_9_18 rfl (v_gr (t := 2) c_9_19 kf_5_9 rfl (Nat.le_of_ble_eq_true rfl) rfl (q_iload_n c_9_22 rfl (q_iload c_9_23 rfl (v_iadd (v := r8 + 1) c_9_25 rfl ?_)))))))
      have h_8 : -2147483648 ≤ (B (r8 + 1)) ∧ (B (r8 + 1)) ≤ 2147483647 := by rw [← hB (r8 + 1)]; exact ir_2 hI (r8 + 1)
      refine v_ba (v := (B (r8 + 1))) c_9_26 rfl (by decide) (by decide) (by omega) (hB (r8 + 1)) ?_
      by_cases h_9 : 117 = (B (r8 + 1))
      · refine v_ic_eq_t (t := 32) c_9_27 rfl h_9 (v_iinc (v := 2) c_9_32 rfl (Nat.le_of_ble_eq_true rfl) (by decide) (q_goto (t := 3) c_9_35 rfl (q_iload c_9_3 rfl (q_iload c_9_5 rfl (v_ic_ge_f (t := 38) c_9_7 rfl ⟨by decide, by first | exact q_81cf1e9c6 h_5 | omega, by first | exact q_559789b9d h_5 | omega⟩ (q_aload_n c_9_10 rfl (q_iload_n c_9_11 rfl ?_)))))))
        refine q_iload c_9_12 rfl (v_iadd (v := 18) c_9_14 (by decide) (v_sch 115 c_9_15 rfl (by omega) (Nat.le_of_ble_eq_true rfl) (by decide) (by decide) (by decide) (q_aload_n c_9_18 rfl (v_gr (t := 2) c_9_19 kf_5_9 rfl (Nat.le_of_ble_eq_true rfl) rfl (q_iload_n c_9_22 rfl (q_iload c_9_23 rfl (v_iadd (v := r8 + 2) c_9_25 rfl ?_)))))))
        have h_10 : -2147483648 ≤ (B (r8 + 2)) ∧ (B (r8 + 2)) ≤ 2147483647 := by rw [← hB (r8 + 2)]; exact ir_2 hI (r8 + 2)
        refine v_ba (v := (B (r8 + 2))) c_9_26 rfl (by decide) (by decide) (by omega) (hB (r8 + 2)) ?_
        by_cases h_11 : 115 = (B (r8 + 2))
        · refine v_ic_eq_t (t := 32) c_9_27 rfl h_11 (v_iinc (v := 3) c_9_32 rfl (Nat.le_of_ble_eq_true rfl) (by decide) (q_goto (t := 3) c_9_35 rfl (q_iload c_9_3 rfl (q_iload c_9_5 rfl (v_ic_ge_f (t := 38) c_9_7 rfl ⟨by decide, by first | exact q_bf9798940 h_5 | omega, by first | exact q_559789b9d h_5 | omega⟩ (q_aload_n c_9_10 rfl (q_iload_n c_9_11 rfl ?_)))))))
          refine q_iload c_9_12 rfl (v_iadd (v := 19) c_9_14 (by decide) (v_sch 107 c_9_15 rfl (by omega) (Nat.le_of_ble_eq_true rfl) (by decide) (by decide) (by decide) (q_aload_n c_9_18 rfl (v_gr (t := 2) c_9_19 kf_5_9 rfl (Nat.le_of_ble_eq_true rfl) rfl (q_iload_n c_9_22 rfl (q_iload c_9_23 rfl (v_iadd (v := r8 + 3) c_9_25 rfl ?_)))))))
          have h_12 : -2147483648 ≤ (B (r8 + 3)) ∧ (B (r8 + 3)) ≤ 2147483647 := by rw [← hB (r8 + 3)]; exact ir_2 hI (r8 + 3)
          refine v_ba (v := (B (r8 + 3))) c_9_26 rfl (by decide) (by decide) (by omega) (hB (r8 + 3)) ?_
          by_cases h_13 : 107 = (B (r8 + 3))
          · refine v_ic_eq_t (t := 32) c_9_27 rfl h_13 (v_iinc (v := 4) c_9_32 rfl (Nat.le_of_ble_eq_true rfl) (by decide) (Wp_ls [(5, vi 4), (0, .ref 1), (1, .ref (a_SB + 1)), (2, vi 16), (3, vi r8), (4, vi (L8 - r8))] (lsub_cons rfl (lsub_cons rfl (lsub_cons rfl (lsub_cons rfl (lsub_cons rfl (lsub_cons rfl lsub_nil)))))) (q_goto (t := 3) c_9_35 rfl (q_iload c_9_3 rfl (q_iload c_9_5 rfl (v_ic_ge_t (t := 38) c_9_7 rfl ⟨by first | exact q_5edcef13d h_5 | omega, by first | exact q_62ba5a5ea h_5 | omega, by decide⟩ (q_iconst c_9_38 ?_)))))))
            refine v_zret c_9_39 rfl (by decide) (bk_inl (v_if_eq_f (t := 121) c_10_110 rfl (by decide) (q_aload_n c_10_113 rfl (q_iload_n c_10_114 rfl (v_pi (z := 2) c_10_115 kf_5_35 rfl (Nat.le_of_ble_eq_true rfl) rfl rfl rfl (by decide) (q_iload c_10_118 rfl (q_iret c_10_120 rfl ?_)))))))
            have hw9 : W8 = 3 := hdW8.symm.trans (wd1_3_t (by omega))
            have hI_14 := iw_1_2 (v := L8) hI ⟨by first | (clear h_1 h_2 h_3 h_4 h_6 h_7 h_8 h_9 h_10 h_11 h_12 h_13 hw9; omega) | omega, by first | (clear h_1 h_2 h_3 h_4 h_5 h_6 h_7 h_8 h_9 h_10 h_11 h_12 h_13 hw9; omega) | omega⟩
            have h_15 : (up c 1 2 L8) 1 2 = L8 := (up_e rfl)
            have h_16 : (up c 1 2 L8) 1 4 = f9 := ((up_n (by decide)).trans (hv2))
            have h_17 : (up c 1 2 L8) 1 5 = p9 := ((up_n (by decide)).trans (hv3))
            exact zv (by omega) (K1 (up c 1 2 L8) hI_14 (fun a j hm => up_b (Decidable.or_iff_not_imp_left.mpr (fun h1 h2 => hm (Or.inl ⟨Decidable.not_not.mp h1, h2⟩)))) (by omega) (by omega) (by omega) (by omega))
          · refine v_ic_eq_f (t := 32) c_9_27 rfl ⟨h_13, ⟨by decide, by decide⟩, by first | exact q_f97c35332 h_12 | omega, by first | exact q_79e53d295 h_12 | omega⟩ (q_iconst c_9_30 (v_zret c_9_31 rfl (by decide) (bk_inl (v_if_eq_t (t := 121) c_10_110 rfl (by decide) (v_iinc (v := 4) c_10_121 rfl (Nat.le_of_ble_eq_true rfl) (by decide) (Wp_ls [(4, vi 4), (6, vi 20), (0, .ref 1), (1, .ref (a_SB + 1)), (2, vi r8), (3, vi L8), (5, vi 16)] (lsub_cons rfl (lsub_cons rfl (lsub_cons rfl (lsub_cons rfl (lsub_cons rfl (lsub_cons rfl (lsub_cons rfl lsub_nil))))))) (q_iload c_10_124 rfl ?_)))))))
            refine q_iconst c_10_126 (v_iadd (v := 21) c_10_127 (by decide) (q_istore c_10_128 (Nat.le_of_ble_eq_true rfl) (v_iinc (v := 21) c_10_130 rfl (Nat.le_of_ble_eq_true rfl) (by decide) (q_goto (t := 52) c_10_133 rfl (Wp_ls [(0, .ref 1), (1, .ref (a_SB + 1)), (2, vi r8), (3, vi L8), (4, vi 4), (5, vi 21), (6, vi 21)] (lsub_cons rfl (lsub_cons rfl (lsub_cons rfl (lsub_cons rfl (lsub_cons rfl (lsub_cons rfl (lsub_cons rfl lsub_nil))))))) ?_)))))
            exact f_10_1_4 (d := d) (r8 := r8) (L8 := L8) (W8 := W8) hI hq0 hq1 hv0 hv1 hv2 hv3 hB ((wd1_3_f (by omega)).symm.trans hdW8) K0 K1
        · refine v_ic_eq_f (t := 32) c_9_27 rfl ⟨h_11, ⟨by decide, by decide⟩, by first | exact q_f97c35332 h_10 | omega, by first | exact q_79e53d295 h_10 | omega⟩ (q_iconst c_9_30 (v_zret c_9_31 rfl (by decide) (bk_inl (v_if_eq_t (t := 121) c_10_110 rfl (by decide) (v_iinc (v := 4) c_10_121 rfl (Nat.le_of_ble_eq_true rfl) (by decide) (Wp_ls [(4, vi 4), (6, vi 20), (0, .ref 1), (1, .ref (a_SB + 1)), (2, vi r8), (3, vi L8), (5, vi 16)] (lsub_cons rfl (lsub_cons rfl (lsub_cons rfl (lsub_cons rfl (lsub_cons rfl (lsub_cons rfl (lsub_cons rfl lsub_nil))))))) (q_iload c_10_124 rfl ?_)))))))
          refine q_iconst c_10_126 (v_iadd (v := 21) c_10_127 (by decide) (q_istore c_10_128 (Nat.le_of_ble_eq_true rfl) (v_iinc (v := 21) c_10_130 rfl (Nat.le_of_ble_eq_true rfl) (by decide) (q_goto (t := 52) c_10_133 rfl (Wp_ls [(0, .ref 1), (1, .ref (a_SB + 1)), (2, vi r8), (3, vi L8), (4, vi 4), (5, vi 21), (6, vi 21)] (lsub_cons rfl (lsub_cons rfl (lsub_cons rfl (lsub_cons rfl (lsub_cons rfl (lsub_cons rfl (lsub_cons rfl lsub_nil))))))) ?_)))))
          exact f_10_1_4 (d := d) (r8 := r8) (L8 := L8) (W8 := W8) hI hq0 hq1 hv0 hv1 hv2 hv3 hB ((wd1_3_f (by omega)).symm.trans hdW8) K0 K1
      · refine v_ic_eq_f (t := 32) c_9_27 rfl ⟨h_9, ⟨by decide, by decide⟩, by first | exact q_f97c35332 h_8 | omega, by first | exact q_79e53d295 h_8 | omega⟩ (q_iconst c_9_30 (v_zret c_9_31 rfl (by decide) (bk_inl (v_if_eq_t (t := 121) c_10_110 rfl (by decide) (v_iinc (v := 4) c_10_121 rfl (Nat.le_of_ble_eq_true rfl) (by decide) (Wp_ls [(4, vi 4), (6, vi 20), (0, .ref 1), (1, .ref (a_SB + 1)), (2, vi r8), (3, vi L8), (5, vi 16)] (lsub_cons rfl (lsub_cons rfl (lsub_cons rfl (lsub_cons rfl (lsub_cons rfl (lsub_cons rfl (lsub_cons rfl lsub_nil))))))) (q_iload c_10_124 rfl ?_)))))))
        refine q_iconst c_10_126 (v_iadd (v := 21) c_10_127 (by decide) (q_istore c_10_128 (Nat.le_of_ble_eq_true rfl) (v_iinc (v := 21) c_10_130 rfl (Nat.le_of_ble_eq_true rfl) (by decide) (q_goto (t := 52) c_10_133 rfl (Wp_ls [(0, .ref 1), (1, .ref (a_SB + 1)), (2, vi r8), (3, vi L8), (4, vi 4), (5, vi 21), (6, vi 21)] (lsub_cons rfl (lsub_cons rfl (lsub_cons rfl (lsub_cons rfl (lsub_cons rfl (lsub_cons rfl (lsub_cons rfl lsub_nil))))))) ?_)))))
        exact f_10_1_4 (d := d) (r8 := r8) (L8 := L8) (W8 := W8) hI hq0 hq1 hv0 hv1 hv2 hv3 hB ((wd1_3_f (by omega)).symm.trans hdW8) K0 K1
    · refine v_ic_eq_f (t := 32) c_9_27 rfl ⟨h_7, ⟨by decide, by decide⟩, by first | exact q_f97c35332 h_6 | omega, by first | exact q_79e53d295 h_6 | omega⟩ (q_iconst c_9_30 (v_zret c_9_31 rfl (by decide) (bk_inl (v_if_eq_t (t := 121) c_10_110 rfl (by decide) (v_iinc (v := 4) c_10_121 rfl (Nat.le_of_ble_eq_true rfl) (by decide) (Wp_ls [(4, vi 4), (6, vi 20), (0, .ref 1), (1, .ref (a_SB + 1)), (2, vi r8), (3, vi L8), (5, vi 16)] (lsub_cons rfl (lsub_cons rfl (lsub_cons rfl (lsub_cons rfl (lsub_cons rfl (lsub_cons rfl (lsub_cons rfl lsub_nil))))))) (q_iload c_10_124 rfl ?_)))))))
      refine q_iconst c_10_126 (v_iadd (v := 21) c_10_127 (by decide) (q_istore c_10_128 (Nat.le_of_ble_eq_true rfl) (v_iinc (v := 21) c_10_130 rfl (Nat.le_of_ble_eq_true rfl) (by decide) (q_goto (t := 52) c_10_133 rfl (Wp_ls [(0, .ref 1), (1, .ref (a_SB + 1)), (2, vi r8), (3, vi L8), (4, vi 4), (5, vi 21), (6, vi 21)] (lsub_cons rfl (lsub_cons rfl (lsub_cons rfl (lsub_cons rfl (lsub_cons rfl (lsub_cons rfl (lsub_cons rfl lsub_nil))))))) ?_)))))
      exact f_10_1_4 (d := d) (r8 := r8) (L8 := L8) (W8 := W8) hI hq0 hq1 hv0 hv1 hv2 hv3 hB ((wd1_3_f (by omega)).symm.trans hdW8) K0 K1

set_option maxRecDepth 100000 in
set_option maxHeartbeats 4000000 in
theorem f_10_1_2 {sc : List Int32} {e : Int} {d u P Q : Nat} {c : ME} {e1 a9 f9 p9 W8 r8 L8 : Int} {B : Int → Int} {Z : AR → Prop} (hI : Iv u e P Q c) (hq0 : (f9 = 0)) (hq1 : (r8 ≥ 0 ∧ r8 ≤ L8 ∧ L8 ≤ 600)) (hv0 : c 1 1 = e1) (hv1 : c 1 2 = a9) (hv2 : c 1 4 = f9) (hv3 : c 1 5 = p9) (hB : ∀ j : Int, c 2 j = B j) (hdW8 : wd1_2 B r8 L8 = W8) (K0 : ∀ c2 : ME, Iv u e P Q c2 → (∀ (a : Nat) (j : Int), ¬ ((a = 1 ∧ j = 2) ∨ (a = 1 ∧ j = 4) ∨ (a = 1 ∧ j = 5)) → c2 a j = c a j) → ((W8 = (-1))) → (c2 1 2 = a9) → (c2 1 4 = 1) → (c2 1 5 = r8) → Z (.inl (some (vi (-1))), Wd P Q P P c2, 0, 0)) (K1 : ∀ c2 : ME, Iv u e P Q c2 → (∀ (a : Nat) (j : Int), ¬ ((a = 1 ∧ j = 2) ∨ (a = 1 ∧ j = 4) ∨ (a = 1 ∧ j = 5)) → c2 a j = c a j) → ((W8 ≥ 0 ∧ W8 ≤ 9)) → (c2 1 2 = L8) → (c2 1 4 = 0) → (c2 1 5 = p9) → Z (.inl (some (vi W8)), Wd P Q P P c2, 0, 0)) : Wp sc (d + 12) 10 52 [(0, .ref 1), (1, .ref (a_SB + 1)), (2, vi r8), (3, vi L8), (4, vi 2), (5, vi 9), (6, vi 9)] [] (Wd P Q P P c) 0 0 Z := by
  have hP := iv_P hI
  have hQ := iv_Q hI
  have h_1 := ir_1_1 hI
  have h_2 := ir_1_2 hI
  have h_3 := ir_1_4 hI
  have h_4 := ir_1_5 hI
  refine q_iload c_10_52 rfl (q_aload_n c_10_54 rfl (v_sln 47 c_10_55 rfl (by omega) (Nat.le_of_ble_eq_true rfl) (by decide) (by decide) (v_ic_gt_f (t := 136) c_10_58 rfl (by decide) (q_aload_n c_10_61 rfl (v_cv c_10_62 km_5_45 rfl rfl (Nat.le_of_ble_eq_true rfl) ⟨⟨rfl, rfl⟩, Nat.le_of_ble_eq_true rfl, rfl⟩ (Nat.le_of_ble_eq_true rfl) (Nat.le_of_ble_eq_true rfl) (q_aload_n c_2_0 rfl (v_gi (z := 4) (v := f9) c_2_1 kf_5_38 rfl (Nat.le_of_ble_eq_true rfl) rfl rfl (hv2) ?_)))))))
  refine v_if_ne_f (t := 11) c_2_4 rfl (by omega) (q_iconst c_2_7 (q_goto (t := 12) c_2_8 rfl (v_zret c_2_12 rfl (by decide) (bk_inl (v_if_eq_f (t := 136) c_10_65 rfl (by decide) (q_iload c_10_68 rfl (q_aload_n c_10_70 rfl ?_)))))))
  refine v_sln 47 c_10_71 rfl (by omega) (Nat.le_of_ble_eq_true rfl) (by decide) (by decide) (v_ic_eq_f (t := 88) c_10_74 rfl (by decide) (q_aload_n c_10_77 rfl (q_iload c_10_78 rfl (v_sch 99 c_10_80 rfl (by omega) (Nat.le_of_ble_eq_true rfl) (by decide) (by decide) (by decide) (v_bip c_10_83 (by decide) (v_ic_ne_t (t := 130) c_10_85 rfl (by decide) (v_iinc (v := 10) c_10_130 rfl (Nat.le_of_ble_eq_true rfl) (by decide) ?_)))))))
  refine q_goto (t := 52) c_10_133 rfl (q_iload c_10_52 rfl (q_aload_n c_10_54 rfl (v_sln 47 c_10_55 rfl (by omega) (Nat.le_of_ble_eq_true rfl) (by decide) (by decide) (v_ic_gt_f (t := 136) c_10_58 rfl (by decide) (q_aload_n c_10_61 rfl (v_cv c_10_62 km_5_45 rfl rfl (Nat.le_of_ble_eq_true rfl) ⟨⟨rfl, rfl⟩, Nat.le_of_ble_eq_true rfl, rfl⟩ (Nat.le_of_ble_eq_true rfl) (Nat.le_of_ble_eq_true rfl) (q_aload_n c_2_0 rfl ?_)))))))
  refine v_gi (z := 4) (v := f9) c_2_1 kf_5_38 rfl (Nat.le_of_ble_eq_true rfl) rfl rfl (hv2) (v_if_ne_f (t := 11) c_2_4 rfl (by omega) (q_iconst c_2_7 (q_goto (t := 12) c_2_8 rfl (v_zret c_2_12 rfl (by decide) (bk_inl (v_if_eq_f (t := 136) c_10_65 rfl (by decide) (q_iload c_10_68 rfl ?_)))))))
  refine q_aload_n c_10_70 rfl (v_sln 47 c_10_71 rfl (by omega) (Nat.le_of_ble_eq_true rfl) (by decide) (by decide) (v_ic_eq_f (t := 88) c_10_74 rfl (by decide) (q_aload_n c_10_77 rfl (q_iload c_10_78 rfl (v_sch 111 c_10_80 rfl (by omega) (Nat.le_of_ble_eq_true rfl) (by decide) (by decide) (by decide) (v_bip c_10_83 (by decide) (v_ic_ne_t (t := 130) c_10_85 rfl (by decide) ?_)))))))
  refine v_iinc (v := 11) c_10_130 rfl (Nat.le_of_ble_eq_true rfl) (by decide) (q_goto (t := 52) c_10_133 rfl (q_iload c_10_52 rfl (q_aload_n c_10_54 rfl (v_sln 47 c_10_55 rfl (by omega) (Nat.le_of_ble_eq_true rfl) (by decide) (by decide) (v_ic_gt_f (t := 136) c_10_58 rfl (by decide) (q_aload_n c_10_61 rfl (v_cv c_10_62 km_5_45 rfl rfl (Nat.le_of_ble_eq_true rfl) ⟨⟨rfl, rfl⟩, Nat.le_of_ble_eq_true rfl, rfl⟩ (Nat.le_of_ble_eq_true rfl) (Nat.le_of_ble_eq_true rfl) ?_)))))))
  refine q_aload_n c_2_0 rfl (v_gi (z := 4) (v := f9) c_2_1 kf_5_38 rfl (Nat.le_of_ble_eq_true rfl) rfl rfl (hv2) (v_if_ne_f (t := 11) c_2_4 rfl (by omega) (q_iconst c_2_7 (q_goto (t := 12) c_2_8 rfl (v_zret c_2_12 rfl (by decide) (bk_inl (v_if_eq_f (t := 136) c_10_65 rfl (by decide) ?_)))))))
  refine q_iload c_10_68 rfl (q_aload_n c_10_70 rfl (v_sln 47 c_10_71 rfl (by omega) (Nat.le_of_ble_eq_true rfl) (by decide) (by decide) (v_ic_eq_f (t := 88) c_10_74 rfl (by decide) (q_aload_n c_10_77 rfl (q_iload c_10_78 rfl (v_sch 97 c_10_80 rfl (by omega) (Nat.le_of_ble_eq_true rfl) (by decide) (by decide) (by decide) (v_bip c_10_83 (by decide) ?_)))))))
  refine v_ic_ne_t (t := 130) c_10_85 rfl (by decide) (v_iinc (v := 12) c_10_130 rfl (Nat.le_of_ble_eq_true rfl) (by decide) (q_goto (t := 52) c_10_133 rfl (q_iload c_10_52 rfl (q_aload_n c_10_54 rfl (v_sln 47 c_10_55 rfl (by omega) (Nat.le_of_ble_eq_true rfl) (by decide) (by decide) (v_ic_gt_f (t := 136) c_10_58 rfl (by decide) (q_aload_n c_10_61 rfl ?_)))))))
  refine v_cv c_10_62 km_5_45 rfl rfl (Nat.le_of_ble_eq_true rfl) ⟨⟨rfl, rfl⟩, Nat.le_of_ble_eq_true rfl, rfl⟩ (Nat.le_of_ble_eq_true rfl) (Nat.le_of_ble_eq_true rfl) (q_aload_n c_2_0 rfl (v_gi (z := 4) (v := f9) c_2_1 kf_5_38 rfl (Nat.le_of_ble_eq_true rfl) rfl rfl (hv2) (v_if_ne_f (t := 11) c_2_4 rfl (by omega) (q_iconst c_2_7 (q_goto (t := 12) c_2_8 rfl (v_zret c_2_12 rfl (by decide) (bk_inl ?_)))))))
  refine v_if_eq_f (t := 136) c_10_65 rfl (by decide) (q_iload c_10_68 rfl (q_aload_n c_10_70 rfl (v_sln 47 c_10_71 rfl (by omega) (Nat.le_of_ble_eq_true rfl) (by decide) (by decide) (v_ic_eq_f (t := 88) c_10_74 rfl (by decide) (q_aload_n c_10_77 rfl (q_iload c_10_78 rfl (v_sch 114 c_10_80 rfl (by omega) (Nat.le_of_ble_eq_true rfl) (by decide) (by decide) (by decide) ?_)))))))
  refine v_bip c_10_83 (by decide) (v_ic_ne_t (t := 130) c_10_85 rfl (by decide) (v_iinc (v := 13) c_10_130 rfl (Nat.le_of_ble_eq_true rfl) (by decide) (q_goto (t := 52) c_10_133 rfl (q_iload c_10_52 rfl (q_aload_n c_10_54 rfl (v_sln 47 c_10_55 rfl (by omega) (Nat.le_of_ble_eq_true rfl) (by decide) (by decide) (v_ic_gt_f (t := 136) c_10_58 rfl (by decide) ?_)))))))
  refine q_aload_n c_10_61 rfl (v_cv c_10_62 km_5_45 rfl rfl (Nat.le_of_ble_eq_true rfl) ⟨⟨rfl, rfl⟩, Nat.le_of_ble_eq_true rfl, rfl⟩ (Nat.le_of_ble_eq_true rfl) (Nat.le_of_ble_eq_true rfl) (q_aload_n c_2_0 rfl (v_gi (z := 4) (v := f9) c_2_1 kf_5_38 rfl (Nat.le_of_ble_eq_true rfl) rfl rfl (hv2) (v_if_ne_f (t := 11) c_2_4 rfl (by omega) (q_iconst c_2_7 (q_goto (t := 12) c_2_8 rfl (v_zret c_2_12 rfl (by decide) ?_)))))))
  refine bk_inl (v_if_eq_f (t := 136) c_10_65 rfl (by decide) (q_iload c_10_68 rfl (q_aload_n c_10_70 rfl (v_sln 47 c_10_71 rfl (by omega) (Nat.le_of_ble_eq_true rfl) (by decide) (by decide) (v_ic_eq_f (t := 88) c_10_74 rfl (by decide) (q_aload_n c_10_77 rfl (q_iload c_10_78 rfl ?_)))))))
  refine v_sch 115 c_10_80 rfl (by omega) (Nat.le_of_ble_eq_true rfl) (by decide) (by decide) (by decide) (v_bip c_10_83 (by decide) (v_ic_ne_t (t := 130) c_10_85 rfl (by decide) (v_iinc (v := 14) c_10_130 rfl (Nat.le_of_ble_eq_true rfl) (by decide) (Wp_ls [(6, vi 14), (0, .ref 1), (1, .ref (a_SB + 1)), (2, vi r8), (3, vi L8), (4, vi 2), (5, vi 9)] (lsub_cons rfl (lsub_cons rfl (lsub_cons rfl (lsub_cons rfl (lsub_cons rfl (lsub_cons rfl (lsub_cons rfl lsub_nil))))))) (q_goto (t := 52) c_10_133 rfl (q_iload c_10_52 rfl (q_aload_n c_10_54 rfl ?_)))))))
  refine v_sln 47 c_10_55 rfl (by omega) (Nat.le_of_ble_eq_true rfl) (by decide) (by decide) (v_ic_gt_f (t := 136) c_10_58 rfl (by decide) (q_aload_n c_10_61 rfl (v_cv c_10_62 km_5_45 rfl rfl (Nat.le_of_ble_eq_true rfl) ⟨⟨rfl, rfl⟩, Nat.le_of_ble_eq_true rfl, rfl⟩ (Nat.le_of_ble_eq_true rfl) (Nat.le_of_ble_eq_true rfl) (q_aload_n c_2_0 rfl (v_gi (z := 4) (v := f9) c_2_1 kf_5_38 rfl (Nat.le_of_ble_eq_true rfl) rfl rfl (hv2) (v_if_ne_f (t := 11) c_2_4 rfl (by omega) (q_iconst c_2_7 ?_)))))))
  refine q_goto (t := 12) c_2_8 rfl (v_zret c_2_12 rfl (by decide) (bk_inl (v_if_eq_f (t := 136) c_10_65 rfl (by decide) (q_iload c_10_68 rfl (q_aload_n c_10_70 rfl (v_sln 47 c_10_71 rfl (by omega) (Nat.le_of_ble_eq_true rfl) (by decide) (by decide) (v_ic_eq_f (t := 88) c_10_74 rfl (by decide) ?_)))))))
  refine q_aload_n c_10_77 rfl (q_iload c_10_78 rfl (v_sch 101 c_10_80 rfl (by omega) (Nat.le_of_ble_eq_true rfl) (by decide) (by decide) (by decide) (v_bip c_10_83 (by decide) (v_ic_ne_t (t := 130) c_10_85 rfl (by decide) (v_iinc (v := 15) c_10_130 rfl (Nat.le_of_ble_eq_true rfl) (by decide) (q_goto (t := 52) c_10_133 rfl (q_iload c_10_52 rfl ?_)))))))
  refine q_aload_n c_10_54 rfl (v_sln 47 c_10_55 rfl (by omega) (Nat.le_of_ble_eq_true rfl) (by decide) (by decide) (v_ic_gt_f (t := 136) c_10_58 rfl (by decide) (q_aload_n c_10_61 rfl (v_cv c_10_62 km_5_45 rfl rfl (Nat.le_of_ble_eq_true rfl) ⟨⟨rfl, rfl⟩, Nat.le_of_ble_eq_true rfl, rfl⟩ (Nat.le_of_ble_eq_true rfl) (Nat.le_of_ble_eq_true rfl) (q_aload_n c_2_0 rfl (v_gi (z := 4) (v := f9) c_2_1 kf_5_38 rfl (Nat.le_of_ble_eq_true rfl) rfl rfl (hv2) (v_if_ne_f (t := 11) c_2_4 rfl (by omega) ?_)))))))
  refine q_iconst c_2_7 (q_goto (t := 12) c_2_8 rfl (v_zret c_2_12 rfl (by decide) (bk_inl (v_if_eq_f (t := 136) c_10_65 rfl (by decide) (q_iload c_10_68 rfl (q_aload_n c_10_70 rfl (v_sln 47 c_10_71 rfl (by omega) (Nat.le_of_ble_eq_true rfl) (by decide) (by decide) ?_)))))))
  refine v_ic_eq_f (t := 88) c_10_74 rfl (by decide) (q_aload_n c_10_77 rfl (q_iload c_10_78 rfl (v_sch 32 c_10_80 rfl (by omega) (Nat.le_of_ble_eq_true rfl) (by decide) (by decide) (by decide) (v_bip c_10_83 (by decide) (v_ic_ne_f (t := 130) c_10_85 rfl (by decide) (q_iload c_10_88 rfl (q_iload c_10_90 rfl ?_)))))))
  refine v_isub (v := 6) c_10_92 (by decide) (q_iload_n c_10_93 rfl (q_iload_n c_10_94 rfl (v_isub (v := L8 - r8) c_10_95 rfl ?_)))
  by_cases h_5 : 6 ≠ L8 - r8
  · refine v_ic_ne_t (t := 121) c_10_96 rfl ⟨h_5, ⟨by decide, by decide⟩, by omega, by omega⟩ (v_iinc (v := 3) c_10_121 rfl (Nat.le_of_ble_eq_true rfl) (by decide) (q_iload c_10_124 rfl (q_iconst c_10_126 (v_iadd (v := 16) c_10_127 (by decide) (q_istore c_10_128 (Nat.le_of_ble_eq_true rfl) (v_iinc (v := 16) c_10_130 rfl (Nat.le_of_ble_eq_true rfl) (by decide) (q_goto (t := 52) c_10_133 rfl ?_)))))))
    refine Wp_ls [(0, .ref 1), (1, .ref (a_SB + 1)), (2, vi r8), (3, vi L8), (4, vi 3), (5, vi 16), (6, vi 16)] (lsub_cons rfl (lsub_cons rfl (lsub_cons rfl (lsub_cons rfl (lsub_cons rfl (lsub_cons rfl (lsub_cons rfl lsub_nil))))))) ?_
    exact f_10_1_3 (d := d) (r8 := r8) (L8 := L8) (W8 := W8) hI hq0 hq1 hv0 hv1 hv2 hv3 hB ((wd1_2_f (by omega)).symm.trans hdW8) K0 K1
  · refine v_ic_ne_f (t := 121) c_10_96 rfl (Decidable.not_not.mp h_5) (q_aload_n c_10_99 rfl (q_aload_n c_10_100 rfl (q_iload c_10_101 rfl (q_iload_n c_10_103 rfl (q_iload_n c_10_104 rfl (q_iload_n c_10_105 rfl (v_isub (v := L8 - r8) c_10_106 rfl ?_)))))))
    refine v_cv c_10_107 km_5_73 rfl rfl (Nat.le_of_ble_eq_true rfl) ⟨⟨rfl, rfl⟩, Nat.le_of_ble_eq_true rfl, rfl⟩ (Nat.le_of_ble_eq_true rfl) (Nat.le_of_ble_eq_true rfl) (q_iconst c_9_0 (q_istore c_9_1 (Nat.le_of_ble_eq_true rfl) (q_iload c_9_3 rfl (q_iload c_9_5 rfl (v_ic_ge_f (t := 38) c_9_7 rfl ⟨by decide, by first | exact q_09476ad38 h_5 | omega, by first | exact q_881184168 h_5 | omega⟩ (q_aload_n c_9_10 rfl (q_iload_n c_9_11 rfl ?_)))))))
    refine q_iload c_9_12 rfl (v_iadd (v := 9) c_9_14 (by decide) (v_sch 99 c_9_15 rfl (by omega) (Nat.le_of_ble_eq_true rfl) (by decide) (by decide) (by decide) (q_aload_n c_9_18 rfl (v_gr (t := 2) c_9_19 kf_5_9 rfl (Nat.le_of_ble_eq_true rfl) rfl (q_iload_n c_9_22 rfl (q_iload c_9_23 rfl (v_iadd (v := r8) c_9_25 (by omega) ?_)))))))
    have h_6 : -2147483648 ≤ (B r8) ∧ (B r8) ≤ 2147483647 := by rw [← hB r8]; exact ir_2 hI r8
    refine v_ba (v := (B r8)) c_9_26 rfl (by decide) (by decide) (by omega) (hB r8) ?_
    by_cases h_7 : 99 = (B r8)
    · refine v_ic_eq_t (t := 32) c_9_27 rfl h_7 (v_iinc (v := 1) c_9_32 rfl (Nat.le_of_ble_eq_true rfl) (by decide) (q_goto (t := 3) c_9_35 rfl (q_iload c_9_3 rfl (q_iload c_9_5 rfl (v_ic_ge_f (t := 38) c_9_7 rfl ⟨by decide, by first | exact q_0e4b485b8 h_5 | omega, by first | exact q_881184168 h_5 | omega⟩ (q_aload_n c_9_10 rfl (q_iload_n c_9_11 rfl ?_)))))))
      refine q_iload c_9_12 rfl (v_iadd (v := 10) c_9_14 (by decide) (v_sch 111 c_9_15 rfl (by omega) (Nat.le_of_ble_eq_true rfl) (by decide) (by decide) (by decide) (q_aload_n c_9_18 rfl (v_gr (t := 2) c_9_19 kf_5_9 rfl (Nat.le_of_ble_eq_true rfl) rfl (q_iload_n c_9_22 rfl (q_iload c_9_23 rfl (v_iadd (v := r8 + 1) c_9_25 rfl ?_)))))))
      have h_8 : -2147483648 ≤ (B (r8 + 1)) ∧ (B (r8 + 1)) ≤ 2147483647 := by rw [← hB (r8 + 1)]; exact ir_2 hI (r8 + 1)
      refine v_ba (v := (B (r8 + 1))) c_9_26 rfl (by decide) (by decide) (by omega) (hB (r8 + 1)) ?_
      by_cases h_9 : 111 = (B (r8 + 1))
      · refine v_ic_eq_t (t := 32) c_9_27 rfl h_9 (v_iinc (v := 2) c_9_32 rfl (Nat.le_of_ble_eq_true rfl) (by decide) (q_goto (t := 3) c_9_35 rfl (q_iload c_9_3 rfl (q_iload c_9_5 rfl (v_ic_ge_f (t := 38) c_9_7 rfl ⟨by decide, by first | exact q_f95e75b3b h_5 | omega, by first | exact q_881184168 h_5 | omega⟩ (q_aload_n c_9_10 rfl (q_iload_n c_9_11 rfl ?_)))))))
        refine q_iload c_9_12 rfl (v_iadd (v := 11) c_9_14 (by decide) (v_sch 97 c_9_15 rfl (by omega) (Nat.le_of_ble_eq_true rfl) (by decide) (by decide) (by decide) (q_aload_n c_9_18 rfl (v_gr (t := 2) c_9_19 kf_5_9 rfl (Nat.le_of_ble_eq_true rfl) rfl (q_iload_n c_9_22 rfl (q_iload c_9_23 rfl (v_iadd (v := r8 + 2) c_9_25 rfl ?_)))))))
        have h_10 : -2147483648 ≤ (B (r8 + 2)) ∧ (B (r8 + 2)) ≤ 2147483647 := by rw [← hB (r8 + 2)]; exact ir_2 hI (r8 + 2)
        refine v_ba (v := (B (r8 + 2))) c_9_26 rfl (by decide) (by decide) (by omega) (hB (r8 + 2)) ?_
        by_cases h_11 : 97 = (B (r8 + 2))
        · refine v_ic_eq_t (t := 32) c_9_27 rfl h_11 (v_iinc (v := 3) c_9_32 rfl (Nat.le_of_ble_eq_true rfl) (by decide) (q_goto (t := 3) c_9_35 rfl (q_iload c_9_3 rfl (q_iload c_9_5 rfl (v_ic_ge_f (t := 38) c_9_7 rfl ⟨by decide, by first | exact q_694ccc537 h_5 | omega, by first | exact q_881184168 h_5 | omega⟩ (q_aload_n c_9_10 rfl (q_iload_n c_9_11 rfl ?_)))))))
          refine q_iload c_9_12 rfl (v_iadd (v := 12) c_9_14 (by decide) (v_sch 114 c_9_15 rfl (by omega) (Nat.le_of_ble_eq_true rfl) (by decide) (by decide) (by decide) (q_aload_n c_9_18 rfl (v_gr (t := 2) c_9_19 kf_5_9 rfl (Nat.le_of_ble_eq_true rfl) rfl (q_iload_n c_9_22 rfl (q_iload c_9_23 rfl (v_iadd (v := r8 + 3) c_9_25 rfl ?_)))))))
          have h_12 : -2147483648 ≤ (B (r8 + 3)) ∧ (B (r8 + 3)) ≤ 2147483647 := by rw [← hB (r8 + 3)]; exact ir_2 hI (r8 + 3)
          refine v_ba (v := (B (r8 + 3))) c_9_26 rfl (by decide) (by decide) (by omega) (hB (r8 + 3)) ?_
          by_cases h_13 : 114 = (B (r8 + 3))
          · refine v_ic_eq_t (t := 32) c_9_27 rfl h_13 (v_iinc (v := 4) c_9_32 rfl (Nat.le_of_ble_eq_true rfl) (by decide) (Wp_ls [(5, vi 4), (0, .ref 1), (1, .ref (a_SB + 1)), (2, vi 9), (3, vi r8), (4, vi (L8 - r8))] (lsub_cons rfl (lsub_cons rfl (lsub_cons rfl (lsub_cons rfl (lsub_cons rfl (lsub_cons rfl lsub_nil)))))) (q_goto (t := 3) c_9_35 rfl (q_iload c_9_3 rfl (q_iload c_9_5 rfl (v_ic_ge_f (t := 38) c_9_7 rfl ⟨by decide, by first | exact q_9e78fb4c3 h_5 | omega, by first | exact q_881184168 h_5 | omega⟩ (q_aload_n c_9_10 rfl ?_)))))))
            refine q_iload_n c_9_11 rfl (q_iload c_9_12 rfl (v_iadd (v := 13) c_9_14 (by decide) (v_sch 115 c_9_15 rfl (by omega) (Nat.le_of_ble_eq_true rfl) (by decide) (by decide) (by decide) (q_aload_n c_9_18 rfl (v_gr (t := 2) c_9_19 kf_5_9 rfl (Nat.le_of_ble_eq_true rfl) rfl (q_iload_n c_9_22 rfl (q_iload c_9_23 rfl ?_)))))))
            refine v_iadd (v := r8 + 4) c_9_25 rfl ?_
            have h_14 : -2147483648 ≤ (B (r8 + 4)) ∧ (B (r8 + 4)) ≤ 2147483647 := by rw [← hB (r8 + 4)]; exact ir_2 hI (r8 + 4)
            refine v_ba (v := (B (r8 + 4))) c_9_26 rfl (by decide) (by decide) ⟨by first | (clear h_1 h_2 h_3 h_4 h_5 h_6 h_7 h_8 h_9 h_10 h_11 h_12 h_13 h_14; omega) | omega, by first | (clear h_1 h_2 h_3 h_4 h_6 h_7 h_8 h_9 h_10 h_11 h_12 h_13 h_14; omega) | omega⟩ (hB (r8 + 4)) ?_
            by_cases h_15 : 115 = (B (r8 + 4))
            · refine v_ic_eq_t (t := 32) c_9_27 rfl h_15 (v_iinc (v := 5) c_9_32 rfl (Nat.le_of_ble_eq_true rfl) (by decide) (q_goto (t := 3) c_9_35 rfl (q_iload c_9_3 rfl (q_iload c_9_5 rfl (v_ic_ge_f (t := 38) c_9_7 rfl ⟨by decide, by first | exact q_f88b1f598 h_5 | (clear h_1 h_2 h_3 h_4 h_6 h_7 h_8 h_9 h_10 h_11 h_12 h_13 h_14 h_15; omega) | omega, by first | exact q_881184168 h_5 | (clear h_1 h_2 h_3 h_4 h_6 h_7 h_8 h_9 h_10 h_11 h_12 h_13 h_14 h_15; omega) | omega⟩ (q_aload_n c_9_10 rfl (q_iload_n c_9_11 rfl ?_)))))))
              refine q_iload c_9_12 rfl (v_iadd (v := 14) c_9_14 (by decide) (v_sch 101 c_9_15 rfl (by omega) (Nat.le_of_ble_eq_true rfl) (by decide) (by decide) (by decide) (q_aload_n c_9_18 rfl (v_gr (t := 2) c_9_19 kf_5_9 rfl (Nat.le_of_ble_eq_true rfl) rfl (q_iload_n c_9_22 rfl (q_iload c_9_23 rfl (v_iadd (v := r8 + 5) c_9_25 rfl ?_)))))))
              have h_16 : -2147483648 ≤ (B (r8 + 5)) ∧ (B (r8 + 5)) ≤ 2147483647 := by rw [← hB (r8 + 5)]; exact ir_2 hI (r8 + 5)
              refine v_ba (v := (B (r8 + 5))) c_9_26 rfl (by decide) (by decide) ⟨by first | (clear h_1 h_2 h_3 h_4 h_5 h_6 h_7 h_8 h_9 h_10 h_11 h_12 h_13 h_14 h_15 h_16; omega) | omega, by first | (clear h_1 h_2 h_3 h_4 h_6 h_7 h_8 h_9 h_10 h_11 h_12 h_13 h_14 h_15 h_16; omega) | omega⟩ (hB (r8 + 5)) ?_
              by_cases h_17 : 101 = (B (r8 + 5))
              · refine v_ic_eq_t (t := 32) c_9_27 rfl h_17 (v_iinc (v := 6) c_9_32 rfl (Nat.le_of_ble_eq_true rfl) (by decide) (q_goto (t := 3) c_9_35 rfl (q_iload c_9_3 rfl (q_iload c_9_5 rfl (v_ic_ge_t (t := 38) c_9_7 rfl ⟨by first | exact q_594136ddf h_5 | (clear h_1 h_2 h_3 h_4 h_6 h_7 h_8 h_9 h_10 h_11 h_12 h_13 h_14 h_15 h_16 h_17; omega) | omega, by first | exact q_0e87a78aa h_5 | (clear h_1 h_2 h_3 h_4 h_6 h_7 h_8 h_9 h_10 h_11 h_12 h_13 h_14 h_15 h_16 h_17; omega) | omega, by decide⟩ (q_iconst c_9_38 (v_zret c_9_39 rfl (by decide) ?_)))))))
                refine bk_inl (v_if_eq_f (t := 121) c_10_110 rfl (by decide) (q_aload_n c_10_113 rfl (q_iload_n c_10_114 rfl (v_pi (z := 2) c_10_115 kf_5_35 rfl (Nat.le_of_ble_eq_true rfl) rfl rfl rfl (by decide) (q_iload c_10_118 rfl (q_iret c_10_120 rfl ?_))))))
                have hw9 : W8 = 2 := hdW8.symm.trans (wd1_2_t (by omega))
                have hI_18 := iw_1_2 (v := L8) hI ⟨by first | (clear h_1 h_2 h_3 h_4 h_6 h_7 h_8 h_9 h_10 h_11 h_12 h_13 h_14 h_15 h_16 h_17 hw9; omega) | omega, by first | (clear h_1 h_2 h_3 h_4 h_5 h_6 h_7 h_8 h_9 h_10 h_11 h_12 h_13 h_14 h_15 h_16 h_17 hw9; omega) | omega⟩
                have h_19 : (up c 1 2 L8) 1 2 = L8 := (up_e rfl)
                have h_20 : (up c 1 2 L8) 1 4 = f9 := ((up_n (by decide)).trans (hv2))
                have h_21 : (up c 1 2 L8) 1 5 = p9 := ((up_n (by decide)).trans (hv3))
                exact zv (by omega) (K1 (up c 1 2 L8) hI_18 (fun a j hm => up_b (Decidable.or_iff_not_imp_left.mpr (fun h1 h2 => hm (Or.inl ⟨Decidable.not_not.mp h1, h2⟩)))) (by omega) (by omega) (by omega) (by omega))
              · refine v_ic_eq_f (t := 32) c_9_27 rfl ⟨h_17, ⟨by decide, by decide⟩, by first | exact q_f97c35332 h_16 | (clear h_1 h_2 h_3 h_4 h_5 h_6 h_7 h_8 h_9 h_10 h_11 h_12 h_13 h_14 h_15; omega) | omega, by first | exact q_79e53d295 h_16 | (clear h_1 h_2 h_3 h_4 h_5 h_6 h_7 h_8 h_9 h_10 h_11 h_12 h_13 h_14 h_15; omega) | omega⟩ (q_iconst c_9_30 (v_zret c_9_31 rfl (by decide) (bk_inl (v_if_eq_t (t := 121) c_10_110 rfl (by decide) (v_iinc (v := 3) c_10_121 rfl (Nat.le_of_ble_eq_true rfl) (by decide) (q_iload c_10_124 rfl (q_iconst c_10_126 ?_)))))))
                refine v_iadd (v := 16) c_10_127 (by decide) (q_istore c_10_128 (Nat.le_of_ble_eq_true rfl) (v_iinc (v := 16) c_10_130 rfl (Nat.le_of_ble_eq_true rfl) (by decide) (q_goto (t := 52) c_10_133 rfl (Wp_ls [(0, .ref 1), (1, .ref (a_SB + 1)), (2, vi r8), (3, vi L8), (4, vi 3), (5, vi 16), (6, vi 16)] (lsub_cons rfl (lsub_cons rfl (lsub_cons rfl (lsub_cons rfl (lsub_cons rfl (lsub_cons rfl (lsub_cons rfl lsub_nil))))))) ?_))))
                exact f_10_1_3 (d := d) (r8 := r8) (L8 := L8) (W8 := W8) hI hq0 hq1 hv0 hv1 hv2 hv3 hB ((wd1_2_f (by omega)).symm.trans hdW8) K0 K1
            · refine v_ic_eq_f (t := 32) c_9_27 rfl ⟨h_15, ⟨by decide, by decide⟩, by first | exact q_f97c35332 h_14 | (clear h_1 h_2 h_3 h_4 h_5 h_6 h_7 h_8 h_9 h_10 h_11 h_12 h_13; omega) | omega, by first | exact q_79e53d295 h_14 | (clear h_1 h_2 h_3 h_4 h_5 h_6 h_7 h_8 h_9 h_10 h_11 h_12 h_13; omega) | omega⟩ (q_iconst c_9_30 (v_zret c_9_31 rfl (by decide) (bk_inl (v_if_eq_t (t := 121) c_10_110 rfl (by decide) (v_iinc (v := 3) c_10_121 rfl (Nat.le_of_ble_eq_true rfl) (by decide) (q_iload c_10_124 rfl (q_iconst c_10_126 ?_)))))))
              refine v_iadd (v := 16) c_10_127 (by decide) (q_istore c_10_128 (Nat.le_of_ble_eq_true rfl) (v_iinc (v := 16) c_10_130 rfl (Nat.le_of_ble_eq_true rfl) (by decide) (q_goto (t := 52) c_10_133 rfl (Wp_ls [(0, .ref 1), (1, .ref (a_SB + 1)), (2, vi r8), (3, vi L8), (4, vi 3), (5, vi 16), (6, vi 16)] (lsub_cons rfl (lsub_cons rfl (lsub_cons rfl (lsub_cons rfl (lsub_cons rfl (lsub_cons rfl (lsub_cons rfl lsub_nil))))))) ?_))))
              exact f_10_1_3 (d := d) (r8 := r8) (L8 := L8) (W8 := W8) hI hq0 hq1 hv0 hv1 hv2 hv3 hB ((wd1_2_f (by omega)).symm.trans hdW8) K0 K1
          · refine v_ic_eq_f (t := 32) c_9_27 rfl ⟨h_13, ⟨by decide, by decide⟩, by first | exact q_f97c35332 h_12 | omega, by first | exact q_79e53d295 h_12 | omega⟩ (q_iconst c_9_30 (v_zret c_9_31 rfl (by decide) (bk_inl (v_if_eq_t (t := 121) c_10_110 rfl (by decide) (v_iinc (v := 3) c_10_121 rfl (Nat.le_of_ble_eq_true rfl) (by decide) (q_iload c_10_124 rfl (q_iconst c_10_126 ?_)))))))
            refine v_iadd (v := 16) c_10_127 (by decide) (q_istore c_10_128 (Nat.le_of_ble_eq_true rfl) (v_iinc (v := 16) c_10_130 rfl (Nat.le_of_ble_eq_true rfl) (by decide) (q_goto (t := 52) c_10_133 rfl (Wp_ls [(0, .ref 1), (1, .ref (a_SB + 1)), (2, vi r8), (3, vi L8), (4, vi 3), (5, vi 16), (6, vi 16)] (lsub_cons rfl (lsub_cons rfl (lsub_cons rfl (lsub_cons rfl (lsub_cons rfl (lsub_cons rfl (lsub_cons rfl lsub_nil))))))) ?_))))
            exact f_10_1_3 (d := d) (r8 := r8) (L8 := L8) (W8 := W8) hI hq0 hq1 hv0 hv1 hv2 hv3 hB ((wd1_2_f (by omega)).symm.trans hdW8) K0 K1
        · refine v_ic_eq_f (t := 32) c_9_27 rfl ⟨h_11, ⟨by decide, by decide⟩, by first | exact q_f97c35332 h_10 | omega, by first | exact q_79e53d295 h_10 | omega⟩ (q_iconst c_9_30 (v_zret c_9_31 rfl (by decide) (bk_inl (v_if_eq_t (t := 121) c_10_110 rfl (by decide) (v_iinc (v := 3) c_10_121 rfl (Nat.le_of_ble_eq_true rfl) (by decide) (q_iload c_10_124 rfl (q_iconst c_10_126 ?_)))))))
          refine v_iadd (v := 16) c_10_127 (by decide) (q_istore c_10_128 (Nat.le_of_ble_eq_true rfl) (v_iinc (v := 16) c_10_130 rfl (Nat.le_of_ble_eq_true rfl) (by decide) (q_goto (t := 52) c_10_133 rfl (Wp_ls [(0, .ref 1), (1, .ref (a_SB + 1)), (2, vi r8), (3, vi L8), (4, vi 3), (5, vi 16), (6, vi 16)] (lsub_cons rfl (lsub_cons rfl (lsub_cons rfl (lsub_cons rfl (lsub_cons rfl (lsub_cons rfl (lsub_cons rfl lsub_nil))))))) ?_))))
          exact f_10_1_3 (d := d) (r8 := r8) (L8 := L8) (W8 := W8) hI hq0 hq1 hv0 hv1 hv2 hv3 hB ((wd1_2_f (by omega)).symm.trans hdW8) K0 K1
      · refine v_ic_eq_f (t := 32) c_9_27 rfl ⟨h_9, ⟨by decide, by decide⟩, by first | exact q_f97c35332 h_8 | omega, by first | exact q_79e53d295 h_8 | omega⟩ (q_iconst c_9_30 (v_zret c_9_31 rfl (by decide) (bk_inl (v_if_eq_t (t := 121) c_10_110 rfl (by decide) (v_iinc (v := 3) c_10_121 rfl (Nat.le_of_ble_eq_true rfl) (by decide) (q_iload c_10_124 rfl (q_iconst c_10_126 ?_)))))))
        refine v_iadd (v := 16) c_10_127 (by decide) (q_istore c_10_128 (Nat.le_of_ble_eq_true rfl) (v_iinc (v := 16) c_10_130 rfl (Nat.le_of_ble_eq_true rfl) (by decide) (q_goto (t := 52) c_10_133 rfl (Wp_ls [(0, .ref 1), (1, .ref (a_SB + 1)), (2, vi r8), (3, vi L8), (4, vi 3), (5, vi 16), (6, vi 16)] (lsub_cons rfl (lsub_cons rfl (lsub_cons rfl (lsub_cons rfl (lsub_cons rfl (lsub_cons rfl (lsub_cons rfl lsub_nil))))))) ?_))))
        exact f_10_1_3 (d := d) (r8 := r8) (L8 := L8) (W8 := W8) hI hq0 hq1 hv0 hv1 hv2 hv3 hB ((wd1_2_f (by omega)).symm.trans hdW8) K0 K1
    · refine v_ic_eq_f (t := 32) c_9_27 rfl ⟨h_7, ⟨by decide, by decide⟩, by first | exact q_f97c35332 h_6 | omega, by first | exact q_79e53d295 h_6 | omega⟩ (q_iconst c_9_30 (v_zret c_9_31 rfl (by decide) (bk_inl (v_if_eq_t (t := 121) c_10_110 rfl (by decide) (v_iinc (v := 3) c_10_121 rfl (Nat.le_of_ble_eq_true rfl) (by decide) (q_iload c_10_124 rfl (q_iconst c_10_126 ?_)))))))
      refine v_iadd (v := 16) c_10_127 (by decide) (q_istore c_10_128 (Nat.le_of_ble_eq_true rfl) (v_iinc (v := 16) c_10_130 rfl (Nat.le_of_ble_eq_true rfl) (by decide) (q_goto (t := 52) c_10_133 rfl (Wp_ls [(0, .ref 1), (1, .ref (a_SB + 1)), (2, vi r8), (3, vi L8), (4, vi 3), (5, vi 16), (6, vi 16)] (lsub_cons rfl (lsub_cons rfl (lsub_cons rfl (lsub_cons rfl (lsub_cons rfl (lsub_cons rfl (lsub_cons rfl lsub_nil))))))) ?_))))
      exact f_10_1_3 (d := d) (r8 := r8) (L8 := L8) (W8 := W8) hI hq0 hq1 hv0 hv1 hv2 hv3 hB ((wd1_2_f (by omega)).symm.trans hdW8) K0 K1

set_option maxRecDepth 100000 in
set_option maxHeartbeats 4000000 in
theorem f_10_1_1 {sc : List Int32} {e : Int} {d u P Q : Nat} {c : ME} {e1 a9 f9 p9 W8 r8 L8 : Int} {B : Int → Int} {Z : AR → Prop} (hI : Iv u e P Q c) (hq0 : (f9 = 0)) (hq1 : (r8 ≥ 0 ∧ r8 ≤ L8 ∧ L8 ≤ 600)) (hv0 : c 1 1 = e1) (hv1 : c 1 2 = a9) (hv2 : c 1 4 = f9) (hv3 : c 1 5 = p9) (hB : ∀ j : Int, c 2 j = B j) (hdW8 : wd1_1 B r8 L8 = W8) (K0 : ∀ c2 : ME, Iv u e P Q c2 → (∀ (a : Nat) (j : Int), ¬ ((a = 1 ∧ j = 2) ∨ (a = 1 ∧ j = 4) ∨ (a = 1 ∧ j = 5)) → c2 a j = c a j) → ((W8 = (-1))) → (c2 1 2 = a9) → (c2 1 4 = 1) → (c2 1 5 = r8) → Z (.inl (some (vi (-1))), Wd P Q P P c2, 0, 0)) (K1 : ∀ c2 : ME, Iv u e P Q c2 → (∀ (a : Nat) (j : Int), ¬ ((a = 1 ∧ j = 2) ∨ (a = 1 ∧ j = 4) ∨ (a = 1 ∧ j = 5)) → c2 a j = c a j) → ((W8 ≥ 0 ∧ W8 ≤ 9)) → (c2 1 2 = L8) → (c2 1 4 = 0) → (c2 1 5 = p9) → Z (.inl (some (vi W8)), Wd P Q P P c2, 0, 0)) : Wp sc (d + 12) 10 52 [(0, .ref 1), (1, .ref (a_SB + 1)), (2, vi r8), (3, vi L8), (4, vi 1), (5, vi 5), (6, vi 5)] [] (Wd P Q P P c) 0 0 Z := by
  have hP := iv_P hI
  have hQ := iv_Q hI
  have h_1 := ir_1_1 hI
  have h_2 := ir_1_2 hI
  have h_3 := ir_1_4 hI
  have h_4 := ir_1_5 hI
  refine q_iload c_10_52 rfl (q_aload_n c_10_54 rfl (v_sln 47 c_10_55 rfl (by omega) (Nat.le_of_ble_eq_true rfl) (by decide) (by decide) (v_ic_gt_f (t := 136) c_10_58 rfl (by decide) (q_aload_n c_10_61 rfl (v_cv c_10_62 km_5_45 rfl rfl (Nat.le_of_ble_eq_true rfl) ⟨⟨rfl, rfl⟩, Nat.le_of_ble_eq_true rfl, rfl⟩ (Nat.le_of_ble_eq_true rfl) (Nat.le_of_ble_eq_true rfl) (q_aload_n c_2_0 rfl (v_gi (z := 4) (v := f9) c_2_1 kf_5_38 rfl (Nat.le_of_ble_eq_true rfl) rfl rfl (hv2) ?_)))))))
  refine v_if_ne_f (t := 11) c_2_4 rfl (by omega) (q_iconst c_2_7 (q_goto (t := 12) c_2_8 rfl (v_zret c_2_12 rfl (by decide) (bk_inl (v_if_eq_f (t := 136) c_10_65 rfl (by decide) (q_iload c_10_68 rfl (q_aload_n c_10_70 rfl ?_)))))))
  refine v_sln 47 c_10_71 rfl (by omega) (Nat.le_of_ble_eq_true rfl) (by decide) (by decide) (v_ic_eq_f (t := 88) c_10_74 rfl (by decide) (q_aload_n c_10_77 rfl (q_iload c_10_78 rfl (v_sch 109 c_10_80 rfl (by omega) (Nat.le_of_ble_eq_true rfl) (by decide) (by decide) (by decide) (v_bip c_10_83 (by decide) (v_ic_ne_t (t := 130) c_10_85 rfl (by decide) (v_iinc (v := 6) c_10_130 rfl (Nat.le_of_ble_eq_true rfl) (by decide) ?_)))))))
  refine q_goto (t := 52) c_10_133 rfl (q_iload c_10_52 rfl (q_aload_n c_10_54 rfl (v_sln 47 c_10_55 rfl (by omega) (Nat.le_of_ble_eq_true rfl) (by decide) (by decide) (v_ic_gt_f (t := 136) c_10_58 rfl (by decide) (q_aload_n c_10_61 rfl (v_cv c_10_62 km_5_45 rfl rfl (Nat.le_of_ble_eq_true rfl) ⟨⟨rfl, rfl⟩, Nat.le_of_ble_eq_true rfl, rfl⟩ (Nat.le_of_ble_eq_true rfl) (Nat.le_of_ble_eq_true rfl) (q_aload_n c_2_0 rfl ?_)))))))
  refine v_gi (z := 4) (v := f9) c_2_1 kf_5_38 rfl (Nat.le_of_ble_eq_true rfl) rfl rfl (hv2) (v_if_ne_f (t := 11) c_2_4 rfl (by omega) (q_iconst c_2_7 (q_goto (t := 12) c_2_8 rfl (v_zret c_2_12 rfl (by decide) (bk_inl (v_if_eq_f (t := 136) c_10_65 rfl (by decide) (q_iload c_10_68 rfl ?_)))))))
  refine q_aload_n c_10_70 rfl (v_sln 47 c_10_71 rfl (by omega) (Nat.le_of_ble_eq_true rfl) (by decide) (by decide) (v_ic_eq_f (t := 88) c_10_74 rfl (by decide) (q_aload_n c_10_77 rfl (q_iload c_10_78 rfl (v_sch 105 c_10_80 rfl (by omega) (Nat.le_of_ble_eq_true rfl) (by decide) (by decide) (by decide) (v_bip c_10_83 (by decide) (v_ic_ne_t (t := 130) c_10_85 rfl (by decide) ?_)))))))
  refine v_iinc (v := 7) c_10_130 rfl (Nat.le_of_ble_eq_true rfl) (by decide) (q_goto (t := 52) c_10_133 rfl (q_iload c_10_52 rfl (q_aload_n c_10_54 rfl (v_sln 47 c_10_55 rfl (by omega) (Nat.le_of_ble_eq_true rfl) (by decide) (by decide) (v_ic_gt_f (t := 136) c_10_58 rfl (by decide) (q_aload_n c_10_61 rfl (v_cv c_10_62 km_5_45 rfl rfl (Nat.le_of_ble_eq_true rfl) ⟨⟨rfl, rfl⟩, Nat.le_of_ble_eq_true rfl, rfl⟩ (Nat.le_of_ble_eq_true rfl) (Nat.le_of_ble_eq_true rfl) ?_)))))))
  refine q_aload_n c_2_0 rfl (v_gi (z := 4) (v := f9) c_2_1 kf_5_38 rfl (Nat.le_of_ble_eq_true rfl) rfl rfl (hv2) (v_if_ne_f (t := 11) c_2_4 rfl (by omega) (q_iconst c_2_7 (q_goto (t := 12) c_2_8 rfl (v_zret c_2_12 rfl (by decide) (bk_inl (v_if_eq_f (t := 136) c_10_65 rfl (by decide) ?_)))))))
  refine q_iload c_10_68 rfl (q_aload_n c_10_70 rfl (v_sln 47 c_10_71 rfl (by omega) (Nat.le_of_ble_eq_true rfl) (by decide) (by decide) (v_ic_eq_f (t := 88) c_10_74 rfl (by decide) (q_aload_n c_10_77 rfl (q_iload c_10_78 rfl (v_sch 100 c_10_80 rfl (by omega) (Nat.le_of_ble_eq_true rfl) (by decide) (by decide) (by decide) (v_bip c_10_83 (by decide) ?_)))))))
  refine v_ic_ne_t (t := 130) c_10_85 rfl (by decide) (v_iinc (v := 8) c_10_130 rfl (Nat.le_of_ble_eq_true rfl) (by decide) (q_goto (t := 52) c_10_133 rfl (q_iload c_10_52 rfl (q_aload_n c_10_54 rfl (v_sln 47 c_10_55 rfl (by omega) (Nat.le_of_ble_eq_true rfl) (by decide) (by decide) (v_ic_gt_f (t := 136) c_10_58 rfl (by decide) (q_aload_n c_10_61 rfl ?_)))))))
  refine v_cv c_10_62 km_5_45 rfl rfl (Nat.le_of_ble_eq_true rfl) ⟨⟨rfl, rfl⟩, Nat.le_of_ble_eq_true rfl, rfl⟩ (Nat.le_of_ble_eq_true rfl) (Nat.le_of_ble_eq_true rfl) (q_aload_n c_2_0 rfl (v_gi (z := 4) (v := f9) c_2_1 kf_5_38 rfl (Nat.le_of_ble_eq_true rfl) rfl rfl (hv2) (v_if_ne_f (t := 11) c_2_4 rfl (by omega) (q_iconst c_2_7 (q_goto (t := 12) c_2_8 rfl (v_zret c_2_12 rfl (by decide) (bk_inl ?_)))))))
  refine v_if_eq_f (t := 136) c_10_65 rfl (by decide) (q_iload c_10_68 rfl (q_aload_n c_10_70 rfl (v_sln 47 c_10_71 rfl (by omega) (Nat.le_of_ble_eq_true rfl) (by decide) (by decide) (v_ic_eq_f (t := 88) c_10_74 rfl (by decide) (q_aload_n c_10_77 rfl (q_iload c_10_78 rfl (v_sch 32 c_10_80 rfl (by omega) (Nat.le_of_ble_eq_true rfl) (by decide) (by decide) (by decide) ?_)))))))
  refine v_bip c_10_83 (by decide) (v_ic_ne_f (t := 130) c_10_85 rfl (by decide) (q_iload c_10_88 rfl (q_iload c_10_90 rfl (v_isub (v := 3) c_10_92 (by decide) (q_iload_n c_10_93 rfl (q_iload_n c_10_94 rfl (v_isub (v := L8 - r8) c_10_95 rfl ?_)))))))
  by_cases h_5 : 3 ≠ L8 - r8
  · refine v_ic_ne_t (t := 121) c_10_96 rfl ⟨h_5, ⟨by decide, by decide⟩, by omega, by omega⟩ (v_iinc (v := 2) c_10_121 rfl (Nat.le_of_ble_eq_true rfl) (by decide) (q_iload c_10_124 rfl (q_iconst c_10_126 (v_iadd (v := 9) c_10_127 (by decide) (q_istore c_10_128 (Nat.le_of_ble_eq_true rfl) (Wp_ls [(5, vi 9), (4, vi 2), (6, vi 8), (0, .ref 1), (1, .ref (a_SB + 1)), (2, vi r8), (3, vi L8)] (lsub_cons rfl (lsub_cons rfl (lsub_cons rfl (lsub_cons rfl (lsub_cons rfl (lsub_cons rfl (lsub_cons rfl lsub_nil))))))) (v_iinc (v := 9) c_10_130 rfl (Nat.le_of_ble_eq_true rfl) (by decide) ?_)))))))
    refine q_goto (t := 52) c_10_133 rfl (Wp_ls [(0, .ref 1), (1, .ref (a_SB + 1)), (2, vi r8), (3, vi L8), (4, vi 2), (5, vi 9), (6, vi 9)] (lsub_cons rfl (lsub_cons rfl (lsub_cons rfl (lsub_cons rfl (lsub_cons rfl (lsub_cons rfl (lsub_cons rfl lsub_nil))))))) ?_)
    exact f_10_1_2 (d := d) (r8 := r8) (L8 := L8) (W8 := W8) hI hq0 hq1 hv0 hv1 hv2 hv3 hB ((wd1_1_f (by omega)).symm.trans hdW8) K0 K1
  · refine v_ic_ne_f (t := 121) c_10_96 rfl (Decidable.not_not.mp h_5) (q_aload_n c_10_99 rfl (q_aload_n c_10_100 rfl (q_iload c_10_101 rfl (q_iload_n c_10_103 rfl (q_iload_n c_10_104 rfl (q_iload_n c_10_105 rfl (v_isub (v := L8 - r8) c_10_106 rfl ?_)))))))
    refine v_cv c_10_107 km_5_73 rfl rfl (Nat.le_of_ble_eq_true rfl) ⟨⟨rfl, rfl⟩, Nat.le_of_ble_eq_true rfl, rfl⟩ (Nat.le_of_ble_eq_true rfl) (Nat.le_of_ble_eq_true rfl) (q_iconst c_9_0 (q_istore c_9_1 (Nat.le_of_ble_eq_true rfl) (q_iload c_9_3 rfl (q_iload c_9_5 rfl (v_ic_ge_f (t := 38) c_9_7 rfl ⟨by decide, by first | exact q_8d10d25b6 h_5 | omega, by first | exact q_22d63526a h_5 | omega⟩ (q_aload_n c_9_10 rfl (q_iload_n c_9_11 rfl ?_)))))))
    refine q_iload c_9_12 rfl (v_iadd (v := 5) c_9_14 (by decide) (v_sch 109 c_9_15 rfl (by omega) (Nat.le_of_ble_eq_true rfl) (by decide) (by decide) (by decide) (q_aload_n c_9_18 rfl (v_gr (t := 2) c_9_19 kf_5_9 rfl (Nat.le_of_ble_eq_true rfl) rfl (q_iload_n c_9_22 rfl (q_iload c_9_23 rfl (v_iadd (v := r8) c_9_25 (by omega) ?_)))))))
    have h_6 : -2147483648 ≤ (B r8) ∧ (B r8) ≤ 2147483647 := by rw [← hB r8]; exact ir_2 hI r8
    refine v_ba (v := (B r8)) c_9_26 rfl (by decide) (by decide) (by omega) (hB r8) ?_
    by_cases h_7 : 109 = (B r8)
    · refine v_ic_eq_t (t := 32) c_9_27 rfl h_7 (v_iinc (v := 1) c_9_32 rfl (Nat.le_of_ble_eq_true rfl) (by decide) (q_goto (t := 3) c_9_35 rfl (q_iload c_9_3 rfl (q_iload c_9_5 rfl (v_ic_ge_f (t := 38) c_9_7 rfl ⟨by decide, by first | exact q_f1d336e40 h_5 | omega, by first | exact q_22d63526a h_5 | omega⟩ (q_aload_n c_9_10 rfl (q_iload_n c_9_11 rfl ?_)))))))
      refine q_iload c_9_12 rfl (v_iadd (v := 6) c_9_14 (by decide) (v_sch 105 c_9_15 rfl (by omega) (Nat.le_of_ble_eq_true rfl) (by decide) (by decide) (by decide) (q_aload_n c_9_18 rfl (v_gr (t := 2) c_9_19 kf_5_9 rfl (Nat.le_of_ble_eq_true rfl) rfl (q_iload_n c_9_22 rfl (q_iload c_9_23 rfl (v_iadd (v := r8 + 1) c_9_25 rfl ?_)))))))
      have h_8 : -2147483648 ≤ (B (r8 + 1)) ∧ (B (r8 + 1)) ≤ 2147483647 := by rw [← hB (r8 + 1)]; exact ir_2 hI (r8 + 1)
      refine v_ba (v := (B (r8 + 1))) c_9_26 rfl (by decide) (by decide) (by omega) (hB (r8 + 1)) ?_
      by_cases h_9 : 105 = (B (r8 + 1))
      · refine v_ic_eq_t (t := 32) c_9_27 rfl h_9 (v_iinc (v := 2) c_9_32 rfl (Nat.le_of_ble_eq_true rfl) (by decide) (q_goto (t := 3) c_9_35 rfl (q_iload c_9_3 rfl (q_iload c_9_5 rfl (v_ic_ge_f (t := 38) c_9_7 rfl ⟨by decide, by first | exact q_3cb5391db h_5 | omega, by first | exact q_22d63526a h_5 | omega⟩ (q_aload_n c_9_10 rfl (q_iload_n c_9_11 rfl ?_)))))))
        refine q_iload c_9_12 rfl (v_iadd (v := 7) c_9_14 (by decide) (v_sch 100 c_9_15 rfl (by omega) (Nat.le_of_ble_eq_true rfl) (by decide) (by decide) (by decide) (q_aload_n c_9_18 rfl (v_gr (t := 2) c_9_19 kf_5_9 rfl (Nat.le_of_ble_eq_true rfl) rfl (q_iload_n c_9_22 rfl (q_iload c_9_23 rfl (v_iadd (v := r8 + 2) c_9_25 rfl ?_)))))))
        have h_10 : -2147483648 ≤ (B (r8 + 2)) ∧ (B (r8 + 2)) ≤ 2147483647 := by rw [← hB (r8 + 2)]; exact ir_2 hI (r8 + 2)
        refine v_ba (v := (B (r8 + 2))) c_9_26 rfl (by decide) (by decide) (by omega) (hB (r8 + 2)) ?_
        by_cases h_11 : 100 = (B (r8 + 2))
        · refine v_ic_eq_t (t := 32) c_9_27 rfl h_11 (v_iinc (v := 3) c_9_32 rfl (Nat.le_of_ble_eq_true rfl) (by decide) (q_goto (t := 3) c_9_35 rfl (q_iload c_9_3 rfl (q_iload c_9_5 rfl (v_ic_ge_t (t := 38) c_9_7 rfl ⟨by first | exact q_2271afefa h_5 | omega, by first | exact q_8e661bf2d h_5 | omega, by decide⟩ (q_iconst c_9_38 (v_zret c_9_39 rfl (by decide) ?_)))))))
          refine bk_inl (v_if_eq_f (t := 121) c_10_110 rfl (by decide) (q_aload_n c_10_113 rfl (q_iload_n c_10_114 rfl (v_pi (z := 2) c_10_115 kf_5_35 rfl (Nat.le_of_ble_eq_true rfl) rfl rfl rfl (by decide) (q_iload c_10_118 rfl (q_iret c_10_120 rfl ?_))))))
          have hw9 : W8 = 1 := hdW8.symm.trans (wd1_1_t (by omega))
          have hI_12 := iw_1_2 (v := L8) hI ⟨by omega, by omega⟩
          have h_13 : (up c 1 2 L8) 1 2 = L8 := (up_e rfl)
          have h_14 : (up c 1 2 L8) 1 4 = f9 := ((up_n (by decide)).trans (hv2))
          have h_15 : (up c 1 2 L8) 1 5 = p9 := ((up_n (by decide)).trans (hv3))
          exact zv (by omega) (K1 (up c 1 2 L8) hI_12 (fun a j hm => up_b (Decidable.or_iff_not_imp_left.mpr (fun h1 h2 => hm (Or.inl ⟨Decidable.not_not.mp h1, h2⟩)))) (by omega) (by omega) (by omega) (by omega))
        · refine v_ic_eq_f (t := 32) c_9_27 rfl ⟨h_11, ⟨by decide, by decide⟩, by first | exact q_f97c35332 h_10 | omega, by first | exact q_79e53d295 h_10 | omega⟩ (q_iconst c_9_30 (v_zret c_9_31 rfl (by decide) (bk_inl (v_if_eq_t (t := 121) c_10_110 rfl (by decide) (v_iinc (v := 2) c_10_121 rfl (Nat.le_of_ble_eq_true rfl) (by decide) (q_iload c_10_124 rfl (q_iconst c_10_126 ?_)))))))
          refine v_iadd (v := 9) c_10_127 (by decide) (q_istore c_10_128 (Nat.le_of_ble_eq_true rfl) (Wp_ls [(5, vi 9), (4, vi 2), (6, vi 8), (0, .ref 1), (1, .ref (a_SB + 1)), (2, vi r8), (3, vi L8)] (lsub_cons rfl (lsub_cons rfl (lsub_cons rfl (lsub_cons rfl (lsub_cons rfl (lsub_cons rfl (lsub_cons rfl lsub_nil))))))) (v_iinc (v := 9) c_10_130 rfl (Nat.le_of_ble_eq_true rfl) (by decide) (q_goto (t := 52) c_10_133 rfl (Wp_ls [(0, .ref 1), (1, .ref (a_SB + 1)), (2, vi r8), (3, vi L8), (4, vi 2), (5, vi 9), (6, vi 9)] (lsub_cons rfl (lsub_cons rfl (lsub_cons rfl (lsub_cons rfl (lsub_cons rfl (lsub_cons rfl (lsub_cons rfl lsub_nil))))))) ?_)))))
          exact f_10_1_2 (d := d) (r8 := r8) (L8 := L8) (W8 := W8) hI hq0 hq1 hv0 hv1 hv2 hv3 hB ((wd1_1_f (by omega)).symm.trans hdW8) K0 K1
      · refine v_ic_eq_f (t := 32) c_9_27 rfl ⟨h_9, ⟨by decide, by decide⟩, by first | exact q_f97c35332 h_8 | omega, by first | exact q_79e53d295 h_8 | omega⟩ (q_iconst c_9_30 (v_zret c_9_31 rfl (by decide) (bk_inl (v_if_eq_t (t := 121) c_10_110 rfl (by decide) (v_iinc (v := 2) c_10_121 rfl (Nat.le_of_ble_eq_true rfl) (by decide) (q_iload c_10_124 rfl (q_iconst c_10_126 ?_)))))))
        refine v_iadd (v := 9) c_10_127 (by decide) (q_istore c_10_128 (Nat.le_of_ble_eq_true rfl) (Wp_ls [(5, vi 9), (4, vi 2), (6, vi 8), (0, .ref 1), (1, .ref (a_SB + 1)), (2, vi r8), (3, vi L8)] (lsub_cons rfl (lsub_cons rfl (lsub_cons rfl (lsub_cons rfl (lsub_cons rfl (lsub_cons rfl (lsub_cons rfl lsub_nil))))))) (v_iinc (v := 9) c_10_130 rfl (Nat.le_of_ble_eq_true rfl) (by decide) (q_goto (t := 52) c_10_133 rfl (Wp_ls [(0, .ref 1), (1, .ref (a_SB + 1)), (2, vi r8), (3, vi L8), (4, vi 2), (5, vi 9), (6, vi 9)] (lsub_cons rfl (lsub_cons rfl (lsub_cons rfl (lsub_cons rfl (lsub_cons rfl (lsub_cons rfl (lsub_cons rfl lsub_nil))))))) ?_)))))
        exact f_10_1_2 (d := d) (r8 := r8) (L8 := L8) (W8 := W8) hI hq0 hq1 hv0 hv1 hv2 hv3 hB ((wd1_1_f (by omega)).symm.trans hdW8) K0 K1
    · refine v_ic_eq_f (t := 32) c_9_27 rfl ⟨h_7, ⟨by decide, by decide⟩, by first | exact q_f97c35332 h_6 | omega, by first | exact q_79e53d295 h_6 | omega⟩ (q_iconst c_9_30 (v_zret c_9_31 rfl (by decide) (bk_inl (v_if_eq_t (t := 121) c_10_110 rfl (by decide) (v_iinc (v := 2) c_10_121 rfl (Nat.le_of_ble_eq_true rfl) (by decide) (q_iload c_10_124 rfl (q_iconst c_10_126 ?_)))))))
      refine v_iadd (v := 9) c_10_127 (by decide) (q_istore c_10_128 (Nat.le_of_ble_eq_true rfl) (Wp_ls [(5, vi 9), (4, vi 2), (6, vi 8), (0, .ref 1), (1, .ref (a_SB + 1)), (2, vi r8), (3, vi L8)] (lsub_cons rfl (lsub_cons rfl (lsub_cons rfl (lsub_cons rfl (lsub_cons rfl (lsub_cons rfl (lsub_cons rfl lsub_nil))))))) (v_iinc (v := 9) c_10_130 rfl (Nat.le_of_ble_eq_true rfl) (by decide) (q_goto (t := 52) c_10_133 rfl (Wp_ls [(0, .ref 1), (1, .ref (a_SB + 1)), (2, vi r8), (3, vi L8), (4, vi 2), (5, vi 9), (6, vi 9)] (lsub_cons rfl (lsub_cons rfl (lsub_cons rfl (lsub_cons rfl (lsub_cons rfl (lsub_cons rfl (lsub_cons rfl lsub_nil))))))) ?_)))))
      exact f_10_1_2 (d := d) (r8 := r8) (L8 := L8) (W8 := W8) hI hq0 hq1 hv0 hv1 hv2 hv3 hB ((wd1_1_f (by omega)).symm.trans hdW8) K0 K1

set_option maxRecDepth 100000 in
set_option maxHeartbeats 4000000 in
theorem f_10_1_0 {sc : List Int32} {e : Int} {d u P Q : Nat} {c : ME} {e1 a9 f9 p9 W8 r8 L8 : Int} {B : Int → Int} {Z : AR → Prop} (hI : Iv u e P Q c) (hq0 : (f9 = 0)) (hq1 : (r8 ≥ 0 ∧ r8 ≤ L8 ∧ L8 ≤ 600)) (hv0 : c 1 1 = e1) (hv1 : c 1 2 = a9) (hv2 : c 1 4 = f9) (hv3 : c 1 5 = p9) (hB : ∀ j : Int, c 2 j = B j) (hdW8 : wd1_0 B r8 L8 = W8) (K0 : ∀ c2 : ME, Iv u e P Q c2 → (∀ (a : Nat) (j : Int), ¬ ((a = 1 ∧ j = 2) ∨ (a = 1 ∧ j = 4) ∨ (a = 1 ∧ j = 5)) → c2 a j = c a j) → ((W8 = (-1))) → (c2 1 2 = a9) → (c2 1 4 = 1) → (c2 1 5 = r8) → Z (.inl (some (vi (-1))), Wd P Q P P c2, 0, 0)) (K1 : ∀ c2 : ME, Iv u e P Q c2 → (∀ (a : Nat) (j : Int), ¬ ((a = 1 ∧ j = 2) ∨ (a = 1 ∧ j = 4) ∨ (a = 1 ∧ j = 5)) → c2 a j = c a j) → ((W8 ≥ 0 ∧ W8 ≤ 9)) → (c2 1 2 = L8) → (c2 1 4 = 0) → (c2 1 5 = p9) → Z (.inl (some (vi W8)), Wd P Q P P c2, 0, 0)) : Wp sc (d + 12) 10 52 [(0, .ref 1), (1, .ref (a_SB + 1)), (2, vi r8), (3, vi L8), (4, vi 0), (5, vi 0), (6, vi 0)] [] (Wd P Q P P c) 0 0 Z := by
  have hP := iv_P hI
  have hQ := iv_Q hI
  have h_1 := ir_1_1 hI
  have h_2 := ir_1_2 hI
  have h_3 := ir_1_4 hI
  have h_4 := ir_1_5 hI
  refine q_iload c_10_52 rfl (q_aload_n c_10_54 rfl (v_sln 47 c_10_55 rfl (by omega) (Nat.le_of_ble_eq_true rfl) (by decide) (by decide) (v_ic_gt_f (t := 136) c_10_58 rfl (by decide) (q_aload_n c_10_61 rfl (v_cv c_10_62 km_5_45 rfl rfl (Nat.le_of_ble_eq_true rfl) ⟨⟨rfl, rfl⟩, Nat.le_of_ble_eq_true rfl, rfl⟩ (Nat.le_of_ble_eq_true rfl) (Nat.le_of_ble_eq_true rfl) (q_aload_n c_2_0 rfl (v_gi (z := 4) (v := f9) c_2_1 kf_5_38 rfl (Nat.le_of_ble_eq_true rfl) rfl rfl (hv2) ?_)))))))
  refine v_if_ne_f (t := 11) c_2_4 rfl (by omega) (q_iconst c_2_7 (q_goto (t := 12) c_2_8 rfl (v_zret c_2_12 rfl (by decide) (bk_inl (v_if_eq_f (t := 136) c_10_65 rfl (by decide) (q_iload c_10_68 rfl (q_aload_n c_10_70 rfl ?_)))))))
  refine v_sln 47 c_10_71 rfl (by omega) (Nat.le_of_ble_eq_true rfl) (by decide) (by decide) (v_ic_eq_f (t := 88) c_10_74 rfl (by decide) (q_aload_n c_10_77 rfl (q_iload c_10_78 rfl (v_sch 102 c_10_80 rfl (by omega) (Nat.le_of_ble_eq_true rfl) (by decide) (by decide) (by decide) (v_bip c_10_83 (by decide) (v_ic_ne_t (t := 130) c_10_85 rfl (by decide) (v_iinc (v := 1) c_10_130 rfl (Nat.le_of_ble_eq_true rfl) (by decide) ?_)))))))
  refine q_goto (t := 52) c_10_133 rfl (q_iload c_10_52 rfl (q_aload_n c_10_54 rfl (v_sln 47 c_10_55 rfl (by omega) (Nat.le_of_ble_eq_true rfl) (by decide) (by decide) (v_ic_gt_f (t := 136) c_10_58 rfl (by decide) (q_aload_n c_10_61 rfl (v_cv c_10_62 km_5_45 rfl rfl (Nat.le_of_ble_eq_true rfl) ⟨⟨rfl, rfl⟩, Nat.le_of_ble_eq_true rfl, rfl⟩ (Nat.le_of_ble_eq_true rfl) (Nat.le_of_ble_eq_true rfl) (q_aload_n c_2_0 rfl ?_)))))))
  refine v_gi (z := 4) (v := f9) c_2_1 kf_5_38 rfl (Nat.le_of_ble_eq_true rfl) rfl rfl (hv2) (v_if_ne_f (t := 11) c_2_4 rfl (by omega) (q_iconst c_2_7 (q_goto (t := 12) c_2_8 rfl (v_zret c_2_12 rfl (by decide) (bk_inl (v_if_eq_f (t := 136) c_10_65 rfl (by decide) (q_iload c_10_68 rfl ?_)))))))
  refine q_aload_n c_10_70 rfl (v_sln 47 c_10_71 rfl (by omega) (Nat.le_of_ble_eq_true rfl) (by decide) (by decide) (v_ic_eq_f (t := 88) c_10_74 rfl (by decide) (q_aload_n c_10_77 rfl (q_iload c_10_78 rfl (v_sch 105 c_10_80 rfl (by omega) (Nat.le_of_ble_eq_true rfl) (by decide) (by decide) (by decide) (v_bip c_10_83 (by decide) (v_ic_ne_t (t := 130) c_10_85 rfl (by decide) ?_)))))))
  refine v_iinc (v := 2) c_10_130 rfl (Nat.le_of_ble_eq_true rfl) (by decide) (q_goto (t := 52) c_10_133 rfl (q_iload c_10_52 rfl (q_aload_n c_10_54 rfl (v_sln 47 c_10_55 rfl (by omega) (Nat.le_of_ble_eq_true rfl) (by decide) (by decide) (v_ic_gt_f (t := 136) c_10_58 rfl (by decide) (q_aload_n c_10_61 rfl (v_cv c_10_62 km_5_45 rfl rfl (Nat.le_of_ble_eq_true rfl) ⟨⟨rfl, rfl⟩, Nat.le_of_ble_eq_true rfl, rfl⟩ (Nat.le_of_ble_eq_true rfl) (Nat.le_of_ble_eq_true rfl) ?_)))))))
  refine q_aload_n c_2_0 rfl (v_gi (z := 4) (v := f9) c_2_1 kf_5_38 rfl (Nat.le_of_ble_eq_true rfl) rfl rfl (hv2) (v_if_ne_f (t := 11) c_2_4 rfl (by omega) (q_iconst c_2_7 (q_goto (t := 12) c_2_8 rfl (v_zret c_2_12 rfl (by decide) (bk_inl (v_if_eq_f (t := 136) c_10_65 rfl (by decide) ?_)))))))
  refine q_iload c_10_68 rfl (q_aload_n c_10_70 rfl (v_sln 47 c_10_71 rfl (by omega) (Nat.le_of_ble_eq_true rfl) (by decide) (by decide) (v_ic_eq_f (t := 88) c_10_74 rfl (by decide) (q_aload_n c_10_77 rfl (q_iload c_10_78 rfl (v_sch 110 c_10_80 rfl (by omega) (Nat.le_of_ble_eq_true rfl) (by decide) (by decide) (by decide) (v_bip c_10_83 (by decide) ?_)))))))
  refine v_ic_ne_t (t := 130) c_10_85 rfl (by decide) (v_iinc (v := 3) c_10_130 rfl (Nat.le_of_ble_eq_true rfl) (by decide) (q_goto (t := 52) c_10_133 rfl (q_iload c_10_52 rfl (q_aload_n c_10_54 rfl (v_sln 47 c_10_55 rfl (by omega) (Nat.le_of_ble_eq_true rfl) (by decide) (by decide) (v_ic_gt_f (t := 136) c_10_58 rfl (by decide) (q_aload_n c_10_61 rfl ?_)))))))
  refine v_cv c_10_62 km_5_45 rfl rfl (Nat.le_of_ble_eq_true rfl) ⟨⟨rfl, rfl⟩, Nat.le_of_ble_eq_true rfl, rfl⟩ (Nat.le_of_ble_eq_true rfl) (Nat.le_of_ble_eq_true rfl) (q_aload_n c_2_0 rfl (v_gi (z := 4) (v := f9) c_2_1 kf_5_38 rfl (Nat.le_of_ble_eq_true rfl) rfl rfl (hv2) (v_if_ne_f (t := 11) c_2_4 rfl (by omega) (q_iconst c_2_7 (q_goto (t := 12) c_2_8 rfl (v_zret c_2_12 rfl (by decide) (bk_inl ?_)))))))
  refine v_if_eq_f (t := 136) c_10_65 rfl (by decide) (q_iload c_10_68 rfl (q_aload_n c_10_70 rfl (v_sln 47 c_10_71 rfl (by omega) (Nat.le_of_ble_eq_true rfl) (by decide) (by decide) (v_ic_eq_f (t := 88) c_10_74 rfl (by decide) (q_aload_n c_10_77 rfl (q_iload c_10_78 rfl (v_sch 101 c_10_80 rfl (by omega) (Nat.le_of_ble_eq_true rfl) (by decide) (by decide) (by decide) ?_)))))))
  refine v_bip c_10_83 (by decide) (v_ic_ne_t (t := 130) c_10_85 rfl (by decide) (v_iinc (v := 4) c_10_130 rfl (Nat.le_of_ble_eq_true rfl) (by decide) (q_goto (t := 52) c_10_133 rfl (q_iload c_10_52 rfl (q_aload_n c_10_54 rfl (v_sln 47 c_10_55 rfl (by omega) (Nat.le_of_ble_eq_true rfl) (by decide) (by decide) (v_ic_gt_f (t := 136) c_10_58 rfl (by decide) ?_)))))))
  refine q_aload_n c_10_61 rfl (v_cv c_10_62 km_5_45 rfl rfl (Nat.le_of_ble_eq_true rfl) ⟨⟨rfl, rfl⟩, Nat.le_of_ble_eq_true rfl, rfl⟩ (Nat.le_of_ble_eq_true rfl) (Nat.le_of_ble_eq_true rfl) (q_aload_n c_2_0 rfl (v_gi (z := 4) (v := f9) c_2_1 kf_5_38 rfl (Nat.le_of_ble_eq_true rfl) rfl rfl (hv2) (v_if_ne_f (t := 11) c_2_4 rfl (by omega) (q_iconst c_2_7 (q_goto (t := 12) c_2_8 rfl (v_zret c_2_12 rfl (by decide) ?_)))))))
  refine bk_inl (v_if_eq_f (t := 136) c_10_65 rfl (by decide) (q_iload c_10_68 rfl (q_aload_n c_10_70 rfl (v_sln 47 c_10_71 rfl (by omega) (Nat.le_of_ble_eq_true rfl) (by decide) (by decide) (v_ic_eq_f (t := 88) c_10_74 rfl (by decide) (q_aload_n c_10_77 rfl (q_iload c_10_78 rfl ?_)))))))
  refine v_sch 32 c_10_80 rfl (by omega) (Nat.le_of_ble_eq_true rfl) (by decide) (by decide) (by decide) (v_bip c_10_83 (by decide) (v_ic_ne_f (t := 130) c_10_85 rfl (by decide) (q_iload c_10_88 rfl (q_iload c_10_90 rfl (v_isub (v := 4) c_10_92 (by decide) (q_iload_n c_10_93 rfl (q_iload_n c_10_94 rfl ?_)))))))
  refine v_isub (v := L8 - r8) c_10_95 rfl ?_
  by_cases h_5 : 4 ≠ L8 - r8
  · refine v_ic_ne_t (t := 121) c_10_96 rfl ⟨h_5, ⟨by decide, by decide⟩, by omega, by omega⟩ (v_iinc (v := 1) c_10_121 rfl (Nat.le_of_ble_eq_true rfl) (by decide) (Wp_ls [(4, vi 1), (6, vi 4), (0, .ref 1), (1, .ref (a_SB + 1)), (2, vi r8), (3, vi L8), (5, vi 0)] (lsub_cons rfl (lsub_cons rfl (lsub_cons rfl (lsub_cons rfl (lsub_cons rfl (lsub_cons rfl (lsub_cons rfl lsub_nil))))))) (q_iload c_10_124 rfl (q_iconst c_10_126 (v_iadd (v := 5) c_10_127 (by decide) (q_istore c_10_128 (Nat.le_of_ble_eq_true rfl) (v_iinc (v := 5) c_10_130 rfl (Nat.le_of_ble_eq_true rfl) (by decide) ?_)))))))
    refine q_goto (t := 52) c_10_133 rfl (Wp_ls [(0, .ref 1), (1, .ref (a_SB + 1)), (2, vi r8), (3, vi L8), (4, vi 1), (5, vi 5), (6, vi 5)] (lsub_cons rfl (lsub_cons rfl (lsub_cons rfl (lsub_cons rfl (lsub_cons rfl (lsub_cons rfl (lsub_cons rfl lsub_nil))))))) ?_)
    exact f_10_1_1 (d := d) (r8 := r8) (L8 := L8) (W8 := W8) hI hq0 hq1 hv0 hv1 hv2 hv3 hB ((wd1_0_f (by omega)).symm.trans hdW8) K0 K1
  · refine v_ic_ne_f (t := 121) c_10_96 rfl (Decidable.not_not.mp h_5) (q_aload_n c_10_99 rfl (q_aload_n c_10_100 rfl (q_iload c_10_101 rfl (q_iload_n c_10_103 rfl (q_iload_n c_10_104 rfl (q_iload_n c_10_105 rfl (v_isub (v := L8 - r8) c_10_106 rfl ?_)))))))
    refine v_cv c_10_107 km_5_73 rfl rfl (Nat.le_of_ble_eq_true rfl) ⟨⟨rfl, rfl⟩, Nat.le_of_ble_eq_true rfl, rfl⟩ (Nat.le_of_ble_eq_true rfl) (Nat.le_of_ble_eq_true rfl) (q_iconst c_9_0 (q_istore c_9_1 (Nat.le_of_ble_eq_true rfl) (q_iload c_9_3 rfl (q_iload c_9_5 rfl (v_ic_ge_f (t := 38) c_9_7 rfl ⟨by decide, by first | exact q_e102c8f11 h_5 | omega, by first | exact q_559789b9d h_5 | omega⟩ (q_aload_n c_9_10 rfl (q_iload_n c_9_11 rfl ?_)))))))
    refine q_iload c_9_12 rfl (v_iadd (v := 0) c_9_14 (by decide) (v_sch 102 c_9_15 rfl (by omega) (Nat.le_of_ble_eq_true rfl) (by decide) (by decide) (by decide) (q_aload_n c_9_18 rfl (v_gr (t := 2) c_9_19 kf_5_9 rfl (Nat.le_of_ble_eq_true rfl) rfl (q_iload_n c_9_22 rfl (q_iload c_9_23 rfl (v_iadd (v := r8) c_9_25 (by omega) ?_)))))))
    have h_6 : -2147483648 ≤ (B r8) ∧ (B r8) ≤ 2147483647 := by rw [← hB r8]; exact ir_2 hI r8
    refine v_ba (v := (B r8)) c_9_26 rfl (by decide) (by decide) (by omega) (hB r8) ?_
    by_cases h_7 : 102 = (B r8)
    · refine v_ic_eq_t (t := 32) c_9_27 rfl h_7 (v_iinc (v := 1) c_9_32 rfl (Nat.le_of_ble_eq_true rfl) (by decide) (q_goto (t := 3) c_9_35 rfl (q_iload c_9_3 rfl (q_iload c_9_5 rfl (v_ic_ge_f (t := 38) c_9_7 rfl ⟨by decide, by first | exact q_a2240bc6c h_5 | omega, by first | exact q_559789b9d h_5 | omega⟩ (q_aload_n c_9_10 rfl (q_iload_n c_9_11 rfl ?_)))))))
      refine q_iload c_9_12 rfl (v_iadd (v := 1) c_9_14 (by decide) (v_sch 105 c_9_15 rfl (by omega) (Nat.le_of_ble_eq_true rfl) (by decide) (by decide) (by decide) (q_aload_n c_9_18 rfl (v_gr (t := 2) c_9_19 kf_5_9 rfl (Nat.le_of_ble_eq_true rfl) rfl (q_iload_n c_9_22 rfl (q_iload c_9_23 rfl (v_iadd (v := r8 + 1) c_9_25 rfl ?_)))))))
      have h_8 : -2147483648 ≤ (B (r8 + 1)) ∧ (B (r8 + 1)) ≤ 2147483647 := by rw [← hB (r8 + 1)]; exact ir_2 hI (r8 + 1)
      refine v_ba (v := (B (r8 + 1))) c_9_26 rfl (by decide) (by decide) (by omega) (hB (r8 + 1)) ?_
      by_cases h_9 : 105 = (B (r8 + 1))
      · refine v_ic_eq_t (t := 32) c_9_27 rfl h_9 (v_iinc (v := 2) c_9_32 rfl (Nat.le_of_ble_eq_true rfl) (by decide) (q_goto (t := 3) c_9_35 rfl (q_iload c_9_3 rfl (q_iload c_9_5 rfl (v_ic_ge_f (t := 38) c_9_7 rfl ⟨by decide, by first | exact q_81cf1e9c6 h_5 | omega, by first | exact q_559789b9d h_5 | omega⟩ (q_aload_n c_9_10 rfl (q_iload_n c_9_11 rfl ?_)))))))
        refine q_iload c_9_12 rfl (v_iadd (v := 2) c_9_14 (by decide) (v_sch 110 c_9_15 rfl (by omega) (Nat.le_of_ble_eq_true rfl) (by decide) (by decide) (by decide) (q_aload_n c_9_18 rfl (v_gr (t := 2) c_9_19 kf_5_9 rfl (Nat.le_of_ble_eq_true rfl) rfl (q_iload_n c_9_22 rfl (q_iload c_9_23 rfl (v_iadd (v := r8 + 2) c_9_25 rfl ?_)))))))
        have h_10 : -2147483648 ≤ (B (r8 + 2)) ∧ (B (r8 + 2)) ≤ 2147483647 := by rw [← hB (r8 + 2)]; exact ir_2 hI (r8 + 2)
        refine v_ba (v := (B (r8 + 2))) c_9_26 rfl (by decide) (by decide) (by omega) (hB (r8 + 2)) ?_
        by_cases h_11 : 110 = (B (r8 + 2))
        · refine v_ic_eq_t (t := 32) c_9_27 rfl h_11 (v_iinc (v := 3) c_9_32 rfl (Nat.le_of_ble_eq_true rfl) (by decide) (q_goto (t := 3) c_9_35 rfl (q_iload c_9_3 rfl (q_iload c_9_5 rfl (v_ic_ge_f (t := 38) c_9_7 rfl ⟨by decide, by first | exact q_bf9798940 h_5 | omega, by first | exact q_559789b9d h_5 | omega⟩ (q_aload_n c_9_10 rfl (q_iload_n c_9_11 rfl ?_)))))))
          refine q_iload c_9_12 rfl (v_iadd (v := 3) c_9_14 (by decide) (v_sch 101 c_9_15 rfl (by omega) (Nat.le_of_ble_eq_true rfl) (by decide) (by decide) (by decide) (q_aload_n c_9_18 rfl (v_gr (t := 2) c_9_19 kf_5_9 rfl (Nat.le_of_ble_eq_true rfl) rfl (q_iload_n c_9_22 rfl (q_iload c_9_23 rfl (v_iadd (v := r8 + 3) c_9_25 rfl ?_)))))))
          have h_12 : -2147483648 ≤ (B (r8 + 3)) ∧ (B (r8 + 3)) ≤ 2147483647 := by rw [← hB (r8 + 3)]; exact ir_2 hI (r8 + 3)
          refine v_ba (v := (B (r8 + 3))) c_9_26 rfl (by decide) (by decide) (by omega) (hB (r8 + 3)) ?_
          by_cases h_13 : 101 = (B (r8 + 3))
          · refine v_ic_eq_t (t := 32) c_9_27 rfl h_13 (v_iinc (v := 4) c_9_32 rfl (Nat.le_of_ble_eq_true rfl) (by decide) (Wp_ls [(5, vi 4), (0, .ref 1), (1, .ref (a_SB + 1)), (2, vi 0), (3, vi r8), (4, vi (L8 - r8))] (lsub_cons rfl (lsub_cons rfl (lsub_cons rfl (lsub_cons rfl (lsub_cons rfl (lsub_cons rfl lsub_nil)))))) (q_goto (t := 3) c_9_35 rfl (q_iload c_9_3 rfl (q_iload c_9_5 rfl (v_ic_ge_t (t := 38) c_9_7 rfl ⟨by first | exact q_5edcef13d h_5 | omega, by first | exact q_62ba5a5ea h_5 | omega, by decide⟩ (q_iconst c_9_38 ?_)))))))
            refine v_zret c_9_39 rfl (by decide) (bk_inl (v_if_eq_f (t := 121) c_10_110 rfl (by decide) (q_aload_n c_10_113 rfl (q_iload_n c_10_114 rfl (v_pi (z := 2) c_10_115 kf_5_35 rfl (Nat.le_of_ble_eq_true rfl) rfl rfl rfl (by decide) (q_iload c_10_118 rfl (q_iret c_10_120 rfl ?_)))))))
            have hw9 : W8 = 0 := hdW8.symm.trans (wd1_0_t (by omega))
            have hI_14 := iw_1_2 (v := L8) hI ⟨by first | (clear h_1 h_2 h_3 h_4 h_6 h_7 h_8 h_9 h_10 h_11 h_12 h_13 hw9; omega) | omega, by first | (clear h_1 h_2 h_3 h_4 h_5 h_6 h_7 h_8 h_9 h_10 h_11 h_12 h_13 hw9; omega) | omega⟩
            have h_15 : (up c 1 2 L8) 1 2 = L8 := (up_e rfl)
            have h_16 : (up c 1 2 L8) 1 4 = f9 := ((up_n (by decide)).trans (hv2))
            have h_17 : (up c 1 2 L8) 1 5 = p9 := ((up_n (by decide)).trans (hv3))
            exact zv (by omega) (K1 (up c 1 2 L8) hI_14 (fun a j hm => up_b (Decidable.or_iff_not_imp_left.mpr (fun h1 h2 => hm (Or.inl ⟨Decidable.not_not.mp h1, h2⟩)))) (by omega) (by omega) (by omega) (by omega))
          · refine v_ic_eq_f (t := 32) c_9_27 rfl ⟨h_13, ⟨by decide, by decide⟩, by first | exact q_f97c35332 h_12 | omega, by first | exact q_79e53d295 h_12 | omega⟩ (q_iconst c_9_30 (v_zret c_9_31 rfl (by decide) (bk_inl (v_if_eq_t (t := 121) c_10_110 rfl (by decide) (v_iinc (v := 1) c_10_121 rfl (Nat.le_of_ble_eq_true rfl) (by decide) (Wp_ls [(4, vi 1), (6, vi 4), (0, .ref 1), (1, .ref (a_SB + 1)), (2, vi r8), (3, vi L8), (5, vi 0)] (lsub_cons rfl (lsub_cons rfl (lsub_cons rfl (lsub_cons rfl (lsub_cons rfl (lsub_cons rfl (lsub_cons rfl lsub_nil))))))) (q_iload c_10_124 rfl ?_)))))))
            refine q_iconst c_10_126 (v_iadd (v := 5) c_10_127 (by decide) (q_istore c_10_128 (Nat.le_of_ble_eq_true rfl) (v_iinc (v := 5) c_10_130 rfl (Nat.le_of_ble_eq_true rfl) (by decide) (q_goto (t := 52) c_10_133 rfl (Wp_ls [(0, .ref 1), (1, .ref (a_SB + 1)), (2, vi r8), (3, vi L8), (4, vi 1), (5, vi 5), (6, vi 5)] (lsub_cons rfl (lsub_cons rfl (lsub_cons rfl (lsub_cons rfl (lsub_cons rfl (lsub_cons rfl (lsub_cons rfl lsub_nil))))))) ?_)))))
            exact f_10_1_1 (d := d) (r8 := r8) (L8 := L8) (W8 := W8) hI hq0 hq1 hv0 hv1 hv2 hv3 hB ((wd1_0_f (by omega)).symm.trans hdW8) K0 K1
        · refine v_ic_eq_f (t := 32) c_9_27 rfl ⟨h_11, ⟨by decide, by decide⟩, by first | exact q_f97c35332 h_10 | omega, by first | exact q_79e53d295 h_10 | omega⟩ (q_iconst c_9_30 (v_zret c_9_31 rfl (by decide) (bk_inl (v_if_eq_t (t := 121) c_10_110 rfl (by decide) (v_iinc (v := 1) c_10_121 rfl (Nat.le_of_ble_eq_true rfl) (by decide) (Wp_ls [(4, vi 1), (6, vi 4), (0, .ref 1), (1, .ref (a_SB + 1)), (2, vi r8), (3, vi L8), (5, vi 0)] (lsub_cons rfl (lsub_cons rfl (lsub_cons rfl (lsub_cons rfl (lsub_cons rfl (lsub_cons rfl (lsub_cons rfl lsub_nil))))))) (q_iload c_10_124 rfl ?_)))))))
          refine q_iconst c_10_126 (v_iadd (v := 5) c_10_127 (by decide) (q_istore c_10_128 (Nat.le_of_ble_eq_true rfl) (v_iinc (v := 5) c_10_130 rfl (Nat.le_of_ble_eq_true rfl) (by decide) (q_goto (t := 52) c_10_133 rfl (Wp_ls [(0, .ref 1), (1, .ref (a_SB + 1)), (2, vi r8), (3, vi L8), (4, vi 1), (5, vi 5), (6, vi 5)] (lsub_cons rfl (lsub_cons rfl (lsub_cons rfl (lsub_cons rfl (lsub_cons rfl (lsub_cons rfl (lsub_cons rfl lsub_nil))))))) ?_)))))
          exact f_10_1_1 (d := d) (r8 := r8) (L8 := L8) (W8 := W8) hI hq0 hq1 hv0 hv1 hv2 hv3 hB ((wd1_0_f (by omega)).symm.trans hdW8) K0 K1
      · refine v_ic_eq_f (t := 32) c_9_27 rfl ⟨h_9, ⟨by decide, by decide⟩, by first | exact q_f97c35332 h_8 | omega, by first | exact q_79e53d295 h_8 | omega⟩ (q_iconst c_9_30 (v_zret c_9_31 rfl (by decide) (bk_inl (v_if_eq_t (t := 121) c_10_110 rfl (by decide) (v_iinc (v := 1) c_10_121 rfl (Nat.le_of_ble_eq_true rfl) (by decide) (Wp_ls [(4, vi 1), (6, vi 4), (0, .ref 1), (1, .ref (a_SB + 1)), (2, vi r8), (3, vi L8), (5, vi 0)] (lsub_cons rfl (lsub_cons rfl (lsub_cons rfl (lsub_cons rfl (lsub_cons rfl (lsub_cons rfl (lsub_cons rfl lsub_nil))))))) (q_iload c_10_124 rfl ?_)))))))
        refine q_iconst c_10_126 (v_iadd (v := 5) c_10_127 (by decide) (q_istore c_10_128 (Nat.le_of_ble_eq_true rfl) (v_iinc (v := 5) c_10_130 rfl (Nat.le_of_ble_eq_true rfl) (by decide) (q_goto (t := 52) c_10_133 rfl (Wp_ls [(0, .ref 1), (1, .ref (a_SB + 1)), (2, vi r8), (3, vi L8), (4, vi 1), (5, vi 5), (6, vi 5)] (lsub_cons rfl (lsub_cons rfl (lsub_cons rfl (lsub_cons rfl (lsub_cons rfl (lsub_cons rfl (lsub_cons rfl lsub_nil))))))) ?_)))))
        exact f_10_1_1 (d := d) (r8 := r8) (L8 := L8) (W8 := W8) hI hq0 hq1 hv0 hv1 hv2 hv3 hB ((wd1_0_f (by omega)).symm.trans hdW8) K0 K1
    · refine v_ic_eq_f (t := 32) c_9_27 rfl ⟨h_7, ⟨by decide, by decide⟩, by first | exact q_f97c35332 h_6 | omega, by first | exact q_79e53d295 h_6 | omega⟩ (q_iconst c_9_30 (v_zret c_9_31 rfl (by decide) (bk_inl (v_if_eq_t (t := 121) c_10_110 rfl (by decide) (v_iinc (v := 1) c_10_121 rfl (Nat.le_of_ble_eq_true rfl) (by decide) (Wp_ls [(4, vi 1), (6, vi 4), (0, .ref 1), (1, .ref (a_SB + 1)), (2, vi r8), (3, vi L8), (5, vi 0)] (lsub_cons rfl (lsub_cons rfl (lsub_cons rfl (lsub_cons rfl (lsub_cons rfl (lsub_cons rfl (lsub_cons rfl lsub_nil))))))) (q_iload c_10_124 rfl ?_)))))))
      refine q_iconst c_10_126 (v_iadd (v := 5) c_10_127 (by decide) (q_istore c_10_128 (Nat.le_of_ble_eq_true rfl) (v_iinc (v := 5) c_10_130 rfl (Nat.le_of_ble_eq_true rfl) (by decide) (q_goto (t := 52) c_10_133 rfl (Wp_ls [(0, .ref 1), (1, .ref (a_SB + 1)), (2, vi r8), (3, vi L8), (4, vi 1), (5, vi 5), (6, vi 5)] (lsub_cons rfl (lsub_cons rfl (lsub_cons rfl (lsub_cons rfl (lsub_cons rfl (lsub_cons rfl (lsub_cons rfl lsub_nil))))))) ?_)))))
      exact f_10_1_1 (d := d) (r8 := r8) (L8 := L8) (W8 := W8) hI hq0 hq1 hv0 hv1 hv2 hv3 hB ((wd1_0_f (by omega)).symm.trans hdW8) K0 K1

set_option maxRecDepth 100000 in
set_option maxHeartbeats 4000000 in
theorem f_10_1_l {sc : List Int32} {e : Int} {d u P Q : Nat} {c : ME} {e1 a9 f9 p9 r8 L8 W8 : Int} {B : Int → Int} {Z : AR → Prop} (hI : Iv u e P Q c) (hv0 : c 1 1 = e1) (hv1 : c 1 2 = a9) (hv2 : c 1 4 = f9) (hv3 : c 1 5 = p9) (hB : ∀ j : Int, c 2 j = B j) (hdr8 : nx B e1 a9 = r8) (hdL8 : ln B e1 r8 = L8) (hdW8 : wd1_0 B r8 L8 = W8) (K0 : ∀ c2 : ME, Iv u e P Q c2 → (∀ (a : Nat) (j : Int), ¬ ((a = 1 ∧ j = 2) ∨ (a = 1 ∧ j = 4) ∨ (a = 1 ∧ j = 5)) → c2 a j = c a j) → ((f9 ≠ 0)) → (c2 1 2 = r8) → (c2 1 4 = f9) → (c2 1 5 = p9) → Z (.inl (some (vi (-1))), Wd P Q P P c2, 0, 0)) (K1 : ∀ c2 : ME, Iv u e P Q c2 → (∀ (a : Nat) (j : Int), ¬ ((a = 1 ∧ j = 2) ∨ (a = 1 ∧ j = 4) ∨ (a = 1 ∧ j = 5)) → c2 a j = c a j) → ((f9 = 0)) → ((W8 = (-1))) → (c2 1 2 = r8) → (c2 1 4 = 1) → (c2 1 5 = r8) → Z (.inl (some (vi (-1))), Wd P Q P P c2, 0, 0)) (K2 : ∀ c2 : ME, Iv u e P Q c2 → (∀ (a : Nat) (j : Int), ¬ ((a = 1 ∧ j = 2) ∨ (a = 1 ∧ j = 4) ∨ (a = 1 ∧ j = 5)) → c2 a j = c a j) → ((f9 = 0)) → ((W8 ≥ 0 ∧ W8 ≤ 9)) → (c2 1 2 = L8) → (c2 1 4 = 0) → (c2 1 5 = p9) → Z (.inl (some (vi W8)), Wd P Q P P c2, 0, 0)) : ∀ n : Nat, (∀ (c2 : ME) (v3 : Int), Iv u e P Q c2 → (∀ (a : Nat) (j : Int), ¬ ((a = 1 ∧ j = 2) ∨ (a = 1 ∧ j = 4) ∨ (a = 1 ∧ j = 5)) → c2 a j = c a j) → 0 ≤ v3 ∧ v3 ≤ 600 → (ln B e1 v3 = L8) → ((v3 ≥ r8)) → ((c2 1 2 = r8)) → ((c2 1 4 = f9)) → ((c2 1 5 = p9)) → 600 - v3 < (n : Int) → Wp sc (d + 13) 10 7 [(0, .ref 1), (1, .ref (a_SB + 1)), (2, vi r8), (3, vi v3)] [] (Wd P Q P P c2) 0 0 Z)
  | 0 => by intro c2 v3 hI2 hF hv3 hx0 hx1 hx2 hx3 hx4 hm9; have hP := iv_P hI; have hQ := iv_Q hI; have h_1 := ir_1_1 hI; have h_2 := ir_1_2 hI; have h_3 := ir_1_4 hI; have h_4 := ir_1_5 hI; have h_5 := ir_1_2 hI2; have h_6 := ir_1_4 hI2; have h_7 := ir_1_5 hI2; exfalso; omega
  | n + 1 => by
    have hP := iv_P hI
    have hQ := iv_Q hI
    have ih := f_10_1_l (sc := sc) (d := d) hI hv0 hv1 hv2 hv3 hB hdr8 hdL8 hdW8 K0 K1 K2 n
    intro c2 v3 hI2 hF hv3 hx0 hx1 hx2 hx3 hx4 hm9
    have h_1 := ir_1_1 hI
    have h_2 := ir_1_2 hI
    have h_3 := ir_1_4 hI
    have h_4 := ir_1_5 hI
    have hn1 := nx_bd (b := B) (e := e1) (a := a9)
    rw [hdr8] at hn1
    have hn2 := ln_bd (b := B) (e := e1) (a := r8)
    rw [hdL8] at hn2
    have h_5 := ir_1_2 hI2
    have h_6 := ir_1_4 hI2
    have h_7 := ir_1_5 hI2
    refine q_iload_n c_10_7 rfl (q_aload_n c_10_8 rfl ?_)
    have kn_8 : Hid (c2 1 1 = e1) := (hF 1 1 qn_b782e6d88).trans (hv0)
    refine v_gi (z := 1) (v := e1) c_10_9 kf_5_32 rfl (Nat.le_of_ble_eq_true rfl) rfl rfl (hid kn_8) ?_
    by_cases h_9 : v3 ≥ e1
    · refine v_ic_ge_t (t := 43) c_10_12 rfl ⟨by omega, h_9, (Int.le_trans hv3.2 (by decide))⟩ (q_iconst c_10_43 (q_istore c_10_44 (Nat.le_of_ble_eq_true rfl) (q_iconst c_10_46 (q_istore c_10_47 (Nat.le_of_ble_eq_true rfl) (q_iconst c_10_49 (q_istore c_10_50 (Nat.le_of_ble_eq_true rfl) ?_))))))
      by_cases h_10 : f9 = 0
      · skip
        have hz8 : ln B e1 v3 = v3 := ln_z (by omega)
        have hz9 : v3 = L8 := hz8.symm.trans hx0
        refine Wp_ls [(0, .ref 1), (1, .ref (a_SB + 1)), (2, vi r8), (3, vi L8), (4, vi 0), (5, vi 0), (6, vi 0)] (lsub_cons rfl (lsub_cons rfl (lsub_cons rfl (lsub_cons (congrArg (fun w9 => some (vi w9)) hz9) (lsub_cons rfl (lsub_cons rfl (lsub_cons rfl lsub_nil))))))) ?_
        exact f_10_1_0 (e1 := e1) (a9 := c2 1 2) (f9 := c2 1 4) (p9 := c2 1 5) (r8 := r8) (L8 := L8) (W8 := W8) hI2 (by omega) (by omega) ((hid kn_8)) (rfl) (rfl) (rfl) (fun j => (hF 2 j qn_e2b123f84).trans (hB j)) hdW8 (fun c9 hI9 hF9 x1 z1 z2 z3 => K1 c9 hI9 (fun a j hm => (hF9 a j hm).trans (hF a j hm)) (by omega) (by omega) (by omega) (by omega) (by omega)) (fun c9 hI9 hF9 x1 z1 z2 z3 => K2 c9 hI9 (fun a j hm => (hF9 a j hm).trans (hF a j hm)) (by omega) (by omega) (by omega) (by omega) (by omega))
      · skip
        refine q_iload c_10_52 rfl (q_aload_n c_10_54 rfl (v_sln 47 c_10_55 rfl (by omega) (Nat.le_of_ble_eq_true rfl) (by decide) (by decide) (v_ic_gt_f (t := 136) c_10_58 rfl (by decide) (q_aload_n c_10_61 rfl (v_cv c_10_62 km_5_45 rfl rfl (Nat.le_of_ble_eq_true rfl) ⟨⟨rfl, rfl⟩, Nat.le_of_ble_eq_true rfl, rfl⟩ (Nat.le_of_ble_eq_true rfl) (Nat.le_of_ble_eq_true rfl) (q_aload_n c_2_0 rfl (v_gi (z := 4) (v := c2 1 4) c_2_1 kf_5_38 rfl (Nat.le_of_ble_eq_true rfl) rfl rfl rfl ?_)))))))
        refine v_if_ne_t (t := 11) c_2_4 rfl ⟨by omega, ⟨(Int.le_trans (by decide) h_6.1), (Int.le_trans h_6.2 (by decide))⟩, by decide, by decide⟩ (q_iconst c_2_11 (v_zret c_2_12 rfl (by decide) (bk_inl (v_if_eq_t (t := 136) c_10_65 rfl (by decide) (q_aload_n c_10_136 rfl (q_iconst c_10_137 (q_iload_n c_10_138 rfl ?_)))))))
        refine v_cv c_10_139 km_5_52 rfl rfl (Nat.le_of_ble_eq_true rfl) ⟨⟨rfl, rfl⟩, Nat.le_of_ble_eq_true rfl, rfl⟩ (Nat.le_of_ble_eq_true rfl) (Nat.le_of_ble_eq_true rfl) (q_aload_n c_7_0 rfl (v_gi (z := 4) (v := c2 1 4) c_7_1 kf_5_38 rfl (Nat.le_of_ble_eq_true rfl) rfl rfl rfl (v_if_ne_t (t := 17) c_7_4 rfl ⟨by omega, ⟨(Int.le_trans (by decide) h_6.1), (Int.le_trans h_6.2 (by decide))⟩, by decide, by decide⟩ (q_vret rfl rfl (bk_inl (q_iconst c_10_142 (q_iret c_10_143 rfl ?_)))))))
        exact zv (by omega) (K0 c2 hI2 (fun a j hm => hF a j hm) (by omega) (by omega) (by omega) (by omega))
    · refine v_ic_ge_f (t := 43) c_10_12 rfl ⟨(Int.le_trans (by decide) hv3.1), (Int.not_le.mp h_9), by omega⟩ (q_aload_n c_10_15 rfl (v_gr (t := 2) c_10_16 kf_5_9 rfl (Nat.le_of_ble_eq_true rfl) rfl (q_iload_n c_10_19 rfl ?_)))
      have h_11 : -2147483648 ≤ (B v3) ∧ (B v3) ≤ 2147483647 := by rw [← hB v3]; exact ir_2 hI v3
      have kn_12 : Hid (c2 2 v3 = (B v3)) := (hF 2 v3 qn_e2b123f84).trans (hB v3)
      refine v_ba (v := (B v3)) c_10_20 rfl (by decide) (by decide) ⟨hv3.1, by omega⟩ (hid kn_12) (v_bip c_10_21 (by decide) ?_)
      by_cases h_13 : (B v3) < 97
      · refine v_ic_lt_t (t := 43) c_10_23 rfl ⟨by first | exact q_f97c35332 h_11 | omega, h_13, by decide⟩ (q_iconst c_10_43 (q_istore c_10_44 (Nat.le_of_ble_eq_true rfl) (q_iconst c_10_46 (q_istore c_10_47 (Nat.le_of_ble_eq_true rfl) (q_iconst c_10_49 (q_istore c_10_50 (Nat.le_of_ble_eq_true rfl) ?_))))))
        by_cases h_14 : f9 = 0
        · skip
          have hz8 : ln B e1 v3 = v3 := ln_z (by omega)
          have hz9 : v3 = L8 := hz8.symm.trans hx0
          refine Wp_ls [(0, .ref 1), (1, .ref (a_SB + 1)), (2, vi r8), (3, vi L8), (4, vi 0), (5, vi 0), (6, vi 0)] (lsub_cons rfl (lsub_cons rfl (lsub_cons rfl (lsub_cons (congrArg (fun w9 => some (vi w9)) hz9) (lsub_cons rfl (lsub_cons rfl (lsub_cons rfl lsub_nil))))))) ?_
          exact f_10_1_0 (e1 := e1) (a9 := c2 1 2) (f9 := c2 1 4) (p9 := c2 1 5) (r8 := r8) (L8 := L8) (W8 := W8) hI2 (by omega) (by omega) ((hid kn_8)) (rfl) (rfl) (rfl) (fun j => (hF 2 j qn_e2b123f84).trans (hB j)) hdW8 (fun c9 hI9 hF9 x1 z1 z2 z3 => K1 c9 hI9 (fun a j hm => (hF9 a j hm).trans (hF a j hm)) (by omega) (by omega) (by omega) (by omega) (by omega)) (fun c9 hI9 hF9 x1 z1 z2 z3 => K2 c9 hI9 (fun a j hm => (hF9 a j hm).trans (hF a j hm)) (by omega) (by omega) (by omega) (by omega) (by omega))
        · skip
          refine q_iload c_10_52 rfl (q_aload_n c_10_54 rfl (v_sln 47 c_10_55 rfl (by omega) (Nat.le_of_ble_eq_true rfl) (by decide) (by decide) (v_ic_gt_f (t := 136) c_10_58 rfl (by decide) (q_aload_n c_10_61 rfl (v_cv c_10_62 km_5_45 rfl rfl (Nat.le_of_ble_eq_true rfl) ⟨⟨rfl, rfl⟩, Nat.le_of_ble_eq_true rfl, rfl⟩ (Nat.le_of_ble_eq_true rfl) (Nat.le_of_ble_eq_true rfl) (q_aload_n c_2_0 rfl (v_gi (z := 4) (v := c2 1 4) c_2_1 kf_5_38 rfl (Nat.le_of_ble_eq_true rfl) rfl rfl rfl ?_)))))))
          refine v_if_ne_t (t := 11) c_2_4 rfl ⟨by omega, ⟨(Int.le_trans (by decide) h_6.1), (Int.le_trans h_6.2 (by decide))⟩, by decide, by decide⟩ (q_iconst c_2_11 (v_zret c_2_12 rfl (by decide) (bk_inl (v_if_eq_t (t := 136) c_10_65 rfl (by decide) (q_aload_n c_10_136 rfl (q_iconst c_10_137 (q_iload_n c_10_138 rfl ?_)))))))
          refine v_cv c_10_139 km_5_52 rfl rfl (Nat.le_of_ble_eq_true rfl) ⟨⟨rfl, rfl⟩, Nat.le_of_ble_eq_true rfl, rfl⟩ (Nat.le_of_ble_eq_true rfl) (Nat.le_of_ble_eq_true rfl) (q_aload_n c_7_0 rfl (v_gi (z := 4) (v := c2 1 4) c_7_1 kf_5_38 rfl (Nat.le_of_ble_eq_true rfl) rfl rfl rfl (v_if_ne_t (t := 17) c_7_4 rfl ⟨by omega, ⟨(Int.le_trans (by decide) h_6.1), (Int.le_trans h_6.2 (by decide))⟩, by decide, by decide⟩ (q_vret rfl rfl (bk_inl (q_iconst c_10_142 (q_iret c_10_143 rfl ?_)))))))
          exact zv (by omega) (K0 c2 hI2 (fun a j hm => hF a j hm) (by omega) (by omega) (by omega) (by omega))
      · refine v_ic_lt_f (t := 43) c_10_23 rfl ⟨by decide, (Int.not_lt.mp h_13), by first | exact q_79e53d295 h_11 | omega⟩ (q_aload_n c_10_26 rfl (v_gr (t := 2) c_10_27 kf_5_9 rfl (Nat.le_of_ble_eq_true rfl) rfl (q_iload_n c_10_30 rfl (v_ba (v := (B v3)) c_10_31 rfl (by decide) (by decide) ⟨hv3.1, by omega⟩ (hid kn_12) (v_bip c_10_32 (by decide) ?_)))))
        by_cases h_15 : (B v3) > 122
        · refine v_ic_gt_t (t := 43) c_10_34 rfl ⟨by decide, h_15, by first | exact q_79e53d295 h_11 | omega⟩ (q_iconst c_10_43 (q_istore c_10_44 (Nat.le_of_ble_eq_true rfl) (q_iconst c_10_46 (q_istore c_10_47 (Nat.le_of_ble_eq_true rfl) (q_iconst c_10_49 (q_istore c_10_50 (Nat.le_of_ble_eq_true rfl) ?_))))))
          by_cases h_16 : f9 = 0
          · skip
            have hz8 : ln B e1 v3 = v3 := ln_z (by omega)
            have hz9 : v3 = L8 := hz8.symm.trans hx0
            refine Wp_ls [(0, .ref 1), (1, .ref (a_SB + 1)), (2, vi r8), (3, vi L8), (4, vi 0), (5, vi 0), (6, vi 0)] (lsub_cons rfl (lsub_cons rfl (lsub_cons rfl (lsub_cons (congrArg (fun w9 => some (vi w9)) hz9) (lsub_cons rfl (lsub_cons rfl (lsub_cons rfl lsub_nil))))))) ?_
            exact f_10_1_0 (e1 := e1) (a9 := c2 1 2) (f9 := c2 1 4) (p9 := c2 1 5) (r8 := r8) (L8 := L8) (W8 := W8) hI2 (by omega) (by omega) ((hid kn_8)) (rfl) (rfl) (rfl) (fun j => (hF 2 j qn_e2b123f84).trans (hB j)) hdW8 (fun c9 hI9 hF9 x1 z1 z2 z3 => K1 c9 hI9 (fun a j hm => (hF9 a j hm).trans (hF a j hm)) (by omega) (by omega) (by omega) (by omega) (by omega)) (fun c9 hI9 hF9 x1 z1 z2 z3 => K2 c9 hI9 (fun a j hm => (hF9 a j hm).trans (hF a j hm)) (by omega) (by omega) (by omega) (by omega) (by omega))
          · skip
            refine q_iload c_10_52 rfl (q_aload_n c_10_54 rfl (v_sln 47 c_10_55 rfl (by omega) (Nat.le_of_ble_eq_true rfl) (by decide) (by decide) (v_ic_gt_f (t := 136) c_10_58 rfl (by decide) (q_aload_n c_10_61 rfl (v_cv c_10_62 km_5_45 rfl rfl (Nat.le_of_ble_eq_true rfl) ⟨⟨rfl, rfl⟩, Nat.le_of_ble_eq_true rfl, rfl⟩ (Nat.le_of_ble_eq_true rfl) (Nat.le_of_ble_eq_true rfl) (q_aload_n c_2_0 rfl (v_gi (z := 4) (v := c2 1 4) c_2_1 kf_5_38 rfl (Nat.le_of_ble_eq_true rfl) rfl rfl rfl ?_)))))))
            refine v_if_ne_t (t := 11) c_2_4 rfl ⟨by omega, ⟨(Int.le_trans (by decide) h_6.1), (Int.le_trans h_6.2 (by decide))⟩, by decide, by decide⟩ (q_iconst c_2_11 (v_zret c_2_12 rfl (by decide) (bk_inl (v_if_eq_t (t := 136) c_10_65 rfl (by decide) (q_aload_n c_10_136 rfl (q_iconst c_10_137 (q_iload_n c_10_138 rfl ?_)))))))
            refine v_cv c_10_139 km_5_52 rfl rfl (Nat.le_of_ble_eq_true rfl) ⟨⟨rfl, rfl⟩, Nat.le_of_ble_eq_true rfl, rfl⟩ (Nat.le_of_ble_eq_true rfl) (Nat.le_of_ble_eq_true rfl) (q_aload_n c_7_0 rfl (v_gi (z := 4) (v := c2 1 4) c_7_1 kf_5_38 rfl (Nat.le_of_ble_eq_true rfl) rfl rfl rfl (v_if_ne_t (t := 17) c_7_4 rfl ⟨by omega, ⟨(Int.le_trans (by decide) h_6.1), (Int.le_trans h_6.2 (by decide))⟩, by decide, by decide⟩ (q_vret rfl rfl (bk_inl (q_iconst c_10_142 (q_iret c_10_143 rfl ?_)))))))
            exact zv (by omega) (K0 c2 hI2 (fun a j hm => hF a j hm) (by omega) (by omega) (by omega) (by omega))
        · refine v_ic_gt_f (t := 43) c_10_34 rfl ⟨by first | exact q_831bb82af h_13 | omega, (Int.not_lt.mp h_15), by decide⟩ (v_iinc (v := v3 + 1) c_10_37 rfl (Nat.le_of_ble_eq_true rfl) rfl (q_goto (t := 7) c_10_40 rfl (Wp_ls [(0, .ref 1), (1, .ref (a_SB + 1)), (2, vi r8), (3, vi (v3 + 1))] (lsub_cons rfl (lsub_cons rfl (lsub_cons rfl (lsub_cons rfl lsub_nil)))) ?_)))
          exact ih c2 (v3 + 1) hI2 (fun a j hm => hF a j hm) ⟨by omega, by omega⟩ ((ln_s (by omega)).symm.trans hx0) (by omega) (by omega) (by omega) (by omega) (by omega)
set_option maxRecDepth 100000 in
set_option maxHeartbeats 4000000 in
theorem f_10_1 {sc : List Int32} {e : Int} {d u P Q : Nat} {c : ME} {e1 a9 f9 p9 r8 L8 W8 : Int} {B : Int → Int} {Z : AR → Prop} (hI : Iv u e P Q c) (hv0 : c 1 1 = e1) (hv1 : c 1 2 = a9) (hv2 : c 1 4 = f9) (hv3 : c 1 5 = p9) (hB : ∀ j : Int, c 2 j = B j) (hdr8 : nx B e1 a9 = r8) (hdL8 : ln B e1 r8 = L8) (hdW8 : wd1_0 B r8 L8 = W8) (K0 : ∀ c2 : ME, Iv u e P Q c2 → (∀ (a : Nat) (j : Int), ¬ ((a = 1 ∧ j = 2) ∨ (a = 1 ∧ j = 4) ∨ (a = 1 ∧ j = 5)) → c2 a j = c a j) → ((f9 ≠ 0)) → (c2 1 2 = r8) → (c2 1 4 = f9) → (c2 1 5 = p9) → Z (.inl (some (vi (-1))), Wd P Q P P c2, 0, 0)) (K1 : ∀ c2 : ME, Iv u e P Q c2 → (∀ (a : Nat) (j : Int), ¬ ((a = 1 ∧ j = 2) ∨ (a = 1 ∧ j = 4) ∨ (a = 1 ∧ j = 5)) → c2 a j = c a j) → ((f9 = 0)) → ((W8 = (-1))) → (c2 1 2 = r8) → (c2 1 4 = 1) → (c2 1 5 = r8) → Z (.inl (some (vi (-1))), Wd P Q P P c2, 0, 0)) (K2 : ∀ c2 : ME, Iv u e P Q c2 → (∀ (a : Nat) (j : Int), ¬ ((a = 1 ∧ j = 2) ∨ (a = 1 ∧ j = 4) ∨ (a = 1 ∧ j = 5)) → c2 a j = c a j) → ((f9 = 0)) → ((W8 ≥ 0 ∧ W8 ≤ 9)) → (c2 1 2 = L8) → (c2 1 4 = 0) → (c2 1 5 = p9) → Z (.inl (some (vi W8)), Wd P Q P P c2, 0, 0)) : Wp sc (d + 13) 10 0 [(0, .ref 1), (1, .ref (a_SB + 1))] [] (Wd P Q P P c) 0 0 Z := by
  have hP := iv_P hI
  have hQ := iv_Q hI
  have h_17 := ir_1_1 hI
  have h_18 := ir_1_2 hI
  have h_19 := ir_1_4 hI
  have h_20 := ir_1_5 hI
  have hn1 := nx_bd (b := B) (e := e1) (a := a9)
  rw [hdr8] at hn1
  have hn2 := ln_bd (b := B) (e := e1) (a := r8)
  rw [hdL8] at hn2
  refine q_aload_n c_10_0 rfl ?_
  have h_21 : -2147483648 ≤ (B a9) ∧ (B a9) ≤ 2147483647 := by rw [← hB a9]; exact ir_2 hI a9
  refine v_cv c_10_1 km_5_41 rfl rfl (Nat.le_of_ble_eq_true rfl) ⟨⟨rfl, rfl⟩, Nat.le_of_ble_eq_true rfl, rfl⟩ (Nat.le_of_ble_eq_true rfl) (Nat.le_of_ble_eq_true rfl) (f_3 (e1 := e1) (a9 := a9) (B := B) (r8 := r8) hI ((hv0)) ((hv1)) (fun j => hB j) hdr8 (fun c_22 hI_23 hF_24 hz_25 => (bk_inl (q_istore_n c_10_4 (Nat.le_of_ble_eq_true rfl) (q_iload_n c_10_5 rfl (q_istore_n c_10_6 (Nat.le_of_ble_eq_true rfl) (Wp_ls [(0, .ref 1), (1, .ref (a_SB + 1)), (2, vi r8), (3, vi r8)] (lsub_cons rfl (lsub_cons rfl (lsub_cons rfl (lsub_cons rfl lsub_nil)))) ?_)))))))
  have h_26 : c_22 1 2 = r8 := (hz_25)
  have kn_27 : Hid (c_22 1 4 = f9) := (hF_24 1 4 (fun h => absurd h.2 (ni rfl))).trans (hv2)
  have h_28 : c_22 1 4 = f9 := (hid kn_27)
  have kn_29 : Hid (c_22 1 5 = p9) := (hF_24 1 5 (fun h => absurd h.2 (ni rfl))).trans (hv3)
  have h_30 : c_22 1 5 = p9 := (hid kn_29)
  exact (f_10_1_l (sc := sc) (d := d) hI hv0 hv1 hv2 hv3 hB hdr8 hdL8 hdW8 K0 K1 K2 601) c_22 r8 hI_23 (fun a j hm => hF_24 a j (fun h => hm (Or.inl h))) ⟨by omega, by omega⟩ hdL8 (by omega) (by omega) (by omega) (by omega) (by omega)

set_option maxRecDepth 100000 in
set_option maxHeartbeats 4000000 in
theorem f_6 {sc : List Int32} {e : Int} {d u P Q : Nat} {c : ME} {e1 a9 r8 : Int} {B : Int → Int} {Z : AR → Prop} (hI : Iv u e P Q c) (hv0 : c 1 1 = e1) (hv1 : c 1 2 = a9) (hB : ∀ j : Int, c 2 j = B j) (hdr8 : nx B e1 a9 = r8) (K0 : ∀ c2 : ME, Iv u e P Q c2 → (∀ (a : Nat) (j : Int), ¬ ((a = 1 ∧ j = 2)) → c2 a j = c a j) → ((r8 < e1 ∧ (B r8) ≥ 48 ∧ (B r8) ≤ 57)) → (c2 1 2 = r8) → Z (.inl (some (vi 1)), Wd P Q P P c2, 0, 0)) (K1 : ∀ c2 : ME, Iv u e P Q c2 → (∀ (a : Nat) (j : Int), ¬ ((a = 1 ∧ j = 2)) → c2 a j = c a j) → ((r8 ≥ e1) ∨ ((B r8) < 48) ∨ ((B r8) > 57)) → (c2 1 2 = r8) → Z (.inl (some (vi 0)), Wd P Q P P c2, 0, 0)) : Wp sc (d + 8) 6 0 [(0, .ref 1)] [] (Wd P Q P P c) 0 0 Z := by
  have hP := iv_P hI
  have hQ := iv_Q hI
  have h_1 := ir_1_1 hI
  have h_2 := ir_1_2 hI
  have hn1 := nx_bd (b := B) (e := e1) (a := a9)
  rw [hdr8] at hn1
  have hn3 := nx_n (b := B) (e := e1) (a := a9)
  rw [hdr8] at hn3
  have h_3 : -2147483648 ≤ (B r8) ∧ (B r8) ≤ 2147483647 := by rw [← hB r8]; exact ir_2 hI r8
  refine q_aload_n c_6_0 rfl ?_
  have h_4 : -2147483648 ≤ (B a9) ∧ (B a9) ≤ 2147483647 := by rw [← hB a9]; exact ir_2 hI a9
  refine v_cv c_6_1 km_5_41 rfl rfl (Nat.le_of_ble_eq_true rfl) ⟨⟨rfl, rfl⟩, Nat.le_of_ble_eq_true rfl, rfl⟩ (Nat.le_of_ble_eq_true rfl) (Nat.le_of_ble_eq_true rfl) (f_3 (e1 := e1) (a9 := a9) (B := B) (r8 := r8) hI ((hv0)) ((hv1)) (fun j => hB j) hdr8 (fun c_5 hI_6 hF_7 hz_8 => (bk_inl (q_istore_n c_6_4 (Nat.le_of_ble_eq_true rfl) (q_iload_n c_6_5 rfl (q_aload_n c_6_6 rfl ?_))))))
  have kn_9 : Hid (c_5 1 1 = e1) := (hF_7 1 1 (fun h => absurd h.2 (ni rfl))).trans (hv0)
  refine v_gi (z := 1) (v := e1) c_6_7 kf_5_32 rfl (Nat.le_of_ble_eq_true rfl) rfl rfl (hid kn_9) ?_
  by_cases h_10 : r8 ≥ e1
  · refine v_ic_ge_t (t := 39) c_6_10 rfl ⟨by first | (clear h_2 h_3 h_4; omega) | omega, h_10, by omega⟩ (q_iconst c_6_39 (v_zret c_6_40 rfl (by decide) ?_))
    have h_11 : c_5 1 2 = r8 := (hz_8)
    exact zv (by omega) (K1 c_5 hI_6 (fun a j hm => hF_7 a j hm) (by omega) (by omega))
  · refine v_ic_ge_f (t := 39) c_6_10 rfl ⟨by first | (clear h_1 h_3 h_4; omega) | omega, (Int.not_le.mp h_10), by first | (clear h_2 h_3 h_4; omega) | omega⟩ (q_aload_n c_6_13 rfl (v_gr (t := 2) c_6_14 kf_5_9 rfl (Nat.le_of_ble_eq_true rfl) rfl (q_iload_n c_6_17 rfl ?_)))
    have kn_12 : Hid (c_5 2 r8 = (B r8)) := (hF_7 2 r8 (fun h => absurd h.1 (nn rfl))).trans (hB r8)
    refine v_ba (v := (B r8)) c_6_18 rfl (by decide) (by decide) ⟨by first | (clear h_1 h_3 h_4 h_10; omega) | omega, by first | (clear h_2 h_3 h_4; omega) | omega⟩ (hid kn_12) (v_bip c_6_19 (by decide) ?_)
    by_cases h_13 : (B r8) < 48
    · refine v_ic_lt_t (t := 39) c_6_21 rfl ⟨h_3.1, h_13, by decide⟩ (q_iconst c_6_39 (v_zret c_6_40 rfl (by decide) ?_))
      have h_14 : c_5 1 2 = r8 := (hz_8)
      exact zv (by omega) (K1 c_5 hI_6 (fun a j hm => hF_7 a j hm) (by omega) (by omega))
    · refine v_ic_lt_f (t := 39) c_6_21 rfl ⟨by decide, (Int.not_lt.mp h_13), h_3.2⟩ (q_aload_n c_6_24 rfl (v_gr (t := 2) c_6_25 kf_5_9 rfl (Nat.le_of_ble_eq_true rfl) rfl (q_iload_n c_6_28 rfl (v_ba (v := (B r8)) c_6_29 rfl (by decide) (by decide) ⟨by first | (clear h_1 h_3 h_4 h_10 h_13; omega) | omega, by first | (clear h_2 h_3 h_4 h_13; omega) | omega⟩ (hid kn_12) (v_bip c_6_30 (by decide) ?_)))))
      by_cases h_15 : (B r8) > 57
      · refine v_ic_gt_t (t := 39) c_6_32 rfl ⟨by decide, h_15, h_3.2⟩ (q_iconst c_6_39 (v_zret c_6_40 rfl (by decide) ?_))
        have h_16 : c_5 1 2 = r8 := (hz_8)
        exact zv (by omega) (K1 c_5 hI_6 (fun a j hm => hF_7 a j hm) (by omega) (by omega))
      · refine v_ic_gt_f (t := 39) c_6_32 rfl ⟨h_3.1, (Int.not_lt.mp h_15), by decide⟩ (q_iconst c_6_35 (q_goto (t := 40) c_6_36 rfl (v_zret c_6_40 rfl (by decide) ?_)))
        have h_17 : c_5 1 2 = r8 := (hz_8)
        exact zv (by omega) (K0 c_5 hI_6 (fun a j hm => hF_7 a j hm) (by omega) (by omega))

set_option maxRecDepth 100000 in
set_option maxHeartbeats 4000000 in
theorem f_4_0 {sc : List Int32} {e : Int} {d u P Q : Nat} {c : ME} {e1 a9 r8 : Int} {B : Int → Int} {Z : AR → Prop} (hI : Iv u e P Q c) (hv0 : c 1 1 = e1) (hv1 : c 1 2 = a9) (hB : ∀ j : Int, c 2 j = B j) (hdr8 : nx B e1 a9 = r8) (K0 : ∀ c2 : ME, Iv u e P Q c2 → (∀ (a : Nat) (j : Int), ¬ ((a = 1 ∧ j = 2)) → c2 a j = c a j) → ((r8 < e1 ∧ (B r8) = 40)) → (c2 1 2 = r8 + 1) → Z (.inl (some (vi 0)), Wd P Q P P c2, 0, 0)) (K1 : ∀ c2 : ME, Iv u e P Q c2 → (∀ (a : Nat) (j : Int), ¬ ((a = 1 ∧ j = 2)) → c2 a j = c a j) → ((r8 ≥ e1) ∨ ((B r8) < 40) ∨ ((B r8) > 40)) → (c2 1 2 = r8) → Z (.inl (some (vi (-1))), Wd P Q P P c2, 0, 0)) : Wp sc (d + 8) 4 0 [(0, .ref 1), (1, .ref (a_SB + 0))] [] (Wd P Q P P c) 0 0 Z := by
  have hP := iv_P hI
  have hQ := iv_Q hI
  have h_1 := ir_1_1 hI
  have h_2 := ir_1_2 hI
  have hn1 := nx_bd (b := B) (e := e1) (a := a9)
  rw [hdr8] at hn1
  have hn3 := nx_n (b := B) (e := e1) (a := a9)
  rw [hdr8] at hn3
  have h_3 : -2147483648 ≤ (B r8) ∧ (B r8) ≤ 2147483647 := by rw [← hB r8]; exact ir_2 hI r8
  refine q_aload_n c_4_0 rfl ?_
  have h_4 : -2147483648 ≤ (B a9) ∧ (B a9) ≤ 2147483647 := by rw [← hB a9]; exact ir_2 hI a9
  refine v_cv c_4_1 km_5_41 rfl rfl (Nat.le_of_ble_eq_true rfl) ⟨⟨rfl, rfl⟩, Nat.le_of_ble_eq_true rfl, rfl⟩ (Nat.le_of_ble_eq_true rfl) (Nat.le_of_ble_eq_true rfl) (f_3 (e1 := e1) (a9 := a9) (B := B) (r8 := r8) hI ((hv0)) ((hv1)) (fun j => hB j) hdr8 (fun c_5 hI_6 hF_7 hz_8 => (bk_inl (q_istore_n c_4_4 (Nat.le_of_ble_eq_true rfl) (q_iconst c_4_5 (q_istore_n c_4_6 (Nat.le_of_ble_eq_true rfl) (q_iload_n c_4_7 rfl (q_aload_n c_4_8 rfl (v_sln 1 c_4_9 rfl (by omega) (Nat.le_of_ble_eq_true rfl) (by decide) (by decide) ?_)))))))))
  refine v_ic_ge_f (t := 55) c_4_12 rfl (by decide) (q_iload_n c_4_15 rfl (q_aload_n c_4_16 rfl ?_))
  have kn_9 : Hid (c_5 1 1 = e1) := (hF_7 1 1 (fun h => absurd h.2 (ni rfl))).trans (hv0)
  refine v_gi (z := 1) (v := e1) c_4_17 kf_5_32 rfl (Nat.le_of_ble_eq_true rfl) rfl rfl (hid kn_9) ?_
  by_cases h_10 : r8 ≥ e1
  · refine v_ic_ge_t (t := 55) c_4_20 rfl ⟨by first | (clear h_2 h_3 h_4; omega) | omega, h_10, by omega⟩ (q_iconst c_4_55 (q_iret c_4_56 rfl ?_))
    have h_11 : c_5 1 2 = r8 := (hz_8)
    exact zv (by omega) (K1 c_5 hI_6 (fun a j hm => hF_7 a j hm) (by omega) (by omega))
  · refine v_ic_ge_f (t := 55) c_4_20 rfl ⟨by first | (clear h_1 h_3 h_4; omega) | omega, (Int.not_le.mp h_10), by first | (clear h_2 h_3 h_4; omega) | omega⟩ (q_aload_n c_4_23 rfl (v_gr (t := 2) c_4_24 kf_5_9 rfl (Nat.le_of_ble_eq_true rfl) rfl (q_iload_n c_4_27 rfl ?_)))
    have kn_12 : Hid (c_5 2 r8 = (B r8)) := (hF_7 2 r8 (fun h => absurd h.1 (nn rfl))).trans (hB r8)
    refine v_ba (v := (B r8)) c_4_28 rfl (by decide) (by decide) ⟨by first | (clear h_1 h_3 h_4 h_10; omega) | omega, by first | (clear h_2 h_3 h_4; omega) | omega⟩ (hid kn_12) (q_aload_n c_4_29 rfl (q_iload_n c_4_30 rfl (v_sch 40 c_4_31 rfl (by omega) (Nat.le_of_ble_eq_true rfl) (by decide) (by decide) (by decide) ?_)))
    by_cases h_13 : (B r8) ≠ 40
    · refine v_ic_ne_t (t := 49) c_4_34 rfl ⟨h_13, ⟨h_3.1, h_3.2⟩, by decide, by decide⟩ (v_iinc (v := 1) c_4_49 rfl (Nat.le_of_ble_eq_true rfl) (by decide) (q_goto (t := 7) c_4_52 rfl (q_iload_n c_4_7 rfl (q_aload_n c_4_8 rfl (v_sln 1 c_4_9 rfl (by omega) (Nat.le_of_ble_eq_true rfl) (by decide) (by decide) (v_ic_ge_t (t := 55) c_4_12 rfl (by decide) (q_iconst c_4_55 ?_)))))))
      refine q_iret c_4_56 rfl ?_
      have h_14 : c_5 1 2 = r8 := (hz_8)
      exact zv (by omega) (K1 c_5 hI_6 (fun a j hm => hF_7 a j hm) (by omega) (by omega))
    · refine v_ic_ne_f (t := 49) c_4_34 rfl (Decidable.not_not.mp h_13) (q_aload_n c_4_37 rfl (q_dup c_4_38 rfl (v_gi (z := 2) (v := r8) c_4_39 kf_5_35 rfl (Nat.le_of_ble_eq_true rfl) rfl rfl (hz_8) (q_iconst c_4_42 (v_iadd (v := r8 + 1) c_4_43 rfl (v_pi (z := 2) c_4_44 kf_5_35 rfl (Nat.le_of_ble_eq_true rfl) rfl rfl rfl (by decide) (q_iload_n c_4_47 rfl ?_)))))))
      refine q_iret c_4_48 rfl ?_
      have hI_15 := iw_1_2 (v := r8 + 1) hI_6 ⟨by first | (clear h_1 h_3 h_4 h_10 h_13; omega) | omega, by first | (clear h_2 h_3 h_4 h_13; omega) | omega⟩
      have h_16 : (up c_5 1 2 (r8 + 1)) 1 2 = r8 + 1 := (up_e rfl)
      exact zv (by omega) (K0 (up c_5 1 2 (r8 + 1)) hI_15 (fun a j hm => (up_b (Decidable.or_iff_not_imp_left.mpr (fun h1 h2 => hm ⟨Decidable.not_not.mp h1, h2⟩))).trans (hF_7 a j hm)) (by omega) (by omega))

set_option maxRecDepth 100000 in
set_option maxHeartbeats 4000000 in
theorem f_4_6 {sc : List Int32} {e : Int} {d u P Q : Nat} {c : ME} {e1 a9 r8 : Int} {B : Int → Int} {Z : AR → Prop} (hI : Iv u e P Q c) (hv0 : c 1 1 = e1) (hv1 : c 1 2 = a9) (hB : ∀ j : Int, c 2 j = B j) (hdr8 : nx B e1 a9 = r8) (K0 : ∀ c2 : ME, Iv u e P Q c2 → (∀ (a : Nat) (j : Int), ¬ ((a = 1 ∧ j = 2)) → c2 a j = c a j) → ((r8 < e1 ∧ (B r8) = 42)) → (c2 1 2 = r8 + 1) → Z (.inl (some (vi 0)), Wd P Q P P c2, 0, 0)) (K1 : ∀ c2 : ME, Iv u e P Q c2 → (∀ (a : Nat) (j : Int), ¬ ((a = 1 ∧ j = 2)) → c2 a j = c a j) → ((r8 < e1 ∧ (B r8) = 47)) → (c2 1 2 = r8 + 1) → Z (.inl (some (vi 1)), Wd P Q P P c2, 0, 0)) (K2 : ∀ c2 : ME, Iv u e P Q c2 → (∀ (a : Nat) (j : Int), ¬ ((a = 1 ∧ j = 2)) → c2 a j = c a j) → ((r8 < e1 ∧ (B r8) = 37)) → (c2 1 2 = r8 + 1) → Z (.inl (some (vi 2)), Wd P Q P P c2, 0, 0)) (K3 : ∀ c2 : ME, Iv u e P Q c2 → (∀ (a : Nat) (j : Int), ¬ ((a = 1 ∧ j = 2)) → c2 a j = c a j) → ((r8 ≥ e1) ∨ ((B r8) < 37) ∨ ((B r8) > 47) ∨ ((B r8) > 37 ∧ (B r8) < 42) ∨ ((B r8) > 42 ∧ (B r8) < 47)) → (c2 1 2 = r8) → Z (.inl (some (vi (-1))), Wd P Q P P c2, 0, 0)) : Wp sc (d + 8) 4 0 [(0, .ref 1), (1, .ref (a_SB + 6))] [] (Wd P Q P P c) 0 0 Z := by
  have hP := iv_P hI
  have hQ := iv_Q hI
  have h_1 := ir_1_1 hI
  have h_2 := ir_1_2 hI
  have hn1 := nx_bd (b := B) (e := e1) (a := a9)
  rw [hdr8] at hn1
  have hn3 := nx_n (b := B) (e := e1) (a := a9)
  rw [hdr8] at hn3
  have h_3 : -2147483648 ≤ (B r8) ∧ (B r8) ≤ 2147483647 := by rw [← hB r8]; exact ir_2 hI r8
  refine q_aload_n c_4_0 rfl ?_
  have h_4 : -2147483648 ≤ (B a9) ∧ (B a9) ≤ 2147483647 := by rw [← hB a9]; exact ir_2 hI a9
  refine v_cv c_4_1 km_5_41 rfl rfl (Nat.le_of_ble_eq_true rfl) ⟨⟨rfl, rfl⟩, Nat.le_of_ble_eq_true rfl, rfl⟩ (Nat.le_of_ble_eq_true rfl) (Nat.le_of_ble_eq_true rfl) (f_3 (e1 := e1) (a9 := a9) (B := B) (r8 := r8) hI ((hv0)) ((hv1)) (fun j => hB j) hdr8 (fun c_5 hI_6 hF_7 hz_8 => (bk_inl (q_istore_n c_4_4 (Nat.le_of_ble_eq_true rfl) (q_iconst c_4_5 (q_istore_n c_4_6 (Nat.le_of_ble_eq_true rfl) (q_iload_n c_4_7 rfl (q_aload_n c_4_8 rfl (v_sln 3 c_4_9 rfl (by omega) (Nat.le_of_ble_eq_true rfl) (by decide) (by decide) ?_)))))))))
  refine v_ic_ge_f (t := 55) c_4_12 rfl (by decide) (q_iload_n c_4_15 rfl (q_aload_n c_4_16 rfl ?_))
  have kn_9 : Hid (c_5 1 1 = e1) := (hF_7 1 1 (fun h => absurd h.2 (ni rfl))).trans (hv0)
  refine v_gi (z := 1) (v := e1) c_4_17 kf_5_32 rfl (Nat.le_of_ble_eq_true rfl) rfl rfl (hid kn_9) ?_
  by_cases h_10 : r8 ≥ e1
  · refine v_ic_ge_t (t := 55) c_4_20 rfl ⟨by first | (clear h_2 h_3 h_4; omega) | omega, h_10, by omega⟩ (q_iconst c_4_55 (q_iret c_4_56 rfl ?_))
    have h_11 : c_5 1 2 = r8 := (hz_8)
    exact zv (by omega) (K3 c_5 hI_6 (fun a j hm => hF_7 a j hm) (by omega) (by omega))
  · refine v_ic_ge_f (t := 55) c_4_20 rfl ⟨by first | (clear h_1 h_3 h_4; omega) | omega, (Int.not_le.mp h_10), by first | (clear h_2 h_3 h_4; omega) | omega⟩ (q_aload_n c_4_23 rfl (v_gr (t := 2) c_4_24 kf_5_9 rfl (Nat.le_of_ble_eq_true rfl) rfl (q_iload_n c_4_27 rfl ?_)))
    have kn_12 : Hid (c_5 2 r8 = (B r8)) := (hF_7 2 r8 (fun h => absurd h.1 (nn rfl))).trans (hB r8)
    refine v_ba (v := (B r8)) c_4_28 rfl (by decide) (by decide) ⟨by first | (clear h_1 h_3 h_4 h_10; omega) | omega, by first | (clear h_2 h_3 h_4; omega) | omega⟩ (hid kn_12) (q_aload_n c_4_29 rfl (q_iload_n c_4_30 rfl (v_sch 42 c_4_31 rfl (by omega) (Nat.le_of_ble_eq_true rfl) (by decide) (by decide) (by decide) ?_)))
    by_cases h_13 : (B r8) ≠ 42
    · refine v_ic_ne_t (t := 49) c_4_34 rfl ⟨h_13, ⟨h_3.1, h_3.2⟩, by decide, by decide⟩ (v_iinc (v := 1) c_4_49 rfl (Nat.le_of_ble_eq_true rfl) (by decide) (q_goto (t := 7) c_4_52 rfl (q_iload_n c_4_7 rfl (q_aload_n c_4_8 rfl (v_sln 3 c_4_9 rfl (by omega) (Nat.le_of_ble_eq_true rfl) (by decide) (by decide) (v_ic_ge_f (t := 55) c_4_12 rfl (by decide) (q_iload_n c_4_15 rfl ?_)))))))
      refine q_aload_n c_4_16 rfl (v_gi (z := 1) (v := e1) c_4_17 kf_5_32 rfl (Nat.le_of_ble_eq_true rfl) rfl rfl (hid kn_9) (v_ic_ge_f (t := 55) c_4_20 rfl ⟨by first | (clear h_1 h_3 h_4 h_10 h_13; omega) | omega, by first | exact q_d17d18138 h_10 | (clear h_1 h_2 h_3 h_4 h_13; omega) | omega, by first | (clear h_2 h_3 h_4 h_10 h_13; omega) | omega⟩ (q_aload_n c_4_23 rfl (v_gr (t := 2) c_4_24 kf_5_9 rfl (Nat.le_of_ble_eq_true rfl) rfl (q_iload_n c_4_27 rfl (v_ba (v := (B r8)) c_4_28 rfl (by decide) (by decide) ⟨by first | (clear h_1 h_3 h_4 h_10 h_13; omega) | omega, by first | (clear h_2 h_3 h_4 h_13; omega) | omega⟩ (hid kn_12) (q_aload_n c_4_29 rfl ?_)))))))
      refine q_iload_n c_4_30 rfl (v_sch 47 c_4_31 rfl (by omega) (Nat.le_of_ble_eq_true rfl) (by decide) (by decide) (by decide) ?_)
      by_cases h_14 : (B r8) ≠ 47
      · refine v_ic_ne_t (t := 49) c_4_34 rfl ⟨h_14, ⟨h_3.1, h_3.2⟩, by decide, by decide⟩ (v_iinc (v := 2) c_4_49 rfl (Nat.le_of_ble_eq_true rfl) (by decide) (q_goto (t := 7) c_4_52 rfl (q_iload_n c_4_7 rfl (q_aload_n c_4_8 rfl (v_sln 3 c_4_9 rfl (by omega) (Nat.le_of_ble_eq_true rfl) (by decide) (by decide) (v_ic_ge_f (t := 55) c_4_12 rfl (by decide) (q_iload_n c_4_15 rfl ?_)))))))
        refine q_aload_n c_4_16 rfl (v_gi (z := 1) (v := e1) c_4_17 kf_5_32 rfl (Nat.le_of_ble_eq_true rfl) rfl rfl (hid kn_9) (v_ic_ge_f (t := 55) c_4_20 rfl ⟨by first | (clear h_1 h_3 h_4 h_10 h_13 h_14; omega) | omega, by first | exact q_d17d18138 h_10 | (clear h_1 h_2 h_3 h_4 h_13 h_14; omega) | omega, by first | (clear h_2 h_3 h_4 h_10 h_13 h_14; omega) | omega⟩ (q_aload_n c_4_23 rfl (v_gr (t := 2) c_4_24 kf_5_9 rfl (Nat.le_of_ble_eq_true rfl) rfl (q_iload_n c_4_27 rfl (v_ba (v := (B r8)) c_4_28 rfl (by decide) (by decide) ⟨by first | (clear h_1 h_3 h_4 h_10 h_13 h_14; omega) | omega, by first | (clear h_2 h_3 h_4 h_13 h_14; omega) | omega⟩ (hid kn_12) (q_aload_n c_4_29 rfl ?_)))))))
        refine q_iload_n c_4_30 rfl (v_sch 37 c_4_31 rfl (by omega) (Nat.le_of_ble_eq_true rfl) (by decide) (by decide) (by decide) ?_)
        by_cases h_15 : (B r8) ≠ 37
        · refine v_ic_ne_t (t := 49) c_4_34 rfl ⟨h_15, ⟨h_3.1, h_3.2⟩, by decide, by decide⟩ (v_iinc (v := 3) c_4_49 rfl (Nat.le_of_ble_eq_true rfl) (by decide) (Wp_ls [(3, vi 3), (2, vi r8), (0, .ref 1), (1, .ref (a_SB + 6))] (lsub_cons rfl (lsub_cons rfl (lsub_cons rfl (lsub_cons rfl lsub_nil)))) (q_goto (t := 7) c_4_52 rfl (q_iload_n c_4_7 rfl (q_aload_n c_4_8 rfl (v_sln 3 c_4_9 rfl (by omega) (Nat.le_of_ble_eq_true rfl) (by decide) (by decide) (v_ic_ge_t (t := 55) c_4_12 rfl (by decide) ?_)))))))
          refine q_iconst c_4_55 (q_iret c_4_56 rfl ?_)
          have h_16 : c_5 1 2 = r8 := (hz_8)
          exact zv (by omega) (K3 c_5 hI_6 (fun a j hm => hF_7 a j hm) (by omega) (by omega))
        · refine v_ic_ne_f (t := 49) c_4_34 rfl (Decidable.not_not.mp h_15) (q_aload_n c_4_37 rfl (q_dup c_4_38 rfl (v_gi (z := 2) (v := r8) c_4_39 kf_5_35 rfl (Nat.le_of_ble_eq_true rfl) rfl rfl (hz_8) (q_iconst c_4_42 (v_iadd (v := r8 + 1) c_4_43 rfl (v_pi (z := 2) c_4_44 kf_5_35 rfl (Nat.le_of_ble_eq_true rfl) rfl rfl rfl (by decide) (q_iload_n c_4_47 rfl ?_)))))))
          refine q_iret c_4_48 rfl ?_
          have hI_17 := iw_1_2 (v := r8 + 1) hI_6 ⟨by first | (clear h_1 h_3 h_4 h_10 h_15 h_13 h_14; omega) | omega, by first | (clear h_2 h_3 h_4 h_15 h_13 h_14; omega) | omega⟩
          have h_18 : (up c_5 1 2 (r8 + 1)) 1 2 = r8 + 1 := (up_e rfl)
          exact zv (by omega) (K2 (up c_5 1 2 (r8 + 1)) hI_17 (fun a j hm => (up_b (Decidable.or_iff_not_imp_left.mpr (fun h1 h2 => hm ⟨Decidable.not_not.mp h1, h2⟩))).trans (hF_7 a j hm)) (by omega) (by omega))
      · refine v_ic_ne_f (t := 49) c_4_34 rfl (Decidable.not_not.mp h_14) (q_aload_n c_4_37 rfl (q_dup c_4_38 rfl (v_gi (z := 2) (v := r8) c_4_39 kf_5_35 rfl (Nat.le_of_ble_eq_true rfl) rfl rfl (hz_8) (q_iconst c_4_42 (v_iadd (v := r8 + 1) c_4_43 rfl (v_pi (z := 2) c_4_44 kf_5_35 rfl (Nat.le_of_ble_eq_true rfl) rfl rfl rfl (by decide) (q_iload_n c_4_47 rfl ?_)))))))
        refine q_iret c_4_48 rfl ?_
        have hI_19 := iw_1_2 (v := r8 + 1) hI_6 ⟨by first | (clear h_1 h_3 h_4 h_10 h_14 h_13; omega) | omega, by first | (clear h_2 h_3 h_4 h_14 h_13; omega) | omega⟩
        have h_20 : (up c_5 1 2 (r8 + 1)) 1 2 = r8 + 1 := (up_e rfl)
        exact zv (by omega) (K1 (up c_5 1 2 (r8 + 1)) hI_19 (fun a j hm => (up_b (Decidable.or_iff_not_imp_left.mpr (fun h1 h2 => hm ⟨Decidable.not_not.mp h1, h2⟩))).trans (hF_7 a j hm)) (by omega) (by omega))
    · refine v_ic_ne_f (t := 49) c_4_34 rfl (Decidable.not_not.mp h_13) (q_aload_n c_4_37 rfl (q_dup c_4_38 rfl (v_gi (z := 2) (v := r8) c_4_39 kf_5_35 rfl (Nat.le_of_ble_eq_true rfl) rfl rfl (hz_8) (q_iconst c_4_42 (v_iadd (v := r8 + 1) c_4_43 rfl (v_pi (z := 2) c_4_44 kf_5_35 rfl (Nat.le_of_ble_eq_true rfl) rfl rfl rfl (by decide) (q_iload_n c_4_47 rfl ?_)))))))
      refine q_iret c_4_48 rfl ?_
      have hI_21 := iw_1_2 (v := r8 + 1) hI_6 ⟨by first | (clear h_1 h_3 h_4 h_10 h_13; omega) | omega, by first | (clear h_2 h_3 h_4 h_13; omega) | omega⟩
      have h_22 : (up c_5 1 2 (r8 + 1)) 1 2 = r8 + 1 := (up_e rfl)
      exact zv (by omega) (K0 (up c_5 1 2 (r8 + 1)) hI_21 (fun a j hm => (up_b (Decidable.or_iff_not_imp_left.mpr (fun h1 h2 => hm ⟨Decidable.not_not.mp h1, h2⟩))).trans (hF_7 a j hm)) (by omega) (by omega))

set_option maxRecDepth 100000 in
set_option maxHeartbeats 4000000 in
theorem f_4_7 {sc : List Int32} {e : Int} {d u P Q : Nat} {c : ME} {e1 a9 r8 : Int} {B : Int → Int} {Z : AR → Prop} (hI : Iv u e P Q c) (hv0 : c 1 1 = e1) (hv1 : c 1 2 = a9) (hB : ∀ j : Int, c 2 j = B j) (hdr8 : nx B e1 a9 = r8) (K0 : ∀ c2 : ME, Iv u e P Q c2 → (∀ (a : Nat) (j : Int), ¬ ((a = 1 ∧ j = 2)) → c2 a j = c a j) → ((r8 < e1 ∧ (B r8) = 43)) → (c2 1 2 = r8 + 1) → Z (.inl (some (vi 0)), Wd P Q P P c2, 0, 0)) (K1 : ∀ c2 : ME, Iv u e P Q c2 → (∀ (a : Nat) (j : Int), ¬ ((a = 1 ∧ j = 2)) → c2 a j = c a j) → ((r8 < e1 ∧ (B r8) = 45)) → (c2 1 2 = r8 + 1) → Z (.inl (some (vi 1)), Wd P Q P P c2, 0, 0)) (K2 : ∀ c2 : ME, Iv u e P Q c2 → (∀ (a : Nat) (j : Int), ¬ ((a = 1 ∧ j = 2)) → c2 a j = c a j) → ((r8 ≥ e1) ∨ ((B r8) < 43) ∨ ((B r8) > 45) ∨ ((B r8) > 43 ∧ (B r8) < 45)) → (c2 1 2 = r8) → Z (.inl (some (vi (-1))), Wd P Q P P c2, 0, 0)) : Wp sc (d + 8) 4 0 [(0, .ref 1), (1, .ref (a_SB + 7))] [] (Wd P Q P P c) 0 0 Z := by
  have hP := iv_P hI
  have hQ := iv_Q hI
  have h_1 := ir_1_1 hI
  have h_2 := ir_1_2 hI
  have hn1 := nx_bd (b := B) (e := e1) (a := a9)
  rw [hdr8] at hn1
  have hn3 := nx_n (b := B) (e := e1) (a := a9)
  rw [hdr8] at hn3
  have h_3 : -2147483648 ≤ (B r8) ∧ (B r8) ≤ 2147483647 := by rw [← hB r8]; exact ir_2 hI r8
  refine q_aload_n c_4_0 rfl ?_
  have h_4 : -2147483648 ≤ (B a9) ∧ (B a9) ≤ 2147483647 := by rw [← hB a9]; exact ir_2 hI a9
  refine v_cv c_4_1 km_5_41 rfl rfl (Nat.le_of_ble_eq_true rfl) ⟨⟨rfl, rfl⟩, Nat.le_of_ble_eq_true rfl, rfl⟩ (Nat.le_of_ble_eq_true rfl) (Nat.le_of_ble_eq_true rfl) (f_3 (e1 := e1) (a9 := a9) (B := B) (r8 := r8) hI ((hv0)) ((hv1)) (fun j => hB j) hdr8 (fun c_5 hI_6 hF_7 hz_8 => (bk_inl (q_istore_n c_4_4 (Nat.le_of_ble_eq_true rfl) (q_iconst c_4_5 (q_istore_n c_4_6 (Nat.le_of_ble_eq_true rfl) (q_iload_n c_4_7 rfl (q_aload_n c_4_8 rfl (v_sln 2 c_4_9 rfl (by omega) (Nat.le_of_ble_eq_true rfl) (by decide) (by decide) ?_)))))))))
  refine v_ic_ge_f (t := 55) c_4_12 rfl (by decide) (q_iload_n c_4_15 rfl (q_aload_n c_4_16 rfl ?_))
  have kn_9 : Hid (c_5 1 1 = e1) := (hF_7 1 1 (fun h => absurd h.2 (ni rfl))).trans (hv0)
  refine v_gi (z := 1) (v := e1) c_4_17 kf_5_32 rfl (Nat.le_of_ble_eq_true rfl) rfl rfl (hid kn_9) ?_
  by_cases h_10 : r8 ≥ e1
  · refine v_ic_ge_t (t := 55) c_4_20 rfl ⟨by first | (clear h_2 h_3 h_4; omega) | omega, h_10, by omega⟩ (q_iconst c_4_55 (q_iret c_4_56 rfl ?_))
    have h_11 : c_5 1 2 = r8 := (hz_8)
    exact zv (by omega) (K2 c_5 hI_6 (fun a j hm => hF_7 a j hm) (by omega) (by omega))
  · refine v_ic_ge_f (t := 55) c_4_20 rfl ⟨by first | (clear h_1 h_3 h_4; omega) | omega, (Int.not_le.mp h_10), by first | (clear h_2 h_3 h_4; omega) | omega⟩ (q_aload_n c_4_23 rfl (v_gr (t := 2) c_4_24 kf_5_9 rfl (Nat.le_of_ble_eq_true rfl) rfl (q_iload_n c_4_27 rfl ?_)))
    have kn_12 : Hid (c_5 2 r8 = (B r8)) := (hF_7 2 r8 (fun h => absurd h.1 (nn rfl))).trans (hB r8)
    refine v_ba (v := (B r8)) c_4_28 rfl (by decide) (by decide) ⟨by first | (clear h_1 h_3 h_4 h_10; omega) | omega, by first | (clear h_2 h_3 h_4; omega) | omega⟩ (hid kn_12) (q_aload_n c_4_29 rfl (q_iload_n c_4_30 rfl (v_sch 43 c_4_31 rfl (by omega) (Nat.le_of_ble_eq_true rfl) (by decide) (by decide) (by decide) ?_)))
    by_cases h_13 : (B r8) ≠ 43
    · refine v_ic_ne_t (t := 49) c_4_34 rfl ⟨h_13, ⟨h_3.1, h_3.2⟩, by decide, by decide⟩ (v_iinc (v := 1) c_4_49 rfl (Nat.le_of_ble_eq_true rfl) (by decide) (q_goto (t := 7) c_4_52 rfl (q_iload_n c_4_7 rfl (q_aload_n c_4_8 rfl (v_sln 2 c_4_9 rfl (by omega) (Nat.le_of_ble_eq_true rfl) (by decide) (by decide) (v_ic_ge_f (t := 55) c_4_12 rfl (by decide) (q_iload_n c_4_15 rfl ?_)))))))
      refine q_aload_n c_4_16 rfl (v_gi (z := 1) (v := e1) c_4_17 kf_5_32 rfl (Nat.le_of_ble_eq_true rfl) rfl rfl (hid kn_9) (v_ic_ge_f (t := 55) c_4_20 rfl ⟨by first | (clear h_1 h_3 h_4 h_10 h_13; omega) | omega, by first | exact q_d17d18138 h_10 | (clear h_1 h_2 h_3 h_4 h_13; omega) | omega, by first | (clear h_2 h_3 h_4 h_10 h_13; omega) | omega⟩ (q_aload_n c_4_23 rfl (v_gr (t := 2) c_4_24 kf_5_9 rfl (Nat.le_of_ble_eq_true rfl) rfl (q_iload_n c_4_27 rfl (v_ba (v := (B r8)) c_4_28 rfl (by decide) (by decide) ⟨by first | (clear h_1 h_3 h_4 h_10 h_13; omega) | omega, by first | (clear h_2 h_3 h_4 h_13; omega) | omega⟩ (hid kn_12) (q_aload_n c_4_29 rfl ?_)))))))
      refine q_iload_n c_4_30 rfl (v_sch 45 c_4_31 rfl (by omega) (Nat.le_of_ble_eq_true rfl) (by decide) (by decide) (by decide) ?_)
      by_cases h_14 : (B r8) ≠ 45
      · refine v_ic_ne_t (t := 49) c_4_34 rfl ⟨h_14, ⟨h_3.1, h_3.2⟩, by decide, by decide⟩ (v_iinc (v := 2) c_4_49 rfl (Nat.le_of_ble_eq_true rfl) (by decide) (q_goto (t := 7) c_4_52 rfl (q_iload_n c_4_7 rfl (q_aload_n c_4_8 rfl (v_sln 2 c_4_9 rfl (by omega) (Nat.le_of_ble_eq_true rfl) (by decide) (by decide) (v_ic_ge_t (t := 55) c_4_12 rfl (by decide) (q_iconst c_4_55 ?_)))))))
        refine q_iret c_4_56 rfl ?_
        have h_15 : c_5 1 2 = r8 := (hz_8)
        exact zv (by omega) (K2 c_5 hI_6 (fun a j hm => hF_7 a j hm) (by omega) (by omega))
      · refine v_ic_ne_f (t := 49) c_4_34 rfl (Decidable.not_not.mp h_14) (q_aload_n c_4_37 rfl (q_dup c_4_38 rfl (v_gi (z := 2) (v := r8) c_4_39 kf_5_35 rfl (Nat.le_of_ble_eq_true rfl) rfl rfl (hz_8) (q_iconst c_4_42 (v_iadd (v := r8 + 1) c_4_43 rfl (v_pi (z := 2) c_4_44 kf_5_35 rfl (Nat.le_of_ble_eq_true rfl) rfl rfl rfl (by decide) (q_iload_n c_4_47 rfl ?_)))))))
        refine q_iret c_4_48 rfl ?_
        have hI_16 := iw_1_2 (v := r8 + 1) hI_6 ⟨by first | (clear h_1 h_3 h_4 h_10 h_14 h_13; omega) | omega, by first | (clear h_2 h_3 h_4 h_14 h_13; omega) | omega⟩
        have h_17 : (up c_5 1 2 (r8 + 1)) 1 2 = r8 + 1 := (up_e rfl)
        exact zv (by omega) (K1 (up c_5 1 2 (r8 + 1)) hI_16 (fun a j hm => (up_b (Decidable.or_iff_not_imp_left.mpr (fun h1 h2 => hm ⟨Decidable.not_not.mp h1, h2⟩))).trans (hF_7 a j hm)) (by omega) (by omega))
    · refine v_ic_ne_f (t := 49) c_4_34 rfl (Decidable.not_not.mp h_13) (q_aload_n c_4_37 rfl (q_dup c_4_38 rfl (v_gi (z := 2) (v := r8) c_4_39 kf_5_35 rfl (Nat.le_of_ble_eq_true rfl) rfl rfl (hz_8) (q_iconst c_4_42 (v_iadd (v := r8 + 1) c_4_43 rfl (v_pi (z := 2) c_4_44 kf_5_35 rfl (Nat.le_of_ble_eq_true rfl) rfl rfl rfl (by decide) (q_iload_n c_4_47 rfl ?_)))))))
      refine q_iret c_4_48 rfl ?_
      have hI_18 := iw_1_2 (v := r8 + 1) hI_6 ⟨by first | (clear h_1 h_3 h_4 h_10 h_13; omega) | omega, by first | (clear h_2 h_3 h_4 h_13; omega) | omega⟩
      have h_19 : (up c_5 1 2 (r8 + 1)) 1 2 = r8 + 1 := (up_e rfl)
      exact zv (by omega) (K0 (up c_5 1 2 (r8 + 1)) hI_18 (fun a j hm => (up_b (Decidable.or_iff_not_imp_left.mpr (fun h1 h2 => hm ⟨Decidable.not_not.mp h1, h2⟩))).trans (hF_7 a j hm)) (by omega) (by omega))

set_option maxRecDepth 100000 in
set_option maxHeartbeats 4000000 in
theorem f_156 {sc : List Int32} {e : Int} {d u P Q : Nat} {c : ME} {a0 : Int} {Z : AR → Prop} (hI : Iv u e P Q c) (ha0 : (-2147483648) ≤ a0 ∧ a0 ≤ 2147483647) (K : ∀ (y : Int), 0 ≤ y ∧ y ≤ 1 → ((y = 1 ∧ a0 ≥ 48 ∧ a0 ≤ 57) ∨ (y = 0 ∧ a0 < 48) ∨ (y = 0 ∧ a0 > 57)) → Z (.inl (some (vi y)), Wd P Q P P c, 0, 0)) : Wp sc (d + 7) 156 0 [(0, vi a0)] [] (Wd P Q P P c) 0 0 Z := by
  have hP := iv_P hI
  have hQ := iv_Q hI
  refine q_iload_n c_156_0 rfl (v_bip c_156_1 (by decide) ?_)
  by_cases h_1 : a0 < 48
  · refine v_ic_lt_t (t := 16) c_156_3 rfl ⟨ha0.1, h_1, by decide⟩ (q_iconst c_156_16 (v_zret c_156_17 rfl (by decide) ?_))
    exact K 0 ⟨by decide, by decide⟩ (Or.inr (Or.inl ⟨by first | decide | omega, by first | exact q_bf023cfbf h_1 | omega⟩))
  · refine v_ic_lt_f (t := 16) c_156_3 rfl ⟨by decide, (Int.not_lt.mp h_1), ha0.2⟩ (q_iload_n c_156_6 rfl (v_bip c_156_7 (by decide) ?_))
    by_cases h_2 : a0 > 57
    · refine v_ic_gt_t (t := 16) c_156_9 rfl ⟨by decide, h_2, ha0.2⟩ (q_iconst c_156_16 (v_zret c_156_17 rfl (by decide) ?_))
      exact K 0 ⟨by decide, by decide⟩ (Or.inr (Or.inr ⟨by first | decide | omega, by first | exact q_a721ec4f4 h_2 | omega⟩))
    · refine v_ic_gt_f (t := 16) c_156_9 rfl ⟨ha0.1, (Int.not_lt.mp h_2), by decide⟩ (q_iconst c_156_12 (q_goto (t := 17) c_156_13 rfl (v_zret c_156_17 rfl (by decide) ?_)))
      exact K 1 ⟨by decide, by decide⟩ (Or.inl ⟨by first | decide | omega, by first | exact q_cf7de2a6a h_1 | omega, by first | exact q_ffc24702f h_2 | omega⟩)
