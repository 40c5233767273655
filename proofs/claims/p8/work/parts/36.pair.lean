/-! ===== class and reference side by side 1 ===== -/
theorem q_8782a124a {x0 x1 : Int} (f0 : (x0 = 0 ∧ x1 = 0)) (f1 : 0 ≤ x0 ∧ x0 ≤ 16) : x0 = 0 := by omega
theorem q_a17c21964 {x0 x1 : Int} (f0 : (x0 = 0 ∧ x1 = 0)) (f1 : 0 ≤ x1 ∧ x1 ≤ 3) : x1 = 0 := by omega
theorem q_19b331c4f {x0 x1 x2 : Int} (f0 : 0 ≤ x0 ∧ x0 ≤ 600) (f1 : 0 ≤ x1 ∧ x1 ≤ 600) (f2 : x1 ≤ x2 ∧ (x2 ≤ x0 ∨ x2 = x1)) : x2 ≤ 2147483647 := by omega
theorem q_592765181 {x0 : Int} (f0 : (x0 ≠ 0)) : ¬ x0 = 0 := by omega
theorem q_d3451e228 {x0 x1 x2 : Int} (f0 : 0 ≤ x0 ∧ x0 ≤ 600) (f1 : x0 ≤ x1 ∧ (x1 ≤ x2 ∨ x1 = x0)) : (-2147483648) ≤ x1 := by omega
theorem q_c1bbacda5 {x0 x1 x2 : Int} (f0 : 0 ≤ x0 ∧ x0 ≤ 600) (f1 : x0 ≤ x1 ∧ (x1 ≤ x2 ∨ x1 = x0)) : 0 ≤ x1 := by omega
theorem q_9c91a4797 {x0 x1 : Int} (f0 : ¬ (x0 ≥ x1)) (f1 : 0 ≤ x1 ∧ x1 ≤ 600) : x0 < 600 := by omega
theorem q_fb168580b {x0 x1 x2 : Int} (f0 : ¬ (x0 ≥ x1)) (f1 : x1 ≤ x0 ∨ ¬ x2 = 32) : ¬ x2 = 32 := by omega
theorem q_2cb6e230c {x0 x1 x2 : Int} (f0 : 0 ≤ x0 ∧ x0 ≤ 600) (f1 : x0 ≤ x1 ∧ (x1 ≤ x2 ∨ x1 = x0)) : 0 ≤ x1 + 1 := by omega
theorem q_7e08520b9 {x0 x1 : Int} (f0 : ¬ (x0 ≥ x1)) (f1 : 0 ≤ x1 ∧ x1 ≤ 600) : x0 + 1 ≤ 600 := by omega
theorem q_59f47542e {x0 : Int} (f0 : x0 > 57) : ¬ x0 = 32 := by omega
theorem q_c2ef65346 {x0 : Int} (f0 : x0 > 57) : ¬ x0 = 40 := by omega
theorem q_b2d47498f {x0 : Int} (f0 : ¬ (x0 < 48)) : ¬ x0 = 32 := by omega
theorem q_963b07f31 {x0 : Int} (f0 : 0 ≤ x0 ∧ x0 ≤ 150) : 0 ≤ x0 + 1 := by omega
theorem q_a3bce4abb {x0 x1 x2 x3 : Int} (f0 : 0 ≤ x0 ∧ x0 ≤ 600) (f1 : x1 ≤ x2 ∧ (x2 ≤ x3 ∨ x2 = x1)) (f2 : x0 = x1) : (-2147483648) ≤ x2 := by omega
theorem q_b3bd846dd {x0 x1 x2 x3 x4 : Int} (f0 : 0 ≤ x0 ∧ x0 ≤ 600) (f1 : 0 ≤ x1 ∧ x1 ≤ 600) (f2 : x2 ≤ x3 ∧ (x3 ≤ x4 ∨ x3 = x2)) (f3 : x1 = x2) (f4 : x0 = x4) : x3 ≤ 2147483647 := by omega
theorem q_5935f82f1 {x0 : Int} (f0 : x0 = 1) : 1 ≤ x0 := by omega
theorem q_a060fbdd4 {x0 x1 x2 : Int} (f0 : 0 ≤ x0 ∧ x0 ≤ 600) (f1 : x0 = x1) (f2 : x2 = x1) : 0 ≤ x2 := by omega
theorem q_e2d2b4ae2 {x0 : Int} (f0 : x0 = 1) : 0 < x0 := by omega
theorem q_6bee21a7e {x0 x1 x2 x3 : Int} (f0 : 0 ≤ x0 ∧ x0 ≤ 600) (f1 : (x1 < x2 ∧ x3 ≥ 48 ∧ x3 ≤ 57)) (f2 : x0 = x2) : x1 ≤ 2147483647 := by omega
theorem q_828522d69 {x0 x1 x2 x3 : Int} (f0 : 0 ≤ x0 ∧ x0 ≤ 600) (f1 : x1 ≤ x2 ∧ (x2 ≤ x3 ∨ x2 = x1)) (f2 : x0 = x1) : 0 ≤ x2 := by omega
theorem q_9175fc70b {x0 x1 x2 x3 : Int} (f0 : 0 ≤ x0 ∧ x0 ≤ 600) (f1 : (x1 < x2 ∧ x3 ≥ 48 ∧ x3 ≤ 57)) (f2 : x0 = x2) : x1 < 600 := by omega
theorem q_254d2140e {x0 : Int} (f0 : x0 = 2) : 1 ≤ x0 := by omega
theorem q_99ecb86e9 {x0 x1 x2 x3 x4 : Int} (f0 : x0 = x1) (f1 : 0 ≤ x2 ∧ x2 ≤ 600) (f2 : x3 ≤ x1 ∧ (x1 ≤ x4 ∨ x1 = x3)) (f3 : x2 = x3) : 0 ≤ x0 := by omega
theorem q_8d38fc194 {x0 : Int} (f0 : x0 = 2) : 0 < x0 := by omega
theorem q_f6b658f58 {x0 : Int} (f0 : 0 ≤ x0 ∧ x0 ≤ 3) (f1 : x0 = 0) : x0 = 0 := by omega
theorem q_f39655ca6 {x0 : Int} (f0 : (-1) ≤ x0 ∧ x0 ≤ 600) (f1 : x0 = (-1)) : x0 = (-1) := by omega
theorem q_d474f9e17 {x0 x1 x2 : Int} (f0 : (x0 ≠ 0)) (f1 : 0 ≤ x1 ∧ x1 ≤ 3) (f2 : x1 = x0) (f3 : x2 = x0) : ¬ x2 = 0 := by omega
theorem q_5e082ea92 {x0 x1 x2 x3 x4 : Int} (f0 : (1 ≤ x0 ∧ x0 ≤ 3) ∧ x1 = x2 ∧ 0 ≤ x2 ∧ x3 = x0) (f1 : x0 = x4) : ¬ x4 = 0 := by omega
theorem q_3b8ab523e {x0 x1 x2 x3 x4 x5 : Int} (f0 : x0 = x1) (f1 : (1 ≤ x2 ∧ x2 ≤ 3) ∧ x3 = x4 ∧ 0 ≤ x4 ∧ x5 = x2) (f2 : x2 = x1) : 1 ≤ x0 := by omega
theorem q_cb71117a2 {x0 x1 x2 x3 x4 : Int} (f0 : x0 = x1) (f1 : (1 ≤ x2 ∧ x2 ≤ 3) ∧ x3 = x1 ∧ 0 ≤ x1 ∧ x4 = x2) : 0 ≤ x0 := by omega
theorem q_2ce17e943 {x0 x1 x2 x3 x4 x5 : Int} (f0 : x0 = x1) (f1 : (1 ≤ x2 ∧ x2 ≤ 3) ∧ x3 = x4 ∧ 0 ≤ x4 ∧ x5 = x2) (f2 : x2 = x1) : 0 < x0 := by omega
theorem q_e3021f629 {x0 x1 x2 x3 : Int} (f0 : 0 ≤ x0 ∧ x0 ≤ 600) (f1 : x1 ≤ x2 ∧ (x2 ≤ x3 ∨ x2 = x1)) (f2 : x0 = x1) : (-1) ≤ x2 := by omega
theorem q_f657906b2 {x0 x1 x2 x3 x4 : Int} (f0 : 0 ≤ x0 ∧ x0 ≤ 600) (f1 : 0 ≤ x1 ∧ x1 ≤ 600) (f2 : x2 ≤ x3 ∧ (x3 ≤ x4 ∨ x3 = x2)) (f3 : x1 = x2) (f4 : x0 = x4) : x3 ≤ 600 := by omega
theorem q_39c80169a {x0 x1 x2 x3 : Int} (f0 : x0 ≥ x1) (f1 : (x0 < x1 ∧ x2 = x3) ∨ (x1 ≤ x0 ∧ x2 = 0)) : ¬ x2 = 59 := by omega
theorem q_90762221b {x0 x1 : Int} (f0 : 0 ≤ x0 ∧ x0 ≤ 600) (f1 : x0 = x1) : ¬ x1 = (-1) := by omega
theorem q_5ce231cbd {x0 x1 : Int} (f0 : 0 ≤ x0 ∧ x0 ≤ 600) (f1 : x0 = x1) : (-1) ≤ x1 := by omega
theorem q_6094bb0fa {x0 x1 : Int} (f0 : (-1) ≤ x0 ∧ x0 ≤ 600) (f1 : x0 = x1) : x1 ≤ 605 := by omega
theorem q_b867e77c7 {x0 x1 x2 : Int} (f0 : ¬ (x0 ≥ x1)) (f1 : 0 ≤ x2 ∧ x2 ≤ 600) (f2 : x2 = x1) : x0 < 600 := by omega
theorem q_15401fa7c {x0 x1 x2 : Int} (f0 : ¬ (x0 ≥ x1)) (f1 : 0 ≤ x2 ∧ x2 ≤ 600) (f2 : x2 = x1) : x0 ≤ 600 := by omega
theorem q_2e6ee4ea6 {x0 x1 x2 : Int} (f0 : ¬ (x0 ≥ x1)) (f1 : 0 ≤ x2 ∧ x2 ≤ 600) (f2 : x2 = x1) : x0 ≤ 2147483647 := by omega
theorem q_4ad75e8a2 {x0 x1 : Int} (f0 : 0 ≤ x0 ∧ x0 ≤ 600) (f1 : x0 = x1) : 0 ≤ x1 := by omega
theorem q_783468581 {x0 x1 : Int} (f0 : (-1) ≤ x0 ∧ x0 ≤ 600) (f1 : x0 = x1) : x1 ≤ 2147483647 := by omega
theorem q_deaeab841 {x0 x1 : Int} (f0 : 0 ≤ x0 ∧ x0 ≤ 600) (f1 : x0 = x1) : x1 ≤ 605 := by omega
theorem q_e260493d5 {x0 x1 x2 x3 : Int} (f0 : 0 ≤ x0 ∧ x0 ≤ 600) (f1 : x1 ≤ x2 ∧ (x2 ≤ x3 ∨ x2 = x1)) (f2 : x0 = x1) : 0 ≤ x2 + 1 := by omega
theorem q_6ea34058e {x0 x1 x2 : Int} (f0 : ¬ (x0 ≥ x1)) (f1 : 0 ≤ x2 ∧ x2 ≤ 600) (f2 : x2 = x1) : x0 + 1 ≤ 600 := by omega
theorem q_86633cc1b {x0 x1 x2 x3 : Int} (f0 : 0 ≤ x0 ∧ x0 ≤ 600) (f1 : x1 ≤ x2 ∧ (x2 ≤ x3 ∨ x2 = x1)) (f2 : x0 = x1) : (-2147483648) ≤ x2 + 1 := by omega
theorem q_1da59465c {x0 x1 x2 : Int} (f0 : ¬ (x0 ≥ x1)) (f1 : 0 ≤ x2 ∧ x2 ≤ 600) (f2 : x2 = x1) : x0 + 1 ≤ 2147483647 := by omega
theorem q_b03d63f6f {x0 x1 : Int} (f0 : 0 ≤ x0 ∧ x0 ≤ 600) (f1 : x0 = x1 + 1) : x1 < 600 := by omega
theorem q_369ecf7f1 {x0 x1 : Int} (f0 : 0 ≤ x0 ∧ x0 ≤ 600) (f1 : x0 = x1 + 1) : x1 + 1 ≤ 605 := by omega
theorem q_58a890de0 {x0 x1 : Int} (f0 : x0 = x1 + 1) : x1 + 1 = x0 := by omega
theorem q_1caa53e22 {x0 x1 x2 x3 : Int} (f0 : x0 ≤ x1 ∧ (x1 ≤ x2 ∨ x1 = x0)) (f1 : x3 = x1 + 1) : x0 < x3 := by omega
theorem q_639ed28ca {x0 x1 x2 : Int} (f0 : ¬ (x0 ≥ x1)) (f1 : x2 = x0 + 1) : x2 ≤ x1 := by omega
theorem q_0f78863d3 {x0 x1 x2 x3 : Int} (f0 : (1 ≤ x0 ∧ x0 ≤ 3) ∧ x1 = x2 ∧ 0 ≤ x2 ∧ x3 = x0) : ¬ x2 = (-1) := by omega
theorem q_764c491a0 {x0 x1 : Int} (f0 : 0 ≤ x0 ∧ x0 ≤ 6) (f1 : x0 = x1) : (-2147483648) ≤ 4 * x1 := by omega
theorem q_f45c54e9c {x0 : Int} (f0 : (x0 ≤ 5)) : 4 * x0 + 4 ≤ 2147483647 := by omega
theorem q_67187c203 {x0 : Int} (f0 : (x0 ≤ 5)) : 4 * x0 < 24 := by omega
theorem q_8ef161bc6 {x0 x1 : Int} (f0 : 0 ≤ x0 ∧ x0 ≤ 6) (f1 : x0 = x1) : 0 ≤ 4 * x1 := by omega
theorem q_cbe56f1d7 {x0 x1 : Int} (f0 : 0 ≤ x0 ∧ x0 ≤ 6) (f1 : x0 = x1) : (-2147483648) ≤ 4 * x1 + 1 := by omega
theorem q_58085ea35 {x0 : Int} (f0 : (x0 ≤ 5)) : 4 * x0 + 1 < 24 := by omega
theorem q_4c20d8bac {x0 x1 : Int} (f0 : 0 ≤ x0 ∧ x0 ≤ 6) (f1 : x0 = x1) : 0 ≤ 4 * x1 + 1 := by omega
theorem q_4f4ba0c30 {x0 x1 : Int} (f0 : 0 ≤ x0 ∧ x0 ≤ 6) (f1 : x0 = x1) : (-2147483648) ≤ 4 * x1 + 2 := by omega
theorem q_3e1f19666 {x0 : Int} (f0 : (x0 ≤ 5)) : 4 * x0 + 2 < 24 := by omega
theorem q_d7fc477fe {x0 x1 : Int} (f0 : 0 ≤ x0 ∧ x0 ≤ 6) (f1 : x0 = x1) : 0 ≤ 4 * x1 + 2 := by omega
theorem q_91a5f1417 {x0 x1 : Int} (f0 : 0 ≤ x0 ∧ x0 ≤ 6) (f1 : x0 = x1) : (-2147483648) ≤ 4 * x1 + 3 := by omega
theorem q_5ec89d290 {x0 : Int} (f0 : (x0 ≤ 5)) : 4 * x0 + 3 < 24 := by omega
theorem q_81197e294 {x0 x1 : Int} (f0 : 0 ≤ x0 ∧ x0 ≤ 6) (f1 : x0 = x1) : 0 ≤ 4 * x1 + 3 := by omega
theorem q_6cd007676 {x0 x1 : Int} (f0 : 0 ≤ x0 ∧ x0 ≤ 6) (f1 : x0 = x1) : (-2147483648) ≤ 4 * x1 + 4 := by omega
theorem q_4b7d76168 {x0 : Int} (f0 : (x0 ≤ 5)) : x0 + 1 ≤ 6 := by omega
theorem qn_f6eda7af3 : ¬ (((41 : Nat) = 41 ∧ (19 : Int) = 4) ∨ ((41 : Nat) = 41 ∧ (19 : Int) = 5) ∨ ((41 : Nat) = 41 ∧ (19 : Int) = 6)) := (fun q => q.elim (fun h => absurd h.2 (ni rfl)) (fun q => q.elim (fun h => absurd h.2 (ni rfl)) (fun h => absurd h.2 (ni rfl))))
theorem q_4f359956e {x0 x1 : Int} (f0 : x0 = x1 + 1) : x0 = x1 + 1 := by omega
theorem q_d8da297ae {x0 x1 : Int} (f0 : x0 = x1) : x0 = x1 := by omega
theorem q_d9b9fb3da {x0 x1 : Int} (f0 : 0 ≤ x0 ∧ x0 ≤ 4) (f1 : x0 = x1) : (-2147483648) ≤ 3 * x1 := by omega
theorem q_8a67eadd2 {x0 : Int} (f0 : (x0 ≤ 3)) : 3 * x0 + 3 ≤ 2147483647 := by omega
theorem q_dabadb6ac {x0 : Int} (f0 : (x0 ≤ 3)) : 3 * x0 < 12 := by omega
theorem q_d1ae4f4fe {x0 x1 : Int} (f0 : 0 ≤ x0 ∧ x0 ≤ 4) (f1 : x0 = x1) : 0 ≤ 3 * x1 := by omega
theorem q_90b13a668 {x0 x1 : Int} (f0 : 0 ≤ x0 ∧ x0 ≤ 4) (f1 : x0 = x1) : (-2147483648) ≤ 3 * x1 + 1 := by omega
theorem q_b4698c5f5 {x0 : Int} (f0 : (x0 ≤ 3)) : 3 * x0 + 1 < 12 := by omega
theorem q_d3aca15c7 {x0 x1 : Int} (f0 : 0 ≤ x0 ∧ x0 ≤ 4) (f1 : x0 = x1) : 0 ≤ 3 * x1 + 1 := by omega
theorem q_74d9ecefa {x0 x1 : Int} (f0 : 0 ≤ x0 ∧ x0 ≤ 4) (f1 : x0 = x1) : (-2147483648) ≤ 3 * x1 + 2 := by omega
theorem q_c12577f8d {x0 : Int} (f0 : (x0 ≤ 3)) : 3 * x0 + 2 < 12 := by omega
theorem q_68410d64f {x0 x1 : Int} (f0 : 0 ≤ x0 ∧ x0 ≤ 4) (f1 : x0 = x1) : 0 ≤ 3 * x1 + 2 := by omega
theorem q_29dc0ef27 {x0 x1 : Int} (f0 : 0 ≤ x0 ∧ x0 ≤ 4) (f1 : x0 = x1) : (-2147483648) ≤ 3 * x1 + 3 := by omega
theorem q_56610638f {x0 : Int} (f0 : (x0 ≤ 3)) : x0 + 1 ≤ 4 := by omega
theorem q_a2d3b0534 {x0 : Int} (f0 : (x0 ≤ 3)) : x0 < 4 := by omega
theorem q_f1ec3b8eb {x0 x1 : Int} (f0 : 0 ≤ x0 ∧ x0 ≤ 50) (f1 : x0 = x1) : x1 ≤ 50 := by omega
set_option maxRecDepth 100000 in
set_option maxHeartbeats 4000000 in
theorem s_84u {sc : List Int32} {d P Q : Nat} {c : ME} {Z : AR → Prop} (hI : Iv 0 (-1) P Q c)  (K : ∀ (c2 : ME) (y : Int), Iv 0 (-1) P Q c2 → (∀ (a : Nat) (j : Int), ¬ (a = 38 ∨ a = 40 ∨ (a = 3 ∧ j = 3) ∨ (a = 3 ∧ j = 4) ∨ (a = 0 ∧ j = 11)) → c2 a j = c a j) → (-2147483648) ≤ y ∧ y ≤ 2147483647 → ((c 1 4 < 0) ∨ (c 1 4 > 0) ∨ (y = c P 0)) → ((c2 3 3 = 0 ∧ c2 3 4 = 0 ∧ c2 0 11 = 0)) → Z (.inl (some (vi y)), Wd P Q P P c2, 0, 0)) : Wp sc (d + 13) 84 47 [(0, .ref 0)] [] (Wd P Q Q Q c) 0 0 Z := by
  have hP := iv_P hI
  have hQ := iv_Q hI
  refine q_aload_n c_84_47 rfl (v_gr (t := 37) c_84_48 kf_7_62 rfl (Nat.le_of_ble_eq_true rfl) rfl (q_aload_n c_84_51 rfl (v_gr (t := P) c_84_52 kf_7_50 rfl (Nat.le_of_ble_eq_true rfl) rfl (v_cv c_84_55 km_7_93 rfl rfl (Nat.le_of_ble_eq_true rfl) ⟨⟨rfl, rfl⟩, Nat.le_of_ble_eq_true rfl, rfl⟩ (Nat.le_of_ble_eq_true rfl) (Nat.le_of_ble_eq_true rfl) (s_65a hI (fun c_1 hI_2 hF_3 => (bk_inl (q_aload_n c_84_58 rfl (v_gr (t := 39) c_84_59 kf_7_66 rfl (Nat.le_of_ble_eq_true rfl) rfl ?_)))))))))
  refine q_aload_n c_84_62 rfl (v_gr (t := P) c_84_63 kf_7_50 rfl (Nat.le_of_ble_eq_true rfl) rfl (v_cv c_84_66 km_7_93 rfl rfl (Nat.le_of_ble_eq_true rfl) ⟨⟨rfl, rfl⟩, Nat.le_of_ble_eq_true rfl, rfl⟩ (Nat.le_of_ble_eq_true rfl) (Nat.le_of_ble_eq_true rfl) (s_65b hI_2 (fun c_4 hI_5 hF_6 => (bk_inl (q_aload_n c_84_69 rfl (v_gr (t := 3) c_84_70 kf_7_19 rfl (Nat.le_of_ble_eq_true rfl) rfl (v_cv c_84_73 km_7_96 rfl rfl (Nat.le_of_ble_eq_true rfl) ⟨⟨rfl, rfl⟩, Nat.le_of_ble_eq_true rfl, rfl⟩ (Nat.le_of_ble_eq_true rfl) (Nat.le_of_ble_eq_true rfl) (s_22 hI_5 (fun c_7 hI_8 hF_9 h_10 => (bk_inl ?_)))))))))))
  have h_11 := ir_3_3 hI_8
  have h_12 := ir_3_4 hI_8
  refine q_aload_n c_84_76 rfl (q_iconst c_84_77 (v_pi (z := 11) c_84_78 kf_7_99 rfl (Nat.le_of_ble_eq_true rfl) rfl rfl rfl (by decide) (q_aload_n c_84_81 rfl (q_aload_n c_84_82 rfl (v_gr (t := P) c_84_83 kf_7_50 rfl (Nat.le_of_ble_eq_true rfl) rfl ?_)))))
  have h_13 := ir_p0_0 hI hP
  have kn_14 : Hid (c_1 P 0 = c P 0) := hF_3 P 0 (fun h => absurd h (np0 hP rfl))
  have kn_15 : Hid (c_4 P 0 = c P 0) := (hF_6 P 0 (fun h => absurd h (np0 hP rfl))).trans (hid kn_14)
  have kn_16 : Hid (c_7 P 0 = c P 0) := (hF_9 P 0 (qn_48a4791f9 hP)).trans (hid kn_15)
  refine v_gi (z := 0) (v := c P 0) c_84_86 kf_7_102 (ck_p0 hP) (a68z hP) rfl rfl ((up_c (np0 hP rfl)).trans (hid kn_16)) (v_cv c_84_89 km_7_105 rfl rfl (Nat.le_of_ble_eq_true rfl) ⟨⟨rfl, rfl⟩, Nat.le_of_ble_eq_true rfl, rfl⟩ (Nat.le_of_ble_eq_true rfl) (Nat.le_of_ble_eq_true rfl) (q_aload_n c_83_0 rfl (v_gr (t := 1) c_83_1 kf_7_10 rfl (Nat.le_of_ble_eq_true rfl) rfl (v_cv c_83_4 km_7_89 rfl rfl (Nat.le_of_ble_eq_true rfl) ⟨⟨rfl, rfl⟩, Nat.le_of_ble_eq_true rfl, rfl⟩ (Nat.le_of_ble_eq_true rfl) (Nat.le_of_ble_eq_true rfl) (q_aload_n c_2_0 rfl ?_)))))
  have h_17 := ir_1_4 hI
  have kn_18 : Hid (c_1 1 4 = c 1 4) := hF_3 1 4 (fun h => absurd h (nn rfl))
  have kn_19 : Hid (c_4 1 4 = c 1 4) := (hF_6 1 4 (fun h => absurd h (nn rfl))).trans (hid kn_18)
  have kn_20 : Hid (c_7 1 4 = c 1 4) := (hF_9 1 4 (fun q => q.elim (fun h => absurd h.1 (nn rfl)) (fun h => absurd h.1 (nn rfl)))).trans (hid kn_19)
  refine v_gi (z := 4) (v := c 1 4) c_2_1 kf_5_38 rfl (Nat.le_of_ble_eq_true rfl) rfl rfl ((up_c (nn rfl)).trans (hid kn_20)) ?_
  by_cases h_21 : c 1 4 ≠ 0
  · refine v_if_ne_t (t := 11) c_2_4 rfl ⟨h_21, ⟨by first | exact q_107d648c6 h_17 | omega, by first | exact q_509aaa6b6 h_17 | omega⟩, by decide, by decide⟩ (q_iconst c_2_11 (v_zret c_2_12 rfl (by decide) (bk_inl (v_if_eq_t (t := 14) c_83_7 rfl (by decide) (q_aload_n c_83_14 rfl (v_gr (t := 1) c_83_15 kf_7_10 rfl (Nat.le_of_ble_eq_true rfl) rfl (v_gi (z := 4) (v := c 1 4) c_83_18 kf_7_351 rfl (Nat.le_of_ble_eq_true rfl) rfl rfl ((up_c (nn rfl)).trans (hid kn_20)) ?_)))))))
    refine v_bip c_83_21 (by decide) (v_isub (v := c 1 4 - 10) c_83_23 rfl (q_iret c_83_24 rfl (bk_inl (q_iret c_84_92 rfl ?_))))
    have hI_22 := iw_0_11 (v := 0) hI_8 ⟨by decide, by decide⟩
    have h_23 : (up c_7 0 11 0) 0 11 = 0 := (up_e rfl)
    have h_24 : (up c_7 0 11 0) 3 3 = c_7 3 3 := (up_c (nn rfl))
    have h_25 : (up c_7 0 11 0) 3 4 = c_7 3 4 := (up_c (nn rfl))
    exact K (up c_7 0 11 0) (c 1 4 - 10) hI_22 (fun a j hm => (up_b (Decidable.or_iff_not_imp_left.mpr (fun h1 h2 => hm (Or.inr (Or.inr (Or.inr (Or.inr ⟨Decidable.not_not.mp h1, h2⟩))))))).trans ((hF_9 a j (qv_0c05fdd3f hm)).trans ((hF_6 a j (fun h => hm (Or.inr (Or.inl h)))).trans (hF_3 a j (fun h => hm (Or.inl h)))))) ⟨by first | exact q_8f97c4ef8 h_17 | omega, by first | exact q_36926c81e h_17 | omega⟩ (Or.inr (Or.inl (by first | exact q_c6195508a h_17 h_21 | omega))) ⟨by first | exact q_8782a124a h_10 h_11 | omega, by first | exact q_a17c21964 h_10 h_12 | omega, by first | assumption | omega⟩
  · refine v_if_ne_f (t := 11) c_2_4 rfl (Decidable.not_not.mp h_21) (q_iconst c_2_7 (q_goto (t := 12) c_2_8 rfl (v_zret c_2_12 rfl (by decide) (bk_inl (v_if_eq_f (t := 14) c_83_7 rfl (by decide) (q_iload_n c_83_10 rfl (q_goto (t := 24) c_83_11 rfl ?_)))))))
    refine q_iret c_83_24 rfl (bk_inl (q_iret c_84_92 rfl ?_))
    have hI_26 := iw_0_11 (v := 0) hI_8 ⟨by decide, by decide⟩
    have h_27 : (up c_7 0 11 0) 0 11 = 0 := (up_e rfl)
    have h_28 : (up c_7 0 11 0) 3 3 = c_7 3 3 := (up_c (nn rfl))
    have h_29 : (up c_7 0 11 0) 3 4 = c_7 3 4 := (up_c (nn rfl))
    exact K (up c_7 0 11 0) (c P 0) hI_26 (fun a j hm => (up_b (Decidable.or_iff_not_imp_left.mpr (fun h1 h2 => hm (Or.inr (Or.inr (Or.inr (Or.inr ⟨Decidable.not_not.mp h1, h2⟩))))))).trans ((hF_9 a j (qv_0c05fdd3f hm)).trans ((hF_6 a j (fun h => hm (Or.inr (Or.inl h)))).trans (hF_3 a j (fun h => hm (Or.inl h)))))) ⟨by first | exact q_730ab5169 h_13 | omega, by first | exact q_b289b7db2 h_13 | omega⟩ (Or.inr (Or.inr (by first | assumption | omega))) ⟨by first | exact q_8782a124a h_10 h_11 | omega, by first | exact q_a17c21964 h_10 h_12 | omega, by first | assumption | omega⟩

set_option maxRecDepth 100000 in
set_option maxHeartbeats 4000000 in
theorem b_14 {sc : List Int32} {e : Int} {d u P Q A : Nat} {c : ME} {f9 p9 a2 : Int} {Z : AR → Prop} (hI : Iv u e P Q c) (hA : A = 13 ∨ A = 25) (ha2 : 0 ≤ a2 ∧ a2 ≤ 6) (hq0 : (f9 ≠ 0)) (hv0 : c 1 4 = f9) (hv1 : c 1 5 = p9) (K0 : ∀ c2 : ME, Iv u e P Q c2 → (∀ (a : Nat) (j : Int), ¬ ((a = 1 ∧ j = 2) ∨ (a = 1 ∧ j = 4) ∨ (a = 1 ∧ j = 5) ∨ (a = (A + 7) ∧ j = 5) ∨ a = (A + 9)) → c2 a j = c a j) → (c2 1 4 = f9) → (c2 1 5 = p9) → Z (.inl (none), Wd P Q P P c2, 0, 0)) : Wp sc (d + 14) 14 0 [(0, .ref (A + 7)), (1, .ref 1), (2, vi a2)] [] (Wd P Q P P c) 0 0 Z := by
  have hP := iv_P hI
  have hQ := iv_Q hI
  have h_1 := ir_1_4 hI
  have h_2 := ir_1_5 hI
  refine q_aload_n c_14_0 rfl (v_cv c_14_1 km_0_68 rfl rfl (Nat.le_of_ble_eq_true rfl) ⟨⟨rfl, rfl⟩, Nat.le_of_ble_eq_true rfl, rfl⟩ (Nat.le_of_ble_eq_true rfl) (Nat.le_of_ble_eq_true rfl) (q_aload_n c_6_0 rfl ?_))
  have h_3 := ir_1_1 hI
  have h_4 := ir_1_2 hI
  have h_5 := ir_2 hI (c 1 2)
  have h_6 := nx_bd (b := c 2) (e := c 1 1) (a := c 1 2)
  have h_7 := ir_2 hI (nx (c 2) (c 1 1) (c 1 2))
  have h_8 := nx_n (b := c 2) (e := c 1 1) (a := c 1 2)
  refine v_cv c_6_1 km_5_41 rfl rfl (Nat.le_of_ble_eq_true rfl) ⟨⟨rfl, rfl⟩, Nat.le_of_ble_eq_true rfl, rfl⟩ (Nat.le_of_ble_eq_true rfl) (Nat.le_of_ble_eq_true rfl) (f_3 (e1 := c 1 1) (a9 := c 1 2) (B := c 2) (r8 := (nx (c 2) (c 1 1) (c 1 2))) hI (rfl) (rfl) (fun j => rfl) rfl (fun c_9 hI_10 hF_11 hz_12 => (bk_inl (q_istore_n c_6_4 (Nat.le_of_ble_eq_true rfl) (q_iload_n c_6_5 rfl (q_aload_n c_6_6 rfl ?_))))))
  have kn_13 : Hid (c_9 1 1 = c 1 1) := hF_11 1 1 (fun h => absurd h.2 (ni rfl))
  refine v_gi (z := 1) (v := c 1 1) c_6_7 kf_5_32 rfl (Nat.le_of_ble_eq_true rfl) rfl rfl (hid kn_13) ?_
  by_cases h_14 : (nx (c 2) (c 1 1) (c 1 2)) ≥ c 1 1
  · refine v_ic_ge_t (t := 39) c_6_10 rfl ⟨(Int.le_trans (by decide) h_3.1), h_14, by first | exact q_19b331c4f h_3 h_4 h_6 | omega⟩ (q_iconst c_6_39 (v_zret c_6_40 rfl (by decide) (bk_inl (v_if_eq_t (t := 19) c_14_4 rfl (by decide) (q_aload_n c_14_19 rfl (v_cv c_14_20 km_0_75 rfl rfl (Nat.le_of_ble_eq_true rfl) ⟨⟨rfl, rfl⟩, Nat.le_of_ble_eq_true rfl, rfl⟩ (Nat.le_of_ble_eq_true rfl) (Nat.le_of_ble_eq_true rfl) (f_3 (e1 := c 1 1) (a9 := (nx (c 2) (c 1 1) (c 1 2))) (B := c 2) (r8 := (nx (c 2) (c 1 1) (c 1 2))) hI_10 ((hid kn_13)) ((hz_12)) (fun j => hF_11 2 j (fun h => absurd h.1 (nn rfl))) (nx_z (Or.inl (by first | exact q_a29fbb6d7 h_14 | omega))) (fun c_15 hI_16 hF_17 hz_18 => (bk_inl ?_)))))))))
    refine q_istore_n c_14_23 (Nat.le_of_ble_eq_true rfl) (q_aload_n c_14_24 rfl (q_ldc_s c_14_25 rfl rfl (by decide) (v_cv c_14_27 km_0_55 rfl rfl (Nat.le_of_ble_eq_true rfl) ⟨⟨rfl, rfl⟩, Nat.le_of_ble_eq_true rfl, rfl⟩ (Nat.le_of_ble_eq_true rfl) (Nat.le_of_ble_eq_true rfl) (q_aload_n c_4_0 rfl ?_))))
    have kn_19 : Hid (c_15 1 1 = c 1 1) := (hF_17 1 1 (fun h => absurd h.2 (ni rfl))).trans (hid kn_13)
    refine v_cv c_4_1 km_5_41 rfl rfl (Nat.le_of_ble_eq_true rfl) ⟨⟨rfl, rfl⟩, Nat.le_of_ble_eq_true rfl, rfl⟩ (Nat.le_of_ble_eq_true rfl) (Nat.le_of_ble_eq_true rfl) (f_3 (e1 := c 1 1) (a9 := (nx (c 2) (c 1 1) (c 1 2))) (B := c 2) (r8 := (nx (c 2) (c 1 1) (c 1 2))) hI_16 ((hid kn_19)) ((hz_18)) (fun j => (hF_17 2 j (fun h => absurd h.1 (nn rfl))).trans (hF_11 2 j (fun h => absurd h.1 (nn rfl)))) (nx_z (Or.inl (by first | exact q_a29fbb6d7 h_14 | omega))) (fun c_20 hI_21 hF_22 hz_23 => (bk_inl (q_istore_n c_4_4 (Nat.le_of_ble_eq_true rfl) (q_iconst c_4_5 (q_istore_n c_4_6 (Nat.le_of_ble_eq_true rfl) (q_iload_n c_4_7 rfl (q_aload_n c_4_8 rfl (v_sln 1 c_4_9 rfl (by omega) (Nat.le_of_ble_eq_true rfl) (by decide) (by decide) ?_)))))))))
    refine v_ic_ge_f (t := 55) c_4_12 rfl (by decide) (q_iload_n c_4_15 rfl (q_aload_n c_4_16 rfl ?_))
    have kn_24 : Hid (c_20 1 1 = c 1 1) := (hF_22 1 1 (fun h => absurd h.2 (ni rfl))).trans (hid kn_19)
    refine v_gi (z := 1) (v := c 1 1) c_4_17 kf_5_32 rfl (Nat.le_of_ble_eq_true rfl) rfl rfl (hid kn_24) (v_ic_ge_t (t := 55) c_4_20 rfl ⟨(Int.le_trans (by decide) h_3.1), by first | exact q_a29fbb6d7 h_14 | omega, by first | exact q_19b331c4f h_3 h_4 h_6 | omega⟩ (q_iconst c_4_55 (q_iret c_4_56 rfl (bk_inl (q_iconst c_14_30 (v_ic_eq_t (t := 38) c_14_31 rfl (by decide) (q_iconst c_14_38 ?_)))))))
    refine q_istore c_14_39 (Nat.le_of_ble_eq_true rfl) (q_iload c_14_41 rfl (v_if_eq_t (t := 50) c_14_43 rfl (by decide) (q_aload_n c_14_50 rfl (q_ldc_s c_14_51 rfl rfl (by decide) ?_))))
    have kn_25 : Hid (c_9 1 4 = f9) := (hF_11 1 4 (fun h => absurd h.2 (ni rfl))).trans (hv0)
    have kn_26 : Hid (c_15 1 4 = f9) := (hF_17 1 4 (fun h => absurd h.2 (ni rfl))).trans (hid kn_25)
    have kn_27 : Hid (c_20 1 4 = f9) := (hF_22 1 4 (fun h => absurd h.2 (ni rfl))).trans (hid kn_26)
    have kn_28 : Hid (c_9 1 5 = p9) := (hF_11 1 5 (fun h => absurd h.2 (ni rfl))).trans (hv1)
    have kn_29 : Hid (c_15 1 5 = p9) := (hF_17 1 5 (fun h => absurd h.2 (ni rfl))).trans (hid kn_28)
    have kn_30 : Hid (c_20 1 5 = p9) := (hF_22 1 5 (fun h => absurd h.2 (ni rfl))).trans (hid kn_29)
    have h_31 := ln_bd (b := c 2) (e := c 1 1) (a := (nx (c 2) (c 1 1) (c 1 2)))
    refine v_cv c_14_53 km_0_83 rfl rfl (Nat.le_of_ble_eq_true rfl) ⟨⟨rfl, rfl⟩, Nat.le_of_ble_eq_true rfl, rfl⟩ (Nat.le_of_ble_eq_true rfl) (Nat.le_of_ble_eq_true rfl) (f_10_1 (e1 := c 1 1) (a9 := (nx (c 2) (c 1 1) (c 1 2))) (f9 := f9) (p9 := p9) (B := c 2) (r8 := (nx (c 2) (c 1 1) (c 1 2))) (L8 := (ln (c 2) (c 1 1) (nx (c 2) (c 1 1) (c 1 2)))) (W8 := (wd1_0 (c 2) (nx (c 2) (c 1 1) (c 1 2)) (ln (c 2) (c 1 1) (nx (c 2) (c 1 1) (c 1 2))))) hI_21 ((hid kn_24)) ((hz_23)) ((hid kn_27)) ((hid kn_30)) (fun j => (hF_22 2 j (fun h => absurd h.1 (nn rfl))).trans ((hF_17 2 j (fun h => absurd h.1 (nn rfl))).trans (hF_11 2 j (fun h => absurd h.1 (nn rfl))))) (nx_z (Or.inl (by first | exact q_a29fbb6d7 h_14 | omega))) rfl rfl (fun c_32 hI_33 hF_34 h_35 hz_36 hz_37 hz_38 => (bk_inl (q_istore c_14_56 (Nat.le_of_ble_eq_true rfl) (q_iload c_14_58 rfl (q_iconst c_14_60 (v_ic_eq_t (t := 82) c_14_61 rfl (by decide) (q_iload_n c_14_82 rfl (v_bip c_14_83 (by decide) ?_)))))))) (fun c_39 hI_40 hF_41 h_42 h_43 hz_44 hz_45 hz_46 => by exfalso; omega) (fun c_47 hI_48 hF_49 h_50 h_51 hz_52 hz_53 hz_54 => by exfalso; omega))
    by_cases h_55 : a2 < 6
    · refine v_ic_lt_t (t := 94) c_14_85 rfl ⟨(Int.le_trans (by decide) ha2.1), h_55, by decide⟩ (q_aload_n c_14_94 rfl (v_cv c_14_95 km_0_40 rfl rfl (Nat.le_of_ble_eq_true rfl) ⟨⟨rfl, rfl⟩, Nat.le_of_ble_eq_true rfl, rfl⟩ (Nat.le_of_ble_eq_true rfl) (Nat.le_of_ble_eq_true rfl) (q_aload_n c_2_0 rfl (v_gi (z := 4) (v := f9) c_2_1 kf_5_38 rfl (Nat.le_of_ble_eq_true rfl) rfl rfl (hz_37) (v_if_ne_t (t := 11) c_2_4 rfl ⟨by first | exact q_592765181 hq0 | omega, ⟨by first | exact q_dcb21991f h_1 hv0 | omega, by first | exact q_01469fc6b h_1 hv0 | omega⟩, by decide, by decide⟩ (q_iconst c_2_11 (v_zret c_2_12 rfl (by decide) ?_)))))))
      refine bk_inl (v_if_ne_f (t := 102) c_14_98 rfl (by decide) (q_vret rfl rfl ?_))
      have h_56 : c_32 1 4 = f9 := (hz_37)
      have h_57 : c_32 1 5 = p9 := (hz_38)
      exact K0 c_32 hI_33 (fun a j hm => (hF_34 a j (qv_59471db0f hm)).trans ((hF_22 a j (fun h => hm (Or.inl h))).trans ((hF_17 a j (fun h => hm (Or.inl h))).trans (hF_11 a j (fun h => hm (Or.inl h)))))) h_56 h_57
    · refine v_ic_lt_f (t := 94) c_14_85 rfl ⟨by decide, (Int.not_lt.mp h_55), (Int.le_trans ha2.2 (by decide))⟩ (q_aload_n c_14_88 rfl (q_iconst c_14_89 (q_iload_n c_14_90 rfl (v_cv c_14_91 km_0_86 rfl rfl (Nat.le_of_ble_eq_true rfl) ⟨⟨rfl, rfl⟩, Nat.le_of_ble_eq_true rfl, rfl⟩ (Nat.le_of_ble_eq_true rfl) (Nat.le_of_ble_eq_true rfl) (q_aload_n c_7_0 rfl (v_gi (z := 4) (v := f9) c_7_1 kf_5_38 rfl (Nat.le_of_ble_eq_true rfl) rfl rfl (hz_37) (v_if_ne_t (t := 17) c_7_4 rfl ⟨by first | exact q_592765181 hq0 | omega, ⟨by first | exact q_dcb21991f h_1 hv0 | omega, by first | exact q_01469fc6b h_1 hv0 | omega⟩, by decide, by decide⟩ ?_)))))))
      refine q_vret rfl rfl (bk_inl (q_aload_n c_14_94 rfl (v_cv c_14_95 km_0_40 rfl rfl (Nat.le_of_ble_eq_true rfl) ⟨⟨rfl, rfl⟩, Nat.le_of_ble_eq_true rfl, rfl⟩ (Nat.le_of_ble_eq_true rfl) (Nat.le_of_ble_eq_true rfl) (q_aload_n c_2_0 rfl (v_gi (z := 4) (v := f9) c_2_1 kf_5_38 rfl (Nat.le_of_ble_eq_true rfl) rfl rfl (hz_37) (v_if_ne_t (t := 11) c_2_4 rfl ⟨by first | exact q_592765181 hq0 | omega, ⟨by first | exact q_dcb21991f h_1 hv0 | omega, by first | exact q_01469fc6b h_1 hv0 | omega⟩, by decide, by decide⟩ (q_iconst c_2_11 ?_)))))))
      refine v_zret c_2_12 rfl (by decide) (bk_inl (v_if_ne_f (t := 102) c_14_98 rfl (by decide) (q_vret rfl rfl ?_)))
      have h_58 : c_32 1 4 = f9 := (hz_37)
      have h_59 : c_32 1 5 = p9 := (hz_38)
      exact K0 c_32 hI_33 (fun a j hm => (hF_34 a j (qv_59471db0f hm)).trans ((hF_22 a j (fun h => hm (Or.inl h))).trans ((hF_17 a j (fun h => hm (Or.inl h))).trans (hF_11 a j (fun h => hm (Or.inl h)))))) h_58 h_59
  · refine v_ic_ge_f (t := 39) c_6_10 rfl ⟨by first | exact q_d3451e228 h_4 h_6 | omega, (Int.not_le.mp h_14), (Int.le_trans h_3.2 (by decide))⟩ (q_aload_n c_6_13 rfl (v_gr (t := 2) c_6_14 kf_5_9 rfl (Nat.le_of_ble_eq_true rfl) rfl (q_iload_n c_6_17 rfl ?_)))
    have kn_60 : Hid (c_9 2 (nx (c 2) (c 1 1) (c 1 2)) = c 2 (nx (c 2) (c 1 1) (c 1 2))) := hF_11 2 (nx (c 2) (c 1 1) (c 1 2)) (fun h => absurd h.1 (nn rfl))
    refine v_ba (v := c 2 (nx (c 2) (c 1 1) (c 1 2))) c_6_18 rfl (by decide) (by decide) ⟨by first | exact q_c1bbacda5 h_4 h_6 | omega, by first | exact q_9c91a4797 h_14 h_3 | omega⟩ (hid kn_60) (v_bip c_6_19 (by decide) ?_)
    by_cases h_61 : c 2 (nx (c 2) (c 1 1) (c 1 2)) < 48
    · refine v_ic_lt_t (t := 39) c_6_21 rfl ⟨h_7.1, h_61, by decide⟩ (q_iconst c_6_39 (v_zret c_6_40 rfl (by decide) (bk_inl (v_if_eq_t (t := 19) c_14_4 rfl (by decide) (q_aload_n c_14_19 rfl (v_cv c_14_20 km_0_75 rfl rfl (Nat.le_of_ble_eq_true rfl) ⟨⟨rfl, rfl⟩, Nat.le_of_ble_eq_true rfl, rfl⟩ (Nat.le_of_ble_eq_true rfl) (Nat.le_of_ble_eq_true rfl) (f_3 (e1 := c 1 1) (a9 := (nx (c 2) (c 1 1) (c 1 2))) (B := c 2) (r8 := (nx (c 2) (c 1 1) (c 1 2))) hI_10 ((hid kn_13)) ((hz_12)) (fun j => hF_11 2 j (fun h => absurd h.1 (nn rfl))) (nx_z (Or.inr (by first | exact q_fb168580b h_14 h_8 | omega))) (fun c_62 hI_63 hF_64 hz_65 => (bk_inl ?_)))))))))
      refine q_istore_n c_14_23 (Nat.le_of_ble_eq_true rfl) (q_aload_n c_14_24 rfl (q_ldc_s c_14_25 rfl rfl (by decide) (v_cv c_14_27 km_0_55 rfl rfl (Nat.le_of_ble_eq_true rfl) ⟨⟨rfl, rfl⟩, Nat.le_of_ble_eq_true rfl, rfl⟩ (Nat.le_of_ble_eq_true rfl) (Nat.le_of_ble_eq_true rfl) (q_aload_n c_4_0 rfl ?_))))
      have kn_66 : Hid (c_62 1 1 = c 1 1) := (hF_64 1 1 (fun h => absurd h.2 (ni rfl))).trans (hid kn_13)
      refine v_cv c_4_1 km_5_41 rfl rfl (Nat.le_of_ble_eq_true rfl) ⟨⟨rfl, rfl⟩, Nat.le_of_ble_eq_true rfl, rfl⟩ (Nat.le_of_ble_eq_true rfl) (Nat.le_of_ble_eq_true rfl) (f_3 (e1 := c 1 1) (a9 := (nx (c 2) (c 1 1) (c 1 2))) (B := c 2) (r8 := (nx (c 2) (c 1 1) (c 1 2))) hI_63 ((hid kn_66)) ((hz_65)) (fun j => (hF_64 2 j (fun h => absurd h.1 (nn rfl))).trans (hF_11 2 j (fun h => absurd h.1 (nn rfl)))) (nx_z (Or.inr (by first | exact q_fb168580b h_14 h_8 | omega))) (fun c_67 hI_68 hF_69 hz_70 => (bk_inl (q_istore_n c_4_4 (Nat.le_of_ble_eq_true rfl) (q_iconst c_4_5 (q_istore_n c_4_6 (Nat.le_of_ble_eq_true rfl) (q_iload_n c_4_7 rfl (q_aload_n c_4_8 rfl (v_sln 1 c_4_9 rfl (by omega) (Nat.le_of_ble_eq_true rfl) (by decide) (by decide) ?_)))))))))
      refine v_ic_ge_f (t := 55) c_4_12 rfl (by decide) (q_iload_n c_4_15 rfl (q_aload_n c_4_16 rfl ?_))
      have kn_71 : Hid (c_67 1 1 = c 1 1) := (hF_69 1 1 (fun h => absurd h.2 (ni rfl))).trans (hid kn_66)
      refine v_gi (z := 1) (v := c 1 1) c_4_17 kf_5_32 rfl (Nat.le_of_ble_eq_true rfl) rfl rfl (hid kn_71) (v_ic_ge_f (t := 55) c_4_20 rfl ⟨by first | exact q_d3451e228 h_4 h_6 | omega, by first | exact q_d17d18138 h_14 | omega, (Int.le_trans h_3.2 (by decide))⟩ (q_aload_n c_4_23 rfl (v_gr (t := 2) c_4_24 kf_5_9 rfl (Nat.le_of_ble_eq_true rfl) rfl (q_iload_n c_4_27 rfl ?_))))
      have kn_72 : Hid (c_62 2 (nx (c 2) (c 1 1) (c 1 2)) = c 2 (nx (c 2) (c 1 1) (c 1 2))) := (hF_64 2 (nx (c 2) (c 1 1) (c 1 2)) (fun h => absurd h.1 (nn rfl))).trans (hid kn_60)
      have kn_73 : Hid (c_67 2 (nx (c 2) (c 1 1) (c 1 2)) = c 2 (nx (c 2) (c 1 1) (c 1 2))) := (hF_69 2 (nx (c 2) (c 1 1) (c 1 2)) (fun h => absurd h.1 (nn rfl))).trans (hid kn_72)
      refine v_ba (v := c 2 (nx (c 2) (c 1 1) (c 1 2))) c_4_28 rfl (by decide) (by decide) ⟨by first | exact q_c1bbacda5 h_4 h_6 | omega, by first | exact q_9c91a4797 h_14 h_3 | omega⟩ (hid kn_73) (q_aload_n c_4_29 rfl (q_iload_n c_4_30 rfl (v_sch 40 c_4_31 rfl (by omega) (Nat.le_of_ble_eq_true rfl) (by decide) (by decide) (by decide) ?_)))
      by_cases h_74 : c 2 (nx (c 2) (c 1 1) (c 1 2)) ≠ 40
      · refine v_ic_ne_t (t := 49) c_4_34 rfl ⟨h_74, ⟨h_7.1, h_7.2⟩, by decide, by decide⟩ (v_iinc (v := 1) c_4_49 rfl (Nat.le_of_ble_eq_true rfl) (by decide) (q_goto (t := 7) c_4_52 rfl (q_iload_n c_4_7 rfl (q_aload_n c_4_8 rfl (v_sln 1 c_4_9 rfl (by omega) (Nat.le_of_ble_eq_true rfl) (by decide) (by decide) (v_ic_ge_t (t := 55) c_4_12 rfl (by decide) (q_iconst c_4_55 ?_)))))))
        refine q_iret c_4_56 rfl (bk_inl (q_iconst c_14_30 (v_ic_eq_t (t := 38) c_14_31 rfl (by decide) (q_iconst c_14_38 (q_istore c_14_39 (Nat.le_of_ble_eq_true rfl) (q_iload c_14_41 rfl (v_if_eq_t (t := 50) c_14_43 rfl (by decide) ?_)))))))
        refine q_aload_n c_14_50 rfl (q_ldc_s c_14_51 rfl rfl (by decide) ?_)
        have kn_75 : Hid (c_9 1 4 = f9) := (hF_11 1 4 (fun h => absurd h.2 (ni rfl))).trans (hv0)
        have kn_76 : Hid (c_62 1 4 = f9) := (hF_64 1 4 (fun h => absurd h.2 (ni rfl))).trans (hid kn_75)
        have kn_77 : Hid (c_67 1 4 = f9) := (hF_69 1 4 (fun h => absurd h.2 (ni rfl))).trans (hid kn_76)
        have kn_78 : Hid (c_9 1 5 = p9) := (hF_11 1 5 (fun h => absurd h.2 (ni rfl))).trans (hv1)
        have kn_79 : Hid (c_62 1 5 = p9) := (hF_64 1 5 (fun h => absurd h.2 (ni rfl))).trans (hid kn_78)
        have kn_80 : Hid (c_67 1 5 = p9) := (hF_69 1 5 (fun h => absurd h.2 (ni rfl))).trans (hid kn_79)
        have h_81 := ln_be (b := c 2) (e := c 1 1) (a := (nx (c 2) (c 1 1) (c 1 2))) (by first | exact q_5fcb01701 h_14 | omega)
        refine v_cv c_14_53 km_0_83 rfl rfl (Nat.le_of_ble_eq_true rfl) ⟨⟨rfl, rfl⟩, Nat.le_of_ble_eq_true rfl, rfl⟩ (Nat.le_of_ble_eq_true rfl) (Nat.le_of_ble_eq_true rfl) (f_10_1 (e1 := c 1 1) (a9 := (nx (c 2) (c 1 1) (c 1 2))) (f9 := f9) (p9 := p9) (B := c 2) (r8 := (nx (c 2) (c 1 1) (c 1 2))) (L8 := (ln (c 2) (c 1 1) (nx (c 2) (c 1 1) (c 1 2)))) (W8 := (wd1_0 (c 2) (nx (c 2) (c 1 1) (c 1 2)) (ln (c 2) (c 1 1) (nx (c 2) (c 1 1) (c 1 2))))) hI_68 ((hid kn_71)) ((hz_70)) ((hid kn_77)) ((hid kn_80)) (fun j => (hF_69 2 j (fun h => absurd h.1 (nn rfl))).trans ((hF_64 2 j (fun h => absurd h.1 (nn rfl))).trans (hF_11 2 j (fun h => absurd h.1 (nn rfl))))) (nx_z (Or.inr (by first | exact q_fb168580b h_14 h_8 | omega))) rfl rfl (fun c_82 hI_83 hF_84 h_85 hz_86 hz_87 hz_88 => (bk_inl (q_istore c_14_56 (Nat.le_of_ble_eq_true rfl) (q_iload c_14_58 rfl (q_iconst c_14_60 (v_ic_eq_t (t := 82) c_14_61 rfl (by decide) (q_iload_n c_14_82 rfl (v_bip c_14_83 (by decide) ?_)))))))) (fun c_89 hI_90 hF_91 h_92 h_93 hz_94 hz_95 hz_96 => by exfalso; omega) (fun c_97 hI_98 hF_99 h_100 h_101 hz_102 hz_103 hz_104 => by exfalso; omega))
        by_cases h_105 : a2 < 6
        · refine v_ic_lt_t (t := 94) c_14_85 rfl ⟨(Int.le_trans (by decide) ha2.1), h_105, by decide⟩ (q_aload_n c_14_94 rfl (v_cv c_14_95 km_0_40 rfl rfl (Nat.le_of_ble_eq_true rfl) ⟨⟨rfl, rfl⟩, Nat.le_of_ble_eq_true rfl, rfl⟩ (Nat.le_of_ble_eq_true rfl) (Nat.le_of_ble_eq_true rfl) (q_aload_n c_2_0 rfl (v_gi (z := 4) (v := f9) c_2_1 kf_5_38 rfl (Nat.le_of_ble_eq_true rfl) rfl rfl (hz_87) (v_if_ne_t (t := 11) c_2_4 rfl ⟨by first | exact q_592765181 hq0 | omega, ⟨by first | exact q_dcb21991f h_1 hv0 | omega, by first | exact q_01469fc6b h_1 hv0 | omega⟩, by decide, by decide⟩ (q_iconst c_2_11 (v_zret c_2_12 rfl (by decide) ?_)))))))
          refine bk_inl (v_if_ne_f (t := 102) c_14_98 rfl (by decide) (q_vret rfl rfl ?_))
          have h_106 : c_82 1 4 = f9 := (hz_87)
          have h_107 : c_82 1 5 = p9 := (hz_88)
          exact K0 c_82 hI_83 (fun a j hm => (hF_84 a j (qv_59471db0f hm)).trans ((hF_69 a j (fun h => hm (Or.inl h))).trans ((hF_64 a j (fun h => hm (Or.inl h))).trans (hF_11 a j (fun h => hm (Or.inl h)))))) h_106 h_107
        · refine v_ic_lt_f (t := 94) c_14_85 rfl ⟨by decide, (Int.not_lt.mp h_105), (Int.le_trans ha2.2 (by decide))⟩ (q_aload_n c_14_88 rfl (q_iconst c_14_89 (q_iload_n c_14_90 rfl (v_cv c_14_91 km_0_86 rfl rfl (Nat.le_of_ble_eq_true rfl) ⟨⟨rfl, rfl⟩, Nat.le_of_ble_eq_true rfl, rfl⟩ (Nat.le_of_ble_eq_true rfl) (Nat.le_of_ble_eq_true rfl) (q_aload_n c_7_0 rfl (v_gi (z := 4) (v := f9) c_7_1 kf_5_38 rfl (Nat.le_of_ble_eq_true rfl) rfl rfl (hz_87) (v_if_ne_t (t := 17) c_7_4 rfl ⟨by first | exact q_592765181 hq0 | omega, ⟨by first | exact q_dcb21991f h_1 hv0 | omega, by first | exact q_01469fc6b h_1 hv0 | omega⟩, by decide, by decide⟩ ?_)))))))
          refine q_vret rfl rfl (bk_inl (q_aload_n c_14_94 rfl (v_cv c_14_95 km_0_40 rfl rfl (Nat.le_of_ble_eq_true rfl) ⟨⟨rfl, rfl⟩, Nat.le_of_ble_eq_true rfl, rfl⟩ (Nat.le_of_ble_eq_true rfl) (Nat.le_of_ble_eq_true rfl) (q_aload_n c_2_0 rfl (v_gi (z := 4) (v := f9) c_2_1 kf_5_38 rfl (Nat.le_of_ble_eq_true rfl) rfl rfl (hz_87) (v_if_ne_t (t := 11) c_2_4 rfl ⟨by first | exact q_592765181 hq0 | omega, ⟨by first | exact q_dcb21991f h_1 hv0 | omega, by first | exact q_01469fc6b h_1 hv0 | omega⟩, by decide, by decide⟩ (q_iconst c_2_11 ?_)))))))
          refine v_zret c_2_12 rfl (by decide) (bk_inl (v_if_ne_f (t := 102) c_14_98 rfl (by decide) (q_vret rfl rfl ?_)))
          have h_108 : c_82 1 4 = f9 := (hz_87)
          have h_109 : c_82 1 5 = p9 := (hz_88)
          exact K0 c_82 hI_83 (fun a j hm => (hF_84 a j (qv_59471db0f hm)).trans ((hF_69 a j (fun h => hm (Or.inl h))).trans ((hF_64 a j (fun h => hm (Or.inl h))).trans (hF_11 a j (fun h => hm (Or.inl h)))))) h_108 h_109
      · refine v_ic_ne_f (t := 49) c_4_34 rfl (Decidable.not_not.mp h_74) (q_aload_n c_4_37 rfl (q_dup c_4_38 rfl (v_gi (z := 2) (v := (nx (c 2) (c 1 1) (c 1 2))) c_4_39 kf_5_35 rfl (Nat.le_of_ble_eq_true rfl) rfl rfl (hz_70) (q_iconst c_4_42 (v_iadd (v := (nx (c 2) (c 1 1) (c 1 2)) + 1) c_4_43 rfl (v_pi (z := 2) c_4_44 kf_5_35 rfl (Nat.le_of_ble_eq_true rfl) rfl rfl rfl (by decide) (q_iload_n c_4_47 rfl ?_)))))))
        refine q_iret c_4_48 rfl (bk_inl (q_iconst c_14_30 (v_ic_eq_f (t := 38) c_14_31 rfl (by decide) (q_iconst c_14_34 (q_goto (t := 39) c_14_35 rfl (q_istore c_14_39 (Nat.le_of_ble_eq_true rfl) (q_iload c_14_41 rfl ?_)))))))
        refine v_if_eq_f (t := 50) c_14_43 rfl (by decide) (q_iconst c_14_46 (q_goto (t := 56) c_14_47 rfl (q_istore c_14_56 (Nat.le_of_ble_eq_true rfl) (q_iload c_14_58 rfl (q_iconst c_14_60 (v_ic_eq_t (t := 82) c_14_61 rfl (by decide) (q_iload_n c_14_82 rfl ?_)))))))
        refine v_bip c_14_83 (by decide) ?_
        by_cases h_110 : a2 < 6
        · refine v_ic_lt_t (t := 94) c_14_85 rfl ⟨(Int.le_trans (by decide) ha2.1), h_110, by decide⟩ (q_aload_n c_14_94 rfl (v_cv c_14_95 km_0_40 rfl rfl (Nat.le_of_ble_eq_true rfl) ⟨⟨rfl, rfl⟩, Nat.le_of_ble_eq_true rfl, rfl⟩ (Nat.le_of_ble_eq_true rfl) (Nat.le_of_ble_eq_true rfl) (q_aload_n c_2_0 rfl ?_)))
          have kn_111 : Hid (c_9 1 4 = f9) := (hF_11 1 4 (fun h => absurd h.2 (ni rfl))).trans (hv0)
          have kn_112 : Hid (c_62 1 4 = f9) := (hF_64 1 4 (fun h => absurd h.2 (ni rfl))).trans (hid kn_111)
          have kn_113 : Hid (c_67 1 4 = f9) := (hF_69 1 4 (fun h => absurd h.2 (ni rfl))).trans (hid kn_112)
          refine v_gi (z := 4) (v := f9) c_2_1 kf_5_38 rfl (Nat.le_of_ble_eq_true rfl) rfl rfl ((up_n (by decide)).trans (hid kn_113)) (v_if_ne_t (t := 11) c_2_4 rfl ⟨by first | exact q_592765181 hq0 | omega, ⟨by first | exact q_dcb21991f h_1 hv0 | omega, by first | exact q_01469fc6b h_1 hv0 | omega⟩, by decide, by decide⟩ (q_iconst c_2_11 (v_zret c_2_12 rfl (by decide) (bk_inl (v_if_ne_f (t := 102) c_14_98 rfl (by decide) (q_vret rfl rfl ?_))))))
          have hI_114 := iw_1_2 (v := (nx (c 2) (c 1 1) (c 1 2)) + 1) hI_68 ⟨by first | exact q_2cb6e230c h_4 h_6 | omega, by first | exact q_7e08520b9 h_14 h_3 | omega⟩
          have h_115 : (up c_67 1 2 ((nx (c 2) (c 1 1) (c 1 2)) + 1)) 1 4 = f9 := ((up_n (by decide)).trans (hid kn_113))
          have kn_116 : Hid (c_9 1 5 = p9) := (hF_11 1 5 (fun h => absurd h.2 (ni rfl))).trans (hv1)
          have kn_117 : Hid (c_62 1 5 = p9) := (hF_64 1 5 (fun h => absurd h.2 (ni rfl))).trans (hid kn_116)
          have kn_118 : Hid (c_67 1 5 = p9) := (hF_69 1 5 (fun h => absurd h.2 (ni rfl))).trans (hid kn_117)
          have h_119 : (up c_67 1 2 ((nx (c 2) (c 1 1) (c 1 2)) + 1)) 1 5 = p9 := ((up_n (by decide)).trans (hid kn_118))
          exact K0 (up c_67 1 2 ((nx (c 2) (c 1 1) (c 1 2)) + 1)) hI_114 (fun a j hm => (up_b (Decidable.or_iff_not_imp_left.mpr (fun h1 h2 => hm (Or.inl ⟨Decidable.not_not.mp h1, h2⟩)))).trans ((hF_69 a j (fun h => hm (Or.inl h))).trans ((hF_64 a j (fun h => hm (Or.inl h))).trans (hF_11 a j (fun h => hm (Or.inl h)))))) h_115 h_119
        · refine v_ic_lt_f (t := 94) c_14_85 rfl ⟨by decide, (Int.not_lt.mp h_110), (Int.le_trans ha2.2 (by decide))⟩ (q_aload_n c_14_88 rfl (q_iconst c_14_89 (q_iload_n c_14_90 rfl (v_cv c_14_91 km_0_86 rfl rfl (Nat.le_of_ble_eq_true rfl) ⟨⟨rfl, rfl⟩, Nat.le_of_ble_eq_true rfl, rfl⟩ (Nat.le_of_ble_eq_true rfl) (Nat.le_of_ble_eq_true rfl) (q_aload_n c_7_0 rfl ?_)))))
          have kn_120 : Hid (c_9 1 4 = f9) := (hF_11 1 4 (fun h => absurd h.2 (ni rfl))).trans (hv0)
          have kn_121 : Hid (c_62 1 4 = f9) := (hF_64 1 4 (fun h => absurd h.2 (ni rfl))).trans (hid kn_120)
          have kn_122 : Hid (c_67 1 4 = f9) := (hF_69 1 4 (fun h => absurd h.2 (ni rfl))).trans (hid kn_121)
          refine v_gi (z := 4) (v := f9) c_7_1 kf_5_38 rfl (Nat.le_of_ble_eq_true rfl) rfl rfl ((up_n (by decide)).trans (hid kn_122)) (v_if_ne_t (t := 17) c_7_4 rfl ⟨by first | exact q_592765181 hq0 | omega, ⟨by first | exact q_dcb21991f h_1 hv0 | omega, by first | exact q_01469fc6b h_1 hv0 | omega⟩, by decide, by decide⟩ (q_vret rfl rfl (bk_inl (q_aload_n c_14_94 rfl (v_cv c_14_95 km_0_40 rfl rfl (Nat.le_of_ble_eq_true rfl) ⟨⟨rfl, rfl⟩, Nat.le_of_ble_eq_true rfl, rfl⟩ (Nat.le_of_ble_eq_true rfl) (Nat.le_of_ble_eq_true rfl) (q_aload_n c_2_0 rfl (v_gi (z := 4) (v := f9) c_2_1 kf_5_38 rfl (Nat.le_of_ble_eq_true rfl) rfl rfl ((up_n (by decide)).trans (hid kn_122)) ?_)))))))
          refine v_if_ne_t (t := 11) c_2_4 rfl ⟨by first | exact q_592765181 hq0 | omega, ⟨by first | exact q_dcb21991f h_1 hv0 | omega, by first | exact q_01469fc6b h_1 hv0 | omega⟩, by decide, by decide⟩ (q_iconst c_2_11 (v_zret c_2_12 rfl (by decide) (bk_inl (v_if_ne_f (t := 102) c_14_98 rfl (by decide) (q_vret rfl rfl ?_)))))
          have hI_123 := iw_1_2 (v := (nx (c 2) (c 1 1) (c 1 2)) + 1) hI_68 ⟨by first | exact q_2cb6e230c h_4 h_6 | omega, by first | exact q_7e08520b9 h_14 h_3 | omega⟩
          have h_124 : (up c_67 1 2 ((nx (c 2) (c 1 1) (c 1 2)) + 1)) 1 4 = f9 := ((up_n (by decide)).trans (hid kn_122))
          have kn_125 : Hid (c_9 1 5 = p9) := (hF_11 1 5 (fun h => absurd h.2 (ni rfl))).trans (hv1)
          have kn_126 : Hid (c_62 1 5 = p9) := (hF_64 1 5 (fun h => absurd h.2 (ni rfl))).trans (hid kn_125)
          have kn_127 : Hid (c_67 1 5 = p9) := (hF_69 1 5 (fun h => absurd h.2 (ni rfl))).trans (hid kn_126)
          have h_128 : (up c_67 1 2 ((nx (c 2) (c 1 1) (c 1 2)) + 1)) 1 5 = p9 := ((up_n (by decide)).trans (hid kn_127))
          exact K0 (up c_67 1 2 ((nx (c 2) (c 1 1) (c 1 2)) + 1)) hI_123 (fun a j hm => (up_b (Decidable.or_iff_not_imp_left.mpr (fun h1 h2 => hm (Or.inl ⟨Decidable.not_not.mp h1, h2⟩)))).trans ((hF_69 a j (fun h => hm (Or.inl h))).trans ((hF_64 a j (fun h => hm (Or.inl h))).trans (hF_11 a j (fun h => hm (Or.inl h)))))) h_124 h_128
    · refine v_ic_lt_f (t := 39) c_6_21 rfl ⟨by decide, (Int.not_lt.mp h_61), h_7.2⟩ (q_aload_n c_6_24 rfl (v_gr (t := 2) c_6_25 kf_5_9 rfl (Nat.le_of_ble_eq_true rfl) rfl (q_iload_n c_6_28 rfl (v_ba (v := c 2 (nx (c 2) (c 1 1) (c 1 2))) c_6_29 rfl (by decide) (by decide) ⟨by first | exact q_c1bbacda5 h_4 h_6 | omega, by first | exact q_9c91a4797 h_14 h_3 | omega⟩ (hid kn_60) (v_bip c_6_30 (by decide) ?_)))))
      by_cases h_129 : c 2 (nx (c 2) (c 1 1) (c 1 2)) > 57
      · refine v_ic_gt_t (t := 39) c_6_32 rfl ⟨by decide, h_129, h_7.2⟩ (q_iconst c_6_39 (v_zret c_6_40 rfl (by decide) (bk_inl (v_if_eq_t (t := 19) c_14_4 rfl (by decide) (q_aload_n c_14_19 rfl (v_cv c_14_20 km_0_75 rfl rfl (Nat.le_of_ble_eq_true rfl) ⟨⟨rfl, rfl⟩, Nat.le_of_ble_eq_true rfl, rfl⟩ (Nat.le_of_ble_eq_true rfl) (Nat.le_of_ble_eq_true rfl) (f_3 (e1 := c 1 1) (a9 := (nx (c 2) (c 1 1) (c 1 2))) (B := c 2) (r8 := (nx (c 2) (c 1 1) (c 1 2))) hI_10 ((hid kn_13)) ((hz_12)) (fun j => hF_11 2 j (fun h => absurd h.1 (nn rfl))) (nx_z (Or.inr (by first | exact q_59f47542e h_129 | omega))) (fun c_130 hI_131 hF_132 hz_133 => (bk_inl ?_)))))))))
        refine q_istore_n c_14_23 (Nat.le_of_ble_eq_true rfl) (q_aload_n c_14_24 rfl (q_ldc_s c_14_25 rfl rfl (by decide) (v_cv c_14_27 km_0_55 rfl rfl (Nat.le_of_ble_eq_true rfl) ⟨⟨rfl, rfl⟩, Nat.le_of_ble_eq_true rfl, rfl⟩ (Nat.le_of_ble_eq_true rfl) (Nat.le_of_ble_eq_true rfl) (q_aload_n c_4_0 rfl ?_))))
        have kn_134 : Hid (c_130 1 1 = c 1 1) := (hF_132 1 1 (fun h => absurd h.2 (ni rfl))).trans (hid kn_13)
        refine v_cv c_4_1 km_5_41 rfl rfl (Nat.le_of_ble_eq_true rfl) ⟨⟨rfl, rfl⟩, Nat.le_of_ble_eq_true rfl, rfl⟩ (Nat.le_of_ble_eq_true rfl) (Nat.le_of_ble_eq_true rfl) (f_3 (e1 := c 1 1) (a9 := (nx (c 2) (c 1 1) (c 1 2))) (B := c 2) (r8 := (nx (c 2) (c 1 1) (c 1 2))) hI_131 ((hid kn_134)) ((hz_133)) (fun j => (hF_132 2 j (fun h => absurd h.1 (nn rfl))).trans (hF_11 2 j (fun h => absurd h.1 (nn rfl)))) (nx_z (Or.inr (by first | exact q_59f47542e h_129 | omega))) (fun c_135 hI_136 hF_137 hz_138 => (bk_inl (q_istore_n c_4_4 (Nat.le_of_ble_eq_true rfl) (q_iconst c_4_5 (q_istore_n c_4_6 (Nat.le_of_ble_eq_true rfl) (q_iload_n c_4_7 rfl (q_aload_n c_4_8 rfl (v_sln 1 c_4_9 rfl (by omega) (Nat.le_of_ble_eq_true rfl) (by decide) (by decide) ?_)))))))))
        refine v_ic_ge_f (t := 55) c_4_12 rfl (by decide) (q_iload_n c_4_15 rfl (q_aload_n c_4_16 rfl ?_))
        have kn_139 : Hid (c_135 1 1 = c 1 1) := (hF_137 1 1 (fun h => absurd h.2 (ni rfl))).trans (hid kn_134)
        refine v_gi (z := 1) (v := c 1 1) c_4_17 kf_5_32 rfl (Nat.le_of_ble_eq_true rfl) rfl rfl (hid kn_139) (v_ic_ge_f (t := 55) c_4_20 rfl ⟨by first | exact q_d3451e228 h_4 h_6 | omega, by first | exact q_d17d18138 h_14 | omega, (Int.le_trans h_3.2 (by decide))⟩ (q_aload_n c_4_23 rfl (v_gr (t := 2) c_4_24 kf_5_9 rfl (Nat.le_of_ble_eq_true rfl) rfl (q_iload_n c_4_27 rfl ?_))))
        have kn_140 : Hid (c_130 2 (nx (c 2) (c 1 1) (c 1 2)) = c 2 (nx (c 2) (c 1 1) (c 1 2))) := (hF_132 2 (nx (c 2) (c 1 1) (c 1 2)) (fun h => absurd h.1 (nn rfl))).trans (hid kn_60)
        have kn_141 : Hid (c_135 2 (nx (c 2) (c 1 1) (c 1 2)) = c 2 (nx (c 2) (c 1 1) (c 1 2))) := (hF_137 2 (nx (c 2) (c 1 1) (c 1 2)) (fun h => absurd h.1 (nn rfl))).trans (hid kn_140)
        refine v_ba (v := c 2 (nx (c 2) (c 1 1) (c 1 2))) c_4_28 rfl (by decide) (by decide) ⟨by first | exact q_c1bbacda5 h_4 h_6 | omega, by first | exact q_9c91a4797 h_14 h_3 | omega⟩ (hid kn_141) (q_aload_n c_4_29 rfl (q_iload_n c_4_30 rfl (v_sch 40 c_4_31 rfl (by omega) (Nat.le_of_ble_eq_true rfl) (by decide) (by decide) (by decide) (v_ic_ne_t (t := 49) c_4_34 rfl ⟨by first | exact q_c2ef65346 h_129 | omega, ⟨h_7.1, h_7.2⟩, by decide, by decide⟩ (v_iinc (v := 1) c_4_49 rfl (Nat.le_of_ble_eq_true rfl) (by decide) (q_goto (t := 7) c_4_52 rfl (q_iload_n c_4_7 rfl ?_)))))))
        refine q_aload_n c_4_8 rfl (v_sln 1 c_4_9 rfl (by omega) (Nat.le_of_ble_eq_true rfl) (by decide) (by decide) (v_ic_ge_t (t := 55) c_4_12 rfl (by decide) (q_iconst c_4_55 (q_iret c_4_56 rfl (bk_inl (q_iconst c_14_30 (v_ic_eq_t (t := 38) c_14_31 rfl (by decide) ?_)))))))
        refine q_iconst c_14_38 (q_istore c_14_39 (Nat.le_of_ble_eq_true rfl) (q_iload c_14_41 rfl (v_if_eq_t (t := 50) c_14_43 rfl (by decide) (q_aload_n c_14_50 rfl (q_ldc_s c_14_51 rfl rfl (by decide) ?_)))))
        have kn_142 : Hid (c_9 1 4 = f9) := (hF_11 1 4 (fun h => absurd h.2 (ni rfl))).trans (hv0)
        have kn_143 : Hid (c_130 1 4 = f9) := (hF_132 1 4 (fun h => absurd h.2 (ni rfl))).trans (hid kn_142)
        have kn_144 : Hid (c_135 1 4 = f9) := (hF_137 1 4 (fun h => absurd h.2 (ni rfl))).trans (hid kn_143)
        have kn_145 : Hid (c_9 1 5 = p9) := (hF_11 1 5 (fun h => absurd h.2 (ni rfl))).trans (hv1)
        have kn_146 : Hid (c_130 1 5 = p9) := (hF_132 1 5 (fun h => absurd h.2 (ni rfl))).trans (hid kn_145)
        have kn_147 : Hid (c_135 1 5 = p9) := (hF_137 1 5 (fun h => absurd h.2 (ni rfl))).trans (hid kn_146)
        have h_148 := ln_be (b := c 2) (e := c 1 1) (a := (nx (c 2) (c 1 1) (c 1 2))) (by first | exact q_5fcb01701 h_14 | omega)
        refine v_cv c_14_53 km_0_83 rfl rfl (Nat.le_of_ble_eq_true rfl) ⟨⟨rfl, rfl⟩, Nat.le_of_ble_eq_true rfl, rfl⟩ (Nat.le_of_ble_eq_true rfl) (Nat.le_of_ble_eq_true rfl) (f_10_1 (e1 := c 1 1) (a9 := (nx (c 2) (c 1 1) (c 1 2))) (f9 := f9) (p9 := p9) (B := c 2) (r8 := (nx (c 2) (c 1 1) (c 1 2))) (L8 := (ln (c 2) (c 1 1) (nx (c 2) (c 1 1) (c 1 2)))) (W8 := (wd1_0 (c 2) (nx (c 2) (c 1 1) (c 1 2)) (ln (c 2) (c 1 1) (nx (c 2) (c 1 1) (c 1 2))))) hI_136 ((hid kn_139)) ((hz_138)) ((hid kn_144)) ((hid kn_147)) (fun j => (hF_137 2 j (fun h => absurd h.1 (nn rfl))).trans ((hF_132 2 j (fun h => absurd h.1 (nn rfl))).trans (hF_11 2 j (fun h => absurd h.1 (nn rfl))))) (nx_z (Or.inr (by first | exact q_59f47542e h_129 | omega))) rfl rfl (fun c_149 hI_150 hF_151 h_152 hz_153 hz_154 hz_155 => (bk_inl (q_istore c_14_56 (Nat.le_of_ble_eq_true rfl) (q_iload c_14_58 rfl (q_iconst c_14_60 (v_ic_eq_t (t := 82) c_14_61 rfl (by decide) (q_iload_n c_14_82 rfl (v_bip c_14_83 (by decide) ?_)))))))) (fun c_156 hI_157 hF_158 h_159 h_160 hz_161 hz_162 hz_163 => by exfalso; omega) (fun c_164 hI_165 hF_166 h_167 h_168 hz_169 hz_170 hz_171 => by exfalso; omega))
        by_cases h_172 : a2 < 6
        · refine v_ic_lt_t (t := 94) c_14_85 rfl ⟨(Int.le_trans (by decide) ha2.1), h_172, by decide⟩ (q_aload_n c_14_94 rfl (v_cv c_14_95 km_0_40 rfl rfl (Nat.le_of_ble_eq_true rfl) ⟨⟨rfl, rfl⟩, Nat.le_of_ble_eq_true rfl, rfl⟩ (Nat.le_of_ble_eq_true rfl) (Nat.le_of_ble_eq_true rfl) (q_aload_n c_2_0 rfl (v_gi (z := 4) (v := f9) c_2_1 kf_5_38 rfl (Nat.le_of_ble_eq_true rfl) rfl rfl (hz_154) (v_if_ne_t (t := 11) c_2_4 rfl ⟨by first | exact q_592765181 hq0 | omega, ⟨by first | exact q_dcb21991f h_1 hv0 | omega, by first | exact q_01469fc6b h_1 hv0 | omega⟩, by decide, by decide⟩ (q_iconst c_2_11 (v_zret c_2_12 rfl (by decide) ?_)))))))
          refine bk_inl (v_if_ne_f (t := 102) c_14_98 rfl (by decide) (q_vret rfl rfl ?_))
          have h_173 : c_149 1 4 = f9 := (hz_154)
          have h_174 : c_149 1 5 = p9 := (hz_155)
          exact K0 c_149 hI_150 (fun a j hm => (hF_151 a j (qv_59471db0f hm)).trans ((hF_137 a j (fun h => hm (Or.inl h))).trans ((hF_132 a j (fun h => hm (Or.inl h))).trans (hF_11 a j (fun h => hm (Or.inl h)))))) h_173 h_174
        · refine v_ic_lt_f (t := 94) c_14_85 rfl ⟨by decide, (Int.not_lt.mp h_172), (Int.le_trans ha2.2 (by decide))⟩ (q_aload_n c_14_88 rfl (q_iconst c_14_89 (q_iload_n c_14_90 rfl (v_cv c_14_91 km_0_86 rfl rfl (Nat.le_of_ble_eq_true rfl) ⟨⟨rfl, rfl⟩, Nat.le_of_ble_eq_true rfl, rfl⟩ (Nat.le_of_ble_eq_true rfl) (Nat.le_of_ble_eq_true rfl) (q_aload_n c_7_0 rfl (v_gi (z := 4) (v := f9) c_7_1 kf_5_38 rfl (Nat.le_of_ble_eq_true rfl) rfl rfl (hz_154) (v_if_ne_t (t := 17) c_7_4 rfl ⟨by first | exact q_592765181 hq0 | omega, ⟨by first | exact q_dcb21991f h_1 hv0 | omega, by first | exact q_01469fc6b h_1 hv0 | omega⟩, by decide, by decide⟩ ?_)))))))
          refine q_vret rfl rfl (bk_inl (q_aload_n c_14_94 rfl (v_cv c_14_95 km_0_40 rfl rfl (Nat.le_of_ble_eq_true rfl) ⟨⟨rfl, rfl⟩, Nat.le_of_ble_eq_true rfl, rfl⟩ (Nat.le_of_ble_eq_true rfl) (Nat.le_of_ble_eq_true rfl) (q_aload_n c_2_0 rfl (v_gi (z := 4) (v := f9) c_2_1 kf_5_38 rfl (Nat.le_of_ble_eq_true rfl) rfl rfl (hz_154) (v_if_ne_t (t := 11) c_2_4 rfl ⟨by first | exact q_592765181 hq0 | omega, ⟨by first | exact q_dcb21991f h_1 hv0 | omega, by first | exact q_01469fc6b h_1 hv0 | omega⟩, by decide, by decide⟩ (q_iconst c_2_11 ?_)))))))
          refine v_zret c_2_12 rfl (by decide) (bk_inl (v_if_ne_f (t := 102) c_14_98 rfl (by decide) (q_vret rfl rfl ?_)))
          have h_175 : c_149 1 4 = f9 := (hz_154)
          have h_176 : c_149 1 5 = p9 := (hz_155)
          exact K0 c_149 hI_150 (fun a j hm => (hF_151 a j (qv_59471db0f hm)).trans ((hF_137 a j (fun h => hm (Or.inl h))).trans ((hF_132 a j (fun h => hm (Or.inl h))).trans (hF_11 a j (fun h => hm (Or.inl h)))))) h_175 h_176
      · refine v_ic_gt_f (t := 39) c_6_32 rfl ⟨h_7.1, (Int.not_lt.mp h_129), by decide⟩ (q_iconst c_6_35 (q_goto (t := 40) c_6_36 rfl (v_zret c_6_40 rfl (by decide) (bk_inl (v_if_eq_f (t := 19) c_14_4 rfl (by decide) (q_aload_n c_14_7 rfl (q_aload_n c_14_8 rfl ?_)))))))
        refine v_sip c_14_9 (by decide) ?_
        have kn_177 : Hid (c_9 1 4 = f9) := (hF_11 1 4 (fun h => absurd h.2 (ni rfl))).trans (hv0)
        have kn_178 : Hid (c_9 1 5 = p9) := (hF_11 1 5 (fun h => absurd h.2 (ni rfl))).trans (hv1)
        have h_179 := dg_bd (b := c 2) (e := c 1 1) (a := (nx (c 2) (c 1 1) (c 1 2))) (v := 0) (by decide)
        have h_180 := dg_p (b := c 2) (e := c 1 1) (a := (nx (c 2) (c 1 1) (c 1 2))) (v := 0) (by decide)
        refine v_cv c_14_12 km_0_71 rfl rfl (Nat.le_of_ble_eq_true rfl) ⟨⟨rfl, rfl⟩, Nat.le_of_ble_eq_true rfl, rfl⟩ (Nat.le_of_ble_eq_true rfl) (Nat.le_of_ble_eq_true rfl) (f_8 (a1 := 999) (e1 := c 1 1) (a9 := (nx (c 2) (c 1 1) (c 1 2))) (f9 := f9) (p9 := p9) (B := c 2) (r8 := (nx (c 2) (c 1 1) (c 1 2))) (D8 := (dg (c 2) (c 1 1) (nx (c 2) (c 1 1) (c 1 2)) 0).1) (V8 := (dg (c 2) (c 1 1) (nx (c 2) (c 1 1) (c 1 2)) 0).2) hI_10 (show (-1) ≤ 999 ∧ 999 ≤ 9999 from ⟨by decide, by decide⟩) ((hid kn_13)) ((hz_12)) ((hid kn_177)) ((hid kn_178)) (fun j => hF_11 2 j (fun h => absurd h.1 (nn rfl))) (nx_z (Or.inr (by first | exact q_b2d47498f h_61 | omega))) rfl rfl (fun c_181 hI_182 hF_183 h_184 hz_185 hz_186 hz_187 => (bk_inl (v_cv c_14_15 km_0_59 rfl (ck_p7 hA) (a68 hA rfl) ⟨⟨rfl, rfl⟩, by decide, rfl⟩ (Nat.le_of_ble_eq_true rfl) (Nat.le_of_ble_eq_true rfl) (q_aload_n c_5_0 rfl ?_)))) (fun c_188 hI_189 hF_190 h_191 h_192 hz_193 hz_194 hz_195 => by exfalso; omega) (fun c_196 hI_197 hF_198 h_199 h_200 h_201 hz_202 hz_203 hz_204 => by exfalso; omega) (fun c_205 hI_206 hF_207 h_208 h_209 h_210 hz_211 hz_212 hz_213 => by exfalso; omega))
        have h_214 := ir_p7_5 hI hA
        have kn_215 : Hid (c_9 (A + 7) 5 = c (A + 7) 5) := hF_11 (A + 7) 5 (fun h => absurd h.1 (np hA rfl rfl))
        have kn_216 : Hid (c_181 (A + 7) 5 = c (A + 7) 5) := (hF_183 (A + 7) 5 (qn_3e7b2eb2a hA)).trans (hid kn_215)
        refine v_gi (z := 5) (v := c (A + 7) 5) c_5_1 kf_0_28 (ck_p7 hA) (a68 hA rfl) rfl rfl (hid kn_216) (q_aload_n c_5_4 rfl (v_gr (t := (A + 9)) c_5_5 kf_0_15 (ck_p7 hA) (a68 hA rfl) rfl (v_al c_5_8 (ck_p9 hA) (a68 hA rfl) (by decide) ?_)))
        by_cases h_217 : c (A + 7) 5 ≥ 150
        · refine v_ic_ge_t (t := 32) c_5_9 rfl ⟨by decide, h_217, by first | exact q_b7d7f2b1a h_214 | omega⟩ (q_vret rfl rfl (bk_inl (q_vret rfl rfl ?_)))
          have h_218 : c_181 1 4 = f9 := (hz_186)
          have h_219 : c_181 1 5 = p9 := (hz_187)
          exact K0 c_181 hI_182 (fun a j hm => (hF_183 a j (qv_59471db0f hm)).trans (hF_11 a j (fun h => hm (Or.inl h)))) h_218 h_219
        · refine v_ic_ge_f (t := 32) c_5_9 rfl ⟨by first | exact q_7c38ad3f6 h_214 | omega, (Int.not_le.mp h_217), by decide⟩ (q_aload_n c_5_12 rfl (v_gr (t := (A + 9)) c_5_13 kf_0_15 (ck_p7 hA) (a68 hA rfl) rfl (q_aload_n c_5_16 rfl (v_gi (z := 5) (v := c (A + 7) 5) c_5_17 kf_0_28 (ck_p7 hA) (a68 hA rfl) rfl rfl (hid kn_216) (q_iload_n c_5_20 rfl (v_is c_5_21 (ck_p9 hA) (a68 hA rfl) (by decide) ⟨by first | exact q_47cb9e6c6 h_214 | omega, by first | exact q_cc605f3b6 h_217 | omega⟩ (q_aload_n c_5_22 rfl ?_)))))))
          refine q_dup c_5_23 rfl (v_gi (z := 5) (v := c (A + 7) 5) c_5_24 kf_0_28 (ck_p7 hA) (a68 hA rfl) rfl rfl ((up_c (pp rfl)).trans (hid kn_216)) (q_iconst c_5_27 (v_iadd (v := c (A + 7) 5 + 1) c_5_28 rfl (v_pi (z := 5) c_5_29 kf_0_28 (ck_p7 hA) (a68 hA rfl) rfl rfl rfl (by decide) (q_vret rfl rfl (bk_inl (q_vret rfl rfl ?_)))))))
          have hI_220 := iw_lg (j := c (A + 7) 5) (v := 0) hI_182 (lgp (k := 9) hA (by decide)) ⟨by decide, by decide⟩ (by omega)
          have hI_221 := iw_p7_5 (v := c (A + 7) 5 + 1) hI_220 hA ⟨by first | exact q_963b07f31 h_214 | omega, by first | exact q_e92c430a0 h_217 | omega⟩
          have h_222 : (up (up c_181 (A + 9) (c (A + 7) 5) 0) (A + 7) 5 (c (A + 7) 5 + 1)) 1 4 = f9 := ((up_c (pn hA rfl rfl)).trans ((up_c (pn hA rfl rfl)).trans (hz_186)))
          have h_223 : (up (up c_181 (A + 9) (c (A + 7) 5) 0) (A + 7) 5 (c (A + 7) 5 + 1)) 1 5 = p9 := ((up_c (pn hA rfl rfl)).trans ((up_c (pn hA rfl rfl)).trans (hz_187)))
          exact K0 (up (up c_181 (A + 9) (c (A + 7) 5) 0) (A + 7) 5 (c (A + 7) 5 + 1)) hI_221 (fun a j hm => (up_b (Decidable.or_iff_not_imp_left.mpr (fun h1 h2 => hm (Or.inr (Or.inr (Or.inr (Or.inl ⟨Decidable.not_not.mp h1, h2⟩))))))).trans ((up_b (Decidable.or_iff_not_imp_left.mpr (fun h1 h2 => hm (Or.inr (Or.inr (Or.inr (Or.inr (Decidable.not_not.mp h1)))))))).trans ((hF_183 a j (qv_59471db0f hm)).trans (hF_11 a j (fun h => hm (Or.inl h)))))) h_222 h_223

set_option maxRecDepth 100000 in
set_option maxHeartbeats 4000000 in
theorem b_12 {sc : List Int32} {e : Int} {d u P Q A : Nat} {c : ME} {f9 p9 a2 : Int} {Z : AR → Prop} (hI : Iv u e P Q c) (hA : A = 13 ∨ A = 25) (ha2 : 0 ≤ a2 ∧ a2 ≤ 6) (hq0 : (f9 ≠ 0)) (hv0 : c 1 4 = f9) (hv1 : c 1 5 = p9) (K0 : ∀ c2 : ME, Iv u e P Q c2 → (∀ (a : Nat) (j : Int), ¬ ((a = 1 ∧ j = 2) ∨ (a = 1 ∧ j = 4) ∨ (a = 1 ∧ j = 5) ∨ (a = (A + 7) ∧ j = 5) ∨ a = (A + 9)) → c2 a j = c a j) → (c2 1 4 = f9) → (c2 1 5 = p9) → Z (.inl (none), Wd P Q P P c2, 0, 0)) : Wp sc (d + 15) 12 0 [(0, .ref (A + 7)), (1, .ref 1), (2, vi a2)] [] (Wd P Q P P c) 0 0 Z := by
  have hP := iv_P hI
  have hQ := iv_Q hI
  have h_1 := ir_1_4 hI
  have h_2 := ir_1_5 hI
  refine q_aload_n c_12_0 rfl (q_aload_n c_12_1 rfl (q_iload_n c_12_2 rfl (v_cv c_12_3 km_0_63 rfl (ck_p7 hA) (a68 hA rfl) ⟨⟨rfl, rfl⟩, by decide, rfl⟩ (Nat.le_of_ble_eq_true rfl) (Nat.le_of_ble_eq_true rfl) (b_14 (a2 := a2) (f9 := f9) (p9 := p9) hI hA (show 0 ≤ a2 ∧ a2 ≤ 6 from ha2) (by omega) ((hv0)) ((hv1)) (fun c_3 hI_4 hF_5 hz_6 hz_7 => (bk_inl (q_iconst c_12_6 (q_istore_n c_12_7 (Nat.le_of_ble_eq_true rfl) (q_iload_n c_12_8 rfl ?_)))))))))
  refine v_sip c_12_9 (by decide) (v_ic_ge_f (t := 59) c_12_12 rfl (by decide) (q_aload_n c_12_15 rfl (v_cv c_12_16 km_0_40 rfl rfl (Nat.le_of_ble_eq_true rfl) ⟨⟨rfl, rfl⟩, Nat.le_of_ble_eq_true rfl, rfl⟩ (Nat.le_of_ble_eq_true rfl) (Nat.le_of_ble_eq_true rfl) (q_aload_n c_2_0 rfl (v_gi (z := 4) (v := f9) c_2_1 kf_5_38 rfl (Nat.le_of_ble_eq_true rfl) rfl rfl (hz_6) (v_if_ne_t (t := 11) c_2_4 rfl ⟨by first | exact q_592765181 hq0 | omega, ⟨by first | exact q_dcb21991f h_1 hv0 | omega, by first | exact q_01469fc6b h_1 hv0 | omega⟩, by decide, by decide⟩ (q_iconst c_2_11 ?_)))))))
  refine v_zret c_2_12 rfl (by decide) (bk_inl (v_if_eq_t (t := 59) c_12_19 rfl (by decide) (q_vret rfl rfl ?_)))
  have h_8 : c_3 1 4 = f9 := (hz_6)
  have h_9 : c_3 1 5 = p9 := (hz_7)
  exact K0 c_3 hI_4 (fun a j hm => hF_5 a j hm) h_8 h_9

set_option maxRecDepth 100000 in
set_option maxHeartbeats 4000000 in
theorem b_13 {sc : List Int32} {e : Int} {d u P Q A : Nat} {c : ME} {f9 p9 a2 : Int} {Z : AR → Prop} (hI : Iv u e P Q c) (hA : A = 13 ∨ A = 25) (ha2 : 0 ≤ a2 ∧ a2 ≤ 6) (hq0 : (f9 ≠ 0)) (hv0 : c 1 4 = f9) (hv1 : c 1 5 = p9) (K0 : ∀ c2 : ME, Iv u e P Q c2 → (∀ (a : Nat) (j : Int), ¬ ((a = 1 ∧ j = 2) ∨ (a = 1 ∧ j = 4) ∨ (a = 1 ∧ j = 5) ∨ (a = (A + 7) ∧ j = 5) ∨ a = (A + 9)) → c2 a j = c a j) → (c2 1 4 = f9) → (c2 1 5 = p9) → Z (.inl (none), Wd P Q P P c2, 0, 0)) : Wp sc (d + 16) 13 0 [(0, .ref (A + 7)), (1, .ref 1), (2, vi a2)] [] (Wd P Q P P c) 0 0 Z := by
  have hP := iv_P hI
  have hQ := iv_Q hI
  have h_1 := ir_1_4 hI
  have h_2 := ir_1_5 hI
  refine q_aload_n c_13_0 rfl (q_aload_n c_13_1 rfl (q_iload_n c_13_2 rfl (v_cv c_13_3 km_0_50 rfl (ck_p7 hA) (a68 hA rfl) ⟨⟨rfl, rfl⟩, by decide, rfl⟩ (Nat.le_of_ble_eq_true rfl) (Nat.le_of_ble_eq_true rfl) (b_12 (a2 := a2) (f9 := f9) (p9 := p9) hI hA (show 0 ≤ a2 ∧ a2 ≤ 6 from ha2) (by omega) ((hv0)) ((hv1)) (fun c_3 hI_4 hF_5 hz_6 hz_7 => (bk_inl (q_iconst c_13_6 (q_istore_n c_13_7 (Nat.le_of_ble_eq_true rfl) (q_iload_n c_13_8 rfl ?_)))))))))
  refine v_sip c_13_9 (by decide) (v_ic_ge_f (t := 59) c_13_12 rfl (by decide) (q_aload_n c_13_15 rfl (v_cv c_13_16 km_0_40 rfl rfl (Nat.le_of_ble_eq_true rfl) ⟨⟨rfl, rfl⟩, Nat.le_of_ble_eq_true rfl, rfl⟩ (Nat.le_of_ble_eq_true rfl) (Nat.le_of_ble_eq_true rfl) (q_aload_n c_2_0 rfl (v_gi (z := 4) (v := f9) c_2_1 kf_5_38 rfl (Nat.le_of_ble_eq_true rfl) rfl rfl (hz_6) (v_if_ne_t (t := 11) c_2_4 rfl ⟨by first | exact q_592765181 hq0 | omega, ⟨by first | exact q_dcb21991f h_1 hv0 | omega, by first | exact q_01469fc6b h_1 hv0 | omega⟩, by decide, by decide⟩ (q_iconst c_2_11 ?_)))))))
  refine v_zret c_2_12 rfl (by decide) (bk_inl (v_if_eq_t (t := 59) c_13_19 rfl (by decide) (q_vret rfl rfl ?_)))
  have h_8 : c_3 1 4 = f9 := (hz_6)
  have h_9 : c_3 1 5 = p9 := (hz_7)
  exact K0 c_3 hI_4 (fun a j hm => hF_5 a j hm) h_8 h_9

set_option maxRecDepth 100000 in
set_option maxHeartbeats 4000000 in
theorem r_14 {sc : List Int32} {e : Int} {d u P Q A : Nat} {c : ME} {a2 : Int} {Z : AR → Prop} (hI : Iv u e P Q c) (hA : A = 13 ∨ A = 25) (ha2 : 0 ≤ a2 ∧ a2 ≤ 6) (K : ∀ (c2 : ME), Iv u e P Q c2 → (∀ (a : Nat) (j : Int), ¬ ((a = 1 ∧ j = 2) ∨ (a = 1 ∧ j = 4) ∨ (a = 1 ∧ j = 5) ∨ (a = (A + 7) ∧ j = 5) ∨ a = (A + 9)) → c2 a j = c a j) → Z (.inl (none), Wd P Q P P c2, 0, 0)) : Wp sc (d + 33) 14 0 [(0, .ref (A + 7)), (1, .ref 1), (2, vi a2)] [] (Wd P Q P P c) 0 0 Z :=
  s_14 (d := d + 21) hI hA ha2 (fun c9 Z9 h hI9 K9 => r_13 (d := d) hI9 hA ⟨by omega, h⟩ K9) K
set_option maxRecDepth 100000 in
set_option maxHeartbeats 4000000 in
theorem r_12 {sc : List Int32} {e : Int} {d u P Q A : Nat} {c : ME} {a2 : Int} {Z : AR → Prop} (hI : Iv u e P Q c) (hA : A = 13 ∨ A = 25) (ha2 : 0 ≤ a2 ∧ a2 ≤ 6) (K : ∀ (c2 : ME), Iv u e P Q c2 → (∀ (a : Nat) (j : Int), ¬ ((a = 1 ∧ j = 2) ∨ (a = 1 ∧ j = 4) ∨ (a = 1 ∧ j = 5) ∨ (a = (A + 7) ∧ j = 5) ∨ a = (A + 9)) → c2 a j = c a j) → Z (.inl (none), Wd P Q P P c2, 0, 0)) : Wp sc (d + 34) 12 0 [(0, .ref (A + 7)), (1, .ref 1), (2, vi a2)] [] (Wd P Q P P c) 0 0 Z :=
  s_12 (d := d + 21) hI hA ha2 (fun c9 Z9 h hI9 K9 => r_13 (d := d) hI9 hA ⟨by omega, h⟩ K9) K

set_option maxRecDepth 100000 in
set_option maxHeartbeats 4000000 in
theorem L_8 {sc : List Int32} {e eg : Int} {d dh u ug P Q P2 Q2 : Nat} {c m m9 : ME} {a2 yg e1 a9 f0 : Int} {F H : Int → Int} {Z : AR → Prop} (hI : Iv u e P2 Q2 c) (hJ : Iv ug eg P Q m) (hJ9 : Iv ug eg P Q m9) (ha2 : (-1) ≤ a2 ∧ a2 ≤ 9999) (hyg : 0 ≤ yg ∧ yg ≤ 9999) (hg_e1 : m 1 1 = e1) (hr_e1 : c 41 3 = e1) (hg_a9 : m 1 2 = a9) (hg_f0 : m 1 4 = f0) (hF : ∀ j : Int, m 2 j = F j) (hH : ∀ j : Int, c 43 j = H j) (hU : Ub F H) (hRt : Rt m c) (hG : Wp sc (dh + 14) 8 0 [(0, .ref 1), (1, vi a2)] [] (Wd P Q P P m) 0 0 (fun q => q = (.inl (some (vi yg)), Wd P Q P P m9, 0, 0))) (K : ∀ (c2 : ME) (y : Int), Iv u e P2 Q2 c2 → (∀ (a : Nat) (j : Int), ¬ ((a = 41 ∧ j = 4) ∨ (a = 41 ∧ j = 5) ∨ (a = 41 ∧ j = 6)) → c2 a j = c a j) → 0 ≤ y ∧ y ≤ 9999 → (Rt m9 c2) → ((y = yg)) → ((m9 1 4 < 0) ∨ (m9 1 4 > 0) ∨ (m9 1 2 > a9 ∧ m9 1 2 ≤ e1)) → ((m9 1 4 < 0) ∨ (m9 1 4 > 0) ∨ (f0 = 0)) → ((m9 1 4 < 0) ∨ (m9 1 4 > 0) ∨ (y ≤ a2)) → Z (.inl (some (vi y)), Wd P2 Q2 P2 P2 c2, 0, 0)) : Wp sc (d + 14) 160 0 [(0, .ref 41), (1, vi 0), (2, vi a2)] [] (Wd P2 Q2 P2 P2 c) 0 0 Z := by
  have hP := iv_P hJ
  have hQ := iv_Q hJ
  have h_1 := ir_1_1 hJ
  have h_2 := ir_41_3 hI
  have h_3 := ir_1_2 hJ
  have h_4 := ir_1_4 hJ
  refine gh hG ?_
  by_cases hs9 : m 1 4 = 0
  · skip
    have hs8 := (rt_ok hRt hs9).2.2.2
    have h_5 : -2147483648 ≤ (F a9) ∧ (F a9) ≤ 2147483647 := by rw [← hF a9]; exact ir_2 hJ a9
    have h_6 := nx_bd (b := F) (e := e1) (a := a9)
    have h_7 : -2147483648 ≤ (F (nx F e1 a9)) ∧ (F (nx F e1 a9)) ≤ 2147483647 := by rw [← hF (nx F e1 a9)]; exact ir_2 hJ (nx F e1 a9)
    have h_8 := nx_n (b := F) (e := e1) (a := a9)
    have h_9 := dg_bd (b := F) (e := e1) (a := (nx F e1 a9)) (v := 0) (by decide)
    have h_10 := dg_p (b := F) (e := e1) (a := (nx F e1 a9)) (v := 0) (by decide)
    refine f_8 (a1 := a2) (e1 := e1) (a9 := a9) (f9 := 0) (p9 := (-1)) (B := F) (r8 := (nx F e1 a9)) (D8 := (dg F e1 (nx F e1 a9) 0).1) (V8 := (dg F e1 (nx F e1 a9) 0).2) hJ (show (-1) ≤ a2 ∧ a2 ≤ 9999 from ha2) ((hg_e1)) ((hg_a9)) ((hs9)) ((hs8)) (fun j => hF j) rfl rfl rfl (fun c_11 hI_12 hF_13 h_14 hz_15 hz_16 hz_17 => by exfalso; first | (clear ha2 h_1 hg_e1 h_2 hr_e1 h_3 hg_a9 h_4 hg_f0 h_5 h_6 h_7 h_9 h_8 h_10; omega) | omega) (fun c_18 hI_19 hF_20 h_21 h_22 hz_23 hz_24 hz_25 => ?_) (fun c_26 hI_27 hF_28 h_29 h_30 h_31 hz_32 hz_33 hz_34 => ?_) (fun c_35 hI_36 hF_37 h_38 h_39 h_40 hz_41 hz_42 hz_43 => ?_)
    · skip
      intro hE_44
      have h_45 : yg = 0 := (vi_inj ⟨by omega, by omega⟩ ⟨by omega, by omega⟩ (Option.some.inj (Sum.inl.inj (Prod.mk.inj hE_44).1))).symm
      have hW : Wd P Q P P c_18 = Wd P Q P P m9 := (Prod.mk.inj (Prod.mk.inj hE_44).2).1
      have h_46 := ir_1_4 hJ9
      have h_47 : m9 1 4 = 1 := wd_fv (z := 4) 4 rfl hW rfl rfl rfl rfl (by decide) (hz_24) ⟨by decide, by decide⟩ ⟨(Int.le_trans (by decide) h_46.1), (Int.le_trans h_46.2 (by decide))⟩
      have h_48 := ir_1_2 hJ9
      have h_49 : m9 1 2 = (nx F e1 a9) := wd_fv (z := 2) 2 rfl hW rfl rfl rfl rfl (by decide) (hz_23) ⟨by first | exact q_a3bce4abb h_3 h_6 hg_a9 | omega, by first | exact q_b3bd846dd h_2 h_3 h_6 hg_a9 hr_e1 | omega⟩ ⟨(Int.le_trans (by decide) h_48.1), (Int.le_trans h_48.2 (by decide))⟩
      have h_50 := ir_1_5 hJ9
      have h_51 : m9 1 5 = (nx F e1 a9) := wd_fv (z := 5) 5 rfl hW rfl rfl rfl rfl (by decide) (hz_25) ⟨by first | exact q_17990f574 h_48 h_49 | omega, by first | exact q_757c304f4 h_48 h_49 | omega⟩ ⟨(Int.le_trans (by decide) h_50.1), (Int.le_trans h_50.2 (by decide))⟩
      have h_52 := ir_41_4 hI
      have h_53 := ir_1_5 hJ
      have h_54 := ir_41_5 hI
      have h_55 := ir_41_6 hI
      have h_56 := rt_ok hRt (by first | (clear ha2 h_1 hg_e1 h_2 hr_e1 h_3 hg_a9 hg_f0 h_5 h_6 h_7 h_9 h_21 h_45 h_46 h_47 h_48 h_49 h_50 h_51 h_52 h_53 h_54 h_55 h_8 h_10 h_22; omega) | omega)
      have hro_hRt := rt_ok hRt (by first | assumption | omega)
      have h_64 : -2147483648 ≤ (H (nx F e1 a9)) ∧ (H (nx F e1 a9)) ≤ 2147483647 := by rw [← hH (nx F e1 a9)]; exact ir_43 hI (nx F e1 a9)
      have h_65 : (nx F e1 a9) < 600 → (H (nx F e1 a9)) = (F (nx F e1 a9)) % 256 ∧ -128 ≤ (F (nx F e1 a9)) ∧ (F (nx F e1 a9)) ≤ 127 := fun q => hU (nx F e1 a9) (by omega) q
      refine f_160 (a1 := 0) (a2 := a2) (e1 := e1) (a9 := a9) (f9 := (-1)) (k9 := c 41 6) (B := H) (r8 := (nx F e1 a9)) (D8 := (dg F e1 (nx F e1 a9) 0).1) (V8 := (dg F e1 (nx F e1 a9) 0).2) hI (show 0 ≤ 0 ∧ 0 ≤ 1 from ⟨by decide, by decide⟩) (show (-1) ≤ a2 ∧ a2 ≤ 9999 from ha2) ((hr_e1)) (((hro_hRt.2.2.1).trans ((hg_a9)))) (hro_hRt.2.1) (rfl) (fun j => hH j) ((nx_tr hU ((rg_eq hg_a9 h_3).1) ((rg_eq hg_e1 h_1).2)).trans (rfl)) ((congrArg (fun q : Int × Int => q.1) (dg_tr hU (by omega) (by omega))).trans (rfl)) ((congrArg (fun q : Int × Int => q.2) (dg_tr hU (by omega) (by omega))).trans (rfl)) (fun c_57 hI_58 hF_59 h_60 hz_61 hz_62 hz_63 => by exfalso; first | (clear ha2 h_1 hg_e1 h_2 hr_e1 h_3 hg_a9 h_4 hg_f0 h_5 h_6 h_7 h_9 h_21 h_45 h_46 h_47 h_48 h_49 h_50 h_51 h_52 h_53 h_54 h_55 h_56 h_8 h_10 h_22; omega) | omega) (fun c_66 hI_67 hF_68 h_69 h_70 hz_71 hz_72 hz_73 => ?_) (fun c_74 hI_75 hF_76 h_77 h_78 h_79 hz_80 hz_81 hz_82 => by exfalso; omega) (fun c_83 hI_84 hF_85 h_86 h_87 h_88 h_89 hz_90 hz_91 hz_92 => by exfalso; omega)
      have h_93 : c_66 41 5 = (nx F e1 a9) := (hz_72)
      have h_94 : c_66 41 4 = (nx F e1 a9) := (hz_71)
      have h_95 : c_66 41 6 = 1 := (hz_73)
      exact K c_66 0 hI_67 (fun a j hm => hF_68 a j hm) ⟨by omega, by omega⟩ (rt_i2 ⟨⟨by first | exact q_5935f82f1 h_47 | omega, by first | exact q_63461c6bf h_47 | omega⟩, by first | exact q_88dc5fb99 h_51 | omega, by first | exact q_a060fbdd4 h_48 h_49 h_51 | omega, by first | exact q_69efb464e h_47 | omega⟩) (by first | (clear ha2 h_1 hg_e1 h_2 hr_e1 h_3 hg_a9 h_4 hg_f0 h_5 h_6 h_7 h_9 h_21 h_46 h_47 h_48 h_49 h_50 h_51 h_52 h_53 h_54 h_55 h_56 h_64 h_69 h_8 h_10 h_22 h_65 h_70; omega) | omega) (Or.inr (Or.inl (by first | exact q_e2d2b4ae2 h_47 | omega))) (Or.inr (Or.inl (by first | exact q_e2d2b4ae2 h_47 | omega))) (Or.inr (Or.inl (by first | exact q_e2d2b4ae2 h_47 | omega)))
    · skip
      intro hE_96
      have h_97 : yg = 0 := (vi_inj ⟨by omega, by omega⟩ ⟨by omega, by omega⟩ (Option.some.inj (Sum.inl.inj (Prod.mk.inj hE_96).1))).symm
      have hW : Wd P Q P P c_26 = Wd P Q P P m9 := (Prod.mk.inj (Prod.mk.inj hE_96).2).1
      have h_98 := ir_1_4 hJ9
      have h_99 : m9 1 4 = 2 := wd_fv (z := 4) 4 rfl hW rfl rfl rfl rfl (by decide) (hz_33) ⟨by decide, by decide⟩ ⟨(Int.le_trans (by decide) h_98.1), (Int.le_trans h_98.2 (by decide))⟩
      have h_100 := ir_1_2 hJ9
      have h_101 : m9 1 2 = (dg F e1 (nx F e1 a9) 0).1 := wd_fv (z := 2) 2 rfl hW rfl rfl rfl rfl (by decide) (hz_32) ⟨by first | (clear ha2 h_1 hg_e1 h_2 hr_e1 h_4 hg_f0 h_5 h_7 h_29 h_30 h_31 h_97 h_98 h_99 h_100 h_8 h_10; omega) | omega, by first | (clear ha2 h_3 hg_a9 h_4 hg_f0 h_5 h_6 h_7 h_29 h_31 h_97 h_98 h_99 h_100 h_8 h_10; omega) | omega⟩ ⟨(Int.le_trans (by decide) h_100.1), (Int.le_trans h_100.2 (by decide))⟩
      have h_102 := ir_1_5 hJ9
      have h_103 : m9 1 5 = (nx F e1 a9) := wd_fv (z := 5) 5 rfl hW rfl rfl rfl rfl (by decide) (hz_34) ⟨by first | exact q_a3bce4abb h_3 h_6 hg_a9 | omega, by first | exact q_6bee21a7e h_1 h_30 hg_e1 | omega⟩ ⟨(Int.le_trans (by decide) h_102.1), (Int.le_trans h_102.2 (by decide))⟩
      have h_104 := ir_41_4 hI
      have h_105 := ir_1_5 hJ
      have h_106 := ir_41_5 hI
      have h_107 := ir_41_6 hI
      have h_108 := rt_ok hRt (by first | (clear ha2 h_1 hg_e1 h_2 hr_e1 h_3 hg_a9 hg_f0 h_5 h_6 h_7 h_9 h_29 h_30 h_31 h_97 h_98 h_99 h_100 h_101 h_102 h_103 h_104 h_105 h_106 h_107 h_8 h_10; omega) | omega)
      have hro_hRt := rt_ok hRt (by first | assumption | omega)
      have h_116 : -2147483648 ≤ (H (nx F e1 a9)) ∧ (H (nx F e1 a9)) ≤ 2147483647 := by rw [← hH (nx F e1 a9)]; exact ir_43 hI (nx F e1 a9)
      have h_117 := hU (nx F e1 a9) (by first | exact q_828522d69 h_3 h_6 hg_a9 | omega) (by first | exact q_9175fc70b h_1 h_30 hg_e1 | omega)
      refine f_160 (a1 := 0) (a2 := a2) (e1 := e1) (a9 := a9) (f9 := (-1)) (k9 := c 41 6) (B := H) (r8 := (nx F e1 a9)) (D8 := (dg F e1 (nx F e1 a9) 0).1) (V8 := (dg F e1 (nx F e1 a9) 0).2) hI (show 0 ≤ 0 ∧ 0 ≤ 1 from ⟨by decide, by decide⟩) (show (-1) ≤ a2 ∧ a2 ≤ 9999 from ha2) ((hr_e1)) (((hro_hRt.2.2.1).trans ((hg_a9)))) (hro_hRt.2.1) (rfl) (fun j => hH j) ((nx_tr hU ((rg_eq hg_a9 h_3).1) ((rg_eq hg_e1 h_1).2)).trans (rfl)) ((congrArg (fun q : Int × Int => q.1) (dg_tr hU (by omega) (by omega))).trans (rfl)) ((congrArg (fun q : Int × Int => q.2) (dg_tr hU (by omega) (by omega))).trans (rfl)) (fun c_109 hI_110 hF_111 h_112 hz_113 hz_114 hz_115 => by exfalso; first | (clear ha2 h_1 hg_e1 h_2 hr_e1 h_3 hg_a9 h_4 hg_f0 h_5 h_6 h_7 h_9 h_29 h_30 h_31 h_97 h_98 h_99 h_100 h_101 h_102 h_103 h_104 h_105 h_106 h_107 h_108 h_8 h_10; omega) | omega) (fun c_118 hI_119 hF_120 h_121 h_122 hz_123 hz_124 hz_125 => by exfalso; omega) (fun c_126 hI_127 hF_128 h_129 h_130 h_131 hz_132 hz_133 hz_134 => ?_) (fun c_135 hI_136 hF_137 h_138 h_139 h_140 h_141 hz_142 hz_143 hz_144 => by exfalso; first | (clear ha2 h_1 hg_e1 h_2 hr_e1 h_3 hg_a9 h_4 hg_f0 h_5 h_6 h_7 h_9 h_29 h_30 h_97 h_98 h_99 h_100 h_101 h_102 h_103 h_104 h_105 h_106 h_107 h_108 h_116 h_117 h_8 h_10; omega) | omega)
      have h_145 : c_126 41 5 = (nx F e1 a9) := (hz_133)
      have h_146 : c_126 41 4 = (dg F e1 (nx F e1 a9) 0).1 := (hz_132)
      have h_147 : c_126 41 6 = 2 := (hz_134)
      exact K c_126 0 hI_127 (fun a j hm => hF_128 a j hm) ⟨by omega, by omega⟩ (rt_i2 ⟨⟨by first | exact q_254d2140e h_99 | omega, by first | exact q_6ff6db68e h_99 | omega⟩, by first | exact q_88dc5fb99 h_103 | omega, by first | exact q_99ecb86e9 h_103 h_3 h_6 hg_a9 | omega, by first | exact q_8af79aa5c h_99 | omega⟩) (by first | (clear ha2 h_1 hg_e1 h_2 hr_e1 h_3 hg_a9 h_4 hg_f0 h_5 h_6 h_7 h_9 h_29 h_30 h_31 h_98 h_99 h_100 h_101 h_102 h_103 h_104 h_105 h_106 h_107 h_108 h_116 h_117 h_129 h_130 h_8 h_10 h_131; omega) | omega) (Or.inr (Or.inl (by first | exact q_8d38fc194 h_99 | omega))) (Or.inr (Or.inl (by first | exact q_8d38fc194 h_99 | omega))) (Or.inr (Or.inl (by first | exact q_8d38fc194 h_99 | omega)))
    · skip
      intro hE_148
      have h_149 : yg = (dg F e1 (nx F e1 a9) 0).2 := (vi_inj ⟨by omega, by omega⟩ ⟨by omega, by omega⟩ (Option.some.inj (Sum.inl.inj (Prod.mk.inj hE_148).1))).symm
      have hW : Wd P Q P P c_35 = Wd P Q P P m9 := (Prod.mk.inj (Prod.mk.inj hE_148).2).1
      have h_150 := ir_1_4 hJ9
      have h_151 : m9 1 4 = 0 := wd_fv (z := 4) 4 rfl hW rfl rfl rfl rfl (by decide) (hz_42) ⟨by decide, by decide⟩ ⟨(Int.le_trans (by decide) h_150.1), (Int.le_trans h_150.2 (by decide))⟩
      have h_152 := ir_1_2 hJ9
      have h_153 : m9 1 2 = (dg F e1 (nx F e1 a9) 0).1 := wd_fv (z := 2) 2 rfl hW rfl rfl rfl rfl (by decide) (hz_41) ⟨by first | (clear ha2 h_1 hg_e1 h_2 hr_e1 h_4 hg_f0 h_5 h_7 h_38 h_39 h_40 h_149 h_150 h_151 h_152 h_8 h_10; omega) | omega, by first | (clear ha2 h_3 hg_a9 h_4 hg_f0 h_5 h_6 h_7 h_38 h_40 h_149 h_150 h_151 h_152 h_8 h_10; omega) | omega⟩ ⟨(Int.le_trans (by decide) h_152.1), (Int.le_trans h_152.2 (by decide))⟩
      have h_154 := ir_1_5 hJ9
      have h_155 : m9 1 5 = (-1) := wd_fv (z := 5) 5 rfl hW rfl rfl rfl rfl (by decide) (hz_43) ⟨by decide, by decide⟩ ⟨(Int.le_trans (by decide) h_154.1), (Int.le_trans h_154.2 (by decide))⟩
      have h_156 := ir_41_4 hI
      have h_157 := ir_1_5 hJ
      have h_158 := ir_41_5 hI
      have h_159 := ir_41_6 hI
      have h_160 := rt_ok hRt (by first | (clear ha2 h_1 hg_e1 h_2 hr_e1 h_3 hg_a9 hg_f0 h_5 h_6 h_7 h_9 h_38 h_39 h_40 h_149 h_150 h_151 h_152 h_153 h_154 h_155 h_156 h_157 h_158 h_159 h_8 h_10; omega) | omega)
      have hro_hRt := rt_ok hRt (by first | assumption | omega)
      have h_168 : -2147483648 ≤ (H (nx F e1 a9)) ∧ (H (nx F e1 a9)) ≤ 2147483647 := by rw [← hH (nx F e1 a9)]; exact ir_43 hI (nx F e1 a9)
      have h_169 := hU (nx F e1 a9) (by first | exact q_828522d69 h_3 h_6 hg_a9 | omega) (by first | exact q_9175fc70b h_1 h_39 hg_e1 | omega)
      refine f_160 (a1 := 0) (a2 := a2) (e1 := e1) (a9 := a9) (f9 := (-1)) (k9 := c 41 6) (B := H) (r8 := (nx F e1 a9)) (D8 := (dg F e1 (nx F e1 a9) 0).1) (V8 := (dg F e1 (nx F e1 a9) 0).2) hI (show 0 ≤ 0 ∧ 0 ≤ 1 from ⟨by decide, by decide⟩) (show (-1) ≤ a2 ∧ a2 ≤ 9999 from ha2) ((hr_e1)) (((hro_hRt.2.2.1).trans ((hg_a9)))) (hro_hRt.2.1) (rfl) (fun j => hH j) ((nx_tr hU ((rg_eq hg_a9 h_3).1) ((rg_eq hg_e1 h_1).2)).trans (rfl)) ((congrArg (fun q : Int × Int => q.1) (dg_tr hU (by omega) (by omega))).trans (rfl)) ((congrArg (fun q : Int × Int => q.2) (dg_tr hU (by omega) (by omega))).trans (rfl)) (fun c_161 hI_162 hF_163 h_164 hz_165 hz_166 hz_167 => by exfalso; first | (clear ha2 h_1 hg_e1 h_2 hr_e1 h_3 hg_a9 h_4 hg_f0 h_5 h_6 h_7 h_9 h_38 h_39 h_40 h_149 h_150 h_151 h_152 h_153 h_154 h_155 h_156 h_157 h_158 h_159 h_160 h_8 h_10; omega) | omega) (fun c_170 hI_171 hF_172 h_173 h_174 hz_175 hz_176 hz_177 => by exfalso; omega) (fun c_178 hI_179 hF_180 h_181 h_182 h_183 hz_184 hz_185 hz_186 => by exfalso; omega) (fun c_187 hI_188 hF_189 h_190 h_191 h_192 h_193 hz_194 hz_195 hz_196 => ?_)
      have h_197 : c_187 41 5 = (-1) := (hz_195)
      have h_198 : c_187 41 4 = (dg F e1 (nx F e1 a9) 0).1 := (hz_194)
      have h_199 : c_187 41 6 = c 41 6 := (hz_196)
      exact K c_187 ((dg F e1 (nx F e1 a9) 0).2) hI_188 (fun a j hm => hF_189 a j hm) ⟨by omega, by omega⟩ (rt_i1 ⟨by first | exact q_f6b658f58 h_150 h_151 | omega, by first | assumption | omega, by first | exact q_88dc5fb99 h_153 | omega, by first | exact q_f39655ca6 h_154 h_155 | omega⟩) (by first | exact q_88dc5fb99 h_149 | omega) (Or.inr (Or.inr ⟨by first | (clear ha2 h_1 hg_e1 h_2 hr_e1 h_3 hg_a9 h_4 hg_f0 h_5 h_7 h_9 h_38 h_40 h_149 h_150 h_151 h_152 h_154 h_155 h_156 h_157 h_158 h_159 h_160 h_168 h_169 h_190 h_191 h_192 h_193 h_8; omega) | omega, by first | (clear ha2 h_1 hg_e1 h_2 hr_e1 h_3 hg_a9 h_4 hg_f0 h_5 h_6 h_7 h_38 h_40 h_149 h_150 h_151 h_152 h_154 h_155 h_156 h_157 h_158 h_159 h_160 h_168 h_169 h_190 h_191 h_192 h_193 h_8 h_10; omega) | omega⟩)) (Or.inr (Or.inr (by first | (clear ha2 h_1 hg_e1 h_2 hr_e1 h_3 hg_a9 h_5 h_6 h_7 h_9 h_38 h_39 h_40 h_149 h_150 h_151 h_152 h_153 h_154 h_155 h_156 h_157 h_158 h_159 h_160 h_168 h_169 h_190 h_191 h_192 h_193 h_8 h_10; omega) | omega))) (Or.inr (Or.inr (by first | exact q_eb7e24553 h_40 | omega)))
  · skip
    have h_200 := ir_1_5 hJ
    have h_201 : -2147483648 ≤ (F a9) ∧ (F a9) ≤ 2147483647 := by rw [← hF a9]; exact ir_2 hJ a9
    have h_202 := nx_bd (b := F) (e := e1) (a := a9)
    have h_203 : -2147483648 ≤ (F (nx F e1 a9)) ∧ (F (nx F e1 a9)) ≤ 2147483647 := by rw [← hF (nx F e1 a9)]; exact ir_2 hJ (nx F e1 a9)
    have h_204 := nx_n (b := F) (e := e1) (a := a9)
    have h_205 := dg_bd (b := F) (e := e1) (a := (nx F e1 a9)) (v := 0) (by decide)
    have h_206 := dg_p (b := F) (e := e1) (a := (nx F e1 a9)) (v := 0) (by decide)
    refine f_8 (a1 := a2) (e1 := e1) (a9 := a9) (f9 := f0) (p9 := m 1 5) (B := F) (r8 := (nx F e1 a9)) (D8 := (dg F e1 (nx F e1 a9) 0).1) (V8 := (dg F e1 (nx F e1 a9) 0).2) hJ (show (-1) ≤ a2 ∧ a2 ≤ 9999 from ha2) ((hg_e1)) ((hg_a9)) ((hg_f0)) (rfl) (fun j => hF j) rfl rfl rfl (fun c_207 hI_208 hF_209 h_210 hz_211 hz_212 hz_213 => ?_) (fun c_214 hI_215 hF_216 h_217 h_218 hz_219 hz_220 hz_221 => by exfalso; first | (clear ha2 h_1 hg_e1 h_2 hr_e1 h_3 hg_a9 h_4 h_200 h_201 h_202 h_203 h_205 h_204 h_206; omega) | omega) (fun c_222 hI_223 hF_224 h_225 h_226 h_227 hz_228 hz_229 hz_230 => by exfalso; first | (clear ha2 h_1 hg_e1 h_2 hr_e1 h_3 hg_a9 h_4 h_200 h_201 h_202 h_203 h_205 h_204 h_206; omega) | omega) (fun c_231 hI_232 hF_233 h_234 h_235 h_236 hz_237 hz_238 hz_239 => by exfalso; first | (clear ha2 h_1 hg_e1 h_2 hr_e1 h_3 hg_a9 h_4 h_200 h_201 h_202 h_203 h_205 h_204 h_206; omega) | omega)
    intro hE_240
    have h_241 : yg = 0 := (vi_inj ⟨by omega, by omega⟩ ⟨by omega, by omega⟩ (Option.some.inj (Sum.inl.inj (Prod.mk.inj hE_240).1))).symm
    have hW : Wd P Q P P c_207 = Wd P Q P P m9 := (Prod.mk.inj (Prod.mk.inj hE_240).2).1
    have h_242 := ir_1_4 hJ9
    have h_243 : m9 1 4 = f0 := wd_fv (z := 4) 4 rfl hW rfl rfl rfl rfl (by decide) (hz_212) ⟨(Int.le_trans (by decide) (rg_eq hg_f0 h_4).1), (Int.le_trans (rg_eq hg_f0 h_4).2 (by decide))⟩ ⟨(Int.le_trans (by decide) h_242.1), (Int.le_trans h_242.2 (by decide))⟩
    have h_244 := ir_1_2 hJ9
    have h_245 : m9 1 2 = a9 := wd_fv (z := 2) 2 rfl hW rfl rfl rfl rfl (by decide) (hz_211) ⟨(Int.le_trans (by decide) (rg_eq hg_a9 h_3).1), (Int.le_trans (rg_eq hg_a9 h_3).2 (by decide))⟩ ⟨(Int.le_trans (by decide) h_244.1), (Int.le_trans h_244.2 (by decide))⟩
    have h_246 := ir_1_5 hJ9
    have h_247 : m9 1 5 = m 1 5 := wd_fv (z := 5) 5 rfl hW rfl rfl rfl rfl (by decide) (hz_213) ⟨(Int.le_trans (by decide) h_200.1), (Int.le_trans h_200.2 (by decide))⟩ ⟨(Int.le_trans (by decide) h_246.1), (Int.le_trans h_246.2 (by decide))⟩
    have h_248 := ir_41_4 hI
    have h_249 := ir_41_5 hI
    have h_250 := ir_41_6 hI
    have h_251 := rt_bad hRt (by first | exact q_d474f9e17 h_210 h_242 h_243 hg_f0 | omega)
    have hrb_hRt := rt_bad hRt (by first | exact q_5e082ea92 h_251 hg_f0 | omega)
    have h_252 : -2147483648 ≤ (F (c 41 4)) ∧ (F (c 41 4)) ≤ 2147483647 := by rw [← hF (c 41 4)]; exact ir_2 hJ (c 41 4)
    have h_253 := nx_bd (b := F) (e := e1) (a := c 41 4)
    have h_254 : -2147483648 ≤ (F (nx F e1 (c 41 4))) ∧ (F (nx F e1 (c 41 4))) ≤ 2147483647 := by rw [← hF (nx F e1 (c 41 4))]; exact ir_2 hJ (nx F e1 (c 41 4))
    have h_255 := nx_n (b := F) (e := e1) (a := c 41 4)
    have h_256 := dg_bd (b := F) (e := e1) (a := (nx F e1 (c 41 4))) (v := 0) (by decide)
    have h_257 := dg_p (b := F) (e := e1) (a := (nx F e1 (c 41 4))) (v := 0) (by decide)
    have h_265 : -2147483648 ≤ (H (nx F e1 (c 41 4))) ∧ (H (nx F e1 (c 41 4))) ≤ 2147483647 := by rw [← hH (nx F e1 (c 41 4))]; exact ir_43 hI (nx F e1 (c 41 4))
    have h_266 : (nx F e1 (c 41 4)) < 600 → (H (nx F e1 (c 41 4))) = (F (nx F e1 (c 41 4))) % 256 ∧ -128 ≤ (F (nx F e1 (c 41 4))) ∧ (F (nx F e1 (c 41 4))) ≤ 127 := fun q => hU (nx F e1 (c 41 4)) (by omega) q
    refine f_160 (a1 := 0) (a2 := a2) (e1 := e1) (a9 := c 41 4) (f9 := m 1 5) (k9 := f0) (B := H) (r8 := (nx F e1 (c 41 4))) (D8 := (dg F e1 (nx F e1 (c 41 4)) 0).1) (V8 := (dg F e1 (nx F e1 (c 41 4)) 0).2) hI (show 0 ≤ 0 ∧ 0 ≤ 1 from ⟨by decide, by decide⟩) (show (-1) ≤ a2 ∧ a2 ≤ 9999 from ha2) ((hr_e1)) (rfl) (hrb_hRt.2.1) (((hrb_hRt.2.2.2).trans ((hg_f0)))) (fun j => hH j) ((nx_tr hU (h_248.1) ((rg_eq hg_e1 h_1).2)).trans (rfl)) ((congrArg (fun q : Int × Int => q.1) (dg_tr hU (by omega) (by omega))).trans (rfl)) ((congrArg (fun q : Int × Int => q.2) (dg_tr hU (by omega) (by omega))).trans (rfl)) (fun c_258 hI_259 hF_260 h_261 hz_262 hz_263 hz_264 => ?_) (fun c_267 hI_268 hF_269 h_270 h_271 hz_272 hz_273 hz_274 => by exfalso; first | (clear ha2 h_1 hg_e1 h_2 hr_e1 h_3 hg_a9 h_4 hg_f0 h_200 h_201 h_202 h_203 h_205 h_241 h_242 h_243 h_244 h_245 h_246 h_247 h_248 h_249 h_250 h_252 h_253 h_254 h_256 h_265 h_204 h_206 h_210 h_255 h_257 h_266; omega) | omega) (fun c_275 hI_276 hF_277 h_278 h_279 h_280 hz_281 hz_282 hz_283 => by exfalso; first | (clear ha2 h_1 hg_e1 h_2 hr_e1 h_3 hg_a9 h_4 hg_f0 h_200 h_201 h_202 h_203 h_205 h_241 h_242 h_243 h_244 h_245 h_246 h_247 h_248 h_249 h_250 h_252 h_253 h_254 h_256 h_265 h_204 h_206 h_210 h_255 h_257 h_266; omega) | omega) (fun c_284 hI_285 hF_286 h_287 h_288 h_289 h_290 hz_291 hz_292 hz_293 => by exfalso; first | (clear ha2 h_1 hg_e1 h_2 hr_e1 h_3 hg_a9 h_4 hg_f0 h_200 h_201 h_202 h_203 h_205 h_241 h_242 h_243 h_244 h_245 h_246 h_247 h_248 h_249 h_250 h_252 h_253 h_254 h_256 h_265 h_204 h_206 h_210 h_255 h_257 h_266; omega) | omega)
    have h_294 : c_258 41 5 = m 1 5 := (hz_263)
    have h_295 : c_258 41 4 = c 41 4 := (hz_262)
    have h_296 : c_258 41 6 = f0 := (hz_264)
    exact K c_258 0 hI_259 (fun a j hm => hF_260 a j hm) ⟨by omega, by omega⟩ (rt_i2 ⟨⟨by first | exact q_3b8ab523e h_243 h_251 hg_f0 | omega, by first | exact q_c99d6ea93 h_242 | omega⟩, by first | exact q_88dc5fb99 h_247 | omega, by first | exact q_cb71117a2 h_247 h_251 | omega, by first | exact q_88dc5fb99 h_243 | omega⟩) (by first | (clear ha2 h_1 hg_e1 h_2 hr_e1 h_3 hg_a9 h_4 hg_f0 h_200 h_201 h_202 h_203 h_205 h_242 h_243 h_244 h_245 h_246 h_247 h_248 h_249 h_250 h_251 h_252 h_253 h_254 h_256 h_265 h_204 h_206 h_210 h_255 h_257 h_266 h_261; omega) | omega) (Or.inr (Or.inl (by first | exact q_2ce17e943 h_243 h_251 hg_f0 | omega))) (Or.inr (Or.inl (by first | exact q_2ce17e943 h_243 h_251 hg_f0 | omega))) (Or.inr (Or.inl (by first | exact q_2ce17e943 h_243 h_251 hg_f0 | omega)))

set_option maxRecDepth 100000 in
set_option maxHeartbeats 4000000 in
theorem L_11_9 {sc : List Int32} {e eg : Int} {d dh u ug P Q P2 Q2 : Nat} {c m m9 : ME} {e1 a9 f0 : Int} {F H : Int → Int} {Z : AR → Prop} (hI : Iv u e P2 Q2 c) (hJ : Iv ug eg P Q m) (hJ9 : Iv ug eg P Q m9) (hg_e1 : m 1 1 = e1) (hr_e1 : c 41 3 = e1) (hg_a9 : m 1 2 = a9) (hg_f0 : m 1 4 = f0) (hF : ∀ j : Int, m 2 j = F j) (hH : ∀ j : Int, c 43 j = H j) (hU : Ub F H) (hRt : Rt m c) (hG : Wp sc (dh + 14) 11 0 [(0, .ref 1), (1, .ref (a_SB + 9))] [] (Wd P Q P P m) 0 0 (fun q => q = (.inl (none), Wd P Q P P m9, 0, 0))) (K : ∀ (c2 : ME), Iv u e P2 Q2 c2 → (∀ (a : Nat) (j : Int), ¬ ((a = 41 ∧ j = 4) ∨ (a = 41 ∧ j = 5) ∨ (a = 41 ∧ j = 6)) → c2 a j = c a j) → (Rt m9 c2) → ((m9 1 4 < 0) ∨ (m9 1 4 > 0) ∨ (m9 1 2 > a9 ∧ m9 1 2 ≤ e1)) → ((m9 1 4 < 0) ∨ (m9 1 4 > 0) ∨ (f0 = 0)) → Z (.inl (none), Wd P2 Q2 P2 P2 c2, 0, 0)) : Wp sc (d + 14) 161 0 [(0, .ref 41), (1, vi 59)] [] (Wd P2 Q2 P2 P2 c) 0 0 Z := by
  have hP := iv_P hJ
  have hQ := iv_Q hJ
  have h_1 := ir_1_1 hJ
  have h_2 := ir_41_3 hI
  have h_3 := ir_1_2 hJ
  have h_4 := ir_1_4 hJ
  refine gh hG ?_
  by_cases hs9 : m 1 4 = 0
  · skip
    have hs8 := (rt_ok hRt hs9).2.2.2
    refine q_aload_n c_11_0 rfl (v_cv c_11_1 km_5_45 rfl rfl (Nat.le_of_ble_eq_true rfl) ⟨⟨rfl, rfl⟩, Nat.le_of_ble_eq_true rfl, rfl⟩ (Nat.le_of_ble_eq_true rfl) (Nat.le_of_ble_eq_true rfl) (q_aload_n c_2_0 rfl (v_gi (z := 4) (v := 0) c_2_1 kf_5_38 rfl (Nat.le_of_ble_eq_true rfl) rfl rfl (hs9) (v_if_ne_f (t := 11) c_2_4 rfl (by decide) (q_iconst c_2_7 (q_goto (t := 12) c_2_8 rfl (v_zret c_2_12 rfl (by decide) ?_)))))))
    refine bk_inl (v_if_eq_f (t := 25) c_11_4 rfl (by decide) (q_aload_n c_11_7 rfl (q_aload_n c_11_8 rfl (v_cv c_11_9 km_5_65 rfl rfl (Nat.le_of_ble_eq_true rfl) ⟨⟨rfl, rfl⟩, Nat.le_of_ble_eq_true rfl, rfl⟩ (Nat.le_of_ble_eq_true rfl) (Nat.le_of_ble_eq_true rfl) (q_aload_n c_4_0 rfl ?_)))))
    have h_5 : -2147483648 ≤ (F a9) ∧ (F a9) ≤ 2147483647 := by rw [← hF a9]; exact ir_2 hJ a9
    have h_6 := nx_bd (b := F) (e := e1) (a := a9)
    have h_7 : -2147483648 ≤ (F (nx F e1 a9)) ∧ (F (nx F e1 a9)) ≤ 2147483647 := by rw [← hF (nx F e1 a9)]; exact ir_2 hJ (nx F e1 a9)
    have h_8 := nx_n (b := F) (e := e1) (a := a9)
    refine v_cv c_4_1 km_5_41 rfl rfl (Nat.le_of_ble_eq_true rfl) ⟨⟨rfl, rfl⟩, Nat.le_of_ble_eq_true rfl, rfl⟩ (Nat.le_of_ble_eq_true rfl) (Nat.le_of_ble_eq_true rfl) (f_3 (e1 := e1) (a9 := a9) (B := F) (r8 := (nx F e1 a9)) hJ ((hg_e1)) ((hg_a9)) (fun j => hF j) rfl (fun c_9 hI_10 hF_11 hz_12 => (bk_inl (q_istore_n c_4_4 (Nat.le_of_ble_eq_true rfl) (q_iconst c_4_5 (q_istore_n c_4_6 (Nat.le_of_ble_eq_true rfl) (q_iload_n c_4_7 rfl (q_aload_n c_4_8 rfl (v_sln 1 c_4_9 rfl (by omega) (Nat.le_of_ble_eq_true rfl) (by decide) (by decide) ?_)))))))))
    refine v_ic_ge_f (t := 55) c_4_12 rfl (by decide) (q_iload_n c_4_15 rfl (q_aload_n c_4_16 rfl ?_))
    have kn_13 : Hid (c_9 1 1 = e1) := (hF_11 1 1 (fun h => absurd h.2 (ni rfl))).trans (hg_e1)
    refine v_gi (z := 1) (v := e1) c_4_17 kf_5_32 rfl (Nat.le_of_ble_eq_true rfl) rfl rfl (hid kn_13) ?_
    by_cases h_14 : (nx F e1 a9) ≥ e1
    · refine v_ic_ge_t (t := 55) c_4_20 rfl ⟨(Int.le_trans (by decide) (rg_eq hg_e1 h_1).1), h_14, by first | exact q_b3bd846dd h_2 h_3 h_6 hg_a9 hr_e1 | omega⟩ (q_iconst c_4_55 (q_iret c_4_56 rfl (bk_inl (q_iconst c_11_12 (v_ic_ne_f (t := 25) c_11_13 rfl (by decide) (q_aload_n c_11_16 rfl (q_iconst c_11_17 ?_)))))))
      refine q_aload_n c_11_18 rfl (v_gi (z := 2) (v := (nx F e1 a9)) c_11_19 kf_5_35 rfl (Nat.le_of_ble_eq_true rfl) rfl rfl (hz_12) (v_cv c_11_22 km_5_52 rfl rfl (Nat.le_of_ble_eq_true rfl) ⟨⟨rfl, rfl⟩, Nat.le_of_ble_eq_true rfl, rfl⟩ (Nat.le_of_ble_eq_true rfl) (Nat.le_of_ble_eq_true rfl) (q_aload_n c_7_0 rfl ?_)))
      have kn_15 : Hid (c_9 1 4 = 0) := (hF_11 1 4 (fun h => absurd h.2 (ni rfl))).trans (hs9)
      refine v_gi (z := 4) (v := 0) c_7_1 kf_5_38 rfl (Nat.le_of_ble_eq_true rfl) rfl rfl (hid kn_15) (v_if_ne_f (t := 17) c_7_4 rfl (by decide) (q_aload_n c_7_7 rfl (q_iload_n c_7_8 rfl (v_pi (z := 4) c_7_9 kf_5_38 rfl (Nat.le_of_ble_eq_true rfl) rfl rfl rfl (by decide) (q_aload_n c_7_12 rfl (q_iload_n c_7_13 rfl (v_pi (z := 5) c_7_14 kf_5_15 rfl (Nat.le_of_ble_eq_true rfl) rfl rfl rfl (by decide) ?_)))))))
      refine q_vret rfl rfl (bk_inl (q_vret rfl rfl ?_))
      have hI_16 := iw_1_4 (v := 1) hI_10 ⟨by decide, by decide⟩
      have hI_17 := iw_1_5 (v := (nx F e1 a9)) hI_16 ⟨by first | exact q_e3021f629 h_3 h_6 hg_a9 | omega, by first | exact q_f657906b2 h_2 h_3 h_6 hg_a9 hr_e1 | omega⟩
      intro hE_18
      have hW : Wd P Q P P (up (up c_9 1 4 1) 1 5 (nx F e1 a9)) = Wd P Q P P m9 := (Prod.mk.inj (Prod.mk.inj hE_18).2).1
      have h_19 := ir_1_4 hJ9
      have h_20 : m9 1 4 = 1 := wd_fv (z := 4) 4 rfl hW rfl rfl rfl rfl (by decide) ((up_n (by decide)).trans (up_e rfl)) ⟨by decide, by decide⟩ ⟨(Int.le_trans (by decide) h_19.1), (Int.le_trans h_19.2 (by decide))⟩
      have h_21 := ir_1_2 hJ9
      have h_22 : m9 1 2 = (nx F e1 a9) := wd_fv (z := 2) 2 rfl hW rfl rfl rfl rfl (by decide) ((up_n (by decide)).trans ((up_n (by decide)).trans (hz_12))) ⟨by first | exact q_a3bce4abb h_3 h_6 hg_a9 | omega, by first | exact q_b3bd846dd h_2 h_3 h_6 hg_a9 hr_e1 | omega⟩ ⟨(Int.le_trans (by decide) h_21.1), (Int.le_trans h_21.2 (by decide))⟩
      have h_23 := ir_1_5 hJ9
      have h_24 : m9 1 5 = (nx F e1 a9) := wd_fv (z := 5) 5 rfl hW rfl rfl rfl rfl (by decide) (up_e rfl) ⟨by first | exact q_17990f574 h_21 h_22 | omega, by first | exact q_757c304f4 h_21 h_22 | omega⟩ ⟨(Int.le_trans (by decide) h_23.1), (Int.le_trans h_23.2 (by decide))⟩
      refine q_aload_n c_161_0 rfl (v_cv c_161_1 km_8_131 rfl rfl (Nat.le_of_ble_eq_true rfl) ⟨⟨rfl, rfl⟩, Nat.le_of_ble_eq_true rfl, rfl⟩ (Nat.le_of_ble_eq_true rfl) (Nat.le_of_ble_eq_true rfl) (q_aload_n c_152_0 rfl ?_))
      have h_25 := ir_41_5 hI
      have h_26 := ir_1_5 hJ
      have h_27 := ir_41_4 hI
      have h_28 := ir_41_6 hI
      have h_29 := rt_ok hRt (by first | (clear h_1 hg_e1 h_2 hr_e1 h_3 hg_a9 hg_f0 h_5 h_6 h_7 h_14 h_19 h_20 h_21 h_22 h_23 h_24 h_25 h_26 h_27 h_28 h_8; omega) | omega)
      have hro_hRt := rt_ok hRt (by first | assumption | omega)
      refine v_gi (z := 5) (v := (-1)) c_152_1 kf_8_102 rfl (Nat.le_of_ble_eq_true rfl) rfl rfl hro_hRt.2.1 (q_iconst c_152_4 (v_ic_ne_f (t := 12) c_152_5 rfl (by decide) (q_iconst c_152_8 (q_goto (t := 13) c_152_9 rfl (v_zret c_152_13 rfl (by decide) (bk_inl (v_if_eq_f (t := 24) c_161_4 rfl (by decide) ?_)))))))
      refine q_aload_n c_161_7 rfl ?_
      have h_30 : -2147483648 ≤ (H (nx F e1 a9)) ∧ (H (nx F e1 a9)) ≤ 2147483647 := by rw [← hH (nx F e1 a9)]; exact ir_43 hI (nx F e1 a9)
      have h_31 : (nx F e1 a9) < 600 → (H (nx F e1 a9)) = (F (nx F e1 a9)) % 256 ∧ -128 ≤ (F (nx F e1 a9)) ∧ (F (nx F e1 a9)) ≤ 127 := fun q => hU (nx F e1 a9) (by omega) q
      have h_32 := hb_or (b := H) (e := e1) (r := (nx F e1 a9))
      have h_33 := hb_bd (b := H) (e := e1) (r := (nx F e1 a9)) (lo := -2147483648) (hi := 2147483647) h_30 (by decide)
      refine v_cv c_161_8 km_8_114 rfl rfl (Nat.le_of_ble_eq_true rfl) ⟨⟨rfl, rfl⟩, Nat.le_of_ble_eq_true rfl, rfl⟩ (Nat.le_of_ble_eq_true rfl) (Nat.le_of_ble_eq_true rfl) (f_154 (e1 := e1) (a9 := a9) (B := H) (r8 := (nx F e1 a9)) (r := (hb H e1 (nx F e1 a9))) hI ((hr_e1)) (((hro_hRt.2.2.1).trans ((hg_a9)))) (fun j => hH j) ((nx_tr hU ((rg_eq hg_a9 h_3).1) ((rg_eq hg_e1 h_1).2)).trans (rfl)) rfl (fun c_34 hI_35 hF_36 h_37 => (bk_inl (q_iload_n c_161_11 rfl (v_ic_eq_f (t := 24) c_161_12 rfl ⟨by first | exact q_39c80169a h_14 h_32 | omega, ⟨h_33.1, h_33.2⟩, by decide, by decide⟩ (q_aload_n c_161_15 rfl (q_iconst c_161_16 (q_aload_n c_161_17 rfl (v_gi (z := 4) (v := (nx F e1 a9)) c_161_18 kf_8_108 rfl (Nat.le_of_ble_eq_true rfl) rfl rfl (h_37) ?_)))))))))
      refine v_cv c_161_21 km_8_138 rfl rfl (Nat.le_of_ble_eq_true rfl) ⟨⟨rfl, rfl⟩, Nat.le_of_ble_eq_true rfl, rfl⟩ (Nat.le_of_ble_eq_true rfl) (Nat.le_of_ble_eq_true rfl) (q_aload_n c_153_0 rfl ?_)
      have kn_38 : Hid (c_34 41 5 = (-1)) := (hF_36 41 5 (fun h => absurd h.2 (ni rfl))).trans hro_hRt.2.1
      refine v_gi (z := 5) (v := (-1)) c_153_1 kf_8_102 rfl (Nat.le_of_ble_eq_true rfl) rfl rfl (hid kn_38) (q_iconst c_153_4 (v_ic_eq_t (t := 9) c_153_5 rfl (by decide) (q_aload_n c_153_9 rfl (q_iload_n c_153_10 rfl (v_pi (z := 5) c_153_11 kf_8_102 rfl (Nat.le_of_ble_eq_true rfl) rfl rfl rfl (by decide) (q_aload_n c_153_14 rfl (q_iload_n c_153_15 rfl ?_)))))))
      refine v_pi (z := 6) c_153_16 kf_8_105 rfl (Nat.le_of_ble_eq_true rfl) rfl rfl rfl (by decide) (q_vret rfl rfl (bk_inl (q_aload_n c_161_24 rfl (v_cv c_161_25 km_8_131 rfl rfl (Nat.le_of_ble_eq_true rfl) ⟨⟨rfl, rfl⟩, Nat.le_of_ble_eq_true rfl, rfl⟩ (Nat.le_of_ble_eq_true rfl) (Nat.le_of_ble_eq_true rfl) (q_aload_n c_152_0 rfl (v_gi (z := 5) (v := (nx F e1 a9)) c_152_1 kf_8_102 rfl (Nat.le_of_ble_eq_true rfl) rfl rfl ((up_n (by decide)).trans (up_e rfl)) (q_iconst c_152_4 ?_)))))))
      refine v_ic_ne_t (t := 12) c_152_5 rfl ⟨by first | exact q_90762221b h_21 h_22 | omega, ⟨by first | exact q_17990f574 h_21 h_22 | omega, by first | exact q_757c304f4 h_21 h_22 | omega⟩, by decide, by decide⟩ (q_iconst c_152_12 (v_zret c_152_13 rfl (by decide) (bk_inl (v_if_eq_t (t := 41) c_161_28 rfl (by decide) (q_vret rfl rfl ?_)))))
      have hI_39 := iw_41_5 (v := (nx F e1 a9)) hI_35 ⟨by first | exact q_5ce231cbd h_21 h_22 | omega, by first | exact q_6094bb0fa h_23 h_24 | omega⟩
      have hI_40 := iw_41_6 (v := 1) hI_39 ⟨by decide, by decide⟩
      have h_41 : (up (up c_34 41 5 (nx F e1 a9)) 41 6 1) 41 5 = (nx F e1 a9) := ((up_n (by decide)).trans (up_e rfl))
      have h_42 : (up (up c_34 41 5 (nx F e1 a9)) 41 6 1) 41 4 = (nx F e1 a9) := ((up_n (by decide)).trans ((up_n (by decide)).trans (h_37)))
      have h_43 : (up (up c_34 41 5 (nx F e1 a9)) 41 6 1) 41 6 = 1 := (up_e rfl)
      exact K (up (up c_34 41 5 (nx F e1 a9)) 41 6 1)  hI_40 (fun a j hm => (up_b (Decidable.or_iff_not_imp_left.mpr (fun h1 h2 => hm (Or.inr (Or.inr ⟨Decidable.not_not.mp h1, h2⟩))))).trans ((up_b (Decidable.or_iff_not_imp_left.mpr (fun h1 h2 => hm (Or.inr (Or.inl ⟨Decidable.not_not.mp h1, h2⟩))))).trans (hF_36 a j (fun h => hm (Or.inl h))))) (rt_i2 ⟨⟨by first | exact q_5935f82f1 h_20 | omega, by first | exact q_63461c6bf h_20 | omega⟩, by first | exact q_88dc5fb99 h_24 | omega, by first | exact q_a060fbdd4 h_21 h_22 h_24 | omega, by first | exact q_69efb464e h_20 | omega⟩) (Or.inr (Or.inl (by first | exact q_e2d2b4ae2 h_20 | omega))) (Or.inr (Or.inl (by first | exact q_e2d2b4ae2 h_20 | omega)))
    · refine v_ic_ge_f (t := 55) c_4_20 rfl ⟨by first | exact q_a3bce4abb h_3 h_6 hg_a9 | omega, (Int.not_le.mp h_14), (Int.le_trans (rg_eq hg_e1 h_1).2 (by decide))⟩ (q_aload_n c_4_23 rfl (v_gr (t := 2) c_4_24 kf_5_9 rfl (Nat.le_of_ble_eq_true rfl) rfl (q_iload_n c_4_27 rfl ?_)))
      have kn_44 : Hid (c_9 2 (nx F e1 a9) = (F (nx F e1 a9))) := (hF_11 2 (nx F e1 a9) (fun h => absurd h.1 (nn rfl))).trans (hF (nx F e1 a9))
      refine v_ba (v := (F (nx F e1 a9))) c_4_28 rfl (by decide) (by decide) ⟨by first | exact q_828522d69 h_3 h_6 hg_a9 | omega, by first | exact q_b867e77c7 h_14 h_2 hr_e1 | omega⟩ (hid kn_44) (q_aload_n c_4_29 rfl (q_iload_n c_4_30 rfl (v_sch 59 c_4_31 rfl (by omega) (Nat.le_of_ble_eq_true rfl) (by decide) (by decide) (by decide) ?_)))
      by_cases h_45 : (F (nx F e1 a9)) ≠ 59
      · refine v_ic_ne_t (t := 49) c_4_34 rfl ⟨h_45, ⟨h_7.1, h_7.2⟩, by decide, by decide⟩ (v_iinc (v := 1) c_4_49 rfl (Nat.le_of_ble_eq_true rfl) (by decide) (q_goto (t := 7) c_4_52 rfl (q_iload_n c_4_7 rfl (q_aload_n c_4_8 rfl (v_sln 1 c_4_9 rfl (by omega) (Nat.le_of_ble_eq_true rfl) (by decide) (by decide) (v_ic_ge_t (t := 55) c_4_12 rfl (by decide) (q_iconst c_4_55 ?_)))))))
        refine q_iret c_4_56 rfl (bk_inl (q_iconst c_11_12 (v_ic_ne_f (t := 25) c_11_13 rfl (by decide) (q_aload_n c_11_16 rfl (q_iconst c_11_17 (q_aload_n c_11_18 rfl (v_gi (z := 2) (v := (nx F e1 a9)) c_11_19 kf_5_35 rfl (Nat.le_of_ble_eq_true rfl) rfl rfl (hz_12) ?_)))))))
        refine v_cv c_11_22 km_5_52 rfl rfl (Nat.le_of_ble_eq_true rfl) ⟨⟨rfl, rfl⟩, Nat.le_of_ble_eq_true rfl, rfl⟩ (Nat.le_of_ble_eq_true rfl) (Nat.le_of_ble_eq_true rfl) (q_aload_n c_7_0 rfl ?_)
        have kn_46 : Hid (c_9 1 4 = 0) := (hF_11 1 4 (fun h => absurd h.2 (ni rfl))).trans (hs9)
        refine v_gi (z := 4) (v := 0) c_7_1 kf_5_38 rfl (Nat.le_of_ble_eq_true rfl) rfl rfl (hid kn_46) (v_if_ne_f (t := 17) c_7_4 rfl (by decide) (q_aload_n c_7_7 rfl (q_iload_n c_7_8 rfl (v_pi (z := 4) c_7_9 kf_5_38 rfl (Nat.le_of_ble_eq_true rfl) rfl rfl rfl (by decide) (q_aload_n c_7_12 rfl (q_iload_n c_7_13 rfl (v_pi (z := 5) c_7_14 kf_5_15 rfl (Nat.le_of_ble_eq_true rfl) rfl rfl rfl (by decide) ?_)))))))
        refine q_vret rfl rfl (bk_inl (q_vret rfl rfl ?_))
        have hI_47 := iw_1_4 (v := 1) hI_10 ⟨by decide, by decide⟩
        have hI_48 := iw_1_5 (v := (nx F e1 a9)) hI_47 ⟨by first | exact q_e3021f629 h_3 h_6 hg_a9 | omega, by first | exact q_15401fa7c h_14 h_2 hr_e1 | omega⟩
        intro hE_49
        have hW : Wd P Q P P (up (up c_9 1 4 1) 1 5 (nx F e1 a9)) = Wd P Q P P m9 := (Prod.mk.inj (Prod.mk.inj hE_49).2).1
        have h_50 := ir_1_4 hJ9
        have h_51 : m9 1 4 = 1 := wd_fv (z := 4) 4 rfl hW rfl rfl rfl rfl (by decide) ((up_n (by decide)).trans (up_e rfl)) ⟨by decide, by decide⟩ ⟨(Int.le_trans (by decide) h_50.1), (Int.le_trans h_50.2 (by decide))⟩
        have h_52 := ir_1_2 hJ9
        have h_53 : m9 1 2 = (nx F e1 a9) := wd_fv (z := 2) 2 rfl hW rfl rfl rfl rfl (by decide) ((up_n (by decide)).trans ((up_n (by decide)).trans (hz_12))) ⟨by first | exact q_a3bce4abb h_3 h_6 hg_a9 | omega, by first | exact q_2e6ee4ea6 h_14 h_2 hr_e1 | omega⟩ ⟨(Int.le_trans (by decide) h_52.1), (Int.le_trans h_52.2 (by decide))⟩
        have h_54 := ir_1_5 hJ9
        have h_55 : m9 1 5 = (nx F e1 a9) := wd_fv (z := 5) 5 rfl hW rfl rfl rfl rfl (by decide) (up_e rfl) ⟨by first | exact q_17990f574 h_52 h_53 | omega, by first | exact q_757c304f4 h_52 h_53 | omega⟩ ⟨(Int.le_trans (by decide) h_54.1), (Int.le_trans h_54.2 (by decide))⟩
        refine q_aload_n c_161_0 rfl (v_cv c_161_1 km_8_131 rfl rfl (Nat.le_of_ble_eq_true rfl) ⟨⟨rfl, rfl⟩, Nat.le_of_ble_eq_true rfl, rfl⟩ (Nat.le_of_ble_eq_true rfl) (Nat.le_of_ble_eq_true rfl) (q_aload_n c_152_0 rfl ?_))
        have h_56 := ir_41_5 hI
        have h_57 := ir_1_5 hJ
        have h_58 := ir_41_4 hI
        have h_59 := ir_41_6 hI
        have h_60 := rt_ok hRt (by first | (clear h_1 hg_e1 h_2 hr_e1 h_3 hg_a9 hg_f0 h_5 h_6 h_7 h_14 h_50 h_51 h_52 h_53 h_54 h_55 h_56 h_57 h_58 h_59 h_8 h_45; omega) | omega)
        have hro_hRt := rt_ok hRt (by first | assumption | omega)
        refine v_gi (z := 5) (v := (-1)) c_152_1 kf_8_102 rfl (Nat.le_of_ble_eq_true rfl) rfl rfl hro_hRt.2.1 (q_iconst c_152_4 (v_ic_ne_f (t := 12) c_152_5 rfl (by decide) (q_iconst c_152_8 (q_goto (t := 13) c_152_9 rfl (v_zret c_152_13 rfl (by decide) (bk_inl (v_if_eq_f (t := 24) c_161_4 rfl (by decide) ?_)))))))
        refine q_aload_n c_161_7 rfl ?_
        have h_61 : -2147483648 ≤ (H (nx F e1 a9)) ∧ (H (nx F e1 a9)) ≤ 2147483647 := by rw [← hH (nx F e1 a9)]; exact ir_43 hI (nx F e1 a9)
        have h_62 := hU (nx F e1 a9) (by first | exact q_4ad75e8a2 h_52 h_53 | omega) (by first | exact q_b867e77c7 h_14 h_2 hr_e1 | omega)
        have h_63 := hb_or (b := H) (e := e1) (r := (nx F e1 a9))
        have h_64 := hb_bd (b := H) (e := e1) (r := (nx F e1 a9)) (lo := -2147483648) (hi := 2147483647) h_61 (by decide)
        refine v_cv c_161_8 km_8_114 rfl rfl (Nat.le_of_ble_eq_true rfl) ⟨⟨rfl, rfl⟩, Nat.le_of_ble_eq_true rfl, rfl⟩ (Nat.le_of_ble_eq_true rfl) (Nat.le_of_ble_eq_true rfl) (f_154 (e1 := e1) (a9 := a9) (B := H) (r8 := (nx F e1 a9)) (r := (hb H e1 (nx F e1 a9))) hI ((hr_e1)) (((hro_hRt.2.2.1).trans ((hg_a9)))) (fun j => hH j) ((nx_tr hU ((rg_eq hg_a9 h_3).1) ((rg_eq hg_e1 h_1).2)).trans (rfl)) rfl (fun c_65 hI_66 hF_67 h_68 => (bk_inl (q_iload_n c_161_11 rfl (v_ic_eq_f (t := 24) c_161_12 rfl ⟨by first | (clear h_1 hg_e1 h_2 hr_e1 h_3 hg_a9 h_4 hg_f0 h_5 h_6 h_7 h_14 h_50 h_51 h_52 h_53 h_54 h_55 h_56 h_57 h_58 h_59 h_60 h_61 h_64 h_8; omega) | omega, ⟨h_64.1, h_64.2⟩, by decide, by decide⟩ (q_aload_n c_161_15 rfl (q_iconst c_161_16 (q_aload_n c_161_17 rfl (v_gi (z := 4) (v := (nx F e1 a9)) c_161_18 kf_8_108 rfl (Nat.le_of_ble_eq_true rfl) rfl rfl (h_68) ?_)))))))))
        refine v_cv c_161_21 km_8_138 rfl rfl (Nat.le_of_ble_eq_true rfl) ⟨⟨rfl, rfl⟩, Nat.le_of_ble_eq_true rfl, rfl⟩ (Nat.le_of_ble_eq_true rfl) (Nat.le_of_ble_eq_true rfl) (q_aload_n c_153_0 rfl ?_)
        have kn_69 : Hid (c_65 41 5 = (-1)) := (hF_67 41 5 (fun h => absurd h.2 (ni rfl))).trans hro_hRt.2.1
        refine v_gi (z := 5) (v := (-1)) c_153_1 kf_8_102 rfl (Nat.le_of_ble_eq_true rfl) rfl rfl (hid kn_69) (q_iconst c_153_4 (v_ic_eq_t (t := 9) c_153_5 rfl (by decide) (q_aload_n c_153_9 rfl (q_iload_n c_153_10 rfl (v_pi (z := 5) c_153_11 kf_8_102 rfl (Nat.le_of_ble_eq_true rfl) rfl rfl rfl (by decide) (q_aload_n c_153_14 rfl (q_iload_n c_153_15 rfl ?_)))))))
        refine v_pi (z := 6) c_153_16 kf_8_105 rfl (Nat.le_of_ble_eq_true rfl) rfl rfl rfl (by decide) (q_vret rfl rfl (bk_inl (q_aload_n c_161_24 rfl (v_cv c_161_25 km_8_131 rfl rfl (Nat.le_of_ble_eq_true rfl) ⟨⟨rfl, rfl⟩, Nat.le_of_ble_eq_true rfl, rfl⟩ (Nat.le_of_ble_eq_true rfl) (Nat.le_of_ble_eq_true rfl) (q_aload_n c_152_0 rfl (v_gi (z := 5) (v := (nx F e1 a9)) c_152_1 kf_8_102 rfl (Nat.le_of_ble_eq_true rfl) rfl rfl ((up_n (by decide)).trans (up_e rfl)) (q_iconst c_152_4 ?_)))))))
        refine v_ic_ne_t (t := 12) c_152_5 rfl ⟨by first | exact q_90762221b h_52 h_53 | omega, ⟨by first | exact q_17990f574 h_52 h_53 | omega, by first | exact q_783468581 h_54 h_55 | omega⟩, by decide, by decide⟩ (q_iconst c_152_12 (v_zret c_152_13 rfl (by decide) (bk_inl (v_if_eq_t (t := 41) c_161_28 rfl (by decide) (q_vret rfl rfl ?_)))))
        have hI_70 := iw_41_5 (v := (nx F e1 a9)) hI_66 ⟨by first | exact q_5ce231cbd h_52 h_53 | omega, by first | exact q_deaeab841 h_52 h_53 | omega⟩
        have hI_71 := iw_41_6 (v := 1) hI_70 ⟨by decide, by decide⟩
        have h_72 : (up (up c_65 41 5 (nx F e1 a9)) 41 6 1) 41 5 = (nx F e1 a9) := ((up_n (by decide)).trans (up_e rfl))
        have h_73 : (up (up c_65 41 5 (nx F e1 a9)) 41 6 1) 41 4 = (nx F e1 a9) := ((up_n (by decide)).trans ((up_n (by decide)).trans (h_68)))
        have h_74 : (up (up c_65 41 5 (nx F e1 a9)) 41 6 1) 41 6 = 1 := (up_e rfl)
        exact K (up (up c_65 41 5 (nx F e1 a9)) 41 6 1)  hI_71 (fun a j hm => (up_b (Decidable.or_iff_not_imp_left.mpr (fun h1 h2 => hm (Or.inr (Or.inr ⟨Decidable.not_not.mp h1, h2⟩))))).trans ((up_b (Decidable.or_iff_not_imp_left.mpr (fun h1 h2 => hm (Or.inr (Or.inl ⟨Decidable.not_not.mp h1, h2⟩))))).trans (hF_67 a j (fun h => hm (Or.inl h))))) (rt_i2 ⟨⟨by first | exact q_5935f82f1 h_51 | omega, by first | exact q_63461c6bf h_51 | omega⟩, by first | exact q_88dc5fb99 h_55 | omega, by first | exact q_a060fbdd4 h_52 h_53 h_55 | omega, by first | exact q_69efb464e h_51 | omega⟩) (Or.inr (Or.inl (by first | exact q_e2d2b4ae2 h_51 | omega))) (Or.inr (Or.inl (by first | exact q_e2d2b4ae2 h_51 | omega)))
      · refine v_ic_ne_f (t := 49) c_4_34 rfl (Decidable.not_not.mp h_45) (q_aload_n c_4_37 rfl (q_dup c_4_38 rfl (v_gi (z := 2) (v := (nx F e1 a9)) c_4_39 kf_5_35 rfl (Nat.le_of_ble_eq_true rfl) rfl rfl (hz_12) (q_iconst c_4_42 (v_iadd (v := (nx F e1 a9) + 1) c_4_43 rfl (v_pi (z := 2) c_4_44 kf_5_35 rfl (Nat.le_of_ble_eq_true rfl) rfl rfl rfl (by decide) (q_iload_n c_4_47 rfl ?_)))))))
        refine q_iret c_4_48 rfl (bk_inl (q_iconst c_11_12 (v_ic_ne_t (t := 25) c_11_13 rfl (by decide) (q_vret rfl rfl ?_))))
        have hI_75 := iw_1_2 (v := (nx F e1 a9) + 1) hI_10 ⟨by first | exact q_e260493d5 h_3 h_6 hg_a9 | omega, by first | exact q_6ea34058e h_14 h_2 hr_e1 | omega⟩
        intro hE_76
        have hW : Wd P Q P P (up c_9 1 2 ((nx F e1 a9) + 1)) = Wd P Q P P m9 := (Prod.mk.inj (Prod.mk.inj hE_76).2).1
        have kn_77 : Hid (c_9 1 4 = 0) := (hF_11 1 4 (fun h => absurd h.2 (ni rfl))).trans (hs9)
        have h_78 := ir_1_4 hJ9
        have h_79 : m9 1 4 = 0 := wd_fv (z := 4) 4 rfl hW rfl rfl rfl rfl (by decide) ((up_n (by decide)).trans (hid kn_77)) ⟨by decide, by decide⟩ ⟨(Int.le_trans (by decide) h_78.1), (Int.le_trans h_78.2 (by decide))⟩
        have h_80 := ir_1_2 hJ9
        have h_81 : m9 1 2 = (nx F e1 a9) + 1 := wd_fv (z := 2) 2 rfl hW rfl rfl rfl rfl (by decide) (up_e rfl) ⟨by first | exact q_86633cc1b h_3 h_6 hg_a9 | omega, by first | exact q_1da59465c h_14 h_2 hr_e1 | omega⟩ ⟨(Int.le_trans (by decide) h_80.1), (Int.le_trans h_80.2 (by decide))⟩
        have kn_82 : Hid (c_9 1 5 = (-1)) := (hF_11 1 5 (fun h => absurd h.2 (ni rfl))).trans (hs8)
        have h_83 := ir_1_5 hJ9
        have h_84 : m9 1 5 = (-1) := wd_fv (z := 5) 5 rfl hW rfl rfl rfl rfl (by decide) ((up_n (by decide)).trans (hid kn_82)) ⟨by decide, by decide⟩ ⟨(Int.le_trans (by decide) h_83.1), (Int.le_trans h_83.2 (by decide))⟩
        refine q_aload_n c_161_0 rfl (v_cv c_161_1 km_8_131 rfl rfl (Nat.le_of_ble_eq_true rfl) ⟨⟨rfl, rfl⟩, Nat.le_of_ble_eq_true rfl, rfl⟩ (Nat.le_of_ble_eq_true rfl) (Nat.le_of_ble_eq_true rfl) (q_aload_n c_152_0 rfl ?_))
        have h_85 := ir_41_5 hI
        have h_86 := ir_1_5 hJ
        have h_87 := ir_41_4 hI
        have h_88 := ir_41_6 hI
        have h_89 := rt_ok hRt (by first | (clear h_1 hg_e1 h_2 hr_e1 h_3 hg_a9 hg_f0 h_5 h_6 h_7 h_14 h_45 h_78 h_79 h_80 h_81 h_83 h_84 h_85 h_86 h_87 h_88 h_8; omega) | omega)
        have hro_hRt := rt_ok hRt (by first | assumption | omega)
        refine v_gi (z := 5) (v := (-1)) c_152_1 kf_8_102 rfl (Nat.le_of_ble_eq_true rfl) rfl rfl hro_hRt.2.1 (q_iconst c_152_4 (v_ic_ne_f (t := 12) c_152_5 rfl (by decide) (q_iconst c_152_8 (q_goto (t := 13) c_152_9 rfl (v_zret c_152_13 rfl (by decide) (bk_inl (v_if_eq_f (t := 24) c_161_4 rfl (by decide) ?_)))))))
        refine q_aload_n c_161_7 rfl ?_
        have h_90 : -2147483648 ≤ (H (nx F e1 a9)) ∧ (H (nx F e1 a9)) ≤ 2147483647 := by rw [← hH (nx F e1 a9)]; exact ir_43 hI (nx F e1 a9)
        have h_91 := hU (nx F e1 a9) (by first | exact q_828522d69 h_3 h_6 hg_a9 | omega) (by first | exact q_b03d63f6f h_80 h_81 | omega)
        have h_92 := hb_or (b := H) (e := e1) (r := (nx F e1 a9))
        have h_93 := hb_bd (b := H) (e := e1) (r := (nx F e1 a9)) (lo := -2147483648) (hi := 2147483647) h_90 (by decide)
        refine v_cv c_161_8 km_8_114 rfl rfl (Nat.le_of_ble_eq_true rfl) ⟨⟨rfl, rfl⟩, Nat.le_of_ble_eq_true rfl, rfl⟩ (Nat.le_of_ble_eq_true rfl) (Nat.le_of_ble_eq_true rfl) (f_154 (e1 := e1) (a9 := a9) (B := H) (r8 := (nx F e1 a9)) (r := (hb H e1 (nx F e1 a9))) hI ((hr_e1)) (((hro_hRt.2.2.1).trans ((hg_a9)))) (fun j => hH j) ((nx_tr hU ((rg_eq hg_a9 h_3).1) ((rg_eq hg_e1 h_1).2)).trans (rfl)) rfl (fun c_94 hI_95 hF_96 h_97 => (bk_inl (q_iload_n c_161_11 rfl (v_ic_eq_t (t := 24) c_161_12 rfl (by first | (clear h_1 hg_e1 h_2 hr_e1 h_3 hg_a9 h_4 hg_f0 h_5 h_6 h_7 h_78 h_79 h_80 h_81 h_83 h_84 h_85 h_86 h_87 h_88 h_89 h_90 h_93 h_8; omega) | omega) (q_aload_n c_161_24 rfl (v_cv c_161_25 km_8_131 rfl rfl (Nat.le_of_ble_eq_true rfl) ⟨⟨rfl, rfl⟩, Nat.le_of_ble_eq_true rfl, rfl⟩ (Nat.le_of_ble_eq_true rfl) (Nat.le_of_ble_eq_true rfl) (q_aload_n c_152_0 rfl ?_))))))))
        have kn_98 : Hid (c_94 41 5 = (-1)) := (hF_96 41 5 (fun h => absurd h.2 (ni rfl))).trans hro_hRt.2.1
        refine v_gi (z := 5) (v := (-1)) c_152_1 kf_8_102 rfl (Nat.le_of_ble_eq_true rfl) rfl rfl (hid kn_98) (q_iconst c_152_4 (v_ic_ne_f (t := 12) c_152_5 rfl (by decide) (q_iconst c_152_8 (q_goto (t := 13) c_152_9 rfl (v_zret c_152_13 rfl (by decide) (bk_inl (v_if_eq_f (t := 41) c_161_28 rfl (by decide) ?_)))))))
        refine q_aload_n c_161_31 rfl (q_dup c_161_32 rfl (v_gi (z := 4) (v := (nx F e1 a9)) c_161_33 kf_8_108 rfl (Nat.le_of_ble_eq_true rfl) rfl rfl (h_97) (q_iconst c_161_36 (v_iadd (v := (nx F e1 a9) + 1) c_161_37 rfl (v_pi (z := 4) c_161_38 kf_8_108 rfl (Nat.le_of_ble_eq_true rfl) rfl rfl rfl (by decide) (q_vret rfl rfl ?_))))))
        have hI_99 := iw_41_4 (v := (nx F e1 a9) + 1) hI_95 ⟨by first | exact q_e260493d5 h_3 h_6 hg_a9 | omega, by first | exact q_369ecf7f1 h_80 h_81 | omega⟩
        have h_100 : (up c_94 41 4 ((nx F e1 a9) + 1)) 41 5 = (-1) := ((up_n (by decide)).trans (hid kn_98))
        have h_101 : (up c_94 41 4 ((nx F e1 a9) + 1)) 41 4 = (nx F e1 a9) + 1 := (up_e rfl)
        have kn_102 : Hid (c_94 41 6 = c 41 6) := hF_96 41 6 (fun h => absurd h.2 (ni rfl))
        have h_103 : (up c_94 41 4 ((nx F e1 a9) + 1)) 41 6 = c 41 6 := ((up_n (by decide)).trans (hid kn_102))
        exact K (up c_94 41 4 ((nx F e1 a9) + 1))  hI_99 (fun a j hm => (up_b (Decidable.or_iff_not_imp_left.mpr (fun h1 h2 => hm (Or.inl ⟨Decidable.not_not.mp h1, h2⟩)))).trans (hF_96 a j (fun h => hm (Or.inl h)))) (rt_i1 ⟨by first | exact q_f6b658f58 h_78 h_79 | omega, by first | assumption | omega, by first | exact q_58a890de0 h_81 | omega, by first | exact q_f39655ca6 h_83 h_84 | omega⟩) (Or.inr (Or.inr ⟨by first | exact q_1caa53e22 h_6 h_81 | omega, by first | exact q_639ed28ca h_14 h_81 | omega⟩)) (Or.inr (Or.inr (by first | (clear h_1 hg_e1 h_2 hr_e1 h_3 hg_a9 h_5 h_6 h_7 h_14 h_45 h_78 h_79 h_80 h_81 h_83 h_84 h_85 h_86 h_87 h_88 h_89 h_90 h_91 h_93 h_8 h_92; omega) | omega)))
  · skip
    refine q_aload_n c_11_0 rfl (v_cv c_11_1 km_5_45 rfl rfl (Nat.le_of_ble_eq_true rfl) ⟨⟨rfl, rfl⟩, Nat.le_of_ble_eq_true rfl, rfl⟩ (Nat.le_of_ble_eq_true rfl) (Nat.le_of_ble_eq_true rfl) (q_aload_n c_2_0 rfl (v_gi (z := 4) (v := f0) c_2_1 kf_5_38 rfl (Nat.le_of_ble_eq_true rfl) rfl rfl (hg_f0) (v_if_ne_t (t := 11) c_2_4 rfl ⟨by omega, ⟨(Int.le_trans (by decide) (rg_eq hg_f0 h_4).1), (Int.le_trans (rg_eq hg_f0 h_4).2 (by decide))⟩, by decide, by decide⟩ (q_iconst c_2_11 (v_zret c_2_12 rfl (by decide) (bk_inl ?_)))))))
    refine v_if_eq_t (t := 25) c_11_4 rfl (by decide) (q_vret rfl rfl ?_)
    intro hE_104
    have hW : Wd P Q P P m = Wd P Q P P m9 := (Prod.mk.inj (Prod.mk.inj hE_104).2).1
    have h_105 := ir_1_4 hJ9
    have h_106 : m9 1 4 = f0 := wd_fv (z := 4) 4 rfl hW rfl rfl rfl rfl (by decide) (hg_f0) ⟨(Int.le_trans (by decide) (rg_eq hg_f0 h_4).1), (Int.le_trans (rg_eq hg_f0 h_4).2 (by decide))⟩ ⟨(Int.le_trans (by decide) h_105.1), (Int.le_trans h_105.2 (by decide))⟩
    have h_107 := ir_1_2 hJ9
    have h_108 : m9 1 2 = a9 := wd_fv (z := 2) 2 rfl hW rfl rfl rfl rfl (by decide) (hg_a9) ⟨(Int.le_trans (by decide) (rg_eq hg_a9 h_3).1), (Int.le_trans (rg_eq hg_a9 h_3).2 (by decide))⟩ ⟨(Int.le_trans (by decide) h_107.1), (Int.le_trans h_107.2 (by decide))⟩
    have h_109 := ir_1_5 hJ
    have h_110 := ir_1_5 hJ9
    have h_111 : m9 1 5 = m 1 5 := wd_fv (z := 5) 5 rfl hW rfl rfl rfl rfl (by decide) rfl ⟨(Int.le_trans (by decide) h_109.1), (Int.le_trans h_109.2 (by decide))⟩ ⟨(Int.le_trans (by decide) h_110.1), (Int.le_trans h_110.2 (by decide))⟩
    refine q_aload_n c_161_0 rfl (v_cv c_161_1 km_8_131 rfl rfl (Nat.le_of_ble_eq_true rfl) ⟨⟨rfl, rfl⟩, Nat.le_of_ble_eq_true rfl, rfl⟩ (Nat.le_of_ble_eq_true rfl) (Nat.le_of_ble_eq_true rfl) (q_aload_n c_152_0 rfl ?_))
    have h_112 := ir_41_5 hI
    have h_113 := ir_41_4 hI
    have h_114 := ir_41_6 hI
    have h_115 := rt_bad hRt (by first | (clear h_1 hg_e1 h_2 hr_e1 h_3 hg_a9 h_4 hg_f0 h_105 h_106 h_107 h_108 h_109 h_110 h_111 h_112 h_113 h_114; omega) | omega)
    have hrb_hRt := rt_bad hRt (by first | exact q_5e082ea92 h_115 hg_f0 | omega)
    refine v_gi (z := 5) (v := m 1 5) c_152_1 kf_8_102 rfl (Nat.le_of_ble_eq_true rfl) rfl rfl hrb_hRt.2.1 (q_iconst c_152_4 (v_ic_ne_t (t := 12) c_152_5 rfl ⟨by first | exact q_0f78863d3 h_115 | omega, ⟨(Int.le_trans (by decide) h_109.1), (Int.le_trans h_109.2 (by decide))⟩, by decide, by decide⟩ (q_iconst c_152_12 (v_zret c_152_13 rfl (by decide) (bk_inl (v_if_eq_t (t := 24) c_161_4 rfl (by decide) (q_aload_n c_161_24 rfl ?_)))))))
    refine v_cv c_161_25 km_8_131 rfl rfl (Nat.le_of_ble_eq_true rfl) ⟨⟨rfl, rfl⟩, Nat.le_of_ble_eq_true rfl, rfl⟩ (Nat.le_of_ble_eq_true rfl) (Nat.le_of_ble_eq_true rfl) (q_aload_n c_152_0 rfl (v_gi (z := 5) (v := m 1 5) c_152_1 kf_8_102 rfl (Nat.le_of_ble_eq_true rfl) rfl rfl hrb_hRt.2.1 (q_iconst c_152_4 (v_ic_ne_t (t := 12) c_152_5 rfl ⟨by first | exact q_0f78863d3 h_115 | omega, ⟨(Int.le_trans (by decide) h_109.1), (Int.le_trans h_109.2 (by decide))⟩, by decide, by decide⟩ (q_iconst c_152_12 (v_zret c_152_13 rfl (by decide) (bk_inl ?_)))))))
    refine v_if_eq_t (t := 41) c_161_28 rfl (by decide) (q_vret rfl rfl ?_)
    have h_116 : c 41 5 = m 1 5 := hrb_hRt.2.1
    have h_117 : c 41 6 = f0 := ((hrb_hRt.2.2.2).trans ((hg_f0)))
    exact K c  hI (fun a j hm => rfl) (rt_i2 ⟨⟨by first | exact q_3b8ab523e h_106 h_115 hg_f0 | omega, by first | exact q_c99d6ea93 h_105 | omega⟩, by first | exact q_88dc5fb99 h_111 | omega, by first | exact q_cb71117a2 h_111 h_115 | omega, by first | exact q_88dc5fb99 h_106 | omega⟩) (Or.inr (Or.inl (by first | exact q_2ce17e943 h_106 h_115 hg_f0 | omega))) (Or.inr (Or.inl (by first | exact q_2ce17e943 h_106 h_115 hg_f0 | omega)))

set_option maxRecDepth 100000 in
set_option maxHeartbeats 4000000 in
theorem L_33_0 {sc : List Int32} {e eg : Int} {d dh u ug P Q P2 Q2 A : Nat} {c m m9 : ME} {e1 jr st si du : Int} {F H : Int → Int} {Z : AR → Prop} (hI : Iv u e P2 Q2 c) (hJ : Iv ug eg P Q m) (hJ9 : Iv ug eg P Q m9) (hA : A = 13 ∨ A = 25) (hq0 : (jr ≤ 5)) (hg_e1 : m 1 1 = e1) (hr_e1 : c 41 3 = e1) (hg_jr : m A 0 = jr) (hr_jr : c 41 16 = jr) (hg_st : m A 1 = st) (hr_st : c 41 17 = st) (hg_si : m A 2 = si) (hr_si : c 41 18 = si) (hg_du : m A 3 = du) (hr_du : c 41 19 = du) (hF : ∀ j : Int, m 2 j = F j) (hH : ∀ j : Int, c 43 j = H j) (hU : Ub F H) (hRt : Rt m c) (hG : Wp sc (dh + 18) 33 0 [(0, .ref A), (1, .ref 1), (2, vi 0)] [] (Wd P Q P P m) 0 0 (fun q => q = (.inl (none), Wd P Q P P m9, 0, 0))) (K : ∀ (c2 : ME), Iv u e P2 Q2 c2 → (∀ (a : Nat) (j : Int), ¬ ((a = 41 ∧ j = 4) ∨ (a = 41 ∧ j = 5) ∨ (a = 41 ∧ j = 6) ∨ (a = 41 ∧ j = 16) ∨ (a = 41 ∧ j = 17) ∨ (a = 41 ∧ j = 18) ∨ (a = 41 ∧ j = 19) ∨ a = 44 ∨ a = 45 ∨ a = 46) → c2 a j = c a j) → (Rt m9 c2) → ((m9 A 0 = c2 41 16)) → ((m9 A 1 = c2 41 17)) → ((m9 A 2 = c2 41 18)) → ((m9 A 3 = c2 41 19)) → Z (.inl (none), Wd P2 Q2 P2 P2 c2, 0, 0)) : Wp sc (d + 18) 168 0 [(0, .ref 41), (1, vi 10290)] [] (Wd P2 Q2 P2 P2 c) 0 0 Z := by
  have hP := iv_P hJ
  have hQ := iv_Q hJ
  have h_1 := ir_1_1 hJ
  have h_2 := ir_41_3 hI
  have h_3 := ir_p0_0 hJ hA
  have h_4 := ir_41_16 hI
  have h_5 := ir_p0_1 hJ hA
  have h_6 := ir_41_17 hI
  have h_7 := ir_p0_2 hJ hA
  have h_8 := ir_41_18 hI
  have h_9 := ir_p0_3 hJ hA
  have h_10 := ir_41_19 hI
  refine gh hG (q_iload_n c_33_0 rfl (v_tsw_i (t := 28) 0 c_33_1 (by omega) (by decide) rfl (by decide) (q_aload_n c_33_28 rfl (q_aload_n c_33_29 rfl (v_gr (t := (A + 1)) c_33_30 kf_2_15 (ck_p0 hA) (a68z hA) rfl (q_aload_n c_33_33 rfl (v_gi (z := 0) (v := jr) c_33_34 kf_2_81 (ck_p0 hA) (a68z hA) rfl rfl (hg_jr) ?_)))))))
  refine q_iconst c_33_37 (v_imul (v := 4 * jr) c_33_38 (by first | (clear hq0 h_1 hg_e1 h_2 hr_e1 h_3 hg_jr h_4 hr_jr h_5 hg_st h_6 hr_st h_7 hg_si h_8 hr_si h_9 hg_du h_10 hr_du; omega) | omega) (q_iconst c_33_39 (v_sip c_33_40 (by decide) (q_call c_33_43 rfl rfl rfl (q_iload_n c_32_0 rfl (q_istore c_32_1 (Nat.le_of_ble_eq_true rfl) (q_iload c_32_3 rfl ?_)))))))
  refine q_iload_n c_32_5 rfl (q_iload_n c_32_6 rfl (v_iadd (v := 4 * jr + 4) c_32_7 rfl (v_ic_ge_f (t := 34) c_32_8 rfl ⟨by first | exact q_764c491a0 h_4 hr_jr | omega, by first | exact q_b942bf61d | omega, by first | exact q_f45c54e9c hq0 | omega⟩ (q_iload c_32_11 rfl (q_aload_n c_32_13 rfl (v_al c_32_14 (ck_p1 hA) (a68 hA rfl) (by decide) (v_ic_ge_f (t := 34) c_32_15 rfl ⟨by first | exact q_764c491a0 h_4 hr_jr | omega, by first | exact q_67187c203 hq0 | omega, by decide⟩ ?_)))))))
  refine q_aload_n c_32_18 rfl (q_iload c_32_19 rfl (q_aload_n c_32_21 rfl (q_iload c_32_22 rfl ?_)))
  have h_11 := ir_1_4 hJ
  refine v_cv c_32_24 km_2_101 rfl rfl (Nat.le_of_ble_eq_true rfl) ⟨⟨rfl, rfl⟩, Nat.le_of_ble_eq_true rfl, rfl⟩ (Nat.le_of_ble_eq_true rfl) (Nat.le_of_ble_eq_true rfl) (fn_of (s_8 (a1 := 999) hJ (show (-1) ≤ 999 ∧ 999 ≤ 9999 from ⟨by decide, by decide⟩) (fun c_12 y_15 hI_13 hF_14 hy_15 h_16 => ?_)))
  intro hG_17
  refine bk_inl (v_is c_32_27 (ck_p1 hA) (a68 hA rfl) (by decide) ⟨by first | exact q_8ef161bc6 h_4 hr_jr | omega, by first | exact q_67187c203 hq0 | omega⟩ (v_iinc (v := 4 * jr + 1) c_32_28 rfl (Nat.le_of_ble_eq_true rfl) rfl (q_goto (t := 3) c_32_31 rfl (q_iload c_32_3 rfl (q_iload_n c_32_5 rfl (q_iload_n c_32_6 rfl (v_iadd (v := 4 * jr + 4) c_32_7 rfl ?_)))))))
  refine v_ic_ge_f (t := 34) c_32_8 rfl ⟨by first | exact q_cbe56f1d7 h_4 hr_jr | omega, by first | exact q_1e5bb51b5 | omega, by first | exact q_f45c54e9c hq0 | omega⟩ (q_iload c_32_11 rfl (q_aload_n c_32_13 rfl (v_al c_32_14 (ck_p1 hA) (a68 hA rfl) (by decide) (v_ic_ge_f (t := 34) c_32_15 rfl ⟨by first | exact q_cbe56f1d7 h_4 hr_jr | omega, by first | exact q_58085ea35 hq0 | omega, by decide⟩ (q_aload_n c_32_18 rfl (q_iload c_32_19 rfl (q_aload_n c_32_21 rfl ?_)))))))
  refine q_iload c_32_22 rfl ?_
  have h_18 := ir_1_4 hI_13
  have hI_19 := iw_p1 (j := 4 * jr) (v := y_15) hI_13 hA ⟨hy_15.1, by first | exact q_dec870c4c h_16 | omega⟩
  refine v_cv c_32_24 km_2_101 rfl rfl (Nat.le_of_ble_eq_true rfl) ⟨⟨rfl, rfl⟩, Nat.le_of_ble_eq_true rfl, rfl⟩ (Nat.le_of_ble_eq_true rfl) (Nat.le_of_ble_eq_true rfl) (fn_of (s_8 (a1 := 999) hI_19 (show (-1) ≤ 999 ∧ 999 ≤ 9999 from ⟨by decide, by decide⟩) (fun c_20 y_23 hI_21 hF_22 hy_23 h_24 => ?_)))
  intro hG_25
  refine bk_inl (v_is c_32_27 (ck_p1 hA) (a68 hA rfl) (by decide) ⟨by first | exact q_4c20d8bac h_4 hr_jr | omega, by first | exact q_58085ea35 hq0 | omega⟩ (v_iinc (v := 4 * jr + 2) c_32_28 rfl (Nat.le_of_ble_eq_true rfl) (by first | (clear hq0 h_1 hg_e1 h_2 hr_e1 h_3 hg_jr h_4 hr_jr h_5 hg_st h_6 hr_st h_7 hg_si h_8 hr_si h_9 hg_du h_10 hr_du h_11 h_18 h_16 h_24; omega) | omega) (q_goto (t := 3) c_32_31 rfl (q_iload c_32_3 rfl (q_iload_n c_32_5 rfl (q_iload_n c_32_6 rfl (v_iadd (v := 4 * jr + 4) c_32_7 rfl ?_)))))))
  refine v_ic_ge_f (t := 34) c_32_8 rfl ⟨by first | exact q_4f4ba0c30 h_4 hr_jr | omega, by first | exact q_a16cada9f | omega, by first | exact q_f45c54e9c hq0 | omega⟩ (q_iload c_32_11 rfl (q_aload_n c_32_13 rfl (v_al c_32_14 (ck_p1 hA) (a68 hA rfl) (by decide) (v_ic_ge_f (t := 34) c_32_15 rfl ⟨by first | exact q_4f4ba0c30 h_4 hr_jr | omega, by first | exact q_3e1f19666 hq0 | omega, by decide⟩ (q_aload_n c_32_18 rfl (q_iload c_32_19 rfl (q_aload_n c_32_21 rfl ?_)))))))
  refine q_iload c_32_22 rfl ?_
  have h_26 := ir_1_4 hI_21
  have hI_27 := iw_p1 (j := 4 * jr + 1) (v := y_23) hI_21 hA ⟨hy_23.1, by first | exact q_dec870c4c h_24 | omega⟩
  refine v_cv c_32_24 km_2_101 rfl rfl (Nat.le_of_ble_eq_true rfl) ⟨⟨rfl, rfl⟩, Nat.le_of_ble_eq_true rfl, rfl⟩ (Nat.le_of_ble_eq_true rfl) (Nat.le_of_ble_eq_true rfl) (fn_of (s_8 (a1 := 999) hI_27 (show (-1) ≤ 999 ∧ 999 ≤ 9999 from ⟨by decide, by decide⟩) (fun c_28 y_31 hI_29 hF_30 hy_31 h_32 => ?_)))
  intro hG_33
  refine bk_inl (v_is c_32_27 (ck_p1 hA) (a68 hA rfl) (by decide) ⟨by first | exact q_d7fc477fe h_4 hr_jr | omega, by first | exact q_3e1f19666 hq0 | omega⟩ (v_iinc (v := 4 * jr + 3) c_32_28 rfl (Nat.le_of_ble_eq_true rfl) (by first | (clear hq0 h_1 hg_e1 h_2 hr_e1 h_3 hg_jr h_4 hr_jr h_5 hg_st h_6 hr_st h_7 hg_si h_8 hr_si h_9 hg_du h_10 hr_du h_11 h_18 h_26 h_16 h_24 h_32; omega) | omega) (q_goto (t := 3) c_32_31 rfl (q_iload c_32_3 rfl (q_iload_n c_32_5 rfl (q_iload_n c_32_6 rfl (v_iadd (v := 4 * jr + 4) c_32_7 rfl ?_)))))))
  refine v_ic_ge_f (t := 34) c_32_8 rfl ⟨by first | exact q_91a5f1417 h_4 hr_jr | omega, by first | exact q_550340cc7 | omega, by first | exact q_f45c54e9c hq0 | omega⟩ (q_iload c_32_11 rfl (q_aload_n c_32_13 rfl (v_al c_32_14 (ck_p1 hA) (a68 hA rfl) (by decide) (v_ic_ge_f (t := 34) c_32_15 rfl ⟨by first | exact q_91a5f1417 h_4 hr_jr | omega, by first | exact q_5ec89d290 hq0 | omega, by decide⟩ (q_aload_n c_32_18 rfl (q_iload c_32_19 rfl (q_aload_n c_32_21 rfl ?_)))))))
  refine q_iload c_32_22 rfl ?_
  have h_34 := ir_1_4 hI_29
  have hI_35 := iw_p1 (j := 4 * jr + 2) (v := y_31) hI_29 hA ⟨hy_31.1, by first | exact q_dec870c4c h_32 | omega⟩
  refine v_cv c_32_24 km_2_101 rfl rfl (Nat.le_of_ble_eq_true rfl) ⟨⟨rfl, rfl⟩, Nat.le_of_ble_eq_true rfl, rfl⟩ (Nat.le_of_ble_eq_true rfl) (Nat.le_of_ble_eq_true rfl) (fn_of (s_8 (a1 := 999) hI_35 (show (-1) ≤ 999 ∧ 999 ≤ 9999 from ⟨by decide, by decide⟩) (fun c_36 y_39 hI_37 hF_38 hy_39 h_40 => ?_)))
  intro hG_41
  refine bk_inl (v_is c_32_27 (ck_p1 hA) (a68 hA rfl) (by decide) ⟨by first | exact q_81197e294 h_4 hr_jr | omega, by first | exact q_5ec89d290 hq0 | omega⟩ (v_iinc (v := 4 * jr + 4) c_32_28 rfl (Nat.le_of_ble_eq_true rfl) (by first | (clear hq0 h_1 hg_e1 h_2 hr_e1 h_3 hg_jr h_4 hr_jr h_5 hg_st h_6 hr_st h_7 hg_si h_8 hr_si h_9 hg_du h_10 hr_du h_11 h_18 h_26 h_34 h_16 h_24 h_32 h_40; omega) | omega) (Wp_ls [(5, vi (4 * jr + 4)), (0, .ref 1), (1, .ref (A + 1)), (2, vi (4 * jr)), (3, vi 4), (4, vi 999)] (lsub_cons rfl (lsub_cons rfl (lsub_cons rfl (lsub_cons rfl (lsub_cons rfl (lsub_cons rfl lsub_nil)))))) (q_goto (t := 3) c_32_31 rfl (q_iload c_32_3 rfl (q_iload_n c_32_5 rfl (q_iload_n c_32_6 rfl ?_)))))))
  refine v_iadd (v := 4 * jr + 4) c_32_7 rfl (v_ic_ge_t (t := 34) c_32_8 rfl ⟨by first | exact q_6cd007676 h_4 hr_jr | omega, by first | exact q_aeeb529e2 | omega, by first | exact q_f45c54e9c hq0 | omega⟩ (q_vret rfl rfl (bk_inl (q_aload_n c_33_46 rfl (q_dup c_33_47 rfl ?_)))))
  have kn_42 : Hid (c_12 A 0 = jr) := (hF_14 A 0 (qn_014d425e1 hA)).trans (hg_jr)
  have kn_43 : Hid (c_20 A 0 = jr) := (hF_22 A 0 (qn_014d425e1 hA)).trans ((up_c (p0p rfl)).trans (hid kn_42))
  have kn_44 : Hid (c_28 A 0 = jr) := (hF_30 A 0 (qn_014d425e1 hA)).trans ((up_c (p0p rfl)).trans (hid kn_43))
  have kn_45 : Hid (c_36 A 0 = jr) := (hF_38 A 0 (qn_014d425e1 hA)).trans ((up_c (p0p rfl)).trans (hid kn_44))
  refine v_gi (z := 0) (v := jr) c_33_48 kf_2_81 (ck_p0 hA) (a68z hA) rfl rfl ((up_c (p0p rfl)).trans (hid kn_45)) (q_iconst c_33_51 (v_iadd (v := jr + 1) c_33_52 rfl (v_pi (z := 0) c_33_53 kf_2_81 (ck_p0 hA) (a68z hA) rfl rfl rfl (by decide) (q_goto (t := 126) c_33_56 rfl (q_vret rfl rfl ?_)))))
  have hI_46 := iw_p1 (j := 4 * jr + 3) (v := y_39) hI_37 hA ⟨hy_39.1, by first | exact q_dec870c4c h_40 | omega⟩
  have hI_47 := iw_p0_0 (v := jr + 1) hI_46 hA ⟨by first | exact rgp_l (rg_eq hg_jr h_3).1 (by decide) | omega, by first | exact q_4b7d76168 hq0 | omega⟩
  intro hE_48
  have hW : Wd P Q P P (up (up c_36 (A + 1) (4 * jr + 3) y_39) A 0 (jr + 1)) = Wd P Q P P m9 := (Prod.mk.inj (Prod.mk.inj hE_48).2).1
  have h_49 := ir_1_4 hI_37
  have h_50 := ir_1_4 hJ9
  have h_51 : m9 1 4 = c_36 1 4 := wd_fv (z := 4) 4 rfl hW rfl rfl rfl rfl (by decide) ((up_c (pn0 hA rfl)).trans (up_c (pn hA rfl rfl))) ⟨(Int.le_trans (by decide) h_49.1), (Int.le_trans h_49.2 (by decide))⟩ ⟨(Int.le_trans (by decide) h_50.1), (Int.le_trans h_50.2 (by decide))⟩
  have h_52 := ir_1_2 hI_37
  have h_53 := ir_1_2 hJ9
  have h_54 : m9 1 2 = c_36 1 2 := wd_fv (z := 2) 2 rfl hW rfl rfl rfl rfl (by decide) ((up_c (pn0 hA rfl)).trans (up_c (pn hA rfl rfl))) ⟨(Int.le_trans (by decide) h_52.1), (Int.le_trans h_52.2 (by decide))⟩ ⟨(Int.le_trans (by decide) h_53.1), (Int.le_trans h_53.2 (by decide))⟩
  have h_55 := ir_1_5 hI_37
  have h_56 := ir_1_5 hJ9
  have h_57 : m9 1 5 = c_36 1 5 := wd_fv (z := 5) 5 rfl hW rfl rfl rfl rfl (by decide) ((up_c (pn0 hA rfl)).trans (up_c (pn hA rfl rfl))) ⟨(Int.le_trans (by decide) h_55.1), (Int.le_trans h_55.2 (by decide))⟩ ⟨(Int.le_trans (by decide) h_56.1), (Int.le_trans h_56.2 (by decide))⟩
  have h_58 := ir_p0_0 hJ9 hA
  have h_59 : m9 A 0 = jr + 1 := wd_fv (z := 0) 0 rfl hW (ck_p0 hA) (ck_p0 hA) rfl rfl (a68z hA) (up_e rfl) ⟨by first | exact rgp_l (rg_eq hg_jr h_3).1 (by decide) | omega, by first | exact rgp_h (rg_eq hg_jr h_3).2 (by decide) | omega⟩ ⟨(Int.le_trans (by decide) h_58.1), (Int.le_trans h_58.2 (by decide))⟩
  have kn_60 : Hid (c_12 A 1 = st) := (hF_14 A 1 (qn_014d425e1 hA)).trans (hg_st)
  have kn_61 : Hid (c_20 A 1 = st) := (hF_22 A 1 (qn_014d425e1 hA)).trans ((up_c (p0p rfl)).trans (hid kn_60))
  have kn_62 : Hid (c_28 A 1 = st) := (hF_30 A 1 (qn_014d425e1 hA)).trans ((up_c (p0p rfl)).trans (hid kn_61))
  have kn_63 : Hid (c_36 A 1 = st) := (hF_38 A 1 (qn_014d425e1 hA)).trans ((up_c (p0p rfl)).trans (hid kn_62))
  have h_64 := ir_p0_1 hJ9 hA
  have h_65 : m9 A 1 = st := wd_fv (z := 1) 1 rfl hW (ck_p0 hA) (ck_p0 hA) rfl rfl (a68z hA) ((up_n (by decide)).trans ((up_c (p0p rfl)).trans (hid kn_63))) ⟨(Int.le_trans (by decide) (rg_eq hg_st h_5).1), (Int.le_trans (rg_eq hg_st h_5).2 (by decide))⟩ ⟨(Int.le_trans (by decide) h_64.1), (Int.le_trans h_64.2 (by decide))⟩
  have kn_66 : Hid (c_12 A 2 = si) := (hF_14 A 2 (qn_014d425e1 hA)).trans (hg_si)
  have kn_67 : Hid (c_20 A 2 = si) := (hF_22 A 2 (qn_014d425e1 hA)).trans ((up_c (p0p rfl)).trans (hid kn_66))
  have kn_68 : Hid (c_28 A 2 = si) := (hF_30 A 2 (qn_014d425e1 hA)).trans ((up_c (p0p rfl)).trans (hid kn_67))
  have kn_69 : Hid (c_36 A 2 = si) := (hF_38 A 2 (qn_014d425e1 hA)).trans ((up_c (p0p rfl)).trans (hid kn_68))
  have h_70 := ir_p0_2 hJ9 hA
  have h_71 : m9 A 2 = si := wd_fv (z := 2) 2 rfl hW (ck_p0 hA) (ck_p0 hA) rfl rfl (a68z hA) ((up_n (by decide)).trans ((up_c (p0p rfl)).trans (hid kn_69))) ⟨(Int.le_trans (by decide) (rg_eq hg_si h_7).1), (Int.le_trans (rg_eq hg_si h_7).2 (by decide))⟩ ⟨(Int.le_trans (by decide) h_70.1), (Int.le_trans h_70.2 (by decide))⟩
  have kn_72 : Hid (c_12 A 3 = du) := (hF_14 A 3 (qn_014d425e1 hA)).trans (hg_du)
  have kn_73 : Hid (c_20 A 3 = du) := (hF_22 A 3 (qn_014d425e1 hA)).trans ((up_c (p0p rfl)).trans (hid kn_72))
  have kn_74 : Hid (c_28 A 3 = du) := (hF_30 A 3 (qn_014d425e1 hA)).trans ((up_c (p0p rfl)).trans (hid kn_73))
  have kn_75 : Hid (c_36 A 3 = du) := (hF_38 A 3 (qn_014d425e1 hA)).trans ((up_c (p0p rfl)).trans (hid kn_74))
  have h_76 := ir_p0_3 hJ9 hA
  have h_77 : m9 A 3 = du := wd_fv (z := 3) 3 rfl hW (ck_p0 hA) (ck_p0 hA) rfl rfl (a68z hA) ((up_n (by decide)).trans ((up_c (p0p rfl)).trans (hid kn_75))) ⟨(Int.le_trans (by decide) (rg_eq hg_du h_9).1), (Int.le_trans (rg_eq hg_du h_9).2 (by decide))⟩ ⟨(Int.le_trans (by decide) h_76.1), (Int.le_trans h_76.2 (by decide))⟩
  refine q_iload_n c_168_0 rfl (q_ldc_s c_168_1 rfl rfl (by decide) (q_call c_168_3 rfl rfl rfl (s_158_16 (bk_inl (v_ic_ne_f (t := 56) c_168_6 rfl (by decide) (q_iconst c_168_9 (q_istore_n c_168_10 (Nat.le_of_ble_eq_true rfl) (q_iload_n c_168_11 rfl ?_))))))))
  refine q_iconst c_168_12 (v_ic_ge_f (t := 43) c_168_13 rfl (by decide) (q_aload_n c_168_16 rfl (v_gr (t := 44) c_168_17 kf_8_23 rfl (Nat.le_of_ble_eq_true rfl) rfl (q_iconst c_168_20 (q_aload_n c_168_21 rfl (v_gi (z := 16) (v := jr) c_168_22 kf_8_145 rfl (Nat.le_of_ble_eq_true rfl) rfl rfl (hr_jr) (v_imul (v := 4 * jr) c_168_25 rfl ?_)))))))
  refine q_iload_n c_168_26 rfl (v_iadd (v := 4 * jr) c_168_27 (by first | (clear hq0 h_1 hg_e1 h_2 hr_e1 h_3 hg_jr h_4 hr_jr h_5 hg_st h_6 hr_st h_7 hg_si h_8 hr_si h_9 hg_du h_10 hr_du h_11 h_18 h_26 h_34 h_49 h_50 h_51 h_52 h_53 h_54 h_55 h_56 h_57 h_58 h_59 h_64 h_65 h_70 h_71 h_76 h_77 h_16 h_24 h_32 h_40; omega) | omega) (q_aload_n c_168_28 rfl (q_iconst c_168_29 (v_sip c_168_30 (by decide) ?_))))
  have h_78 := ir_1_2 hJ
  refine v_cv c_168_33 km_8_199 rfl rfl (Nat.le_of_ble_eq_true rfl) ⟨⟨rfl, rfl⟩, Nat.le_of_ble_eq_true rfl, rfl⟩ (Nat.le_of_ble_eq_true rfl) (Nat.le_of_ble_eq_true rfl) (L_8 (m := m) (a2 := 999) (yg := y_15) (e1 := e1) (a9 := m 1 2) (f0 := m 1 4) (F := F) (H := H) hI hJ hI_13 (show (-1) ≤ 999 ∧ 999 ≤ 9999 from ⟨by decide, by decide⟩) ⟨(Int.le_trans (by decide) hy_15.1), (Int.le_trans hy_15.2 (by decide))⟩ ((hg_e1)) ((hr_e1)) (rfl) (rfl) (fun j => hF j) (fun j => hH j) hU hRt hG_17 (fun c_79 y_82 hI_80 hF_81 hy_82 hR_83 h_84 h_85 h_86 h_87 => (bk_inl ?_)))
  have hs_88 := h_84.symm
  subst hs_88
  have h_89 := ir_1_2 hI_13
  refine v_is c_168_36 rfl (by decide) (by decide) ⟨by first | exact q_8ef161bc6 h_4 hr_jr | omega, by first | exact q_67187c203 hq0 | omega⟩ (v_iinc (v := 1) c_168_37 rfl (Nat.le_of_ble_eq_true rfl) (by decide) (q_goto (t := 11) c_168_40 rfl (q_iload_n c_168_11 rfl (q_iconst c_168_12 (v_ic_ge_f (t := 43) c_168_13 rfl (by decide) (q_aload_n c_168_16 rfl (v_gr (t := 44) c_168_17 kf_8_23 rfl (Nat.le_of_ble_eq_true rfl) rfl ?_)))))))
  refine q_iconst c_168_20 (q_aload_n c_168_21 rfl ?_)
  have kn_90 : Hid (c_79 41 16 = jr) := (hF_81 41 16 qn_e8809db5e).trans (hr_jr)
  refine v_gi (z := 16) (v := jr) c_168_22 kf_8_145 rfl (Nat.le_of_ble_eq_true rfl) rfl rfl ((up_c (nn rfl)).trans (hid kn_90)) (v_imul (v := 4 * jr) c_168_25 rfl (q_iload_n c_168_26 rfl (v_iadd (v := 4 * jr + 1) c_168_27 rfl (q_aload_n c_168_28 rfl (q_iconst c_168_29 (v_sip c_168_30 (by decide) ?_))))))
  have hI_91 := iw_44 (j := 4 * jr) (v := y_15) hI_80 ⟨hy_15.1, by first | exact q_dec870c4c h_16 | omega⟩
  have kn_92 : Hid (c_12 1 1 = e1) := (hF_14 1 1 qn_b782e6d88).trans (hg_e1)
  have kn_93 : Hid (c_79 41 3 = e1) := (hF_81 41 3 qn_97fd72088).trans (hr_e1)
  refine v_cv c_168_33 km_8_199 rfl rfl (Nat.le_of_ble_eq_true rfl) ⟨⟨rfl, rfl⟩, Nat.le_of_ble_eq_true rfl, rfl⟩ (Nat.le_of_ble_eq_true rfl) (Nat.le_of_ble_eq_true rfl) (L_8 (m := up c_12 (A + 1) (4 * jr) y_15) (a2 := 999) (yg := y_23) (e1 := e1) (a9 := c_12 1 2) (f0 := c_12 1 4) (F := F) (H := H) hI_91 hI_19 hI_21 (show (-1) ≤ 999 ∧ 999 ≤ 9999 from ⟨by decide, by decide⟩) ⟨(Int.le_trans (by decide) hy_23.1), (Int.le_trans hy_23.2 (by decide))⟩ (((up_c (pn hA rfl rfl)).trans (hid kn_92))) (((up_c (nn rfl)).trans (hid kn_93))) ((up_c (pn hA rfl rfl))) ((up_c (pn hA rfl rfl))) (fun j => ((up_c (pn hA rfl rfl)).trans (hF_14 2 j qn_e2b123f84)).trans (hF j)) (fun j => ((up_c (nn rfl)).trans (hF_81 43 j qn_0f2179ecb)).trans (hH j)) hU (rt_fr hR_83 (up_c (pn hA rfl rfl)) (up_c (pn hA rfl rfl)) (up_c (pn hA rfl rfl)) (up_c (nn rfl)) (up_c (nn rfl)) (up_c (nn rfl))) hG_25 (fun c_94 y_97 hI_95 hF_96 hy_97 hR_98 h_99 h_100 h_101 h_102 => (bk_inl ?_)))
  have hs_103 := h_99.symm
  subst hs_103
  have h_104 := ir_1_2 hI_21
  refine v_is c_168_36 rfl (by decide) (by decide) ⟨by first | exact q_4c20d8bac h_4 hr_jr | omega, by first | exact q_58085ea35 hq0 | omega⟩ (v_iinc (v := 2) c_168_37 rfl (Nat.le_of_ble_eq_true rfl) (by decide) (q_goto (t := 11) c_168_40 rfl (q_iload_n c_168_11 rfl (q_iconst c_168_12 (v_ic_ge_f (t := 43) c_168_13 rfl (by decide) (q_aload_n c_168_16 rfl (v_gr (t := 44) c_168_17 kf_8_23 rfl (Nat.le_of_ble_eq_true rfl) rfl ?_)))))))
  refine q_iconst c_168_20 (q_aload_n c_168_21 rfl ?_)
  have kn_105 : Hid (c_94 41 16 = jr) := (hF_96 41 16 qn_e8809db5e).trans ((up_c (nn rfl)).trans (hid kn_90))
  refine v_gi (z := 16) (v := jr) c_168_22 kf_8_145 rfl (Nat.le_of_ble_eq_true rfl) rfl rfl ((up_c (nn rfl)).trans (hid kn_105)) (v_imul (v := 4 * jr) c_168_25 rfl (q_iload_n c_168_26 rfl (v_iadd (v := 4 * jr + 2) c_168_27 rfl (q_aload_n c_168_28 rfl (q_iconst c_168_29 (v_sip c_168_30 (by decide) ?_))))))
  have hI_106 := iw_44 (j := 4 * jr + 1) (v := y_23) hI_95 ⟨hy_23.1, by first | exact q_dec870c4c h_24 | omega⟩
  have kn_107 : Hid (c_20 1 1 = e1) := (hF_22 1 1 qn_b782e6d88).trans ((up_c (pn hA rfl rfl)).trans (hid kn_92))
  have kn_108 : Hid (c_94 41 3 = e1) := (hF_96 41 3 qn_97fd72088).trans ((up_c (nn rfl)).trans (hid kn_93))
  refine v_cv c_168_33 km_8_199 rfl rfl (Nat.le_of_ble_eq_true rfl) ⟨⟨rfl, rfl⟩, Nat.le_of_ble_eq_true rfl, rfl⟩ (Nat.le_of_ble_eq_true rfl) (Nat.le_of_ble_eq_true rfl) (L_8 (m := up c_20 (A + 1) (4 * jr + 1) y_23) (a2 := 999) (yg := y_31) (e1 := e1) (a9 := c_20 1 2) (f0 := c_20 1 4) (F := F) (H := H) hI_106 hI_27 hI_29 (show (-1) ≤ 999 ∧ 999 ≤ 9999 from ⟨by decide, by decide⟩) ⟨(Int.le_trans (by decide) hy_31.1), (Int.le_trans hy_31.2 (by decide))⟩ (((up_c (pn hA rfl rfl)).trans (hid kn_107))) (((up_c (nn rfl)).trans (hid kn_108))) ((up_c (pn hA rfl rfl))) ((up_c (pn hA rfl rfl))) (fun j => ((up_c (pn hA rfl rfl)).trans ((hF_22 2 j qn_e2b123f84).trans ((up_c (pn hA rfl rfl)).trans (hF_14 2 j qn_e2b123f84)))).trans (hF j)) (fun j => ((up_c (nn rfl)).trans ((hF_96 43 j qn_0f2179ecb).trans ((up_c (nn rfl)).trans (hF_81 43 j qn_0f2179ecb)))).trans (hH j)) hU (rt_fr hR_98 (up_c (pn hA rfl rfl)) (up_c (pn hA rfl rfl)) (up_c (pn hA rfl rfl)) (up_c (nn rfl)) (up_c (nn rfl)) (up_c (nn rfl))) hG_33 (fun c_109 y_112 hI_110 hF_111 hy_112 hR_113 h_114 h_115 h_116 h_117 => (bk_inl ?_)))
  have hs_118 := h_114.symm
  subst hs_118
  have h_119 := ir_1_2 hI_29
  refine v_is c_168_36 rfl (by decide) (by decide) ⟨by first | exact q_d7fc477fe h_4 hr_jr | omega, by first | exact q_3e1f19666 hq0 | omega⟩ (v_iinc (v := 3) c_168_37 rfl (Nat.le_of_ble_eq_true rfl) (by decide) (q_goto (t := 11) c_168_40 rfl (q_iload_n c_168_11 rfl (q_iconst c_168_12 (v_ic_ge_f (t := 43) c_168_13 rfl (by decide) (q_aload_n c_168_16 rfl (v_gr (t := 44) c_168_17 kf_8_23 rfl (Nat.le_of_ble_eq_true rfl) rfl ?_)))))))
  refine q_iconst c_168_20 (q_aload_n c_168_21 rfl ?_)
  have kn_120 : Hid (c_109 41 16 = jr) := (hF_111 41 16 qn_e8809db5e).trans ((up_c (nn rfl)).trans (hid kn_105))
  refine v_gi (z := 16) (v := jr) c_168_22 kf_8_145 rfl (Nat.le_of_ble_eq_true rfl) rfl rfl ((up_c (nn rfl)).trans (hid kn_120)) (v_imul (v := 4 * jr) c_168_25 rfl (q_iload_n c_168_26 rfl (v_iadd (v := 4 * jr + 3) c_168_27 rfl (q_aload_n c_168_28 rfl (q_iconst c_168_29 (v_sip c_168_30 (by decide) ?_))))))
  have hI_121 := iw_44 (j := 4 * jr + 2) (v := y_31) hI_110 ⟨hy_31.1, by first | exact q_dec870c4c h_32 | omega⟩
  have kn_122 : Hid (c_28 1 1 = e1) := (hF_30 1 1 qn_b782e6d88).trans ((up_c (pn hA rfl rfl)).trans (hid kn_107))
  have kn_123 : Hid (c_109 41 3 = e1) := (hF_111 41 3 qn_97fd72088).trans ((up_c (nn rfl)).trans (hid kn_108))
  refine v_cv c_168_33 km_8_199 rfl rfl (Nat.le_of_ble_eq_true rfl) ⟨⟨rfl, rfl⟩, Nat.le_of_ble_eq_true rfl, rfl⟩ (Nat.le_of_ble_eq_true rfl) (Nat.le_of_ble_eq_true rfl) (L_8 (m := up c_28 (A + 1) (4 * jr + 2) y_31) (a2 := 999) (yg := y_39) (e1 := e1) (a9 := c_28 1 2) (f0 := c_28 1 4) (F := F) (H := H) hI_121 hI_35 hI_37 (show (-1) ≤ 999 ∧ 999 ≤ 9999 from ⟨by decide, by decide⟩) ⟨(Int.le_trans (by decide) hy_39.1), (Int.le_trans hy_39.2 (by decide))⟩ (((up_c (pn hA rfl rfl)).trans (hid kn_122))) (((up_c (nn rfl)).trans (hid kn_123))) ((up_c (pn hA rfl rfl))) ((up_c (pn hA rfl rfl))) (fun j => ((up_c (pn hA rfl rfl)).trans ((hF_30 2 j qn_e2b123f84).trans ((up_c (pn hA rfl rfl)).trans ((hF_22 2 j qn_e2b123f84).trans ((up_c (pn hA rfl rfl)).trans (hF_14 2 j qn_e2b123f84)))))).trans (hF j)) (fun j => ((up_c (nn rfl)).trans ((hF_111 43 j qn_0f2179ecb).trans ((up_c (nn rfl)).trans ((hF_96 43 j qn_0f2179ecb).trans ((up_c (nn rfl)).trans (hF_81 43 j qn_0f2179ecb)))))).trans (hH j)) hU (rt_fr hR_113 (up_c (pn hA rfl rfl)) (up_c (pn hA rfl rfl)) (up_c (pn hA rfl rfl)) (up_c (nn rfl)) (up_c (nn rfl)) (up_c (nn rfl))) hG_41 (fun c_124 y_127 hI_125 hF_126 hy_127 hR_128 h_129 h_130 h_131 h_132 => (bk_inl ?_)))
  have hs_133 := h_129.symm
  subst hs_133
  refine v_is c_168_36 rfl (by decide) (by decide) ⟨by first | exact q_81197e294 h_4 hr_jr | omega, by first | exact q_5ec89d290 hq0 | omega⟩ (v_iinc (v := 4) c_168_37 rfl (Nat.le_of_ble_eq_true rfl) (by decide) (Wp_ls [(2, vi 4), (0, .ref 41), (1, vi 10290)] (lsub_cons rfl (lsub_cons rfl (lsub_cons rfl lsub_nil))) (q_goto (t := 11) c_168_40 rfl (q_iload_n c_168_11 rfl (q_iconst c_168_12 (v_ic_ge_t (t := 43) c_168_13 rfl (by decide) (q_aload_n c_168_43 rfl ?_)))))))
  refine q_dup c_168_44 rfl ?_
  have kn_134 : Hid (c_124 41 16 = jr) := (hF_126 41 16 qn_e8809db5e).trans ((up_c (nn rfl)).trans (hid kn_120))
  refine v_gi (z := 16) (v := jr) c_168_45 kf_8_145 rfl (Nat.le_of_ble_eq_true rfl) rfl rfl ((up_c (nn rfl)).trans (hid kn_134)) (q_iconst c_168_48 (v_iadd (v := jr + 1) c_168_49 rfl (v_pi (z := 16) c_168_50 kf_8_145 rfl (Nat.le_of_ble_eq_true rfl) rfl rfl rfl (by decide) (q_goto (t := 159) c_168_53 rfl (q_vret rfl rfl ?_)))))
  have hI_135 := iw_44 (j := 4 * jr + 3) (v := y_39) hI_125 ⟨hy_39.1, by first | exact q_dec870c4c h_40 | omega⟩
  have hI_136 := iw_41_16 (v := jr + 1) hI_135 ⟨by first | exact rgp_l (rg_eq hg_jr h_3).1 (by decide) | omega, by first | exact q_4b7d76168 hq0 | omega⟩
  have h_137 := ir_41_5 hI_125
  have h_138 := ir_41_4 hI_125
  have h_139 := ir_41_6 hI_125
  have h_140 := rt_or hR_128
  have h_141 : (up (up c_124 44 (4 * jr + 3) y_39) 41 16 (jr + 1)) 41 5 = c_124 41 5 := ((up_n (by decide)).trans (up_c (nn rfl)))
  have h_142 : (up (up c_124 44 (4 * jr + 3) y_39) 41 16 (jr + 1)) 41 4 = c_124 41 4 := ((up_n (by decide)).trans (up_c (nn rfl)))
  have h_143 : (up (up c_124 44 (4 * jr + 3) y_39) 41 16 (jr + 1)) 41 6 = c_124 41 6 := ((up_n (by decide)).trans (up_c (nn rfl)))
  have h_144 : (up (up c_124 44 (4 * jr + 3) y_39) 41 16 (jr + 1)) 41 16 = jr + 1 := (up_e rfl)
  have kn_145 : Hid (c_79 41 17 = st) := (hF_81 41 17 qn_a870196d2).trans (hr_st)
  have kn_146 : Hid (c_94 41 17 = st) := (hF_96 41 17 qn_a870196d2).trans ((up_c (nn rfl)).trans (hid kn_145))
  have kn_147 : Hid (c_109 41 17 = st) := (hF_111 41 17 qn_a870196d2).trans ((up_c (nn rfl)).trans (hid kn_146))
  have kn_148 : Hid (c_124 41 17 = st) := (hF_126 41 17 qn_a870196d2).trans ((up_c (nn rfl)).trans (hid kn_147))
  have h_149 : (up (up c_124 44 (4 * jr + 3) y_39) 41 16 (jr + 1)) 41 17 = st := ((up_n (by decide)).trans ((up_c (nn rfl)).trans (hid kn_148)))
  have kn_150 : Hid (c_79 41 18 = si) := (hF_81 41 18 qn_d8f940cfc).trans (hr_si)
  have kn_151 : Hid (c_94 41 18 = si) := (hF_96 41 18 qn_d8f940cfc).trans ((up_c (nn rfl)).trans (hid kn_150))
  have kn_152 : Hid (c_109 41 18 = si) := (hF_111 41 18 qn_d8f940cfc).trans ((up_c (nn rfl)).trans (hid kn_151))
  have kn_153 : Hid (c_124 41 18 = si) := (hF_126 41 18 qn_d8f940cfc).trans ((up_c (nn rfl)).trans (hid kn_152))
  have h_154 : (up (up c_124 44 (4 * jr + 3) y_39) 41 16 (jr + 1)) 41 18 = si := ((up_n (by decide)).trans ((up_c (nn rfl)).trans (hid kn_153)))
  have kn_155 : Hid (c_79 41 19 = du) := (hF_81 41 19 qn_f6eda7af3).trans (hr_du)
  have kn_156 : Hid (c_94 41 19 = du) := (hF_96 41 19 qn_f6eda7af3).trans ((up_c (nn rfl)).trans (hid kn_155))
  have kn_157 : Hid (c_109 41 19 = du) := (hF_111 41 19 qn_f6eda7af3).trans ((up_c (nn rfl)).trans (hid kn_156))
  have kn_158 : Hid (c_124 41 19 = du) := (hF_126 41 19 qn_f6eda7af3).trans ((up_c (nn rfl)).trans (hid kn_157))
  have h_159 : (up (up c_124 44 (4 * jr + 3) y_39) 41 16 (jr + 1)) 41 19 = du := ((up_n (by decide)).trans ((up_c (nn rfl)).trans (hid kn_158)))
  exact K (up (up c_124 44 (4 * jr + 3) y_39) 41 16 (jr + 1))  hI_136 (fun a j hm => (up_b (Decidable.or_iff_not_imp_left.mpr (fun h1 h2 => hm (Or.inr (Or.inr (Or.inr (Or.inl ⟨Decidable.not_not.mp h1, h2⟩))))))).trans ((up_b (Decidable.or_iff_not_imp_left.mpr (fun h1 h2 => hm (Or.inr (Or.inr (Or.inr (Or.inr (Or.inr (Or.inr (Or.inr (Or.inl (Decidable.not_not.mp h1)))))))))))).trans ((hF_126 a j (qv_e105a9b19 hm)).trans ((up_b (Decidable.or_iff_not_imp_left.mpr (fun h1 h2 => hm (Or.inr (Or.inr (Or.inr (Or.inr (Or.inr (Or.inr (Or.inr (Or.inl (Decidable.not_not.mp h1)))))))))))).trans ((hF_111 a j (qv_e105a9b19 hm)).trans ((up_b (Decidable.or_iff_not_imp_left.mpr (fun h1 h2 => hm (Or.inr (Or.inr (Or.inr (Or.inr (Or.inr (Or.inr (Or.inr (Or.inl (Decidable.not_not.mp h1)))))))))))).trans ((hF_96 a j (qv_e105a9b19 hm)).trans ((up_b (Decidable.or_iff_not_imp_left.mpr (fun h1 h2 => hm (Or.inr (Or.inr (Or.inr (Or.inr (Or.inr (Or.inr (Or.inr (Or.inl (Decidable.not_not.mp h1)))))))))))).trans (hF_81 a j (qv_e105a9b19 hm)))))))))) (by unfold Rt; omega) (by first | exact q_4f359956e h_59 | omega) (by first | exact q_d8da297ae h_65 | omega) (by first | exact q_d8da297ae h_71 | omega) (by first | exact q_d8da297ae h_77 | omega)

set_option maxRecDepth 100000 in
set_option maxHeartbeats 4000000 in
theorem L_33_1 {sc : List Int32} {e eg : Int} {d dh u ug P Q P2 Q2 A : Nat} {c m m9 : ME} {e1 jr st si du : Int} {F H : Int → Int} {Z : AR → Prop} (hI : Iv u e P2 Q2 c) (hJ : Iv ug eg P Q m) (hJ9 : Iv ug eg P Q m9) (hA : A = 13 ∨ A = 25) (hq0 : (st ≤ 3)) (hg_e1 : m 1 1 = e1) (hr_e1 : c 41 3 = e1) (hg_jr : m A 0 = jr) (hr_jr : c 41 16 = jr) (hg_st : m A 1 = st) (hr_st : c 41 17 = st) (hg_si : m A 2 = si) (hr_si : c 41 18 = si) (hg_du : m A 3 = du) (hr_du : c 41 19 = du) (hF : ∀ j : Int, m 2 j = F j) (hH : ∀ j : Int, c 43 j = H j) (hU : Ub F H) (hRt : Rt m c) (hG : Wp sc (dh + 18) 33 0 [(0, .ref A), (1, .ref 1), (2, vi 1)] [] (Wd P Q P P m) 0 0 (fun q => q = (.inl (none), Wd P Q P P m9, 0, 0))) (K : ∀ (c2 : ME), Iv u e P2 Q2 c2 → (∀ (a : Nat) (j : Int), ¬ ((a = 41 ∧ j = 4) ∨ (a = 41 ∧ j = 5) ∨ (a = 41 ∧ j = 6) ∨ (a = 41 ∧ j = 16) ∨ (a = 41 ∧ j = 17) ∨ (a = 41 ∧ j = 18) ∨ (a = 41 ∧ j = 19) ∨ a = 44 ∨ a = 45 ∨ a = 46) → c2 a j = c a j) → (Rt m9 c2) → ((m9 A 0 = c2 41 16)) → ((m9 A 1 = c2 41 17)) → ((m9 A 2 = c2 41 18)) → ((m9 A 3 = c2 41 19)) → Z (.inl (none), Wd P2 Q2 P2 P2 c2, 0, 0)) : Wp sc (d + 18) 168 0 [(0, .ref 41), (1, vi 20594117)] [] (Wd P2 Q2 P2 P2 c) 0 0 Z := by
  have hP := iv_P hJ
  have hQ := iv_Q hJ
  have h_1 := ir_1_1 hJ
  have h_2 := ir_41_3 hI
  have h_3 := ir_p0_0 hJ hA
  have h_4 := ir_41_16 hI
  have h_5 := ir_p0_1 hJ hA
  have h_6 := ir_41_17 hI
  have h_7 := ir_p0_2 hJ hA
  have h_8 := ir_41_18 hI
  have h_9 := ir_p0_3 hJ hA
  have h_10 := ir_41_19 hI
  refine gh hG (q_iload_n c_33_0 rfl (v_tsw_i (t := 59) 1 c_33_1 (by omega) (by decide) rfl (by decide) (q_aload_n c_33_59 rfl (q_aload_n c_33_60 rfl (v_gr (t := (A + 2)) c_33_61 kf_2_19 (ck_p0 hA) (a68z hA) rfl (q_aload_n c_33_64 rfl (v_gi (z := 1) (v := st) c_33_65 kf_2_84 (ck_p0 hA) (a68z hA) rfl rfl (hg_st) ?_)))))))
  refine q_iconst c_33_68 (v_imul (v := 3 * st) c_33_69 (by first | (clear hq0 h_1 hg_e1 h_2 hr_e1 h_3 hg_jr h_4 hr_jr h_5 hg_st h_6 hr_st h_7 hg_si h_8 hr_si h_9 hg_du h_10 hr_du; omega) | omega) (q_iconst c_33_70 (v_bip c_33_71 (by decide) (q_call c_33_73 rfl rfl rfl (q_iload_n c_32_0 rfl (q_istore c_32_1 (Nat.le_of_ble_eq_true rfl) (q_iload c_32_3 rfl ?_)))))))
  refine q_iload_n c_32_5 rfl (q_iload_n c_32_6 rfl (v_iadd (v := 3 * st + 3) c_32_7 rfl (v_ic_ge_f (t := 34) c_32_8 rfl ⟨by first | exact q_d9b9fb3da h_5 hg_st | omega, by first | exact q_e86648d44 | omega, by first | exact q_8a67eadd2 hq0 | omega⟩ (q_iload c_32_11 rfl (q_aload_n c_32_13 rfl (v_al c_32_14 (ck_p2 hA) (a68 hA rfl) (by decide) (v_ic_ge_f (t := 34) c_32_15 rfl ⟨by first | exact q_d9b9fb3da h_5 hg_st | omega, by first | exact q_dabadb6ac hq0 | omega, by decide⟩ ?_)))))))
  refine q_aload_n c_32_18 rfl (q_iload c_32_19 rfl (q_aload_n c_32_21 rfl (q_iload c_32_22 rfl ?_)))
  have h_11 := ir_1_4 hJ
  refine v_cv c_32_24 km_2_101 rfl rfl (Nat.le_of_ble_eq_true rfl) ⟨⟨rfl, rfl⟩, Nat.le_of_ble_eq_true rfl, rfl⟩ (Nat.le_of_ble_eq_true rfl) (Nat.le_of_ble_eq_true rfl) (fn_of (s_8 (a1 := 10) hJ (show (-1) ≤ 10 ∧ 10 ≤ 9999 from ⟨by decide, by decide⟩) (fun c_12 y_15 hI_13 hF_14 hy_15 h_16 => ?_)))
  intro hG_17
  refine bk_inl (v_is c_32_27 (ck_p2 hA) (a68 hA rfl) (by decide) ⟨by first | exact q_d1ae4f4fe h_6 hr_st | omega, by first | exact q_dabadb6ac hq0 | omega⟩ (v_iinc (v := 3 * st + 1) c_32_28 rfl (Nat.le_of_ble_eq_true rfl) rfl (q_goto (t := 3) c_32_31 rfl (q_iload c_32_3 rfl (q_iload_n c_32_5 rfl (q_iload_n c_32_6 rfl (v_iadd (v := 3 * st + 3) c_32_7 rfl ?_)))))))
  refine v_ic_ge_f (t := 34) c_32_8 rfl ⟨by first | exact q_90b13a668 h_6 hr_st | omega, by first | exact q_b897c897a | omega, by first | exact q_8a67eadd2 hq0 | omega⟩ (q_iload c_32_11 rfl (q_aload_n c_32_13 rfl (v_al c_32_14 (ck_p2 hA) (a68 hA rfl) (by decide) (v_ic_ge_f (t := 34) c_32_15 rfl ⟨by first | exact q_90b13a668 h_6 hr_st | omega, by first | exact q_b4698c5f5 hq0 | omega, by decide⟩ (q_aload_n c_32_18 rfl (q_iload c_32_19 rfl (q_aload_n c_32_21 rfl ?_)))))))
  refine q_iload c_32_22 rfl ?_
  have h_18 := ir_1_4 hI_13
  have hI_19 := iw_p2 (j := 3 * st) (v := y_15) hI_13 hA ⟨hy_15.1, by first | exact q_c41f06fcf h_16 | omega⟩
  refine v_cv c_32_24 km_2_101 rfl rfl (Nat.le_of_ble_eq_true rfl) ⟨⟨rfl, rfl⟩, Nat.le_of_ble_eq_true rfl, rfl⟩ (Nat.le_of_ble_eq_true rfl) (Nat.le_of_ble_eq_true rfl) (fn_of (s_8 (a1 := 10) hI_19 (show (-1) ≤ 10 ∧ 10 ≤ 9999 from ⟨by decide, by decide⟩) (fun c_20 y_23 hI_21 hF_22 hy_23 h_24 => ?_)))
  intro hG_25
  refine bk_inl (v_is c_32_27 (ck_p2 hA) (a68 hA rfl) (by decide) ⟨by first | exact q_d3aca15c7 h_6 hr_st | omega, by first | exact q_b4698c5f5 hq0 | omega⟩ (v_iinc (v := 3 * st + 2) c_32_28 rfl (Nat.le_of_ble_eq_true rfl) (by first | (clear hq0 h_1 hg_e1 h_2 hr_e1 h_3 hg_jr h_4 hr_jr h_5 hg_st h_6 hr_st h_7 hg_si h_8 hr_si h_9 hg_du h_10 hr_du h_11 h_18 h_16 h_24; omega) | omega) (q_goto (t := 3) c_32_31 rfl (q_iload c_32_3 rfl (q_iload_n c_32_5 rfl (q_iload_n c_32_6 rfl (v_iadd (v := 3 * st + 3) c_32_7 rfl ?_)))))))
  refine v_ic_ge_f (t := 34) c_32_8 rfl ⟨by first | exact q_74d9ecefa h_6 hr_st | omega, by first | exact q_92e2c60a6 | omega, by first | exact q_8a67eadd2 hq0 | omega⟩ (q_iload c_32_11 rfl (q_aload_n c_32_13 rfl (v_al c_32_14 (ck_p2 hA) (a68 hA rfl) (by decide) (v_ic_ge_f (t := 34) c_32_15 rfl ⟨by first | exact q_74d9ecefa h_6 hr_st | omega, by first | exact q_c12577f8d hq0 | omega, by decide⟩ (q_aload_n c_32_18 rfl (q_iload c_32_19 rfl (q_aload_n c_32_21 rfl ?_)))))))
  refine q_iload c_32_22 rfl ?_
  have h_26 := ir_1_4 hI_21
  have hI_27 := iw_p2 (j := 3 * st + 1) (v := y_23) hI_21 hA ⟨hy_23.1, by first | exact q_c41f06fcf h_24 | omega⟩
  refine v_cv c_32_24 km_2_101 rfl rfl (Nat.le_of_ble_eq_true rfl) ⟨⟨rfl, rfl⟩, Nat.le_of_ble_eq_true rfl, rfl⟩ (Nat.le_of_ble_eq_true rfl) (Nat.le_of_ble_eq_true rfl) (fn_of (s_8 (a1 := 10) hI_27 (show (-1) ≤ 10 ∧ 10 ≤ 9999 from ⟨by decide, by decide⟩) (fun c_28 y_31 hI_29 hF_30 hy_31 h_32 => ?_)))
  intro hG_33
  refine bk_inl (v_is c_32_27 (ck_p2 hA) (a68 hA rfl) (by decide) ⟨by first | exact q_68410d64f h_6 hr_st | omega, by first | exact q_c12577f8d hq0 | omega⟩ (v_iinc (v := 3 * st + 3) c_32_28 rfl (Nat.le_of_ble_eq_true rfl) (by first | (clear hq0 h_1 hg_e1 h_2 hr_e1 h_3 hg_jr h_4 hr_jr h_5 hg_st h_6 hr_st h_7 hg_si h_8 hr_si h_9 hg_du h_10 hr_du h_11 h_18 h_26 h_16 h_24 h_32; omega) | omega) (q_goto (t := 3) c_32_31 rfl (q_iload c_32_3 rfl (q_iload_n c_32_5 rfl (q_iload_n c_32_6 rfl (v_iadd (v := 3 * st + 3) c_32_7 rfl ?_)))))))
  refine v_ic_ge_t (t := 34) c_32_8 rfl ⟨by first | exact q_29dc0ef27 h_6 hr_st | omega, by first | exact q_090c47ebb | omega, by first | exact q_8a67eadd2 hq0 | omega⟩ (q_vret rfl rfl (bk_inl (q_aload_n c_33_76 rfl (q_dup c_33_77 rfl ?_))))
  have kn_34 : Hid (c_12 A 1 = st) := (hF_14 A 1 (qn_014d425e1 hA)).trans (hg_st)
  have kn_35 : Hid (c_20 A 1 = st) := (hF_22 A 1 (qn_014d425e1 hA)).trans ((up_c (p0p rfl)).trans (hid kn_34))
  have kn_36 : Hid (c_28 A 1 = st) := (hF_30 A 1 (qn_014d425e1 hA)).trans ((up_c (p0p rfl)).trans (hid kn_35))
  refine v_gi (z := 1) (v := st) c_33_78 kf_2_84 (ck_p0 hA) (a68z hA) rfl rfl ((up_c (p0p rfl)).trans (hid kn_36)) (q_iconst c_33_81 (v_iadd (v := st + 1) c_33_82 rfl (v_pi (z := 1) c_33_83 kf_2_84 (ck_p0 hA) (a68z hA) rfl rfl rfl (by decide) (q_goto (t := 126) c_33_86 rfl (q_vret rfl rfl ?_)))))
  have hI_37 := iw_p2 (j := 3 * st + 2) (v := y_31) hI_29 hA ⟨hy_31.1, by first | exact q_c41f06fcf h_32 | omega⟩
  have hI_38 := iw_p0_1 (v := st + 1) hI_37 hA ⟨by first | exact rgp_l (rg_eq hg_st h_5).1 (by decide) | omega, by first | exact q_56610638f hq0 | omega⟩
  intro hE_39
  have hW : Wd P Q P P (up (up c_28 (A + 2) (3 * st + 2) y_31) A 1 (st + 1)) = Wd P Q P P m9 := (Prod.mk.inj (Prod.mk.inj hE_39).2).1
  have h_40 := ir_1_4 hI_29
  have h_41 := ir_1_4 hJ9
  have h_42 : m9 1 4 = c_28 1 4 := wd_fv (z := 4) 4 rfl hW rfl rfl rfl rfl (by decide) ((up_c (pn0 hA rfl)).trans (up_c (pn hA rfl rfl))) ⟨(Int.le_trans (by decide) h_40.1), (Int.le_trans h_40.2 (by decide))⟩ ⟨(Int.le_trans (by decide) h_41.1), (Int.le_trans h_41.2 (by decide))⟩
  have h_43 := ir_1_2 hI_29
  have h_44 := ir_1_2 hJ9
  have h_45 : m9 1 2 = c_28 1 2 := wd_fv (z := 2) 2 rfl hW rfl rfl rfl rfl (by decide) ((up_c (pn0 hA rfl)).trans (up_c (pn hA rfl rfl))) ⟨(Int.le_trans (by decide) h_43.1), (Int.le_trans h_43.2 (by decide))⟩ ⟨(Int.le_trans (by decide) h_44.1), (Int.le_trans h_44.2 (by decide))⟩
  have h_46 := ir_1_5 hI_29
  have h_47 := ir_1_5 hJ9
  have h_48 : m9 1 5 = c_28 1 5 := wd_fv (z := 5) 5 rfl hW rfl rfl rfl rfl (by decide) ((up_c (pn0 hA rfl)).trans (up_c (pn hA rfl rfl))) ⟨(Int.le_trans (by decide) h_46.1), (Int.le_trans h_46.2 (by decide))⟩ ⟨(Int.le_trans (by decide) h_47.1), (Int.le_trans h_47.2 (by decide))⟩
  have kn_49 : Hid (c_12 A 0 = jr) := (hF_14 A 0 (qn_014d425e1 hA)).trans (hg_jr)
  have kn_50 : Hid (c_20 A 0 = jr) := (hF_22 A 0 (qn_014d425e1 hA)).trans ((up_c (p0p rfl)).trans (hid kn_49))
  have kn_51 : Hid (c_28 A 0 = jr) := (hF_30 A 0 (qn_014d425e1 hA)).trans ((up_c (p0p rfl)).trans (hid kn_50))
  have h_52 := ir_p0_0 hJ9 hA
  have h_53 : m9 A 0 = jr := wd_fv (z := 0) 0 rfl hW (ck_p0 hA) (ck_p0 hA) rfl rfl (a68z hA) ((up_n (by decide)).trans ((up_c (p0p rfl)).trans (hid kn_51))) ⟨(Int.le_trans (by decide) (rg_eq hg_jr h_3).1), (Int.le_trans (rg_eq hg_jr h_3).2 (by decide))⟩ ⟨(Int.le_trans (by decide) h_52.1), (Int.le_trans h_52.2 (by decide))⟩
  have h_54 := ir_p0_1 hJ9 hA
  have h_55 : m9 A 1 = st + 1 := wd_fv (z := 1) 1 rfl hW (ck_p0 hA) (ck_p0 hA) rfl rfl (a68z hA) (up_e rfl) ⟨by first | exact rgp_l (rg_eq hg_st h_5).1 (by decide) | omega, by first | exact rgp_h (rg_eq hg_st h_5).2 (by decide) | omega⟩ ⟨(Int.le_trans (by decide) h_54.1), (Int.le_trans h_54.2 (by decide))⟩
  have kn_56 : Hid (c_12 A 2 = si) := (hF_14 A 2 (qn_014d425e1 hA)).trans (hg_si)
  have kn_57 : Hid (c_20 A 2 = si) := (hF_22 A 2 (qn_014d425e1 hA)).trans ((up_c (p0p rfl)).trans (hid kn_56))
  have kn_58 : Hid (c_28 A 2 = si) := (hF_30 A 2 (qn_014d425e1 hA)).trans ((up_c (p0p rfl)).trans (hid kn_57))
  have h_59 := ir_p0_2 hJ9 hA
  have h_60 : m9 A 2 = si := wd_fv (z := 2) 2 rfl hW (ck_p0 hA) (ck_p0 hA) rfl rfl (a68z hA) ((up_n (by decide)).trans ((up_c (p0p rfl)).trans (hid kn_58))) ⟨(Int.le_trans (by decide) (rg_eq hg_si h_7).1), (Int.le_trans (rg_eq hg_si h_7).2 (by decide))⟩ ⟨(Int.le_trans (by decide) h_59.1), (Int.le_trans h_59.2 (by decide))⟩
  have kn_61 : Hid (c_12 A 3 = du) := (hF_14 A 3 (qn_014d425e1 hA)).trans (hg_du)
  have kn_62 : Hid (c_20 A 3 = du) := (hF_22 A 3 (qn_014d425e1 hA)).trans ((up_c (p0p rfl)).trans (hid kn_61))
  have kn_63 : Hid (c_28 A 3 = du) := (hF_30 A 3 (qn_014d425e1 hA)).trans ((up_c (p0p rfl)).trans (hid kn_62))
  have h_64 := ir_p0_3 hJ9 hA
  have h_65 : m9 A 3 = du := wd_fv (z := 3) 3 rfl hW (ck_p0 hA) (ck_p0 hA) rfl rfl (a68z hA) ((up_n (by decide)).trans ((up_c (p0p rfl)).trans (hid kn_63))) ⟨(Int.le_trans (by decide) (rg_eq hg_du h_9).1), (Int.le_trans (rg_eq hg_du h_9).2 (by decide))⟩ ⟨(Int.le_trans (by decide) h_64.1), (Int.le_trans h_64.2 (by decide))⟩
  refine q_iload_n c_168_0 rfl (q_ldc_s c_168_1 rfl rfl (by decide) (q_call c_168_3 rfl rfl rfl (s_158_16 (bk_inl (v_ic_ne_t (t := 56) c_168_6 rfl (by decide) (q_iload_n c_168_56 rfl (q_ldc_s c_168_57 rfl rfl (by decide) (q_call c_168_59 rfl rfl rfl (s_158_17 ?_)))))))))
  refine bk_inl (v_ic_ne_f (t := 111) c_168_62 rfl (by decide) (q_iconst c_168_65 (q_istore_n c_168_66 (Nat.le_of_ble_eq_true rfl) (q_iload_n c_168_67 rfl (q_iconst c_168_68 (v_ic_ge_f (t := 98) c_168_69 rfl (by decide) (q_aload_n c_168_72 rfl ?_)))))))
  refine v_gr (t := 45) c_168_73 kf_8_26 rfl (Nat.le_of_ble_eq_true rfl) rfl (q_iconst c_168_76 (q_aload_n c_168_77 rfl (v_gi (z := 17) (v := st) c_168_78 kf_8_148 rfl (Nat.le_of_ble_eq_true rfl) rfl rfl (hr_st) (v_imul (v := 3 * st) c_168_81 rfl (q_iload_n c_168_82 rfl (v_iadd (v := 3 * st) c_168_83 (by first | (clear hq0 h_1 hg_e1 h_2 hr_e1 h_3 hg_jr h_4 hr_jr h_5 hg_st h_6 hr_st h_7 hg_si h_8 hr_si h_9 hg_du h_10 hr_du h_11 h_18 h_26 h_40 h_41 h_42 h_43 h_44 h_45 h_46 h_47 h_48 h_52 h_53 h_54 h_55 h_59 h_60 h_64 h_65 h_16 h_24 h_32; omega) | omega) (q_aload_n c_168_84 rfl ?_)))))))
  refine q_iconst c_168_85 (v_bip c_168_86 (by decide) ?_)
  have h_66 := ir_1_2 hJ
  refine v_cv c_168_88 km_8_199 rfl rfl (Nat.le_of_ble_eq_true rfl) ⟨⟨rfl, rfl⟩, Nat.le_of_ble_eq_true rfl, rfl⟩ (Nat.le_of_ble_eq_true rfl) (Nat.le_of_ble_eq_true rfl) (L_8 (m := m) (a2 := 10) (yg := y_15) (e1 := e1) (a9 := m 1 2) (f0 := m 1 4) (F := F) (H := H) hI hJ hI_13 (show (-1) ≤ 10 ∧ 10 ≤ 9999 from ⟨by decide, by decide⟩) ⟨(Int.le_trans (by decide) hy_15.1), (Int.le_trans hy_15.2 (by decide))⟩ ((hg_e1)) ((hr_e1)) (rfl) (rfl) (fun j => hF j) (fun j => hH j) hU hRt hG_17 (fun c_67 y_70 hI_68 hF_69 hy_70 hR_71 h_72 h_73 h_74 h_75 => (bk_inl ?_)))
  have hs_76 := h_72.symm
  subst hs_76
  have h_77 := ir_1_2 hI_13
  refine v_is c_168_91 rfl (by decide) (by decide) ⟨by first | exact q_d1ae4f4fe h_6 hr_st | omega, by first | exact q_dabadb6ac hq0 | omega⟩ (v_iinc (v := 1) c_168_92 rfl (Nat.le_of_ble_eq_true rfl) (by decide) (q_goto (t := 67) c_168_95 rfl (q_iload_n c_168_67 rfl (q_iconst c_168_68 (v_ic_ge_f (t := 98) c_168_69 rfl (by decide) (q_aload_n c_168_72 rfl (v_gr (t := 45) c_168_73 kf_8_26 rfl (Nat.le_of_ble_eq_true rfl) rfl ?_)))))))
  refine q_iconst c_168_76 (q_aload_n c_168_77 rfl ?_)
  have kn_78 : Hid (c_67 41 17 = st) := (hF_69 41 17 qn_a870196d2).trans (hr_st)
  refine v_gi (z := 17) (v := st) c_168_78 kf_8_148 rfl (Nat.le_of_ble_eq_true rfl) rfl rfl ((up_c (nn rfl)).trans (hid kn_78)) (v_imul (v := 3 * st) c_168_81 rfl (q_iload_n c_168_82 rfl (v_iadd (v := 3 * st + 1) c_168_83 rfl (q_aload_n c_168_84 rfl (q_iconst c_168_85 (v_bip c_168_86 (by decide) ?_))))))
  have hI_79 := iw_45 (j := 3 * st) (v := y_15) hI_68 ⟨hy_15.1, by first | exact q_c41f06fcf h_16 | omega⟩
  have kn_80 : Hid (c_12 1 1 = e1) := (hF_14 1 1 qn_b782e6d88).trans (hg_e1)
  have kn_81 : Hid (c_67 41 3 = e1) := (hF_69 41 3 qn_97fd72088).trans (hr_e1)
  refine v_cv c_168_88 km_8_199 rfl rfl (Nat.le_of_ble_eq_true rfl) ⟨⟨rfl, rfl⟩, Nat.le_of_ble_eq_true rfl, rfl⟩ (Nat.le_of_ble_eq_true rfl) (Nat.le_of_ble_eq_true rfl) (L_8 (m := up c_12 (A + 2) (3 * st) y_15) (a2 := 10) (yg := y_23) (e1 := e1) (a9 := c_12 1 2) (f0 := c_12 1 4) (F := F) (H := H) hI_79 hI_19 hI_21 (show (-1) ≤ 10 ∧ 10 ≤ 9999 from ⟨by decide, by decide⟩) ⟨(Int.le_trans (by decide) hy_23.1), (Int.le_trans hy_23.2 (by decide))⟩ (((up_c (pn hA rfl rfl)).trans (hid kn_80))) (((up_c (nn rfl)).trans (hid kn_81))) ((up_c (pn hA rfl rfl))) ((up_c (pn hA rfl rfl))) (fun j => ((up_c (pn hA rfl rfl)).trans (hF_14 2 j qn_e2b123f84)).trans (hF j)) (fun j => ((up_c (nn rfl)).trans (hF_69 43 j qn_0f2179ecb)).trans (hH j)) hU (rt_fr hR_71 (up_c (pn hA rfl rfl)) (up_c (pn hA rfl rfl)) (up_c (pn hA rfl rfl)) (up_c (nn rfl)) (up_c (nn rfl)) (up_c (nn rfl))) hG_25 (fun c_82 y_85 hI_83 hF_84 hy_85 hR_86 h_87 h_88 h_89 h_90 => (bk_inl ?_)))
  have hs_91 := h_87.symm
  subst hs_91
  have h_92 := ir_1_2 hI_21
  refine v_is c_168_91 rfl (by decide) (by decide) ⟨by first | exact q_d3aca15c7 h_6 hr_st | omega, by first | exact q_b4698c5f5 hq0 | omega⟩ (v_iinc (v := 2) c_168_92 rfl (Nat.le_of_ble_eq_true rfl) (by decide) (q_goto (t := 67) c_168_95 rfl (q_iload_n c_168_67 rfl (q_iconst c_168_68 (v_ic_ge_f (t := 98) c_168_69 rfl (by decide) (q_aload_n c_168_72 rfl (v_gr (t := 45) c_168_73 kf_8_26 rfl (Nat.le_of_ble_eq_true rfl) rfl ?_)))))))
  refine q_iconst c_168_76 (q_aload_n c_168_77 rfl ?_)
  have kn_93 : Hid (c_82 41 17 = st) := (hF_84 41 17 qn_a870196d2).trans ((up_c (nn rfl)).trans (hid kn_78))
  refine v_gi (z := 17) (v := st) c_168_78 kf_8_148 rfl (Nat.le_of_ble_eq_true rfl) rfl rfl ((up_c (nn rfl)).trans (hid kn_93)) (v_imul (v := 3 * st) c_168_81 rfl (q_iload_n c_168_82 rfl (v_iadd (v := 3 * st + 2) c_168_83 rfl (q_aload_n c_168_84 rfl (q_iconst c_168_85 (v_bip c_168_86 (by decide) ?_))))))
  have hI_94 := iw_45 (j := 3 * st + 1) (v := y_23) hI_83 ⟨hy_23.1, by first | exact q_c41f06fcf h_24 | omega⟩
  have kn_95 : Hid (c_20 1 1 = e1) := (hF_22 1 1 qn_b782e6d88).trans ((up_c (pn hA rfl rfl)).trans (hid kn_80))
  have kn_96 : Hid (c_82 41 3 = e1) := (hF_84 41 3 qn_97fd72088).trans ((up_c (nn rfl)).trans (hid kn_81))
  refine v_cv c_168_88 km_8_199 rfl rfl (Nat.le_of_ble_eq_true rfl) ⟨⟨rfl, rfl⟩, Nat.le_of_ble_eq_true rfl, rfl⟩ (Nat.le_of_ble_eq_true rfl) (Nat.le_of_ble_eq_true rfl) (L_8 (m := up c_20 (A + 2) (3 * st + 1) y_23) (a2 := 10) (yg := y_31) (e1 := e1) (a9 := c_20 1 2) (f0 := c_20 1 4) (F := F) (H := H) hI_94 hI_27 hI_29 (show (-1) ≤ 10 ∧ 10 ≤ 9999 from ⟨by decide, by decide⟩) ⟨(Int.le_trans (by decide) hy_31.1), (Int.le_trans hy_31.2 (by decide))⟩ (((up_c (pn hA rfl rfl)).trans (hid kn_95))) (((up_c (nn rfl)).trans (hid kn_96))) ((up_c (pn hA rfl rfl))) ((up_c (pn hA rfl rfl))) (fun j => ((up_c (pn hA rfl rfl)).trans ((hF_22 2 j qn_e2b123f84).trans ((up_c (pn hA rfl rfl)).trans (hF_14 2 j qn_e2b123f84)))).trans (hF j)) (fun j => ((up_c (nn rfl)).trans ((hF_84 43 j qn_0f2179ecb).trans ((up_c (nn rfl)).trans (hF_69 43 j qn_0f2179ecb)))).trans (hH j)) hU (rt_fr hR_86 (up_c (pn hA rfl rfl)) (up_c (pn hA rfl rfl)) (up_c (pn hA rfl rfl)) (up_c (nn rfl)) (up_c (nn rfl)) (up_c (nn rfl))) hG_33 (fun c_97 y_100 hI_98 hF_99 hy_100 hR_101 h_102 h_103 h_104 h_105 => (bk_inl ?_)))
  have hs_106 := h_102.symm
  subst hs_106
  refine v_is c_168_91 rfl (by decide) (by decide) ⟨by first | exact q_68410d64f h_6 hr_st | omega, by first | exact q_c12577f8d hq0 | omega⟩ (v_iinc (v := 3) c_168_92 rfl (Nat.le_of_ble_eq_true rfl) (by decide) (q_goto (t := 67) c_168_95 rfl (q_iload_n c_168_67 rfl (q_iconst c_168_68 (v_ic_ge_t (t := 98) c_168_69 rfl (by decide) (q_aload_n c_168_98 rfl (q_dup c_168_99 rfl ?_)))))))
  have kn_107 : Hid (c_97 41 17 = st) := (hF_99 41 17 qn_a870196d2).trans ((up_c (nn rfl)).trans (hid kn_93))
  refine v_gi (z := 17) (v := st) c_168_100 kf_8_148 rfl (Nat.le_of_ble_eq_true rfl) rfl rfl ((up_c (nn rfl)).trans (hid kn_107)) (q_iconst c_168_103 (v_iadd (v := st + 1) c_168_104 rfl (v_pi (z := 17) c_168_105 kf_8_148 rfl (Nat.le_of_ble_eq_true rfl) rfl rfl rfl (by decide) (q_goto (t := 159) c_168_108 rfl (q_vret rfl rfl ?_)))))
  have hI_108 := iw_45 (j := 3 * st + 2) (v := y_31) hI_98 ⟨hy_31.1, by first | exact q_c41f06fcf h_32 | omega⟩
  have hI_109 := iw_41_17 (v := st + 1) hI_108 ⟨by first | exact rgp_l (rg_eq hg_st h_5).1 (by decide) | omega, by first | exact q_56610638f hq0 | omega⟩
  have h_110 := ir_41_5 hI_98
  have h_111 := ir_41_4 hI_98
  have h_112 := ir_41_6 hI_98
  have h_113 := rt_or hR_101
  have h_114 : (up (up c_97 45 (3 * st + 2) y_31) 41 17 (st + 1)) 41 5 = c_97 41 5 := ((up_n (by decide)).trans (up_c (nn rfl)))
  have h_115 : (up (up c_97 45 (3 * st + 2) y_31) 41 17 (st + 1)) 41 4 = c_97 41 4 := ((up_n (by decide)).trans (up_c (nn rfl)))
  have h_116 : (up (up c_97 45 (3 * st + 2) y_31) 41 17 (st + 1)) 41 6 = c_97 41 6 := ((up_n (by decide)).trans (up_c (nn rfl)))
  have kn_117 : Hid (c_67 41 16 = jr) := (hF_69 41 16 qn_e8809db5e).trans (hr_jr)
  have kn_118 : Hid (c_82 41 16 = jr) := (hF_84 41 16 qn_e8809db5e).trans ((up_c (nn rfl)).trans (hid kn_117))
  have kn_119 : Hid (c_97 41 16 = jr) := (hF_99 41 16 qn_e8809db5e).trans ((up_c (nn rfl)).trans (hid kn_118))
  have h_120 : (up (up c_97 45 (3 * st + 2) y_31) 41 17 (st + 1)) 41 16 = jr := ((up_n (by decide)).trans ((up_c (nn rfl)).trans (hid kn_119)))
  have h_121 : (up (up c_97 45 (3 * st + 2) y_31) 41 17 (st + 1)) 41 17 = st + 1 := (up_e rfl)
  have kn_122 : Hid (c_67 41 18 = si) := (hF_69 41 18 qn_d8f940cfc).trans (hr_si)
  have kn_123 : Hid (c_82 41 18 = si) := (hF_84 41 18 qn_d8f940cfc).trans ((up_c (nn rfl)).trans (hid kn_122))
  have kn_124 : Hid (c_97 41 18 = si) := (hF_99 41 18 qn_d8f940cfc).trans ((up_c (nn rfl)).trans (hid kn_123))
  have h_125 : (up (up c_97 45 (3 * st + 2) y_31) 41 17 (st + 1)) 41 18 = si := ((up_n (by decide)).trans ((up_c (nn rfl)).trans (hid kn_124)))
  have kn_126 : Hid (c_67 41 19 = du) := (hF_69 41 19 qn_f6eda7af3).trans (hr_du)
  have kn_127 : Hid (c_82 41 19 = du) := (hF_84 41 19 qn_f6eda7af3).trans ((up_c (nn rfl)).trans (hid kn_126))
  have kn_128 : Hid (c_97 41 19 = du) := (hF_99 41 19 qn_f6eda7af3).trans ((up_c (nn rfl)).trans (hid kn_127))
  have h_129 : (up (up c_97 45 (3 * st + 2) y_31) 41 17 (st + 1)) 41 19 = du := ((up_n (by decide)).trans ((up_c (nn rfl)).trans (hid kn_128)))
  exact K (up (up c_97 45 (3 * st + 2) y_31) 41 17 (st + 1))  hI_109 (fun a j hm => (up_b (Decidable.or_iff_not_imp_left.mpr (fun h1 h2 => hm (Or.inr (Or.inr (Or.inr (Or.inr (Or.inl ⟨Decidable.not_not.mp h1, h2⟩)))))))).trans ((up_b (Decidable.or_iff_not_imp_left.mpr (fun h1 h2 => hm (Or.inr (Or.inr (Or.inr (Or.inr (Or.inr (Or.inr (Or.inr (Or.inr (Or.inl (Decidable.not_not.mp h1))))))))))))).trans ((hF_99 a j (qv_e105a9b19 hm)).trans ((up_b (Decidable.or_iff_not_imp_left.mpr (fun h1 h2 => hm (Or.inr (Or.inr (Or.inr (Or.inr (Or.inr (Or.inr (Or.inr (Or.inr (Or.inl (Decidable.not_not.mp h1))))))))))))).trans ((hF_84 a j (qv_e105a9b19 hm)).trans ((up_b (Decidable.or_iff_not_imp_left.mpr (fun h1 h2 => hm (Or.inr (Or.inr (Or.inr (Or.inr (Or.inr (Or.inr (Or.inr (Or.inr (Or.inl (Decidable.not_not.mp h1))))))))))))).trans (hF_69 a j (qv_e105a9b19 hm)))))))) (by unfold Rt; omega) (by first | exact q_d8da297ae h_53 | omega) (by first | exact q_4f359956e h_55 | omega) (by first | exact q_d8da297ae h_60 | omega) (by first | exact q_d8da297ae h_65 | omega)

set_option maxRecDepth 100000 in
set_option maxHeartbeats 4000000 in
theorem L_33_2 {sc : List Int32} {e eg : Int} {d dh u ug P Q P2 Q2 A : Nat} {c m m9 : ME} {e1 jr st si du : Int} {F H : Int → Int} {Z : AR → Prop} (hI : Iv u e P2 Q2 c) (hJ : Iv ug eg P Q m) (hJ9 : Iv ug eg P Q m9) (hA : A = 13 ∨ A = 25) (hq0 : (si ≤ 3)) (hg_e1 : m 1 1 = e1) (hr_e1 : c 41 3 = e1) (hg_jr : m A 0 = jr) (hr_jr : c 41 16 = jr) (hg_st : m A 1 = st) (hr_st : c 41 17 = st) (hg_si : m A 2 = si) (hr_si : c 41 18 = si) (hg_du : m A 3 = du) (hr_du : c 41 19 = du) (hF : ∀ j : Int, m 2 j = F j) (hH : ∀ j : Int, c 43 j = H j) (hU : Ub F H) (hRt : Rt m c) (hG : Wp sc (dh + 18) 33 0 [(0, .ref A), (1, .ref 1), (2, vi 2)] [] (Wd P Q P P m) 0 0 (fun q => q = (.inl (none), Wd P Q P P m9, 0, 0))) (K : ∀ (c2 : ME), Iv u e P2 Q2 c2 → (∀ (a : Nat) (j : Int), ¬ ((a = 41 ∧ j = 4) ∨ (a = 41 ∧ j = 5) ∨ (a = 41 ∧ j = 6) ∨ (a = 41 ∧ j = 16) ∨ (a = 41 ∧ j = 17) ∨ (a = 41 ∧ j = 18) ∨ (a = 41 ∧ j = 19) ∨ a = 44 ∨ a = 45 ∨ a = 46) → c2 a j = c a j) → (Rt m9 c2) → ((m9 A 0 = c2 41 16)) → ((m9 A 1 = c2 41 17)) → ((m9 A 2 = c2 41 18)) → ((m9 A 3 = c2 41 19)) → Z (.inl (none), Wd P2 Q2 P2 P2 c2, 0, 0)) : Wp sc (d + 18) 168 0 [(0, .ref 41), (1, vi 20223685)] [] (Wd P2 Q2 P2 P2 c) 0 0 Z := by
  have hP := iv_P hJ
  have hQ := iv_Q hJ
  have h_1 := ir_1_1 hJ
  have h_2 := ir_41_3 hI
  have h_3 := ir_p0_0 hJ hA
  have h_4 := ir_41_16 hI
  have h_5 := ir_p0_1 hJ hA
  have h_6 := ir_41_17 hI
  have h_7 := ir_p0_2 hJ hA
  have h_8 := ir_41_18 hI
  have h_9 := ir_p0_3 hJ hA
  have h_10 := ir_41_19 hI
  refine gh hG (q_iload_n c_33_0 rfl (v_tsw_i (t := 89) 2 c_33_1 (by omega) (by decide) rfl (by decide) (q_aload_n c_33_89 rfl (q_aload_n c_33_90 rfl (v_gr (t := (A + 3)) c_33_91 kf_2_22 (ck_p0 hA) (a68z hA) rfl (q_aload_n c_33_94 rfl (v_gi (z := 2) (v := si) c_33_95 kf_2_87 (ck_p0 hA) (a68z hA) rfl rfl (hg_si) ?_)))))))
  refine q_iconst c_33_98 (q_iconst c_33_99 (q_call c_33_100 rfl rfl rfl (q_iload_n c_32_0 rfl (q_istore c_32_1 (Nat.le_of_ble_eq_true rfl) (q_iload c_32_3 rfl (q_iload_n c_32_5 rfl (q_iload_n c_32_6 rfl ?_)))))))
  refine v_iadd (v := si + 1) c_32_7 rfl (v_ic_ge_f (t := 34) c_32_8 rfl ⟨(Int.le_trans (by decide) (rg_eq hg_si h_7).1), by first | exact q_3e85f52a4 | omega, by first | exact rgp_h (rg_eq hg_si h_7).2 (by decide) | omega⟩ (q_iload c_32_11 rfl (q_aload_n c_32_13 rfl (v_al c_32_14 (ck_p3 hA) (a68 hA rfl) (by decide) (v_ic_ge_f (t := 34) c_32_15 rfl ⟨(Int.le_trans (by decide) (rg_eq hg_si h_7).1), by first | exact q_a2d3b0534 hq0 | omega, by decide⟩ (q_aload_n c_32_18 rfl (q_iload c_32_19 rfl ?_)))))))
  refine q_aload_n c_32_21 rfl (q_iload c_32_22 rfl ?_)
  have h_11 := ir_1_4 hJ
  refine v_cv c_32_24 km_2_101 rfl rfl (Nat.le_of_ble_eq_true rfl) ⟨⟨rfl, rfl⟩, Nat.le_of_ble_eq_true rfl, rfl⟩ (Nat.le_of_ble_eq_true rfl) (Nat.le_of_ble_eq_true rfl) (fn_of (s_8 (a1 := 2) hJ (show (-1) ≤ 2 ∧ 2 ≤ 9999 from ⟨by decide, by decide⟩) (fun c_12 y_15 hI_13 hF_14 hy_15 h_16 => ?_)))
  intro hG_17
  refine bk_inl (v_is c_32_27 (ck_p3 hA) (a68 hA rfl) (by decide) ⟨(rg_eq hg_si h_7).1, by first | exact q_a2d3b0534 hq0 | omega⟩ (v_iinc (v := si + 1) c_32_28 rfl (Nat.le_of_ble_eq_true rfl) rfl (q_goto (t := 3) c_32_31 rfl (q_iload c_32_3 rfl (q_iload_n c_32_5 rfl (q_iload_n c_32_6 rfl (v_iadd (v := si + 1) c_32_7 rfl ?_)))))))
  refine v_ic_ge_t (t := 34) c_32_8 rfl ⟨by first | exact rgp_l (rg_eq hg_si h_7).1 (by decide) | omega, by first | exact q_3bb02af3e | omega, by first | exact rgp_h (rg_eq hg_si h_7).2 (by decide) | omega⟩ (q_vret rfl rfl (bk_inl (q_aload_n c_33_103 rfl (q_dup c_33_104 rfl ?_))))
  have kn_18 : Hid (c_12 A 2 = si) := (hF_14 A 2 (qn_014d425e1 hA)).trans (hg_si)
  refine v_gi (z := 2) (v := si) c_33_105 kf_2_87 (ck_p0 hA) (a68z hA) rfl rfl ((up_c (p0p rfl)).trans (hid kn_18)) (q_iconst c_33_108 (v_iadd (v := si + 1) c_33_109 rfl (v_pi (z := 2) c_33_110 kf_2_87 (ck_p0 hA) (a68z hA) rfl rfl rfl (by decide) (q_goto (t := 126) c_33_113 rfl (q_vret rfl rfl ?_)))))
  have hI_19 := iw_p3 (j := si) (v := y_15) hI_13 hA ⟨hy_15.1, by first | exact q_19afebcac h_16 | omega⟩
  have hI_20 := iw_p0_2 (v := si + 1) hI_19 hA ⟨by first | exact rgp_l (rg_eq hg_si h_7).1 (by decide) | omega, by first | exact q_56610638f hq0 | omega⟩
  intro hE_21
  have hW : Wd P Q P P (up (up c_12 (A + 3) si y_15) A 2 (si + 1)) = Wd P Q P P m9 := (Prod.mk.inj (Prod.mk.inj hE_21).2).1
  have h_22 := ir_1_4 hI_13
  have h_23 := ir_1_4 hJ9
  have h_24 : m9 1 4 = c_12 1 4 := wd_fv (z := 4) 4 rfl hW rfl rfl rfl rfl (by decide) ((up_c (pn0 hA rfl)).trans (up_c (pn hA rfl rfl))) ⟨(Int.le_trans (by decide) h_22.1), (Int.le_trans h_22.2 (by decide))⟩ ⟨(Int.le_trans (by decide) h_23.1), (Int.le_trans h_23.2 (by decide))⟩
  have h_25 := ir_1_2 hI_13
  have h_26 := ir_1_2 hJ9
  have h_27 : m9 1 2 = c_12 1 2 := wd_fv (z := 2) 2 rfl hW rfl rfl rfl rfl (by decide) ((up_c (pn0 hA rfl)).trans (up_c (pn hA rfl rfl))) ⟨(Int.le_trans (by decide) h_25.1), (Int.le_trans h_25.2 (by decide))⟩ ⟨(Int.le_trans (by decide) h_26.1), (Int.le_trans h_26.2 (by decide))⟩
  have h_28 := ir_1_5 hI_13
  have h_29 := ir_1_5 hJ9
  have h_30 : m9 1 5 = c_12 1 5 := wd_fv (z := 5) 5 rfl hW rfl rfl rfl rfl (by decide) ((up_c (pn0 hA rfl)).trans (up_c (pn hA rfl rfl))) ⟨(Int.le_trans (by decide) h_28.1), (Int.le_trans h_28.2 (by decide))⟩ ⟨(Int.le_trans (by decide) h_29.1), (Int.le_trans h_29.2 (by decide))⟩
  have kn_31 : Hid (c_12 A 0 = jr) := (hF_14 A 0 (qn_014d425e1 hA)).trans (hg_jr)
  have h_32 := ir_p0_0 hJ9 hA
  have h_33 : m9 A 0 = jr := wd_fv (z := 0) 0 rfl hW (ck_p0 hA) (ck_p0 hA) rfl rfl (a68z hA) ((up_n (by decide)).trans ((up_c (p0p rfl)).trans (hid kn_31))) ⟨(Int.le_trans (by decide) (rg_eq hg_jr h_3).1), (Int.le_trans (rg_eq hg_jr h_3).2 (by decide))⟩ ⟨(Int.le_trans (by decide) h_32.1), (Int.le_trans h_32.2 (by decide))⟩
  have kn_34 : Hid (c_12 A 1 = st) := (hF_14 A 1 (qn_014d425e1 hA)).trans (hg_st)
  have h_35 := ir_p0_1 hJ9 hA
  have h_36 : m9 A 1 = st := wd_fv (z := 1) 1 rfl hW (ck_p0 hA) (ck_p0 hA) rfl rfl (a68z hA) ((up_n (by decide)).trans ((up_c (p0p rfl)).trans (hid kn_34))) ⟨(Int.le_trans (by decide) (rg_eq hg_st h_5).1), (Int.le_trans (rg_eq hg_st h_5).2 (by decide))⟩ ⟨(Int.le_trans (by decide) h_35.1), (Int.le_trans h_35.2 (by decide))⟩
  have h_37 := ir_p0_2 hJ9 hA
  have h_38 : m9 A 2 = si + 1 := wd_fv (z := 2) 2 rfl hW (ck_p0 hA) (ck_p0 hA) rfl rfl (a68z hA) (up_e rfl) ⟨by first | exact rgp_l (rg_eq hg_si h_7).1 (by decide) | omega, by first | exact rgp_h (rg_eq hg_si h_7).2 (by decide) | omega⟩ ⟨(Int.le_trans (by decide) h_37.1), (Int.le_trans h_37.2 (by decide))⟩
  have kn_39 : Hid (c_12 A 3 = du) := (hF_14 A 3 (qn_014d425e1 hA)).trans (hg_du)
  have h_40 := ir_p0_3 hJ9 hA
  have h_41 : m9 A 3 = du := wd_fv (z := 3) 3 rfl hW (ck_p0 hA) (ck_p0 hA) rfl rfl (a68z hA) ((up_n (by decide)).trans ((up_c (p0p rfl)).trans (hid kn_39))) ⟨(Int.le_trans (by decide) (rg_eq hg_du h_9).1), (Int.le_trans (rg_eq hg_du h_9).2 (by decide))⟩ ⟨(Int.le_trans (by decide) h_40.1), (Int.le_trans h_40.2 (by decide))⟩
  refine q_iload_n c_168_0 rfl (q_ldc_s c_168_1 rfl rfl (by decide) (q_call c_168_3 rfl rfl rfl (s_158_16 (bk_inl (v_ic_ne_t (t := 56) c_168_6 rfl (by decide) (q_iload_n c_168_56 rfl (q_ldc_s c_168_57 rfl rfl (by decide) (q_call c_168_59 rfl rfl rfl (s_158_17 ?_)))))))))
  refine bk_inl (v_ic_ne_t (t := 111) c_168_62 rfl (by decide) (q_iload_n c_168_111 rfl (q_ldc_s c_168_112 rfl rfl (by decide) (q_call c_168_114 rfl rfl rfl (s_158_18 (bk_inl (v_ic_ne_f (t := 148) c_168_117 rfl (by decide) (q_aload_n c_168_120 rfl ?_))))))))
  refine v_gr (t := 46) c_168_121 kf_8_29 rfl (Nat.le_of_ble_eq_true rfl) rfl (q_aload_n c_168_124 rfl (v_gi (z := 18) (v := si) c_168_125 kf_8_151 rfl (Nat.le_of_ble_eq_true rfl) rfl rfl (hr_si) (q_aload_n c_168_128 rfl (q_iconst c_168_129 (q_iconst c_168_130 ?_)))))
  have h_42 := ir_1_2 hJ
  refine v_cv c_168_131 km_8_199 rfl rfl (Nat.le_of_ble_eq_true rfl) ⟨⟨rfl, rfl⟩, Nat.le_of_ble_eq_true rfl, rfl⟩ (Nat.le_of_ble_eq_true rfl) (Nat.le_of_ble_eq_true rfl) (L_8 (m := m) (a2 := 2) (yg := y_15) (e1 := e1) (a9 := m 1 2) (f0 := m 1 4) (F := F) (H := H) hI hJ hI_13 (show (-1) ≤ 2 ∧ 2 ≤ 9999 from ⟨by decide, by decide⟩) ⟨(Int.le_trans (by decide) hy_15.1), (Int.le_trans hy_15.2 (by decide))⟩ ((hg_e1)) ((hr_e1)) (rfl) (rfl) (fun j => hF j) (fun j => hH j) hU hRt hG_17 (fun c_43 y_46 hI_44 hF_45 hy_46 hR_47 h_48 h_49 h_50 h_51 => (bk_inl ?_)))
  have hs_52 := h_48.symm
  subst hs_52
  refine v_is c_168_134 rfl (by decide) (by decide) ⟨(rg_eq hg_si h_7).1, by first | exact q_a2d3b0534 hq0 | omega⟩ (q_aload_n c_168_135 rfl (q_dup c_168_136 rfl ?_))
  have kn_53 : Hid (c_43 41 18 = si) := (hF_45 41 18 qn_d8f940cfc).trans (hr_si)
  refine v_gi (z := 18) (v := si) c_168_137 kf_8_151 rfl (Nat.le_of_ble_eq_true rfl) rfl rfl ((up_c (nn rfl)).trans (hid kn_53)) (q_iconst c_168_140 (v_iadd (v := si + 1) c_168_141 rfl (v_pi (z := 18) c_168_142 kf_8_151 rfl (Nat.le_of_ble_eq_true rfl) rfl rfl rfl (by decide) (q_goto (t := 159) c_168_145 rfl (q_vret rfl rfl ?_)))))
  have hI_54 := iw_46 (j := si) (v := y_15) hI_44 ⟨hy_15.1, by first | exact q_19afebcac h_16 | omega⟩
  have hI_55 := iw_41_18 (v := si + 1) hI_54 ⟨by first | exact rgp_l (rg_eq hg_si h_7).1 (by decide) | omega, by first | exact q_56610638f hq0 | omega⟩
  have h_56 := ir_41_5 hI_44
  have h_57 := ir_41_4 hI_44
  have h_58 := ir_41_6 hI_44
  have h_59 := rt_or hR_47
  have h_60 : (up (up c_43 46 si y_15) 41 18 (si + 1)) 41 5 = c_43 41 5 := ((up_n (by decide)).trans (up_c (nn rfl)))
  have h_61 : (up (up c_43 46 si y_15) 41 18 (si + 1)) 41 4 = c_43 41 4 := ((up_n (by decide)).trans (up_c (nn rfl)))
  have h_62 : (up (up c_43 46 si y_15) 41 18 (si + 1)) 41 6 = c_43 41 6 := ((up_n (by decide)).trans (up_c (nn rfl)))
  have kn_63 : Hid (c_43 41 16 = jr) := (hF_45 41 16 qn_e8809db5e).trans (hr_jr)
  have h_64 : (up (up c_43 46 si y_15) 41 18 (si + 1)) 41 16 = jr := ((up_n (by decide)).trans ((up_c (nn rfl)).trans (hid kn_63)))
  have kn_65 : Hid (c_43 41 17 = st) := (hF_45 41 17 qn_a870196d2).trans (hr_st)
  have h_66 : (up (up c_43 46 si y_15) 41 18 (si + 1)) 41 17 = st := ((up_n (by decide)).trans ((up_c (nn rfl)).trans (hid kn_65)))
  have h_67 : (up (up c_43 46 si y_15) 41 18 (si + 1)) 41 18 = si + 1 := (up_e rfl)
  have kn_68 : Hid (c_43 41 19 = du) := (hF_45 41 19 qn_f6eda7af3).trans (hr_du)
  have h_69 : (up (up c_43 46 si y_15) 41 18 (si + 1)) 41 19 = du := ((up_n (by decide)).trans ((up_c (nn rfl)).trans (hid kn_68)))
  exact K (up (up c_43 46 si y_15) 41 18 (si + 1))  hI_55 (fun a j hm => (up_b (Decidable.or_iff_not_imp_left.mpr (fun h1 h2 => hm (Or.inr (Or.inr (Or.inr (Or.inr (Or.inr (Or.inl ⟨Decidable.not_not.mp h1, h2⟩))))))))).trans ((up_b (Decidable.or_iff_not_imp_left.mpr (fun h1 h2 => hm (Or.inr (Or.inr (Or.inr (Or.inr (Or.inr (Or.inr (Or.inr (Or.inr (Or.inr (Decidable.not_not.mp h1))))))))))))).trans (hF_45 a j (qv_e105a9b19 hm)))) (by unfold Rt; omega) (by first | exact q_d8da297ae h_33 | omega) (by first | exact q_d8da297ae h_36 | omega) (by first | exact q_4f359956e h_38 | omega) (by first | exact q_d8da297ae h_41 | omega)

set_option maxRecDepth 100000 in
set_option maxHeartbeats 4000000 in
theorem L_33_3 {sc : List Int32} {e eg : Int} {d dh u ug P Q P2 Q2 A : Nat} {c m m9 : ME} {e1 jr st si du : Int} {F H : Int → Int} {Z : AR → Prop} (hI : Iv u e P2 Q2 c) (hJ : Iv ug eg P Q m) (hJ9 : Iv ug eg P Q m9) (hA : A = 13 ∨ A = 25) (hg_e1 : m 1 1 = e1) (hr_e1 : c 41 3 = e1) (hg_jr : m A 0 = jr) (hr_jr : c 41 16 = jr) (hg_st : m A 1 = st) (hr_st : c 41 17 = st) (hg_si : m A 2 = si) (hr_si : c 41 18 = si) (hg_du : m A 3 = du) (hr_du : c 41 19 = du) (hF : ∀ j : Int, m 2 j = F j) (hH : ∀ j : Int, c 43 j = H j) (hU : Ub F H) (hRt : Rt m c) (hG : Wp sc (dh + 18) 33 0 [(0, .ref A), (1, .ref 1), (2, vi 3)] [] (Wd P Q P P m) 0 0 (fun q => q = (.inl (none), Wd P Q P P m9, 0, 0))) (K : ∀ (c2 : ME), Iv u e P2 Q2 c2 → (∀ (a : Nat) (j : Int), ¬ ((a = 41 ∧ j = 4) ∨ (a = 41 ∧ j = 5) ∨ (a = 41 ∧ j = 6) ∨ (a = 41 ∧ j = 16) ∨ (a = 41 ∧ j = 17) ∨ (a = 41 ∧ j = 18) ∨ (a = 41 ∧ j = 19) ∨ a = 44 ∨ a = 45 ∨ a = 46) → c2 a j = c a j) → (Rt m9 c2) → ((m9 A 0 = c2 41 16)) → ((m9 A 1 = c2 41 17)) → ((m9 A 2 = c2 41 18)) → ((m9 A 3 = c2 41 19)) → Z (.inl (none), Wd P2 Q2 P2 P2 c2, 0, 0)) : Wp sc (d + 18) 168 0 [(0, .ref 41), (1, vi 153204)] [] (Wd P2 Q2 P2 P2 c) 0 0 Z := by
  have hP := iv_P hJ
  have hQ := iv_Q hJ
  have h_1 := ir_1_1 hJ
  have h_2 := ir_41_3 hI
  have h_3 := ir_p0_0 hJ hA
  have h_4 := ir_41_16 hI
  have h_5 := ir_p0_1 hJ hA
  have h_6 := ir_41_17 hI
  have h_7 := ir_p0_2 hJ hA
  have h_8 := ir_41_18 hI
  have h_9 := ir_p0_3 hJ hA
  have h_10 := ir_41_19 hI
  refine gh hG (q_iload_n c_33_0 rfl (v_tsw_o (t := 116) c_33_1 (by omega) (by decide) (q_aload_n c_33_116 rfl (q_aload_n c_33_117 rfl (v_bip c_33_118 (by decide) ?_)))))
  have h_11 := ir_1_4 hJ
  refine v_cv c_33_120 km_2_101 rfl rfl (Nat.le_of_ble_eq_true rfl) ⟨⟨rfl, rfl⟩, Nat.le_of_ble_eq_true rfl, rfl⟩ (Nat.le_of_ble_eq_true rfl) (Nat.le_of_ble_eq_true rfl) (fn_of (s_8 (a1 := 50) hJ (show (-1) ≤ 50 ∧ 50 ≤ 9999 from ⟨by decide, by decide⟩) (fun c_12 y_15 hI_13 hF_14 hy_15 h_16 => ?_)))
  intro hG_17
  refine bk_inl (v_pi (z := 3) c_33_123 kf_2_9 (ck_p0 hA) (a68z hA) rfl rfl rfl (by decide) (q_vret rfl rfl ?_))
  have hI_18 := iw_p0_3 (v := y_15) hI_13 hA ⟨hy_15.1, by first | exact q_9510e3478 h_16 | omega⟩
  intro hE_19
  have hW : Wd P Q P P (up c_12 A 3 y_15) = Wd P Q P P m9 := (Prod.mk.inj (Prod.mk.inj hE_19).2).1
  have h_20 := ir_1_4 hI_13
  have h_21 := ir_1_4 hJ9
  have h_22 : m9 1 4 = c_12 1 4 := wd_fv (z := 4) 4 rfl hW rfl rfl rfl rfl (by decide) (up_c (pn0 hA rfl)) ⟨(Int.le_trans (by decide) h_20.1), (Int.le_trans h_20.2 (by decide))⟩ ⟨(Int.le_trans (by decide) h_21.1), (Int.le_trans h_21.2 (by decide))⟩
  have h_23 := ir_1_2 hI_13
  have h_24 := ir_1_2 hJ9
  have h_25 : m9 1 2 = c_12 1 2 := wd_fv (z := 2) 2 rfl hW rfl rfl rfl rfl (by decide) (up_c (pn0 hA rfl)) ⟨(Int.le_trans (by decide) h_23.1), (Int.le_trans h_23.2 (by decide))⟩ ⟨(Int.le_trans (by decide) h_24.1), (Int.le_trans h_24.2 (by decide))⟩
  have h_26 := ir_1_5 hI_13
  have h_27 := ir_1_5 hJ9
  have h_28 : m9 1 5 = c_12 1 5 := wd_fv (z := 5) 5 rfl hW rfl rfl rfl rfl (by decide) (up_c (pn0 hA rfl)) ⟨(Int.le_trans (by decide) h_26.1), (Int.le_trans h_26.2 (by decide))⟩ ⟨(Int.le_trans (by decide) h_27.1), (Int.le_trans h_27.2 (by decide))⟩
  have kn_29 : Hid (c_12 A 0 = jr) := (hF_14 A 0 (qn_014d425e1 hA)).trans (hg_jr)
  have h_30 := ir_p0_0 hJ9 hA
  have h_31 : m9 A 0 = jr := wd_fv (z := 0) 0 rfl hW (ck_p0 hA) (ck_p0 hA) rfl rfl (a68z hA) ((up_n (by decide)).trans (hid kn_29)) ⟨(Int.le_trans (by decide) (rg_eq hg_jr h_3).1), (Int.le_trans (rg_eq hg_jr h_3).2 (by decide))⟩ ⟨(Int.le_trans (by decide) h_30.1), (Int.le_trans h_30.2 (by decide))⟩
  have kn_32 : Hid (c_12 A 1 = st) := (hF_14 A 1 (qn_014d425e1 hA)).trans (hg_st)
  have h_33 := ir_p0_1 hJ9 hA
  have h_34 : m9 A 1 = st := wd_fv (z := 1) 1 rfl hW (ck_p0 hA) (ck_p0 hA) rfl rfl (a68z hA) ((up_n (by decide)).trans (hid kn_32)) ⟨(Int.le_trans (by decide) (rg_eq hg_st h_5).1), (Int.le_trans (rg_eq hg_st h_5).2 (by decide))⟩ ⟨(Int.le_trans (by decide) h_33.1), (Int.le_trans h_33.2 (by decide))⟩
  have kn_35 : Hid (c_12 A 2 = si) := (hF_14 A 2 (qn_014d425e1 hA)).trans (hg_si)
  have h_36 := ir_p0_2 hJ9 hA
  have h_37 : m9 A 2 = si := wd_fv (z := 2) 2 rfl hW (ck_p0 hA) (ck_p0 hA) rfl rfl (a68z hA) ((up_n (by decide)).trans (hid kn_35)) ⟨(Int.le_trans (by decide) (rg_eq hg_si h_7).1), (Int.le_trans (rg_eq hg_si h_7).2 (by decide))⟩ ⟨(Int.le_trans (by decide) h_36.1), (Int.le_trans h_36.2 (by decide))⟩
  have h_38 := ir_p0_3 hJ9 hA
  have h_39 : m9 A 3 = y_15 := wd_fv (z := 3) 3 rfl hW (ck_p0 hA) (ck_p0 hA) rfl rfl (a68z hA) (up_e rfl) ⟨(Int.le_trans (by decide) hy_15.1), (Int.le_trans hy_15.2 (by decide))⟩ ⟨(Int.le_trans (by decide) h_38.1), (Int.le_trans h_38.2 (by decide))⟩
  refine q_iload_n c_168_0 rfl (q_ldc_s c_168_1 rfl rfl (by decide) (q_call c_168_3 rfl rfl rfl (s_158_16 (bk_inl (v_ic_ne_t (t := 56) c_168_6 rfl (by decide) (q_iload_n c_168_56 rfl (q_ldc_s c_168_57 rfl rfl (by decide) (q_call c_168_59 rfl rfl rfl (s_158_17 ?_)))))))))
  refine bk_inl (v_ic_ne_t (t := 111) c_168_62 rfl (by decide) (q_iload_n c_168_111 rfl (q_ldc_s c_168_112 rfl rfl (by decide) (q_call c_168_114 rfl rfl rfl (s_158_18 (bk_inl (v_ic_ne_t (t := 148) c_168_117 rfl (by decide) (q_aload_n c_168_148 rfl ?_))))))))
  refine q_aload_n c_168_149 rfl (q_iconst c_168_150 (v_bip c_168_151 (by decide) ?_))
  have h_40 := ir_1_2 hJ
  refine v_cv c_168_153 km_8_199 rfl rfl (Nat.le_of_ble_eq_true rfl) ⟨⟨rfl, rfl⟩, Nat.le_of_ble_eq_true rfl, rfl⟩ (Nat.le_of_ble_eq_true rfl) (Nat.le_of_ble_eq_true rfl) (L_8 (m := m) (a2 := 50) (yg := y_15) (e1 := e1) (a9 := m 1 2) (f0 := m 1 4) (F := F) (H := H) hI hJ hI_13 (show (-1) ≤ 50 ∧ 50 ≤ 9999 from ⟨by decide, by decide⟩) ⟨(Int.le_trans (by decide) hy_15.1), (Int.le_trans hy_15.2 (by decide))⟩ ((hg_e1)) ((hr_e1)) (rfl) (rfl) (fun j => hF j) (fun j => hH j) hU hRt hG_17 (fun c_41 y_44 hI_42 hF_43 hy_44 hR_45 h_46 h_47 h_48 h_49 => (bk_inl ?_)))
  have hs_50 := h_46.symm
  subst hs_50
  refine v_pi (z := 19) c_168_156 kf_8_154 rfl (Nat.le_of_ble_eq_true rfl) rfl rfl rfl (by decide) (q_vret rfl rfl ?_)
  have hI_51 := iw_41_19 (v := y_15) hI_42 ⟨hy_15.1, by first | exact q_f1ec3b8eb h_38 h_39 | omega⟩
  have h_52 := ir_41_5 hI_42
  have h_53 := ir_41_4 hI_42
  have h_54 := ir_41_6 hI_42
  have h_55 := rt_or hR_45
  have h_56 : (up c_41 41 19 y_15) 41 5 = c_41 41 5 := (up_n (by decide))
  have h_57 : (up c_41 41 19 y_15) 41 4 = c_41 41 4 := (up_n (by decide))
  have h_58 : (up c_41 41 19 y_15) 41 6 = c_41 41 6 := (up_n (by decide))
  have kn_59 : Hid (c_41 41 16 = jr) := (hF_43 41 16 qn_e8809db5e).trans (hr_jr)
  have h_60 : (up c_41 41 19 y_15) 41 16 = jr := ((up_n (by decide)).trans (hid kn_59))
  have kn_61 : Hid (c_41 41 17 = st) := (hF_43 41 17 qn_a870196d2).trans (hr_st)
  have h_62 : (up c_41 41 19 y_15) 41 17 = st := ((up_n (by decide)).trans (hid kn_61))
  have kn_63 : Hid (c_41 41 18 = si) := (hF_43 41 18 qn_d8f940cfc).trans (hr_si)
  have h_64 : (up c_41 41 19 y_15) 41 18 = si := ((up_n (by decide)).trans (hid kn_63))
  have h_65 : (up c_41 41 19 y_15) 41 19 = y_15 := (up_e rfl)
  exact K (up c_41 41 19 y_15)  hI_51 (fun a j hm => (up_b (Decidable.or_iff_not_imp_left.mpr (fun h1 h2 => hm (Or.inr (Or.inr (Or.inr (Or.inr (Or.inr (Or.inr (Or.inl ⟨Decidable.not_not.mp h1, h2⟩)))))))))).trans (hF_43 a j (qv_e105a9b19 hm))) (by unfold Rt; omega) (by first | exact q_d8da297ae h_31 | omega) (by first | exact q_d8da297ae h_34 | omega) (by first | exact q_d8da297ae h_37 | omega) (by first | exact q_d8da297ae h_39 | omega)

