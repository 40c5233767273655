/-! ===== contracts 14 ===== -/
theorem qn_14d4d2881 : ¬ (((41 : Nat) = 41 ∧ (34 : Int) = 4) ∨ ((41 : Nat) = 41 ∧ (34 : Int) = 5) ∨ ((41 : Nat) = 41 ∧ (34 : Int) = 6)) := (fun q => q.elim (fun h => absurd h.2 (ni rfl)) (fun q => q.elim (fun h => absurd h.2 (ni rfl)) (fun h => absurd h.2 (ni rfl))))
theorem qv_b6152c67a {a : Nat} {j : Int} {t0 : Int} (hm : ¬ ((a = 41 ∧ j = 4) ∨ (a = 41 ∧ j = 5) ∨ (a = 41 ∧ j = 6) ∨ (a = 41 ∧ j = 7) ∨ (a = 41 ∧ j = 34) ∨ (a = 56 ∧ j ≥ t0))) : ¬ ((a = 41 ∧ j = 4) ∨ (a = 41 ∧ j = 5) ∨ (a = 41 ∧ j = 6)) := (fun q => q.elim (fun h => hm (Or.inl h)) (fun q => q.elim (fun h => hm (Or.inr (Or.inl h))) (fun h => hm (Or.inr (Or.inr (Or.inl h))))))
theorem q_8d57aa4b2 {x0 : Int} (f0 : 0 ≤ x0 ∧ x0 ≤ 245) : x0 + 2 < 250 := by omega
theorem qn_01f0bccfb {j : Int} : ¬ (((56 : Nat) = 41 ∧ j = 4) ∨ ((56 : Nat) = 41 ∧ j = 5) ∨ ((56 : Nat) = 41 ∧ j = 6)) := (fun q => q.elim (fun h => absurd h.1 (nn rfl)) (fun q => q.elim (fun h => absurd h.1 (nn rfl)) (fun h => absurd h.1 (nn rfl))))
theorem q_40b8b4b12 {x0 x1 x2 x3 x4 x5 x6 : Int} (f0 : (x0 < (-1)) ∨ (x0 > (-1)) ∨ (x1 > x2 ∧ x1 ≤ x3 ∧ x4 = (-1))) (f1 : (-1) ≤ x0 ∧ x0 ≤ 605) (f2 : ¬ (x0 ≠ (-1))) (f3 : x3 = x5) (f4 : x4 = x6) : x1 ≤ x5 := by omega
theorem q_9ee567b18 {x0 x1 : Int} (f0 : x0 ≠ (-1)) (f1 : (x0 = (-1)) ∨ (x1 = x0)) : ¬ x1 = (-1) := by omega
theorem q_3c458df8b {x0 x1 : Int} (f0 : x0 ≠ (-1)) (f1 : (x0 = (-1)) ∨ (x1 = x0)) (f2 : (-1) ≤ x1 ∧ x1 ≤ 605) : (-1) < x1 := by omega
theorem q_76b49cfc4 {x0 x1 x2 x3 x4 : Int} (f0 : (x0 < (-1)) ∨ (x0 > (-1)) ∨ (x1 ≤ x2 ∧ x1 > x3)) (f1 : (-1) ≤ x0 ∧ x0 ≤ 605) (f2 : ¬ (x0 ≠ (-1))) (f3 : x2 = x4) : x1 ≤ x4 := by omega
theorem qn_62c325fba : ¬ (((41 : Nat) = 41 ∧ (34 : Int) = 4) ∨ ((41 : Nat) = 41 ∧ (34 : Int) = 5) ∨ ((41 : Nat) = 41 ∧ (34 : Int) = 6) ∨ ((41 : Nat) = 41 ∧ (34 : Int) = 7)) := (fun q => q.elim (fun h => absurd h.2 (ni rfl)) (fun q => q.elim (fun h => absurd h.2 (ni rfl)) (fun q => q.elim (fun h => absurd h.2 (ni rfl)) (fun h => absurd h.2 (ni rfl)))))
theorem q_6d11d81d2 {x0 : Int} (f0 : (x0 = 0) ∨ (x0 ≥ 0 ∧ x0 ≤ 40)) : x0 ≤ 40 := by omega
theorem q_fc871f4a9 {x0 x1 x2 : Int} (f0 : x0 ≠ (-1)) (f1 : (x1 = (-1)) ∨ (x2 = x1)) (f2 : x1 = x0) : ¬ x2 = (-1) := by omega
theorem q_35f921f70 {x0 x1 : Int} (f0 : 0 ≤ x0 ∧ x0 ≤ 7) (f1 : (x1 = x0 + 1)) : 0 ≤ x1 - 1 := by omega
theorem qv_121bccc17 {a : Nat} {j : Int} {t0 : Int} (hm : ¬ ((a = 41 ∧ j = 4) ∨ (a = 41 ∧ j = 5) ∨ (a = 41 ∧ j = 6) ∨ (a = 41 ∧ j = 7) ∨ (a = 41 ∧ j = 34) ∨ (a = 56 ∧ j ≥ t0))) : ¬ ((a = 41 ∧ j = 4) ∨ (a = 41 ∧ j = 5) ∨ (a = 41 ∧ j = 6) ∨ (a = 41 ∧ j = 7)) := (fun q => q.elim (fun h => hm (Or.inl h)) (fun q => q.elim (fun h => hm (Or.inr (Or.inl h))) (fun q => q.elim (fun h => hm (Or.inr (Or.inr (Or.inl h)))) (fun h => hm (Or.inr (Or.inr (Or.inr (Or.inl h))))))))
theorem q_824687670 {x0 x1 x2 x3 x4 x5 : Int} (f0 : (x0 ≥ x1)) (f1 : (x2 ≥ x0)) (f2 : (x3 ≥ x2)) (f3 : (x4 ≥ x5)) (f4 : x5 = x3) : x1 ≤ x4 := by omega
theorem q_2d1567f86 {x0 x1 x2 x3 x4 x5 x6 x7 x8 x9 x10 x11 x12 x13 x14 : Int} (f0 : (x0 ≥ x1)) (f1 : (x2 < (-1)) ∨ (x2 > (-1)) ∨ (x0 = x1 + 5 ∧ x3 ≤ 5 ∧ x4 = (-1))) (f2 : (x5 ≥ x0)) (f3 : (x2 = (-1)) ∨ (x6 = x2)) (f4 : (x7 ≥ x5)) (f5 : (x6 = (-1)) ∨ (x8 = x6)) (f6 : (x8 < (-1)) ∨ (x8 > (-1)) ∨ (x9 = x10 + 5 ∧ x11 = 7)) (f7 : (x8 = (-1)) ∨ (x9 = x10)) (f8 : (x12 ≥ x13)) (f9 : x10 = x14) (f10 : x13 = x7) : 5 * x1 + 3 * x9 ≤ 3 * x14 + 5 * x12 := by omega
theorem q_39d1415b2 {x0 x1 x2 : Int} (f0 : x0 ≠ (-1)) (f1 : (x1 = (-1)) ∨ (x2 = x1)) (f2 : (-1) ≤ x2 ∧ x2 ≤ 605) (f3 : x1 = x0) : (-1) < x2 := by omega
theorem q_8046a5716 {x0 x1 x2 x3 x4 : Int} (f0 : (x0 < (-1)) ∨ (x0 > (-1)) ∨ (x1 = x2 + 5 ∧ x3 = 7)) (f1 : (x0 = (-1)) ∨ (x1 = x2)) (f2 : x2 = x4) : x4 ≤ x1 := by omega
theorem q_d3760c3a8 {x0 x1 x2 x3 x4 : Int} (f0 : (-1) ≤ x0 ∧ x0 ≤ 605) (f1 : (x0 < (-1)) ∨ (x0 > (-1)) ∨ (x1 = x2 + 5 ∧ x3 = 7)) (f2 : 0 ≤ x1 ∧ x1 ≤ 250) (f3 : ¬ (x0 ≠ (-1))) (f4 : x2 = x4) : x4 ≤ 245 := by omega
theorem q_6c17673c2 {x0 x1 x2 x3 x4 x5 : Int} (f0 : (x0 < (-1)) ∨ (x0 > (-1)) ∨ (x1 > x2 ∧ x1 ≤ x3 ∧ x4 = (-1))) (f1 : (-1) ≤ x0 ∧ x0 ≤ 605) (f2 : ¬ (x0 ≠ (-1))) (f3 : x3 = x5) : x1 ≤ x5 := by omega
theorem q_b1a490af8 {x0 x1 : Int} (f0 : (x0 = x1 + 1)) : x0 = x1 + 1 := by omega
theorem q_ba09e3057 {x0 x1 x2 x3 x4 x5 x6 x7 x8 x9 x10 x11 : Int} (f0 : (x0 = x1 + 1)) (f1 : (x2 < (-1)) ∨ (x2 > (-1)) ∨ (x3 = x4 + 5 ∧ x1 ≤ 5 ∧ x5 = (-1))) (f2 : (x2 = (-1)) ∨ (x6 = x2)) (f3 : (x7 < (-1)) ∨ (x7 > (-1)) ∨ (x8 > x9 ∧ x8 ≤ x10 ∧ x6 = (-1))) (f4 : ¬ (x7 ≠ (-1))) (f5 : x10 = x11) : x0 ≤ 6 := by omega
theorem q_cd90f784c {x0 x1 x2 x3 x4 x5 x6 x7 x8 x9 x10 x11 x12 x13 x14 : Int} (f0 : (x0 < (-1)) ∨ (x0 > (-1)) ∨ (x1 = x2 + 5 ∧ x3 ≤ 5 ∧ x4 = (-1))) (f1 : (x5 ≥ x1)) (f2 : (x0 = (-1)) ∨ (x6 = x0)) (f3 : (x7 < (-1)) ∨ (x7 > (-1)) ∨ (x8 > x5 ∧ x8 ≤ x9 ∧ x6 = (-1))) (f4 : (x7 < (-1)) ∨ (x7 > (-1)) ∨ (x10 = x11 + 5 ∧ x12 = 7)) (f5 : ¬ (x7 ≠ (-1))) (f6 : x9 = x13) (f7 : x11 = x14) : 5 * x2 + 3 * x10 ≤ 3 * x14 + 5 * x8 := by omega
theorem q_cff8bd31e {x0 x1 x2 x3 x4 : Int} (f0 : (-1) ≤ x0 ∧ x0 ≤ 605) (f1 : (x0 < (-1)) ∨ (x0 > (-1)) ∨ (x1 = x2 + 5 ∧ x3 = 7)) (f2 : ¬ (x0 ≠ (-1))) (f3 : x2 = x4) : x4 + 5 ≤ x1 := by omega
theorem q_35b672115 {x0 x1 x2 x3 x4 : Int} (f0 : (-1) ≤ x0 ∧ x0 ≤ 605) (f1 : (x0 < (-1)) ∨ (x0 > (-1)) ∨ (x1 = x2 + 5 ∧ x3 = 7)) (f2 : ¬ (x0 ≠ (-1))) (f3 : x2 = x4) : x3 = 7 := by omega
theorem q_2af7a65a9 {x0 x1 x2 x3 x4 x5 x6 x7 : Int} (f0 : (x0 ≥ x1)) (f1 : (x2 ≥ x0)) (f2 : (x3 < (-1)) ∨ (x3 > (-1)) ∨ (x4 > x2 ∧ x4 ≤ x5 ∧ x6 = (-1))) (f3 : (-1) ≤ x3 ∧ x3 ≤ 605) (f4 : ¬ (x3 ≠ (-1))) (f5 : x5 = x7) : x1 < x4 := by omega
theorem c_184_41 : mLk 184 41 = some (.aload_n 0, 1) := rfl
theorem c_184_42 : mLk 184 42 = some (.invokevirtual 114, 3) := rfl
theorem c_184_45 : mLk 184 45 = some (.bipush 93, 2) := rfl
theorem c_184_47 : mLk 184 47 = some (.if_icmp .eq 10, 3) := rfl
theorem c_184_57 : mLk 184 57 = some (.aload_n 0, 1) := rfl
theorem c_184_58 : mLk 184 58 = some (.bipush 93, 2) := rfl
theorem c_184_60 : mLk 184 60 = some (.invokevirtual 229, 3) := rfl
theorem c_184_63 : mLk 184 63 = some (.aload_n 0, 1) := rfl
theorem c_184_64 : mLk 184 64 = some (.dup, 1) := rfl
theorem c_184_65 : mLk 184 65 = some (.getfield 142, 3) := rfl
theorem c_184_68 : mLk 184 68 = some (.iconst 1, 1) := rfl
theorem c_184_69 : mLk 184 69 = some (.isub, 1) := rfl
theorem c_184_70 : mLk 184 70 = some (.putfield 142, 3) := rfl
theorem c_184_73 : mLk 184 73 = some (.aload_n 0, 1) := rfl
theorem c_184_74 : mLk 184 74 = some (.invokevirtual 131, 3) := rfl
theorem c_184_77 : mLk 184 77 = some (.ifCond .eq 15, 3) := rfl
theorem c_184_80 : mLk 184 80 = some (.aload_n 0, 1) := rfl
theorem c_184_81 : mLk 184 81 = some (.getfield 59, 3) := rfl
theorem c_184_84 : mLk 184 84 = some (.iload_n 2, 1) := rfl
theorem c_184_85 : mLk 184 85 = some (.iconst 2, 1) := rfl
theorem c_184_86 : mLk 184 86 = some (.iadd, 1) := rfl
theorem c_184_87 : mLk 184 87 = some (.aload_n 0, 1) := rfl
theorem c_184_88 : mLk 184 88 = some (.getfield 284, 3) := rfl
theorem c_184_91 : mLk 184 91 = some (.iastore, 1) := rfl
theorem c_184_50 : mLk 184 50 = some (.aload_n 0, 1) := rfl
theorem c_184_51 : mLk 184 51 = some (.invokevirtual 305, 3) := rfl
theorem c_184_54 : mLk 184 54 = some (.goto (-20), 3) := rfl
theorem c_184_34 : mLk 184 34 = some (.aload_n 0, 1) := rfl
theorem c_184_35 : mLk 184 35 = some (.invokevirtual 131, 3) := rfl
theorem c_184_38 : mLk 184 38 = some (.ifCond .eq 19, 3) := rfl
theorem c_184_0 : mLk 184 0 = some (.aload_n 0, 1) := rfl
theorem c_184_1 : mLk 184 1 = some (.iconst 5, 1) := rfl
theorem c_184_2 : mLk 184 2 = some (.invokevirtual 248, 3) := rfl
theorem c_184_5 : mLk 184 5 = some (.aload_n 0, 1) := rfl
theorem c_184_6 : mLk 184 6 = some (.iconst 0, 1) := rfl
theorem c_184_7 : mLk 184 7 = some (.bipush 40, 2) := rfl
theorem c_184_9 : mLk 184 9 = some (.invokevirtual 199, 3) := rfl
theorem c_184_12 : mLk 184 12 = some (.istore_n 1, 1) := rfl
theorem c_184_13 : mLk 184 13 = some (.aload_n 0, 1) := rfl
theorem c_184_14 : mLk 184 14 = some (.bipush 91, 2) := rfl
theorem c_184_16 : mLk 184 16 = some (.invokevirtual 229, 3) := rfl
theorem c_184_19 : mLk 184 19 = some (.aload_n 0, 1) := rfl
theorem c_184_20 : mLk 184 20 = some (.getfield 284, 3) := rfl
theorem c_184_23 : mLk 184 23 = some (.istore_n 2, 1) := rfl
theorem c_184_24 : mLk 184 24 = some (.aload_n 0, 1) := rfl
theorem c_184_25 : mLk 184 25 = some (.bipush 7, 2) := rfl
theorem c_184_27 : mLk 184 27 = some (.iload_n 1, 1) := rfl
theorem c_184_28 : mLk 184 28 = some (.iconst 0, 1) := rfl
theorem c_184_29 : mLk 184 29 = some (.iconst 0, 1) := rfl
theorem c_184_30 : mLk 184 30 = some (.iconst 0, 1) := rfl
theorem c_184_31 : mLk 184 31 = some (.invokevirtual 301, 3) := rfl
theorem km_8_301 : a_lk (kM 8) 301 = some (0, 181) := rfl
theorem km_8_305 : a_lk (kM 8) 305 = some (0, 185) := rfl
set_option maxRecDepth 100000 in
set_option maxHeartbeats 4000000 in
theorem s_184_l {sc : List Int32} {e : Int} {d u P Q : Nat} {c : ME} {o : Int} {Z : AR → Prop} (hI : Iv u e P Q c) (ho : 0 ≤ o ∧ o ≤ 6) (hq0 : (c 41 5 = (-1))) (hq1 : (c 41 4 ≤ c 41 3)) (hq2 : (c 41 3 ≤ 150)) (hq3 : (3 * c 41 34 ≤ 5 * c 41 4)) (hq4 : (((c 41 34) % 5) = 0)) (hq5 : (c 41 7 = o)) (hq6 : (c 41 4 ≤ c 41 3 - 1)) (H185 : ∀ (d9 : Nat) (c : ME) (Z : AR → Prop), d ≤ d9 → o + 1 ≤ 6 → Iv u e P Q c → ((c 41 5 = (-1))) → ((c 41 4 ≤ c 41 3)) → ((c 41 3 ≤ 150)) → ((3 * c 41 34 ≤ 5 * c 41 4)) → ((((c 41 34) % 5) = 0)) → (c 41 7 = o + 1) → (∀ c2 : ME, Iv u e P Q c2 → (∀ (a : Nat) (j : Int), ¬ ((a = 41 ∧ j = 4) ∨ (a = 41 ∧ j = 5) ∨ (a = 41 ∧ j = 6) ∨ (a = 41 ∧ j = 7) ∨ (a = 41 ∧ j = 34) ∨ (a = 56 ∧ j ≥ c 41 34)) → c2 a j = c a j) → ((c2 41 4 ≥ c 41 4)) → ((c2 41 7 = c 41 7)) → ((5 * c 41 4 + 3 * c2 41 34 ≤ 3 * c 41 34 + 5 * c2 41 4)) → ((c2 41 5 < (-1)) ∨ (c2 41 5 > (-1)) ∨ (c2 41 4 ≤ c 41 3 ∧ c2 41 4 > c 41 4)) → ((((c2 41 34) % 5) = 0)) → ((c2 41 34 ≥ c 41 34)) → (c2 41 5 = -1 → Ap c2 56 (c 41 34) (c2 41 34)) → Z (.inl none, Wd P Q P P c2, 0, 0)) → Wp sc (d9 + 12) 185 0 [(0, .ref 41)] [] (Wd P Q P P c) 0 0 Z) (K : ∀ (c2 : ME), Iv u e P Q c2 → (∀ (a : Nat) (j : Int), ¬ ((a = 41 ∧ j = 4) ∨ (a = 41 ∧ j = 5) ∨ (a = 41 ∧ j = 6) ∨ (a = 41 ∧ j = 7) ∨ (a = 41 ∧ j = 34) ∨ (a = 56 ∧ j ≥ c 41 34)) → c2 a j = c a j) → ((c2 41 4 ≥ c 41 4)) → ((c2 41 7 = c 41 7)) → ((5 * c 41 4 + 3 * c2 41 34 ≤ 3 * c 41 34 + 5 * c2 41 4)) → ((c2 41 5 < (-1)) ∨ (c2 41 5 > (-1)) ∨ (c2 41 4 ≤ c 41 3 ∧ c2 41 4 > c 41 4)) → ((((c2 41 34) % 5) = 0)) → ((c2 41 34 ≥ c 41 34)) → (c2 41 5 = -1 → Ap c2 56 (c 41 34) (c2 41 34)) → Z (.inl (none), Wd P Q P P c2, 0, 0)) : ∀ n : Nat, (∀ (c2 : ME) (v1 : Int) (v2 : Int), Iv u e P Q c2 → (∀ (a : Nat) (j : Int), ¬ ((a = 41 ∧ j = 4) ∨ (a = 41 ∧ j = 5) ∨ (a = 41 ∧ j = 6) ∨ (a = 41 ∧ j = 7) ∨ (a = 41 ∧ j = 34) ∨ (a = 56 ∧ j ≥ c 41 34)) → c2 a j = c a j) → 0 ≤ v1 ∧ v1 ≤ 9999 → 0 ≤ v2 ∧ v2 ≤ 245 → ((c2 41 5 = (-1))) → ((c2 41 4 ≤ c 41 3)) → ((c2 41 4 ≥ c 41 4)) → ((c2 41 7 = c 41 7 + 1 ∧ c2 41 7 ≤ 6)) → ((5 * c 41 4 + 3 * c2 41 34 ≤ 3 * c 41 34 + 5 * c2 41 4)) → ((((c2 41 34) % 5) = 0)) → ((c2 41 34 ≥ v2 + 5)) → ((v2 = c 41 34)) → ((c2 56 v2 = 7)) → ((c2 41 4 > c 41 4)) → (Ap c2 56 (v2 + 5) (c2 41 34)) → 1211 - 2 * c2 41 4 < (n : Int) → Wp sc (d + 13) 184 41 [(0, .ref 41), (1, vi v1), (2, vi v2)] [] (Wd P Q P P c2) 0 0 Z) := by
  intro n
  induction n with
  | zero => exact (by intro c2 v1 v2 hI2 hF hv1 hv2 hx0 hx1 hx2 hx3 hx4 hx5 hx6 hx7 hx8 hx9 hx10 hm9; have hP := iv_P hI; have hQ := iv_Q hI; have h_108 := ir_41_4 hI2; exfalso; omega)
  | succ n ih =>
    have hP := iv_P hI
    have hQ := iv_Q hI
    intro c2 v1 v2 hI2 hF hv1 hv2 hx0 hx1 hx2 hx3 hx4 hx5 hx6 hx7 hx8 hx9 hx10 hm9
    have h_1 := ir_41_5 hI2
    have h_2 := ir_41_3 hI
    have h_3 := ir_41_4 hI2
    have h_4 := ir_41_4 hI
    have h_5 := ir_41_7 hI
    have h_6 := ir_41_7 hI2
    have h_7 := ir_41_34 hI
    have h_8 := ir_41_34 hI2
    have h_9 := ir_56 hI2 v2
    refine q_aload_n c_184_41 rfl ?_
    have kn_10 : Hid (c2 41 3 = c 41 3) := hF 41 3 (fun q => q.elim (fun h => absurd h.2 (ni rfl)) (fun q => q.elim (fun h => absurd h.2 (ni rfl)) (fun q => q.elim (fun h => absurd h.2 (ni rfl)) (fun q => q.elim (fun h => absurd h.2 (ni rfl)) (fun q => q.elim (fun h => absurd h.2 (ni rfl)) (fun h => absurd h.1 (nn rfl)))))))
    have h_11 : c2 41 3 = c 41 3 := (hid kn_10)
    refine v_cv c_184_42 km_8_114 rfl rfl (Nat.le_of_ble_eq_true rfl) ⟨⟨rfl, rfl⟩, Nat.le_of_ble_eq_true rfl, rfl⟩ (Nat.le_of_ble_eq_true rfl) (Nat.le_of_ble_eq_true rfl) (s_154 hI2 (fun c_12 y_15 hI_13 hF_14 hy_15 h_16 h_17 h_18 h_19 => (bk_inl ?_)))
    have h_20 := ir_41_4 hI_13
    have h_21 := ir_43 hI (c_12 41 4)
    have kn_22 : Hid (c2 43 (c_12 41 4) = c 43 (c_12 41 4)) := hF 43 (c_12 41 4) (fun q => q.elim (fun h => absurd h.1 (nn rfl)) (fun q => q.elim (fun h => absurd h.1 (nn rfl)) (fun q => q.elim (fun h => absurd h.1 (nn rfl)) (fun q => q.elim (fun h => absurd h.1 (nn rfl)) (fun q => q.elim (fun h => absurd h.1 (nn rfl)) (fun h => absurd h.1 (nn rfl)))))))
    have h_23 : c2 43 (c_12 41 4) = c 43 (c_12 41 4) := (hid kn_22)
    refine v_bip c_184_45 (of_decide_eq_true rfl) ?_
    by_cases h_24 : y_15 = 93
    · refine v_ic_eq_t (t := 57) c_184_47 rfl h_24 (q_aload_n c_184_57 rfl (v_bip c_184_58 (of_decide_eq_true rfl) ?_))
      have kn_25 : Hid (c_12 41 3 = c 41 3) := (hF_14 41 3 (fun h => absurd h.2 (ni rfl))).trans (hid kn_10)
      have h_26 : c_12 41 3 = c 41 3 := (hid kn_25)
      have kn_27 : Hid (c_12 41 5 = c2 41 5) := hF_14 41 5 (fun h => absurd h.2 (ni rfl))
      have h_28 : c_12 41 5 = c2 41 5 := (hid kn_27)
      refine v_cv c_184_60 km_8_229 rfl rfl (Nat.le_of_ble_eq_true rfl) ⟨⟨rfl, rfl⟩, Nat.le_of_ble_eq_true rfl, rfl⟩ (Nat.le_of_ble_eq_true rfl) (Nat.le_of_ble_eq_true rfl) (s_161 (a1 := 93) hI_13 (show 1 ≤ 93 ∧ 93 ≤ 255 from ⟨of_decide_eq_true rfl, of_decide_eq_true rfl⟩) (fun c_29 hI_30 hF_31 h_32 h_33 h_34 h_35 => (bk_inl ?_)))
      have h_36 := ir_41_4 hI_30
      have h_37 := ir_41_5 hI_30
      refine q_aload_n c_184_63 rfl (q_dup c_184_64 rfl ?_)
      have kn_38 : Hid (c_12 41 7 = c2 41 7) := hF_14 41 7 (fun h => absurd h.2 (ni rfl))
      have kn_39 : Hid (c_29 41 7 = c2 41 7) := (hF_31 41 7 qn_fb1117a24).trans (hid kn_38)
      refine v_gi (z := 7) (v := c2 41 7) c_184_65 kf_8_142 rfl (Nat.le_of_ble_eq_true rfl) rfl rfl (hid kn_39) (q_iconst c_184_68 (v_isub (v := c2 41 7 - 1) c_184_69 rfl (v_pi (z := 7) c_184_70 kf_8_142 rfl (Nat.le_of_ble_eq_true rfl) rfl rfl rfl (of_decide_eq_true rfl) (q_aload_n c_184_73 rfl (v_cv c_184_74 km_8_131 rfl rfl (Nat.le_of_ble_eq_true rfl) ⟨⟨rfl, rfl⟩, Nat.le_of_ble_eq_true rfl, rfl⟩ (Nat.le_of_ble_eq_true rfl) (Nat.le_of_ble_eq_true rfl) (q_aload_n c_152_0 rfl (v_gi (z := 5) (v := c_29 41 5) c_152_1 kf_8_102 rfl (Nat.le_of_ble_eq_true rfl) rfl rfl (up_n (ni rfl)) ?_)))))))
      refine q_iconst c_152_4 ?_
      by_cases h_40 : c_29 41 5 ≠ (-1)
      · refine v_ic_ne_t (t := 12) c_152_5 rfl ⟨h_40, ⟨(lel h_37.1 rfl), (ler h_37.2 rfl)⟩, of_decide_eq_true rfl, of_decide_eq_true rfl⟩ (q_iconst c_152_12 (v_zret c_152_13 rfl (of_decide_eq_true rfl) (bk_inl (v_if_eq_t (t := 92) c_184_77 rfl (of_decide_eq_true rfl) (q_vret rfl rfl ?_)))))
        have hI_41 := iw_41_7 (v := c2 41 7 - 1) hI_30 ⟨by first | (clear ho hq0 hq1 hq2 hq3 hq4 hq5 hq6 hv1 hv2 hx0 hx1 hx2 hx4 hx5 hx6 hx7 hx8 hx9 h_1 h_2 h_3 h_4 h_6 h_7 h_8 h_9 h_20 h_16 h_21 h_24 h_36 h_32 h_37 h_17 h_18 h_19 h_33 h_34 h_35 h_40; omega) | omega, (rgm_h h_6.2 (of_decide_eq_true rfl))⟩
        have kn_42 : Hid (c_12 41 34 = c2 41 34) := hF_14 41 34 (fun h => absurd h.2 (ni rfl))
        have kn_43 : Hid (c_29 41 34 = c2 41 34) := (hF_31 41 34 qn_14d4d2881).trans (hid kn_42)
        have h_44 : (up c_29 41 7 (c2 41 7 - 1)) 41 34 = c2 41 34 := ((up_n (ni rfl)).trans (hid kn_43))
        have h_45 : (up c_29 41 7 (c2 41 7 - 1)) 41 34 = c2 41 34 := ((up_n (ni rfl)).trans (hid kn_43))
        have h_46 : (up c_29 41 7 (c2 41 7 - 1)) 41 4 = c_29 41 4 := (up_n (ni rfl))
        have h_47 : (up c_29 41 7 (c2 41 7 - 1)) 41 5 = c_29 41 5 := (up_n (ni rfl))
        have h_48 : (up c_29 41 7 (c2 41 7 - 1)) 41 7 = c2 41 7 - 1 := (up_e rfl)
        have hb9 : (up c_29 41 7 (c2 41 7 - 1)) 41 5 = c_29 41 5 := (up_n (ni rfl))
        exact K (up c_29 41 7 (c2 41 7 - 1)) hI_41 (fun a j hm => (up_b (Decidable.or_iff_not_imp_left.mpr (fun h1 h2 => hm (Or.inr (Or.inr (Or.inr (Or.inl ⟨Decidable.not_not.mp h1, h2⟩))))))).trans ((hF_31 a j (qv_b6152c67a hm)).trans ((hF_14 a j (fun h => hm (Or.inl h))).trans (hF a j (fun q => q.elim (fun h => hm (Or.inl h)) (fun q => q.elim (fun h => hm (Or.inr (Or.inl h))) (fun q => q.elim (fun h => hm (Or.inr (Or.inr (Or.inl h)))) (fun q => q.elim (fun h => hm (Or.inr (Or.inr (Or.inr (Or.inl h))))) (fun q => q.elim (fun h => hm (Or.inr (Or.inr (Or.inr (Or.inr (Or.inl h)))))) (fun h => hm (Or.inr (Or.inr (Or.inr (Or.inr (Or.inr ⟨h.1, (Int.le_trans ((q_e074ea49a)) h.2)⟩))))))))))))))) (by first | (clear ho hq0 hq1 hq2 hq3 hq4 hq5 hq6 hv1 hv2 hx0 hx1 hx2 hx3 hx5 hx8 hx9 h_1 h_2 h_3 h_4 h_5 h_6 h_7 h_8 h_9 h_20 h_21 h_24 h_36 h_37 h_17 h_18 h_19 h_33 h_34 h_35 h_40; omega) | omega) (by first | (clear ho hq0 hq1 hq2 hq3 hq4 hq5 hq6 hv1 hv2 hx0 hx1 hx2 hx4 hx5 hx6 hx7 hx8 hx9 h_1 h_2 h_3 h_4 h_5 h_6 h_7 h_8 h_9 h_20 h_16 h_21 h_24 h_36 h_32 h_37 h_17 h_18 h_19 h_33 h_34 h_35 h_40; omega) | omega) (by first | (clear ho hq0 hq1 hq2 hq3 hq4 hq5 hq6 hv1 hv2 hx0 hx1 hx2 hx3 hx5 hx6 hx7 hx8 hx9 h_1 h_2 h_3 h_4 h_5 h_6 h_7 h_8 h_9 h_20 h_21 h_24 h_36 h_37 h_17 h_18 h_19 h_33 h_34 h_35 h_40; omega) | omega) (Or.inr (Or.inl ((q_2c2c046ea h_37 h_40)))) (by first | (clear ho hq0 hq1 hq2 hq3 hq4 hq5 hq6 hv1 hv2 hx0 hx1 hx2 hx3 hx4 hx6 hx7 hx8 hx9 h_1 h_2 h_3 h_4 h_5 h_6 h_7 h_8 h_9 h_20 h_16 h_21 h_24 h_36 h_32 h_37 h_17 h_18 h_19 h_33 h_34 h_35 h_40; omega) | omega) (by first | (clear ho hq0 hq1 hq2 hq3 hq4 hq5 hq6 hv1 hv2 hx0 hx1 hx2 hx3 hx4 hx5 hx8 hx9 h_1 h_2 h_3 h_4 h_5 h_6 h_7 h_8 h_9 h_20 h_16 h_21 h_24 h_36 h_32 h_37 h_17 h_18 h_19 h_33 h_34 h_35 h_40; omega) | omega) (fun h9 => absurd h9 (by omega))
      · refine v_ic_ne_f (t := 12) c_152_5 rfl (Decidable.not_not.mp h_40) (q_iconst c_152_8 (q_goto (t := 13) c_152_9 rfl (v_zret c_152_13 rfl (of_decide_eq_true rfl) (bk_inl (v_if_eq_f (t := 92) c_184_77 rfl (of_decide_eq_true rfl) (q_aload_n c_184_80 rfl (v_gr (t := 56) c_184_81 kf_8_59 rfl (Nat.le_of_ble_eq_true rfl) rfl ?_)))))))
        refine q_iload_n c_184_84 rfl (q_iconst c_184_85 (v_iadd (v := v2 + 2) c_184_86 rfl (q_aload_n c_184_87 rfl ?_)))
        have kn_49 : Hid (c_12 41 34 = c2 41 34) := hF_14 41 34 (fun h => absurd h.2 (ni rfl))
        have kn_50 : Hid (c_29 41 34 = c2 41 34) := (hF_31 41 34 qn_14d4d2881).trans (hid kn_49)
        refine v_gi (z := 34) (v := c2 41 34) c_184_88 kf_8_284 rfl (Nat.le_of_ble_eq_true rfl) rfl rfl ((up_n (ni rfl)).trans (hid kn_50)) (v_is c_184_91 rfl (of_decide_eq_true rfl) (of_decide_eq_true rfl) ⟨(rgp_l hv2.1 (of_decide_eq_true rfl)), (q_8d57aa4b2 hv2)⟩ (q_vret rfl rfl ?_))
        have hI_51 := iw_41_7 (v := c2 41 7 - 1) hI_30 ⟨by first | (clear ho hq0 hq1 hq2 hq3 hq4 hq5 hq6 hv1 hv2 hx0 hx1 hx2 hx4 hx5 hx6 hx7 hx8 hx9 h_1 h_2 h_3 h_4 h_6 h_7 h_8 h_9 h_20 h_16 h_21 h_24 h_36 h_32 h_37 h_40 h_17 h_18 h_19 h_33 h_34 h_35; omega) | omega, (rgm_h h_6.2 (of_decide_eq_true rfl))⟩
        have kn_52 : Hid (c_12 56 v2 = c2 56 v2) := hF_14 56 v2 (fun h => absurd h.1 (nn rfl))
        have kn_53 : Hid (c_29 56 v2 = c2 56 v2) := (hF_31 56 v2 qn_01f0bccfb).trans (hid kn_52)
        have hI_54 := iw_again (n := v2) (v := c2 41 34) hI_51 (by omega) (by omega) (show (up c_29 41 7 (c2 41 7 - 1)) 56 v2 = 7 from (((up_c (nn rfl)).trans (hid kn_53))).trans (by omega)) (by omega)
        have h_55 : (up (up c_29 41 7 (c2 41 7 - 1)) 56 (v2 + 2) (c2 41 34)) 41 34 = c2 41 34 := ((up_c (nn rfl)).trans ((up_n (ni rfl)).trans (hid kn_50)))
        have h_56 : (up (up c_29 41 7 (c2 41 7 - 1)) 56 (v2 + 2) (c2 41 34)) 41 34 = c2 41 34 := ((up_c (nn rfl)).trans ((up_n (ni rfl)).trans (hid kn_50)))
        have h_57 : (up (up c_29 41 7 (c2 41 7 - 1)) 56 (v2 + 2) (c2 41 34)) 41 4 = c_29 41 4 := ((up_c (nn rfl)).trans (up_n (ni rfl)))
        have h_58 : (up (up c_29 41 7 (c2 41 7 - 1)) 56 (v2 + 2) (c2 41 34)) 41 5 = c_29 41 5 := ((up_c (nn rfl)).trans (up_n (ni rfl)))
        have h_59 : (up (up c_29 41 7 (c2 41 7 - 1)) 56 (v2 + 2) (c2 41 34)) 41 7 = c2 41 7 - 1 := ((up_c (nn rfl)).trans (up_e rfl))
        have hb9 : (up (up c_29 41 7 (c2 41 7 - 1)) 56 (v2 + 2) (c2 41 34)) 41 5 = c_29 41 5 := ((up_c (nn rfl)).trans (up_n (ni rfl)))
        have hn9 : (up (up c_29 41 7 (c2 41 7 - 1)) 56 (v2 + 2) (c2 41 34)) 41 34 = c2 41 34 := ((up_c (nn rfl)).trans ((up_n (ni rfl)).trans (hid kn_50)))
        exact K (up (up c_29 41 7 (c2 41 7 - 1)) 56 (v2 + 2) (c2 41 34)) hI_54 (fun a j hm => (up_b (Decidable.or_iff_not_imp_left.mpr (fun h1 h2 => hm (Or.inr (Or.inr (Or.inr (Or.inr (Or.inr ⟨Decidable.not_not.mp h1, (Int.le_trans (by clear hm; first | (clear ho hq0 hq1 hq2 hq3 hq4 hq5 hq6 hv1 hv2 hx0 hx1 hx2 hx3 hx4 hx5 hx6 hx8 hx9 h_1 h_2 h_3 h_4 h_5 h_6 h_7 h_8 h_9 h_20 h_16 h_21 h_24 h_36 h_32 h_37 h_40 h_17 h_18 h_19 h_33 h_34 h_35; omega) | omega) (Int.le_of_eq h2.symm))⟩)))))))).trans ((up_b (Decidable.or_iff_not_imp_left.mpr (fun h1 h2 => hm (Or.inr (Or.inr (Or.inr (Or.inl ⟨Decidable.not_not.mp h1, h2⟩))))))).trans ((hF_31 a j (qv_b6152c67a hm)).trans ((hF_14 a j (fun h => hm (Or.inl h))).trans (hF a j (fun q => q.elim (fun h => hm (Or.inl h)) (fun q => q.elim (fun h => hm (Or.inr (Or.inl h))) (fun q => q.elim (fun h => hm (Or.inr (Or.inr (Or.inl h)))) (fun q => q.elim (fun h => hm (Or.inr (Or.inr (Or.inr (Or.inl h))))) (fun q => q.elim (fun h => hm (Or.inr (Or.inr (Or.inr (Or.inr (Or.inl h)))))) (fun h => hm (Or.inr (Or.inr (Or.inr (Or.inr (Or.inr ⟨h.1, (Int.le_trans ((q_e074ea49a)) h.2)⟩)))))))))))))))) (by first | (clear ho hq0 hq1 hq2 hq3 hq4 hq5 hq6 hv1 hv2 hx0 hx1 hx2 hx3 hx5 hx8 hx9 h_1 h_2 h_3 h_4 h_5 h_6 h_7 h_8 h_9 h_20 h_21 h_24 h_36 h_37 h_40 h_17 h_18 h_19 h_33 h_34 h_35; omega) | omega) (by first | (clear ho hq0 hq1 hq2 hq3 hq4 hq5 hq6 hv1 hv2 hx0 hx1 hx2 hx4 hx5 hx6 hx7 hx8 hx9 h_1 h_2 h_3 h_4 h_5 h_6 h_7 h_8 h_9 h_20 h_16 h_21 h_24 h_36 h_32 h_37 h_40 h_17 h_18 h_19 h_33 h_34 h_35; omega) | omega) (by first | (clear ho hq0 hq1 hq2 hq3 hq4 hq5 hq6 hv1 hv2 hx0 hx1 hx2 hx3 hx5 hx6 hx7 hx8 hx9 h_1 h_2 h_3 h_4 h_5 h_6 h_7 h_8 h_9 h_20 h_21 h_24 h_36 h_37 h_40 h_17 h_18 h_19 h_33 h_34 h_35; omega) | omega) (Or.inr (Or.inr ⟨(q_40b8b4b12 h_35 h_37 h_40 h_26 h_28), by first | (clear ho hq0 hq1 hq2 hq3 hq4 hq5 hq6 hv1 hv2 hx0 hx1 hx2 hx3 hx5 hx8 hx9 h_1 h_2 h_3 h_4 h_5 h_6 h_7 h_8 h_9 h_20 h_21 h_24 h_36 h_37 h_40 h_17 h_18 h_19 h_33 h_34 h_35; omega) | omega⟩)) (by first | (clear ho hq0 hq1 hq2 hq3 hq4 hq5 hq6 hv1 hv2 hx0 hx1 hx2 hx3 hx4 hx6 hx7 hx8 hx9 h_1 h_2 h_3 h_4 h_5 h_6 h_7 h_8 h_9 h_20 h_16 h_21 h_24 h_36 h_32 h_37 h_40 h_17 h_18 h_19 h_33 h_34 h_35; omega) | omega) (by first | (clear ho hq0 hq1 hq2 hq3 hq4 hq5 hq6 hv1 hv2 hx0 hx1 hx2 hx3 hx4 hx5 hx8 hx9 h_1 h_2 h_3 h_4 h_5 h_6 h_7 h_8 h_9 h_20 h_16 h_21 h_24 h_36 h_32 h_37 h_40 h_17 h_18 h_19 h_33 h_34 h_35; omega) | omega) (fun h9 => ap_end (lo := v2) (c := c2) (hi := c2 41 34) hx10 (by omega) (by omega) (by omega) (by rw [show (up (up c_29 41 7 (c2 41 7 - 1)) 56 (v2 + 2) (c2 41 34)) 56 (v2 + 2) = c2 41 34 from up_e rfl]; omega) (fun j h1 h2 => (up_n (by omega)).trans ((up_c (nn rfl)).trans ((hF_31 56 j qn_01f0bccfb).trans (hF_14 56 j (fun h => absurd h.1 (nn rfl)))))))
    · refine v_ic_eq_f (t := 57) c_184_47 rfl ⟨h_24, ⟨hy_15.1, hy_15.2⟩, of_decide_eq_true rfl, of_decide_eq_true rfl⟩ (q_aload_n c_184_50 rfl ?_)
      have kn_60 : Hid (c_12 41 5 = c2 41 5) := hF_14 41 5 (fun h => absurd h.2 (ni rfl))
      have h_61 : c_12 41 5 = c2 41 5 := (hid kn_60)
      have kn_62 : Hid (c_12 41 3 = c 41 3) := (hF_14 41 3 (fun h => absurd h.2 (ni rfl))).trans (hid kn_10)
      have h_63 : c_12 41 3 = c 41 3 := (hid kn_62)
      have kn_64 : Hid (c_12 41 34 = c2 41 34) := hF_14 41 34 (fun h => absurd h.2 (ni rfl))
      have h_65 : c_12 41 34 = c2 41 34 := (hid kn_64)
      have kn_66 : Hid (c_12 41 7 = c2 41 7) := hF_14 41 7 (fun h => absurd h.2 (ni rfl))
      have h_67 : c_12 41 7 = c2 41 7 := (hid kn_66)
      have h_68 : c_12 41 34 = c2 41 34 := (hid kn_64)
      refine v_cv c_184_51 km_8_305 rfl rfl (Nat.le_of_ble_eq_true rfl) ⟨⟨rfl, rfl⟩, Nat.le_of_ble_eq_true rfl, rfl⟩ (Nat.le_of_ble_eq_true rfl) (Nat.le_of_ble_eq_true rfl) (H185 _ _ _ (by omega) (by omega) hI_13 (by omega) (by omega) (by omega) (by omega) (by omega) (by omega) (fun c_69 hI_70 hF_71 h_72 h_73 h_74 h_75 h_76 h_77 hA_78 => (bk_inl ?_)))
      have h_79 := ir_41_4 hI_70
      have h_80 := ir_41_7 hI_70
      have h_81 := ir_41_34 hI_70
      have h_82 := ir_41_5 hI_70
      refine q_goto (t := 34) c_184_54 rfl (q_aload_n c_184_34 rfl (v_cv c_184_35 km_8_131 rfl rfl (Nat.le_of_ble_eq_true rfl) ⟨⟨rfl, rfl⟩, Nat.le_of_ble_eq_true rfl, rfl⟩ (Nat.le_of_ble_eq_true rfl) (Nat.le_of_ble_eq_true rfl) (q_aload_n c_152_0 rfl (v_gi (z := 5) (v := c_69 41 5) c_152_1 kf_8_102 rfl (Nat.le_of_ble_eq_true rfl) rfl rfl rfl (q_iconst c_152_4 ?_)))))
      by_cases h_83 : c_69 41 5 ≠ (-1)
      · refine v_ic_ne_t (t := 12) c_152_5 rfl ⟨h_83, ⟨(lel h_82.1 rfl), (ler h_82.2 rfl)⟩, of_decide_eq_true rfl, of_decide_eq_true rfl⟩ (q_iconst c_152_12 (v_zret c_152_13 rfl (of_decide_eq_true rfl) (bk_inl (v_if_eq_t (t := 57) c_184_38 rfl (of_decide_eq_true rfl) (q_aload_n c_184_57 rfl (v_bip c_184_58 (of_decide_eq_true rfl) ?_))))))
        have kn_84 : Hid (c_69 41 3 = c 41 3) := (hF_71 41 3 (fun q => q.elim (fun h => absurd h.2 (ni rfl)) (fun q => q.elim (fun h => absurd h.2 (ni rfl)) (fun q => q.elim (fun h => absurd h.2 (ni rfl)) (fun q => q.elim (fun h => absurd h.2 (ni rfl)) (fun q => q.elim (fun h => absurd h.2 (ni rfl)) (fun h => absurd h.1 (nn rfl)))))))).trans (hid kn_62)
        have h_85 : c_69 41 3 = c 41 3 := (hid kn_84)
        refine v_cv c_184_60 km_8_229 rfl rfl (Nat.le_of_ble_eq_true rfl) ⟨⟨rfl, rfl⟩, Nat.le_of_ble_eq_true rfl, rfl⟩ (Nat.le_of_ble_eq_true rfl) (Nat.le_of_ble_eq_true rfl) (s_161 (a1 := 93) hI_70 (show 1 ≤ 93 ∧ 93 ≤ 255 from ⟨of_decide_eq_true rfl, of_decide_eq_true rfl⟩) (fun c_86 hI_87 hF_88 h_89 h_90 h_91 h_92 => (bk_inl ?_)))
        have h_93 := ir_41_4 hI_87
        have h_94 := ir_41_5 hI_87
        refine q_aload_n c_184_63 rfl (q_dup c_184_64 rfl ?_)
        have kn_95 : Hid (c_86 41 7 = c_69 41 7) := hF_88 41 7 qn_fb1117a24
        refine v_gi (z := 7) (v := c_69 41 7) c_184_65 kf_8_142 rfl (Nat.le_of_ble_eq_true rfl) rfl rfl (hid kn_95) (q_iconst c_184_68 (v_isub (v := c_69 41 7 - 1) c_184_69 rfl (v_pi (z := 7) c_184_70 kf_8_142 rfl (Nat.le_of_ble_eq_true rfl) rfl rfl rfl (of_decide_eq_true rfl) (q_aload_n c_184_73 rfl (v_cv c_184_74 km_8_131 rfl rfl (Nat.le_of_ble_eq_true rfl) ⟨⟨rfl, rfl⟩, Nat.le_of_ble_eq_true rfl, rfl⟩ (Nat.le_of_ble_eq_true rfl) (Nat.le_of_ble_eq_true rfl) (q_aload_n c_152_0 rfl (v_gi (z := 5) (v := c_86 41 5) c_152_1 kf_8_102 rfl (Nat.le_of_ble_eq_true rfl) rfl rfl (up_n (ni rfl)) ?_)))))))
        refine q_iconst c_152_4 (v_ic_ne_t (t := 12) c_152_5 rfl ⟨(q_9ee567b18 h_83 h_91), ⟨(lel h_94.1 rfl), (ler h_94.2 rfl)⟩, of_decide_eq_true rfl, of_decide_eq_true rfl⟩ (q_iconst c_152_12 (v_zret c_152_13 rfl (of_decide_eq_true rfl) (bk_inl (v_if_eq_t (t := 92) c_184_77 rfl (of_decide_eq_true rfl) (q_vret rfl rfl ?_))))))
        have hI_96 := iw_41_7 (v := c_69 41 7 - 1) hI_87 ⟨by first | (clear ho hq0 hq1 hq2 hq3 hq4 hq5 hq6 hv1 hv2 hx0 hx1 hx2 hx4 hx5 hx6 hx7 hx8 hx9 h_1 h_2 h_3 h_4 h_6 h_7 h_8 h_9 h_20 h_16 h_21 h_79 h_72 h_80 h_81 h_74 h_82 h_76 h_77 h_93 h_89 h_94 h_17 h_18 h_19 h_24 h_75 h_83 h_90 h_91 h_92; omega) | omega, (rgm_h h_80.2 (of_decide_eq_true rfl))⟩
        have kn_97 : Hid (c_86 41 34 = c_69 41 34) := hF_88 41 34 qn_14d4d2881
        have h_98 : (up c_86 41 7 (c_69 41 7 - 1)) 41 34 = c_69 41 34 := ((up_n (ni rfl)).trans (hid kn_97))
        have h_99 : (up c_86 41 7 (c_69 41 7 - 1)) 41 34 = c_69 41 34 := ((up_n (ni rfl)).trans (hid kn_97))
        have h_100 : (up c_86 41 7 (c_69 41 7 - 1)) 41 4 = c_86 41 4 := (up_n (ni rfl))
        have h_101 : (up c_86 41 7 (c_69 41 7 - 1)) 41 5 = c_86 41 5 := (up_n (ni rfl))
        have h_102 : (up c_86 41 7 (c_69 41 7 - 1)) 41 7 = c_69 41 7 - 1 := (up_e rfl)
        have hb9 : (up c_86 41 7 (c_69 41 7 - 1)) 41 5 = c_86 41 5 := (up_n (ni rfl))
        exact K (up c_86 41 7 (c_69 41 7 - 1)) hI_96 (fun a j hm => (up_b (Decidable.or_iff_not_imp_left.mpr (fun h1 h2 => hm (Or.inr (Or.inr (Or.inr (Or.inl ⟨Decidable.not_not.mp h1, h2⟩))))))).trans ((hF_88 a j (qv_b6152c67a hm)).trans ((hF_71 a j (fun q => q.elim (fun h => hm (Or.inl h)) (fun q => q.elim (fun h => hm (Or.inr (Or.inl h))) (fun q => q.elim (fun h => hm (Or.inr (Or.inr (Or.inl h)))) (fun q => q.elim (fun h => hm (Or.inr (Or.inr (Or.inr (Or.inl h))))) (fun q => q.elim (fun h => hm (Or.inr (Or.inr (Or.inr (Or.inr (Or.inl h)))))) (fun h => hm (Or.inr (Or.inr (Or.inr (Or.inr (Or.inr ⟨h.1, (Int.le_trans (by clear hm; first | (clear ho hq0 hq1 hq2 hq3 hq4 hq5 hq6 hv1 hv2 hx0 hx1 hx2 hx3 hx4 hx5 hx8 hx9 h_1 h_2 h_3 h_4 h_5 h_6 h_7 h_8 h_9 h_20 h_16 h_21 h_79 h_72 h_80 h_73 h_81 h_74 h_82 h_76 h_77 h_93 h_89 h_94 h_17 h_18 h_19 h_24 h_75 h_83 h_90 h_91 h_92; omega) | omega) h.2)⟩)))))))))))).trans ((hF_14 a j (fun h => hm (Or.inl h))).trans (hF a j (fun q => q.elim (fun h => hm (Or.inl h)) (fun q => q.elim (fun h => hm (Or.inr (Or.inl h))) (fun q => q.elim (fun h => hm (Or.inr (Or.inr (Or.inl h)))) (fun q => q.elim (fun h => hm (Or.inr (Or.inr (Or.inr (Or.inl h))))) (fun q => q.elim (fun h => hm (Or.inr (Or.inr (Or.inr (Or.inr (Or.inl h)))))) (fun h => hm (Or.inr (Or.inr (Or.inr (Or.inr (Or.inr ⟨h.1, (Int.le_trans ((q_e074ea49a)) h.2)⟩)))))))))))))))) (by first | (clear ho hq0 hq1 hq2 hq3 hq4 hq5 hq6 hv1 hv2 hx0 hx1 hx2 hx3 hx5 hx8 hx9 h_1 h_2 h_3 h_4 h_5 h_6 h_7 h_8 h_9 h_20 h_21 h_79 h_72 h_80 h_73 h_81 h_82 h_76 h_93 h_94 h_17 h_18 h_19 h_24 h_75 h_83 h_90 h_91 h_92; omega) | omega) (by first | (clear ho hq0 hq1 hq2 hq3 hq4 hq5 hq6 hv1 hv2 hx0 hx1 hx2 hx4 hx5 hx6 hx7 hx8 hx9 h_1 h_2 h_3 h_4 h_5 h_6 h_7 h_8 h_9 h_20 h_16 h_21 h_79 h_72 h_80 h_81 h_74 h_82 h_76 h_77 h_93 h_89 h_94 h_17 h_18 h_19 h_24 h_75 h_83 h_90 h_91 h_92; omega) | omega) (by first | (clear ho hq0 hq1 hq2 hq3 hq4 hq5 hq6 hv1 hv2 hx0 hx1 hx2 hx3 hx5 hx6 hx7 hx8 hx9 h_1 h_2 h_3 h_4 h_5 h_6 h_7 h_8 h_9 h_20 h_21 h_79 h_72 h_80 h_73 h_81 h_82 h_76 h_77 h_93 h_94 h_17 h_18 h_19 h_24 h_75 h_83 h_90 h_91 h_92; omega) | omega) (Or.inr (Or.inl ((q_3c458df8b h_83 h_91 h_94)))) ((q_f9c88a064 h_76)) (by first | (clear ho hq0 hq1 hq2 hq3 hq4 hq5 hq6 hv1 hv2 hx0 hx1 hx2 hx3 hx4 hx5 hx8 hx9 h_1 h_2 h_3 h_4 h_5 h_6 h_7 h_8 h_9 h_20 h_16 h_21 h_79 h_72 h_80 h_73 h_81 h_74 h_82 h_76 h_93 h_89 h_94 h_17 h_18 h_19 h_24 h_75 h_83 h_90 h_91 h_92; omega) | omega) (fun h9 => absurd h9 (by omega))
      · refine v_ic_ne_f (t := 12) c_152_5 rfl (Decidable.not_not.mp h_83) (q_iconst c_152_8 (q_goto (t := 13) c_152_9 rfl (v_zret c_152_13 rfl (of_decide_eq_true rfl) (bk_inl (v_if_eq_f (t := 57) c_184_38 rfl (of_decide_eq_true rfl) (Wp_ls [(0, .ref 41), (1, vi v1), (2, vi v2)] (lsub_cons rfl (lsub_cons rfl (lsub_cons rfl lsub_nil))) ?_))))))
        have kn_103 : Hid (c_12 56 v2 = c2 56 v2) := hF_14 56 v2 (fun h => absurd h.1 (nn rfl))
        have kn_104 : Hid (c_69 56 v2 = c2 56 v2) := (hF_71 56 v2 (fun q => q.elim (fun h => absurd h.1 (nn rfl)) (fun q => q.elim (fun h => absurd h.1 (nn rfl)) (fun q => q.elim (fun h => absurd h.1 (nn rfl)) (fun q => q.elim (fun h => absurd h.1 (nn rfl)) (fun q => q.elim (fun h => absurd h.1 (nn rfl)) (fun h => absurd h.2 (nge (by first | (clear ho hq0 hq1 hq2 hq3 hq4 hq5 hq6 hv1 hv2 hx0 hx1 hx2 hx3 hx4 hx5 hx7 hx8 hx9 h_1 h_2 h_3 h_4 h_5 h_6 h_7 h_8 h_9 h_20 h_16 h_21 h_79 h_72 h_80 h_73 h_81 h_74 h_82 h_76 h_77 h_83 h_17 h_18 h_19 h_24 h_75; omega) | omega))))))))).trans (hid kn_103)
        have h_105 : c_69 56 v2 = c2 56 v2 := (hid kn_104)
        have h_106 : c_69 41 34 = c_69 41 34 := rfl
        have h_107 : c_12 41 34 = c2 41 34 := (hid kn_64)
        exact ih c_69 v1 v2 hI_70 (fun a j hm => (hF_71 a j (fun q => q.elim (fun h => hm (Or.inl h)) (fun q => q.elim (fun h => hm (Or.inr (Or.inl h))) (fun q => q.elim (fun h => hm (Or.inr (Or.inr (Or.inl h)))) (fun q => q.elim (fun h => hm (Or.inr (Or.inr (Or.inr (Or.inl h))))) (fun q => q.elim (fun h => hm (Or.inr (Or.inr (Or.inr (Or.inr (Or.inl h)))))) (fun h => hm (Or.inr (Or.inr (Or.inr (Or.inr (Or.inr ⟨h.1, (Int.le_trans (by clear hm; first | (clear ho hq0 hq1 hq2 hq3 hq4 hq5 hq6 hv1 hv2 hx0 hx1 hx2 hx3 hx4 hx5 hx8 hx9 h_1 h_2 h_3 h_4 h_5 h_6 h_7 h_8 h_9 h_20 h_16 h_21 h_79 h_72 h_80 h_73 h_81 h_74 h_82 h_76 h_77 h_83 h_17 h_18 h_19 h_24 h_75; omega) | omega) h.2)⟩)))))))))))).trans ((hF_14 a j (fun h => hm (Or.inl h))).trans (hF a j (fun q => q.elim (fun h => hm (Or.inl h)) (fun q => q.elim (fun h => hm (Or.inr (Or.inl h))) (fun q => q.elim (fun h => hm (Or.inr (Or.inr (Or.inl h)))) (fun q => q.elim (fun h => hm (Or.inr (Or.inr (Or.inr (Or.inl h))))) (fun q => q.elim (fun h => hm (Or.inr (Or.inr (Or.inr (Or.inr (Or.inl h)))))) (fun h => hm (Or.inr (Or.inr (Or.inr (Or.inr (Or.inr ⟨h.1, (Int.le_trans ((q_e074ea49a)) h.2)⟩)))))))))))))) hv1 hv2 ((q_65c5ff97d h_82 h_83)) ((q_76b49cfc4 h_75 h_82 h_83 h_63)) (by first | (clear ho hq0 hq1 hq2 hq3 hq4 hq5 hq6 hv1 hv2 hx0 hx1 hx2 hx3 hx5 hx8 hx9 h_1 h_2 h_3 h_4 h_5 h_6 h_7 h_8 h_9 h_20 h_21 h_79 h_72 h_80 h_73 h_81 h_82 h_76 h_83 h_17 h_18 h_19 h_24 h_75; omega) | omega) ⟨by first | (clear ho hq0 hq1 hq2 hq3 hq4 hq5 hq6 hv1 hv2 hx0 hx1 hx2 hx4 hx5 hx6 hx7 hx8 hx9 h_1 h_2 h_3 h_4 h_5 h_6 h_7 h_8 h_9 h_20 h_16 h_21 h_79 h_72 h_80 h_81 h_74 h_82 h_76 h_77 h_83 h_17 h_18 h_19 h_24 h_75; omega) | omega, by first | (clear ho hq0 hq1 hq2 hq3 hq4 hq5 hq6 hv1 hv2 hx0 hx1 hx2 hx4 hx5 hx6 hx7 hx8 hx9 h_1 h_2 h_3 h_4 h_5 h_6 h_7 h_8 h_9 h_20 h_16 h_21 h_79 h_72 h_80 h_81 h_74 h_82 h_76 h_77 h_83 h_17 h_18 h_19 h_24 h_75; omega) | omega⟩ (by first | (clear ho hq0 hq1 hq2 hq3 hq4 hq5 hq6 hv1 hv2 hx0 hx1 hx2 hx3 hx5 hx6 hx7 hx8 hx9 h_1 h_2 h_3 h_4 h_5 h_6 h_7 h_8 h_9 h_20 h_21 h_79 h_72 h_80 h_73 h_81 h_82 h_76 h_77 h_83 h_17 h_18 h_19 h_24 h_75; omega) | omega) ((q_f9c88a064 h_76)) (by first | (clear ho hq0 hq1 hq2 hq3 hq4 hq5 hq6 hv1 hv2 hx0 hx1 hx2 hx3 hx4 hx5 hx7 hx8 hx9 h_1 h_2 h_3 h_4 h_5 h_6 h_7 h_8 h_9 h_20 h_16 h_21 h_79 h_72 h_80 h_73 h_81 h_74 h_82 h_76 h_83 h_17 h_18 h_19 h_24 h_75; omega) | omega) (by first | (clear ho hq0 hq1 hq2 hq3 hq4 hq5 hq6 hv1 hv2 hx0 hx1 hx2 hx3 hx4 hx5 hx6 hx8 hx9 h_1 h_2 h_3 h_4 h_5 h_6 h_7 h_8 h_9 h_20 h_16 h_21 h_79 h_72 h_80 h_73 h_81 h_74 h_82 h_76 h_77 h_83 h_17 h_18 h_19 h_24 h_75; omega) | omega) (by first | (clear ho hq0 hq1 hq2 hq3 hq4 hq5 hq6 hv1 hv2 hx0 hx1 hx2 hx3 hx4 hx5 hx6 hx7 hx9 h_1 h_2 h_3 h_4 h_5 h_6 h_7 h_8 h_9 h_20 h_16 h_21 h_79 h_72 h_80 h_73 h_81 h_74 h_82 h_76 h_77 h_83 h_17 h_18 h_19 h_24 h_75; omega) | omega) (by first | (clear ho hq0 hq1 hq2 hq3 hq4 hq5 hq6 hv1 hv2 hx0 hx1 hx2 hx3 hx5 hx8 hx9 h_1 h_2 h_3 h_4 h_5 h_6 h_7 h_8 h_9 h_20 h_21 h_79 h_72 h_80 h_73 h_81 h_82 h_76 h_83 h_17 h_18 h_19 h_24 h_75; omega) | omega) (ap_join (ap_fr (c2 := c_69) hx10 (by omega) rfl rfl (fun j h1 h2 => (hF_71 56 j (by omega)).trans (hF_14 56 j (fun h => absurd h.1 (nn rfl))))) (show c_12 41 34 = c2 41 34 from by omega) (hA_78 (by omega))) (by omega)
set_option maxRecDepth 100000 in
set_option maxHeartbeats 4000000 in
theorem s_184 {sc : List Int32} {e : Int} {d u P Q : Nat} {c : ME} {o : Int} {Z : AR → Prop} (hI : Iv u e P Q c) (ho : 0 ≤ o ∧ o ≤ 6) (hq0 : (c 41 5 = (-1))) (hq1 : (c 41 4 ≤ c 41 3)) (hq2 : (c 41 3 ≤ 150)) (hq3 : (3 * c 41 34 ≤ 5 * c 41 4)) (hq4 : (((c 41 34) % 5) = 0)) (hq5 : (c 41 7 = o)) (hq6 : (c 41 4 ≤ c 41 3 - 1)) (H185 : ∀ (d9 : Nat) (c : ME) (Z : AR → Prop), d ≤ d9 → o + 1 ≤ 6 → Iv u e P Q c → ((c 41 5 = (-1))) → ((c 41 4 ≤ c 41 3)) → ((c 41 3 ≤ 150)) → ((3 * c 41 34 ≤ 5 * c 41 4)) → ((((c 41 34) % 5) = 0)) → (c 41 7 = o + 1) → (∀ c2 : ME, Iv u e P Q c2 → (∀ (a : Nat) (j : Int), ¬ ((a = 41 ∧ j = 4) ∨ (a = 41 ∧ j = 5) ∨ (a = 41 ∧ j = 6) ∨ (a = 41 ∧ j = 7) ∨ (a = 41 ∧ j = 34) ∨ (a = 56 ∧ j ≥ c 41 34)) → c2 a j = c a j) → ((c2 41 4 ≥ c 41 4)) → ((c2 41 7 = c 41 7)) → ((5 * c 41 4 + 3 * c2 41 34 ≤ 3 * c 41 34 + 5 * c2 41 4)) → ((c2 41 5 < (-1)) ∨ (c2 41 5 > (-1)) ∨ (c2 41 4 ≤ c 41 3 ∧ c2 41 4 > c 41 4)) → ((((c2 41 34) % 5) = 0)) → ((c2 41 34 ≥ c 41 34)) → (c2 41 5 = -1 → Ap c2 56 (c 41 34) (c2 41 34)) → Z (.inl none, Wd P Q P P c2, 0, 0)) → Wp sc (d9 + 12) 185 0 [(0, .ref 41)] [] (Wd P Q P P c) 0 0 Z) (K : ∀ (c2 : ME), Iv u e P Q c2 → (∀ (a : Nat) (j : Int), ¬ ((a = 41 ∧ j = 4) ∨ (a = 41 ∧ j = 5) ∨ (a = 41 ∧ j = 6) ∨ (a = 41 ∧ j = 7) ∨ (a = 41 ∧ j = 34) ∨ (a = 56 ∧ j ≥ c 41 34)) → c2 a j = c a j) → ((c2 41 4 ≥ c 41 4)) → ((c2 41 7 = c 41 7)) → ((5 * c 41 4 + 3 * c2 41 34 ≤ 3 * c 41 34 + 5 * c2 41 4)) → ((c2 41 5 < (-1)) ∨ (c2 41 5 > (-1)) ∨ (c2 41 4 ≤ c 41 3 ∧ c2 41 4 > c 41 4)) → ((((c2 41 34) % 5) = 0)) → ((c2 41 34 ≥ c 41 34)) → (c2 41 5 = -1 → Ap c2 56 (c 41 34) (c2 41 34)) → Z (.inl (none), Wd P Q P P c2, 0, 0)) : Wp sc (d + 13) 184 0 [(0, .ref 41)] [] (Wd P Q P P c) 0 0 Z := by
  have hP := iv_P hI
  have hQ := iv_Q hI
  have h_109 := ir_41_5 hI
  have h_110 := ir_41_3 hI
  have h_111 := ir_41_4 hI
  have h_112 := ir_41_34 hI
  have h_113 := ir_41_7 hI
  refine q_aload_n c_184_0 rfl (q_iconst c_184_1 (v_cv c_184_2 km_8_248 rfl rfl (Nat.le_of_ble_eq_true rfl) ⟨⟨rfl, rfl⟩, Nat.le_of_ble_eq_true rfl, rfl⟩ (Nat.le_of_ble_eq_true rfl) (Nat.le_of_ble_eq_true rfl) (s_171 (a1 := 5) hI (show 1 ≤ 5 ∧ 5 ≤ 5 from ⟨of_decide_eq_true rfl, of_decide_eq_true rfl⟩) ((q_669679922 ho hq5)) ((q_f3b097ab5 hq2 hq6)) (fun c_114 hI_115 hF_116 h_117 h_118 h_119 h_120 => (bk_inl ?_)))))
  have h_121 := ir_41_4 hI_115
  have h_122 := ir_41_7 hI_115
  have h_123 := ir_41_5 hI_115
  refine q_aload_n c_184_5 rfl (q_iconst c_184_6 (v_bip c_184_7 (of_decide_eq_true rfl) ?_))
  have kn_124 : Hid (c_114 41 3 = c 41 3) := hF_116 41 3 qn_e8a085a5c
  have h_125 : c_114 41 3 = c 41 3 := (hid kn_124)
  refine v_cv c_184_9 km_8_199 rfl rfl (Nat.le_of_ble_eq_true rfl) ⟨⟨rfl, rfl⟩, Nat.le_of_ble_eq_true rfl, rfl⟩ (Nat.le_of_ble_eq_true rfl) (Nat.le_of_ble_eq_true rfl) (s_160 (a1 := 0) (a2 := 40) hI_115 (show 0 ≤ 0 ∧ 0 ≤ 1 from ⟨of_decide_eq_true rfl, of_decide_eq_true rfl⟩) (show (-1) ≤ 40 ∧ 40 ≤ 9999 from ⟨of_decide_eq_true rfl, of_decide_eq_true rfl⟩) (fun c_126 y_129 hI_127 hF_128 hy_129 h_130 h_131 h_132 h_133 h_134 => (bk_inl ?_)))
  have h_135 := ir_41_4 hI_127
  have h_136 := ir_41_5 hI_127
  refine q_istore_n c_184_12 (Nat.le_of_ble_eq_true rfl) (q_aload_n c_184_13 rfl (v_bip c_184_14 (of_decide_eq_true rfl) ?_))
  have kn_137 : Hid (c_126 41 3 = c 41 3) := (hF_128 41 3 qn_97fd72088).trans (hid kn_124)
  have h_138 : c_126 41 3 = c 41 3 := (hid kn_137)
  refine v_cv c_184_16 km_8_229 rfl rfl (Nat.le_of_ble_eq_true rfl) ⟨⟨rfl, rfl⟩, Nat.le_of_ble_eq_true rfl, rfl⟩ (Nat.le_of_ble_eq_true rfl) (Nat.le_of_ble_eq_true rfl) (s_161 (a1 := 91) hI_127 (show 1 ≤ 91 ∧ 91 ≤ 255 from ⟨of_decide_eq_true rfl, of_decide_eq_true rfl⟩) (fun c_139 hI_140 hF_141 h_142 h_143 h_144 h_145 => (bk_inl ?_)))
  have h_146 := ir_41_4 hI_140
  have h_147 := ir_41_5 hI_140
  refine q_aload_n c_184_19 rfl ?_
  have kn_148 : Hid (c_114 41 34 = c 41 34) := hF_116 41 34 qn_62c325fba
  have kn_149 : Hid (c_126 41 34 = c 41 34) := (hF_128 41 34 qn_14d4d2881).trans (hid kn_148)
  have kn_150 : Hid (c_139 41 34 = c 41 34) := (hF_141 41 34 qn_14d4d2881).trans (hid kn_149)
  refine v_gi (z := 34) (v := c 41 34) c_184_20 kf_8_284 rfl (Nat.le_of_ble_eq_true rfl) rfl rfl (hid kn_150) (q_istore_n c_184_23 (Nat.le_of_ble_eq_true rfl) (q_aload_n c_184_24 rfl (v_bip c_184_25 (of_decide_eq_true rfl) (q_iload_n c_184_27 rfl (q_iconst c_184_28 (q_iconst c_184_29 (q_iconst c_184_30 ?_)))))))
  have h_151 : c_139 41 34 = c 41 34 := (hid kn_150)
  have h_152 : c_139 41 34 = c 41 34 := (hid kn_150)
  refine v_cv c_184_31 km_8_301 rfl rfl (Nat.le_of_ble_eq_true rfl) ⟨⟨rfl, rfl⟩, Nat.le_of_ble_eq_true rfl, rfl⟩ (Nat.le_of_ble_eq_true rfl) (Nat.le_of_ble_eq_true rfl) (s_181 (a1 := 7) (a2 := y_129) (a3 := 0) (a4 := 0) (a5 := 0) hI_140 (show 0 ≤ 7 ∧ 7 ≤ 7 from ⟨of_decide_eq_true rfl, of_decide_eq_true rfl⟩) (show 0 ≤ y_129 ∧ y_129 ≤ 40 from ⟨hy_129.1, (q_6d11d81d2 h_132)⟩) (show 0 ≤ 0 ∧ 0 ≤ 5 from ⟨of_decide_eq_true rfl, of_decide_eq_true rfl⟩) (show 0 ≤ 0 ∧ 0 ≤ 999 from ⟨of_decide_eq_true rfl, of_decide_eq_true rfl⟩) (show 0 ≤ 0 ∧ 0 ≤ 5 from ⟨of_decide_eq_true rfl, of_decide_eq_true rfl⟩) ((q_f9c88a064 hq4)) (Or.inr (Or.inr (by first | (clear ho hq0 hq1 hq5 h_109 h_110 h_111 h_112 h_113 h_121 h_117 h_122 h_118 h_123 h_135 h_130 h_136 h_146 h_142 h_147 h_119 h_120 h_131 h_132 h_133 h_134 h_143 h_144 h_145; omega) | omega))) (Or.inl (by first | decide | omega)) (Or.inl (by first | decide | omega)) (Or.inl (by first | decide | omega)) (Or.inl (by first | decide | omega)) (Or.inl (by first | decide | omega)) (Or.inl (by first | decide | omega)) (Or.inr (by first | assumption | omega)) (fun c_153 hI_154 hF_155 h_156 h_157 h_158 => (bk_inl ?_)))
  have h_159 := ir_41_34 hI_154
  have h_160 : c_153 56 ((c_139 41 34)) = c_153 56 (c 41 34) := congrArg (c_153 56) (by first | assumption | exact Int.le_antisymm (by omega) (by omega))
  have h_161 := ir_56 hI_154 (c 41 34)
  refine q_aload_n c_184_34 rfl (v_cv c_184_35 km_8_131 rfl rfl (Nat.le_of_ble_eq_true rfl) ⟨⟨rfl, rfl⟩, Nat.le_of_ble_eq_true rfl, rfl⟩ (Nat.le_of_ble_eq_true rfl) (Nat.le_of_ble_eq_true rfl) (q_aload_n c_152_0 rfl ?_))
  have kn_162 : Hid (c_153 41 5 = c_139 41 5) := hF_155 41 5 (fun q => q.elim (fun h => absurd h.2 (ni rfl)) (fun h => absurd h.1 (nn rfl)))
  refine v_gi (z := 5) (v := c_139 41 5) c_152_1 kf_8_102 rfl (Nat.le_of_ble_eq_true rfl) rfl rfl (hid kn_162) (q_iconst c_152_4 ?_)
  by_cases h_163 : c_139 41 5 ≠ (-1)
  · refine v_ic_ne_t (t := 12) c_152_5 rfl ⟨h_163, ⟨(lel h_147.1 rfl), (ler h_147.2 rfl)⟩, of_decide_eq_true rfl, of_decide_eq_true rfl⟩ (q_iconst c_152_12 (v_zret c_152_13 rfl (of_decide_eq_true rfl) (bk_inl (v_if_eq_t (t := 57) c_184_38 rfl (of_decide_eq_true rfl) (q_aload_n c_184_57 rfl (v_bip c_184_58 (of_decide_eq_true rfl) ?_))))))
    have kn_164 : Hid (c_153 41 4 = c_139 41 4) := hF_155 41 4 (fun q => q.elim (fun h => absurd h.2 (ni rfl)) (fun h => absurd h.1 (nn rfl)))
    have h_165 : c_153 41 4 = c_139 41 4 := (hid kn_164)
    have kn_166 : Hid (c_139 41 3 = c 41 3) := (hF_141 41 3 qn_97fd72088).trans (hid kn_137)
    have kn_167 : Hid (c_153 41 3 = c 41 3) := (hF_155 41 3 (fun q => q.elim (fun h => absurd h.2 (ni rfl)) (fun h => absurd h.1 (nn rfl)))).trans (hid kn_166)
    have h_168 : c_153 41 3 = c 41 3 := (hid kn_167)
    have h_169 : c_153 41 5 = c_139 41 5 := (hid kn_162)
    refine v_cv c_184_60 km_8_229 rfl rfl (Nat.le_of_ble_eq_true rfl) ⟨⟨rfl, rfl⟩, Nat.le_of_ble_eq_true rfl, rfl⟩ (Nat.le_of_ble_eq_true rfl) (Nat.le_of_ble_eq_true rfl) (s_161 (a1 := 93) hI_154 (show 1 ≤ 93 ∧ 93 ≤ 255 from ⟨of_decide_eq_true rfl, of_decide_eq_true rfl⟩) (fun c_170 hI_171 hF_172 h_173 h_174 h_175 h_176 => (bk_inl ?_)))
    have h_177 := ir_41_4 hI_171
    have h_178 := ir_41_5 hI_171
    refine q_aload_n c_184_63 rfl (q_dup c_184_64 rfl ?_)
    have kn_179 : Hid (c_126 41 7 = c_114 41 7) := hF_128 41 7 qn_fb1117a24
    have kn_180 : Hid (c_139 41 7 = c_114 41 7) := (hF_141 41 7 qn_fb1117a24).trans (hid kn_179)
    have kn_181 : Hid (c_153 41 7 = c_114 41 7) := (hF_155 41 7 (fun q => q.elim (fun h => absurd h.2 (ni rfl)) (fun h => absurd h.1 (nn rfl)))).trans (hid kn_180)
    have kn_182 : Hid (c_170 41 7 = c_114 41 7) := (hF_172 41 7 qn_fb1117a24).trans (hid kn_181)
    refine v_gi (z := 7) (v := c_114 41 7) c_184_65 kf_8_142 rfl (Nat.le_of_ble_eq_true rfl) rfl rfl (hid kn_182) (q_iconst c_184_68 (v_isub (v := c_114 41 7 - 1) c_184_69 rfl (v_pi (z := 7) c_184_70 kf_8_142 rfl (Nat.le_of_ble_eq_true rfl) rfl rfl rfl (of_decide_eq_true rfl) (q_aload_n c_184_73 rfl (v_cv c_184_74 km_8_131 rfl rfl (Nat.le_of_ble_eq_true rfl) ⟨⟨rfl, rfl⟩, Nat.le_of_ble_eq_true rfl, rfl⟩ (Nat.le_of_ble_eq_true rfl) (Nat.le_of_ble_eq_true rfl) (q_aload_n c_152_0 rfl (v_gi (z := 5) (v := c_170 41 5) c_152_1 kf_8_102 rfl (Nat.le_of_ble_eq_true rfl) rfl rfl (up_n (ni rfl)) ?_)))))))
    refine q_iconst c_152_4 (v_ic_ne_t (t := 12) c_152_5 rfl ⟨(q_fc871f4a9 h_163 h_175 h_169), ⟨(lel h_178.1 rfl), (ler h_178.2 rfl)⟩, of_decide_eq_true rfl, of_decide_eq_true rfl⟩ (q_iconst c_152_12 (v_zret c_152_13 rfl (of_decide_eq_true rfl) (bk_inl (v_if_eq_t (t := 92) c_184_77 rfl (of_decide_eq_true rfl) (q_vret rfl rfl ?_))))))
    have hI_183 := iw_41_7 (v := c_114 41 7 - 1) hI_171 ⟨(q_35f921f70 h_113 h_118), (rgm_h h_122.2 (of_decide_eq_true rfl))⟩
    have kn_184 : Hid (c_170 41 34 = c_153 41 34) := hF_172 41 34 qn_14d4d2881
    have h_185 : (up c_170 41 7 (c_114 41 7 - 1)) 41 34 = c_153 41 34 := ((up_n (ni rfl)).trans (hid kn_184))
    have h_186 : (up c_170 41 7 (c_114 41 7 - 1)) 41 34 = c_153 41 34 := ((up_n (ni rfl)).trans (hid kn_184))
    have h_187 : (up c_170 41 7 (c_114 41 7 - 1)) 41 4 = c_170 41 4 := (up_n (ni rfl))
    have h_188 : (up c_170 41 7 (c_114 41 7 - 1)) 41 5 = c_170 41 5 := (up_n (ni rfl))
    have h_189 : (up c_170 41 7 (c_114 41 7 - 1)) 41 7 = c_114 41 7 - 1 := (up_e rfl)
    have hb9 : (up c_170 41 7 (c_114 41 7 - 1)) 41 5 = c_170 41 5 := (up_n (ni rfl))
    exact K (up c_170 41 7 (c_114 41 7 - 1)) hI_183 (fun a j hm => (up_b (Decidable.or_iff_not_imp_left.mpr (fun h1 h2 => hm (Or.inr (Or.inr (Or.inr (Or.inl ⟨Decidable.not_not.mp h1, h2⟩))))))).trans ((hF_172 a j (qv_b6152c67a hm)).trans ((hF_155 a j (fun q => q.elim (fun h => hm (Or.inr (Or.inr (Or.inr (Or.inr (Or.inl h)))))) (fun h => hm (Or.inr (Or.inr (Or.inr (Or.inr (Or.inr ⟨h.1, (Int.le_trans ((q_e074ea49a)) h.2)⟩)))))))).trans ((hF_141 a j (qv_b6152c67a hm)).trans ((hF_128 a j (qv_b6152c67a hm)).trans (hF_116 a j (qv_121bccc17 hm))))))) ((q_824687670 h_117 h_130 h_142 h_173 h_165)) ((q_65aaae687 h_118)) ((q_2d1567f86 h_117 h_120 h_130 h_133 h_142 h_144 h_157 h_158 h_173 h_151 h_165)) (Or.inr (Or.inl ((q_39d1415b2 h_163 h_175 h_178 h_169)))) ((q_f9c88a064 h_156)) ((q_8046a5716 h_157 h_158 h_151)) (fun h9 => absurd h9 (by omega))
  · refine v_ic_ne_f (t := 12) c_152_5 rfl (Decidable.not_not.mp h_163) (q_iconst c_152_8 (q_goto (t := 13) c_152_9 rfl (v_zret c_152_13 rfl (of_decide_eq_true rfl) (bk_inl (v_if_eq_f (t := 57) c_184_38 rfl (of_decide_eq_true rfl) (Wp_ls [(0, .ref 41), (1, vi y_129), (2, vi (c 41 34))] (lsub_cons rfl (lsub_cons rfl (lsub_cons rfl lsub_nil))) ?_))))))
    have kn_190 : Hid (c_153 41 4 = c_139 41 4) := hF_155 41 4 (fun q => q.elim (fun h => absurd h.2 (ni rfl)) (fun h => absurd h.1 (nn rfl)))
    have h_191 : c_153 41 4 = c_139 41 4 := (hid kn_190)
    have h_192 : c_153 41 5 = c_139 41 5 := (hid kn_162)
    have kn_193 : Hid (c_126 41 7 = c_114 41 7) := hF_128 41 7 qn_fb1117a24
    have kn_194 : Hid (c_139 41 7 = c_114 41 7) := (hF_141 41 7 qn_fb1117a24).trans (hid kn_193)
    have kn_195 : Hid (c_153 41 7 = c_114 41 7) := (hF_155 41 7 (fun q => q.elim (fun h => absurd h.2 (ni rfl)) (fun h => absurd h.1 (nn rfl)))).trans (hid kn_194)
    have h_196 : c_153 41 7 = c_114 41 7 := (hid kn_195)
    have h_197 : c_153 41 34 = c_153 41 34 := rfl
    exact (s_184_l (sc := sc) (d := d) hI ho hq0 hq1 hq2 hq3 hq4 hq5 hq6 H185 K 1214) c_153 y_129 (c 41 34) hI_154 (fun a j hm => (hF_155 a j (fun q => q.elim (fun h => hm (Or.inr (Or.inr (Or.inr (Or.inr (Or.inl h)))))) (fun h => hm (Or.inr (Or.inr (Or.inr (Or.inr (Or.inr ⟨h.1, (Int.le_trans ((q_e074ea49a)) h.2)⟩)))))))).trans ((hF_141 a j (qv_b6152c67a hm)).trans ((hF_128 a j (qv_b6152c67a hm)).trans (hF_116 a j (qv_121bccc17 hm))))) hy_129 ⟨h_112.1, (q_d3760c3a8 h_147 h_157 h_159 h_163 h_151)⟩ ((q_65c5ff97d h_147 h_163)) ((q_6c17673c2 h_145 h_147 h_163 h_138)) ((q_3fb8a741c h_117 h_130 h_142)) ⟨(q_b1a490af8 h_118), (q_ba09e3057 h_118 h_120 h_133 h_145 h_163 h_138)⟩ ((q_cd90f784c h_120 h_130 h_133 h_145 h_157 h_163 h_138 h_151)) ((q_f9c88a064 h_156)) ((q_cff8bd31e h_147 h_157 h_163 h_151)) (by first | assumption | omega) ((q_35b672115 h_147 h_157 h_163 h_151)) ((q_2af7a65a9 h_117 h_130 h_145 h_147 h_163 h_138)) (ap_nil (by omega)) (by omega)
