/-! ===== contracts 14 ===== -/
theorem q_35de64c77 {x0 : Int} (f0 : x0 = 1) : x0 < 4 := by omega
theorem q_e2571c9b4 {x0 : Int} (f0 : x0 = 1) : x0 = 1 := by omega
theorem q_457dde627 {x0 x1 : Int} (f0 : 0 ≤ x0 ∧ x0 ≤ 4) (f1 : (x1 = 0) ∨ (x1 ≥ 0 ∧ x1 ≤ x0 - 1)) : x1 ≤ 40 := by omega
theorem q_b3cc29c66 {x0 x1 : Int} (f0 : 0 ≤ x0 ∧ x0 ≤ 4) (f1 : (x1 = 0) ∨ (x1 ≥ 0 ∧ x1 ≤ x0 - 1)) : x1 ≤ 3 := by omega
theorem q_817913de4 {x0 : Int} (f0 : x0 = 1) : ¬ x0 = 7 := by omega
theorem q_aa606e377 {x0 x1 x2 x3 x4 x5 x6 x7 x8 : Int} (f0 : (x0 ≥ x1)) (f1 : (x2 ≥ x3)) (f2 : (x4 ≥ x0)) (f3 : (x5 ≥ x4)) (f4 : (x6 ≥ x5)) (f5 : (x7 ≥ x6)) (f6 : (x8 ≥ x7)) (f7 : x3 = x8) : x1 ≤ x2 := by omega
theorem q_dbb87eeb4 {x0 x1 x2 x3 x4 x5 x6 x7 x8 x9 x10 x11 x12 x13 x14 x15 x16 x17 x18 x19 x20 x21 x22 x23 : Int} (f0 : (x0 ≥ x1)) (f1 : (x2 < (-1)) ∨ (x2 > (-1)) ∨ (x3 = x4 + 5 ∧ x5 = x6)) (f2 : (x2 = (-1)) ∨ (x3 = x4)) (f3 : (x7 ≥ x8)) (f4 : (x9 ≥ x0)) (f5 : (x10 ≥ x9)) (f6 : (x11 < (-1)) ∨ (x11 > (-1)) ∨ (x10 > x9 ∧ x10 ≤ x12 ∧ x13 = (-1))) (f7 : (x14 ≥ x10)) (f8 : (x15 < (-1)) ∨ (x15 > (-1)) ∨ (x14 > x10 ∧ x14 ≤ x16 ∧ x11 = (-1))) (f9 : (x17 ≥ x14)) (f10 : (x18 < (-1)) ∨ (x18 > (-1)) ∨ (x17 > x14 ∧ x17 ≤ x19 ∧ x15 = (-1))) (f11 : (x20 ≥ x17)) (f12 : (x18 = (-1)) ∨ (x2 = x18)) (f13 : x4 = x21) (f14 : x8 = x20) (f15 : x12 = x22) (f16 : x13 = x23) (f17 : x16 = x22) (f18 : x19 = x22) : 5 * x1 + 3 * x3 ≤ 3 * x21 + 5 * x7 := by omega
theorem q_845f9d3ce {x0 x1 x2 x3 x4 x5 x6 x7 x8 x9 x10 x11 x12 x13 x14 x15 : Int} (f0 : (x0 ≤ x1) ∨ (x0 = x2)) (f1 : (x3 ≤ x4) ∨ (x3 = x5)) (f2 : (x6 ≤ x7) ∨ (x6 = x0)) (f3 : (x8 ≤ x9) ∨ (x8 = x6)) (f4 : (x10 ≤ x11) ∨ (x10 = x8)) (f5 : (x12 ≤ x13) ∨ (x12 = x10)) (f6 : (x14 ≤ x15) ∨ (x14 = x12)) (f7 : (x2 ≤ x1)) (f8 : x4 = x1) (f9 : x5 = x14) (f10 : x7 = x1) (f11 : x9 = x1) (f12 : x11 = x1) (f13 : x13 = x1) (f14 : x15 = x1) : x3 ≤ x1 := by omega
theorem q_1f022678a {x0 x1 x2 x3 x4 x5 : Int} (f0 : (x0 < (-1)) ∨ (x0 > (-1)) ∨ (x1 = x2 + 5 ∧ x3 = x4)) (f1 : (x0 = (-1)) ∨ (x1 = x2)) (f2 : x2 = x5) : x5 ≤ x1 := by omega
theorem q_82b471caa {x0 : Int} (f0 : x0 ≥ 4) : ¬ x0 = 1 := by omega
theorem q_1f6cc4008 {x0 : Int} (f0 : x0 ≥ 4) : ¬ x0 = 3 := by omega
theorem q_137895ac1 {x0 : Int} (f0 : x0 ≥ 4) : 0 ≤ x0 := by omega
theorem q_fa01b37a1 {x0 : Int} (f0 : x0 ≥ 4) : ¬ x0 = 0 := by omega
theorem q_0906e8e8d {x0 : Int} (f0 : x0 ≥ 4) : ¬ x0 = 2 := by omega
theorem q_c7a6670ed {x0 : Int} (f0 : x0 ≠ 4) (f1 : x0 ≥ 4) : ¬ x0 = 4 := by omega
theorem q_5b38c9290 {x0 x1 x2 x3 x4 x5 : Int} (f0 : (x0 ≥ x1)) (f1 : (x2 ≥ x3)) (f2 : (x4 ≥ x5)) (f3 : (x3 ≥ x0)) (f4 : x5 = x2) : x1 ≤ x4 := by omega
theorem q_4c1a6dd92 {x0 x1 x2 x3 x4 x5 x6 x7 x8 x9 : Int} (f0 : (x0 ≤ x1) ∨ (x0 = x2)) (f1 : (x3 ≤ x4) ∨ (x3 = x5)) (f2 : (x6 ≤ x7) ∨ (x6 = x8)) (f3 : (x5 ≤ x9) ∨ (x5 = x0)) (f4 : (x2 ≤ x1)) (f5 : x4 = x1) (f6 : x7 = x1) (f7 : x8 = x3) (f8 : x9 = x1) : x6 ≤ x1 := by omega
theorem q_56243d016 {x0 : Int} (f0 : x0 ≠ 0) : ¬ x0 = 0 := by omega
theorem q_073ee9b25 {x0 : Int} (f0 : ¬ (x0 ≥ 4)) (f1 : x0 ≠ 3) : ¬ x0 = 3 := by omega
theorem q_f6152d285 {x0 : Int} (f0 : ¬ (x0 ≥ 4)) : ¬ x0 = 4 := by omega
theorem q_71dc12fe2 {x0 : Int} (f0 : ¬ (x0 ≥ 4)) : ¬ x0 = 5 := by omega
theorem q_68ebfa386 {x0 : Int} (f0 : ¬ (x0 ≥ 4)) : ¬ x0 = 7 := by omega
theorem q_f9fea031a {x0 x1 x2 x3 x4 x5 x6 : Int} (f0 : (x0 ≥ x1)) (f1 : (x2 ≥ x3)) (f2 : (x4 ≥ x2)) (f3 : (x5 ≥ x6)) (f4 : (x3 ≥ x0)) (f5 : x6 = x4) : x1 ≤ x5 := by omega
theorem q_e42419428 {x0 x1 x2 x3 x4 x5 x6 x7 x8 x9 x10 x11 : Int} (f0 : (x0 ≤ x1) ∨ (x0 = x2)) (f1 : (x3 ≤ x4) ∨ (x3 = x5)) (f2 : (x6 ≤ x7) ∨ (x6 = x3)) (f3 : (x8 ≤ x9) ∨ (x8 = x10)) (f4 : (x5 ≤ x11) ∨ (x5 = x0)) (f5 : (x2 ≤ x1)) (f6 : x4 = x1) (f7 : x7 = x1) (f8 : x9 = x1) (f9 : x10 = x6) (f10 : x11 = x1) : x8 ≤ x1 := by omega
theorem q_e215efd56 {x0 : Int} (f0 : ¬ (x0 ≠ 3)) : ¬ x0 = 1 := by omega
theorem q_1d1177327 {x0 : Int} (f0 : ¬ (x0 ≠ 3)) : 0 ≤ x0 := by omega
theorem q_4abc9fb0a {x0 : Int} (f0 : (x0 = 0) ∨ (x0 ≥ 1 ∧ x0 ≤ 999)) : x0 ≤ 999 := by omega
theorem q_488511fb3 {x0 : Int} (f0 : ¬ (x0 ≠ 3)) : ¬ x0 = 0 := by omega
theorem q_81bf6df21 {x0 : Int} (f0 : ¬ (x0 ≠ 3)) : ¬ x0 = 2 := by omega
theorem q_b19110ff6 {x0 x1 x2 x3 x4 x5 x6 x7 : Int} (f0 : (x0 ≥ x1)) (f1 : (x2 ≥ x3)) (f2 : (x4 ≥ x2)) (f3 : (x5 ≥ x4)) (f4 : (x6 ≥ x7)) (f5 : (x3 ≥ x0)) (f6 : x7 = x5) : x1 ≤ x6 := by omega
theorem q_6a6ad27d8 {x0 x1 x2 x3 x4 x5 x6 x7 x8 x9 x10 x11 x12 x13 x14 x15 x16 x17 x18 x19 x20 x21 : Int} (f0 : (x0 ≥ x1)) (f1 : (x2 ≥ x3)) (f2 : (x4 < (-1)) ∨ (x4 > (-1)) ∨ (x2 > x3 ∧ x2 ≤ x5 ∧ x6 = (-1))) (f3 : (x7 ≥ x2)) (f4 : (x8 < (-1)) ∨ (x8 > (-1)) ∨ (x7 > x2 ∧ x7 ≤ x9 ∧ x4 = (-1))) (f5 : (x10 ≥ x7)) (f6 : (x11 < (-1)) ∨ (x11 > (-1)) ∨ (x10 > x7 ∧ x10 ≤ x12 ∧ x8 = (-1))) (f7 : (x11 < (-1)) ∨ (x11 > (-1)) ∨ (x13 = x14 + 5 ∧ x15 = x16)) (f8 : (x11 = (-1)) ∨ (x13 = x14)) (f9 : (x17 ≥ x18)) (f10 : (x3 ≥ x0)) (f11 : x5 = x19) (f12 : x6 = x20) (f13 : x9 = x19) (f14 : x12 = x19) (f15 : x14 = x21) (f16 : x18 = x10) : 5 * x1 + 3 * x13 ≤ 3 * x21 + 5 * x17 := by omega
theorem q_fb8025653 {x0 x1 x2 x3 x4 x5 x6 x7 x8 x9 x10 x11 x12 x13 : Int} (f0 : (x0 ≤ x1) ∨ (x0 = x2)) (f1 : (x3 ≤ x4) ∨ (x3 = x5)) (f2 : (x6 ≤ x7) ∨ (x6 = x3)) (f3 : (x8 ≤ x9) ∨ (x8 = x6)) (f4 : (x10 ≤ x11) ∨ (x10 = x12)) (f5 : (x5 ≤ x13) ∨ (x5 = x0)) (f6 : (x2 ≤ x1)) (f7 : x4 = x1) (f8 : x7 = x1) (f9 : x9 = x1) (f10 : x11 = x1) (f11 : x12 = x8) (f12 : x13 = x1) : x10 ≤ x1 := by omega
theorem q_f264c8061 {x0 : Int} (f0 : ¬ (x0 ≠ 4)) : 4 ≤ x0 := by omega
theorem q_275796c64 {x0 : Int} (f0 : ¬ (x0 ≠ 4)) : ¬ x0 = 1 := by omega
theorem q_2dbeaab3f {x0 : Int} (f0 : ¬ (x0 ≠ 4)) : ¬ x0 = 3 := by omega
theorem q_68da7af7f {x0 : Int} (f0 : ¬ (x0 ≠ 4)) : 0 ≤ x0 := by omega
theorem q_69e9f4ea1 {x0 : Int} (f0 : ¬ (x0 ≠ 4)) : ¬ x0 = 0 := by omega
theorem q_ae7ba78a4 {x0 : Int} (f0 : ¬ (x0 ≠ 4)) : ¬ x0 = 2 := by omega
theorem q_1b518e3e9 {x0 : Int} (f0 : ¬ (x0 ≠ 4)) : ¬ x0 = 5 := by omega
theorem q_61b06fbf7 {x0 : Int} (f0 : ¬ (x0 ≠ 4)) : ¬ x0 = 7 := by omega
theorem q_64c2af1c6 {x0 x1 x2 x3 x4 x5 : Int} (f0 : (x0 ≥ x1)) (f1 : (x2 ≥ x3)) (f2 : (x3 ≥ x0)) (f3 : (x4 ≥ x5)) (f4 : x5 = x2) : x1 ≤ x4 := by omega
theorem q_1cbdd7dc3 {x0 x1 x2 x3 x4 x5 x6 x7 x8 x9 : Int} (f0 : (x0 ≤ x1) ∨ (x0 = x2)) (f1 : (x3 ≤ x4) ∨ (x3 = x5)) (f2 : (x5 ≤ x6) ∨ (x5 = x0)) (f3 : (x7 ≤ x8) ∨ (x7 = x9)) (f4 : (x2 ≤ x1)) (f5 : x4 = x1) (f6 : x6 = x1) (f7 : x8 = x1) (f8 : x9 = x3) : x7 ≤ x1 := by omega
theorem q_326a9c436 {x0 : Int} (f0 : ¬ (x0 ≠ 0)) : x0 < 4 := by omega
theorem q_9c5620e1f {x0 : Int} (f0 : ¬ (x0 ≠ 0)) : ¬ x0 = 1 := by omega
theorem q_471b3f52b {x0 : Int} (f0 : ¬ (x0 ≠ 0)) : ¬ x0 = 3 := by omega
theorem q_c627fad14 {x0 : Int} (f0 : ¬ (x0 ≠ 0)) : 0 ≤ x0 := by omega
theorem q_43ee89330 {x0 : Int} (f0 : ¬ (x0 ≠ 0)) : ¬ x0 = 2 := by omega
theorem q_b7c71017b {x0 : Int} (f0 : ¬ (x0 ≠ 0)) : ¬ x0 = 4 := by omega
theorem q_563bbb240 {x0 : Int} (f0 : ¬ (x0 ≠ 0)) : ¬ x0 = 5 := by omega
theorem q_78f4a68c8 {x0 : Int} (f0 : ¬ (x0 ≠ 0)) : ¬ x0 = 7 := by omega
theorem q_04b113730 {x0 x1 x2 x3 x4 x5 x6 : Int} (f0 : (x0 ≥ x1)) (f1 : (x2 ≥ x0)) (f2 : (x3 ≥ x2)) (f3 : (x4 ≥ x3)) (f4 : (x5 ≥ x6)) (f5 : x6 = x4) : x1 ≤ x5 := by omega
theorem q_247a26009 {x0 x1 x2 x3 x4 x5 x6 x7 x8 x9 x10 x11 : Int} (f0 : (x0 ≤ x1) ∨ (x0 = x2)) (f1 : (x3 ≤ x4) ∨ (x3 = x0)) (f2 : (x5 ≤ x6) ∨ (x5 = x3)) (f3 : (x7 ≤ x8) ∨ (x7 = x5)) (f4 : (x9 ≤ x10) ∨ (x9 = x11)) (f5 : (x2 ≤ x1)) (f6 : x4 = x1) (f7 : x6 = x1) (f8 : x8 = x1) (f9 : x10 = x1) (f10 : x11 = x7) : x9 ≤ x1 := by omega
theorem q_8018c4608 {x0 : Int} (f0 : ¬ (x0 ≠ 6)) : 4 ≤ x0 := by omega
theorem q_39e4e74bc {x0 : Int} (f0 : ¬ (x0 ≠ 6)) : ¬ x0 = 1 := by omega
theorem q_080f350ec {x0 : Int} (f0 : ¬ (x0 ≠ 6)) : ¬ x0 = 3 := by omega
theorem q_aa17faf97 {x0 : Int} (f0 : ¬ (x0 ≠ 6)) : 0 ≤ x0 := by omega
theorem q_23505497d {x0 : Int} (f0 : ¬ (x0 ≠ 6)) : ¬ x0 = 0 := by omega
theorem q_671577633 {x0 : Int} (f0 : ¬ (x0 ≠ 6)) : ¬ x0 = 2 := by omega
theorem q_9ce06fa3c {x0 : Int} (f0 : ¬ (x0 ≠ 6)) : ¬ x0 = 4 := by omega
theorem q_5382f5b2b {x0 : Int} (f0 : ¬ (x0 ≠ 6)) : ¬ x0 = 5 := by omega
theorem q_34c6018dc {x0 : Int} (f0 : ¬ (x0 ≠ 6)) : ¬ x0 = 7 := by omega
theorem q_eaefcf06b {x0 x1 x2 x3 x4 : Int} (f0 : (x0 ≥ x1)) (f1 : (x2 ≥ x0)) (f2 : (x3 ≥ x4)) (f3 : x4 = x2) : x1 ≤ x3 := by omega
theorem q_578ccb610 {x0 x1 x2 x3 x4 x5 x6 x7 : Int} (f0 : (x0 ≤ x1) ∨ (x0 = x2)) (f1 : (x3 ≤ x4) ∨ (x3 = x0)) (f2 : (x5 ≤ x6) ∨ (x5 = x7)) (f3 : (x2 ≤ x1)) (f4 : x4 = x1) (f5 : x6 = x1) (f6 : x7 = x3) : x5 ≤ x1 := by omega
theorem q_385a9c048 {x0 x1 x2 : Int} (f0 : (x0 ≤ x1) ∨ (x0 = x2)) (f1 : (x2 ≤ x1)) : x0 ≤ x1 := by omega
theorem q_563501041 {x0 x1 x2 : Int} (f0 : (x0 ≥ x1)) (f1 : (3 * x2 ≤ 5 * x1)) : 3 * x2 ≤ 5 * x0 := by omega
theorem q_491caf385 {x0 x1 x2 x3 : Int} (f0 : (x0 = 0) ∨ (x1 < x2)) (f1 : (x3 < 0) ∨ (x0 > 1023)) (f2 : ¬ (x3 ≠ 7)) : x1 ≤ x2 - 1 := by omega
theorem q_3fc299aa4 {x0 x1 x2 x3 x4 x5 x6 : Int} (f0 : (x0 ≥ x1)) (f1 : (3 * x2 + 5 * x0 ≤ 5 * x3 + 3 * x4)) (f2 : (x2 ≥ x4)) (f3 : (x5 ≥ x3)) (f4 : x4 = x6) : x1 ≤ x5 := by omega
theorem q_bbf5f0e52 {x0 x1 x2 x3 x4 x5 x6 : Int} (f0 : (x0 ≥ x1)) (f1 : (3 * x2 + 5 * x0 ≤ 5 * x3 + 3 * x4)) (f2 : (x5 ≥ x3)) (f3 : x4 = x6) : 5 * x1 + 3 * x2 ≤ 3 * x6 + 5 * x5 := by omega
theorem qv_d128e927b {a : Nat} {j : Int} {t0 : Int} (hm : ¬ ((a = 41 ∧ j = 4) ∨ (a = 41 ∧ j = 5) ∨ (a = 41 ∧ j = 6) ∨ (a = 41 ∧ j = 7) ∨ (a = 41 ∧ j = 34) ∨ (a = 56 ∧ j ≥ t0))) : ¬ ((a = 41 ∧ j = 5) ∨ (a = 41 ∧ j = 6)) := (fun q => q.elim (fun h => hm (Or.inr (Or.inl h))) (fun h => hm (Or.inr (Or.inr (Or.inl h)))))
theorem q_a2672c344 {x0 x1 x2 x3 : Int} (f0 : (x0 ≥ x1)) (f1 : (x2 ≥ x3)) (f2 : x3 = x0) : x1 ≤ x2 := by omega
theorem q_961aa4817 {x0 x1 x2 x3 x4 : Int} (f0 : (x0 ≥ x1)) (f1 : (x2 ≥ x3)) (f2 : x3 = x0) : 3 * x4 + 5 * x1 ≤ 3 * x4 + 5 * x2 := by omega
theorem q_5af57fff9 {x0 x1 : Int} (f0 : (x0 ≠ (-1))) (f1 : (x0 = (-1)) ∨ (x1 = x0)) (f2 : (-1) ≤ x1 ∧ x1 ≤ 605) : (-1) < x1 := by omega
theorem c_185_0 : mLk 185 0 = some (.aload_n 0, 1) := rfl
theorem c_185_1 : mLk 185 1 = some (.invokevirtual 214, 3) := rfl
theorem c_185_4 : mLk 185 4 = some (.invokestatic 308, 3) := rfl
theorem c_185_7 : mLk 185 7 = some (.istore_n 1, 1) := rfl
theorem c_185_8 : mLk 185 8 = some (.iload_n 1, 1) := rfl
theorem c_185_9 : mLk 185 9 = some (.iconst (-1), 1) := rfl
theorem c_185_10 : mLk 185 10 = some (.if_icmp .ne 15, 3) := rfl
theorem c_185_25 : mLk 185 25 = some (.iload_n 1, 1) := rfl
theorem c_185_26 : mLk 185 26 = some (.bipush 7, 2) := rfl
theorem c_185_28 : mLk 185 28 = some (.if_icmp .ne 10, 3) := rfl
theorem c_185_38 : mLk 185 38 = some (.aload_n 0, 1) := rfl
theorem c_185_39 : mLk 185 39 = some (.invokevirtual 223, 3) := rfl
theorem c_185_42 : mLk 185 42 = some (.iload_n 1, 1) := rfl
theorem c_185_43 : mLk 185 43 = some (.bipush 6, 2) := rfl
theorem c_185_45 : mLk 185 45 = some (.if_icmp .ne 7, 3) := rfl
theorem c_185_52 : mLk 185 52 = some (.iload_n 1, 1) := rfl
theorem c_185_53 : mLk 185 53 = some (.ifCond .ne 17, 3) := rfl
theorem c_185_70 : mLk 185 70 = some (.iload_n 1, 1) := rfl
theorem c_185_71 : mLk 185 71 = some (.iconst 1, 1) := rfl
theorem c_185_72 : mLk 185 72 = some (.if_icmp .eq 8, 3) := rfl
theorem c_185_80 : mLk 185 80 = some (.aload_n 0, 1) := rfl
theorem c_185_81 : mLk 185 81 = some (.iconst 0, 1) := rfl
theorem c_185_82 : mLk 185 82 = some (.aload_n 0, 1) := rfl
theorem c_185_83 : mLk 185 83 = some (.getfield 163, 3) := rfl
theorem c_185_86 : mLk 185 86 = some (.iconst 1, 1) := rfl
theorem c_185_87 : mLk 185 87 = some (.isub, 1) := rfl
theorem c_185_88 : mLk 185 88 = some (.invokevirtual 199, 3) := rfl
theorem c_185_91 : mLk 185 91 = some (.goto 7, 3) := rfl
theorem c_185_98 : mLk 185 98 = some (.istore_n 2, 1) := rfl
theorem c_185_99 : mLk 185 99 = some (.iload_n 1, 1) := rfl
theorem c_185_100 : mLk 185 100 = some (.iconst 4, 1) := rfl
theorem c_185_101 : mLk 185 101 = some (.if_icmp .ge 10, 3) := rfl
theorem c_185_104 : mLk 185 104 = some (.aload_n 0, 1) := rfl
theorem c_185_105 : mLk 185 105 = some (.invokevirtual 314, 3) := rfl
theorem c_185_108 : mLk 185 108 = some (.goto 4, 3) := rfl
theorem c_185_112 : mLk 185 112 = some (.istore_n 3, 1) := rfl
theorem c_185_113 : mLk 185 113 = some (.iload_n 1, 1) := rfl
theorem c_185_114 : mLk 185 114 = some (.iconst 1, 1) := rfl
theorem c_185_115 : mLk 185 115 = some (.if_icmp .ne 10, 3) := rfl
theorem c_185_118 : mLk 185 118 = some (.aload_n 0, 1) := rfl
theorem c_185_119 : mLk 185 119 = some (.invokevirtual 314, 3) := rfl
theorem c_185_122 : mLk 185 122 = some (.goto 20, 3) := rfl
theorem c_185_142 : mLk 185 142 = some (.istore 4, 2) := rfl
theorem c_185_144 : mLk 185 144 = some (.aload_n 0, 1) := rfl
theorem c_185_145 : mLk 185 145 = some (.iload_n 1, 1) := rfl
theorem c_185_146 : mLk 185 146 = some (.iload_n 2, 1) := rfl
theorem c_185_147 : mLk 185 147 = some (.iload_n 3, 1) := rfl
theorem c_185_148 : mLk 185 148 = some (.iload 4, 2) := rfl
theorem c_185_150 : mLk 185 150 = some (.iload_n 1, 1) := rfl
theorem c_185_151 : mLk 185 151 = some (.iconst 1, 1) := rfl
theorem c_185_152 : mLk 185 152 = some (.if_icmp .ne 10, 3) := rfl
theorem c_185_155 : mLk 185 155 = some (.aload_n 0, 1) := rfl
theorem c_185_156 : mLk 185 156 = some (.invokevirtual 314, 3) := rfl
theorem c_185_159 : mLk 185 159 = some (.goto 4, 3) := rfl
theorem c_185_163 : mLk 185 163 = some (.invokevirtual 301, 3) := rfl
theorem c_185_166 : mLk 185 166 = some (.aload_n 0, 1) := rfl
theorem c_185_167 : mLk 185 167 = some (.bipush 59, 2) := rfl
theorem c_185_169 : mLk 185 169 = some (.invokevirtual 229, 3) := rfl
theorem c_185_75 : mLk 185 75 = some (.iload_n 1, 1) := rfl
theorem c_185_76 : mLk 185 76 = some (.iconst 4, 1) := rfl
theorem c_185_77 : mLk 185 77 = some (.if_icmp .ne 17, 3) := rfl
theorem c_185_94 : mLk 185 94 = some (.aload_n 0, 1) := rfl
theorem c_185_95 : mLk 185 95 = some (.invokevirtual 314, 3) := rfl
theorem c_185_111 : mLk 185 111 = some (.iconst 0, 1) := rfl
theorem c_185_125 : mLk 185 125 = some (.iload_n 1, 1) := rfl
theorem c_185_126 : mLk 185 126 = some (.iconst 3, 1) := rfl
theorem c_185_127 : mLk 185 127 = some (.if_icmp .ne 14, 3) := rfl
theorem c_185_141 : mLk 185 141 = some (.iconst 0, 1) := rfl
theorem c_185_162 : mLk 185 162 = some (.iconst 0, 1) := rfl
theorem c_185_130 : mLk 185 130 = some (.aload_n 0, 1) := rfl
theorem c_185_131 : mLk 185 131 = some (.iconst 1, 1) := rfl
theorem c_185_132 : mLk 185 132 = some (.sipush 999, 3) := rfl
theorem c_185_135 : mLk 185 135 = some (.invokevirtual 199, 3) := rfl
theorem c_185_138 : mLk 185 138 = some (.goto 4, 3) := rfl
theorem c_185_56 : mLk 185 56 = some (.aload_n 0, 1) := rfl
theorem c_185_57 : mLk 185 57 = some (.iconst 0, 1) := rfl
theorem c_185_58 : mLk 185 58 = some (.aload_n 0, 1) := rfl
theorem c_185_59 : mLk 185 59 = some (.getfield 160, 3) := rfl
theorem c_185_62 : mLk 185 62 = some (.iconst 1, 1) := rfl
theorem c_185_63 : mLk 185 63 = some (.isub, 1) := rfl
theorem c_185_64 : mLk 185 64 = some (.invokevirtual 199, 3) := rfl
theorem c_185_67 : mLk 185 67 = some (.goto 31, 3) := rfl
theorem c_185_48 : mLk 185 48 = some (.iconst 0, 1) := rfl
theorem c_185_49 : mLk 185 49 = some (.goto 49, 3) := rfl
theorem c_185_31 : mLk 185 31 = some (.aload_n 0, 1) := rfl
theorem c_185_32 : mLk 185 32 = some (.invokevirtual 311, 3) := rfl
theorem c_185_35 : mLk 185 35 = some (.goto 131, 3) := rfl
theorem c_185_13 : mLk 185 13 = some (.aload_n 0, 1) := rfl
theorem c_185_14 : mLk 185 14 = some (.iconst 1, 1) := rfl
theorem c_185_15 : mLk 185 15 = some (.aload_n 0, 1) := rfl
theorem c_185_16 : mLk 185 16 = some (.getfield 108, 3) := rfl
theorem c_185_19 : mLk 185 19 = some (.invokevirtual 138, 3) := rfl
theorem c_185_22 : mLk 185 22 = some (.goto 144, 3) := rfl
theorem km_8_311 : a_lk (kM 8) 311 = some (0, 184) := rfl
theorem km_8_314 : a_lk (kM 8) 314 = some (0, 183) := rfl
set_option maxRecDepth 100000 in
set_option maxHeartbeats 4000000 in
theorem s_185 {sc : List Int32} {e : Int} {d u P Q : Nat} {c : ME} {o : Int} {Z : AR → Prop} (hI : Iv u e P Q c) (ho : 0 ≤ o ∧ o ≤ 6) (hq0 : (c 41 5 = (-1))) (hq1 : (c 41 4 ≤ c 41 3)) (hq2 : (c 41 3 ≤ 150)) (hq3 : (3 * c 41 34 ≤ 5 * c 41 4)) (hq4 : (((c 41 34) % 5) = 0)) (hq5 : (c 41 7 = o)) (H185 : ∀ (d9 : Nat) (c : ME) (Z : AR → Prop), d ≤ d9 → o + 1 ≤ 6 → Iv u e P Q c → ((c 41 5 = (-1))) → ((c 41 4 ≤ c 41 3)) → ((c 41 3 ≤ 150)) → ((3 * c 41 34 ≤ 5 * c 41 4)) → ((((c 41 34) % 5) = 0)) → (c 41 7 = o + 1) → (∀ c2 : ME, Iv u e P Q c2 → (∀ (a : Nat) (j : Int), ¬ ((a = 41 ∧ j = 4) ∨ (a = 41 ∧ j = 5) ∨ (a = 41 ∧ j = 6) ∨ (a = 41 ∧ j = 7) ∨ (a = 41 ∧ j = 34) ∨ (a = 56 ∧ j ≥ c 41 34)) → c2 a j = c a j) → ((c2 41 4 ≥ c 41 4)) → ((c2 41 7 = c 41 7)) → ((5 * c 41 4 + 3 * c2 41 34 ≤ 3 * c 41 34 + 5 * c2 41 4)) → ((c2 41 5 < (-1)) ∨ (c2 41 5 > (-1)) ∨ (c2 41 4 ≤ c 41 3 ∧ c2 41 4 > c 41 4)) → ((((c2 41 34) % 5) = 0)) → ((c2 41 34 ≥ c 41 34)) → (c2 41 5 = -1 → Ap c2 56 (c 41 34) (c2 41 34)) → Z (.inl none, Wd P Q P P c2, 0, 0)) → Wp sc (d9 + 12) 185 0 [(0, .ref 41)] [] (Wd P Q P P c) 0 0 Z) (K : ∀ (c2 : ME), Iv u e P Q c2 → (∀ (a : Nat) (j : Int), ¬ ((a = 41 ∧ j = 4) ∨ (a = 41 ∧ j = 5) ∨ (a = 41 ∧ j = 6) ∨ (a = 41 ∧ j = 7) ∨ (a = 41 ∧ j = 34) ∨ (a = 56 ∧ j ≥ c 41 34)) → c2 a j = c a j) → ((c2 41 4 ≥ c 41 4)) → ((c2 41 7 = c 41 7)) → ((5 * c 41 4 + 3 * c2 41 34 ≤ 3 * c 41 34 + 5 * c2 41 4)) → ((c2 41 5 < (-1)) ∨ (c2 41 5 > (-1)) ∨ (c2 41 4 ≤ c 41 3 ∧ c2 41 4 > c 41 4)) → ((((c2 41 34) % 5) = 0)) → ((c2 41 34 ≥ c 41 34)) → (c2 41 5 = -1 → Ap c2 56 (c 41 34) (c2 41 34)) → Z (.inl (none), Wd P Q P P c2, 0, 0)) : Wp sc (d + 14) 185 0 [(0, .ref 41)] [] (Wd P Q P P c) 0 0 Z := by
  have hP := iv_P hI
  have hQ := iv_Q hI
  have h_1 := ir_41_5 hI
  have h_2 := ir_41_3 hI
  have h_3 := ir_41_4 hI
  have h_4 := ir_41_34 hI
  have h_5 := ir_41_7 hI
  refine q_aload_n c_185_0 rfl (v_cv c_185_1 km_8_214 rfl rfl (Nat.le_of_ble_eq_true rfl) ⟨⟨rfl, rfl⟩, Nat.le_of_ble_eq_true rfl, rfl⟩ (Nat.le_of_ble_eq_true rfl) (Nat.le_of_ble_eq_true rfl) (s_157 hI (fun c_6 y_9 hI_7 hF_8 hy_9 h_10 h_11 h_12 h_13 h_14 => (bk_inl ?_))))
  have h_15 := ir_41_4 hI_7
  have h_16 := ir_43 hI (c_6 41 4)
  have h_17 := ir_43 hI (c_6 41 4 + 1)
  have h_18 := ir_43 hI (c_6 41 4 + 2)
  refine q_call c_185_4 rfl rfl rfl (s_182 (a0 := y_9) hI_7 (show (-2147483648) ≤ y_9 ∧ y_9 ≤ 2147483647 from hy_9) (fun y_19 hy_19 h_20 => (bk_inl (q_istore_n c_185_7 (Nat.le_of_ble_eq_true rfl) (q_iload_n c_185_8 rfl (q_iconst c_185_9 ?_))))))
  by_cases h_21 : y_19 ≠ (-1)
  · refine v_ic_ne_t (t := 25) c_185_10 rfl ⟨h_21, ⟨(lel hy_19.1 rfl), (ler hy_19.2 rfl)⟩, of_decide_eq_true rfl, of_decide_eq_true rfl⟩ (q_iload_n c_185_25 rfl (v_bip c_185_26 (of_decide_eq_true rfl) ?_))
    by_cases h_22 : y_19 ≠ 7
    · refine v_ic_ne_t (t := 38) c_185_28 rfl ⟨h_22, ⟨(lel hy_19.1 rfl), (ler hy_19.2 rfl)⟩, of_decide_eq_true rfl, of_decide_eq_true rfl⟩ (q_aload_n c_185_38 rfl ?_)
      have kn_23 : Hid (c_6 41 3 = c 41 3) := hF_8 41 3 (fun h => absurd h.2 (ni rfl))
      have h_24 : c_6 41 3 = c 41 3 := (hid kn_23)
      have kn_25 : Hid (c_6 43 (c_6 41 4) = c 43 (c_6 41 4)) := hF_8 43 (c_6 41 4) (fun h => absurd h.1 (nn rfl))
      have h_26 : c_6 43 (c_6 41 4) = c 43 (c_6 41 4) := (hid kn_25)
      have kn_27 : Hid (c_6 43 (c_6 41 4 + 1) = c 43 (c_6 41 4 + 1)) := hF_8 43 (c_6 41 4 + 1) (fun h => absurd h.1 (nn rfl))
      have h_28 : c_6 43 (c_6 41 4 + 1) = c 43 (c_6 41 4 + 1) := (hid kn_27)
      have kn_29 : Hid (c_6 43 (c_6 41 4 + 2) = c 43 (c_6 41 4 + 2)) := hF_8 43 (c_6 41 4 + 2) (fun h => absurd h.1 (nn rfl))
      have h_30 : c_6 43 (c_6 41 4 + 2) = c 43 (c_6 41 4 + 2) := (hid kn_29)
      refine v_cv c_185_39 km_8_223 rfl rfl (Nat.le_of_ble_eq_true rfl) ⟨⟨rfl, rfl⟩, Nat.le_of_ble_eq_true rfl, rfl⟩ (Nat.le_of_ble_eq_true rfl) (Nat.le_of_ble_eq_true rfl) (s_159 hI_7 (fun c_31 hI_32 hF_33 h_34 h_35 h_36 h_37 => (bk_inl ?_)))
      have h_38 := ir_41_4 hI_32
      refine q_iload_n c_185_42 rfl (v_bip c_185_43 (of_decide_eq_true rfl) ?_)
      by_cases h_39 : y_19 ≠ 6
      · refine v_ic_ne_t (t := 52) c_185_45 rfl ⟨h_39, ⟨(lel hy_19.1 rfl), (ler hy_19.2 rfl)⟩, of_decide_eq_true rfl, of_decide_eq_true rfl⟩ (q_iload_n c_185_52 rfl ?_)
        by_cases h_40 : y_19 ≠ 0
        · refine v_if_ne_t (t := 70) c_185_53 rfl ⟨h_40, ⟨(lel hy_19.1 rfl), (ler hy_19.2 rfl)⟩, of_decide_eq_true rfl, of_decide_eq_true rfl⟩ (q_iload_n c_185_70 rfl (q_iconst c_185_71 ?_))
          by_cases h_41 : y_19 = 1
          · refine v_ic_eq_t (t := 80) c_185_72 rfl h_41 (q_aload_n c_185_80 rfl (q_iconst c_185_81 (q_aload_n c_185_82 rfl ?_)))
            have h_42 := ir_41_22 hI
            have kn_43 : Hid (c_6 41 22 = c 41 22) := hF_8 41 22 (fun h => absurd h.2 (ni rfl))
            have kn_44 : Hid (c_31 41 22 = c 41 22) := (hF_33 41 22 (fun h => absurd h.2 (ni rfl))).trans (hid kn_43)
            refine v_gi (z := 22) (v := c 41 22) c_185_83 kf_8_163 rfl (Nat.le_of_ble_eq_true rfl) rfl rfl (hid kn_44) (q_iconst c_185_86 (v_isub (v := c 41 22 - 1) c_185_87 rfl ?_))
            have kn_45 : Hid (c_31 41 3 = c 41 3) := (hF_33 41 3 (fun h => absurd h.2 (ni rfl))).trans (hid kn_23)
            have h_46 : c_31 41 3 = c 41 3 := (hid kn_45)
            have kn_47 : Hid (c_6 41 5 = c 41 5) := hF_8 41 5 (fun h => absurd h.2 (ni rfl))
            have kn_48 : Hid (c_31 41 5 = c 41 5) := (hF_33 41 5 (fun h => absurd h.2 (ni rfl))).trans (hid kn_47)
            have h_49 : c_31 41 5 = c 41 5 := (hid kn_48)
            refine v_cv c_185_88 km_8_199 rfl rfl (Nat.le_of_ble_eq_true rfl) ⟨⟨rfl, rfl⟩, Nat.le_of_ble_eq_true rfl, rfl⟩ (Nat.le_of_ble_eq_true rfl) (Nat.le_of_ble_eq_true rfl) (s_160 (a1 := 0) (a2 := c 41 22 - 1) hI_32 (show 0 ≤ 0 ∧ 0 ≤ 1 from ⟨of_decide_eq_true rfl, of_decide_eq_true rfl⟩) (show (-1) ≤ c 41 22 - 1 ∧ c 41 22 - 1 ≤ 9999 from ⟨(q_452b39485 h_42), (q_6915b49e7 h_42)⟩) (fun c_50 y_53 hI_51 hF_52 hy_53 h_54 h_55 h_56 h_57 h_58 => (bk_inl ?_)))
            have h_59 := ir_41_4 hI_51
            have h_60 := ir_41_5 hI_51
            refine q_goto (t := 98) c_185_91 rfl (q_istore_n c_185_98 (Nat.le_of_ble_eq_true rfl) (q_iload_n c_185_99 rfl (q_iconst c_185_100 (v_ic_ge_f (t := 111) c_185_101 rfl ⟨(lel hy_19.1 rfl), (q_35de64c77 h_41), of_decide_eq_true rfl⟩ (q_aload_n c_185_104 rfl ?_)))))
            have kn_61 : Hid (c_50 41 3 = c 41 3) := (hF_52 41 3 qn_97fd72088).trans (hid kn_45)
            have h_62 : c_50 41 3 = c 41 3 := (hid kn_61)
            refine v_cv c_185_105 km_8_314 rfl rfl (Nat.le_of_ble_eq_true rfl) ⟨⟨rfl, rfl⟩, Nat.le_of_ble_eq_true rfl, rfl⟩ (Nat.le_of_ble_eq_true rfl) (Nat.le_of_ble_eq_true rfl) (s_183 hI_51 (fun c_63 y_66 hI_64 hF_65 hy_66 h_67 h_68 h_69 h_70 => (bk_inl ?_)))
            have h_71 := ir_41_4 hI_64
            have h_72 := ir_41_5 hI_64
            refine q_goto (t := 112) c_185_108 rfl (q_istore_n c_185_112 (Nat.le_of_ble_eq_true rfl) (q_iload_n c_185_113 rfl (q_iconst c_185_114 (v_ic_ne_f (t := 125) c_185_115 rfl ((q_e2571c9b4 h_41)) (q_aload_n c_185_118 rfl ?_)))))
            have kn_73 : Hid (c_63 41 3 = c 41 3) := (hF_65 41 3 qn_97fd72088).trans (hid kn_61)
            have h_74 : c_63 41 3 = c 41 3 := (hid kn_73)
            refine v_cv c_185_119 km_8_314 rfl rfl (Nat.le_of_ble_eq_true rfl) ⟨⟨rfl, rfl⟩, Nat.le_of_ble_eq_true rfl, rfl⟩ (Nat.le_of_ble_eq_true rfl) (Nat.le_of_ble_eq_true rfl) (s_183 hI_64 (fun c_75 y_78 hI_76 hF_77 hy_78 h_79 h_80 h_81 h_82 => (bk_inl ?_)))
            have h_83 := ir_41_4 hI_76
            have h_84 := ir_41_5 hI_76
            refine q_goto (t := 142) c_185_122 rfl (q_istore c_185_142 (Nat.le_of_ble_eq_true rfl) (q_aload_n c_185_144 rfl (q_iload_n c_185_145 rfl (q_iload_n c_185_146 rfl (q_iload_n c_185_147 rfl (q_iload c_185_148 rfl (q_iload_n c_185_150 rfl ?_)))))))
            refine q_iconst c_185_151 (v_ic_ne_f (t := 162) c_185_152 rfl ((q_e2571c9b4 h_41)) (q_aload_n c_185_155 rfl ?_))
            have kn_85 : Hid (c_75 41 3 = c 41 3) := (hF_77 41 3 qn_97fd72088).trans (hid kn_73)
            have h_86 : c_75 41 3 = c 41 3 := (hid kn_85)
            refine v_cv c_185_156 km_8_314 rfl rfl (Nat.le_of_ble_eq_true rfl) ⟨⟨rfl, rfl⟩, Nat.le_of_ble_eq_true rfl, rfl⟩ (Nat.le_of_ble_eq_true rfl) (Nat.le_of_ble_eq_true rfl) (s_183 hI_76 (fun c_87 y_90 hI_88 hF_89 hy_90 h_91 h_92 h_93 h_94 => (bk_inl ?_)))
            have h_95 := ir_41_4 hI_88
            have h_96 := ir_41_5 hI_88
            refine q_goto (t := 163) c_185_159 rfl ?_
            have kn_97 : Hid (c_6 41 34 = c 41 34) := hF_8 41 34 (fun h => absurd h.2 (ni rfl))
            have kn_98 : Hid (c_31 41 34 = c 41 34) := (hF_33 41 34 (fun h => absurd h.2 (ni rfl))).trans (hid kn_97)
            have kn_99 : Hid (c_50 41 34 = c 41 34) := (hF_52 41 34 qn_14d4d2881).trans (hid kn_98)
            have kn_100 : Hid (c_63 41 34 = c 41 34) := (hF_65 41 34 qn_14d4d2881).trans (hid kn_99)
            have kn_101 : Hid (c_75 41 34 = c 41 34) := (hF_77 41 34 qn_14d4d2881).trans (hid kn_100)
            have kn_102 : Hid (c_87 41 34 = c 41 34) := (hF_89 41 34 qn_14d4d2881).trans (hid kn_101)
            have h_103 : c_87 41 34 = c 41 34 := (hid kn_102)
            have h_104 : c_87 41 34 = c 41 34 := (hid kn_102)
            refine v_cv c_185_163 km_8_301 rfl rfl (Nat.le_of_ble_eq_true rfl) ⟨⟨rfl, rfl⟩, Nat.le_of_ble_eq_true rfl, rfl⟩ (Nat.le_of_ble_eq_true rfl) (Nat.le_of_ble_eq_true rfl) (s_181 (a1 := y_19) (a2 := y_53) (a3 := y_66) (a4 := y_78) (a5 := y_90) hI_88 (show 0 ≤ y_19 ∧ y_19 ≤ 7 from ⟨(q_d72e4aea1 h_41), hy_19.2⟩) (show 0 ≤ y_53 ∧ y_53 ≤ 40 from ⟨hy_53.1, (q_457dde627 h_42 h_56)⟩) (show 0 ≤ y_66 ∧ y_66 ≤ 5 from hy_66) (show 0 ≤ y_78 ∧ y_78 ≤ 999 from ⟨hy_78.1, (ler hy_78.2 rfl)⟩) (show 0 ≤ y_90 ∧ y_90 ≤ 5 from hy_90) ((q_f9c88a064 hq4)) (Or.inr (Or.inr (by first | (clear ho hq0 hq1 hq5 h_1 h_2 h_3 h_4 h_5 h_15 h_16 h_17 h_18 h_38 h_34 h_42 h_59 h_54 h_60 h_71 h_67 h_72 h_83 h_79 h_84 h_95 h_91 h_96 h_11 h_13 h_14 h_21 h_22 h_35 h_36 h_37 h_39 h_40 h_55 h_56 h_57 h_58 h_68 h_69 h_70 h_80 h_81 h_82 h_92 h_93 h_94; omega) | omega))) (Or.inl ((q_72815ef9e h_41))) (Or.inr ⟨(q_b3cc29c66 h_42 h_56), by first | (clear ho hq0 hq1 hq2 hq3 hq4 hq5 h_1 h_2 h_3 h_4 h_5 h_15 h_10 h_16 h_17 h_18 h_38 h_34 h_41 h_42 h_59 h_54 h_60 h_71 h_67 h_72 h_83 h_79 h_84 h_95 h_91 h_96 h_11 h_12 h_13 h_14 h_20 h_21 h_22 h_35 h_36 h_37 h_39 h_40 h_55 h_56 h_57 h_58 h_68 h_69 h_70 h_80 h_81 h_82 h_92 h_93 h_94; omega) | omega⟩) (Or.inl ((q_4a2fa9e4d h_41))) (Or.inl ((q_4d88fe714 h_41))) (Or.inl ((q_ebaa6bc57 h_41))) (Or.inl ((q_620c3e4c8 h_41))) (Or.inl ((q_817913de4 h_41))) (fun c_105 hI_106 hF_107 h_108 h_109 h_110 => ?_))
            refine bk_inl ?_
            have h_111 := ir_41_34 hI_106
            have h_112 : c_105 56 ((c_87 41 34)) = c_105 56 (c 41 34) := congrArg (c_105 56) (by first | assumption | exact Int.le_antisymm (by omega) (by omega))
            have h_113 := ir_56 hI_106 (c 41 34)
            refine q_aload_n c_185_166 rfl (v_bip c_185_167 (of_decide_eq_true rfl) ?_)
            have kn_114 : Hid (c_105 41 4 = c_87 41 4) := hF_107 41 4 (fun q => q.elim (fun h => absurd h.2 (ni rfl)) (fun h => absurd h.1 (nn rfl)))
            have h_115 : c_105 41 4 = c_87 41 4 := (hid kn_114)
            have kn_116 : Hid (c_87 41 3 = c 41 3) := (hF_89 41 3 qn_97fd72088).trans (hid kn_85)
            have kn_117 : Hid (c_105 41 3 = c 41 3) := (hF_107 41 3 (fun q => q.elim (fun h => absurd h.2 (ni rfl)) (fun h => absurd h.1 (nn rfl)))).trans (hid kn_116)
            have h_118 : c_105 41 3 = c 41 3 := (hid kn_117)
            have kn_119 : Hid (c_105 41 5 = c_87 41 5) := hF_107 41 5 (fun q => q.elim (fun h => absurd h.2 (ni rfl)) (fun h => absurd h.1 (nn rfl)))
            have h_120 : c_105 41 5 = c_87 41 5 := (hid kn_119)
            refine v_cv c_185_169 km_8_229 rfl rfl (Nat.le_of_ble_eq_true rfl) ⟨⟨rfl, rfl⟩, Nat.le_of_ble_eq_true rfl, rfl⟩ (Nat.le_of_ble_eq_true rfl) (Nat.le_of_ble_eq_true rfl) (s_161 (a1 := 59) hI_106 (show 1 ≤ 59 ∧ 59 ≤ 255 from ⟨of_decide_eq_true rfl, of_decide_eq_true rfl⟩) (fun c_121 hI_122 hF_123 h_124 h_125 h_126 h_127 => (bk_inl ?_)))
            have h_128 := ir_41_4 hI_122
            have h_129 := ir_41_5 hI_122
            refine q_vret rfl rfl ?_
            have kn_130 : Hid (c_121 41 34 = c_105 41 34) := hF_123 41 34 qn_14d4d2881
            have h_131 : c_121 41 34 = c_105 41 34 := (hid kn_130)
            have h_132 : c_121 41 34 = c_105 41 34 := (hid kn_130)
            have kn_133 : Hid (c_6 41 7 = c 41 7) := hF_8 41 7 (fun h => absurd h.2 (ni rfl))
            have kn_134 : Hid (c_31 41 7 = c 41 7) := (hF_33 41 7 (fun h => absurd h.2 (ni rfl))).trans (hid kn_133)
            have kn_135 : Hid (c_50 41 7 = c 41 7) := (hF_52 41 7 qn_fb1117a24).trans (hid kn_134)
            have kn_136 : Hid (c_63 41 7 = c 41 7) := (hF_65 41 7 qn_fb1117a24).trans (hid kn_135)
            have kn_137 : Hid (c_75 41 7 = c 41 7) := (hF_77 41 7 qn_fb1117a24).trans (hid kn_136)
            have kn_138 : Hid (c_87 41 7 = c 41 7) := (hF_89 41 7 qn_fb1117a24).trans (hid kn_137)
            have kn_139 : Hid (c_105 41 7 = c 41 7) := (hF_107 41 7 (fun q => q.elim (fun h => absurd h.2 (ni rfl)) (fun h => absurd h.1 (nn rfl)))).trans (hid kn_138)
            have kn_140 : Hid (c_121 41 7 = c 41 7) := (hF_123 41 7 qn_fb1117a24).trans (hid kn_139)
            have h_141 : c_121 41 7 = c 41 7 := (hid kn_140)
            have hb9 : c_121 41 5 = c_121 41 5 := rfl
            have hn9 : c_121 41 34 = c_105 41 34 := (hid kn_130)
            have kn_142 : Hid (c_121 56 (c 41 34) = c_105 56 (c 41 34)) := hF_123 56 (c 41 34) qn_01f0bccfb
            have hq9 : c_121 56 (c 41 34) = c_105 56 (c 41 34) := (hid kn_142)
            exact K c_121 hI_122 (fun a j hm => (hF_123 a j (qv_b6152c67a hm)).trans ((hF_107 a j (fun q => q.elim (fun h => hm (Or.inr (Or.inr (Or.inr (Or.inr (Or.inl h)))))) (fun h => hm (Or.inr (Or.inr (Or.inr (Or.inr (Or.inr ⟨h.1, (Int.le_trans ((q_e074ea49a)) h.2)⟩)))))))).trans ((hF_89 a j (qv_b6152c67a hm)).trans ((hF_77 a j (qv_b6152c67a hm)).trans ((hF_65 a j (qv_b6152c67a hm)).trans ((hF_52 a j (qv_b6152c67a hm)).trans ((hF_33 a j (fun h => hm (Or.inl h))).trans (hF_8 a j (fun h => hm (Or.inl h)))))))))) ((q_aa606e377 h_10 h_124 h_34 h_54 h_67 h_79 h_91 h_115)) (by first | assumption | omega) ((q_dbb87eeb4 h_10 h_109 h_110 h_124 h_34 h_54 h_58 h_67 h_70 h_79 h_82 h_91 h_93 h_103 h_115 h_46 h_49 h_62 h_74)) (Or.inr (Or.inr ⟨(q_845f9d3ce h_11 h_125 h_35 h_55 h_68 h_80 h_92 hq1 h_118 h_115 h_24 h_46 h_62 h_74 h_86), by first | (clear ho hq0 hq1 hq2 hq3 hq4 hq5 h_1 h_2 h_3 h_4 h_5 h_15 h_16 h_17 h_18 h_38 h_34 h_42 h_59 h_60 h_71 h_72 h_83 h_84 h_95 h_96 h_111 h_108 h_113 h_128 h_129 h_11 h_14 h_21 h_22 h_35 h_37 h_39 h_40 h_55 h_56 h_57 h_58 h_68 h_69 h_70 h_80 h_81 h_82 h_92 h_93 h_94 h_109 h_110 h_125 h_126 h_127; omega) | omega⟩)) ((q_f9c88a064 h_108)) ((q_1f022678a h_109 h_110 h_103)) (fun h9 => ap_one (by first | (clear ho hq0 hq1 hq2 hq3 hq4 hq5 h_1 h_2 h_3 h_4 h_5 h_15 h_10 h_16 h_17 h_18 h_38 h_34 h_42 h_59 h_54 h_60 h_71 h_67 h_72 h_83 h_79 h_84 h_95 h_91 h_96 h_111 h_108 h_113 h_128 h_124 h_129 h_11 h_12 h_13 h_14 h_20 h_21 h_22 h_35 h_36 h_37 h_39 h_40 h_55 h_56 h_57 h_58 h_68 h_69 h_70 h_80 h_81 h_82 h_92 h_93 h_94 h_110 h_125 h_127; omega) | omega) (by first | assumption | omega) (Int.le_antisymm (by first | (clear ho hq0 hq1 hq2 hq3 hq4 hq5 h_1 h_2 h_3 h_4 h_5 h_15 h_10 h_16 h_17 h_18 h_38 h_34 h_41 h_42 h_59 h_54 h_60 h_71 h_67 h_72 h_83 h_79 h_84 h_95 h_91 h_96 h_111 h_108 h_113 h_128 h_124 h_129 h9 h_11 h_12 h_13 h_14 h_20 h_21 h_22 h_35 h_36 h_37 h_39 h_40 h_55 h_56 h_57 h_58 h_68 h_69 h_70 h_80 h_81 h_82 h_92 h_93 h_94 h_125 h_126 h_127; omega) | omega) (by first | (clear ho hq0 hq1 hq2 hq3 hq4 hq5 h_1 h_2 h_3 h_4 h_5 h_15 h_10 h_16 h_17 h_18 h_38 h_34 h_41 h_42 h_59 h_54 h_60 h_71 h_67 h_72 h_83 h_79 h_84 h_95 h_91 h_96 h_111 h_108 h_113 h_128 h_124 h_129 h_11 h_12 h_13 h_14 h_20 h_21 h_22 h_35 h_36 h_37 h_39 h_40 h_55 h_56 h_57 h_58 h_68 h_69 h_70 h_80 h_81 h_82 h_92 h_93 h_94 h_110 h_125 h_127; omega) | omega)))
          · refine v_ic_eq_f (t := 80) c_185_72 rfl ⟨h_41, ⟨(lel hy_19.1 rfl), (ler hy_19.2 rfl)⟩, of_decide_eq_true rfl, of_decide_eq_true rfl⟩ (q_iload_n c_185_75 rfl (q_iconst c_185_76 ?_))
            by_cases h_143 : y_19 ≠ 4
            · refine v_ic_ne_t (t := 94) c_185_77 rfl ⟨h_143, ⟨(lel hy_19.1 rfl), (ler hy_19.2 rfl)⟩, of_decide_eq_true rfl, of_decide_eq_true rfl⟩ (q_aload_n c_185_94 rfl ?_)
              have kn_144 : Hid (c_31 41 3 = c 41 3) := (hF_33 41 3 (fun h => absurd h.2 (ni rfl))).trans (hid kn_23)
              have h_145 : c_31 41 3 = c 41 3 := (hid kn_144)
              have kn_146 : Hid (c_6 41 5 = c 41 5) := hF_8 41 5 (fun h => absurd h.2 (ni rfl))
              have kn_147 : Hid (c_31 41 5 = c 41 5) := (hF_33 41 5 (fun h => absurd h.2 (ni rfl))).trans (hid kn_146)
              have h_148 : c_31 41 5 = c 41 5 := (hid kn_147)
              refine v_cv c_185_95 km_8_314 rfl rfl (Nat.le_of_ble_eq_true rfl) ⟨⟨rfl, rfl⟩, Nat.le_of_ble_eq_true rfl, rfl⟩ (Nat.le_of_ble_eq_true rfl) (Nat.le_of_ble_eq_true rfl) (s_183 hI_32 (fun c_149 y_152 hI_150 hF_151 hy_152 h_153 h_154 h_155 h_156 => (bk_inl ?_)))
              have h_157 := ir_41_4 hI_150
              have h_158 := ir_41_5 hI_150
              refine q_istore_n c_185_98 (Nat.le_of_ble_eq_true rfl) (q_iload_n c_185_99 rfl (q_iconst c_185_100 ?_))
              by_cases h_159 : y_19 ≥ 4
              · refine v_ic_ge_t (t := 111) c_185_101 rfl ⟨of_decide_eq_true rfl, h_159, (ler hy_19.2 rfl)⟩ (q_iconst c_185_111 (q_istore_n c_185_112 (Nat.le_of_ble_eq_true rfl) (q_iload_n c_185_113 rfl (q_iconst c_185_114 (v_ic_ne_t (t := 125) c_185_115 rfl ⟨(q_82b471caa h_159), ⟨(lel hy_19.1 rfl), (ler hy_19.2 rfl)⟩, of_decide_eq_true rfl, of_decide_eq_true rfl⟩ (q_iload_n c_185_125 rfl (q_iconst c_185_126 ?_)))))))
                refine v_ic_ne_t (t := 141) c_185_127 rfl ⟨(q_1f6cc4008 h_159), ⟨(lel hy_19.1 rfl), (ler hy_19.2 rfl)⟩, of_decide_eq_true rfl, of_decide_eq_true rfl⟩ (q_iconst c_185_141 (q_istore c_185_142 (Nat.le_of_ble_eq_true rfl) (q_aload_n c_185_144 rfl (q_iload_n c_185_145 rfl (q_iload_n c_185_146 rfl (q_iload_n c_185_147 rfl (q_iload c_185_148 rfl ?_)))))))
                refine q_iload_n c_185_150 rfl (q_iconst c_185_151 (v_ic_ne_t (t := 162) c_185_152 rfl ⟨(q_82b471caa h_159), ⟨(lel hy_19.1 rfl), (ler hy_19.2 rfl)⟩, of_decide_eq_true rfl, of_decide_eq_true rfl⟩ (q_iconst c_185_162 ?_)))
                have kn_160 : Hid (c_6 41 34 = c 41 34) := hF_8 41 34 (fun h => absurd h.2 (ni rfl))
                have kn_161 : Hid (c_31 41 34 = c 41 34) := (hF_33 41 34 (fun h => absurd h.2 (ni rfl))).trans (hid kn_160)
                have kn_162 : Hid (c_149 41 34 = c 41 34) := (hF_151 41 34 qn_14d4d2881).trans (hid kn_161)
                have h_163 : c_149 41 34 = c 41 34 := (hid kn_162)
                have h_164 : c_149 41 34 = c 41 34 := (hid kn_162)
                refine v_cv c_185_163 km_8_301 rfl rfl (Nat.le_of_ble_eq_true rfl) ⟨⟨rfl, rfl⟩, Nat.le_of_ble_eq_true rfl, rfl⟩ (Nat.le_of_ble_eq_true rfl) (Nat.le_of_ble_eq_true rfl) (s_181 (a1 := y_19) (a2 := y_152) (a3 := 0) (a4 := 0) (a5 := 0) hI_150 (show 0 ≤ y_19 ∧ y_19 ≤ 7 from ⟨(q_137895ac1 h_159), hy_19.2⟩) (show 0 ≤ y_152 ∧ y_152 ≤ 40 from ⟨hy_152.1, (ler hy_152.2 rfl)⟩) (show 0 ≤ 0 ∧ 0 ≤ 5 from ⟨of_decide_eq_true rfl, of_decide_eq_true rfl⟩) (show 0 ≤ 0 ∧ 0 ≤ 999 from ⟨of_decide_eq_true rfl, of_decide_eq_true rfl⟩) (show 0 ≤ 0 ∧ 0 ≤ 5 from ⟨of_decide_eq_true rfl, of_decide_eq_true rfl⟩) ((q_f9c88a064 hq4)) (Or.inr (Or.inr (by first | (clear ho hq0 hq1 hq5 h_1 h_2 h_3 h_4 h_5 h_15 h_16 h_17 h_18 h_38 h_34 h_157 h_153 h_158 h_11 h_13 h_14 h_21 h_22 h_35 h_36 h_37 h_39 h_40 h_41 h_143 h_154 h_155 h_156; omega) | omega))) (Or.inl ((q_fa01b37a1 h_159))) (Or.inl ((q_82b471caa h_159))) (Or.inl ((q_0906e8e8d h_159))) (Or.inl ((q_1f6cc4008 h_159))) (Or.inl ((q_c7a6670ed h_143 h_159))) (Or.inr (by first | (clear ho hq0 hq1 hq2 hq3 hq4 hq5 h_1 h_2 h_3 h_4 h_5 h_15 h_10 h_16 h_17 h_18 h_38 h_34 h_157 h_153 h_158 h_159 h_11 h_12 h_13 h_14 h_20 h_21 h_22 h_35 h_36 h_37 h_39 h_40 h_41 h_143 h_154 h_155 h_156; omega) | omega)) (Or.inl (by first | (clear ho hq0 hq1 hq2 hq3 hq4 hq5 h_1 h_2 h_3 h_4 h_5 h_15 h_10 h_16 h_17 h_18 h_38 h_34 h_157 h_153 h_158 h_159 h_11 h_12 h_13 h_14 h_20 h_21 h_35 h_36 h_37 h_39 h_40 h_41 h_143 h_154 h_155 h_156; omega) | omega)) (fun c_165 hI_166 hF_167 h_168 h_169 h_170 => ?_))
                refine bk_inl ?_
                have h_171 := ir_41_34 hI_166
                have h_172 : c_165 56 ((c_149 41 34)) = c_165 56 (c 41 34) := congrArg (c_165 56) (by first | assumption | exact Int.le_antisymm (by omega) (by omega))
                have h_173 := ir_56 hI_166 (c 41 34)
                refine q_aload_n c_185_166 rfl (v_bip c_185_167 (of_decide_eq_true rfl) ?_)
                have kn_174 : Hid (c_165 41 4 = c_149 41 4) := hF_167 41 4 (fun q => q.elim (fun h => absurd h.2 (ni rfl)) (fun h => absurd h.1 (nn rfl)))
                have h_175 : c_165 41 4 = c_149 41 4 := (hid kn_174)
                have kn_176 : Hid (c_149 41 3 = c 41 3) := (hF_151 41 3 qn_97fd72088).trans (hid kn_144)
                have kn_177 : Hid (c_165 41 3 = c 41 3) := (hF_167 41 3 (fun q => q.elim (fun h => absurd h.2 (ni rfl)) (fun h => absurd h.1 (nn rfl)))).trans (hid kn_176)
                have h_178 : c_165 41 3 = c 41 3 := (hid kn_177)
                have kn_179 : Hid (c_165 41 5 = c_149 41 5) := hF_167 41 5 (fun q => q.elim (fun h => absurd h.2 (ni rfl)) (fun h => absurd h.1 (nn rfl)))
                have h_180 : c_165 41 5 = c_149 41 5 := (hid kn_179)
                refine v_cv c_185_169 km_8_229 rfl rfl (Nat.le_of_ble_eq_true rfl) ⟨⟨rfl, rfl⟩, Nat.le_of_ble_eq_true rfl, rfl⟩ (Nat.le_of_ble_eq_true rfl) (Nat.le_of_ble_eq_true rfl) (s_161 (a1 := 59) hI_166 (show 1 ≤ 59 ∧ 59 ≤ 255 from ⟨of_decide_eq_true rfl, of_decide_eq_true rfl⟩) (fun c_181 hI_182 hF_183 h_184 h_185 h_186 h_187 => (bk_inl ?_)))
                have h_188 := ir_41_4 hI_182
                have h_189 := ir_41_5 hI_182
                refine q_vret rfl rfl ?_
                have kn_190 : Hid (c_181 41 34 = c_165 41 34) := hF_183 41 34 qn_14d4d2881
                have h_191 : c_181 41 34 = c_165 41 34 := (hid kn_190)
                have h_192 : c_181 41 34 = c_165 41 34 := (hid kn_190)
                have kn_193 : Hid (c_6 41 7 = c 41 7) := hF_8 41 7 (fun h => absurd h.2 (ni rfl))
                have kn_194 : Hid (c_31 41 7 = c 41 7) := (hF_33 41 7 (fun h => absurd h.2 (ni rfl))).trans (hid kn_193)
                have kn_195 : Hid (c_149 41 7 = c 41 7) := (hF_151 41 7 qn_fb1117a24).trans (hid kn_194)
                have kn_196 : Hid (c_165 41 7 = c 41 7) := (hF_167 41 7 (fun q => q.elim (fun h => absurd h.2 (ni rfl)) (fun h => absurd h.1 (nn rfl)))).trans (hid kn_195)
                have kn_197 : Hid (c_181 41 7 = c 41 7) := (hF_183 41 7 qn_fb1117a24).trans (hid kn_196)
                have h_198 : c_181 41 7 = c 41 7 := (hid kn_197)
                have hb9 : c_181 41 5 = c_181 41 5 := rfl
                have hn9 : c_181 41 34 = c_165 41 34 := (hid kn_190)
                have kn_199 : Hid (c_181 56 (c 41 34) = c_165 56 (c 41 34)) := hF_183 56 (c 41 34) qn_01f0bccfb
                have hq9 : c_181 56 (c 41 34) = c_165 56 (c 41 34) := (hid kn_199)
                exact K c_181 hI_182 (fun a j hm => (hF_183 a j (qv_b6152c67a hm)).trans ((hF_167 a j (fun q => q.elim (fun h => hm (Or.inr (Or.inr (Or.inr (Or.inr (Or.inl h)))))) (fun h => hm (Or.inr (Or.inr (Or.inr (Or.inr (Or.inr ⟨h.1, (Int.le_trans ((q_e074ea49a)) h.2)⟩)))))))).trans ((hF_151 a j (qv_b6152c67a hm)).trans ((hF_33 a j (fun h => hm (Or.inl h))).trans (hF_8 a j (fun h => hm (Or.inl h))))))) ((q_5b38c9290 h_10 h_153 h_184 h_34 h_175)) (by first | assumption | omega) (by first | (clear ho hq0 hq1 hq2 hq3 hq4 hq5 h_1 h_2 h_3 h_4 h_5 h_15 h_16 h_17 h_18 h_38 h_34 h_157 h_158 h_171 h_168 h_173 h_188 h_189 h_11 h_12 h_21 h_22 h_35 h_36 h_39 h_40 h_41 h_143 h_154 h_155 h_156 h_185 h_186 h_187; omega) | omega) (Or.inr (Or.inr ⟨(q_4c1a6dd92 h_11 h_154 h_185 h_35 hq1 h_145 h_178 h_175 h_24), by first | (clear ho hq0 hq1 hq2 hq3 hq4 hq5 h_1 h_2 h_3 h_4 h_5 h_15 h_16 h_17 h_18 h_38 h_34 h_157 h_158 h_171 h_168 h_173 h_188 h_189 h_11 h_14 h_21 h_22 h_35 h_37 h_39 h_40 h_41 h_143 h_154 h_155 h_156 h_169 h_170 h_185 h_186 h_187; omega) | omega⟩)) ((q_f9c88a064 h_168)) ((q_1f022678a h_169 h_170 h_163)) (fun h9 => ap_one (by first | (clear ho hq0 hq1 hq2 hq3 hq4 hq5 h_1 h_2 h_3 h_4 h_5 h_15 h_10 h_16 h_17 h_18 h_38 h_34 h_157 h_153 h_158 h_159 h_171 h_168 h_173 h_188 h_184 h_189 h_11 h_12 h_13 h_14 h_20 h_21 h_35 h_36 h_37 h_39 h_40 h_41 h_143 h_154 h_155 h_156 h_170 h_185 h_187; omega) | omega) (by first | assumption | omega) (Int.le_antisymm (by first | (clear ho hq0 hq1 hq2 hq3 hq4 hq5 h_1 h_2 h_3 h_4 h_5 h_15 h_10 h_16 h_17 h_18 h_38 h_34 h_157 h_153 h_158 h_159 h_171 h_168 h_173 h_188 h_184 h_189 h9 h_11 h_12 h_13 h_14 h_20 h_21 h_22 h_35 h_36 h_37 h_39 h_40 h_41 h_143 h_154 h_155 h_156 h_185 h_186 h_187; omega) | omega) (by first | (clear ho hq0 hq1 hq2 hq3 hq4 hq5 h_1 h_2 h_3 h_4 h_5 h_15 h_10 h_16 h_17 h_18 h_38 h_34 h_157 h_153 h_158 h_159 h_171 h_168 h_173 h_188 h_184 h_189 h_11 h_12 h_13 h_14 h_20 h_21 h_22 h_35 h_36 h_37 h_39 h_40 h_41 h_143 h_154 h_155 h_156 h_170 h_185 h_187; omega) | omega)))
              · refine v_ic_ge_f (t := 111) c_185_101 rfl ⟨(lel hy_19.1 rfl), (Int.not_le.mp h_159), of_decide_eq_true rfl⟩ (q_aload_n c_185_104 rfl ?_)
                have kn_200 : Hid (c_149 41 3 = c 41 3) := (hF_151 41 3 qn_97fd72088).trans (hid kn_144)
                have h_201 : c_149 41 3 = c 41 3 := (hid kn_200)
                refine v_cv c_185_105 km_8_314 rfl rfl (Nat.le_of_ble_eq_true rfl) ⟨⟨rfl, rfl⟩, Nat.le_of_ble_eq_true rfl, rfl⟩ (Nat.le_of_ble_eq_true rfl) (Nat.le_of_ble_eq_true rfl) (s_183 hI_150 (fun c_202 y_205 hI_203 hF_204 hy_205 h_206 h_207 h_208 h_209 => (bk_inl ?_)))
                have h_210 := ir_41_4 hI_203
                have h_211 := ir_41_5 hI_203
                refine q_goto (t := 112) c_185_108 rfl (q_istore_n c_185_112 (Nat.le_of_ble_eq_true rfl) (q_iload_n c_185_113 rfl (q_iconst c_185_114 (v_ic_ne_t (t := 125) c_185_115 rfl ⟨(q_ea625c1e5 h_41), ⟨(lel hy_19.1 rfl), (ler hy_19.2 rfl)⟩, of_decide_eq_true rfl, of_decide_eq_true rfl⟩ (q_iload_n c_185_125 rfl (q_iconst c_185_126 ?_))))))
                by_cases h_212 : y_19 ≠ 3
                · refine v_ic_ne_t (t := 141) c_185_127 rfl ⟨h_212, ⟨(lel hy_19.1 rfl), (ler hy_19.2 rfl)⟩, of_decide_eq_true rfl, of_decide_eq_true rfl⟩ (q_iconst c_185_141 (q_istore c_185_142 (Nat.le_of_ble_eq_true rfl) (q_aload_n c_185_144 rfl (q_iload_n c_185_145 rfl (q_iload_n c_185_146 rfl (q_iload_n c_185_147 rfl (q_iload c_185_148 rfl ?_)))))))
                  refine q_iload_n c_185_150 rfl (q_iconst c_185_151 (v_ic_ne_t (t := 162) c_185_152 rfl ⟨(q_ea625c1e5 h_41), ⟨(lel hy_19.1 rfl), (ler hy_19.2 rfl)⟩, of_decide_eq_true rfl, of_decide_eq_true rfl⟩ (q_iconst c_185_162 ?_)))
                  have kn_213 : Hid (c_6 41 34 = c 41 34) := hF_8 41 34 (fun h => absurd h.2 (ni rfl))
                  have kn_214 : Hid (c_31 41 34 = c 41 34) := (hF_33 41 34 (fun h => absurd h.2 (ni rfl))).trans (hid kn_213)
                  have kn_215 : Hid (c_149 41 34 = c 41 34) := (hF_151 41 34 qn_14d4d2881).trans (hid kn_214)
                  have kn_216 : Hid (c_202 41 34 = c 41 34) := (hF_204 41 34 qn_14d4d2881).trans (hid kn_215)
                  have h_217 : c_202 41 34 = c 41 34 := (hid kn_216)
                  have h_218 : c_202 41 34 = c 41 34 := (hid kn_216)
                  refine v_cv c_185_163 km_8_301 rfl rfl (Nat.le_of_ble_eq_true rfl) ⟨⟨rfl, rfl⟩, Nat.le_of_ble_eq_true rfl, rfl⟩ (Nat.le_of_ble_eq_true rfl) (Nat.le_of_ble_eq_true rfl) (s_181 (a1 := y_19) (a2 := y_152) (a3 := y_205) (a4 := 0) (a5 := 0) hI_203 (show 0 ≤ y_19 ∧ y_19 ≤ 7 from ⟨by first | (clear ho hq0 hq1 hq2 hq3 hq4 hq5 h_1 h_2 h_3 h_4 h_5 h_15 h_10 h_16 h_17 h_18 h_38 h_34 h_157 h_153 h_158 h_159 h_210 h_206 h_211 h_11 h_12 h_13 h_14 h_20 h_22 h_35 h_36 h_37 h_39 h_40 h_41 h_143 h_154 h_155 h_156 h_207 h_208 h_209 h_212; omega) | omega, hy_19.2⟩) (show 0 ≤ y_152 ∧ y_152 ≤ 40 from ⟨hy_152.1, (ler hy_152.2 rfl)⟩) (show 0 ≤ y_205 ∧ y_205 ≤ 5 from hy_205) (show 0 ≤ 0 ∧ 0 ≤ 999 from ⟨of_decide_eq_true rfl, of_decide_eq_true rfl⟩) (show 0 ≤ 0 ∧ 0 ≤ 5 from ⟨of_decide_eq_true rfl, of_decide_eq_true rfl⟩) ((q_f9c88a064 hq4)) (Or.inr (Or.inr (by omega))) (Or.inl ((q_56243d016 h_40))) (Or.inl ((q_ea625c1e5 h_41))) (Or.inr (by first | (clear ho hq0 hq1 hq2 hq3 hq4 hq5 h_1 h_2 h_3 h_4 h_5 h_15 h_10 h_16 h_17 h_18 h_38 h_34 h_157 h_153 h_158 h_159 h_210 h_206 h_211 h_11 h_12 h_13 h_14 h_20 h_21 h_22 h_35 h_36 h_37 h_39 h_40 h_41 h_143 h_154 h_155 h_156 h_207 h_208 h_209 h_212; omega) | omega)) (Or.inl ((q_073ee9b25 h_159 h_212))) (Or.inl ((q_f6152d285 h_159))) (Or.inl ((q_71dc12fe2 h_159))) (Or.inl ((q_68ebfa386 h_159))) (fun c_219 hI_220 hF_221 h_222 h_223 h_224 => (bk_inl ?_)))
                  have h_225 := ir_41_34 hI_220
                  have h_226 : c_219 56 ((c_202 41 34)) = c_219 56 (c 41 34) := congrArg (c_219 56) (by first | assumption | exact Int.le_antisymm (by omega) (by omega))
                  have h_227 := ir_56 hI_220 (c 41 34)
                  refine q_aload_n c_185_166 rfl (v_bip c_185_167 (of_decide_eq_true rfl) ?_)
                  have kn_228 : Hid (c_219 41 4 = c_202 41 4) := hF_221 41 4 (fun q => q.elim (fun h => absurd h.2 (ni rfl)) (fun h => absurd h.1 (nn rfl)))
                  have h_229 : c_219 41 4 = c_202 41 4 := (hid kn_228)
                  have kn_230 : Hid (c_202 41 3 = c 41 3) := (hF_204 41 3 qn_97fd72088).trans (hid kn_200)
                  have kn_231 : Hid (c_219 41 3 = c 41 3) := (hF_221 41 3 (fun q => q.elim (fun h => absurd h.2 (ni rfl)) (fun h => absurd h.1 (nn rfl)))).trans (hid kn_230)
                  have h_232 : c_219 41 3 = c 41 3 := (hid kn_231)
                  have kn_233 : Hid (c_219 41 5 = c_202 41 5) := hF_221 41 5 (fun q => q.elim (fun h => absurd h.2 (ni rfl)) (fun h => absurd h.1 (nn rfl)))
                  have h_234 : c_219 41 5 = c_202 41 5 := (hid kn_233)
                  refine v_cv c_185_169 km_8_229 rfl rfl (Nat.le_of_ble_eq_true rfl) ⟨⟨rfl, rfl⟩, Nat.le_of_ble_eq_true rfl, rfl⟩ (Nat.le_of_ble_eq_true rfl) (Nat.le_of_ble_eq_true rfl) (s_161 (a1 := 59) hI_220 (show 1 ≤ 59 ∧ 59 ≤ 255 from ⟨of_decide_eq_true rfl, of_decide_eq_true rfl⟩) (fun c_235 hI_236 hF_237 h_238 h_239 h_240 h_241 => (bk_inl ?_)))
                  have h_242 := ir_41_4 hI_236
                  have h_243 := ir_41_5 hI_236
                  refine q_vret rfl rfl ?_
                  have kn_244 : Hid (c_235 41 34 = c_219 41 34) := hF_237 41 34 qn_14d4d2881
                  have h_245 : c_235 41 34 = c_219 41 34 := (hid kn_244)
                  have h_246 : c_235 41 34 = c_219 41 34 := (hid kn_244)
                  have kn_247 : Hid (c_6 41 7 = c 41 7) := hF_8 41 7 (fun h => absurd h.2 (ni rfl))
                  have kn_248 : Hid (c_31 41 7 = c 41 7) := (hF_33 41 7 (fun h => absurd h.2 (ni rfl))).trans (hid kn_247)
                  have kn_249 : Hid (c_149 41 7 = c 41 7) := (hF_151 41 7 qn_fb1117a24).trans (hid kn_248)
                  have kn_250 : Hid (c_202 41 7 = c 41 7) := (hF_204 41 7 qn_fb1117a24).trans (hid kn_249)
                  have kn_251 : Hid (c_219 41 7 = c 41 7) := (hF_221 41 7 (fun q => q.elim (fun h => absurd h.2 (ni rfl)) (fun h => absurd h.1 (nn rfl)))).trans (hid kn_250)
                  have kn_252 : Hid (c_235 41 7 = c 41 7) := (hF_237 41 7 qn_fb1117a24).trans (hid kn_251)
                  have h_253 : c_235 41 7 = c 41 7 := (hid kn_252)
                  have hb9 : c_235 41 5 = c_235 41 5 := rfl
                  have hn9 : c_235 41 34 = c_219 41 34 := (hid kn_244)
                  have kn_254 : Hid (c_235 56 (c 41 34) = c_219 56 (c 41 34)) := hF_237 56 (c 41 34) qn_01f0bccfb
                  have hq9 : c_235 56 (c 41 34) = c_219 56 (c 41 34) := (hid kn_254)
                  exact K c_235 hI_236 (fun a j hm => (hF_237 a j (qv_b6152c67a hm)).trans ((hF_221 a j (fun q => q.elim (fun h => hm (Or.inr (Or.inr (Or.inr (Or.inr (Or.inl h)))))) (fun h => hm (Or.inr (Or.inr (Or.inr (Or.inr (Or.inr ⟨h.1, (Int.le_trans ((q_e074ea49a)) h.2)⟩)))))))).trans ((hF_204 a j (qv_b6152c67a hm)).trans ((hF_151 a j (qv_b6152c67a hm)).trans ((hF_33 a j (fun h => hm (Or.inl h))).trans (hF_8 a j (fun h => hm (Or.inl h)))))))) ((q_f9fea031a h_10 h_153 h_206 h_238 h_34 h_229)) (by first | assumption | omega) (by first | (clear ho hq0 hq1 hq2 hq3 hq4 hq5 h_1 h_2 h_3 h_4 h_5 h_15 h_16 h_17 h_18 h_38 h_157 h_158 h_159 h_210 h_211 h_225 h_222 h_242 h_243 h_11 h_12 h_21 h_22 h_35 h_36 h_39 h_40 h_41 h_143 h_154 h_155 h_156 h_207 h_208 h_209 h_212 h_239 h_240 h_241; omega) | omega) (Or.inr (Or.inr ⟨(q_e42419428 h_11 h_154 h_207 h_239 h_35 hq1 h_145 h_201 h_232 h_229 h_24), by first | (clear ho hq0 hq1 hq2 hq3 hq4 hq5 h_1 h_2 h_3 h_4 h_5 h_15 h_16 h_17 h_18 h_38 h_34 h_157 h_158 h_159 h_210 h_211 h_225 h_222 h_227 h_242 h_243 h_11 h_14 h_22 h_35 h_37 h_39 h_40 h_41 h_143 h_154 h_155 h_156 h_207 h_208 h_209 h_212 h_223 h_224 h_239 h_240 h_241; omega) | omega⟩)) ((q_f9c88a064 h_222)) ((q_1f022678a h_223 h_224 h_217)) (fun h9 => ap_one (by first | (clear ho hq0 hq1 hq2 hq3 hq4 hq5 h_1 h_2 h_3 h_4 h_5 h_15 h_10 h_16 h_17 h_18 h_38 h_34 h_157 h_153 h_158 h_210 h_206 h_211 h_225 h_222 h_227 h_242 h_238 h_243 h_11 h_12 h_13 h_14 h_20 h_21 h_22 h_35 h_36 h_37 h_39 h_40 h_41 h_143 h_154 h_155 h_156 h_207 h_208 h_209 h_212 h_224 h_239 h_241; omega) | omega) (by first | assumption | omega) (Int.le_antisymm (by first | (clear ho hq0 hq1 hq2 hq3 hq4 hq5 h_1 h_2 h_3 h_4 h_5 h_15 h_10 h_16 h_17 h_18 h_38 h_34 h_157 h_153 h_158 h_159 h_210 h_206 h_211 h_225 h_222 h_227 h_242 h_238 h_243 h9 h_11 h_12 h_13 h_14 h_20 h_21 h_22 h_35 h_36 h_37 h_39 h_40 h_41 h_143 h_154 h_155 h_156 h_207 h_208 h_209 h_212 h_239 h_240 h_241; omega) | omega) (by first | (clear ho hq0 hq1 hq2 hq3 hq4 hq5 h_1 h_2 h_3 h_4 h_5 h_15 h_10 h_16 h_17 h_18 h_38 h_34 h_157 h_153 h_158 h_159 h_210 h_206 h_211 h_225 h_222 h_227 h_242 h_238 h_243 h_11 h_12 h_13 h_14 h_20 h_21 h_22 h_35 h_36 h_37 h_39 h_40 h_41 h_143 h_154 h_155 h_156 h_207 h_208 h_209 h_212 h_224 h_239 h_241; omega) | omega)))
                · refine v_ic_ne_f (t := 141) c_185_127 rfl (Decidable.not_not.mp h_212) (q_aload_n c_185_130 rfl (q_iconst c_185_131 (v_sip c_185_132 (of_decide_eq_true rfl) ?_)))
                  have kn_255 : Hid (c_202 41 3 = c 41 3) := (hF_204 41 3 qn_97fd72088).trans (hid kn_200)
                  have h_256 : c_202 41 3 = c 41 3 := (hid kn_255)
                  refine v_cv c_185_135 km_8_199 rfl rfl (Nat.le_of_ble_eq_true rfl) ⟨⟨rfl, rfl⟩, Nat.le_of_ble_eq_true rfl, rfl⟩ (Nat.le_of_ble_eq_true rfl) (Nat.le_of_ble_eq_true rfl) (s_160 (a1 := 1) (a2 := 999) hI_203 (show 0 ≤ 1 ∧ 1 ≤ 1 from ⟨of_decide_eq_true rfl, of_decide_eq_true rfl⟩) (show (-1) ≤ 999 ∧ 999 ≤ 9999 from ⟨of_decide_eq_true rfl, of_decide_eq_true rfl⟩) (fun c_257 y_260 hI_258 hF_259 hy_260 h_261 h_262 h_263 h_264 h_265 => (bk_inl ?_)))
                  have h_266 := ir_41_4 hI_258
                  have h_267 := ir_41_5 hI_258
                  refine q_goto (t := 142) c_185_138 rfl (q_istore c_185_142 (Nat.le_of_ble_eq_true rfl) (q_aload_n c_185_144 rfl (q_iload_n c_185_145 rfl (q_iload_n c_185_146 rfl (q_iload_n c_185_147 rfl (q_iload c_185_148 rfl (q_iload_n c_185_150 rfl ?_)))))))
                  refine q_iconst c_185_151 (v_ic_ne_t (t := 162) c_185_152 rfl ⟨(q_e215efd56 h_212), ⟨(lel hy_19.1 rfl), (ler hy_19.2 rfl)⟩, of_decide_eq_true rfl, of_decide_eq_true rfl⟩ (q_iconst c_185_162 ?_))
                  have kn_268 : Hid (c_6 41 34 = c 41 34) := hF_8 41 34 (fun h => absurd h.2 (ni rfl))
                  have kn_269 : Hid (c_31 41 34 = c 41 34) := (hF_33 41 34 (fun h => absurd h.2 (ni rfl))).trans (hid kn_268)
                  have kn_270 : Hid (c_149 41 34 = c 41 34) := (hF_151 41 34 qn_14d4d2881).trans (hid kn_269)
                  have kn_271 : Hid (c_202 41 34 = c 41 34) := (hF_204 41 34 qn_14d4d2881).trans (hid kn_270)
                  have kn_272 : Hid (c_257 41 34 = c 41 34) := (hF_259 41 34 qn_14d4d2881).trans (hid kn_271)
                  have h_273 : c_257 41 34 = c 41 34 := (hid kn_272)
                  have h_274 : c_257 41 34 = c 41 34 := (hid kn_272)
                  refine v_cv c_185_163 km_8_301 rfl rfl (Nat.le_of_ble_eq_true rfl) ⟨⟨rfl, rfl⟩, Nat.le_of_ble_eq_true rfl, rfl⟩ (Nat.le_of_ble_eq_true rfl) (Nat.le_of_ble_eq_true rfl) (s_181 (a1 := y_19) (a2 := y_152) (a3 := y_205) (a4 := y_260) (a5 := 0) hI_258 (show 0 ≤ y_19 ∧ y_19 ≤ 7 from ⟨(q_1d1177327 h_212), hy_19.2⟩) (show 0 ≤ y_152 ∧ y_152 ≤ 40 from ⟨hy_152.1, (ler hy_152.2 rfl)⟩) (show 0 ≤ y_205 ∧ y_205 ≤ 5 from hy_205) (show 0 ≤ y_260 ∧ y_260 ≤ 999 from ⟨hy_260.1, (q_4abc9fb0a h_263)⟩) (show 0 ≤ 0 ∧ 0 ≤ 5 from ⟨of_decide_eq_true rfl, of_decide_eq_true rfl⟩) ((q_f9c88a064 hq4)) (Or.inr (Or.inr (by first | (clear ho hq0 hq1 hq5 h_1 h_2 h_3 h_4 h_5 h_15 h_16 h_17 h_18 h_38 h_34 h_157 h_153 h_158 h_159 h_210 h_206 h_211 h_266 h_261 h_267 h_11 h_13 h_14 h_21 h_22 h_35 h_36 h_37 h_39 h_40 h_41 h_143 h_154 h_155 h_156 h_207 h_208 h_209 h_262 h_263 h_264 h_265; omega) | omega))) (Or.inl ((q_488511fb3 h_212))) (Or.inl ((q_e215efd56 h_212))) (Or.inl ((q_81bf6df21 h_212))) (Or.inr (by first | (clear ho hq0 hq1 hq2 hq3 hq4 hq5 h_1 h_2 h_3 h_4 h_5 h_15 h_10 h_16 h_17 h_18 h_38 h_34 h_157 h_153 h_158 h_159 h_210 h_206 h_211 h_212 h_266 h_261 h_267 h_11 h_12 h_13 h_14 h_20 h_21 h_22 h_35 h_36 h_37 h_39 h_40 h_41 h_143 h_154 h_155 h_156 h_207 h_208 h_209 h_262 h_263 h_264 h_265; omega) | omega)) (Or.inl ((q_f6152d285 h_159))) (Or.inl ((q_71dc12fe2 h_159))) (Or.inl ((q_68ebfa386 h_159))) (fun c_275 hI_276 hF_277 h_278 h_279 h_280 => ?_))
                  refine bk_inl ?_
                  have h_281 := ir_41_34 hI_276
                  have h_282 : c_275 56 ((c_257 41 34)) = c_275 56 (c 41 34) := congrArg (c_275 56) (by first | assumption | exact Int.le_antisymm (by omega) (by omega))
                  have h_283 := ir_56 hI_276 (c 41 34)
                  refine q_aload_n c_185_166 rfl (v_bip c_185_167 (of_decide_eq_true rfl) ?_)
                  have kn_284 : Hid (c_275 41 4 = c_257 41 4) := hF_277 41 4 (fun q => q.elim (fun h => absurd h.2 (ni rfl)) (fun h => absurd h.1 (nn rfl)))
                  have h_285 : c_275 41 4 = c_257 41 4 := (hid kn_284)
                  have kn_286 : Hid (c_257 41 3 = c 41 3) := (hF_259 41 3 qn_97fd72088).trans (hid kn_255)
                  have kn_287 : Hid (c_275 41 3 = c 41 3) := (hF_277 41 3 (fun q => q.elim (fun h => absurd h.2 (ni rfl)) (fun h => absurd h.1 (nn rfl)))).trans (hid kn_286)
                  have h_288 : c_275 41 3 = c 41 3 := (hid kn_287)
                  have kn_289 : Hid (c_275 41 5 = c_257 41 5) := hF_277 41 5 (fun q => q.elim (fun h => absurd h.2 (ni rfl)) (fun h => absurd h.1 (nn rfl)))
                  have h_290 : c_275 41 5 = c_257 41 5 := (hid kn_289)
                  refine v_cv c_185_169 km_8_229 rfl rfl (Nat.le_of_ble_eq_true rfl) ⟨⟨rfl, rfl⟩, Nat.le_of_ble_eq_true rfl, rfl⟩ (Nat.le_of_ble_eq_true rfl) (Nat.le_of_ble_eq_true rfl) (s_161 (a1 := 59) hI_276 (show 1 ≤ 59 ∧ 59 ≤ 255 from ⟨of_decide_eq_true rfl, of_decide_eq_true rfl⟩) (fun c_291 hI_292 hF_293 h_294 h_295 h_296 h_297 => (bk_inl ?_)))
                  have h_298 := ir_41_4 hI_292
                  have h_299 := ir_41_5 hI_292
                  refine q_vret rfl rfl ?_
                  have kn_300 : Hid (c_291 41 34 = c_275 41 34) := hF_293 41 34 qn_14d4d2881
                  have h_301 : c_291 41 34 = c_275 41 34 := (hid kn_300)
                  have h_302 : c_291 41 34 = c_275 41 34 := (hid kn_300)
                  have kn_303 : Hid (c_6 41 7 = c 41 7) := hF_8 41 7 (fun h => absurd h.2 (ni rfl))
                  have kn_304 : Hid (c_31 41 7 = c 41 7) := (hF_33 41 7 (fun h => absurd h.2 (ni rfl))).trans (hid kn_303)
                  have kn_305 : Hid (c_149 41 7 = c 41 7) := (hF_151 41 7 qn_fb1117a24).trans (hid kn_304)
                  have kn_306 : Hid (c_202 41 7 = c 41 7) := (hF_204 41 7 qn_fb1117a24).trans (hid kn_305)
                  have kn_307 : Hid (c_257 41 7 = c 41 7) := (hF_259 41 7 qn_fb1117a24).trans (hid kn_306)
                  have kn_308 : Hid (c_275 41 7 = c 41 7) := (hF_277 41 7 (fun q => q.elim (fun h => absurd h.2 (ni rfl)) (fun h => absurd h.1 (nn rfl)))).trans (hid kn_307)
                  have kn_309 : Hid (c_291 41 7 = c 41 7) := (hF_293 41 7 qn_fb1117a24).trans (hid kn_308)
                  have h_310 : c_291 41 7 = c 41 7 := (hid kn_309)
                  have hb9 : c_291 41 5 = c_291 41 5 := rfl
                  have hn9 : c_291 41 34 = c_275 41 34 := (hid kn_300)
                  have kn_311 : Hid (c_291 56 (c 41 34) = c_275 56 (c 41 34)) := hF_293 56 (c 41 34) qn_01f0bccfb
                  have hq9 : c_291 56 (c 41 34) = c_275 56 (c 41 34) := (hid kn_311)
                  exact K c_291 hI_292 (fun a j hm => (hF_293 a j (qv_b6152c67a hm)).trans ((hF_277 a j (fun q => q.elim (fun h => hm (Or.inr (Or.inr (Or.inr (Or.inr (Or.inl h)))))) (fun h => hm (Or.inr (Or.inr (Or.inr (Or.inr (Or.inr ⟨h.1, (Int.le_trans ((q_e074ea49a)) h.2)⟩)))))))).trans ((hF_259 a j (qv_b6152c67a hm)).trans ((hF_204 a j (qv_b6152c67a hm)).trans ((hF_151 a j (qv_b6152c67a hm)).trans ((hF_33 a j (fun h => hm (Or.inl h))).trans (hF_8 a j (fun h => hm (Or.inl h))))))))) ((q_b19110ff6 h_10 h_153 h_206 h_261 h_294 h_34 h_285)) (by first | assumption | omega) ((q_6a6ad27d8 h_10 h_153 h_156 h_206 h_209 h_261 h_265 h_279 h_280 h_294 h_34 h_145 h_148 h_201 h_256 h_273 h_285)) (Or.inr (Or.inr ⟨(q_fb8025653 h_11 h_154 h_207 h_262 h_295 h_35 hq1 h_145 h_201 h_256 h_288 h_285 h_24), by first | (clear ho hq0 hq1 hq2 hq3 hq4 hq5 h_1 h_2 h_3 h_4 h_5 h_15 h_16 h_17 h_18 h_38 h_34 h_157 h_158 h_159 h_210 h_211 h_266 h_267 h_281 h_278 h_283 h_298 h_299 h_11 h_14 h_21 h_22 h_35 h_37 h_39 h_40 h_41 h_143 h_154 h_155 h_156 h_207 h_208 h_209 h_262 h_263 h_264 h_265 h_279 h_280 h_295 h_296 h_297; omega) | omega⟩)) ((q_f9c88a064 h_278)) ((q_1f022678a h_279 h_280 h_273)) (fun h9 => ap_one (by first | (clear ho hq0 hq1 hq2 hq3 hq4 hq5 h_1 h_2 h_3 h_4 h_5 h_15 h_10 h_16 h_17 h_18 h_38 h_34 h_157 h_153 h_158 h_159 h_210 h_206 h_211 h_266 h_261 h_267 h_281 h_278 h_283 h_298 h_294 h_299 h_11 h_12 h_13 h_14 h_20 h_21 h_22 h_35 h_36 h_37 h_39 h_40 h_41 h_143 h_154 h_155 h_156 h_207 h_208 h_209 h_262 h_263 h_264 h_265 h_280 h_295 h_297; omega) | omega) (by first | assumption | omega) (Int.le_antisymm (by first | (clear ho hq0 hq1 hq2 hq3 hq4 hq5 h_1 h_2 h_3 h_4 h_5 h_15 h_10 h_16 h_17 h_18 h_38 h_34 h_157 h_153 h_158 h_159 h_210 h_206 h_211 h_212 h_266 h_261 h_267 h_281 h_278 h_283 h_298 h_294 h_299 h9 h_11 h_12 h_13 h_14 h_20 h_21 h_22 h_35 h_36 h_37 h_39 h_40 h_41 h_143 h_154 h_155 h_156 h_207 h_208 h_209 h_262 h_263 h_264 h_265 h_295 h_296 h_297; omega) | omega) (by first | (clear ho hq0 hq1 hq2 hq3 hq4 hq5 h_1 h_2 h_3 h_4 h_5 h_15 h_10 h_16 h_17 h_18 h_38 h_34 h_157 h_153 h_158 h_159 h_210 h_206 h_211 h_212 h_266 h_261 h_267 h_281 h_278 h_283 h_298 h_294 h_299 h_11 h_12 h_13 h_14 h_20 h_21 h_22 h_35 h_36 h_37 h_39 h_40 h_41 h_143 h_154 h_155 h_156 h_207 h_208 h_209 h_262 h_263 h_264 h_265 h_280 h_295 h_297; omega) | omega)))
            · refine v_ic_ne_f (t := 94) c_185_77 rfl (Decidable.not_not.mp h_143) (q_aload_n c_185_80 rfl (q_iconst c_185_81 (q_aload_n c_185_82 rfl ?_)))
              have h_312 := ir_41_22 hI
              have kn_313 : Hid (c_6 41 22 = c 41 22) := hF_8 41 22 (fun h => absurd h.2 (ni rfl))
              have kn_314 : Hid (c_31 41 22 = c 41 22) := (hF_33 41 22 (fun h => absurd h.2 (ni rfl))).trans (hid kn_313)
              refine v_gi (z := 22) (v := c 41 22) c_185_83 kf_8_163 rfl (Nat.le_of_ble_eq_true rfl) rfl rfl (hid kn_314) (q_iconst c_185_86 (v_isub (v := c 41 22 - 1) c_185_87 rfl ?_))
              have kn_315 : Hid (c_31 41 3 = c 41 3) := (hF_33 41 3 (fun h => absurd h.2 (ni rfl))).trans (hid kn_23)
              have h_316 : c_31 41 3 = c 41 3 := (hid kn_315)
              have kn_317 : Hid (c_6 41 5 = c 41 5) := hF_8 41 5 (fun h => absurd h.2 (ni rfl))
              have kn_318 : Hid (c_31 41 5 = c 41 5) := (hF_33 41 5 (fun h => absurd h.2 (ni rfl))).trans (hid kn_317)
              have h_319 : c_31 41 5 = c 41 5 := (hid kn_318)
              refine v_cv c_185_88 km_8_199 rfl rfl (Nat.le_of_ble_eq_true rfl) ⟨⟨rfl, rfl⟩, Nat.le_of_ble_eq_true rfl, rfl⟩ (Nat.le_of_ble_eq_true rfl) (Nat.le_of_ble_eq_true rfl) (s_160 (a1 := 0) (a2 := c 41 22 - 1) hI_32 (show 0 ≤ 0 ∧ 0 ≤ 1 from ⟨of_decide_eq_true rfl, of_decide_eq_true rfl⟩) (show (-1) ≤ c 41 22 - 1 ∧ c 41 22 - 1 ≤ 9999 from ⟨(q_452b39485 h_312), (q_6915b49e7 h_312)⟩) (fun c_320 y_323 hI_321 hF_322 hy_323 h_324 h_325 h_326 h_327 h_328 => (bk_inl ?_)))
              have h_329 := ir_41_4 hI_321
              have h_330 := ir_41_5 hI_321
              refine q_goto (t := 98) c_185_91 rfl (q_istore_n c_185_98 (Nat.le_of_ble_eq_true rfl) (q_iload_n c_185_99 rfl (q_iconst c_185_100 (v_ic_ge_t (t := 111) c_185_101 rfl ⟨of_decide_eq_true rfl, (q_f264c8061 h_143), (ler hy_19.2 rfl)⟩ (q_iconst c_185_111 (q_istore_n c_185_112 (Nat.le_of_ble_eq_true rfl) (q_iload_n c_185_113 rfl ?_)))))))
              refine q_iconst c_185_114 (v_ic_ne_t (t := 125) c_185_115 rfl ⟨(q_275796c64 h_143), ⟨(lel hy_19.1 rfl), (ler hy_19.2 rfl)⟩, of_decide_eq_true rfl, of_decide_eq_true rfl⟩ (q_iload_n c_185_125 rfl (q_iconst c_185_126 (v_ic_ne_t (t := 141) c_185_127 rfl ⟨(q_2dbeaab3f h_143), ⟨(lel hy_19.1 rfl), (ler hy_19.2 rfl)⟩, of_decide_eq_true rfl, of_decide_eq_true rfl⟩ (q_iconst c_185_141 (q_istore c_185_142 (Nat.le_of_ble_eq_true rfl) (q_aload_n c_185_144 rfl ?_)))))))
              refine q_iload_n c_185_145 rfl (q_iload_n c_185_146 rfl (q_iload_n c_185_147 rfl (q_iload c_185_148 rfl (q_iload_n c_185_150 rfl (q_iconst c_185_151 (v_ic_ne_t (t := 162) c_185_152 rfl ⟨(q_275796c64 h_143), ⟨(lel hy_19.1 rfl), (ler hy_19.2 rfl)⟩, of_decide_eq_true rfl, of_decide_eq_true rfl⟩ (q_iconst c_185_162 ?_)))))))
              have kn_331 : Hid (c_6 41 34 = c 41 34) := hF_8 41 34 (fun h => absurd h.2 (ni rfl))
              have kn_332 : Hid (c_31 41 34 = c 41 34) := (hF_33 41 34 (fun h => absurd h.2 (ni rfl))).trans (hid kn_331)
              have kn_333 : Hid (c_320 41 34 = c 41 34) := (hF_322 41 34 qn_14d4d2881).trans (hid kn_332)
              have h_334 : c_320 41 34 = c 41 34 := (hid kn_333)
              have h_335 : c_320 41 34 = c 41 34 := (hid kn_333)
              refine v_cv c_185_163 km_8_301 rfl rfl (Nat.le_of_ble_eq_true rfl) ⟨⟨rfl, rfl⟩, Nat.le_of_ble_eq_true rfl, rfl⟩ (Nat.le_of_ble_eq_true rfl) (Nat.le_of_ble_eq_true rfl) (s_181 (a1 := y_19) (a2 := y_323) (a3 := 0) (a4 := 0) (a5 := 0) hI_321 (show 0 ≤ y_19 ∧ y_19 ≤ 7 from ⟨(q_68da7af7f h_143), hy_19.2⟩) (show 0 ≤ y_323 ∧ y_323 ≤ 40 from ⟨hy_323.1, (q_457dde627 h_312 h_326)⟩) (show 0 ≤ 0 ∧ 0 ≤ 5 from ⟨of_decide_eq_true rfl, of_decide_eq_true rfl⟩) (show 0 ≤ 0 ∧ 0 ≤ 999 from ⟨of_decide_eq_true rfl, of_decide_eq_true rfl⟩) (show 0 ≤ 0 ∧ 0 ≤ 5 from ⟨of_decide_eq_true rfl, of_decide_eq_true rfl⟩) ((q_f9c88a064 hq4)) (Or.inr (Or.inr (by first | (clear ho hq0 hq1 hq5 h_1 h_2 h_3 h_4 h_5 h_15 h_16 h_17 h_18 h_38 h_34 h_312 h_329 h_324 h_330 h_11 h_13 h_14 h_21 h_22 h_35 h_36 h_37 h_39 h_40 h_41 h_325 h_326 h_327 h_328; omega) | omega))) (Or.inl ((q_69e9f4ea1 h_143))) (Or.inl ((q_275796c64 h_143))) (Or.inl ((q_ae7ba78a4 h_143))) (Or.inl ((q_2dbeaab3f h_143))) (Or.inr ((q_b3cc29c66 h_312 h_326))) (Or.inl ((q_1b518e3e9 h_143))) (Or.inl ((q_61b06fbf7 h_143))) (fun c_336 hI_337 hF_338 h_339 h_340 h_341 => (bk_inl ?_)))
              have h_342 := ir_41_34 hI_337
              have h_343 : c_336 56 ((c_320 41 34)) = c_336 56 (c 41 34) := congrArg (c_336 56) (by first | assumption | exact Int.le_antisymm (by omega) (by omega))
              have h_344 := ir_56 hI_337 (c 41 34)
              refine q_aload_n c_185_166 rfl (v_bip c_185_167 (of_decide_eq_true rfl) ?_)
              have kn_345 : Hid (c_336 41 4 = c_320 41 4) := hF_338 41 4 (fun q => q.elim (fun h => absurd h.2 (ni rfl)) (fun h => absurd h.1 (nn rfl)))
              have h_346 : c_336 41 4 = c_320 41 4 := (hid kn_345)
              have kn_347 : Hid (c_320 41 3 = c 41 3) := (hF_322 41 3 qn_97fd72088).trans (hid kn_315)
              have kn_348 : Hid (c_336 41 3 = c 41 3) := (hF_338 41 3 (fun q => q.elim (fun h => absurd h.2 (ni rfl)) (fun h => absurd h.1 (nn rfl)))).trans (hid kn_347)
              have h_349 : c_336 41 3 = c 41 3 := (hid kn_348)
              have kn_350 : Hid (c_336 41 5 = c_320 41 5) := hF_338 41 5 (fun q => q.elim (fun h => absurd h.2 (ni rfl)) (fun h => absurd h.1 (nn rfl)))
              have h_351 : c_336 41 5 = c_320 41 5 := (hid kn_350)
              refine v_cv c_185_169 km_8_229 rfl rfl (Nat.le_of_ble_eq_true rfl) ⟨⟨rfl, rfl⟩, Nat.le_of_ble_eq_true rfl, rfl⟩ (Nat.le_of_ble_eq_true rfl) (Nat.le_of_ble_eq_true rfl) (s_161 (a1 := 59) hI_337 (show 1 ≤ 59 ∧ 59 ≤ 255 from ⟨of_decide_eq_true rfl, of_decide_eq_true rfl⟩) (fun c_352 hI_353 hF_354 h_355 h_356 h_357 h_358 => (bk_inl ?_)))
              have h_359 := ir_41_4 hI_353
              have h_360 := ir_41_5 hI_353
              refine q_vret rfl rfl ?_
              have kn_361 : Hid (c_352 41 34 = c_336 41 34) := hF_354 41 34 qn_14d4d2881
              have h_362 : c_352 41 34 = c_336 41 34 := (hid kn_361)
              have h_363 : c_352 41 34 = c_336 41 34 := (hid kn_361)
              have kn_364 : Hid (c_6 41 7 = c 41 7) := hF_8 41 7 (fun h => absurd h.2 (ni rfl))
              have kn_365 : Hid (c_31 41 7 = c 41 7) := (hF_33 41 7 (fun h => absurd h.2 (ni rfl))).trans (hid kn_364)
              have kn_366 : Hid (c_320 41 7 = c 41 7) := (hF_322 41 7 qn_fb1117a24).trans (hid kn_365)
              have kn_367 : Hid (c_336 41 7 = c 41 7) := (hF_338 41 7 (fun q => q.elim (fun h => absurd h.2 (ni rfl)) (fun h => absurd h.1 (nn rfl)))).trans (hid kn_366)
              have kn_368 : Hid (c_352 41 7 = c 41 7) := (hF_354 41 7 qn_fb1117a24).trans (hid kn_367)
              have h_369 : c_352 41 7 = c 41 7 := (hid kn_368)
              have hb9 : c_352 41 5 = c_352 41 5 := rfl
              have hn9 : c_352 41 34 = c_336 41 34 := (hid kn_361)
              have kn_370 : Hid (c_352 56 (c 41 34) = c_336 56 (c 41 34)) := hF_354 56 (c 41 34) qn_01f0bccfb
              have hq9 : c_352 56 (c 41 34) = c_336 56 (c 41 34) := (hid kn_370)
              exact K c_352 hI_353 (fun a j hm => (hF_354 a j (qv_b6152c67a hm)).trans ((hF_338 a j (fun q => q.elim (fun h => hm (Or.inr (Or.inr (Or.inr (Or.inr (Or.inl h)))))) (fun h => hm (Or.inr (Or.inr (Or.inr (Or.inr (Or.inr ⟨h.1, (Int.le_trans ((q_e074ea49a)) h.2)⟩)))))))).trans ((hF_322 a j (qv_b6152c67a hm)).trans ((hF_33 a j (fun h => hm (Or.inl h))).trans (hF_8 a j (fun h => hm (Or.inl h))))))) ((q_64c2af1c6 h_10 h_324 h_34 h_355 h_346)) (by first | assumption | omega) (by first | (clear ho hq0 hq1 hq2 hq3 hq4 hq5 h_1 h_2 h_3 h_4 h_5 h_15 h_16 h_17 h_18 h_38 h_34 h_312 h_329 h_330 h_342 h_339 h_344 h_359 h_360 h_11 h_12 h_21 h_22 h_35 h_36 h_39 h_40 h_41 h_325 h_326 h_327 h_328 h_356 h_357 h_358; omega) | omega) (Or.inr (Or.inr ⟨(q_1cbdd7dc3 h_11 h_325 h_35 h_356 hq1 h_316 h_24 h_349 h_346), by first | (clear ho hq0 hq1 hq2 hq3 hq4 hq5 h_1 h_2 h_3 h_4 h_5 h_15 h_16 h_17 h_18 h_38 h_34 h_312 h_329 h_330 h_342 h_339 h_344 h_359 h_360 h_11 h_14 h_21 h_22 h_35 h_37 h_39 h_40 h_41 h_325 h_326 h_327 h_328 h_340 h_341 h_356 h_357 h_358; omega) | omega⟩)) ((q_f9c88a064 h_339)) ((q_1f022678a h_340 h_341 h_334)) (fun h9 => ap_one (by first | (clear ho hq0 hq1 hq2 hq3 hq4 hq5 h_1 h_2 h_3 h_4 h_5 h_15 h_10 h_16 h_17 h_18 h_38 h_34 h_312 h_329 h_324 h_330 h_342 h_339 h_344 h_359 h_355 h_360 h_11 h_12 h_13 h_14 h_20 h_21 h_22 h_35 h_36 h_37 h_39 h_40 h_41 h_325 h_326 h_327 h_328 h_341 h_356 h_358; omega) | omega) (by first | assumption | omega) (Int.le_antisymm (by first | (clear ho hq0 hq1 hq2 hq3 hq4 hq5 h_1 h_2 h_3 h_4 h_5 h_15 h_10 h_16 h_17 h_18 h_38 h_34 h_143 h_312 h_329 h_324 h_330 h_342 h_339 h_344 h_359 h_355 h_360 h9 h_11 h_12 h_13 h_14 h_20 h_21 h_22 h_35 h_36 h_37 h_39 h_40 h_41 h_325 h_326 h_327 h_328 h_356 h_357 h_358; omega) | omega) (by first | (clear ho hq0 hq1 hq2 hq3 hq4 hq5 h_1 h_2 h_3 h_4 h_5 h_15 h_10 h_16 h_17 h_18 h_38 h_34 h_143 h_312 h_329 h_324 h_330 h_342 h_339 h_344 h_359 h_355 h_360 h_11 h_12 h_13 h_14 h_20 h_21 h_22 h_35 h_36 h_37 h_39 h_40 h_41 h_325 h_326 h_327 h_328 h_341 h_356 h_358; omega) | omega)))
        · refine v_if_ne_f (t := 70) c_185_53 rfl (Decidable.not_not.mp h_40) (q_aload_n c_185_56 rfl (q_iconst c_185_57 (q_aload_n c_185_58 rfl ?_)))
          have h_371 := ir_41_21 hI
          have kn_372 : Hid (c_6 41 21 = c 41 21) := hF_8 41 21 (fun h => absurd h.2 (ni rfl))
          have kn_373 : Hid (c_31 41 21 = c 41 21) := (hF_33 41 21 (fun h => absurd h.2 (ni rfl))).trans (hid kn_372)
          refine v_gi (z := 21) (v := c 41 21) c_185_59 kf_8_160 rfl (Nat.le_of_ble_eq_true rfl) rfl rfl (hid kn_373) (q_iconst c_185_62 (v_isub (v := c 41 21 - 1) c_185_63 rfl ?_))
          have kn_374 : Hid (c_31 41 3 = c 41 3) := (hF_33 41 3 (fun h => absurd h.2 (ni rfl))).trans (hid kn_23)
          have h_375 : c_31 41 3 = c 41 3 := (hid kn_374)
          have kn_376 : Hid (c_6 41 5 = c 41 5) := hF_8 41 5 (fun h => absurd h.2 (ni rfl))
          have kn_377 : Hid (c_31 41 5 = c 41 5) := (hF_33 41 5 (fun h => absurd h.2 (ni rfl))).trans (hid kn_376)
          have h_378 : c_31 41 5 = c 41 5 := (hid kn_377)
          refine v_cv c_185_64 km_8_199 rfl rfl (Nat.le_of_ble_eq_true rfl) ⟨⟨rfl, rfl⟩, Nat.le_of_ble_eq_true rfl, rfl⟩ (Nat.le_of_ble_eq_true rfl) (Nat.le_of_ble_eq_true rfl) (s_160 (a1 := 0) (a2 := c 41 21 - 1) hI_32 (show 0 ≤ 0 ∧ 0 ≤ 1 from ⟨of_decide_eq_true rfl, of_decide_eq_true rfl⟩) (show (-1) ≤ c 41 21 - 1 ∧ c 41 21 - 1 ≤ 9999 from ⟨(q_452b39485 h_371), (q_6915b49e7 h_371)⟩) (fun c_379 y_382 hI_380 hF_381 hy_382 h_383 h_384 h_385 h_386 h_387 => (bk_inl ?_)))
          have h_388 := ir_41_4 hI_380
          have h_389 := ir_41_5 hI_380
          refine q_goto (t := 98) c_185_67 rfl (q_istore_n c_185_98 (Nat.le_of_ble_eq_true rfl) (q_iload_n c_185_99 rfl (q_iconst c_185_100 (v_ic_ge_f (t := 111) c_185_101 rfl ⟨(lel hy_19.1 rfl), (q_326a9c436 h_40), of_decide_eq_true rfl⟩ (q_aload_n c_185_104 rfl ?_)))))
          have kn_390 : Hid (c_379 41 3 = c 41 3) := (hF_381 41 3 qn_97fd72088).trans (hid kn_374)
          have h_391 : c_379 41 3 = c 41 3 := (hid kn_390)
          refine v_cv c_185_105 km_8_314 rfl rfl (Nat.le_of_ble_eq_true rfl) ⟨⟨rfl, rfl⟩, Nat.le_of_ble_eq_true rfl, rfl⟩ (Nat.le_of_ble_eq_true rfl) (Nat.le_of_ble_eq_true rfl) (s_183 hI_380 (fun c_392 y_395 hI_393 hF_394 hy_395 h_396 h_397 h_398 h_399 => (bk_inl ?_)))
          have h_400 := ir_41_4 hI_393
          have h_401 := ir_41_5 hI_393
          refine q_goto (t := 112) c_185_108 rfl (q_istore_n c_185_112 (Nat.le_of_ble_eq_true rfl) (q_iload_n c_185_113 rfl (q_iconst c_185_114 (v_ic_ne_t (t := 125) c_185_115 rfl ⟨(q_9c5620e1f h_40), ⟨(lel hy_19.1 rfl), (ler hy_19.2 rfl)⟩, of_decide_eq_true rfl, of_decide_eq_true rfl⟩ (q_iload_n c_185_125 rfl (q_iconst c_185_126 (v_ic_ne_t (t := 141) c_185_127 rfl ⟨(q_471b3f52b h_40), ⟨(lel hy_19.1 rfl), (ler hy_19.2 rfl)⟩, of_decide_eq_true rfl, of_decide_eq_true rfl⟩ ?_)))))))
          refine q_iconst c_185_141 (q_istore c_185_142 (Nat.le_of_ble_eq_true rfl) (q_aload_n c_185_144 rfl (q_iload_n c_185_145 rfl (q_iload_n c_185_146 rfl (q_iload_n c_185_147 rfl (q_iload c_185_148 rfl (q_iload_n c_185_150 rfl ?_)))))))
          refine q_iconst c_185_151 (v_ic_ne_t (t := 162) c_185_152 rfl ⟨(q_9c5620e1f h_40), ⟨(lel hy_19.1 rfl), (ler hy_19.2 rfl)⟩, of_decide_eq_true rfl, of_decide_eq_true rfl⟩ (q_iconst c_185_162 ?_))
          have kn_402 : Hid (c_6 41 34 = c 41 34) := hF_8 41 34 (fun h => absurd h.2 (ni rfl))
          have kn_403 : Hid (c_31 41 34 = c 41 34) := (hF_33 41 34 (fun h => absurd h.2 (ni rfl))).trans (hid kn_402)
          have kn_404 : Hid (c_379 41 34 = c 41 34) := (hF_381 41 34 qn_14d4d2881).trans (hid kn_403)
          have kn_405 : Hid (c_392 41 34 = c 41 34) := (hF_394 41 34 qn_14d4d2881).trans (hid kn_404)
          have h_406 : c_392 41 34 = c 41 34 := (hid kn_405)
          have h_407 : c_392 41 34 = c 41 34 := (hid kn_405)
          refine v_cv c_185_163 km_8_301 rfl rfl (Nat.le_of_ble_eq_true rfl) ⟨⟨rfl, rfl⟩, Nat.le_of_ble_eq_true rfl, rfl⟩ (Nat.le_of_ble_eq_true rfl) (Nat.le_of_ble_eq_true rfl) (s_181 (a1 := y_19) (a2 := y_382) (a3 := y_395) (a4 := 0) (a5 := 0) hI_393 (show 0 ≤ y_19 ∧ y_19 ≤ 7 from ⟨(q_c627fad14 h_40), hy_19.2⟩) (show 0 ≤ y_382 ∧ y_382 ≤ 40 from ⟨hy_382.1, (q_457dde627 h_371 h_385)⟩) (show 0 ≤ y_395 ∧ y_395 ≤ 5 from hy_395) (show 0 ≤ 0 ∧ 0 ≤ 999 from ⟨of_decide_eq_true rfl, of_decide_eq_true rfl⟩) (show 0 ≤ 0 ∧ 0 ≤ 5 from ⟨of_decide_eq_true rfl, of_decide_eq_true rfl⟩) ((q_f9c88a064 hq4)) (Or.inr (Or.inr (by first | (clear ho hq0 hq1 hq5 h_1 h_2 h_3 h_4 h_5 h_15 h_16 h_17 h_18 h_38 h_34 h_371 h_388 h_383 h_389 h_400 h_396 h_401 h_11 h_13 h_14 h_21 h_22 h_35 h_36 h_37 h_39 h_384 h_385 h_386 h_387 h_397 h_398 h_399; omega) | omega))) (Or.inr ((q_b3cc29c66 h_371 h_385))) (Or.inl ((q_9c5620e1f h_40))) (Or.inl ((q_43ee89330 h_40))) (Or.inl ((q_471b3f52b h_40))) (Or.inl ((q_b7c71017b h_40))) (Or.inl ((q_563bbb240 h_40))) (Or.inl ((q_78f4a68c8 h_40))) (fun c_408 hI_409 hF_410 h_411 h_412 h_413 => (bk_inl ?_)))
          have h_414 := ir_41_34 hI_409
          have h_415 : c_408 56 ((c_392 41 34)) = c_408 56 (c 41 34) := congrArg (c_408 56) (by first | assumption | exact Int.le_antisymm (by omega) (by omega))
          have h_416 := ir_56 hI_409 (c 41 34)
          refine q_aload_n c_185_166 rfl (v_bip c_185_167 (of_decide_eq_true rfl) ?_)
          have kn_417 : Hid (c_408 41 4 = c_392 41 4) := hF_410 41 4 (fun q => q.elim (fun h => absurd h.2 (ni rfl)) (fun h => absurd h.1 (nn rfl)))
          have h_418 : c_408 41 4 = c_392 41 4 := (hid kn_417)
          have kn_419 : Hid (c_392 41 3 = c 41 3) := (hF_394 41 3 qn_97fd72088).trans (hid kn_390)
          have kn_420 : Hid (c_408 41 3 = c 41 3) := (hF_410 41 3 (fun q => q.elim (fun h => absurd h.2 (ni rfl)) (fun h => absurd h.1 (nn rfl)))).trans (hid kn_419)
          have h_421 : c_408 41 3 = c 41 3 := (hid kn_420)
          have kn_422 : Hid (c_408 41 5 = c_392 41 5) := hF_410 41 5 (fun q => q.elim (fun h => absurd h.2 (ni rfl)) (fun h => absurd h.1 (nn rfl)))
          have h_423 : c_408 41 5 = c_392 41 5 := (hid kn_422)
          refine v_cv c_185_169 km_8_229 rfl rfl (Nat.le_of_ble_eq_true rfl) ⟨⟨rfl, rfl⟩, Nat.le_of_ble_eq_true rfl, rfl⟩ (Nat.le_of_ble_eq_true rfl) (Nat.le_of_ble_eq_true rfl) (s_161 (a1 := 59) hI_409 (show 1 ≤ 59 ∧ 59 ≤ 255 from ⟨of_decide_eq_true rfl, of_decide_eq_true rfl⟩) (fun c_424 hI_425 hF_426 h_427 h_428 h_429 h_430 => (bk_inl ?_)))
          have h_431 := ir_41_4 hI_425
          have h_432 := ir_41_5 hI_425
          refine q_vret rfl rfl ?_
          have kn_433 : Hid (c_424 41 34 = c_408 41 34) := hF_426 41 34 qn_14d4d2881
          have h_434 : c_424 41 34 = c_408 41 34 := (hid kn_433)
          have h_435 : c_424 41 34 = c_408 41 34 := (hid kn_433)
          have kn_436 : Hid (c_6 41 7 = c 41 7) := hF_8 41 7 (fun h => absurd h.2 (ni rfl))
          have kn_437 : Hid (c_31 41 7 = c 41 7) := (hF_33 41 7 (fun h => absurd h.2 (ni rfl))).trans (hid kn_436)
          have kn_438 : Hid (c_379 41 7 = c 41 7) := (hF_381 41 7 qn_fb1117a24).trans (hid kn_437)
          have kn_439 : Hid (c_392 41 7 = c 41 7) := (hF_394 41 7 qn_fb1117a24).trans (hid kn_438)
          have kn_440 : Hid (c_408 41 7 = c 41 7) := (hF_410 41 7 (fun q => q.elim (fun h => absurd h.2 (ni rfl)) (fun h => absurd h.1 (nn rfl)))).trans (hid kn_439)
          have kn_441 : Hid (c_424 41 7 = c 41 7) := (hF_426 41 7 qn_fb1117a24).trans (hid kn_440)
          have h_442 : c_424 41 7 = c 41 7 := (hid kn_441)
          have hb9 : c_424 41 5 = c_424 41 5 := rfl
          have hn9 : c_424 41 34 = c_408 41 34 := (hid kn_433)
          have kn_443 : Hid (c_424 56 (c 41 34) = c_408 56 (c 41 34)) := hF_426 56 (c 41 34) qn_01f0bccfb
          have hq9 : c_424 56 (c 41 34) = c_408 56 (c 41 34) := (hid kn_443)
          exact K c_424 hI_425 (fun a j hm => (hF_426 a j (qv_b6152c67a hm)).trans ((hF_410 a j (fun q => q.elim (fun h => hm (Or.inr (Or.inr (Or.inr (Or.inr (Or.inl h)))))) (fun h => hm (Or.inr (Or.inr (Or.inr (Or.inr (Or.inr ⟨h.1, (Int.le_trans ((q_e074ea49a)) h.2)⟩)))))))).trans ((hF_394 a j (qv_b6152c67a hm)).trans ((hF_381 a j (qv_b6152c67a hm)).trans ((hF_33 a j (fun h => hm (Or.inl h))).trans (hF_8 a j (fun h => hm (Or.inl h)))))))) ((q_04b113730 h_10 h_34 h_383 h_396 h_427 h_418)) (by first | assumption | omega) (by first | (clear ho hq0 hq1 hq2 hq3 hq4 hq5 h_1 h_2 h_3 h_4 h_5 h_15 h_16 h_17 h_18 h_38 h_34 h_371 h_388 h_389 h_400 h_401 h_414 h_411 h_416 h_431 h_432 h_11 h_12 h_21 h_22 h_35 h_36 h_39 h_384 h_385 h_386 h_387 h_397 h_398 h_399 h_428 h_429 h_430; omega) | omega) (Or.inr (Or.inr ⟨(q_247a26009 h_11 h_35 h_384 h_397 h_428 hq1 h_24 h_375 h_391 h_421 h_418), by first | (clear ho hq0 hq1 hq2 hq3 hq4 hq5 h_1 h_2 h_3 h_4 h_5 h_15 h_16 h_17 h_18 h_38 h_34 h_371 h_388 h_389 h_400 h_401 h_414 h_411 h_416 h_431 h_432 h_11 h_14 h_21 h_22 h_35 h_37 h_39 h_384 h_385 h_386 h_387 h_397 h_398 h_399 h_412 h_413 h_428 h_429 h_430; omega) | omega⟩)) ((q_f9c88a064 h_411)) ((q_1f022678a h_412 h_413 h_406)) (fun h9 => ap_one (by first | (clear ho hq0 hq1 hq2 hq3 hq4 hq5 h_1 h_2 h_3 h_4 h_5 h_15 h_10 h_16 h_17 h_18 h_38 h_34 h_371 h_388 h_383 h_389 h_400 h_396 h_401 h_414 h_411 h_416 h_431 h_427 h_432 h_11 h_12 h_13 h_14 h_20 h_21 h_22 h_35 h_36 h_37 h_39 h_384 h_385 h_386 h_387 h_397 h_398 h_399 h_413 h_428 h_430; omega) | omega) (by first | assumption | omega) (Int.le_antisymm (by first | (clear ho hq0 hq1 hq2 hq3 hq4 hq5 h_1 h_2 h_3 h_4 h_5 h_15 h_10 h_16 h_17 h_18 h_38 h_34 h_40 h_371 h_388 h_383 h_389 h_400 h_396 h_401 h_414 h_411 h_416 h_431 h_427 h_432 h9 h_11 h_12 h_13 h_14 h_20 h_21 h_22 h_35 h_36 h_37 h_39 h_384 h_385 h_386 h_387 h_397 h_398 h_399 h_428 h_429 h_430; omega) | omega) (by first | (clear ho hq0 hq1 hq2 hq3 hq4 hq5 h_1 h_2 h_3 h_4 h_5 h_15 h_10 h_16 h_17 h_18 h_38 h_34 h_40 h_371 h_388 h_383 h_389 h_400 h_396 h_401 h_414 h_411 h_416 h_431 h_427 h_432 h_11 h_12 h_13 h_14 h_20 h_21 h_22 h_35 h_36 h_37 h_39 h_384 h_385 h_386 h_387 h_397 h_398 h_399 h_413 h_428 h_430; omega) | omega)))
      · refine v_ic_ne_f (t := 52) c_185_45 rfl (Decidable.not_not.mp h_39) (q_iconst c_185_48 (q_goto (t := 98) c_185_49 rfl (q_istore_n c_185_98 (Nat.le_of_ble_eq_true rfl) (q_iload_n c_185_99 rfl (q_iconst c_185_100 (v_ic_ge_t (t := 111) c_185_101 rfl ⟨of_decide_eq_true rfl, (q_8018c4608 h_39), (ler hy_19.2 rfl)⟩ (q_iconst c_185_111 ?_)))))))
        refine q_istore_n c_185_112 (Nat.le_of_ble_eq_true rfl) (q_iload_n c_185_113 rfl (q_iconst c_185_114 (v_ic_ne_t (t := 125) c_185_115 rfl ⟨(q_39e4e74bc h_39), ⟨(lel hy_19.1 rfl), (ler hy_19.2 rfl)⟩, of_decide_eq_true rfl, of_decide_eq_true rfl⟩ (q_iload_n c_185_125 rfl (q_iconst c_185_126 (v_ic_ne_t (t := 141) c_185_127 rfl ⟨(q_080f350ec h_39), ⟨(lel hy_19.1 rfl), (ler hy_19.2 rfl)⟩, of_decide_eq_true rfl, of_decide_eq_true rfl⟩ (q_iconst c_185_141 ?_)))))))
        refine q_istore c_185_142 (Nat.le_of_ble_eq_true rfl) (q_aload_n c_185_144 rfl (q_iload_n c_185_145 rfl (q_iload_n c_185_146 rfl (q_iload_n c_185_147 rfl (q_iload c_185_148 rfl (q_iload_n c_185_150 rfl (q_iconst c_185_151 ?_)))))))
        refine v_ic_ne_t (t := 162) c_185_152 rfl ⟨(q_39e4e74bc h_39), ⟨(lel hy_19.1 rfl), (ler hy_19.2 rfl)⟩, of_decide_eq_true rfl, of_decide_eq_true rfl⟩ (q_iconst c_185_162 ?_)
        have kn_444 : Hid (c_6 41 34 = c 41 34) := hF_8 41 34 (fun h => absurd h.2 (ni rfl))
        have kn_445 : Hid (c_31 41 34 = c 41 34) := (hF_33 41 34 (fun h => absurd h.2 (ni rfl))).trans (hid kn_444)
        have h_446 : c_31 41 34 = c 41 34 := (hid kn_445)
        have kn_447 : Hid (c_6 41 5 = c 41 5) := hF_8 41 5 (fun h => absurd h.2 (ni rfl))
        have kn_448 : Hid (c_31 41 5 = c 41 5) := (hF_33 41 5 (fun h => absurd h.2 (ni rfl))).trans (hid kn_447)
        have h_449 : c_31 41 5 = c 41 5 := (hid kn_448)
        have h_450 : c_31 41 34 = c 41 34 := (hid kn_445)
        refine v_cv c_185_163 km_8_301 rfl rfl (Nat.le_of_ble_eq_true rfl) ⟨⟨rfl, rfl⟩, Nat.le_of_ble_eq_true rfl, rfl⟩ (Nat.le_of_ble_eq_true rfl) (Nat.le_of_ble_eq_true rfl) (s_181 (a1 := y_19) (a2 := 0) (a3 := 0) (a4 := 0) (a5 := 0) hI_32 (show 0 ≤ y_19 ∧ y_19 ≤ 7 from ⟨(q_aa17faf97 h_39), hy_19.2⟩) (show 0 ≤ 0 ∧ 0 ≤ 40 from ⟨of_decide_eq_true rfl, of_decide_eq_true rfl⟩) (show 0 ≤ 0 ∧ 0 ≤ 5 from ⟨of_decide_eq_true rfl, of_decide_eq_true rfl⟩) (show 0 ≤ 0 ∧ 0 ≤ 999 from ⟨of_decide_eq_true rfl, of_decide_eq_true rfl⟩) (show 0 ≤ 0 ∧ 0 ≤ 5 from ⟨of_decide_eq_true rfl, of_decide_eq_true rfl⟩) ((q_f9c88a064 hq4)) (Or.inr (Or.inr (by first | (clear ho hq0 hq1 hq5 h_1 h_2 h_3 h_4 h_5 h_15 h_16 h_17 h_18 h_38 h_34 h_11 h_13 h_14 h_21 h_22 h_35 h_36 h_37; omega) | omega))) (Or.inl ((q_23505497d h_39))) (Or.inl ((q_39e4e74bc h_39))) (Or.inl ((q_671577633 h_39))) (Or.inl ((q_080f350ec h_39))) (Or.inl ((q_9ce06fa3c h_39))) (Or.inl ((q_5382f5b2b h_39))) (Or.inl ((q_34c6018dc h_39))) (fun c_451 hI_452 hF_453 h_454 h_455 h_456 => (bk_inl ?_)))
        have h_457 := ir_41_34 hI_452
        have h_458 : c_451 56 ((c_31 41 34)) = c_451 56 (c 41 34) := congrArg (c_451 56) (by first | assumption | exact Int.le_antisymm (by omega) (by omega))
        have h_459 := ir_56 hI_452 (c 41 34)
        refine q_aload_n c_185_166 rfl (v_bip c_185_167 (of_decide_eq_true rfl) ?_)
        have kn_460 : Hid (c_451 41 4 = c_31 41 4) := hF_453 41 4 (fun q => q.elim (fun h => absurd h.2 (ni rfl)) (fun h => absurd h.1 (nn rfl)))
        have h_461 : c_451 41 4 = c_31 41 4 := (hid kn_460)
        have kn_462 : Hid (c_31 41 3 = c 41 3) := (hF_33 41 3 (fun h => absurd h.2 (ni rfl))).trans (hid kn_23)
        have kn_463 : Hid (c_451 41 3 = c 41 3) := (hF_453 41 3 (fun q => q.elim (fun h => absurd h.2 (ni rfl)) (fun h => absurd h.1 (nn rfl)))).trans (hid kn_462)
        have h_464 : c_451 41 3 = c 41 3 := (hid kn_463)
        have kn_465 : Hid (c_451 41 5 = c 41 5) := (hF_453 41 5 (fun q => q.elim (fun h => absurd h.2 (ni rfl)) (fun h => absurd h.1 (nn rfl)))).trans (hid kn_448)
        have h_466 : c_451 41 5 = c 41 5 := (hid kn_465)
        refine v_cv c_185_169 km_8_229 rfl rfl (Nat.le_of_ble_eq_true rfl) ⟨⟨rfl, rfl⟩, Nat.le_of_ble_eq_true rfl, rfl⟩ (Nat.le_of_ble_eq_true rfl) (Nat.le_of_ble_eq_true rfl) (s_161 (a1 := 59) hI_452 (show 1 ≤ 59 ∧ 59 ≤ 255 from ⟨of_decide_eq_true rfl, of_decide_eq_true rfl⟩) (fun c_467 hI_468 hF_469 h_470 h_471 h_472 h_473 => (bk_inl ?_)))
        have h_474 := ir_41_4 hI_468
        have h_475 := ir_41_5 hI_468
        refine q_vret rfl rfl ?_
        have kn_476 : Hid (c_467 41 34 = c_451 41 34) := hF_469 41 34 qn_14d4d2881
        have h_477 : c_467 41 34 = c_451 41 34 := (hid kn_476)
        have h_478 : c_467 41 34 = c_451 41 34 := (hid kn_476)
        have kn_479 : Hid (c_6 41 7 = c 41 7) := hF_8 41 7 (fun h => absurd h.2 (ni rfl))
        have kn_480 : Hid (c_31 41 7 = c 41 7) := (hF_33 41 7 (fun h => absurd h.2 (ni rfl))).trans (hid kn_479)
        have kn_481 : Hid (c_451 41 7 = c 41 7) := (hF_453 41 7 (fun q => q.elim (fun h => absurd h.2 (ni rfl)) (fun h => absurd h.1 (nn rfl)))).trans (hid kn_480)
        have kn_482 : Hid (c_467 41 7 = c 41 7) := (hF_469 41 7 qn_fb1117a24).trans (hid kn_481)
        have h_483 : c_467 41 7 = c 41 7 := (hid kn_482)
        have hb9 : c_467 41 5 = c_467 41 5 := rfl
        have hn9 : c_467 41 34 = c_451 41 34 := (hid kn_476)
        have kn_484 : Hid (c_467 56 (c 41 34) = c_451 56 (c 41 34)) := hF_469 56 (c 41 34) qn_01f0bccfb
        have hq9 : c_467 56 (c 41 34) = c_451 56 (c 41 34) := (hid kn_484)
        exact K c_467 hI_468 (fun a j hm => (hF_469 a j (qv_b6152c67a hm)).trans ((hF_453 a j (fun q => q.elim (fun h => hm (Or.inr (Or.inr (Or.inr (Or.inr (Or.inl h)))))) (fun h => hm (Or.inr (Or.inr (Or.inr (Or.inr (Or.inr ⟨h.1, (Int.le_trans ((q_e074ea49a)) h.2)⟩)))))))).trans ((hF_33 a j (fun h => hm (Or.inl h))).trans (hF_8 a j (fun h => hm (Or.inl h)))))) ((q_eaefcf06b h_10 h_34 h_470 h_461)) (by first | assumption | omega) (by first | (clear ho hq1 hq2 hq3 hq4 hq5 h_1 h_2 h_3 h_4 h_5 h_15 h_16 h_17 h_18 h_38 h_34 h_39 h_457 h_454 h_474 h_475 h_11 h_12 h_21 h_22 h_35 h_36 h_456 h_471 h_472 h_473; omega) | omega) (Or.inr (Or.inr ⟨(q_578ccb610 h_11 h_35 h_471 hq1 h_24 h_464 h_461), by first | (clear ho hq0 hq1 hq2 hq3 hq4 hq5 h_1 h_2 h_3 h_4 h_5 h_15 h_16 h_17 h_18 h_38 h_34 h_457 h_454 h_459 h_474 h_475 h_11 h_14 h_21 h_22 h_35 h_37 h_455 h_456 h_471 h_472 h_473; omega) | omega⟩)) ((q_f9c88a064 h_454)) (by first | (clear ho hq1 hq2 hq3 hq4 hq5 h_1 h_2 h_3 h_4 h_5 h_15 h_10 h_16 h_17 h_18 h_38 h_34 h_39 h_457 h_454 h_459 h_474 h_470 h_475 h_11 h_12 h_13 h_14 h_20 h_21 h_22 h_35 h_36 h_37 h_456 h_471 h_472 h_473; omega) | omega) (fun h9 => ap_one (by first | (clear ho hq1 hq2 hq3 hq4 hq5 h_1 h_2 h_3 h_4 h_5 h_15 h_10 h_16 h_17 h_18 h_38 h_34 h_457 h_454 h_459 h_474 h_470 h_475 h9 h_11 h_12 h_13 h_14 h_20 h_21 h_22 h_35 h_36 h_37 h_456 h_471 h_472 h_473; omega) | omega) (by first | assumption | omega) (Int.le_antisymm (by first | (clear ho hq1 hq2 hq3 hq4 hq5 h_1 h_2 h_3 h_4 h_5 h_15 h_10 h_16 h_17 h_18 h_38 h_34 h_39 h_457 h_454 h_459 h_474 h_470 h_475 h9 h_11 h_12 h_13 h_14 h_20 h_21 h_22 h_35 h_36 h_37 h_456 h_471 h_472 h_473; omega) | omega) (by first | (clear ho hq1 hq2 hq3 hq4 hq5 h_1 h_2 h_3 h_4 h_5 h_15 h_10 h_16 h_17 h_18 h_38 h_34 h_39 h_457 h_454 h_459 h_474 h_470 h_475 h9 h_11 h_12 h_13 h_14 h_20 h_21 h_22 h_35 h_36 h_37 h_456 h_471 h_472 h_473; omega) | omega)))
    · refine v_ic_ne_f (t := 38) c_185_28 rfl (Decidable.not_not.mp h_22) (q_aload_n c_185_31 rfl ?_)
      have kn_485 : Hid (c_6 41 5 = c 41 5) := hF_8 41 5 (fun h => absurd h.2 (ni rfl))
      have h_486 : c_6 41 5 = c 41 5 := (hid kn_485)
      have kn_487 : Hid (c_6 41 3 = c 41 3) := hF_8 41 3 (fun h => absurd h.2 (ni rfl))
      have h_488 : c_6 41 3 = c 41 3 := (hid kn_487)
      have kn_489 : Hid (c_6 41 34 = c 41 34) := hF_8 41 34 (fun h => absurd h.2 (ni rfl))
      have h_490 : c_6 41 34 = c 41 34 := (hid kn_489)
      have kn_491 : Hid (c_6 41 7 = c 41 7) := hF_8 41 7 (fun h => absurd h.2 (ni rfl))
      have h_492 : c_6 41 7 = c 41 7 := (hid kn_491)
      have h_493 : c_6 41 34 = c 41 34 := (hid kn_489)
      refine v_cv c_185_32 km_8_311 rfl rfl (Nat.le_of_ble_eq_true rfl) ⟨⟨rfl, rfl⟩, Nat.le_of_ble_eq_true rfl, rfl⟩ (Nat.le_of_ble_eq_true rfl) (Nat.le_of_ble_eq_true rfl) (s_184 (o := o) hI_7 (show 0 ≤ o ∧ o ≤ 6 from by omega) ((q_ef26995af hq0)) ((q_385a9c048 h_11 hq1)) ((q_7024b37ce hq2)) ((q_563501041 h_10 hq3)) ((q_f9c88a064 hq4)) ((q_cea541e22 hq5)) ((q_491caf385 h_12 h_20 h_22)) H185 (fun c_494 hI_495 hF_496 h_497 h_498 h_499 h_500 h_501 h_502 hA_503 => (bk_inl ?_)))
      have h_504 := ir_41_4 hI_495
      have h_505 := ir_41_7 hI_495
      have h_506 := ir_41_34 hI_495
      have h_507 := ir_41_5 hI_495
      refine q_goto (t := 166) c_185_35 rfl (q_aload_n c_185_166 rfl (v_bip c_185_167 (of_decide_eq_true rfl) ?_))
      have kn_508 : Hid (c_494 41 3 = c 41 3) := (hF_496 41 3 (fun q => q.elim (fun h => absurd h.2 (ni rfl)) (fun q => q.elim (fun h => absurd h.2 (ni rfl)) (fun q => q.elim (fun h => absurd h.2 (ni rfl)) (fun q => q.elim (fun h => absurd h.2 (ni rfl)) (fun q => q.elim (fun h => absurd h.2 (ni rfl)) (fun h => absurd h.1 (nn rfl)))))))).trans (hid kn_487)
      have h_509 : c_494 41 3 = c 41 3 := (hid kn_508)
      refine v_cv c_185_169 km_8_229 rfl rfl (Nat.le_of_ble_eq_true rfl) ⟨⟨rfl, rfl⟩, Nat.le_of_ble_eq_true rfl, rfl⟩ (Nat.le_of_ble_eq_true rfl) (Nat.le_of_ble_eq_true rfl) (s_161 (a1 := 59) hI_495 (show 1 ≤ 59 ∧ 59 ≤ 255 from ⟨of_decide_eq_true rfl, of_decide_eq_true rfl⟩) (fun c_510 hI_511 hF_512 h_513 h_514 h_515 h_516 => (bk_inl ?_)))
      have h_517 := ir_41_4 hI_511
      have h_518 := ir_41_5 hI_511
      refine q_vret rfl rfl ?_
      have kn_519 : Hid (c_510 41 34 = c_494 41 34) := hF_512 41 34 qn_14d4d2881
      have h_520 : c_510 41 34 = c_494 41 34 := (hid kn_519)
      have h_521 : c_510 41 34 = c_494 41 34 := (hid kn_519)
      have kn_522 : Hid (c_510 41 7 = c_494 41 7) := hF_512 41 7 qn_fb1117a24
      have h_523 : c_510 41 7 = c_494 41 7 := (hid kn_522)
      have hb9 : c_510 41 5 = c_510 41 5 := rfl
      have hn9 : c_510 41 34 = c_494 41 34 := (hid kn_519)
      exact K c_510 hI_511 (fun a j hm => (hF_512 a j (qv_b6152c67a hm)).trans ((hF_496 a j (fun q => q.elim (fun h => hm (Or.inl h)) (fun q => q.elim (fun h => hm (Or.inr (Or.inl h))) (fun q => q.elim (fun h => hm (Or.inr (Or.inr (Or.inl h)))) (fun q => q.elim (fun h => hm (Or.inr (Or.inr (Or.inr (Or.inl h))))) (fun q => q.elim (fun h => hm (Or.inr (Or.inr (Or.inr (Or.inr (Or.inl h)))))) (fun h => hm (Or.inr (Or.inr (Or.inr (Or.inr (Or.inr ⟨h.1, (Int.le_trans ((q_e074ea49a)) h.2)⟩)))))))))))).trans (hF_8 a j (fun h => hm (Or.inl h))))) ((q_3fc299aa4 h_10 h_499 h_502 h_513 h_490)) ((q_1bb533b1a h_498 h_492)) ((q_bbf5f0e52 h_10 h_499 h_513 h_490)) (by omega) ((q_f9c88a064 h_501)) ((q_74cd69a50 h_502 h_490)) (fun h9 => ap_fr (hA_503 (by omega)) (by omega) (show c 41 34 = c_6 41 34 from by rw [show c_6 41 34 = c 41 34 from (hid kn_489)]) (show c_510 41 34 = c_494 41 34 from by omega) (fun j h1 h2 => hF_512 56 j qn_01f0bccfb))
  · refine v_ic_ne_f (t := 25) c_185_10 rfl (Decidable.not_not.mp h_21) (q_aload_n c_185_13 rfl (q_iconst c_185_14 (q_aload_n c_185_15 rfl (v_gi (z := 4) (v := c_6 41 4) c_185_16 kf_8_108 rfl (Nat.le_of_ble_eq_true rfl) rfl rfl rfl (v_cv c_185_19 km_8_138 rfl rfl (Nat.le_of_ble_eq_true rfl) ⟨⟨rfl, rfl⟩, Nat.le_of_ble_eq_true rfl, rfl⟩ (Nat.le_of_ble_eq_true rfl) (Nat.le_of_ble_eq_true rfl) (s_153 (a1 := 1) (a2 := c_6 41 4) hI_7 (show 1 ≤ 1 ∧ 1 ≤ 3 from ⟨of_decide_eq_true rfl, of_decide_eq_true rfl⟩) (show 0 ≤ c_6 41 4 ∧ c_6 41 4 ≤ 605 from h_15) (fun c_524 hI_525 hF_526 h_527 => (bk_inl ?_))))))))
    have h_528 := ir_41_5 hI_525
    refine q_goto (t := 166) c_185_22 rfl (q_aload_n c_185_166 rfl (v_bip c_185_167 (of_decide_eq_true rfl) ?_))
    have kn_529 : Hid (c_524 41 4 = c_6 41 4) := hF_526 41 4 (fun q => q.elim (fun h => absurd h.2 (ni rfl)) (fun h => absurd h.2 (ni rfl)))
    have h_530 : c_524 41 4 = c_6 41 4 := (hid kn_529)
    have kn_531 : Hid (c_6 41 3 = c 41 3) := hF_8 41 3 (fun h => absurd h.2 (ni rfl))
    have kn_532 : Hid (c_524 41 3 = c 41 3) := (hF_526 41 3 (fun q => q.elim (fun h => absurd h.2 (ni rfl)) (fun h => absurd h.2 (ni rfl)))).trans (hid kn_531)
    have h_533 : c_524 41 3 = c 41 3 := (hid kn_532)
    refine v_cv c_185_169 km_8_229 rfl rfl (Nat.le_of_ble_eq_true rfl) ⟨⟨rfl, rfl⟩, Nat.le_of_ble_eq_true rfl, rfl⟩ (Nat.le_of_ble_eq_true rfl) (Nat.le_of_ble_eq_true rfl) (s_161 (a1 := 59) hI_525 (show 1 ≤ 59 ∧ 59 ≤ 255 from ⟨of_decide_eq_true rfl, of_decide_eq_true rfl⟩) (fun c_534 hI_535 hF_536 h_537 h_538 h_539 h_540 => (bk_inl ?_)))
    have h_541 := ir_41_4 hI_535
    have h_542 := ir_41_5 hI_535
    refine q_vret rfl rfl ?_
    have kn_543 : Hid (c_6 41 34 = c 41 34) := hF_8 41 34 (fun h => absurd h.2 (ni rfl))
    have kn_544 : Hid (c_524 41 34 = c 41 34) := (hF_526 41 34 (fun q => q.elim (fun h => absurd h.2 (ni rfl)) (fun h => absurd h.2 (ni rfl)))).trans (hid kn_543)
    have kn_545 : Hid (c_534 41 34 = c 41 34) := (hF_536 41 34 qn_14d4d2881).trans (hid kn_544)
    have h_546 : c_534 41 34 = c 41 34 := (hid kn_545)
    have h_547 : c_534 41 34 = c 41 34 := (hid kn_545)
    have kn_548 : Hid (c_6 41 7 = c 41 7) := hF_8 41 7 (fun h => absurd h.2 (ni rfl))
    have kn_549 : Hid (c_524 41 7 = c 41 7) := (hF_526 41 7 (fun q => q.elim (fun h => absurd h.2 (ni rfl)) (fun h => absurd h.2 (ni rfl)))).trans (hid kn_548)
    have kn_550 : Hid (c_534 41 7 = c 41 7) := (hF_536 41 7 qn_fb1117a24).trans (hid kn_549)
    have h_551 : c_534 41 7 = c 41 7 := (hid kn_550)
    have hb9 : c_534 41 5 = c_534 41 5 := rfl
    exact K c_534 hI_535 (fun a j hm => (hF_536 a j (qv_b6152c67a hm)).trans ((hF_526 a j (qv_d128e927b hm)).trans (hF_8 a j (fun h => hm (Or.inl h))))) ((q_a2672c344 h_10 h_537 h_530)) (by first | assumption | omega) ((q_961aa4817 h_10 h_537 h_530)) (Or.inr (Or.inl ((q_5af57fff9 h_527 h_539 h_542)))) ((q_f9c88a064 hq4)) ((q_e074ea49a)) (fun h9 => absurd h9 (by omega))
set_option maxRecDepth 100000 in
set_option maxHeartbeats 4000000 in
theorem r_185_n {sc : List Int32} {e : Int} {u P Q : Nat} : ∀ (m : Nat) (d : Nat) (c : ME) (o : Int) (Z : AR → Prop), o + (m : Int) = 6 → 0 ≤ o → Iv u e P Q c → ((c 41 5 = (-1))) → ((c 41 4 ≤ c 41 3)) → ((c 41 3 ≤ 150)) → ((3 * c 41 34 ≤ 5 * c 41 4)) → ((((c 41 34) % 5) = 0)) → (c 41 7 = o) → (∀ c2 : ME, Iv u e P Q c2 → (∀ (a : Nat) (j : Int), ¬ ((a = 41 ∧ j = 4) ∨ (a = 41 ∧ j = 5) ∨ (a = 41 ∧ j = 6) ∨ (a = 41 ∧ j = 7) ∨ (a = 41 ∧ j = 34) ∨ (a = 56 ∧ j ≥ c 41 34)) → c2 a j = c a j) → ((c2 41 4 ≥ c 41 4)) → ((c2 41 7 = c 41 7)) → ((5 * c 41 4 + 3 * c2 41 34 ≤ 3 * c 41 34 + 5 * c2 41 4)) → ((c2 41 5 < (-1)) ∨ (c2 41 5 > (-1)) ∨ (c2 41 4 ≤ c 41 3 ∧ c2 41 4 > c 41 4)) → ((((c2 41 34) % 5) = 0)) → ((c2 41 34 ≥ c 41 34)) → (c2 41 5 = -1 → Ap c2 56 (c 41 34) (c2 41 34)) → Z (.inl none, Wd P Q P P c2, 0, 0)) → Wp sc (d + 2 * m + 14) 185 0 [(0, .ref 41)] [] (Wd P Q P P c) 0 0 Z
  | 0, d, c, o, Z, hm, h0, hI, p0, p1, p2, p3, p4, p5, K => s_185 (d := d) (o := o) hI ⟨by omega, by omega⟩ p0 p1 p2 p3 p4 p5 (fun d9 c9 Z9 hd hc => absurd hc (by omega)) K
  | m + 1, d, c, o, Z, hm, h0, hI, p0, p1, p2, p3, p4, p5, K => by
    rw [show d + 2 * (m + 1) + 14 = (d + 2 * m + 2) + 14 by omega]
    refine s_185 (d := d + 2 * m + 2) (o := o) hI ⟨by omega, by omega⟩ p0 p1 p2 p3 p4 p5 (fun d9 c9 Z9 hd hc hI9 q0 q1 q2 q3 q4 q5 K9 => ?_) K
    have r := r_185_n (sc := sc) m (d9 - 2 * m - 2) c9 (o + 1) Z9 (by omega) (by omega) hI9 q0 q1 q2 q3 q4 q5 K9
    rw [show d9 - 2 * m - 2 + 2 * m + 14 = d9 + 12 by omega] at r
    exact r
set_option maxRecDepth 100000 in
set_option maxHeartbeats 4000000 in
theorem r_185 {sc : List Int32} {e : Int} {d u P Q : Nat} {c : ME} {o : Int} {Z : AR → Prop} (hI : Iv u e P Q c) (ho : 0 ≤ o ∧ o ≤ 6) (p0 : ((c 41 5 = (-1)))) (p1 : ((c 41 4 ≤ c 41 3))) (p2 : ((c 41 3 ≤ 150))) (p3 : ((3 * c 41 34 ≤ 5 * c 41 4))) (p4 : ((((c 41 34) % 5) = 0))) (p5 : c 41 7 = o) (K : (∀ c2 : ME, Iv u e P Q c2 → (∀ (a : Nat) (j : Int), ¬ ((a = 41 ∧ j = 4) ∨ (a = 41 ∧ j = 5) ∨ (a = 41 ∧ j = 6) ∨ (a = 41 ∧ j = 7) ∨ (a = 41 ∧ j = 34) ∨ (a = 56 ∧ j ≥ c 41 34)) → c2 a j = c a j) → ((c2 41 4 ≥ c 41 4)) → ((c2 41 7 = c 41 7)) → ((5 * c 41 4 + 3 * c2 41 34 ≤ 3 * c 41 34 + 5 * c2 41 4)) → ((c2 41 5 < (-1)) ∨ (c2 41 5 > (-1)) ∨ (c2 41 4 ≤ c 41 3 ∧ c2 41 4 > c 41 4)) → ((((c2 41 34) % 5) = 0)) → ((c2 41 34 ≥ c 41 34)) → (c2 41 5 = -1 → Ap c2 56 (c 41 34) (c2 41 34)) → Z (.inl none, Wd P Q P P c2, 0, 0))) : Wp sc (d + 26) 185 0 [(0, .ref 41)] [] (Wd P Q P P c) 0 0 Z := by
  obtain ⟨m, hm⟩ : ∃ m : Nat, (m : Int) = 6 - o := ⟨(6 - o).toNat, by omega⟩
  rw [show d + 26 = (d + 12 - 2 * m) + 2 * m + 14 by omega]
  exact r_185_n m _ c o Z (by omega) (by omega) hI p0 p1 p2 p3 p4 p5 K
