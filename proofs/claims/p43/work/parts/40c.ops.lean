/-! ===== the calls of the law 3 ===== -/
theorem qn_0bb414bab {j : Int} : ¬ (((1 : Nat) = 41 ∧ j = 0) ∨ (1 : Nat) = 42 ∨ (1 : Nat) = 65) := (fun q => q.elim (fun h => absurd h.1 (nn rfl)) (fun q => q.elim (fun h => absurd h (nn rfl)) (fun h => absurd h (nn rfl))))
theorem qn_ebfe7b626 : ¬ (((41 : Nat) = 41 ∧ (2 : Int) = 0) ∨ (41 : Nat) = 42 ∨ (41 : Nat) = 65) := (fun q => q.elim (fun h => absurd h.2 (ni rfl)) (fun q => q.elim (fun h => absurd h (nn rfl)) (fun h => absurd h (nn rfl))))
theorem qn_7f38acc6d {P : Nat} {j : Int} (hP : P = 13 ∨ P = 25) : ¬ ((P = 41 ∧ j = 0) ∨ P = 42 ∨ P = 65) := (fun q => q.elim (fun h => absurd h.1 (np0 hP rfl)) (fun q => q.elim (fun h => absurd h (np0 hP rfl)) (fun h => absurd h (np0 hP rfl))))
theorem qn_cd1179a69 : ¬ (((41 : Nat) = 41 ∧ (20 : Int) = 0) ∨ (41 : Nat) = 42 ∨ (41 : Nat) = 65) := (fun q => q.elim (fun h => absurd h.2 (ni rfl)) (fun q => q.elim (fun h => absurd h (nn rfl)) (fun h => absurd h (nn rfl))))
theorem qn_b9279a13b : ¬ (((41 : Nat) = 41 ∧ (21 : Int) = 0) ∨ (41 : Nat) = 42 ∨ (41 : Nat) = 65) := (fun q => q.elim (fun h => absurd h.2 (ni rfl)) (fun q => q.elim (fun h => absurd h (nn rfl)) (fun h => absurd h (nn rfl))))
theorem qn_60858c59b : ¬ (((41 : Nat) = 41 ∧ (22 : Int) = 0) ∨ (41 : Nat) = 42 ∨ (41 : Nat) = 65) := (fun q => q.elim (fun h => absurd h.2 (ni rfl)) (fun q => q.elim (fun h => absurd h (nn rfl)) (fun h => absurd h (nn rfl))))
theorem qn_cac453c9d : ¬ (((41 : Nat) = 41 ∧ (23 : Int) = 0) ∨ (41 : Nat) = 42 ∨ (41 : Nat) = 65) := (fun q => q.elim (fun h => absurd h.2 (ni rfl)) (fun q => q.elim (fun h => absurd h (nn rfl)) (fun h => absurd h (nn rfl))))
theorem qn_6176629a7 {j : Int} : ¬ (((0 : Nat) = 41 ∧ j = 0) ∨ (0 : Nat) = 42 ∨ (0 : Nat) = 65) := (fun q => q.elim (fun h => absurd h.1 (nn rfl)) (fun q => q.elim (fun h => absurd h (nn rfl)) (fun h => absurd h (nn rfl))))
theorem qn_43b5cfd28 {j : Int} : ¬ (((2 : Nat) = 41 ∧ j = 0) ∨ (2 : Nat) = 42 ∨ (2 : Nat) = 65) := (fun q => q.elim (fun h => absurd h.1 (nn rfl)) (fun q => q.elim (fun h => absurd h (nn rfl)) (fun h => absurd h (nn rfl))))
theorem qn_6069d5231 {j : Int} : ¬ (((43 : Nat) = 41 ∧ j = 0) ∨ (43 : Nat) = 42 ∨ (43 : Nat) = 65) := (fun q => q.elim (fun h => absurd h.1 (nn rfl)) (fun q => q.elim (fun h => absurd h (nn rfl)) (fun h => absurd h (nn rfl))))
theorem q_2a9863523 {x0 x1 x2 x3 : Int} (f0 : (x0 ≥ 0 ∧ x0 ≤ 12 ∧ x1 ≥ 0 ∧ x1 ≤ 13 ∧ x2 ≥ 0 ∧ x2 ≤ 16 ∧ x3 ≥ 0 ∧ x3 ≤ 1)) : (-2147483648) ≤ x0 := by omega
theorem q_71cea3467 {x0 x1 x2 x3 : Int} (f0 : (x0 ≥ 0 ∧ x0 ≤ 12 ∧ x1 ≥ 0 ∧ x1 ≤ 13 ∧ x2 ≥ 0 ∧ x2 ≤ 16 ∧ x3 ≥ 0 ∧ x3 ≤ 1)) : x0 ≤ 2147483647 := by omega
theorem q_175e5b481 {x0 x1 x2 x3 : Int} (f0 : (x0 ≥ 0 ∧ x0 ≤ 12 ∧ x1 ≥ 0 ∧ x1 ≤ 13 ∧ x2 ≥ 0 ∧ x2 ≤ 16 ∧ x3 ≥ 0 ∧ x3 ≤ 1)) : (-2147483648) ≤ x1 := by omega
theorem q_1436fc698 {x0 x1 x2 x3 : Int} (f0 : (x0 ≥ 0 ∧ x0 ≤ 12 ∧ x1 ≥ 0 ∧ x1 ≤ 13 ∧ x2 ≥ 0 ∧ x2 ≤ 16 ∧ x3 ≥ 0 ∧ x3 ≤ 1)) : x1 ≤ 2147483647 := by omega
theorem q_92b3fd757 {x0 x1 x2 x3 : Int} (f0 : (x0 ≥ 0 ∧ x0 ≤ 12 ∧ x1 ≥ 0 ∧ x1 ≤ 13 ∧ x2 ≥ 0 ∧ x2 ≤ 16 ∧ x3 ≥ 0 ∧ x3 ≤ 1)) : (-2147483648) ≤ x2 := by omega
theorem q_0a4d07dcc {x0 x1 x2 x3 : Int} (f0 : (x0 ≥ 0 ∧ x0 ≤ 12 ∧ x1 ≥ 0 ∧ x1 ≤ 13 ∧ x2 ≥ 0 ∧ x2 ≤ 16 ∧ x3 ≥ 0 ∧ x3 ≤ 1)) : x2 ≤ 2147483647 := by omega
theorem q_706ff00d9 {x0 x1 x2 x3 : Int} (f0 : (x0 ≥ 0 ∧ x0 ≤ 12 ∧ x1 ≥ 0 ∧ x1 ≤ 13 ∧ x2 ≥ 0 ∧ x2 ≤ 16 ∧ x3 ≥ 0 ∧ x3 ≤ 1)) : (-2147483648) ≤ x3 := by omega
theorem q_ce53c5706 {x0 x1 x2 x3 : Int} (f0 : (x0 ≥ 0 ∧ x0 ≤ 12 ∧ x1 ≥ 0 ∧ x1 ≤ 13 ∧ x2 ≥ 0 ∧ x2 ≤ 16 ∧ x3 ≥ 0 ∧ x3 ≤ 1)) : x3 ≤ 2147483647 := by omega
theorem q_7253e9ce5 {x0 x1 x2 : Int} (f0 : (x0 ≥ 0 ∧ x0 ≤ 99 ∧ x1 ≥ 0 ∧ x1 ≤ 99 ∧ x2 ≥ 0 ∧ x2 ≤ 2)) : (-2147483648) ≤ x0 := by omega
theorem q_91a0ca41d {x0 x1 x2 : Int} (f0 : (x0 ≥ 0 ∧ x0 ≤ 99 ∧ x1 ≥ 0 ∧ x1 ≤ 99 ∧ x2 ≥ 0 ∧ x2 ≤ 2)) : x0 ≤ 2147483647 := by omega
theorem q_5406e8820 {x0 x1 x2 : Int} (f0 : (x0 ≥ 0 ∧ x0 ≤ 99 ∧ x1 ≥ 0 ∧ x1 ≤ 99 ∧ x2 ≥ 0 ∧ x2 ≤ 2)) : (-2147483648) ≤ x1 := by omega
theorem q_c713defea {x0 x1 x2 : Int} (f0 : (x0 ≥ 0 ∧ x0 ≤ 99 ∧ x1 ≥ 0 ∧ x1 ≤ 99 ∧ x2 ≥ 0 ∧ x2 ≤ 2)) : x1 ≤ 2147483647 := by omega
theorem q_ed8e0be6a {x0 x1 x2 : Int} (f0 : (x0 ≥ 0 ∧ x0 ≤ 99 ∧ x1 ≥ 0 ∧ x1 ≤ 99 ∧ x2 ≥ 0 ∧ x2 ≤ 2)) : (-2147483648) ≤ x2 := by omega
theorem q_36987186a {x0 x1 x2 : Int} (f0 : (x0 ≥ 0 ∧ x0 ≤ 99 ∧ x1 ≥ 0 ∧ x1 ≤ 99 ∧ x2 ≥ 0 ∧ x2 ≤ 2)) : x2 ≤ 2147483647 := by omega
theorem qn_db0fa2040 {P : Nat} (hP : P = 13 ∨ P = 25) : ¬ ((1 : Nat) = (P + 10) ∨ (1 : Nat) = (P + 11)) := (fun q => q.elim (fun h => absurd h (pn hP rfl rfl)) (fun h => absurd h (pn hP rfl rfl)))
theorem qn_965711e77 {j : Int} : ¬ (((1 : Nat) = 41 ∧ j = 0) ∨ (1 : Nat) = 59 ∨ (1 : Nat) = 54 ∨ (1 : Nat) = 55) := (fun q => q.elim (fun h => absurd h.1 (nn rfl)) (fun q => q.elim (fun h => absurd h (nn rfl)) (fun q => q.elim (fun h => absurd h (nn rfl)) (fun h => absurd h (nn rfl)))))
theorem qn_4d24c7afb {P : Nat} (hP : P = 13 ∨ P = 25) : ¬ ((41 : Nat) = (P + 10) ∨ (41 : Nat) = (P + 11)) := (fun q => q.elim (fun h => absurd h (pn hP rfl rfl)) (fun h => absurd h (pn hP rfl rfl)))
theorem qn_dd6cb5371 : ¬ (((41 : Nat) = 41 ∧ (2 : Int) = 0) ∨ (41 : Nat) = 59 ∨ (41 : Nat) = 54 ∨ (41 : Nat) = 55) := (fun q => q.elim (fun h => absurd h.2 (ni rfl)) (fun q => q.elim (fun h => absurd h (nn rfl)) (fun q => q.elim (fun h => absurd h (nn rfl)) (fun h => absurd h (nn rfl)))))
theorem qn_82f5c699c {P : Nat} {j : Int} (hP : P = 13 ∨ P = 25) : ¬ ((P = 41 ∧ j = 0) ∨ P = 59 ∨ P = 54 ∨ P = 55) := (fun q => q.elim (fun h => absurd h.1 (np0 hP rfl)) (fun q => q.elim (fun h => absurd h (np0 hP rfl)) (fun q => q.elim (fun h => absurd h (np0 hP rfl)) (fun h => absurd h (np0 hP rfl)))))
theorem qn_b8c7ae319 : ¬ (((41 : Nat) = 41 ∧ (21 : Int) = 0) ∨ (41 : Nat) = 59 ∨ (41 : Nat) = 54 ∨ (41 : Nat) = 55) := (fun q => q.elim (fun h => absurd h.2 (ni rfl)) (fun q => q.elim (fun h => absurd h (nn rfl)) (fun q => q.elim (fun h => absurd h (nn rfl)) (fun h => absurd h (nn rfl)))))
theorem qn_6845dc871 : ¬ (((41 : Nat) = 41 ∧ (22 : Int) = 0) ∨ (41 : Nat) = 59 ∨ (41 : Nat) = 54 ∨ (41 : Nat) = 55) := (fun q => q.elim (fun h => absurd h.2 (ni rfl)) (fun q => q.elim (fun h => absurd h (nn rfl)) (fun q => q.elim (fun h => absurd h (nn rfl)) (fun h => absurd h (nn rfl)))))
theorem qn_d7f907dd2 : ¬ (((41 : Nat) = 41 ∧ (23 : Int) = 0) ∨ (41 : Nat) = 59 ∨ (41 : Nat) = 54 ∨ (41 : Nat) = 55) := (fun q => q.elim (fun h => absurd h.2 (ni rfl)) (fun q => q.elim (fun h => absurd h (nn rfl)) (fun q => q.elim (fun h => absurd h (nn rfl)) (fun h => absurd h (nn rfl)))))
theorem qn_95bc67d80 {j : Int} : ¬ (((0 : Nat) = 41 ∧ j = 0) ∨ (0 : Nat) = 59 ∨ (0 : Nat) = 54 ∨ (0 : Nat) = 55) := (fun q => q.elim (fun h => absurd h.1 (nn rfl)) (fun q => q.elim (fun h => absurd h (nn rfl)) (fun q => q.elim (fun h => absurd h (nn rfl)) (fun h => absurd h (nn rfl)))))
theorem qn_da4e0117f {P : Nat} (hP : P = 13 ∨ P = 25) : ¬ ((42 : Nat) = (P + 10) ∨ (42 : Nat) = (P + 11)) := (fun q => q.elim (fun h => absurd h (pn hP rfl rfl)) (fun h => absurd h (pn hP rfl rfl)))
theorem qn_ac3d572a5 {j : Int} : ¬ (((42 : Nat) = 41 ∧ j = 0) ∨ (42 : Nat) = 59 ∨ (42 : Nat) = 54 ∨ (42 : Nat) = 55) := (fun q => q.elim (fun h => absurd h.1 (nn rfl)) (fun q => q.elim (fun h => absurd h (nn rfl)) (fun q => q.elim (fun h => absurd h (nn rfl)) (fun h => absurd h (nn rfl)))))
theorem qn_7bbf03f40 {j : Int} : ¬ (((2 : Nat) = 41 ∧ j = 0) ∨ (2 : Nat) = 59 ∨ (2 : Nat) = 54 ∨ (2 : Nat) = 55) := (fun q => q.elim (fun h => absurd h.1 (nn rfl)) (fun q => q.elim (fun h => absurd h (nn rfl)) (fun q => q.elim (fun h => absurd h (nn rfl)) (fun h => absurd h (nn rfl)))))
theorem qn_389d7b966 {P : Nat} (hP : P = 13 ∨ P = 25) : ¬ ((2 : Nat) = (P + 10) ∨ (2 : Nat) = (P + 11)) := (fun q => q.elim (fun h => absurd h (pn hP rfl rfl)) (fun h => absurd h (pn hP rfl rfl)))
theorem qn_da8a66655 {j : Int} : ¬ (((43 : Nat) = 41 ∧ j = 0) ∨ (43 : Nat) = 59 ∨ (43 : Nat) = 54 ∨ (43 : Nat) = 55) := (fun q => q.elim (fun h => absurd h.1 (nn rfl)) (fun q => q.elim (fun h => absurd h (nn rfl)) (fun q => q.elim (fun h => absurd h (nn rfl)) (fun h => absurd h (nn rfl)))))
theorem qn_afbd556c9 {P : Nat} (hP : P = 13 ∨ P = 25) : ¬ ((43 : Nat) = (P + 10) ∨ (43 : Nat) = (P + 11)) := (fun q => q.elim (fun h => absurd h (pn hP rfl rfl)) (fun h => absurd h (pn hP rfl rfl)))
theorem qn_c1b212892 {P : Nat} {j : Int} (hP : P = 13 ∨ P = 25) : ¬ (((41 : Nat) = 0 ∧ j = 12) ∨ (41 : Nat) = (P + 10) ∨ (41 : Nat) = (P + 11) ∨ (41 : Nat) = 40) := (fun q => q.elim (fun h => absurd h.1 (nn rfl)) (fun q => q.elim (fun h => absurd h (pn hP rfl rfl)) (fun q => q.elim (fun h => absurd h (pn hP rfl rfl)) (fun h => absurd h (nn rfl)))))
theorem qn_8642dec24 {P : Nat} {j : Int} (hP : P = 13 ∨ P = 25) : ¬ (((42 : Nat) = 0 ∧ j = 12) ∨ (42 : Nat) = (P + 10) ∨ (42 : Nat) = (P + 11) ∨ (42 : Nat) = 40) := (fun q => q.elim (fun h => absurd h.1 (nn rfl)) (fun q => q.elim (fun h => absurd h (pn hP rfl rfl)) (fun q => q.elim (fun h => absurd h (pn hP rfl rfl)) (fun h => absurd h (nn rfl)))))
theorem qn_bcb6129a7 {P : Nat} {j : Int} (hP : P = 13 ∨ P = 25) : ¬ (((1 : Nat) = 0 ∧ j = 12) ∨ (1 : Nat) = (P + 10) ∨ (1 : Nat) = (P + 11) ∨ (1 : Nat) = 40) := (fun q => q.elim (fun h => absurd h.1 (nn rfl)) (fun q => q.elim (fun h => absurd h (pn hP rfl rfl)) (fun q => q.elim (fun h => absurd h (pn hP rfl rfl)) (fun h => absurd h (nn rfl)))))
theorem qn_f8aa6ac5f {P : Nat} {j : Int} (hP : P = 13 ∨ P = 25) : ¬ ((P = 0 ∧ j = 12) ∨ P = (P + 10) ∨ P = (P + 11) ∨ P = 40) := (fun q => q.elim (fun h => absurd h.1 (np0 hP rfl)) (fun q => q.elim (fun h => absurd h (p0p rfl)) (fun q => q.elim (fun h => absurd h (p0p rfl)) (fun h => absurd h (np0 hP rfl)))))
theorem qn_c44a51550 {P : Nat} {j : Int} (hP : P = 13 ∨ P = 25) : ¬ (((2 : Nat) = 0 ∧ j = 12) ∨ (2 : Nat) = (P + 10) ∨ (2 : Nat) = (P + 11) ∨ (2 : Nat) = 40) := (fun q => q.elim (fun h => absurd h.1 (nn rfl)) (fun q => q.elim (fun h => absurd h (pn hP rfl rfl)) (fun q => q.elim (fun h => absurd h (pn hP rfl rfl)) (fun h => absurd h (nn rfl)))))
theorem qn_2e57cdabe {P : Nat} {j : Int} (hP : P = 13 ∨ P = 25) : ¬ (((43 : Nat) = 0 ∧ j = 12) ∨ (43 : Nat) = (P + 10) ∨ (43 : Nat) = (P + 11) ∨ (43 : Nat) = 40) := (fun q => q.elim (fun h => absurd h.1 (nn rfl)) (fun q => q.elim (fun h => absurd h (pn hP rfl rfl)) (fun q => q.elim (fun h => absurd h (pn hP rfl rfl)) (fun h => absurd h (nn rfl)))))
theorem q_72c419465 {x0 x1 x2 x3 : Int} (f0 : (x0 ≥ 0 ∧ x0 ≤ x1 - 1 ∧ x2 ≥ 0 ∧ x2 ≤ x1 - 1)) (f1 : x1 = x3) : (-2147483648) ≤ x0 := by omega
theorem q_c0a74a849 {x0 x1 x2 x3 : Int} (f0 : (x0 ≥ 0 ∧ x0 ≤ x1 - 1 ∧ x2 ≥ 0 ∧ x2 ≤ x1 - 1)) (f1 : x1 = x3) : (-2147483648) ≤ x2 := by omega
theorem qn_f78771b97 {P : Nat} {j : Int} (hP : P = 13 ∨ P = 25) : ¬ ((P = 41 ∧ j = 0) ∨ P = 59) := (fun q => q.elim (fun h => absurd h.1 (np0 hP rfl)) (fun h => absurd h (np0 hP rfl)))
theorem c_296_1063 : mLk 296 1063 = some (.aload_n 1, 1) := rfl
theorem c_296_1064 : mLk 296 1064 = some (.aload_n 0, 1) := rfl
theorem c_296_1065 : mLk 296 1065 = some (.iload 4, 2) := rfl
theorem c_296_1067 : mLk 296 1067 = some (.iconst 1, 1) := rfl
theorem c_296_1068 : mLk 296 1068 = some (.iadd, 1) := rfl
theorem c_296_1069 : mLk 296 1069 = some (.iaload, 1) := rfl
theorem c_296_1070 : mLk 296 1070 = some (.aload_n 3, 1) := rfl
theorem c_296_1071 : mLk 296 1071 = some (.invokestatic 197, 3) := rfl
theorem c_281_0 : mLk 281 0 = some (.aload_n 2, 1) := rfl
theorem c_281_1 : mLk 281 1 = some (.iconst 0, 1) := rfl
theorem c_281_2 : mLk 281 2 = some (.aload_n 0, 1) := rfl
theorem c_281_3 : mLk 281 3 = some (.iload_n 1, 1) := rfl
theorem c_281_4 : mLk 281 4 = some (.invokevirtual 71, 3) := rfl
theorem c_296_1074 : mLk 296 1074 = some (.istore 5, 2) := rfl
theorem c_296_1076 : mLk 296 1076 = some (.aload_n 2, 1) := rfl
theorem c_296_1077 : mLk 296 1077 = some (.aload_n 0, 1) := rfl
theorem c_296_1078 : mLk 296 1078 = some (.iload 4, 2) := rfl
theorem c_296_1080 : mLk 296 1080 = some (.iconst 1, 1) := rfl
theorem c_296_1081 : mLk 296 1081 = some (.iadd, 1) := rfl
theorem c_296_1082 : mLk 296 1082 = some (.iaload, 1) := rfl
theorem c_296_1083 : mLk 296 1083 = some (.invokevirtual 199, 3) := rfl
theorem c_296_1086 : mLk 296 1086 = some (.istore 6, 2) := rfl
theorem c_296_1088 : mLk 296 1088 = some (.goto 728, 3) := rfl
theorem c_281_7 : mLk 281 7 = some (.i2l, 1) := rfl
theorem c_281_8 : mLk 281 8 = some (.lastore, 1) := rfl
theorem c_281_9 : mLk 281 9 = some (.goto 6, 3) := rfl
theorem c_281_15 : mLk 281 15 = some (.iconst 0, 1) := rfl
theorem c_281_16 : mLk 281 16 = some (.ireturn, 1) := rfl
theorem c_296_1091 : mLk 296 1091 = some (.aload_n 1, 1) := rfl
theorem c_296_1092 : mLk 296 1092 = some (.aload_n 0, 1) := rfl
theorem c_296_1093 : mLk 296 1093 = some (.iload 4, 2) := rfl
theorem c_296_1095 : mLk 296 1095 = some (.iconst 1, 1) := rfl
theorem c_296_1096 : mLk 296 1096 = some (.iadd, 1) := rfl
theorem c_296_1097 : mLk 296 1097 = some (.iaload, 1) := rfl
theorem c_296_1098 : mLk 296 1098 = some (.aload_n 0, 1) := rfl
theorem c_296_1099 : mLk 296 1099 = some (.iload 4, 2) := rfl
theorem c_296_1101 : mLk 296 1101 = some (.iconst 2, 1) := rfl
theorem c_296_1102 : mLk 296 1102 = some (.iadd, 1) := rfl
theorem c_296_1103 : mLk 296 1103 = some (.iaload, 1) := rfl
theorem c_296_1104 : mLk 296 1104 = some (.aload_n 0, 1) := rfl
theorem c_296_1105 : mLk 296 1105 = some (.iload 4, 2) := rfl
theorem c_296_1107 : mLk 296 1107 = some (.iconst 3, 1) := rfl
theorem c_296_1108 : mLk 296 1108 = some (.iadd, 1) := rfl
theorem c_296_1109 : mLk 296 1109 = some (.iaload, 1) := rfl
theorem c_296_1110 : mLk 296 1110 = some (.aload_n 0, 1) := rfl
theorem c_296_1111 : mLk 296 1111 = some (.iload 4, 2) := rfl
theorem c_296_1113 : mLk 296 1113 = some (.iconst 4, 1) := rfl
theorem c_296_1114 : mLk 296 1114 = some (.iadd, 1) := rfl
theorem c_296_1115 : mLk 296 1115 = some (.iaload, 1) := rfl
theorem c_296_1116 : mLk 296 1116 = some (.aload_n 3, 1) := rfl
theorem c_296_1117 : mLk 296 1117 = some (.invokestatic 200, 3) := rfl
theorem c_282_0 : mLk 282 0 = some (.aload 5, 2) := rfl
theorem c_282_2 : mLk 282 2 = some (.iconst 0, 1) := rfl
theorem c_282_3 : mLk 282 3 = some (.aload_n 0, 1) := rfl
theorem c_282_4 : mLk 282 4 = some (.iload_n 1, 1) := rfl
theorem c_282_5 : mLk 282 5 = some (.iload_n 2, 1) := rfl
theorem c_282_6 : mLk 282 6 = some (.iload_n 3, 1) := rfl
theorem c_282_7 : mLk 282 7 = some (.iload 4, 2) := rfl
theorem c_282_9 : mLk 282 9 = some (.invokevirtual 74, 3) := rfl
theorem c_296_1120 : mLk 296 1120 = some (.istore 5, 2) := rfl
theorem c_296_1122 : mLk 296 1122 = some (.aload_n 2, 1) := rfl
theorem c_296_1123 : mLk 296 1123 = some (.aload_n 0, 1) := rfl
theorem c_296_1124 : mLk 296 1124 = some (.iload 4, 2) := rfl
theorem c_296_1126 : mLk 296 1126 = some (.iconst 1, 1) := rfl
theorem c_296_1127 : mLk 296 1127 = some (.iadd, 1) := rfl
theorem c_296_1128 : mLk 296 1128 = some (.iaload, 1) := rfl
theorem c_296_1129 : mLk 296 1129 = some (.aload_n 0, 1) := rfl
theorem c_296_1130 : mLk 296 1130 = some (.iload 4, 2) := rfl
theorem c_296_1132 : mLk 296 1132 = some (.iconst 2, 1) := rfl
theorem c_296_1133 : mLk 296 1133 = some (.iadd, 1) := rfl
theorem c_296_1134 : mLk 296 1134 = some (.iaload, 1) := rfl
theorem c_296_1135 : mLk 296 1135 = some (.aload_n 0, 1) := rfl
theorem c_296_1136 : mLk 296 1136 = some (.iload 4, 2) := rfl
theorem c_296_1138 : mLk 296 1138 = some (.iconst 3, 1) := rfl
theorem c_296_1139 : mLk 296 1139 = some (.iadd, 1) := rfl
theorem c_296_1140 : mLk 296 1140 = some (.iaload, 1) := rfl
theorem c_296_1141 : mLk 296 1141 = some (.aload_n 0, 1) := rfl
theorem c_296_1142 : mLk 296 1142 = some (.iload 4, 2) := rfl
theorem c_296_1144 : mLk 296 1144 = some (.iconst 4, 1) := rfl
theorem c_296_1145 : mLk 296 1145 = some (.iadd, 1) := rfl
theorem c_296_1146 : mLk 296 1146 = some (.iaload, 1) := rfl
theorem c_296_1147 : mLk 296 1147 = some (.invokevirtual 203, 3) := rfl
theorem c_296_1150 : mLk 296 1150 = some (.lstore 6, 2) := rfl
theorem c_296_1152 : mLk 296 1152 = some (.goto 664, 3) := rfl
theorem c_282_12 : mLk 282 12 = some (.lastore, 1) := rfl
theorem c_282_13 : mLk 282 13 = some (.goto 7, 3) := rfl
theorem c_282_20 : mLk 282 20 = some (.iconst 0, 1) := rfl
theorem c_282_21 : mLk 282 21 = some (.ireturn, 1) := rfl
theorem c_296_1155 : mLk 296 1155 = some (.aload_n 1, 1) := rfl
theorem c_296_1156 : mLk 296 1156 = some (.aload_n 0, 1) := rfl
theorem c_296_1157 : mLk 296 1157 = some (.iload 4, 2) := rfl
theorem c_296_1159 : mLk 296 1159 = some (.iconst 1, 1) := rfl
theorem c_296_1160 : mLk 296 1160 = some (.iadd, 1) := rfl
theorem c_296_1161 : mLk 296 1161 = some (.iaload, 1) := rfl
theorem c_296_1162 : mLk 296 1162 = some (.aload_n 0, 1) := rfl
theorem c_296_1163 : mLk 296 1163 = some (.iload 4, 2) := rfl
theorem c_296_1165 : mLk 296 1165 = some (.iconst 2, 1) := rfl
theorem c_296_1166 : mLk 296 1166 = some (.iadd, 1) := rfl
theorem c_296_1167 : mLk 296 1167 = some (.iaload, 1) := rfl
theorem c_296_1168 : mLk 296 1168 = some (.aload_n 0, 1) := rfl
theorem c_296_1169 : mLk 296 1169 = some (.iload 4, 2) := rfl
theorem c_296_1171 : mLk 296 1171 = some (.iconst 3, 1) := rfl
theorem c_296_1172 : mLk 296 1172 = some (.iadd, 1) := rfl
theorem c_296_1173 : mLk 296 1173 = some (.iaload, 1) := rfl
theorem c_296_1174 : mLk 296 1174 = some (.aload_n 3, 1) := rfl
theorem c_296_1175 : mLk 296 1175 = some (.invokestatic 204, 3) := rfl
theorem c_283_0 : mLk 283 0 = some (.aload 4, 2) := rfl
theorem c_283_2 : mLk 283 2 = some (.iconst 0, 1) := rfl
theorem c_283_3 : mLk 283 3 = some (.aload_n 0, 1) := rfl
theorem c_283_4 : mLk 283 4 = some (.iload_n 1, 1) := rfl
theorem c_283_5 : mLk 283 5 = some (.iload_n 2, 1) := rfl
theorem c_283_6 : mLk 283 6 = some (.iload_n 3, 1) := rfl
theorem c_283_7 : mLk 283 7 = some (.invokevirtual 78, 3) := rfl
theorem c_296_1178 : mLk 296 1178 = some (.istore 5, 2) := rfl
theorem c_296_1180 : mLk 296 1180 = some (.aload_n 2, 1) := rfl
theorem c_296_1181 : mLk 296 1181 = some (.aload_n 0, 1) := rfl
theorem c_296_1182 : mLk 296 1182 = some (.iload 4, 2) := rfl
theorem c_296_1184 : mLk 296 1184 = some (.iconst 1, 1) := rfl
theorem c_296_1185 : mLk 296 1185 = some (.iadd, 1) := rfl
theorem c_296_1186 : mLk 296 1186 = some (.iaload, 1) := rfl
theorem c_296_1187 : mLk 296 1187 = some (.aload_n 0, 1) := rfl
theorem c_296_1188 : mLk 296 1188 = some (.iload 4, 2) := rfl
theorem c_296_1190 : mLk 296 1190 = some (.iconst 2, 1) := rfl
theorem c_296_1191 : mLk 296 1191 = some (.iadd, 1) := rfl
theorem c_296_1192 : mLk 296 1192 = some (.iaload, 1) := rfl
theorem c_296_1193 : mLk 296 1193 = some (.aload_n 0, 1) := rfl
theorem c_296_1194 : mLk 296 1194 = some (.iload 4, 2) := rfl
theorem c_296_1196 : mLk 296 1196 = some (.iconst 3, 1) := rfl
theorem c_296_1197 : mLk 296 1197 = some (.iadd, 1) := rfl
theorem c_296_1198 : mLk 296 1198 = some (.iaload, 1) := rfl
theorem c_296_1199 : mLk 296 1199 = some (.invokevirtual 206, 3) := rfl
theorem c_296_1202 : mLk 296 1202 = some (.istore 6, 2) := rfl
theorem c_296_1204 : mLk 296 1204 = some (.goto 612, 3) := rfl
theorem c_283_10 : mLk 283 10 = some (.i2l, 1) := rfl
theorem c_283_11 : mLk 283 11 = some (.lastore, 1) := rfl
theorem c_283_12 : mLk 283 12 = some (.goto 7, 3) := rfl
theorem c_283_19 : mLk 283 19 = some (.iconst 0, 1) := rfl
theorem c_283_20 : mLk 283 20 = some (.ireturn, 1) := rfl
theorem c_296_1207 : mLk 296 1207 = some (.aload_n 1, 1) := rfl
theorem c_296_1208 : mLk 296 1208 = some (.aload_n 0, 1) := rfl
theorem c_296_1209 : mLk 296 1209 = some (.iload 4, 2) := rfl
theorem c_296_1211 : mLk 296 1211 = some (.iconst 1, 1) := rfl
theorem c_296_1212 : mLk 296 1212 = some (.iadd, 1) := rfl
theorem c_296_1213 : mLk 296 1213 = some (.iaload, 1) := rfl
theorem c_296_1214 : mLk 296 1214 = some (.aload_n 0, 1) := rfl
theorem c_296_1215 : mLk 296 1215 = some (.iload 4, 2) := rfl
theorem c_296_1217 : mLk 296 1217 = some (.iconst 2, 1) := rfl
theorem c_296_1218 : mLk 296 1218 = some (.iadd, 1) := rfl
theorem c_296_1219 : mLk 296 1219 = some (.iaload, 1) := rfl
theorem c_296_1220 : mLk 296 1220 = some (.aload_n 0, 1) := rfl
theorem c_296_1221 : mLk 296 1221 = some (.iload 4, 2) := rfl
theorem c_296_1223 : mLk 296 1223 = some (.iconst 3, 1) := rfl
theorem c_296_1224 : mLk 296 1224 = some (.iadd, 1) := rfl
theorem c_296_1225 : mLk 296 1225 = some (.iaload, 1) := rfl
theorem c_296_1226 : mLk 296 1226 = some (.aload_n 3, 1) := rfl
theorem c_296_1227 : mLk 296 1227 = some (.invokestatic 207, 3) := rfl
theorem c_284_0 : mLk 284 0 = some (.aload 4, 2) := rfl
theorem c_284_2 : mLk 284 2 = some (.iconst 0, 1) := rfl
theorem c_284_3 : mLk 284 3 = some (.aload_n 0, 1) := rfl
theorem c_284_4 : mLk 284 4 = some (.iload_n 1, 1) := rfl
theorem c_284_5 : mLk 284 5 = some (.iload_n 2, 1) := rfl
theorem c_284_6 : mLk 284 6 = some (.iload_n 3, 1) := rfl
theorem c_284_7 : mLk 284 7 = some (.invokevirtual 81, 3) := rfl
theorem c_296_1230 : mLk 296 1230 = some (.istore 5, 2) := rfl
theorem c_296_1232 : mLk 296 1232 = some (.aload_n 2, 1) := rfl
theorem c_296_1233 : mLk 296 1233 = some (.aload_n 0, 1) := rfl
theorem c_296_1234 : mLk 296 1234 = some (.iload 4, 2) := rfl
theorem c_296_1236 : mLk 296 1236 = some (.iconst 1, 1) := rfl
theorem c_296_1237 : mLk 296 1237 = some (.iadd, 1) := rfl
theorem c_296_1238 : mLk 296 1238 = some (.iaload, 1) := rfl
theorem c_296_1239 : mLk 296 1239 = some (.aload_n 0, 1) := rfl
theorem c_296_1240 : mLk 296 1240 = some (.iload 4, 2) := rfl
theorem c_296_1242 : mLk 296 1242 = some (.iconst 2, 1) := rfl
theorem c_296_1243 : mLk 296 1243 = some (.iadd, 1) := rfl
theorem c_296_1244 : mLk 296 1244 = some (.iaload, 1) := rfl
theorem c_296_1245 : mLk 296 1245 = some (.aload_n 0, 1) := rfl
theorem c_296_1246 : mLk 296 1246 = some (.iload 4, 2) := rfl
theorem c_296_1248 : mLk 296 1248 = some (.iconst 3, 1) := rfl
theorem c_296_1249 : mLk 296 1249 = some (.iadd, 1) := rfl
theorem c_296_1250 : mLk 296 1250 = some (.iaload, 1) := rfl
theorem c_296_1251 : mLk 296 1251 = some (.invokevirtual 209, 3) := rfl
theorem c_296_1254 : mLk 296 1254 = some (.istore 6, 2) := rfl
theorem c_296_1256 : mLk 296 1256 = some (.goto 560, 3) := rfl
theorem c_284_10 : mLk 284 10 = some (.i2l, 1) := rfl
theorem c_284_11 : mLk 284 11 = some (.lastore, 1) := rfl
theorem c_284_12 : mLk 284 12 = some (.goto 11, 3) := rfl
theorem c_284_23 : mLk 284 23 = some (.iconst 0, 1) := rfl
theorem c_284_24 : mLk 284 24 = some (.ireturn, 1) := rfl
theorem c_296_1259 : mLk 296 1259 = some (.aload_n 1, 1) := rfl
theorem c_296_1260 : mLk 296 1260 = some (.aload_n 0, 1) := rfl
theorem c_296_1261 : mLk 296 1261 = some (.iload 4, 2) := rfl
theorem c_296_1263 : mLk 296 1263 = some (.iconst 1, 1) := rfl
theorem c_296_1264 : mLk 296 1264 = some (.iadd, 1) := rfl
theorem c_296_1265 : mLk 296 1265 = some (.iaload, 1) := rfl
theorem c_296_1266 : mLk 296 1266 = some (.aload_n 3, 1) := rfl
theorem c_296_1267 : mLk 296 1267 = some (.invokestatic 210, 3) := rfl
theorem c_285_0 : mLk 285 0 = some (.aload_n 2, 1) := rfl
theorem c_285_1 : mLk 285 1 = some (.iconst 0, 1) := rfl
theorem c_285_2 : mLk 285 2 = some (.aload_n 0, 1) := rfl
theorem c_285_3 : mLk 285 3 = some (.iload_n 1, 1) := rfl
theorem c_285_4 : mLk 285 4 = some (.invokevirtual 84, 3) := rfl
theorem c_296_1270 : mLk 296 1270 = some (.istore 5, 2) := rfl
theorem c_296_1272 : mLk 296 1272 = some (.aload_n 2, 1) := rfl
theorem c_296_1273 : mLk 296 1273 = some (.aload_n 0, 1) := rfl
theorem c_296_1274 : mLk 296 1274 = some (.iload 4, 2) := rfl
theorem c_296_1276 : mLk 296 1276 = some (.iconst 1, 1) := rfl
theorem c_296_1277 : mLk 296 1277 = some (.iadd, 1) := rfl
theorem c_296_1278 : mLk 296 1278 = some (.iaload, 1) := rfl
theorem c_296_1279 : mLk 296 1279 = some (.invokevirtual 212, 3) := rfl
theorem c_296_1282 : mLk 296 1282 = some (.istore 6, 2) := rfl
theorem c_296_1284 : mLk 296 1284 = some (.goto 532, 3) := rfl
theorem c_285_7 : mLk 285 7 = some (.i2l, 1) := rfl
theorem c_285_8 : mLk 285 8 = some (.lastore, 1) := rfl
theorem c_285_9 : mLk 285 9 = some (.goto 6, 3) := rfl
theorem c_285_15 : mLk 285 15 = some (.iconst 0, 1) := rfl
theorem c_285_16 : mLk 285 16 = some (.ireturn, 1) := rfl
theorem c_296_1287 : mLk 296 1287 = some (.aload_n 1, 1) := rfl
theorem c_296_1288 : mLk 296 1288 = some (.invokevirtual 213, 3) := rfl
theorem c_296_1291 : mLk 296 1291 = some (.pop, 1) := rfl
theorem c_296_1292 : mLk 296 1292 = some (.aload_n 2, 1) := rfl
theorem c_296_1293 : mLk 296 1293 = some (.invokevirtual 216, 3) := rfl
theorem c_296_1296 : mLk 296 1296 = some (.pop, 1) := rfl
theorem c_296_1297 : mLk 296 1297 = some (.goto 519, 3) := rfl
theorem c_296_1300 : mLk 296 1300 = some (.aload_n 1, 1) := rfl
theorem c_296_1301 : mLk 296 1301 = some (.aload_n 0, 1) := rfl
theorem c_296_1302 : mLk 296 1302 = some (.iload 4, 2) := rfl
theorem c_296_1304 : mLk 296 1304 = some (.iconst 1, 1) := rfl
theorem c_296_1305 : mLk 296 1305 = some (.iadd, 1) := rfl
theorem c_296_1306 : mLk 296 1306 = some (.iaload, 1) := rfl
theorem c_296_1307 : mLk 296 1307 = some (.aload_n 0, 1) := rfl
theorem c_296_1308 : mLk 296 1308 = some (.iload 4, 2) := rfl
theorem c_296_1310 : mLk 296 1310 = some (.iconst 2, 1) := rfl
theorem c_296_1311 : mLk 296 1311 = some (.iadd, 1) := rfl
theorem c_296_1312 : mLk 296 1312 = some (.iaload, 1) := rfl
theorem c_296_1313 : mLk 296 1313 = some (.aload_n 3, 1) := rfl
theorem c_296_1314 : mLk 296 1314 = some (.invokestatic 217, 3) := rfl
theorem c_286_0 : mLk 286 0 = some (.aload_n 3, 1) := rfl
theorem c_286_1 : mLk 286 1 = some (.iconst 0, 1) := rfl
theorem c_286_2 : mLk 286 2 = some (.aload_n 0, 1) := rfl
theorem c_286_3 : mLk 286 3 = some (.iload_n 1, 1) := rfl
theorem c_286_4 : mLk 286 4 = some (.iload_n 2, 1) := rfl
theorem c_286_5 : mLk 286 5 = some (.invokevirtual 87, 3) := rfl
theorem c_296_1317 : mLk 296 1317 = some (.istore 5, 2) := rfl
theorem c_296_1319 : mLk 296 1319 = some (.aload_n 2, 1) := rfl
theorem c_296_1320 : mLk 296 1320 = some (.aload_n 0, 1) := rfl
theorem c_296_1321 : mLk 296 1321 = some (.iload 4, 2) := rfl
theorem c_296_1323 : mLk 296 1323 = some (.iconst 1, 1) := rfl
theorem c_296_1324 : mLk 296 1324 = some (.iadd, 1) := rfl
theorem c_296_1325 : mLk 296 1325 = some (.iaload, 1) := rfl
theorem c_296_1326 : mLk 296 1326 = some (.aload_n 0, 1) := rfl
theorem c_296_1327 : mLk 296 1327 = some (.iload 4, 2) := rfl
theorem c_296_1329 : mLk 296 1329 = some (.iconst 2, 1) := rfl
theorem c_296_1330 : mLk 296 1330 = some (.iadd, 1) := rfl
theorem c_296_1331 : mLk 296 1331 = some (.iaload, 1) := rfl
theorem c_296_1332 : mLk 296 1332 = some (.invokevirtual 219, 3) := rfl
theorem c_296_1335 : mLk 296 1335 = some (.istore 6, 2) := rfl
theorem c_296_1337 : mLk 296 1337 = some (.goto 479, 3) := rfl
theorem c_286_8 : mLk 286 8 = some (.i2l, 1) := rfl
theorem c_286_9 : mLk 286 9 = some (.lastore, 1) := rfl
theorem c_286_10 : mLk 286 10 = some (.goto 7, 3) := rfl
theorem c_286_17 : mLk 286 17 = some (.iconst 0, 1) := rfl
theorem c_286_18 : mLk 286 18 = some (.ireturn, 1) := rfl
theorem c_296_1340 : mLk 296 1340 = some (.aload_n 1, 1) := rfl
theorem c_296_1341 : mLk 296 1341 = some (.invokevirtual 220, 3) := rfl
theorem c_296_1344 : mLk 296 1344 = some (.pop, 1) := rfl
theorem c_296_1345 : mLk 296 1345 = some (.aload_n 2, 1) := rfl
theorem c_296_1346 : mLk 296 1346 = some (.invokevirtual 223, 3) := rfl
theorem c_296_1349 : mLk 296 1349 = some (.pop, 1) := rfl
theorem c_296_1350 : mLk 296 1350 = some (.goto 466, 3) := rfl
theorem c_296_1353 : mLk 296 1353 = some (.aload_n 1, 1) := rfl
theorem c_296_1354 : mLk 296 1354 = some (.aload_n 0, 1) := rfl
theorem c_296_1355 : mLk 296 1355 = some (.iload 4, 2) := rfl
theorem c_296_1357 : mLk 296 1357 = some (.iconst 1, 1) := rfl
theorem c_296_1358 : mLk 296 1358 = some (.iadd, 1) := rfl
theorem c_296_1359 : mLk 296 1359 = some (.iaload, 1) := rfl
theorem c_296_1360 : mLk 296 1360 = some (.aload_n 3, 1) := rfl
theorem c_296_1361 : mLk 296 1361 = some (.invokestatic 224, 3) := rfl
theorem c_287_0 : mLk 287 0 = some (.aload_n 2, 1) := rfl
theorem c_287_1 : mLk 287 1 = some (.iconst 0, 1) := rfl
theorem c_287_2 : mLk 287 2 = some (.aload_n 0, 1) := rfl
theorem c_287_3 : mLk 287 3 = some (.iload_n 1, 1) := rfl
theorem c_287_4 : mLk 287 4 = some (.invokevirtual 90, 3) := rfl
theorem c_296_1364 : mLk 296 1364 = some (.istore 5, 2) := rfl
theorem c_296_1366 : mLk 296 1366 = some (.aload_n 2, 1) := rfl
theorem c_296_1367 : mLk 296 1367 = some (.aload_n 0, 1) := rfl
theorem c_296_1368 : mLk 296 1368 = some (.iload 4, 2) := rfl
theorem c_296_1370 : mLk 296 1370 = some (.iconst 1, 1) := rfl
theorem c_296_1371 : mLk 296 1371 = some (.iadd, 1) := rfl
theorem c_296_1372 : mLk 296 1372 = some (.iaload, 1) := rfl
theorem c_296_1373 : mLk 296 1373 = some (.invokevirtual 226, 3) := rfl
theorem c_296_1376 : mLk 296 1376 = some (.istore 6, 2) := rfl
theorem c_296_1378 : mLk 296 1378 = some (.goto 438, 3) := rfl
theorem c_287_7 : mLk 287 7 = some (.i2l, 1) := rfl
theorem c_287_8 : mLk 287 8 = some (.lastore, 1) := rfl
theorem c_287_9 : mLk 287 9 = some (.goto 6, 3) := rfl
theorem c_287_15 : mLk 287 15 = some (.iconst 0, 1) := rfl
theorem c_287_16 : mLk 287 16 = some (.ireturn, 1) := rfl
theorem c_296_1381 : mLk 296 1381 = some (.aload_n 1, 1) := rfl
theorem c_296_1382 : mLk 296 1382 = some (.aload_n 0, 1) := rfl
theorem c_296_1383 : mLk 296 1383 = some (.iload 4, 2) := rfl
theorem c_296_1385 : mLk 296 1385 = some (.iconst 1, 1) := rfl
theorem c_296_1386 : mLk 296 1386 = some (.iadd, 1) := rfl
theorem c_296_1387 : mLk 296 1387 = some (.iaload, 1) := rfl
theorem c_296_1388 : mLk 296 1388 = some (.aload_n 3, 1) := rfl
theorem c_296_1389 : mLk 296 1389 = some (.invokestatic 227, 3) := rfl
theorem c_288_0 : mLk 288 0 = some (.aload_n 2, 1) := rfl
theorem c_288_1 : mLk 288 1 = some (.iconst 0, 1) := rfl
theorem c_288_2 : mLk 288 2 = some (.aload_n 0, 1) := rfl
theorem c_288_3 : mLk 288 3 = some (.iload_n 1, 1) := rfl
theorem c_288_4 : mLk 288 4 = some (.invokevirtual 93, 3) := rfl
theorem c_296_1392 : mLk 296 1392 = some (.istore 5, 2) := rfl
theorem c_296_1394 : mLk 296 1394 = some (.aload_n 2, 1) := rfl
theorem c_296_1395 : mLk 296 1395 = some (.aload_n 0, 1) := rfl
theorem c_296_1396 : mLk 296 1396 = some (.iload 4, 2) := rfl
theorem c_296_1398 : mLk 296 1398 = some (.iconst 1, 1) := rfl
theorem c_296_1399 : mLk 296 1399 = some (.iadd, 1) := rfl
theorem c_296_1400 : mLk 296 1400 = some (.iaload, 1) := rfl
theorem c_296_1401 : mLk 296 1401 = some (.invokevirtual 229, 3) := rfl
theorem c_296_1404 : mLk 296 1404 = some (.istore 6, 2) := rfl
theorem c_296_1406 : mLk 296 1406 = some (.goto 410, 3) := rfl
theorem c_288_7 : mLk 288 7 = some (.i2l, 1) := rfl
theorem c_288_8 : mLk 288 8 = some (.lastore, 1) := rfl
theorem c_288_9 : mLk 288 9 = some (.goto 6, 3) := rfl
theorem c_288_15 : mLk 288 15 = some (.iconst 0, 1) := rfl
theorem c_288_16 : mLk 288 16 = some (.ireturn, 1) := rfl
theorem c_296_1409 : mLk 296 1409 = some (.aload_n 1, 1) := rfl
theorem c_296_1410 : mLk 296 1410 = some (.aload_n 0, 1) := rfl
theorem c_296_1411 : mLk 296 1411 = some (.iload 4, 2) := rfl
theorem c_296_1413 : mLk 296 1413 = some (.iconst 1, 1) := rfl
theorem c_296_1414 : mLk 296 1414 = some (.iadd, 1) := rfl
theorem c_296_1415 : mLk 296 1415 = some (.iaload, 1) := rfl
theorem c_296_1416 : mLk 296 1416 = some (.aload_n 3, 1) := rfl
theorem c_296_1417 : mLk 296 1417 = some (.invokestatic 230, 3) := rfl
theorem c_289_0 : mLk 289 0 = some (.aload_n 2, 1) := rfl
theorem c_289_1 : mLk 289 1 = some (.iconst 0, 1) := rfl
theorem c_289_2 : mLk 289 2 = some (.aload_n 0, 1) := rfl
theorem c_289_3 : mLk 289 3 = some (.iload_n 1, 1) := rfl
theorem c_289_4 : mLk 289 4 = some (.invokevirtual 96, 3) := rfl
theorem c_296_1420 : mLk 296 1420 = some (.istore 5, 2) := rfl
theorem c_296_1422 : mLk 296 1422 = some (.aload_n 2, 1) := rfl
theorem c_296_1423 : mLk 296 1423 = some (.aload_n 0, 1) := rfl
theorem c_296_1424 : mLk 296 1424 = some (.iload 4, 2) := rfl
theorem c_296_1426 : mLk 296 1426 = some (.iconst 1, 1) := rfl
theorem c_296_1427 : mLk 296 1427 = some (.iadd, 1) := rfl
theorem c_296_1428 : mLk 296 1428 = some (.iaload, 1) := rfl
theorem c_296_1429 : mLk 296 1429 = some (.invokevirtual 232, 3) := rfl
theorem c_296_1432 : mLk 296 1432 = some (.istore 6, 2) := rfl
theorem c_296_1434 : mLk 296 1434 = some (.goto 382, 3) := rfl
theorem c_289_7 : mLk 289 7 = some (.i2l, 1) := rfl
theorem c_289_8 : mLk 289 8 = some (.lastore, 1) := rfl
theorem c_289_9 : mLk 289 9 = some (.goto 6, 3) := rfl
theorem c_289_15 : mLk 289 15 = some (.iconst 0, 1) := rfl
theorem c_289_16 : mLk 289 16 = some (.ireturn, 1) := rfl
theorem c_296_1437 : mLk 296 1437 = some (.aload_n 1, 1) := rfl
theorem c_296_1438 : mLk 296 1438 = some (.aload_n 0, 1) := rfl
theorem c_296_1439 : mLk 296 1439 = some (.iload 4, 2) := rfl
theorem c_296_1441 : mLk 296 1441 = some (.iconst 1, 1) := rfl
theorem c_296_1442 : mLk 296 1442 = some (.iadd, 1) := rfl
theorem c_296_1443 : mLk 296 1443 = some (.iaload, 1) := rfl
theorem c_296_1444 : mLk 296 1444 = some (.aload_n 3, 1) := rfl
theorem c_296_1445 : mLk 296 1445 = some (.invokestatic 233, 3) := rfl
theorem c_290_0 : mLk 290 0 = some (.aload_n 2, 1) := rfl
theorem c_290_1 : mLk 290 1 = some (.iconst 0, 1) := rfl
theorem c_290_2 : mLk 290 2 = some (.aload_n 0, 1) := rfl
theorem c_290_3 : mLk 290 3 = some (.iload_n 1, 1) := rfl
theorem c_290_4 : mLk 290 4 = some (.invokevirtual 99, 3) := rfl
theorem c_296_1448 : mLk 296 1448 = some (.istore 5, 2) := rfl
theorem c_296_1450 : mLk 296 1450 = some (.aload_n 2, 1) := rfl
theorem c_296_1451 : mLk 296 1451 = some (.aload_n 0, 1) := rfl
theorem c_296_1452 : mLk 296 1452 = some (.iload 4, 2) := rfl
theorem c_296_1454 : mLk 296 1454 = some (.iconst 1, 1) := rfl
theorem c_296_1455 : mLk 296 1455 = some (.iadd, 1) := rfl
theorem c_296_1456 : mLk 296 1456 = some (.iaload, 1) := rfl
theorem c_296_1457 : mLk 296 1457 = some (.invokevirtual 235, 3) := rfl
theorem c_296_1460 : mLk 296 1460 = some (.istore 6, 2) := rfl
theorem c_296_1462 : mLk 296 1462 = some (.goto 354, 3) := rfl
theorem c_290_7 : mLk 290 7 = some (.i2l, 1) := rfl
theorem c_290_8 : mLk 290 8 = some (.lastore, 1) := rfl
theorem c_290_9 : mLk 290 9 = some (.goto 6, 3) := rfl
theorem c_290_15 : mLk 290 15 = some (.iconst 0, 1) := rfl
theorem c_290_16 : mLk 290 16 = some (.ireturn, 1) := rfl
theorem km_9_199 : a_lk (kM 9) 199 = some (0, 232) := rfl
theorem km_9_203 : a_lk (kM 9) 203 = some (0, 234) := rfl
theorem km_9_206 : a_lk (kM 9) 206 = some (0, 236) := rfl
theorem km_9_209 : a_lk (kM 9) 209 = some (0, 239) := rfl
theorem km_9_212 : a_lk (kM 9) 212 = some (0, 240) := rfl
theorem km_9_213 : a_lk (kM 9) 213 = some (0, 106) := rfl
theorem km_9_216 : a_lk (kM 9) 216 = some (0, 241) := rfl
theorem km_9_219 : a_lk (kM 9) 219 = some (0, 242) := rfl
theorem km_9_220 : a_lk (kM 9) 220 = some (0, 101) := rfl
theorem km_9_223 : a_lk (kM 9) 223 = some (0, 243) := rfl
theorem km_9_226 : a_lk (kM 9) 226 = some (0, 244) := rfl
theorem km_9_229 : a_lk (kM 9) 229 = some (0, 245) := rfl
theorem km_9_232 : a_lk (kM 9) 232 = some (0, 246) := rfl
theorem km_9_235 : a_lk (kM 9) 235 = some (0, 247) := rfl
theorem km_9_71 : a_lk (kM 9) 71 = some (0, 131) := rfl
theorem km_9_74 : a_lk (kM 9) 74 = some (0, 134) := rfl
theorem km_9_78 : a_lk (kM 9) 78 = some (0, 136) := rfl
theorem km_9_81 : a_lk (kM 9) 81 = some (0, 125) := rfl
theorem km_9_84 : a_lk (kM 9) 84 = some (0, 105) := rfl
theorem km_9_87 : a_lk (kM 9) 87 = some (0, 108) := rfl
theorem km_9_90 : a_lk (kM 9) 90 = some (0, 109) := rfl
theorem km_9_93 : a_lk (kM 9) 93 = some (0, 98) := rfl
theorem km_9_96 : a_lk (kM 9) 96 = some (0, 99) := rfl
theorem km_9_99 : a_lk (kM 9) 99 = some (0, 115) := rfl
set_option maxRecDepth 100000 in
set_option maxHeartbeats 4000000 in
theorem o_21 {xs : Nat → Int32} {L i0 d nc ns P Q : Nat} {c : ME} {Z : AR → Prop} (hi : i0 + 8 ≤ L) (hL : L ≤ 100000) (hI : Iv 0 (-1) P Q c) (hR : Rq P c) (K : ∀ (P2 Q2 : Nat) (c2 : ME) (e : Nat), e ≤ 1 → Iv 0 (-1) P2 Q2 c2 → (Rq P2 c2) → Wp (a_scr L xs) (d + 90) 296 1816 [(4, vi (i0 : Int)), (3, .ref 67), (2, .ref 41), (1, .ref 0), (0, .ref a_SC)] [] (Wd P2 Q2 P2 P2 c2) (nc + e) (ns + 6 * e) Z) : Wp (a_scr L xs) (d + 90) 296 1063 [(4, vi (i0 : Int)), (3, .ref 67), (2, .ref 41), (1, .ref 0), (0, .ref a_SC)] [] (Wd P Q P P c) nc ns Z := by
  obtain ⟨x1, hx1⟩ : ∃ z, (xs (i0 + 1)).toInt = z := ⟨_, rfl⟩
  refine hv_ (c_rng (xs (i0 + 1))) (fun x1r => ?_)
  rw [hx1] at x1r
  obtain ⟨x2, hx2⟩ : ∃ z, (xs (i0 + 2)).toInt = z := ⟨_, rfl⟩
  refine hv_ (c_rng (xs (i0 + 2))) (fun x2r => ?_)
  rw [hx2] at x2r
  obtain ⟨x3, hx3⟩ : ∃ z, (xs (i0 + 3)).toInt = z := ⟨_, rfl⟩
  refine hv_ (c_rng (xs (i0 + 3))) (fun x3r => ?_)
  rw [hx3] at x3r
  obtain ⟨x4, hx4⟩ : ∃ z, (xs (i0 + 4)).toInt = z := ⟨_, rfl⟩
  refine hv_ (c_rng (xs (i0 + 4))) (fun x4r => ?_)
  rw [hx4] at x4r
  obtain ⟨x5, hx5⟩ : ∃ z, (xs (i0 + 5)).toInt = z := ⟨_, rfl⟩
  refine hv_ (c_rng (xs (i0 + 5))) (fun x5r => ?_)
  rw [hx5] at x5r
  obtain ⟨x6, hx6⟩ : ∃ z, (xs (i0 + 6)).toInt = z := ⟨_, rfl⟩
  refine hv_ (c_rng (xs (i0 + 6))) (fun x6r => ?_)
  rw [hx6] at x6r
  obtain ⟨x7, hx7⟩ : ∃ z, (xs (i0 + 7)).toInt = z := ⟨_, rfl⟩
  refine hv_ (c_rng (xs (i0 + 7))) (fun x7r => ?_)
  rw [hx7] at x7r
  refine hv_ (iv_P hI) (fun hP => (hv_ (iv_Q hI) (fun hQ => (hv_ (rl_t hR) (fun hT => (hv_ (rl_u hR) (fun hU => ?_)))))))
  obtain ⟨n0, hn0⟩ : ∃ z, c P 0 = z := ⟨_, rfl⟩
  refine hv_ (p := c 41 20 = n0) ((rl_nums hR).1.symm.trans hn0) (fun hm0 => (hv_ (ir_p0_0 hI hP) (fun hr0 => ?_)))
  rw [hn0] at hr0
  obtain ⟨n1, hn1⟩ : ∃ z, c P 1 = z := ⟨_, rfl⟩
  refine hv_ (p := c 41 21 = n1) ((rl_nums hR).2.1.symm.trans hn1) (fun hm1 => (hv_ (ir_p0_1 hI hP) (fun hr1 => ?_)))
  rw [hn1] at hr1
  obtain ⟨n2, hn2⟩ : ∃ z, c P 2 = z := ⟨_, rfl⟩
  refine hv_ (p := c 41 22 = n2) ((rl_nums hR).2.2.1.symm.trans hn2) (fun hm2 => (hv_ (ir_p0_2 hI hP) (fun hr2 => ?_)))
  rw [hn2] at hr2
  obtain ⟨n3, hn3⟩ : ∃ z, c P 3 = z := ⟨_, rfl⟩
  refine hv_ (p := c 41 23 = n3) ((rl_nums hR).2.2.2.symm.trans hn3) (fun hm3 => (hv_ (ir_p0_3 hI hP) (fun hr3 => ?_)))
  rw [hn3] at hr3
  refine hv_ (rl_cnt2 hR) (fun hNcnt2 => (hv_ (rl_cnt2 hR) (fun hNcnt2 => (q_aload_n c_296_1063 rfl (q_aload_n c_296_1064 rfl (q_iload c_296_1065 rfl (q_iconst c_296_1067 (v_iadd (v := (i0 : Int) + 1) c_296_1068 rfl (v_scr (j := i0 + 1) c_296_1069 (by omega) (by omega) hL hx1 ?_)))))))))
  refine q_aload_n c_296_1070 rfl (q_call c_296_1071 rfl rfl rfl (q_aload_n c_281_0 rfl (q_iconst c_281_1 (q_aload_n c_281_2 rfl (q_iload_n c_281_3 rfl (hv_ (ir_0_12 hI) (fun h_1 => (hv_ (ir_0_13 hI) (fun h_2 => ?_)))))))))
  refine v_cv c_281_4 km_9_71 rfl rfl (Nat.le_of_ble_eq_true rfl) ⟨⟨rfl, rfl⟩, Nat.le_of_ble_eq_true rfl, rfl⟩ (Nat.le_of_ble_eq_true rfl) (Nat.le_of_ble_eq_true rfl) (s_131S (a1 := x1) hI (show (-2147483648) ≤ x1 ∧ x1 ≤ 2147483647 from ⟨by omega, by omega⟩) (fun c_3 hI_4 hF_5 h_6 h_7 h_8 => ?_) (fun c_9 y_12 hI_10 hF_11 hy_12 h_13 h_14 h_15 => ?_))
  · skip
    refine hv_ (ir_0_13 hI_4) (fun h_16 => (hv_ (ir_0_12 hI_4) (fun h_17 => (bk_thr (z := Int32.ofInt 1) rfl ⟨_, _, rfl⟩ rfl (bk_inl (q_istore c_296_1074 (Nat.le_of_ble_eq_true rfl) (q_aload_n c_296_1076 rfl (q_aload_n c_296_1077 rfl (q_iload c_296_1078 rfl ?_)))))))))
    refine q_iconst c_296_1080 (v_iadd (v := (i0 : Int) + 1) c_296_1081 rfl (v_scr (j := i0 + 1) c_296_1082 (by omega) (by omega) hL hx1 (hv_ (ir_42 hI 0) (fun h_18 => (hv_ (p := Hid (c_3 42 0 = c 42 0)) (hF_5 42 0 (fun q => q.elim (fun h => absurd h.1 (nn rfl)) (fun h => absurd h (nn rfl)))) (fun kn_19 => (hv_ (p := c_3 42 0 = c 42 0) ((hid kn_19)) (fun h_20 => (hv_ (ir_42 hI 1) (fun h_21 => (hv_ (p := Hid (c_3 42 1 = c 42 1)) (hF_5 42 1 (fun q => q.elim (fun h => absurd h.1 (nn rfl)) (fun h => absurd h (nn rfl)))) (fun kn_22 => ?_))))))))))))
    refine hv_ (p := c_3 42 1 = c 42 1) ((hid kn_22)) (fun h_23 => (v_cv c_296_1083 km_9_199 rfl rfl (Nat.le_of_ble_eq_true rfl) ⟨⟨rfl, rfl⟩, Nat.le_of_ble_eq_true rfl, rfl⟩ (Nat.le_of_ble_eq_true rfl) (Nat.le_of_ble_eq_true rfl) (s_232S (a1 := x1) hI_4 (show (-2147483648) ≤ x1 ∧ x1 ≤ 2147483647 from ⟨by first | (clear hT hNcnt2 h_1 h_2 h_16 h_17; omega) | omega, by first | (clear hT hNcnt2 h_1 h_2 h_16 h_17; omega) | omega⟩) (fun c_24 y_27 hI_25 hF_26 hy_27 h_28 => (bk_inl (hv_ (ir_42 hI_25 0) (fun h_29 => (hv_ (ir_42 hI_25 1) (fun h_30 => (q_istore c_296_1086 (Nat.le_of_ble_eq_true rfl) (q_goto (t := 1816) c_296_1088 rfl (Wp_ls [(4, vi (i0 : Int)), (3, .ref 67), (2, .ref 41), (1, .ref 0), (0, .ref a_SC)] (lsub_cons rfl (lsub_cons rfl (lsub_cons rfl (lsub_cons rfl (lsub_cons rfl lsub_nil))))) ?_))))))))))))
    refine hv_ (ir_1_3 hI) (fun h_31 => (hv_ (p := Hid (c_3 1 3 = c 1 3)) (hF_5 1 3 (fun q => q.elim (fun h => absurd h.1 (nn rfl)) (fun h => absurd h (nn rfl)))) (fun kn_32 => (hv_ (p := Hid (c_24 1 3 = c 1 3)) ((hF_26 1 3 qn_39cd18c3e).trans (hid kn_32)) (fun kn_33 => (hv_ (p := c_24 1 3 = c 1 3) ((hid kn_33)) (fun h_34 => (hv_ (ir_41_2 hI) (fun h_35 => (hv_ (p := Hid (c_3 41 2 = c 41 2)) (hF_5 41 2 (fun q => q.elim (fun h => absurd h.1 (nn rfl)) (fun h => absurd h (nn rfl)))) (fun kn_36 => (hv_ (p := Hid (c_24 41 2 = c 41 2)) ((hF_26 41 2 qn_53bdb2099).trans (hid kn_36)) (fun kn_37 => (hv_ (p := c_24 41 2 = c 41 2) ((hid kn_37)) (fun h_38 => ?_)))))))))))))))
    refine hv_ (p := Hid (c_3 P 0 = n0)) ((hF_5 P 0 (qn_e391c0369 hP)).trans (hn0)) (fun kn_39 => (hv_ (p := Hid (c_24 P 0 = n0)) ((hF_26 P 0 (qn_857752076 hP)).trans (hid kn_39)) (fun kn_40 => (hv_ (p := c_24 P 0 = n0) ((hid kn_40)) (fun h_41 => (hv_ (p := Hid (c_3 41 20 = n0)) ((hF_5 41 20 (fun q => q.elim (fun h => absurd h.1 (nn rfl)) (fun h => absurd h (nn rfl)))).trans (hm0)) (fun kn_42 => (hv_ (p := Hid (c_24 41 20 = n0)) ((hF_26 41 20 qn_110b29ed6).trans (hid kn_42)) (fun kn_43 => (hv_ (p := c_24 41 20 = n0) ((hid kn_43)) (fun h_44 => (hv_ (p := Hid (c_3 P 1 = n1)) ((hF_5 P 1 (qn_e391c0369 hP)).trans (hn1)) (fun kn_45 => (hv_ (p := Hid (c_24 P 1 = n1)) ((hF_26 P 1 (qn_857752076 hP)).trans (hid kn_45)) (fun kn_46 => ?_)))))))))))))))
    refine hv_ (p := c_24 P 1 = n1) ((hid kn_46)) (fun h_47 => (hv_ (p := Hid (c_3 41 21 = n1)) ((hF_5 41 21 (fun q => q.elim (fun h => absurd h.1 (nn rfl)) (fun h => absurd h (nn rfl)))).trans (hm1)) (fun kn_48 => (hv_ (p := Hid (c_24 41 21 = n1)) ((hF_26 41 21 qn_561064c41).trans (hid kn_48)) (fun kn_49 => (hv_ (p := c_24 41 21 = n1) ((hid kn_49)) (fun h_50 => (hv_ (p := Hid (c_3 P 2 = n2)) ((hF_5 P 2 (qn_e391c0369 hP)).trans (hn2)) (fun kn_51 => (hv_ (p := Hid (c_24 P 2 = n2)) ((hF_26 P 2 (qn_857752076 hP)).trans (hid kn_51)) (fun kn_52 => (hv_ (p := c_24 P 2 = n2) ((hid kn_52)) (fun h_53 => (hv_ (p := Hid (c_3 41 22 = n2)) ((hF_5 41 22 (fun q => q.elim (fun h => absurd h.1 (nn rfl)) (fun h => absurd h (nn rfl)))).trans (hm2)) (fun kn_54 => ?_)))))))))))))))
    refine hv_ (p := Hid (c_24 41 22 = n2)) ((hF_26 41 22 qn_1a460b46b).trans (hid kn_54)) (fun kn_55 => (hv_ (p := c_24 41 22 = n2) ((hid kn_55)) (fun h_56 => (hv_ (p := Hid (c_3 P 3 = n3)) ((hF_5 P 3 (qn_e391c0369 hP)).trans (hn3)) (fun kn_57 => (hv_ (p := Hid (c_24 P 3 = n3)) ((hF_26 P 3 (qn_857752076 hP)).trans (hid kn_57)) (fun kn_58 => (hv_ (p := c_24 P 3 = n3) ((hid kn_58)) (fun h_59 => (hv_ (p := Hid (c_3 41 23 = n3)) ((hF_5 41 23 (fun q => q.elim (fun h => absurd h.1 (nn rfl)) (fun h => absurd h (nn rfl)))).trans (hm3)) (fun kn_60 => (hv_ (p := Hid (c_24 41 23 = n3)) ((hF_26 41 23 qn_b79f282cd).trans (hid kn_60)) (fun kn_61 => (hv_ (p := c_24 41 23 = n3) ((hid kn_61)) (fun h_62 => ?_)))))))))))))))
    refine hv_ (p := Hid (c_3 0 12 = c 0 12)) (hF_5 0 12 (fun q => q.elim (fun h => absurd h.2 (ni rfl)) (fun h => absurd h (nn rfl)))) (fun kn_63 => (hv_ (p := Hid (c_24 0 12 = c 0 12)) ((hF_26 0 12 qn_666ded271).trans (hid kn_63)) (fun kn_64 => (hv_ (p := c_24 0 12 = c 0 12) ((hid kn_64)) (fun h_65 => (hv_ (p := c_24 42 0 = c_24 42 0) (rfl) (fun h_66 => (hv_ (p := Hid (c_24 0 13 = c_3 0 13)) (hF_26 0 13 qn_666ded271) (fun kn_67 => (hv_ (p := c_24 0 13 = c_3 0 13) ((hid kn_67)) (fun h_68 => (hv_ (p := c_24 42 1 = c_24 42 1) (rfl) (fun h_69 => ?_)))))))))))))
    exact K P Q c_24 1 (of_decide_eq_true rfl) hI_25 ⟨by omega, ub_fr hU (fun j => (hF_26 2 j qn_2ad67e194).trans (hF_5 2 j (fun q => q.elim (fun h => absurd h.1 (nn rfl)) (fun h => absurd h (nn rfl))))) (fun j => (hF_26 43 j qn_1520ff5e3).trans (hF_5 43 j (fun q => q.elim (fun h => absurd h.1 (nn rfl)) (fun h => absurd h (nn rfl))))), ⟨by omega, by omega, by omega, by omega⟩, ⟨by omega, by omega⟩⟩
  refine bk_inl (hv_ (ir_0_12 hI_10) (fun h_70 => (hv_ (ir_0_13 hI_10) (fun h_71 => (v_i2l c_281_7 (by omega) (v_ls c_281_8 rfl (of_decide_eq_true rfl) (of_decide_eq_true rfl) (of_decide_eq_true rfl) (q_goto (t := 15) c_281_9 rfl (q_iconst c_281_15 (q_iret c_281_16 rfl ?_)))))))))
  refine bk_inl (q_istore c_296_1074 (Nat.le_of_ble_eq_true rfl) (q_aload_n c_296_1076 rfl (q_aload_n c_296_1077 rfl (q_iload c_296_1078 rfl (q_iconst c_296_1080 (v_iadd (v := (i0 : Int) + 1) c_296_1081 rfl (v_scr (j := i0 + 1) c_296_1082 (by omega) (by omega) hL hx1 ?_)))))))
  refine hv_ (iw_lx (a := 67) (j := 0) (v := y_12) hI_10 (by omega)) (fun hI_72 => (hv_ (ir_42 hI 0) (fun h_73 => (hv_ (p := Hid (c_9 42 0 = c 42 0)) (hF_11 42 0 (fun q => q.elim (fun h => absurd h.1 (nn rfl)) (fun h => absurd h (nn rfl)))) (fun kn_74 => (hv_ (p := (up c_9 67 0 y_12) 42 0 = c 42 0) (((up_c (nn rfl)).trans (hid kn_74))) (fun h_75 => (hv_ (ir_42 hI 1) (fun h_76 => (hv_ (p := Hid (c_9 42 1 = c 42 1)) (hF_11 42 1 (fun q => q.elim (fun h => absurd h.1 (nn rfl)) (fun h => absurd h (nn rfl)))) (fun kn_77 => (hv_ (p := (up c_9 67 0 y_12) 42 1 = c 42 1) (((up_c (nn rfl)).trans (hid kn_77))) (fun h_78 => (v_cv c_296_1083 km_9_199 rfl rfl (Nat.le_of_ble_eq_true rfl) ⟨⟨rfl, rfl⟩, Nat.le_of_ble_eq_true rfl, rfl⟩ (Nat.le_of_ble_eq_true rfl) (Nat.le_of_ble_eq_true rfl) (s_232S (a1 := x1) hI_72 (show (-2147483648) ≤ x1 ∧ x1 ≤ 2147483647 from ⟨by first | exact q_946aba308 h_13 | omega, by first | exact q_fe021046e h_13 | omega⟩) (fun c_79 y_82 hI_80 hF_81 hy_82 h_83 => ?_))))))))))))))))
  refine bk_inl (hv_ (ir_42 hI_80 0) (fun h_84 => (hv_ (ir_42 hI_80 1) (fun h_85 => (q_istore c_296_1086 (Nat.le_of_ble_eq_true rfl) (q_goto (t := 1816) c_296_1088 rfl (Wp_ls [(4, vi (i0 : Int)), (3, .ref 67), (2, .ref 41), (1, .ref 0), (0, .ref a_SC)] (lsub_cons rfl (lsub_cons rfl (lsub_cons rfl (lsub_cons rfl (lsub_cons rfl lsub_nil))))) (hv_ (ir_1_3 hI) (fun h_86 => (hv_ (p := Hid (c_9 1 3 = c 1 3)) (hF_11 1 3 (fun q => q.elim (fun h => absurd h.1 (nn rfl)) (fun h => absurd h (nn rfl)))) (fun kn_87 => ?_)))))))))))
  refine hv_ (p := Hid (c_79 1 3 = c 1 3)) ((hF_81 1 3 qn_39cd18c3e).trans ((up_c (nn rfl)).trans (hid kn_87))) (fun kn_88 => (hv_ (p := c_79 1 3 = c 1 3) ((hid kn_88)) (fun h_89 => (hv_ (ir_41_2 hI) (fun h_90 => (hv_ (p := Hid (c_9 41 2 = c 41 2)) (hF_11 41 2 (fun q => q.elim (fun h => absurd h.1 (nn rfl)) (fun h => absurd h (nn rfl)))) (fun kn_91 => (hv_ (p := Hid (c_79 41 2 = c 41 2)) ((hF_81 41 2 qn_53bdb2099).trans ((up_c (nn rfl)).trans (hid kn_91))) (fun kn_92 => (hv_ (p := c_79 41 2 = c 41 2) ((hid kn_92)) (fun h_93 => (hv_ (p := Hid (c_9 P 0 = n0)) ((hF_11 P 0 (qn_e391c0369 hP)).trans (hn0)) (fun kn_94 => (hv_ (p := Hid (c_79 P 0 = n0)) ((hF_81 P 0 (qn_857752076 hP)).trans ((up_c (np0 hP rfl)).trans (hid kn_94))) (fun kn_95 => ?_)))))))))))))))
  refine hv_ (p := c_79 P 0 = n0) ((hid kn_95)) (fun h_96 => (hv_ (p := Hid (c_9 41 20 = n0)) ((hF_11 41 20 (fun q => q.elim (fun h => absurd h.1 (nn rfl)) (fun h => absurd h (nn rfl)))).trans (hm0)) (fun kn_97 => (hv_ (p := Hid (c_79 41 20 = n0)) ((hF_81 41 20 qn_110b29ed6).trans ((up_c (nn rfl)).trans (hid kn_97))) (fun kn_98 => (hv_ (p := c_79 41 20 = n0) ((hid kn_98)) (fun h_99 => (hv_ (p := Hid (c_9 P 1 = n1)) ((hF_11 P 1 (qn_e391c0369 hP)).trans (hn1)) (fun kn_100 => (hv_ (p := Hid (c_79 P 1 = n1)) ((hF_81 P 1 (qn_857752076 hP)).trans ((up_c (np0 hP rfl)).trans (hid kn_100))) (fun kn_101 => (hv_ (p := c_79 P 1 = n1) ((hid kn_101)) (fun h_102 => (hv_ (p := Hid (c_9 41 21 = n1)) ((hF_11 41 21 (fun q => q.elim (fun h => absurd h.1 (nn rfl)) (fun h => absurd h (nn rfl)))).trans (hm1)) (fun kn_103 => ?_)))))))))))))))
  refine hv_ (p := Hid (c_79 41 21 = n1)) ((hF_81 41 21 qn_561064c41).trans ((up_c (nn rfl)).trans (hid kn_103))) (fun kn_104 => (hv_ (p := c_79 41 21 = n1) ((hid kn_104)) (fun h_105 => (hv_ (p := Hid (c_9 P 2 = n2)) ((hF_11 P 2 (qn_e391c0369 hP)).trans (hn2)) (fun kn_106 => (hv_ (p := Hid (c_79 P 2 = n2)) ((hF_81 P 2 (qn_857752076 hP)).trans ((up_c (np0 hP rfl)).trans (hid kn_106))) (fun kn_107 => (hv_ (p := c_79 P 2 = n2) ((hid kn_107)) (fun h_108 => (hv_ (p := Hid (c_9 41 22 = n2)) ((hF_11 41 22 (fun q => q.elim (fun h => absurd h.1 (nn rfl)) (fun h => absurd h (nn rfl)))).trans (hm2)) (fun kn_109 => (hv_ (p := Hid (c_79 41 22 = n2)) ((hF_81 41 22 qn_1a460b46b).trans ((up_c (nn rfl)).trans (hid kn_109))) (fun kn_110 => (hv_ (p := c_79 41 22 = n2) ((hid kn_110)) (fun h_111 => ?_)))))))))))))))
  refine hv_ (p := Hid (c_9 P 3 = n3)) ((hF_11 P 3 (qn_e391c0369 hP)).trans (hn3)) (fun kn_112 => (hv_ (p := Hid (c_79 P 3 = n3)) ((hF_81 P 3 (qn_857752076 hP)).trans ((up_c (np0 hP rfl)).trans (hid kn_112))) (fun kn_113 => (hv_ (p := c_79 P 3 = n3) ((hid kn_113)) (fun h_114 => (hv_ (p := Hid (c_9 41 23 = n3)) ((hF_11 41 23 (fun q => q.elim (fun h => absurd h.1 (nn rfl)) (fun h => absurd h (nn rfl)))).trans (hm3)) (fun kn_115 => (hv_ (p := Hid (c_79 41 23 = n3)) ((hF_81 41 23 qn_b79f282cd).trans ((up_c (nn rfl)).trans (hid kn_115))) (fun kn_116 => (hv_ (p := c_79 41 23 = n3) ((hid kn_116)) (fun h_117 => (hv_ (p := Hid (c_9 0 12 = c 0 12)) (hF_11 0 12 (fun q => q.elim (fun h => absurd h.2 (ni rfl)) (fun h => absurd h (nn rfl)))) (fun kn_118 => (hv_ (p := Hid (c_79 0 12 = c 0 12)) ((hF_81 0 12 qn_666ded271).trans ((up_c (nn rfl)).trans (hid kn_118))) (fun kn_119 => ?_)))))))))))))))
  refine hv_ (p := c_79 0 12 = c 0 12) ((hid kn_119)) (fun h_120 => (hv_ (p := c_79 42 0 = c_79 42 0) (rfl) (fun h_121 => (hv_ (p := Hid (c_79 0 13 = c_9 0 13)) ((hF_81 0 13 qn_666ded271).trans (up_c (nn rfl))) (fun kn_122 => (hv_ (p := c_79 0 13 = c_9 0 13) ((hid kn_122)) (fun h_123 => (hv_ (p := c_79 42 1 = c_79 42 1) (rfl) (fun h_124 => ?_)))))))))
  exact K P Q c_79 0 (of_decide_eq_true rfl) hI_80 ⟨by omega, ub_fr hU (fun j => (hF_81 2 j qn_2ad67e194).trans ((up_c (nn rfl)).trans (hF_11 2 j (fun q => q.elim (fun h => absurd h.1 (nn rfl)) (fun h => absurd h (nn rfl)))))) (fun j => (hF_81 43 j qn_1520ff5e3).trans ((up_c (nn rfl)).trans (hF_11 43 j (fun q => q.elim (fun h => absurd h.1 (nn rfl)) (fun h => absurd h (nn rfl)))))), ⟨by omega, by omega, by omega, by omega⟩, ⟨by omega, by omega⟩⟩

set_option maxRecDepth 100000 in
set_option maxHeartbeats 4000000 in
theorem o_22 {xs : Nat → Int32} {L i0 d nc ns P Q : Nat} {c : ME} {Z : AR → Prop} (hi : i0 + 8 ≤ L) (hL : L ≤ 100000) (hI : Iv 0 (-1) P Q c) (hR : Rq P c) (K : ∀ (P2 Q2 : Nat) (c2 : ME) (e : Nat), e ≤ 1 → Iv 0 (-1) P2 Q2 c2 → (Rq P2 c2) → Wp (a_scr L xs) (d + 90) 296 1816 [(4, vi (i0 : Int)), (3, .ref 67), (2, .ref 41), (1, .ref 0), (0, .ref a_SC)] [] (Wd P2 Q2 P2 P2 c2) (nc + e) (ns + 6 * e) Z) : Wp (a_scr L xs) (d + 90) 296 1091 [(4, vi (i0 : Int)), (3, .ref 67), (2, .ref 41), (1, .ref 0), (0, .ref a_SC)] [] (Wd P Q P P c) nc ns Z := by
  obtain ⟨x1, hx1⟩ : ∃ z, (xs (i0 + 1)).toInt = z := ⟨_, rfl⟩
  refine hv_ (c_rng (xs (i0 + 1))) (fun x1r => ?_)
  rw [hx1] at x1r
  obtain ⟨x2, hx2⟩ : ∃ z, (xs (i0 + 2)).toInt = z := ⟨_, rfl⟩
  refine hv_ (c_rng (xs (i0 + 2))) (fun x2r => ?_)
  rw [hx2] at x2r
  obtain ⟨x3, hx3⟩ : ∃ z, (xs (i0 + 3)).toInt = z := ⟨_, rfl⟩
  refine hv_ (c_rng (xs (i0 + 3))) (fun x3r => ?_)
  rw [hx3] at x3r
  obtain ⟨x4, hx4⟩ : ∃ z, (xs (i0 + 4)).toInt = z := ⟨_, rfl⟩
  refine hv_ (c_rng (xs (i0 + 4))) (fun x4r => ?_)
  rw [hx4] at x4r
  obtain ⟨x5, hx5⟩ : ∃ z, (xs (i0 + 5)).toInt = z := ⟨_, rfl⟩
  refine hv_ (c_rng (xs (i0 + 5))) (fun x5r => ?_)
  rw [hx5] at x5r
  obtain ⟨x6, hx6⟩ : ∃ z, (xs (i0 + 6)).toInt = z := ⟨_, rfl⟩
  refine hv_ (c_rng (xs (i0 + 6))) (fun x6r => ?_)
  rw [hx6] at x6r
  obtain ⟨x7, hx7⟩ : ∃ z, (xs (i0 + 7)).toInt = z := ⟨_, rfl⟩
  refine hv_ (c_rng (xs (i0 + 7))) (fun x7r => ?_)
  rw [hx7] at x7r
  refine hv_ (iv_P hI) (fun hP => (hv_ (iv_Q hI) (fun hQ => (hv_ (rl_t hR) (fun hT => (hv_ (rl_u hR) (fun hU => ?_)))))))
  obtain ⟨n0, hn0⟩ : ∃ z, c P 0 = z := ⟨_, rfl⟩
  refine hv_ (p := c 41 20 = n0) ((rl_nums hR).1.symm.trans hn0) (fun hm0 => (hv_ (ir_p0_0 hI hP) (fun hr0 => ?_)))
  rw [hn0] at hr0
  obtain ⟨n1, hn1⟩ : ∃ z, c P 1 = z := ⟨_, rfl⟩
  refine hv_ (p := c 41 21 = n1) ((rl_nums hR).2.1.symm.trans hn1) (fun hm1 => (hv_ (ir_p0_1 hI hP) (fun hr1 => ?_)))
  rw [hn1] at hr1
  obtain ⟨n2, hn2⟩ : ∃ z, c P 2 = z := ⟨_, rfl⟩
  refine hv_ (p := c 41 22 = n2) ((rl_nums hR).2.2.1.symm.trans hn2) (fun hm2 => (hv_ (ir_p0_2 hI hP) (fun hr2 => ?_)))
  rw [hn2] at hr2
  obtain ⟨n3, hn3⟩ : ∃ z, c P 3 = z := ⟨_, rfl⟩
  refine hv_ (p := c 41 23 = n3) ((rl_nums hR).2.2.2.symm.trans hn3) (fun hm3 => (hv_ (ir_p0_3 hI hP) (fun hr3 => ?_)))
  rw [hn3] at hr3
  refine hv_ (rl_cnt2 hR) (fun hNcnt2 => (hv_ (rl_cnt2 hR) (fun hNcnt2 => (q_aload_n c_296_1091 rfl (q_aload_n c_296_1092 rfl (q_iload c_296_1093 rfl (q_iconst c_296_1095 (v_iadd (v := (i0 : Int) + 1) c_296_1096 rfl (v_scr (j := i0 + 1) c_296_1097 (by omega) (by omega) hL hx1 ?_)))))))))
  refine q_aload_n c_296_1098 rfl (q_iload c_296_1099 rfl (q_iconst c_296_1101 (v_iadd (v := (i0 : Int) + 2) c_296_1102 rfl (v_scr (j := i0 + 2) c_296_1103 (by omega) (by omega) hL hx2 (q_aload_n c_296_1104 rfl (q_iload c_296_1105 rfl (q_iconst c_296_1107 ?_)))))))
  refine v_iadd (v := (i0 : Int) + 3) c_296_1108 rfl (v_scr (j := i0 + 3) c_296_1109 (by omega) (by omega) hL hx3 (q_aload_n c_296_1110 rfl (q_iload c_296_1111 rfl (q_iconst c_296_1113 (v_iadd (v := (i0 : Int) + 4) c_296_1114 rfl (v_scr (j := i0 + 4) c_296_1115 (by omega) (by omega) hL hx4 (q_aload_n c_296_1116 rfl ?_)))))))
  refine q_call c_296_1117 rfl rfl rfl (q_aload c_282_0 rfl (q_iconst c_282_2 (q_aload_n c_282_3 rfl (q_iload_n c_282_4 rfl (q_iload_n c_282_5 rfl (q_iload_n c_282_6 rfl (q_iload c_282_7 rfl ?_)))))))
  refine hv_ (ir_0_12 hI) (fun h_1 => (hv_ (ir_0_13 hI) (fun h_2 => ?_)))
  refine v_cv c_282_9 km_9_74 rfl rfl (Nat.le_of_ble_eq_true rfl) ⟨⟨rfl, rfl⟩, Nat.le_of_ble_eq_true rfl, rfl⟩ (Nat.le_of_ble_eq_true rfl) (Nat.le_of_ble_eq_true rfl) (s_134S (a1 := x1) (a2 := x2) (a3 := x3) (a4 := x4) hI (show (-2147483648) ≤ x1 ∧ x1 ≤ 2147483647 from ⟨by omega, by omega⟩) (show (-2147483648) ≤ x2 ∧ x2 ≤ 2147483647 from ⟨by omega, by omega⟩) (show (-2147483648) ≤ x3 ∧ x3 ≤ 2147483647 from ⟨by omega, by omega⟩) (show (-2147483648) ≤ x4 ∧ x4 ≤ 2147483647 from ⟨by omega, by omega⟩) (fun c_3 hI_4 hF_5 h_6 h_7 h_8 => ?_) (fun c_9 y_12 hI_10 hF_11 h_13 h_14 h_15 => ?_))
  · skip
    refine hv_ (ir_0_13 hI_4) (fun h_16 => (hv_ (ir_0_12 hI_4) (fun h_17 => (bk_thr (z := Int32.ofInt 1) rfl ⟨_, _, rfl⟩ rfl (bk_inl (q_istore c_296_1120 (Nat.le_of_ble_eq_true rfl) (q_aload_n c_296_1122 rfl (q_aload_n c_296_1123 rfl (q_iload c_296_1124 rfl ?_)))))))))
    refine q_iconst c_296_1126 (v_iadd (v := (i0 : Int) + 1) c_296_1127 rfl (v_scr (j := i0 + 1) c_296_1128 (by omega) (by omega) hL hx1 (q_aload_n c_296_1129 rfl (q_iload c_296_1130 rfl (q_iconst c_296_1132 (v_iadd (v := (i0 : Int) + 2) c_296_1133 rfl (v_scr (j := i0 + 2) c_296_1134 (by omega) (by omega) hL hx2 ?_)))))))
    refine q_aload_n c_296_1135 rfl (q_iload c_296_1136 rfl (q_iconst c_296_1138 (v_iadd (v := (i0 : Int) + 3) c_296_1139 rfl (v_scr (j := i0 + 3) c_296_1140 (by omega) (by omega) hL hx3 (q_aload_n c_296_1141 rfl (q_iload c_296_1142 rfl (q_iconst c_296_1144 ?_)))))))
    refine v_iadd (v := (i0 : Int) + 4) c_296_1145 rfl (v_scr (j := i0 + 4) c_296_1146 (by omega) (by omega) hL hx4 (hv_ (ir_42 hI 0) (fun h_18 => (hv_ (p := Hid (c_3 42 0 = c 42 0)) (hF_5 42 0 (fun h => absurd h.1 (nn rfl))) (fun kn_19 => (hv_ (p := c_3 42 0 = c 42 0) ((hid kn_19)) (fun h_20 => (hv_ (ir_42 hI 1) (fun h_21 => (hv_ (p := Hid (c_3 42 1 = c 42 1)) (hF_5 42 1 (fun h => absurd h.1 (nn rfl))) (fun kn_22 => (hv_ (p := c_3 42 1 = c 42 1) ((hid kn_22)) (fun h_23 => ?_)))))))))))))
    refine v_cv c_296_1147 km_9_203 rfl rfl (Nat.le_of_ble_eq_true rfl) ⟨⟨rfl, rfl⟩, Nat.le_of_ble_eq_true rfl, rfl⟩ (Nat.le_of_ble_eq_true rfl) (Nat.le_of_ble_eq_true rfl) (s_234S (a1 := x1) (a2 := x2) (a3 := x3) (a4 := x4) hI_4 (show (-2147483648) ≤ x1 ∧ x1 ≤ 2147483647 from ⟨by first | (clear hT hNcnt2 h_1 h_2 h_16 h_17; omega) | omega, by first | (clear hT hNcnt2 h_1 h_2 h_16 h_17; omega) | omega⟩) (show (-2147483648) ≤ x2 ∧ x2 ≤ 2147483647 from ⟨by first | (clear hT hNcnt2 h_1 h_2 h_16 h_17; omega) | omega, by first | (clear hT hNcnt2 h_1 h_2 h_16 h_17; omega) | omega⟩) (show (-2147483648) ≤ x3 ∧ x3 ≤ 2147483647 from ⟨by first | (clear hT hNcnt2 h_1 h_2 h_16 h_17; omega) | omega, by first | (clear hT hNcnt2 h_1 h_2 h_16 h_17; omega) | omega⟩) (show (-2147483648) ≤ x4 ∧ x4 ≤ 2147483647 from ⟨by first | (clear hT hNcnt2 h_1 h_2 h_16 h_17; omega) | omega, by first | (clear hT hNcnt2 h_1 h_2 h_16 h_17; omega) | omega⟩) (fun c_24 y_27 hI_25 hF_26 h_28 => (bk_inl (hv_ (ir_42 hI_25 0) (fun h_29 => (hv_ (ir_42 hI_25 1) (fun h_30 => (q_lstore c_296_1150 (of_decide_eq_true rfl) (q_goto (t := 1816) c_296_1152 rfl (Wp_ls [(4, vi (i0 : Int)), (3, .ref 67), (2, .ref 41), (1, .ref 0), (0, .ref a_SC)] (lsub_cons rfl (lsub_cons rfl (lsub_cons rfl (lsub_cons rfl (lsub_cons rfl lsub_nil))))) (hv_ (ir_1_3 hI) (fun h_31 => ?_))))))))))))
    refine hv_ (p := Hid (c_3 1 3 = c 1 3)) (hF_5 1 3 (fun h => absurd h.1 (nn rfl))) (fun kn_32 => (hv_ (p := Hid (c_24 1 3 = c 1 3)) ((hF_26 1 3 qn_0bb414bab).trans (hid kn_32)) (fun kn_33 => (hv_ (p := c_24 1 3 = c 1 3) ((hid kn_33)) (fun h_34 => (hv_ (ir_41_2 hI) (fun h_35 => (hv_ (p := Hid (c_3 41 2 = c 41 2)) (hF_5 41 2 (fun h => absurd h.1 (nn rfl))) (fun kn_36 => (hv_ (p := Hid (c_24 41 2 = c 41 2)) ((hF_26 41 2 qn_ebfe7b626).trans (hid kn_36)) (fun kn_37 => (hv_ (p := c_24 41 2 = c 41 2) ((hid kn_37)) (fun h_38 => (hv_ (p := Hid (c_3 P 0 = n0)) ((hF_5 P 0 (fun h => absurd h.1 (np0 hP rfl))).trans (hn0)) (fun kn_39 => ?_)))))))))))))))
    refine hv_ (p := Hid (c_24 P 0 = n0)) ((hF_26 P 0 (qn_7f38acc6d hP)).trans (hid kn_39)) (fun kn_40 => (hv_ (p := c_24 P 0 = n0) ((hid kn_40)) (fun h_41 => (hv_ (p := Hid (c_3 41 20 = n0)) ((hF_5 41 20 (fun h => absurd h.1 (nn rfl))).trans (hm0)) (fun kn_42 => (hv_ (p := Hid (c_24 41 20 = n0)) ((hF_26 41 20 qn_cd1179a69).trans (hid kn_42)) (fun kn_43 => (hv_ (p := c_24 41 20 = n0) ((hid kn_43)) (fun h_44 => (hv_ (p := Hid (c_3 P 1 = n1)) ((hF_5 P 1 (fun h => absurd h.1 (np0 hP rfl))).trans (hn1)) (fun kn_45 => (hv_ (p := Hid (c_24 P 1 = n1)) ((hF_26 P 1 (qn_7f38acc6d hP)).trans (hid kn_45)) (fun kn_46 => (hv_ (p := c_24 P 1 = n1) ((hid kn_46)) (fun h_47 => ?_)))))))))))))))
    refine hv_ (p := Hid (c_3 41 21 = n1)) ((hF_5 41 21 (fun h => absurd h.1 (nn rfl))).trans (hm1)) (fun kn_48 => (hv_ (p := Hid (c_24 41 21 = n1)) ((hF_26 41 21 qn_b9279a13b).trans (hid kn_48)) (fun kn_49 => (hv_ (p := c_24 41 21 = n1) ((hid kn_49)) (fun h_50 => (hv_ (p := Hid (c_3 P 2 = n2)) ((hF_5 P 2 (fun h => absurd h.1 (np0 hP rfl))).trans (hn2)) (fun kn_51 => (hv_ (p := Hid (c_24 P 2 = n2)) ((hF_26 P 2 (qn_7f38acc6d hP)).trans (hid kn_51)) (fun kn_52 => (hv_ (p := c_24 P 2 = n2) ((hid kn_52)) (fun h_53 => (hv_ (p := Hid (c_3 41 22 = n2)) ((hF_5 41 22 (fun h => absurd h.1 (nn rfl))).trans (hm2)) (fun kn_54 => (hv_ (p := Hid (c_24 41 22 = n2)) ((hF_26 41 22 qn_60858c59b).trans (hid kn_54)) (fun kn_55 => ?_)))))))))))))))
    refine hv_ (p := c_24 41 22 = n2) ((hid kn_55)) (fun h_56 => (hv_ (p := Hid (c_3 P 3 = n3)) ((hF_5 P 3 (fun h => absurd h.1 (np0 hP rfl))).trans (hn3)) (fun kn_57 => (hv_ (p := Hid (c_24 P 3 = n3)) ((hF_26 P 3 (qn_7f38acc6d hP)).trans (hid kn_57)) (fun kn_58 => (hv_ (p := c_24 P 3 = n3) ((hid kn_58)) (fun h_59 => (hv_ (p := Hid (c_3 41 23 = n3)) ((hF_5 41 23 (fun h => absurd h.1 (nn rfl))).trans (hm3)) (fun kn_60 => (hv_ (p := Hid (c_24 41 23 = n3)) ((hF_26 41 23 qn_cac453c9d).trans (hid kn_60)) (fun kn_61 => (hv_ (p := c_24 41 23 = n3) ((hid kn_61)) (fun h_62 => (hv_ (p := Hid (c_3 0 12 = c 0 12)) (hF_5 0 12 (fun h => absurd h.2 (ni rfl))) (fun kn_63 => ?_)))))))))))))))
    refine hv_ (p := Hid (c_24 0 12 = c 0 12)) ((hF_26 0 12 qn_6176629a7).trans (hid kn_63)) (fun kn_64 => (hv_ (p := c_24 0 12 = c 0 12) ((hid kn_64)) (fun h_65 => (hv_ (p := c_24 42 0 = c_24 42 0) (rfl) (fun h_66 => (hv_ (p := Hid (c_24 0 13 = c_3 0 13)) (hF_26 0 13 qn_6176629a7) (fun kn_67 => (hv_ (p := c_24 0 13 = c_3 0 13) ((hid kn_67)) (fun h_68 => (hv_ (p := c_24 42 1 = c_24 42 1) (rfl) (fun h_69 => ?_)))))))))))
    exact K P Q c_24 1 (of_decide_eq_true rfl) hI_25 ⟨by omega, ub_fr hU (fun j => (hF_26 2 j qn_43b5cfd28).trans (hF_5 2 j (fun h => absurd h.1 (nn rfl)))) (fun j => (hF_26 43 j qn_6069d5231).trans (hF_5 43 j (fun h => absurd h.1 (nn rfl)))), ⟨by omega, by omega, by omega, by omega⟩, ⟨by omega, by omega⟩⟩
  refine bk_inl (hv_ (ir_0_12 hI_10) (fun h_70 => (hv_ (ir_0_13 hI_10) (fun h_71 => (v_ls c_282_12 rfl (of_decide_eq_true rfl) (of_decide_eq_true rfl) (of_decide_eq_true rfl) (q_goto (t := 20) c_282_13 rfl (q_iconst c_282_20 (q_iret c_282_21 rfl (bk_inl ?_)))))))))
  refine q_istore c_296_1120 (Nat.le_of_ble_eq_true rfl) (q_aload_n c_296_1122 rfl (q_aload_n c_296_1123 rfl (q_iload c_296_1124 rfl (q_iconst c_296_1126 (v_iadd (v := (i0 : Int) + 1) c_296_1127 rfl (v_scr (j := i0 + 1) c_296_1128 (by omega) (by omega) hL hx1 (q_aload_n c_296_1129 rfl ?_)))))))
  refine q_iload c_296_1130 rfl (q_iconst c_296_1132 (v_iadd (v := (i0 : Int) + 2) c_296_1133 rfl (v_scr (j := i0 + 2) c_296_1134 (by omega) (by omega) hL hx2 (q_aload_n c_296_1135 rfl (q_iload c_296_1136 rfl (q_iconst c_296_1138 (v_iadd (v := (i0 : Int) + 3) c_296_1139 rfl ?_)))))))
  refine v_scr (j := i0 + 3) c_296_1140 (by omega) (by omega) hL hx3 (q_aload_n c_296_1141 rfl (q_iload c_296_1142 rfl (q_iconst c_296_1144 (v_iadd (v := (i0 : Int) + 4) c_296_1145 rfl (v_scr (j := i0 + 4) c_296_1146 (by omega) (by omega) hL hx4 (hv_ (iw_lx (a := 67) (j := 0) (v := y_12) hI_10 (by omega)) (fun hI_72 => (hv_ (ir_42 hI 0) (fun h_73 => ?_)))))))))
  refine hv_ (p := Hid (c_9 42 0 = c 42 0)) (hF_11 42 0 (fun h => absurd h.1 (nn rfl))) (fun kn_74 => (hv_ (p := (up c_9 67 0 y_12) 42 0 = c 42 0) (((up_c (nn rfl)).trans (hid kn_74))) (fun h_75 => (hv_ (ir_42 hI 1) (fun h_76 => (hv_ (p := Hid (c_9 42 1 = c 42 1)) (hF_11 42 1 (fun h => absurd h.1 (nn rfl))) (fun kn_77 => (hv_ (p := (up c_9 67 0 y_12) 42 1 = c 42 1) (((up_c (nn rfl)).trans (hid kn_77))) (fun h_78 => (v_cv c_296_1147 km_9_203 rfl rfl (Nat.le_of_ble_eq_true rfl) ⟨⟨rfl, rfl⟩, Nat.le_of_ble_eq_true rfl, rfl⟩ (Nat.le_of_ble_eq_true rfl) (Nat.le_of_ble_eq_true rfl) (s_234S (a1 := x1) (a2 := x2) (a3 := x3) (a4 := x4) hI_72 (show (-2147483648) ≤ x1 ∧ x1 ≤ 2147483647 from ⟨by first | exact q_2a9863523 h_13 | omega, by first | exact q_71cea3467 h_13 | omega⟩) (show (-2147483648) ≤ x2 ∧ x2 ≤ 2147483647 from ⟨by first | exact q_175e5b481 h_13 | omega, by first | exact q_1436fc698 h_13 | omega⟩) (show (-2147483648) ≤ x3 ∧ x3 ≤ 2147483647 from ⟨by first | exact q_92b3fd757 h_13 | omega, by first | exact q_0a4d07dcc h_13 | omega⟩) (show (-2147483648) ≤ x4 ∧ x4 ≤ 2147483647 from ⟨by first | exact q_706ff00d9 h_13 | omega, by first | exact q_ce53c5706 h_13 | omega⟩) (fun c_79 y_82 hI_80 hF_81 h_83 => (bk_inl (hv_ (ir_42 hI_80 0) (fun h_84 => ?_)))))))))))))))
  refine hv_ (ir_42 hI_80 1) (fun h_85 => (q_lstore c_296_1150 (of_decide_eq_true rfl) (q_goto (t := 1816) c_296_1152 rfl (Wp_ls [(4, vi (i0 : Int)), (3, .ref 67), (2, .ref 41), (1, .ref 0), (0, .ref a_SC)] (lsub_cons rfl (lsub_cons rfl (lsub_cons rfl (lsub_cons rfl (lsub_cons rfl lsub_nil))))) (hv_ (ir_1_3 hI) (fun h_86 => (hv_ (p := Hid (c_9 1 3 = c 1 3)) (hF_11 1 3 (fun h => absurd h.1 (nn rfl))) (fun kn_87 => (hv_ (p := Hid (c_79 1 3 = c 1 3)) ((hF_81 1 3 qn_0bb414bab).trans ((up_c (nn rfl)).trans (hid kn_87))) (fun kn_88 => (hv_ (p := c_79 1 3 = c 1 3) ((hid kn_88)) (fun h_89 => ?_))))))))))))
  refine hv_ (ir_41_2 hI) (fun h_90 => (hv_ (p := Hid (c_9 41 2 = c 41 2)) (hF_11 41 2 (fun h => absurd h.1 (nn rfl))) (fun kn_91 => (hv_ (p := Hid (c_79 41 2 = c 41 2)) ((hF_81 41 2 qn_ebfe7b626).trans ((up_c (nn rfl)).trans (hid kn_91))) (fun kn_92 => (hv_ (p := c_79 41 2 = c 41 2) ((hid kn_92)) (fun h_93 => (hv_ (p := Hid (c_9 P 0 = n0)) ((hF_11 P 0 (fun h => absurd h.1 (np0 hP rfl))).trans (hn0)) (fun kn_94 => (hv_ (p := Hid (c_79 P 0 = n0)) ((hF_81 P 0 (qn_7f38acc6d hP)).trans ((up_c (np0 hP rfl)).trans (hid kn_94))) (fun kn_95 => (hv_ (p := c_79 P 0 = n0) ((hid kn_95)) (fun h_96 => (hv_ (p := Hid (c_9 41 20 = n0)) ((hF_11 41 20 (fun h => absurd h.1 (nn rfl))).trans (hm0)) (fun kn_97 => ?_)))))))))))))))
  refine hv_ (p := Hid (c_79 41 20 = n0)) ((hF_81 41 20 qn_cd1179a69).trans ((up_c (nn rfl)).trans (hid kn_97))) (fun kn_98 => (hv_ (p := c_79 41 20 = n0) ((hid kn_98)) (fun h_99 => (hv_ (p := Hid (c_9 P 1 = n1)) ((hF_11 P 1 (fun h => absurd h.1 (np0 hP rfl))).trans (hn1)) (fun kn_100 => (hv_ (p := Hid (c_79 P 1 = n1)) ((hF_81 P 1 (qn_7f38acc6d hP)).trans ((up_c (np0 hP rfl)).trans (hid kn_100))) (fun kn_101 => (hv_ (p := c_79 P 1 = n1) ((hid kn_101)) (fun h_102 => (hv_ (p := Hid (c_9 41 21 = n1)) ((hF_11 41 21 (fun h => absurd h.1 (nn rfl))).trans (hm1)) (fun kn_103 => (hv_ (p := Hid (c_79 41 21 = n1)) ((hF_81 41 21 qn_b9279a13b).trans ((up_c (nn rfl)).trans (hid kn_103))) (fun kn_104 => (hv_ (p := c_79 41 21 = n1) ((hid kn_104)) (fun h_105 => ?_)))))))))))))))
  refine hv_ (p := Hid (c_9 P 2 = n2)) ((hF_11 P 2 (fun h => absurd h.1 (np0 hP rfl))).trans (hn2)) (fun kn_106 => (hv_ (p := Hid (c_79 P 2 = n2)) ((hF_81 P 2 (qn_7f38acc6d hP)).trans ((up_c (np0 hP rfl)).trans (hid kn_106))) (fun kn_107 => (hv_ (p := c_79 P 2 = n2) ((hid kn_107)) (fun h_108 => (hv_ (p := Hid (c_9 41 22 = n2)) ((hF_11 41 22 (fun h => absurd h.1 (nn rfl))).trans (hm2)) (fun kn_109 => (hv_ (p := Hid (c_79 41 22 = n2)) ((hF_81 41 22 qn_60858c59b).trans ((up_c (nn rfl)).trans (hid kn_109))) (fun kn_110 => (hv_ (p := c_79 41 22 = n2) ((hid kn_110)) (fun h_111 => (hv_ (p := Hid (c_9 P 3 = n3)) ((hF_11 P 3 (fun h => absurd h.1 (np0 hP rfl))).trans (hn3)) (fun kn_112 => (hv_ (p := Hid (c_79 P 3 = n3)) ((hF_81 P 3 (qn_7f38acc6d hP)).trans ((up_c (np0 hP rfl)).trans (hid kn_112))) (fun kn_113 => ?_)))))))))))))))
  refine hv_ (p := c_79 P 3 = n3) ((hid kn_113)) (fun h_114 => (hv_ (p := Hid (c_9 41 23 = n3)) ((hF_11 41 23 (fun h => absurd h.1 (nn rfl))).trans (hm3)) (fun kn_115 => (hv_ (p := Hid (c_79 41 23 = n3)) ((hF_81 41 23 qn_cac453c9d).trans ((up_c (nn rfl)).trans (hid kn_115))) (fun kn_116 => (hv_ (p := c_79 41 23 = n3) ((hid kn_116)) (fun h_117 => (hv_ (p := Hid (c_9 0 12 = c 0 12)) (hF_11 0 12 (fun h => absurd h.2 (ni rfl))) (fun kn_118 => (hv_ (p := Hid (c_79 0 12 = c 0 12)) ((hF_81 0 12 qn_6176629a7).trans ((up_c (nn rfl)).trans (hid kn_118))) (fun kn_119 => (hv_ (p := c_79 0 12 = c 0 12) ((hid kn_119)) (fun h_120 => (hv_ (p := c_79 42 0 = c_79 42 0) (rfl) (fun h_121 => ?_)))))))))))))))
  refine hv_ (p := Hid (c_79 0 13 = c_9 0 13)) ((hF_81 0 13 qn_6176629a7).trans (up_c (nn rfl))) (fun kn_122 => (hv_ (p := c_79 0 13 = c_9 0 13) ((hid kn_122)) (fun h_123 => (hv_ (p := c_79 42 1 = c_79 42 1) (rfl) (fun h_124 => ?_)))))
  exact K P Q c_79 0 (of_decide_eq_true rfl) hI_80 ⟨by omega, ub_fr hU (fun j => (hF_81 2 j qn_43b5cfd28).trans ((up_c (nn rfl)).trans (hF_11 2 j (fun h => absurd h.1 (nn rfl))))) (fun j => (hF_81 43 j qn_6069d5231).trans ((up_c (nn rfl)).trans (hF_11 43 j (fun h => absurd h.1 (nn rfl))))), ⟨by omega, by omega, by omega, by omega⟩, ⟨by omega, by omega⟩⟩

set_option maxRecDepth 100000 in
set_option maxHeartbeats 4000000 in
theorem o_23 {xs : Nat → Int32} {L i0 d nc ns P Q : Nat} {c : ME} {Z : AR → Prop} (hi : i0 + 8 ≤ L) (hL : L ≤ 100000) (hI : Iv 0 (-1) P Q c) (hR : Rq P c) (K : ∀ (P2 Q2 : Nat) (c2 : ME) (e : Nat), e ≤ 1 → Iv 0 (-1) P2 Q2 c2 → (Rq P2 c2) → Wp (a_scr L xs) (d + 90) 296 1816 [(4, vi (i0 : Int)), (3, .ref 67), (2, .ref 41), (1, .ref 0), (0, .ref a_SC)] [] (Wd P2 Q2 P2 P2 c2) (nc + e) (ns + 6 * e) Z) : Wp (a_scr L xs) (d + 90) 296 1155 [(4, vi (i0 : Int)), (3, .ref 67), (2, .ref 41), (1, .ref 0), (0, .ref a_SC)] [] (Wd P Q P P c) nc ns Z := by
  obtain ⟨x1, hx1⟩ : ∃ z, (xs (i0 + 1)).toInt = z := ⟨_, rfl⟩
  refine hv_ (c_rng (xs (i0 + 1))) (fun x1r => ?_)
  rw [hx1] at x1r
  obtain ⟨x2, hx2⟩ : ∃ z, (xs (i0 + 2)).toInt = z := ⟨_, rfl⟩
  refine hv_ (c_rng (xs (i0 + 2))) (fun x2r => ?_)
  rw [hx2] at x2r
  obtain ⟨x3, hx3⟩ : ∃ z, (xs (i0 + 3)).toInt = z := ⟨_, rfl⟩
  refine hv_ (c_rng (xs (i0 + 3))) (fun x3r => ?_)
  rw [hx3] at x3r
  obtain ⟨x4, hx4⟩ : ∃ z, (xs (i0 + 4)).toInt = z := ⟨_, rfl⟩
  refine hv_ (c_rng (xs (i0 + 4))) (fun x4r => ?_)
  rw [hx4] at x4r
  obtain ⟨x5, hx5⟩ : ∃ z, (xs (i0 + 5)).toInt = z := ⟨_, rfl⟩
  refine hv_ (c_rng (xs (i0 + 5))) (fun x5r => ?_)
  rw [hx5] at x5r
  obtain ⟨x6, hx6⟩ : ∃ z, (xs (i0 + 6)).toInt = z := ⟨_, rfl⟩
  refine hv_ (c_rng (xs (i0 + 6))) (fun x6r => ?_)
  rw [hx6] at x6r
  obtain ⟨x7, hx7⟩ : ∃ z, (xs (i0 + 7)).toInt = z := ⟨_, rfl⟩
  refine hv_ (c_rng (xs (i0 + 7))) (fun x7r => ?_)
  rw [hx7] at x7r
  refine hv_ (iv_P hI) (fun hP => (hv_ (iv_Q hI) (fun hQ => (hv_ (rl_t hR) (fun hT => (hv_ (rl_u hR) (fun hU => ?_)))))))
  obtain ⟨n0, hn0⟩ : ∃ z, c P 0 = z := ⟨_, rfl⟩
  refine hv_ (p := c 41 20 = n0) ((rl_nums hR).1.symm.trans hn0) (fun hm0 => (hv_ (ir_p0_0 hI hP) (fun hr0 => ?_)))
  rw [hn0] at hr0
  obtain ⟨n1, hn1⟩ : ∃ z, c P 1 = z := ⟨_, rfl⟩
  refine hv_ (p := c 41 21 = n1) ((rl_nums hR).2.1.symm.trans hn1) (fun hm1 => (hv_ (ir_p0_1 hI hP) (fun hr1 => ?_)))
  rw [hn1] at hr1
  obtain ⟨n2, hn2⟩ : ∃ z, c P 2 = z := ⟨_, rfl⟩
  refine hv_ (p := c 41 22 = n2) ((rl_nums hR).2.2.1.symm.trans hn2) (fun hm2 => (hv_ (ir_p0_2 hI hP) (fun hr2 => ?_)))
  rw [hn2] at hr2
  obtain ⟨n3, hn3⟩ : ∃ z, c P 3 = z := ⟨_, rfl⟩
  refine hv_ (p := c 41 23 = n3) ((rl_nums hR).2.2.2.symm.trans hn3) (fun hm3 => (hv_ (ir_p0_3 hI hP) (fun hr3 => ?_)))
  rw [hn3] at hr3
  refine hv_ (rl_cnt2 hR) (fun hNcnt2 => (hv_ (rl_cnt2 hR) (fun hNcnt2 => (q_aload_n c_296_1155 rfl (q_aload_n c_296_1156 rfl (q_iload c_296_1157 rfl (q_iconst c_296_1159 (v_iadd (v := (i0 : Int) + 1) c_296_1160 rfl (v_scr (j := i0 + 1) c_296_1161 (by omega) (by omega) hL hx1 ?_)))))))))
  refine q_aload_n c_296_1162 rfl (q_iload c_296_1163 rfl (q_iconst c_296_1165 (v_iadd (v := (i0 : Int) + 2) c_296_1166 rfl (v_scr (j := i0 + 2) c_296_1167 (by omega) (by omega) hL hx2 (q_aload_n c_296_1168 rfl (q_iload c_296_1169 rfl (q_iconst c_296_1171 ?_)))))))
  refine v_iadd (v := (i0 : Int) + 3) c_296_1172 rfl (v_scr (j := i0 + 3) c_296_1173 (by omega) (by omega) hL hx3 (q_aload_n c_296_1174 rfl (q_call c_296_1175 rfl rfl rfl (q_aload c_283_0 rfl (q_iconst c_283_2 (q_aload_n c_283_3 rfl (q_iload_n c_283_4 rfl ?_)))))))
  refine q_iload_n c_283_5 rfl (q_iload_n c_283_6 rfl (hv_ (ir_0_12 hI) (fun h_1 => (hv_ (ir_0_13 hI) (fun h_2 => ?_)))))
  refine v_cv c_283_7 km_9_78 rfl rfl (Nat.le_of_ble_eq_true rfl) ⟨⟨rfl, rfl⟩, Nat.le_of_ble_eq_true rfl, rfl⟩ (Nat.le_of_ble_eq_true rfl) (Nat.le_of_ble_eq_true rfl) (s_136S (a1 := x1) (a2 := x2) (a3 := x3) hI (show (-2147483648) ≤ x1 ∧ x1 ≤ 2147483647 from ⟨by omega, by omega⟩) (show (-2147483648) ≤ x2 ∧ x2 ≤ 2147483647 from ⟨by omega, by omega⟩) (show (-2147483648) ≤ x3 ∧ x3 ≤ 2147483647 from ⟨by omega, by omega⟩) (fun c_3 hI_4 hF_5 h_6 h_7 h_8 => ?_) (fun c_9 y_12 hI_10 hF_11 hy_12 h_13 h_14 h_15 => ?_))
  · skip
    refine hv_ (ir_0_13 hI_4) (fun h_16 => (hv_ (ir_0_12 hI_4) (fun h_17 => (bk_thr (z := Int32.ofInt 1) rfl ⟨_, _, rfl⟩ rfl (bk_inl (q_istore c_296_1178 (Nat.le_of_ble_eq_true rfl) (q_aload_n c_296_1180 rfl (q_aload_n c_296_1181 rfl (q_iload c_296_1182 rfl ?_)))))))))
    refine q_iconst c_296_1184 (v_iadd (v := (i0 : Int) + 1) c_296_1185 rfl (v_scr (j := i0 + 1) c_296_1186 (by omega) (by omega) hL hx1 (q_aload_n c_296_1187 rfl (q_iload c_296_1188 rfl (q_iconst c_296_1190 (v_iadd (v := (i0 : Int) + 2) c_296_1191 rfl (v_scr (j := i0 + 2) c_296_1192 (by omega) (by omega) hL hx2 ?_)))))))
    refine q_aload_n c_296_1193 rfl (q_iload c_296_1194 rfl (q_iconst c_296_1196 (v_iadd (v := (i0 : Int) + 3) c_296_1197 rfl (v_scr (j := i0 + 3) c_296_1198 (by omega) (by omega) hL hx3 (hv_ (ir_42 hI 0) (fun h_18 => (hv_ (p := Hid (c_3 42 0 = c 42 0)) (hF_5 42 0 (fun h => absurd h.1 (nn rfl))) (fun kn_19 => (hv_ (p := c_3 42 0 = c 42 0) ((hid kn_19)) (fun h_20 => ?_))))))))))
    refine hv_ (ir_42 hI 1) (fun h_21 => (hv_ (p := Hid (c_3 42 1 = c 42 1)) (hF_5 42 1 (fun h => absurd h.1 (nn rfl))) (fun kn_22 => (hv_ (p := c_3 42 1 = c 42 1) ((hid kn_22)) (fun h_23 => (v_cv c_296_1199 km_9_206 rfl rfl (Nat.le_of_ble_eq_true rfl) ⟨⟨rfl, rfl⟩, Nat.le_of_ble_eq_true rfl, rfl⟩ (Nat.le_of_ble_eq_true rfl) (Nat.le_of_ble_eq_true rfl) (s_236S (a1 := x1) (a2 := x2) (a3 := x3) hI_4 (show (-2147483648) ≤ x1 ∧ x1 ≤ 2147483647 from ⟨by first | (clear hT hNcnt2 h_1 h_2 h_16 h_17; omega) | omega, by first | (clear hT hNcnt2 h_1 h_2 h_16 h_17; omega) | omega⟩) (show (-2147483648) ≤ x2 ∧ x2 ≤ 2147483647 from ⟨by first | (clear hT hNcnt2 h_1 h_2 h_16 h_17; omega) | omega, by first | (clear hT hNcnt2 h_1 h_2 h_16 h_17; omega) | omega⟩) (show (-2147483648) ≤ x3 ∧ x3 ≤ 2147483647 from ⟨by first | (clear hT hNcnt2 h_1 h_2 h_16 h_17; omega) | omega, by first | (clear hT hNcnt2 h_1 h_2 h_16 h_17; omega) | omega⟩) (fun c_24 y_27 hI_25 hF_26 hy_27 h_28 => (bk_inl (hv_ (ir_42 hI_25 0) (fun h_29 => (hv_ (ir_42 hI_25 1) (fun h_30 => (q_istore c_296_1202 (Nat.le_of_ble_eq_true rfl) ?_))))))))))))))
    refine q_goto (t := 1816) c_296_1204 rfl (Wp_ls [(4, vi (i0 : Int)), (3, .ref 67), (2, .ref 41), (1, .ref 0), (0, .ref a_SC)] (lsub_cons rfl (lsub_cons rfl (lsub_cons rfl (lsub_cons rfl (lsub_cons rfl lsub_nil))))) (hv_ (ir_1_3 hI) (fun h_31 => (hv_ (p := Hid (c_3 1 3 = c 1 3)) (hF_5 1 3 (fun h => absurd h.1 (nn rfl))) (fun kn_32 => (hv_ (p := Hid (c_24 1 3 = c 1 3)) ((hF_26 1 3 (fun q => q.elim (fun h => absurd h.1 (nn rfl)) (fun h => absurd h (nn rfl)))).trans (hid kn_32)) (fun kn_33 => (hv_ (p := c_24 1 3 = c 1 3) ((hid kn_33)) (fun h_34 => (hv_ (ir_41_2 hI) (fun h_35 => (hv_ (p := Hid (c_3 41 2 = c 41 2)) (hF_5 41 2 (fun h => absurd h.1 (nn rfl))) (fun kn_36 => ?_)))))))))))))
    refine hv_ (p := Hid (c_24 41 2 = c 41 2)) ((hF_26 41 2 (fun q => q.elim (fun h => absurd h.2 (ni rfl)) (fun h => absurd h (nn rfl)))).trans (hid kn_36)) (fun kn_37 => (hv_ (p := c_24 41 2 = c 41 2) ((hid kn_37)) (fun h_38 => (hv_ (p := Hid (c_3 P 0 = n0)) ((hF_5 P 0 (fun h => absurd h.1 (np0 hP rfl))).trans (hn0)) (fun kn_39 => (hv_ (p := Hid (c_24 P 0 = n0)) ((hF_26 P 0 (qn_753ab1e1a hP)).trans (hid kn_39)) (fun kn_40 => (hv_ (p := c_24 P 0 = n0) ((hid kn_40)) (fun h_41 => (hv_ (p := Hid (c_3 41 20 = n0)) ((hF_5 41 20 (fun h => absurd h.1 (nn rfl))).trans (hm0)) (fun kn_42 => (hv_ (p := Hid (c_24 41 20 = n0)) ((hF_26 41 20 (fun q => q.elim (fun h => absurd h.2 (ni rfl)) (fun h => absurd h (nn rfl)))).trans (hid kn_42)) (fun kn_43 => (hv_ (p := c_24 41 20 = n0) ((hid kn_43)) (fun h_44 => ?_)))))))))))))))
    refine hv_ (p := Hid (c_3 P 1 = n1)) ((hF_5 P 1 (fun h => absurd h.1 (np0 hP rfl))).trans (hn1)) (fun kn_45 => (hv_ (p := Hid (c_24 P 1 = n1)) ((hF_26 P 1 (qn_753ab1e1a hP)).trans (hid kn_45)) (fun kn_46 => (hv_ (p := c_24 P 1 = n1) ((hid kn_46)) (fun h_47 => (hv_ (p := Hid (c_3 41 21 = n1)) ((hF_5 41 21 (fun h => absurd h.1 (nn rfl))).trans (hm1)) (fun kn_48 => (hv_ (p := Hid (c_24 41 21 = n1)) ((hF_26 41 21 (fun q => q.elim (fun h => absurd h.2 (ni rfl)) (fun h => absurd h (nn rfl)))).trans (hid kn_48)) (fun kn_49 => (hv_ (p := c_24 41 21 = n1) ((hid kn_49)) (fun h_50 => (hv_ (p := Hid (c_3 P 2 = n2)) ((hF_5 P 2 (fun h => absurd h.1 (np0 hP rfl))).trans (hn2)) (fun kn_51 => (hv_ (p := Hid (c_24 P 2 = n2)) ((hF_26 P 2 (qn_753ab1e1a hP)).trans (hid kn_51)) (fun kn_52 => ?_)))))))))))))))
    refine hv_ (p := c_24 P 2 = n2) ((hid kn_52)) (fun h_53 => (hv_ (p := Hid (c_3 41 22 = n2)) ((hF_5 41 22 (fun h => absurd h.1 (nn rfl))).trans (hm2)) (fun kn_54 => (hv_ (p := Hid (c_24 41 22 = n2)) ((hF_26 41 22 (fun q => q.elim (fun h => absurd h.2 (ni rfl)) (fun h => absurd h (nn rfl)))).trans (hid kn_54)) (fun kn_55 => (hv_ (p := c_24 41 22 = n2) ((hid kn_55)) (fun h_56 => (hv_ (p := Hid (c_3 P 3 = n3)) ((hF_5 P 3 (fun h => absurd h.1 (np0 hP rfl))).trans (hn3)) (fun kn_57 => (hv_ (p := Hid (c_24 P 3 = n3)) ((hF_26 P 3 (qn_753ab1e1a hP)).trans (hid kn_57)) (fun kn_58 => (hv_ (p := c_24 P 3 = n3) ((hid kn_58)) (fun h_59 => (hv_ (p := Hid (c_3 41 23 = n3)) ((hF_5 41 23 (fun h => absurd h.1 (nn rfl))).trans (hm3)) (fun kn_60 => ?_)))))))))))))))
    refine hv_ (p := Hid (c_24 41 23 = n3)) ((hF_26 41 23 (fun q => q.elim (fun h => absurd h.2 (ni rfl)) (fun h => absurd h (nn rfl)))).trans (hid kn_60)) (fun kn_61 => (hv_ (p := c_24 41 23 = n3) ((hid kn_61)) (fun h_62 => (hv_ (p := Hid (c_3 0 12 = c 0 12)) (hF_5 0 12 (fun h => absurd h.2 (ni rfl))) (fun kn_63 => (hv_ (p := Hid (c_24 0 12 = c 0 12)) ((hF_26 0 12 (fun q => q.elim (fun h => absurd h.1 (nn rfl)) (fun h => absurd h (nn rfl)))).trans (hid kn_63)) (fun kn_64 => (hv_ (p := c_24 0 12 = c 0 12) ((hid kn_64)) (fun h_65 => (hv_ (p := c_24 42 0 = c_24 42 0) (rfl) (fun h_66 => (hv_ (p := Hid (c_24 0 13 = c_3 0 13)) (hF_26 0 13 (fun q => q.elim (fun h => absurd h.1 (nn rfl)) (fun h => absurd h (nn rfl)))) (fun kn_67 => (hv_ (p := c_24 0 13 = c_3 0 13) ((hid kn_67)) (fun h_68 => ?_)))))))))))))))
    refine hv_ (p := c_24 42 1 = c_24 42 1) (rfl) (fun h_69 => ?_)
    exact K P Q c_24 1 (of_decide_eq_true rfl) hI_25 ⟨by omega, ub_fr hU (fun j => (hF_26 2 j (fun q => q.elim (fun h => absurd h.1 (nn rfl)) (fun h => absurd h (nn rfl)))).trans (hF_5 2 j (fun h => absurd h.1 (nn rfl)))) (fun j => (hF_26 43 j (fun q => q.elim (fun h => absurd h.1 (nn rfl)) (fun h => absurd h (nn rfl)))).trans (hF_5 43 j (fun h => absurd h.1 (nn rfl)))), ⟨by omega, by omega, by omega, by omega⟩, ⟨by omega, by omega⟩⟩
  refine bk_inl (hv_ (ir_0_12 hI_10) (fun h_70 => (hv_ (ir_0_13 hI_10) (fun h_71 => (v_i2l c_283_10 (by omega) (v_ls c_283_11 rfl (of_decide_eq_true rfl) (of_decide_eq_true rfl) (of_decide_eq_true rfl) (q_goto (t := 19) c_283_12 rfl (q_iconst c_283_19 (q_iret c_283_20 rfl ?_)))))))))
  refine bk_inl (q_istore c_296_1178 (Nat.le_of_ble_eq_true rfl) (q_aload_n c_296_1180 rfl (q_aload_n c_296_1181 rfl (q_iload c_296_1182 rfl (q_iconst c_296_1184 (v_iadd (v := (i0 : Int) + 1) c_296_1185 rfl (v_scr (j := i0 + 1) c_296_1186 (by omega) (by omega) hL hx1 ?_)))))))
  refine q_aload_n c_296_1187 rfl (q_iload c_296_1188 rfl (q_iconst c_296_1190 (v_iadd (v := (i0 : Int) + 2) c_296_1191 rfl (v_scr (j := i0 + 2) c_296_1192 (by omega) (by omega) hL hx2 (q_aload_n c_296_1193 rfl (q_iload c_296_1194 rfl (q_iconst c_296_1196 ?_)))))))
  refine v_iadd (v := (i0 : Int) + 3) c_296_1197 rfl (v_scr (j := i0 + 3) c_296_1198 (by omega) (by omega) hL hx3 (hv_ (iw_lx (a := 67) (j := 0) (v := y_12) hI_10 (by omega)) (fun hI_72 => (hv_ (ir_42 hI 0) (fun h_73 => (hv_ (p := Hid (c_9 42 0 = c 42 0)) (hF_11 42 0 (fun h => absurd h.1 (nn rfl))) (fun kn_74 => (hv_ (p := (up c_9 67 0 y_12) 42 0 = c 42 0) (((up_c (nn rfl)).trans (hid kn_74))) (fun h_75 => (hv_ (ir_42 hI 1) (fun h_76 => (hv_ (p := Hid (c_9 42 1 = c 42 1)) (hF_11 42 1 (fun h => absurd h.1 (nn rfl))) (fun kn_77 => ?_)))))))))))))
  refine hv_ (p := (up c_9 67 0 y_12) 42 1 = c 42 1) (((up_c (nn rfl)).trans (hid kn_77))) (fun h_78 => (v_cv c_296_1199 km_9_206 rfl rfl (Nat.le_of_ble_eq_true rfl) ⟨⟨rfl, rfl⟩, Nat.le_of_ble_eq_true rfl, rfl⟩ (Nat.le_of_ble_eq_true rfl) (Nat.le_of_ble_eq_true rfl) (s_236S (a1 := x1) (a2 := x2) (a3 := x3) hI_72 (show (-2147483648) ≤ x1 ∧ x1 ≤ 2147483647 from ⟨by first | exact q_7253e9ce5 h_13 | omega, by first | exact q_91a0ca41d h_13 | omega⟩) (show (-2147483648) ≤ x2 ∧ x2 ≤ 2147483647 from ⟨by first | exact q_5406e8820 h_13 | omega, by first | exact q_c713defea h_13 | omega⟩) (show (-2147483648) ≤ x3 ∧ x3 ≤ 2147483647 from ⟨by first | exact q_ed8e0be6a h_13 | omega, by first | exact q_36987186a h_13 | omega⟩) (fun c_79 y_82 hI_80 hF_81 hy_82 h_83 => (bk_inl (hv_ (ir_42 hI_80 0) (fun h_84 => (hv_ (ir_42 hI_80 1) (fun h_85 => (q_istore c_296_1202 (Nat.le_of_ble_eq_true rfl) (q_goto (t := 1816) c_296_1204 rfl (Wp_ls [(4, vi (i0 : Int)), (3, .ref 67), (2, .ref 41), (1, .ref 0), (0, .ref a_SC)] (lsub_cons rfl (lsub_cons rfl (lsub_cons rfl (lsub_cons rfl (lsub_cons rfl lsub_nil))))) ?_))))))))))))
  refine hv_ (ir_1_3 hI) (fun h_86 => (hv_ (p := Hid (c_9 1 3 = c 1 3)) (hF_11 1 3 (fun h => absurd h.1 (nn rfl))) (fun kn_87 => (hv_ (p := Hid (c_79 1 3 = c 1 3)) ((hF_81 1 3 (fun q => q.elim (fun h => absurd h.1 (nn rfl)) (fun h => absurd h (nn rfl)))).trans ((up_c (nn rfl)).trans (hid kn_87))) (fun kn_88 => (hv_ (p := c_79 1 3 = c 1 3) ((hid kn_88)) (fun h_89 => (hv_ (ir_41_2 hI) (fun h_90 => (hv_ (p := Hid (c_9 41 2 = c 41 2)) (hF_11 41 2 (fun h => absurd h.1 (nn rfl))) (fun kn_91 => (hv_ (p := Hid (c_79 41 2 = c 41 2)) ((hF_81 41 2 (fun q => q.elim (fun h => absurd h.2 (ni rfl)) (fun h => absurd h (nn rfl)))).trans ((up_c (nn rfl)).trans (hid kn_91))) (fun kn_92 => (hv_ (p := c_79 41 2 = c 41 2) ((hid kn_92)) (fun h_93 => ?_)))))))))))))))
  refine hv_ (p := Hid (c_9 P 0 = n0)) ((hF_11 P 0 (fun h => absurd h.1 (np0 hP rfl))).trans (hn0)) (fun kn_94 => (hv_ (p := Hid (c_79 P 0 = n0)) ((hF_81 P 0 (qn_753ab1e1a hP)).trans ((up_c (np0 hP rfl)).trans (hid kn_94))) (fun kn_95 => (hv_ (p := c_79 P 0 = n0) ((hid kn_95)) (fun h_96 => (hv_ (p := Hid (c_9 41 20 = n0)) ((hF_11 41 20 (fun h => absurd h.1 (nn rfl))).trans (hm0)) (fun kn_97 => (hv_ (p := Hid (c_79 41 20 = n0)) ((hF_81 41 20 (fun q => q.elim (fun h => absurd h.2 (ni rfl)) (fun h => absurd h (nn rfl)))).trans ((up_c (nn rfl)).trans (hid kn_97))) (fun kn_98 => (hv_ (p := c_79 41 20 = n0) ((hid kn_98)) (fun h_99 => (hv_ (p := Hid (c_9 P 1 = n1)) ((hF_11 P 1 (fun h => absurd h.1 (np0 hP rfl))).trans (hn1)) (fun kn_100 => (hv_ (p := Hid (c_79 P 1 = n1)) ((hF_81 P 1 (qn_753ab1e1a hP)).trans ((up_c (np0 hP rfl)).trans (hid kn_100))) (fun kn_101 => ?_)))))))))))))))
  refine hv_ (p := c_79 P 1 = n1) ((hid kn_101)) (fun h_102 => (hv_ (p := Hid (c_9 41 21 = n1)) ((hF_11 41 21 (fun h => absurd h.1 (nn rfl))).trans (hm1)) (fun kn_103 => (hv_ (p := Hid (c_79 41 21 = n1)) ((hF_81 41 21 (fun q => q.elim (fun h => absurd h.2 (ni rfl)) (fun h => absurd h (nn rfl)))).trans ((up_c (nn rfl)).trans (hid kn_103))) (fun kn_104 => (hv_ (p := c_79 41 21 = n1) ((hid kn_104)) (fun h_105 => (hv_ (p := Hid (c_9 P 2 = n2)) ((hF_11 P 2 (fun h => absurd h.1 (np0 hP rfl))).trans (hn2)) (fun kn_106 => (hv_ (p := Hid (c_79 P 2 = n2)) ((hF_81 P 2 (qn_753ab1e1a hP)).trans ((up_c (np0 hP rfl)).trans (hid kn_106))) (fun kn_107 => (hv_ (p := c_79 P 2 = n2) ((hid kn_107)) (fun h_108 => (hv_ (p := Hid (c_9 41 22 = n2)) ((hF_11 41 22 (fun h => absurd h.1 (nn rfl))).trans (hm2)) (fun kn_109 => ?_)))))))))))))))
  refine hv_ (p := Hid (c_79 41 22 = n2)) ((hF_81 41 22 (fun q => q.elim (fun h => absurd h.2 (ni rfl)) (fun h => absurd h (nn rfl)))).trans ((up_c (nn rfl)).trans (hid kn_109))) (fun kn_110 => (hv_ (p := c_79 41 22 = n2) ((hid kn_110)) (fun h_111 => (hv_ (p := Hid (c_9 P 3 = n3)) ((hF_11 P 3 (fun h => absurd h.1 (np0 hP rfl))).trans (hn3)) (fun kn_112 => (hv_ (p := Hid (c_79 P 3 = n3)) ((hF_81 P 3 (qn_753ab1e1a hP)).trans ((up_c (np0 hP rfl)).trans (hid kn_112))) (fun kn_113 => (hv_ (p := c_79 P 3 = n3) ((hid kn_113)) (fun h_114 => (hv_ (p := Hid (c_9 41 23 = n3)) ((hF_11 41 23 (fun h => absurd h.1 (nn rfl))).trans (hm3)) (fun kn_115 => (hv_ (p := Hid (c_79 41 23 = n3)) ((hF_81 41 23 (fun q => q.elim (fun h => absurd h.2 (ni rfl)) (fun h => absurd h (nn rfl)))).trans ((up_c (nn rfl)).trans (hid kn_115))) (fun kn_116 => (hv_ (p := c_79 41 23 = n3) ((hid kn_116)) (fun h_117 => ?_)))))))))))))))
  refine hv_ (p := Hid (c_9 0 12 = c 0 12)) (hF_11 0 12 (fun h => absurd h.2 (ni rfl))) (fun kn_118 => (hv_ (p := Hid (c_79 0 12 = c 0 12)) ((hF_81 0 12 (fun q => q.elim (fun h => absurd h.1 (nn rfl)) (fun h => absurd h (nn rfl)))).trans ((up_c (nn rfl)).trans (hid kn_118))) (fun kn_119 => (hv_ (p := c_79 0 12 = c 0 12) ((hid kn_119)) (fun h_120 => (hv_ (p := c_79 42 0 = c_79 42 0) (rfl) (fun h_121 => (hv_ (p := Hid (c_79 0 13 = c_9 0 13)) ((hF_81 0 13 (fun q => q.elim (fun h => absurd h.1 (nn rfl)) (fun h => absurd h (nn rfl)))).trans (up_c (nn rfl))) (fun kn_122 => (hv_ (p := c_79 0 13 = c_9 0 13) ((hid kn_122)) (fun h_123 => (hv_ (p := c_79 42 1 = c_79 42 1) (rfl) (fun h_124 => ?_)))))))))))))
  exact K P Q c_79 0 (of_decide_eq_true rfl) hI_80 ⟨by omega, ub_fr hU (fun j => (hF_81 2 j (fun q => q.elim (fun h => absurd h.1 (nn rfl)) (fun h => absurd h (nn rfl)))).trans ((up_c (nn rfl)).trans (hF_11 2 j (fun h => absurd h.1 (nn rfl))))) (fun j => (hF_81 43 j (fun q => q.elim (fun h => absurd h.1 (nn rfl)) (fun h => absurd h (nn rfl)))).trans ((up_c (nn rfl)).trans (hF_11 43 j (fun h => absurd h.1 (nn rfl))))), ⟨by omega, by omega, by omega, by omega⟩, ⟨by omega, by omega⟩⟩

set_option maxRecDepth 100000 in
set_option maxHeartbeats 4000000 in
theorem o_24 {xs : Nat → Int32} {L i0 d nc ns P Q : Nat} {c : ME} {Z : AR → Prop} (hi : i0 + 8 ≤ L) (hL : L ≤ 100000) (hI : Iv 0 (-1) P Q c) (hR : Rq P c) (K : ∀ (P2 Q2 : Nat) (c2 : ME) (e : Nat), e ≤ 1 → Iv 0 (-1) P2 Q2 c2 → (Rq P2 c2) → Wp (a_scr L xs) (d + 90) 296 1816 [(4, vi (i0 : Int)), (3, .ref 67), (2, .ref 41), (1, .ref 0), (0, .ref a_SC)] [] (Wd P2 Q2 P2 P2 c2) (nc + e) (ns + 6 * e) Z) : Wp (a_scr L xs) (d + 90) 296 1207 [(4, vi (i0 : Int)), (3, .ref 67), (2, .ref 41), (1, .ref 0), (0, .ref a_SC)] [] (Wd P Q P P c) nc ns Z := by
  obtain ⟨x1, hx1⟩ : ∃ z, (xs (i0 + 1)).toInt = z := ⟨_, rfl⟩
  refine hv_ (c_rng (xs (i0 + 1))) (fun x1r => ?_)
  rw [hx1] at x1r
  obtain ⟨x2, hx2⟩ : ∃ z, (xs (i0 + 2)).toInt = z := ⟨_, rfl⟩
  refine hv_ (c_rng (xs (i0 + 2))) (fun x2r => ?_)
  rw [hx2] at x2r
  obtain ⟨x3, hx3⟩ : ∃ z, (xs (i0 + 3)).toInt = z := ⟨_, rfl⟩
  refine hv_ (c_rng (xs (i0 + 3))) (fun x3r => ?_)
  rw [hx3] at x3r
  obtain ⟨x4, hx4⟩ : ∃ z, (xs (i0 + 4)).toInt = z := ⟨_, rfl⟩
  refine hv_ (c_rng (xs (i0 + 4))) (fun x4r => ?_)
  rw [hx4] at x4r
  obtain ⟨x5, hx5⟩ : ∃ z, (xs (i0 + 5)).toInt = z := ⟨_, rfl⟩
  refine hv_ (c_rng (xs (i0 + 5))) (fun x5r => ?_)
  rw [hx5] at x5r
  obtain ⟨x6, hx6⟩ : ∃ z, (xs (i0 + 6)).toInt = z := ⟨_, rfl⟩
  refine hv_ (c_rng (xs (i0 + 6))) (fun x6r => ?_)
  rw [hx6] at x6r
  obtain ⟨x7, hx7⟩ : ∃ z, (xs (i0 + 7)).toInt = z := ⟨_, rfl⟩
  refine hv_ (c_rng (xs (i0 + 7))) (fun x7r => ?_)
  rw [hx7] at x7r
  refine hv_ (iv_P hI) (fun hP => (hv_ (iv_Q hI) (fun hQ => (hv_ (rl_t hR) (fun hT => (hv_ (rl_u hR) (fun hU => ?_)))))))
  obtain ⟨n0, hn0⟩ : ∃ z, c P 0 = z := ⟨_, rfl⟩
  refine hv_ (p := c 41 20 = n0) ((rl_nums hR).1.symm.trans hn0) (fun hm0 => (hv_ (ir_p0_0 hI hP) (fun hr0 => ?_)))
  rw [hn0] at hr0
  obtain ⟨n1, hn1⟩ : ∃ z, c P 1 = z := ⟨_, rfl⟩
  refine hv_ (p := c 41 21 = n1) ((rl_nums hR).2.1.symm.trans hn1) (fun hm1 => (hv_ (ir_p0_1 hI hP) (fun hr1 => ?_)))
  rw [hn1] at hr1
  obtain ⟨n2, hn2⟩ : ∃ z, c P 2 = z := ⟨_, rfl⟩
  refine hv_ (p := c 41 22 = n2) ((rl_nums hR).2.2.1.symm.trans hn2) (fun hm2 => (hv_ (ir_p0_2 hI hP) (fun hr2 => ?_)))
  rw [hn2] at hr2
  obtain ⟨n3, hn3⟩ : ∃ z, c P 3 = z := ⟨_, rfl⟩
  refine hv_ (p := c 41 23 = n3) ((rl_nums hR).2.2.2.symm.trans hn3) (fun hm3 => (hv_ (ir_p0_3 hI hP) (fun hr3 => ?_)))
  rw [hn3] at hr3
  refine hv_ (rl_cnt2 hR) (fun hNcnt2 => (hv_ (rl_cnt2 hR) (fun hNcnt2 => (q_aload_n c_296_1207 rfl (q_aload_n c_296_1208 rfl (q_iload c_296_1209 rfl (q_iconst c_296_1211 (v_iadd (v := (i0 : Int) + 1) c_296_1212 rfl (v_scr (j := i0 + 1) c_296_1213 (by omega) (by omega) hL hx1 ?_)))))))))
  refine q_aload_n c_296_1214 rfl (q_iload c_296_1215 rfl (q_iconst c_296_1217 (v_iadd (v := (i0 : Int) + 2) c_296_1218 rfl (v_scr (j := i0 + 2) c_296_1219 (by omega) (by omega) hL hx2 (q_aload_n c_296_1220 rfl (q_iload c_296_1221 rfl (q_iconst c_296_1223 ?_)))))))
  refine v_iadd (v := (i0 : Int) + 3) c_296_1224 rfl (v_scr (j := i0 + 3) c_296_1225 (by omega) (by omega) hL hx3 (q_aload_n c_296_1226 rfl (q_call c_296_1227 rfl rfl rfl (q_aload c_284_0 rfl (q_iconst c_284_2 (q_aload_n c_284_3 rfl (q_iload_n c_284_4 rfl ?_)))))))
  refine q_iload_n c_284_5 rfl (q_iload_n c_284_6 rfl (hv_ (p := c P 0 = n0) ((hn0)) (fun h_1 => (hv_ (ir_0_12 hI) (fun h_2 => (hv_ (ir_0_13 hI) (fun h_3 => ?_)))))))
  refine v_cv c_284_7 km_9_81 rfl rfl (Nat.le_of_ble_eq_true rfl) ⟨⟨rfl, rfl⟩, Nat.le_of_ble_eq_true rfl, rfl⟩ (Nat.le_of_ble_eq_true rfl) (Nat.le_of_ble_eq_true rfl) (s_125S (a1 := x1) (a2 := x2) (a3 := x3) hI (show (-2147483648) ≤ x1 ∧ x1 ≤ 2147483647 from ⟨by omega, by omega⟩) (show (-2147483648) ≤ x2 ∧ x2 ≤ 2147483647 from ⟨by omega, by omega⟩) (show (-2147483648) ≤ x3 ∧ x3 ≤ 2147483647 from ⟨by omega, by omega⟩) (fun c_4 hI_5 hF_6 h_7 h_8 h_9 => ?_) (fun c_10 hI_11 hF_12 h_13 h_14 h_15 => ?_) (fun c_16 y_19 hI_17 hF_18 hy_19 h_20 h_21 h_22 => ?_))
  · skip
    refine hv_ (ir_0_12 hI_5) (fun h_23 => (hv_ (ir_0_13 hI_5) (fun h_24 => (bk_thr (z := Int32.ofInt 1) rfl ⟨_, _, rfl⟩ rfl (bk_inl (q_istore c_296_1230 (Nat.le_of_ble_eq_true rfl) (q_aload_n c_296_1232 rfl (q_aload_n c_296_1233 rfl (q_iload c_296_1234 rfl ?_)))))))))
    refine q_iconst c_296_1236 (v_iadd (v := (i0 : Int) + 1) c_296_1237 rfl (v_scr (j := i0 + 1) c_296_1238 (by omega) (by omega) hL hx1 (q_aload_n c_296_1239 rfl (q_iload c_296_1240 rfl (q_iconst c_296_1242 (v_iadd (v := (i0 : Int) + 2) c_296_1243 rfl (v_scr (j := i0 + 2) c_296_1244 (by omega) (by omega) hL hx2 ?_)))))))
    refine q_aload_n c_296_1245 rfl (q_iload c_296_1246 rfl (q_iconst c_296_1248 (v_iadd (v := (i0 : Int) + 3) c_296_1249 rfl (v_scr (j := i0 + 3) c_296_1250 (by omega) (by omega) hL hx3 (hv_ (p := Hid (c_4 41 20 = n0)) ((hF_6 41 20 (fun q => q.elim (fun h => absurd h.1 (nn rfl)) (fun h => absurd h.1 (nn rfl)))).trans (hm0)) (fun kn_25 => (hv_ (p := c_4 41 20 = n0) ((hid kn_25)) (fun h_26 => (hv_ (ir_42 hI 0) (fun h_27 => ?_))))))))))
    refine hv_ (p := Hid (c_4 42 0 = c 42 0)) (hF_6 42 0 (fun q => q.elim (fun h => absurd h.1 (nn rfl)) (fun h => absurd h.1 (nn rfl)))) (fun kn_28 => (hv_ (p := c_4 42 0 = c 42 0) ((hid kn_28)) (fun h_29 => (hv_ (ir_42 hI 1) (fun h_30 => (hv_ (p := Hid (c_4 42 1 = c 42 1)) (hF_6 42 1 (fun q => q.elim (fun h => absurd h.1 (nn rfl)) (fun h => absurd h.1 (nn rfl)))) (fun kn_31 => (hv_ (p := c_4 42 1 = c 42 1) ((hid kn_31)) (fun h_32 => (v_cv c_296_1251 km_9_209 rfl rfl (Nat.le_of_ble_eq_true rfl) ⟨⟨rfl, rfl⟩, Nat.le_of_ble_eq_true rfl, rfl⟩ (Nat.le_of_ble_eq_true rfl) (Nat.le_of_ble_eq_true rfl) (s_239S (a1 := x1) (a2 := x2) (a3 := x3) hI_5 (show (-2147483648) ≤ x1 ∧ x1 ≤ 2147483647 from ⟨by first | (clear hT hNcnt2 h_2 h_3 h_23 h_24; omega) | omega, by first | (clear hT hNcnt2 h_2 h_3 h_23 h_24; omega) | omega⟩) (show (-2147483648) ≤ x2 ∧ x2 ≤ 2147483647 from ⟨by first | (clear hT hNcnt2 h_2 h_3 h_23 h_24; omega) | omega, by first | (clear hT hNcnt2 h_2 h_3 h_23 h_24; omega) | omega⟩) (show (-2147483648) ≤ x3 ∧ x3 ≤ 2147483647 from ⟨by first | (clear hT hNcnt2 h_2 h_3 h_23 h_24; omega) | omega, by first | (clear hT hNcnt2 h_2 h_3 h_23 h_24; omega) | omega⟩) (fun c_33 y_36 hI_34 hF_35 hy_36 h_37 => (bk_inl (hv_ (ir_42 hI_34 0) (fun h_38 => ?_)))))))))))))))
    refine hv_ (ir_42 hI_34 1) (fun h_39 => (q_istore c_296_1254 (Nat.le_of_ble_eq_true rfl) (q_goto (t := 1816) c_296_1256 rfl (Wp_ls [(4, vi (i0 : Int)), (3, .ref 67), (2, .ref 41), (1, .ref 0), (0, .ref a_SC)] (lsub_cons rfl (lsub_cons rfl (lsub_cons rfl (lsub_cons rfl (lsub_cons rfl lsub_nil))))) (hv_ (ir_1_3 hI) (fun h_40 => (hv_ (p := Hid (c_4 1 3 = c 1 3)) (hF_6 1 3 (fun q => q.elim (fun h => absurd h.1 (nn rfl)) (fun h => absurd h.1 (nn rfl)))) (fun kn_41 => (hv_ (p := Hid (c_33 1 3 = c 1 3)) ((hF_35 1 3 qn_39cd18c3e).trans (hid kn_41)) (fun kn_42 => (hv_ (p := c_33 1 3 = c 1 3) ((hid kn_42)) (fun h_43 => ?_))))))))))))
    refine hv_ (ir_41_2 hI) (fun h_44 => (hv_ (p := Hid (c_4 41 2 = c 41 2)) (hF_6 41 2 (fun q => q.elim (fun h => absurd h.1 (nn rfl)) (fun h => absurd h.1 (nn rfl)))) (fun kn_45 => (hv_ (p := Hid (c_33 41 2 = c 41 2)) ((hF_35 41 2 qn_53bdb2099).trans (hid kn_45)) (fun kn_46 => (hv_ (p := c_33 41 2 = c 41 2) ((hid kn_46)) (fun h_47 => (hv_ (p := Hid (c_4 P 0 = n0)) ((hF_6 P 0 (qn_7ba88e57e hP)).trans (hn0)) (fun kn_48 => (hv_ (p := Hid (c_33 P 0 = n0)) ((hF_35 P 0 (qn_857752076 hP)).trans (hid kn_48)) (fun kn_49 => (hv_ (p := c_33 P 0 = n0) ((hid kn_49)) (fun h_50 => (hv_ (p := Hid (c_33 41 20 = n0)) ((hF_35 41 20 qn_110b29ed6).trans (hid kn_25)) (fun kn_51 => ?_)))))))))))))))
    refine hv_ (p := c_33 41 20 = n0) ((hid kn_51)) (fun h_52 => (hv_ (p := Hid (c_4 P 1 = n1)) ((hF_6 P 1 (qn_7ba88e57e hP)).trans (hn1)) (fun kn_53 => (hv_ (p := Hid (c_33 P 1 = n1)) ((hF_35 P 1 (qn_857752076 hP)).trans (hid kn_53)) (fun kn_54 => (hv_ (p := c_33 P 1 = n1) ((hid kn_54)) (fun h_55 => (hv_ (p := Hid (c_4 41 21 = n1)) ((hF_6 41 21 (fun q => q.elim (fun h => absurd h.1 (nn rfl)) (fun h => absurd h.1 (nn rfl)))).trans (hm1)) (fun kn_56 => (hv_ (p := Hid (c_33 41 21 = n1)) ((hF_35 41 21 qn_561064c41).trans (hid kn_56)) (fun kn_57 => (hv_ (p := c_33 41 21 = n1) ((hid kn_57)) (fun h_58 => (hv_ (p := Hid (c_4 P 2 = n2)) ((hF_6 P 2 (qn_7ba88e57e hP)).trans (hn2)) (fun kn_59 => ?_)))))))))))))))
    refine hv_ (p := Hid (c_33 P 2 = n2)) ((hF_35 P 2 (qn_857752076 hP)).trans (hid kn_59)) (fun kn_60 => (hv_ (p := c_33 P 2 = n2) ((hid kn_60)) (fun h_61 => (hv_ (p := Hid (c_4 41 22 = n2)) ((hF_6 41 22 (fun q => q.elim (fun h => absurd h.1 (nn rfl)) (fun h => absurd h.1 (nn rfl)))).trans (hm2)) (fun kn_62 => (hv_ (p := Hid (c_33 41 22 = n2)) ((hF_35 41 22 qn_1a460b46b).trans (hid kn_62)) (fun kn_63 => (hv_ (p := c_33 41 22 = n2) ((hid kn_63)) (fun h_64 => (hv_ (p := Hid (c_4 P 3 = n3)) ((hF_6 P 3 (qn_7ba88e57e hP)).trans (hn3)) (fun kn_65 => (hv_ (p := Hid (c_33 P 3 = n3)) ((hF_35 P 3 (qn_857752076 hP)).trans (hid kn_65)) (fun kn_66 => (hv_ (p := c_33 P 3 = n3) ((hid kn_66)) (fun h_67 => ?_)))))))))))))))
    refine hv_ (p := Hid (c_4 41 23 = n3)) ((hF_6 41 23 (fun q => q.elim (fun h => absurd h.1 (nn rfl)) (fun h => absurd h.1 (nn rfl)))).trans (hm3)) (fun kn_68 => (hv_ (p := Hid (c_33 41 23 = n3)) ((hF_35 41 23 qn_b79f282cd).trans (hid kn_68)) (fun kn_69 => (hv_ (p := c_33 41 23 = n3) ((hid kn_69)) (fun h_70 => (hv_ (p := Hid (c_33 0 12 = c_4 0 12)) (hF_35 0 12 qn_666ded271) (fun kn_71 => (hv_ (p := c_33 0 12 = c_4 0 12) ((hid kn_71)) (fun h_72 => (hv_ (p := c_33 42 0 = c_33 42 0) (rfl) (fun h_73 => (hv_ (p := Hid (c_33 0 13 = c_4 0 13)) (hF_35 0 13 qn_666ded271) (fun kn_74 => (hv_ (p := c_33 0 13 = c_4 0 13) ((hid kn_74)) (fun h_75 => ?_)))))))))))))))
    refine hv_ (p := c_33 42 1 = c_33 42 1) (rfl) (fun h_76 => ?_)
    exact K P Q c_33 1 (of_decide_eq_true rfl) hI_34 ⟨by omega, ub_fr hU (fun j => (hF_35 2 j qn_2ad67e194).trans (hF_6 2 j (fun q => q.elim (fun h => absurd h.1 (nn rfl)) (fun h => absurd h.1 (nn rfl))))) (fun j => (hF_35 43 j qn_1520ff5e3).trans (hF_6 43 j (fun q => q.elim (fun h => absurd h.1 (nn rfl)) (fun h => absurd h.1 (nn rfl))))), ⟨by omega, by omega, by omega, by omega⟩, ⟨by omega, by omega⟩⟩
  · skip
    refine hv_ (ir_0_13 hI_11) (fun h_77 => (hv_ (ir_0_12 hI_11) (fun h_78 => (bk_thr (z := Int32.ofInt 2) rfl ⟨_, _, rfl⟩ rfl (bk_inl (q_istore c_296_1230 (Nat.le_of_ble_eq_true rfl) (q_aload_n c_296_1232 rfl (q_aload_n c_296_1233 rfl (q_iload c_296_1234 rfl ?_)))))))))
    refine q_iconst c_296_1236 (v_iadd (v := (i0 : Int) + 1) c_296_1237 rfl (v_scr (j := i0 + 1) c_296_1238 (by omega) (by omega) hL hx1 (q_aload_n c_296_1239 rfl (q_iload c_296_1240 rfl (q_iconst c_296_1242 (v_iadd (v := (i0 : Int) + 2) c_296_1243 rfl (v_scr (j := i0 + 2) c_296_1244 (by omega) (by omega) hL hx2 ?_)))))))
    refine q_aload_n c_296_1245 rfl (q_iload c_296_1246 rfl (q_iconst c_296_1248 (v_iadd (v := (i0 : Int) + 3) c_296_1249 rfl (v_scr (j := i0 + 3) c_296_1250 (by omega) (by omega) hL hx3 (hv_ (p := Hid (c_10 41 20 = n0)) ((hF_12 41 20 (fun q => q.elim (fun h => absurd h.1 (nn rfl)) (fun h => absurd h.1 (nn rfl)))).trans (hm0)) (fun kn_79 => (hv_ (p := c_10 41 20 = n0) ((hid kn_79)) (fun h_80 => (hv_ (ir_42 hI 0) (fun h_81 => ?_))))))))))
    refine hv_ (p := Hid (c_10 42 0 = c 42 0)) (hF_12 42 0 (fun q => q.elim (fun h => absurd h.1 (nn rfl)) (fun h => absurd h.1 (nn rfl)))) (fun kn_82 => (hv_ (p := c_10 42 0 = c 42 0) ((hid kn_82)) (fun h_83 => (hv_ (ir_42 hI 1) (fun h_84 => (hv_ (p := Hid (c_10 42 1 = c 42 1)) (hF_12 42 1 (fun q => q.elim (fun h => absurd h.1 (nn rfl)) (fun h => absurd h.1 (nn rfl)))) (fun kn_85 => (hv_ (p := c_10 42 1 = c 42 1) ((hid kn_85)) (fun h_86 => (v_cv c_296_1251 km_9_209 rfl rfl (Nat.le_of_ble_eq_true rfl) ⟨⟨rfl, rfl⟩, Nat.le_of_ble_eq_true rfl, rfl⟩ (Nat.le_of_ble_eq_true rfl) (Nat.le_of_ble_eq_true rfl) (s_239S (a1 := x1) (a2 := x2) (a3 := x3) hI_11 (show (-2147483648) ≤ x1 ∧ x1 ≤ 2147483647 from ⟨by first | (clear hT hNcnt2 h_2 h_3 h_77 h_78; omega) | omega, by first | (clear hT hNcnt2 h_2 h_3 h_77 h_78; omega) | omega⟩) (show (-2147483648) ≤ x2 ∧ x2 ≤ 2147483647 from ⟨by first | (clear hT hNcnt2 h_2 h_3 h_77 h_78; omega) | omega, by first | (clear hT hNcnt2 h_2 h_3 h_77 h_78; omega) | omega⟩) (show (-2147483648) ≤ x3 ∧ x3 ≤ 2147483647 from ⟨by first | (clear hT hNcnt2 h_2 h_3 h_77 h_78; omega) | omega, by first | (clear hT hNcnt2 h_2 h_3 h_77 h_78; omega) | omega⟩) (fun c_87 y_90 hI_88 hF_89 hy_90 h_91 => (bk_inl (hv_ (ir_42 hI_88 0) (fun h_92 => ?_)))))))))))))))
    refine hv_ (ir_42 hI_88 1) (fun h_93 => (q_istore c_296_1254 (Nat.le_of_ble_eq_true rfl) (q_goto (t := 1816) c_296_1256 rfl (Wp_ls [(4, vi (i0 : Int)), (3, .ref 67), (2, .ref 41), (1, .ref 0), (0, .ref a_SC)] (lsub_cons rfl (lsub_cons rfl (lsub_cons rfl (lsub_cons rfl (lsub_cons rfl lsub_nil))))) (hv_ (ir_1_3 hI) (fun h_94 => (hv_ (p := Hid (c_10 1 3 = c 1 3)) (hF_12 1 3 (fun q => q.elim (fun h => absurd h.1 (nn rfl)) (fun h => absurd h.1 (nn rfl)))) (fun kn_95 => (hv_ (p := Hid (c_87 1 3 = c 1 3)) ((hF_89 1 3 qn_39cd18c3e).trans (hid kn_95)) (fun kn_96 => (hv_ (p := c_87 1 3 = c 1 3) ((hid kn_96)) (fun h_97 => ?_))))))))))))
    refine hv_ (ir_41_2 hI) (fun h_98 => (hv_ (p := Hid (c_10 41 2 = c 41 2)) (hF_12 41 2 (fun q => q.elim (fun h => absurd h.1 (nn rfl)) (fun h => absurd h.1 (nn rfl)))) (fun kn_99 => (hv_ (p := Hid (c_87 41 2 = c 41 2)) ((hF_89 41 2 qn_53bdb2099).trans (hid kn_99)) (fun kn_100 => (hv_ (p := c_87 41 2 = c 41 2) ((hid kn_100)) (fun h_101 => (hv_ (p := Hid (c_10 P 0 = n0)) ((hF_12 P 0 (qn_7ba88e57e hP)).trans (hn0)) (fun kn_102 => (hv_ (p := Hid (c_87 P 0 = n0)) ((hF_89 P 0 (qn_857752076 hP)).trans (hid kn_102)) (fun kn_103 => (hv_ (p := c_87 P 0 = n0) ((hid kn_103)) (fun h_104 => (hv_ (p := Hid (c_87 41 20 = n0)) ((hF_89 41 20 qn_110b29ed6).trans (hid kn_79)) (fun kn_105 => ?_)))))))))))))))
    refine hv_ (p := c_87 41 20 = n0) ((hid kn_105)) (fun h_106 => (hv_ (p := Hid (c_10 P 1 = n1)) ((hF_12 P 1 (qn_7ba88e57e hP)).trans (hn1)) (fun kn_107 => (hv_ (p := Hid (c_87 P 1 = n1)) ((hF_89 P 1 (qn_857752076 hP)).trans (hid kn_107)) (fun kn_108 => (hv_ (p := c_87 P 1 = n1) ((hid kn_108)) (fun h_109 => (hv_ (p := Hid (c_10 41 21 = n1)) ((hF_12 41 21 (fun q => q.elim (fun h => absurd h.1 (nn rfl)) (fun h => absurd h.1 (nn rfl)))).trans (hm1)) (fun kn_110 => (hv_ (p := Hid (c_87 41 21 = n1)) ((hF_89 41 21 qn_561064c41).trans (hid kn_110)) (fun kn_111 => (hv_ (p := c_87 41 21 = n1) ((hid kn_111)) (fun h_112 => (hv_ (p := Hid (c_10 P 2 = n2)) ((hF_12 P 2 (qn_7ba88e57e hP)).trans (hn2)) (fun kn_113 => ?_)))))))))))))))
    refine hv_ (p := Hid (c_87 P 2 = n2)) ((hF_89 P 2 (qn_857752076 hP)).trans (hid kn_113)) (fun kn_114 => (hv_ (p := c_87 P 2 = n2) ((hid kn_114)) (fun h_115 => (hv_ (p := Hid (c_10 41 22 = n2)) ((hF_12 41 22 (fun q => q.elim (fun h => absurd h.1 (nn rfl)) (fun h => absurd h.1 (nn rfl)))).trans (hm2)) (fun kn_116 => (hv_ (p := Hid (c_87 41 22 = n2)) ((hF_89 41 22 qn_1a460b46b).trans (hid kn_116)) (fun kn_117 => (hv_ (p := c_87 41 22 = n2) ((hid kn_117)) (fun h_118 => (hv_ (p := Hid (c_10 P 3 = n3)) ((hF_12 P 3 (qn_7ba88e57e hP)).trans (hn3)) (fun kn_119 => (hv_ (p := Hid (c_87 P 3 = n3)) ((hF_89 P 3 (qn_857752076 hP)).trans (hid kn_119)) (fun kn_120 => (hv_ (p := c_87 P 3 = n3) ((hid kn_120)) (fun h_121 => ?_)))))))))))))))
    refine hv_ (p := Hid (c_10 41 23 = n3)) ((hF_12 41 23 (fun q => q.elim (fun h => absurd h.1 (nn rfl)) (fun h => absurd h.1 (nn rfl)))).trans (hm3)) (fun kn_122 => (hv_ (p := Hid (c_87 41 23 = n3)) ((hF_89 41 23 qn_b79f282cd).trans (hid kn_122)) (fun kn_123 => (hv_ (p := c_87 41 23 = n3) ((hid kn_123)) (fun h_124 => (hv_ (p := Hid (c_87 0 12 = c_10 0 12)) (hF_89 0 12 qn_666ded271) (fun kn_125 => (hv_ (p := c_87 0 12 = c_10 0 12) ((hid kn_125)) (fun h_126 => (hv_ (p := c_87 42 0 = c_87 42 0) (rfl) (fun h_127 => (hv_ (p := Hid (c_87 0 13 = c_10 0 13)) (hF_89 0 13 qn_666ded271) (fun kn_128 => (hv_ (p := c_87 0 13 = c_10 0 13) ((hid kn_128)) (fun h_129 => ?_)))))))))))))))
    refine hv_ (p := c_87 42 1 = c_87 42 1) (rfl) (fun h_130 => ?_)
    exact K P Q c_87 1 (of_decide_eq_true rfl) hI_88 ⟨by omega, ub_fr hU (fun j => (hF_89 2 j qn_2ad67e194).trans (hF_12 2 j (fun q => q.elim (fun h => absurd h.1 (nn rfl)) (fun h => absurd h.1 (nn rfl))))) (fun j => (hF_89 43 j qn_1520ff5e3).trans (hF_12 43 j (fun q => q.elim (fun h => absurd h.1 (nn rfl)) (fun h => absurd h.1 (nn rfl))))), ⟨by omega, by omega, by omega, by omega⟩, ⟨by omega, by omega⟩⟩
  refine bk_inl (hv_ (ir_0_12 hI_17) (fun h_131 => (hv_ (ir_0_13 hI_17) (fun h_132 => (v_i2l c_284_10 (by omega) (v_ls c_284_11 rfl (of_decide_eq_true rfl) (of_decide_eq_true rfl) (of_decide_eq_true rfl) (q_goto (t := 23) c_284_12 rfl (q_iconst c_284_23 (q_iret c_284_24 rfl ?_)))))))))
  refine bk_inl (q_istore c_296_1230 (Nat.le_of_ble_eq_true rfl) (q_aload_n c_296_1232 rfl (q_aload_n c_296_1233 rfl (q_iload c_296_1234 rfl (q_iconst c_296_1236 (v_iadd (v := (i0 : Int) + 1) c_296_1237 rfl (v_scr (j := i0 + 1) c_296_1238 (by omega) (by omega) hL hx1 ?_)))))))
  refine q_aload_n c_296_1239 rfl (q_iload c_296_1240 rfl (q_iconst c_296_1242 (v_iadd (v := (i0 : Int) + 2) c_296_1243 rfl (v_scr (j := i0 + 2) c_296_1244 (by omega) (by omega) hL hx2 (q_aload_n c_296_1245 rfl (q_iload c_296_1246 rfl (q_iconst c_296_1248 ?_)))))))
  refine v_iadd (v := (i0 : Int) + 3) c_296_1249 rfl (v_scr (j := i0 + 3) c_296_1250 (by omega) (by omega) hL hx3 (hv_ (iw_lx (a := 67) (j := 0) (v := y_19) hI_17 (by omega)) (fun hI_133 => (hv_ (p := Hid (c_16 41 20 = n0)) ((hF_18 41 20 (fun q => q.elim (fun h => absurd h.1 (nn rfl)) (fun h => absurd h.1 (nn rfl)))).trans (hm0)) (fun kn_134 => (hv_ (p := (up c_16 67 0 y_19) 41 20 = n0) (((up_c (nn rfl)).trans (hid kn_134))) (fun h_135 => (hv_ (ir_42 hI 0) (fun h_136 => (hv_ (p := Hid (c_16 42 0 = c 42 0)) (hF_18 42 0 (fun q => q.elim (fun h => absurd h.1 (nn rfl)) (fun h => absurd h.1 (nn rfl)))) (fun kn_137 => (hv_ (p := (up c_16 67 0 y_19) 42 0 = c 42 0) (((up_c (nn rfl)).trans (hid kn_137))) (fun h_138 => ?_)))))))))))))
  refine hv_ (ir_42 hI 1) (fun h_139 => (hv_ (p := Hid (c_16 42 1 = c 42 1)) (hF_18 42 1 (fun q => q.elim (fun h => absurd h.1 (nn rfl)) (fun h => absurd h.1 (nn rfl)))) (fun kn_140 => (hv_ (p := (up c_16 67 0 y_19) 42 1 = c 42 1) (((up_c (nn rfl)).trans (hid kn_140))) (fun h_141 => (v_cv c_296_1251 km_9_209 rfl rfl (Nat.le_of_ble_eq_true rfl) ⟨⟨rfl, rfl⟩, Nat.le_of_ble_eq_true rfl, rfl⟩ (Nat.le_of_ble_eq_true rfl) (Nat.le_of_ble_eq_true rfl) (s_239S (a1 := x1) (a2 := x2) (a3 := x3) hI_133 (show (-2147483648) ≤ x1 ∧ x1 ≤ 2147483647 from ⟨by first | (clear hT hNcnt2 h_2 h_3 h_131 h_21 h_132 h_22 h_20; omega) | omega, by first | (clear hT hNcnt2 h_2 h_3 h_131 h_21 h_132 h_22 h_20; omega) | omega⟩) (show (-2147483648) ≤ x2 ∧ x2 ≤ 2147483647 from ⟨by first | (clear hT hNcnt2 h_2 h_3 h_131 h_21 h_132 h_22 h_20; omega) | omega, by first | (clear hT hNcnt2 h_2 h_3 h_131 h_21 h_132 h_22 h_20; omega) | omega⟩) (show (-2147483648) ≤ x3 ∧ x3 ≤ 2147483647 from ⟨by first | (clear hT hNcnt2 h_2 h_3 h_131 h_21 h_132 h_22 h_20; omega) | omega, by first | (clear hT hNcnt2 h_2 h_3 h_131 h_21 h_132 h_22 h_20; omega) | omega⟩) (fun c_142 y_145 hI_143 hF_144 hy_145 h_146 => (bk_inl (hv_ (ir_42 hI_143 0) (fun h_147 => (hv_ (ir_42 hI_143 1) (fun h_148 => (q_istore c_296_1254 (Nat.le_of_ble_eq_true rfl) ?_))))))))))))))
  refine q_goto (t := 1816) c_296_1256 rfl (Wp_ls [(4, vi (i0 : Int)), (3, .ref 67), (2, .ref 41), (1, .ref 0), (0, .ref a_SC)] (lsub_cons rfl (lsub_cons rfl (lsub_cons rfl (lsub_cons rfl (lsub_cons rfl lsub_nil))))) (hv_ (ir_1_3 hI) (fun h_149 => (hv_ (p := Hid (c_16 1 3 = c 1 3)) (hF_18 1 3 (fun q => q.elim (fun h => absurd h.1 (nn rfl)) (fun h => absurd h.1 (nn rfl)))) (fun kn_150 => (hv_ (p := Hid (c_142 1 3 = c 1 3)) ((hF_144 1 3 qn_39cd18c3e).trans ((up_c (nn rfl)).trans (hid kn_150))) (fun kn_151 => (hv_ (p := c_142 1 3 = c 1 3) ((hid kn_151)) (fun h_152 => (hv_ (ir_41_2 hI) (fun h_153 => (hv_ (p := Hid (c_16 41 2 = c 41 2)) (hF_18 41 2 (fun q => q.elim (fun h => absurd h.1 (nn rfl)) (fun h => absurd h.1 (nn rfl)))) (fun kn_154 => ?_)))))))))))))
  refine hv_ (p := Hid (c_142 41 2 = c 41 2)) ((hF_144 41 2 qn_53bdb2099).trans ((up_c (nn rfl)).trans (hid kn_154))) (fun kn_155 => (hv_ (p := c_142 41 2 = c 41 2) ((hid kn_155)) (fun h_156 => (hv_ (p := Hid (c_16 P 0 = n0)) ((hF_18 P 0 (qn_7ba88e57e hP)).trans (hn0)) (fun kn_157 => (hv_ (p := Hid (c_142 P 0 = n0)) ((hF_144 P 0 (qn_857752076 hP)).trans ((up_c (np0 hP rfl)).trans (hid kn_157))) (fun kn_158 => (hv_ (p := c_142 P 0 = n0) ((hid kn_158)) (fun h_159 => (hv_ (p := Hid (c_142 41 20 = n0)) ((hF_144 41 20 qn_110b29ed6).trans ((up_c (nn rfl)).trans (hid kn_134))) (fun kn_160 => (hv_ (p := c_142 41 20 = n0) ((hid kn_160)) (fun h_161 => (hv_ (p := Hid (c_16 P 1 = n1)) ((hF_18 P 1 (qn_7ba88e57e hP)).trans (hn1)) (fun kn_162 => ?_)))))))))))))))
  refine hv_ (p := Hid (c_142 P 1 = n1)) ((hF_144 P 1 (qn_857752076 hP)).trans ((up_c (np0 hP rfl)).trans (hid kn_162))) (fun kn_163 => (hv_ (p := c_142 P 1 = n1) ((hid kn_163)) (fun h_164 => (hv_ (p := Hid (c_16 41 21 = n1)) ((hF_18 41 21 (fun q => q.elim (fun h => absurd h.1 (nn rfl)) (fun h => absurd h.1 (nn rfl)))).trans (hm1)) (fun kn_165 => (hv_ (p := Hid (c_142 41 21 = n1)) ((hF_144 41 21 qn_561064c41).trans ((up_c (nn rfl)).trans (hid kn_165))) (fun kn_166 => (hv_ (p := c_142 41 21 = n1) ((hid kn_166)) (fun h_167 => (hv_ (p := Hid (c_16 P 2 = n2)) ((hF_18 P 2 (qn_7ba88e57e hP)).trans (hn2)) (fun kn_168 => (hv_ (p := Hid (c_142 P 2 = n2)) ((hF_144 P 2 (qn_857752076 hP)).trans ((up_c (np0 hP rfl)).trans (hid kn_168))) (fun kn_169 => (hv_ (p := c_142 P 2 = n2) ((hid kn_169)) (fun h_170 => ?_)))))))))))))))
  refine hv_ (p := Hid (c_16 41 22 = n2)) ((hF_18 41 22 (fun q => q.elim (fun h => absurd h.1 (nn rfl)) (fun h => absurd h.1 (nn rfl)))).trans (hm2)) (fun kn_171 => (hv_ (p := Hid (c_142 41 22 = n2)) ((hF_144 41 22 qn_1a460b46b).trans ((up_c (nn rfl)).trans (hid kn_171))) (fun kn_172 => (hv_ (p := c_142 41 22 = n2) ((hid kn_172)) (fun h_173 => (hv_ (p := Hid (c_16 P 3 = n3)) ((hF_18 P 3 (qn_7ba88e57e hP)).trans (hn3)) (fun kn_174 => (hv_ (p := Hid (c_142 P 3 = n3)) ((hF_144 P 3 (qn_857752076 hP)).trans ((up_c (np0 hP rfl)).trans (hid kn_174))) (fun kn_175 => (hv_ (p := c_142 P 3 = n3) ((hid kn_175)) (fun h_176 => (hv_ (p := Hid (c_16 41 23 = n3)) ((hF_18 41 23 (fun q => q.elim (fun h => absurd h.1 (nn rfl)) (fun h => absurd h.1 (nn rfl)))).trans (hm3)) (fun kn_177 => (hv_ (p := Hid (c_142 41 23 = n3)) ((hF_144 41 23 qn_b79f282cd).trans ((up_c (nn rfl)).trans (hid kn_177))) (fun kn_178 => ?_)))))))))))))))
  refine hv_ (p := c_142 41 23 = n3) ((hid kn_178)) (fun h_179 => (hv_ (p := Hid (c_142 0 12 = c_16 0 12)) ((hF_144 0 12 qn_666ded271).trans (up_c (nn rfl))) (fun kn_180 => (hv_ (p := c_142 0 12 = c_16 0 12) ((hid kn_180)) (fun h_181 => (hv_ (p := c_142 42 0 = c_142 42 0) (rfl) (fun h_182 => (hv_ (p := Hid (c_142 0 13 = c_16 0 13)) ((hF_144 0 13 qn_666ded271).trans (up_c (nn rfl))) (fun kn_183 => (hv_ (p := c_142 0 13 = c_16 0 13) ((hid kn_183)) (fun h_184 => (hv_ (p := c_142 42 1 = c_142 42 1) (rfl) (fun h_185 => ?_)))))))))))))
  exact K P Q c_142 0 (of_decide_eq_true rfl) hI_143 ⟨by omega, ub_fr hU (fun j => (hF_144 2 j qn_2ad67e194).trans ((up_c (nn rfl)).trans (hF_18 2 j (fun q => q.elim (fun h => absurd h.1 (nn rfl)) (fun h => absurd h.1 (nn rfl)))))) (fun j => (hF_144 43 j qn_1520ff5e3).trans ((up_c (nn rfl)).trans (hF_18 43 j (fun q => q.elim (fun h => absurd h.1 (nn rfl)) (fun h => absurd h.1 (nn rfl)))))), ⟨by omega, by omega, by omega, by omega⟩, ⟨by omega, by omega⟩⟩

set_option maxRecDepth 100000 in
set_option maxHeartbeats 4000000 in
theorem o_25 {xs : Nat → Int32} {L i0 d nc ns P Q : Nat} {c : ME} {Z : AR → Prop} (hi : i0 + 8 ≤ L) (hL : L ≤ 100000) (hI : Iv 0 (-1) P Q c) (hR : Rq P c) (K : ∀ (P2 Q2 : Nat) (c2 : ME) (e : Nat), e ≤ 1 → Iv 0 (-1) P2 Q2 c2 → (Rq P2 c2) → Wp (a_scr L xs) (d + 90) 296 1816 [(4, vi (i0 : Int)), (3, .ref 67), (2, .ref 41), (1, .ref 0), (0, .ref a_SC)] [] (Wd P2 Q2 P2 P2 c2) (nc + e) (ns + 6 * e) Z) : Wp (a_scr L xs) (d + 90) 296 1259 [(4, vi (i0 : Int)), (3, .ref 67), (2, .ref 41), (1, .ref 0), (0, .ref a_SC)] [] (Wd P Q P P c) nc ns Z := by
  obtain ⟨x1, hx1⟩ : ∃ z, (xs (i0 + 1)).toInt = z := ⟨_, rfl⟩
  refine hv_ (c_rng (xs (i0 + 1))) (fun x1r => ?_)
  rw [hx1] at x1r
  obtain ⟨x2, hx2⟩ : ∃ z, (xs (i0 + 2)).toInt = z := ⟨_, rfl⟩
  refine hv_ (c_rng (xs (i0 + 2))) (fun x2r => ?_)
  rw [hx2] at x2r
  obtain ⟨x3, hx3⟩ : ∃ z, (xs (i0 + 3)).toInt = z := ⟨_, rfl⟩
  refine hv_ (c_rng (xs (i0 + 3))) (fun x3r => ?_)
  rw [hx3] at x3r
  obtain ⟨x4, hx4⟩ : ∃ z, (xs (i0 + 4)).toInt = z := ⟨_, rfl⟩
  refine hv_ (c_rng (xs (i0 + 4))) (fun x4r => ?_)
  rw [hx4] at x4r
  obtain ⟨x5, hx5⟩ : ∃ z, (xs (i0 + 5)).toInt = z := ⟨_, rfl⟩
  refine hv_ (c_rng (xs (i0 + 5))) (fun x5r => ?_)
  rw [hx5] at x5r
  obtain ⟨x6, hx6⟩ : ∃ z, (xs (i0 + 6)).toInt = z := ⟨_, rfl⟩
  refine hv_ (c_rng (xs (i0 + 6))) (fun x6r => ?_)
  rw [hx6] at x6r
  obtain ⟨x7, hx7⟩ : ∃ z, (xs (i0 + 7)).toInt = z := ⟨_, rfl⟩
  refine hv_ (c_rng (xs (i0 + 7))) (fun x7r => ?_)
  rw [hx7] at x7r
  refine hv_ (iv_P hI) (fun hP => (hv_ (iv_Q hI) (fun hQ => (hv_ (rl_t hR) (fun hT => (hv_ (rl_u hR) (fun hU => ?_)))))))
  obtain ⟨n0, hn0⟩ : ∃ z, c P 0 = z := ⟨_, rfl⟩
  refine hv_ (p := c 41 20 = n0) ((rl_nums hR).1.symm.trans hn0) (fun hm0 => (hv_ (ir_p0_0 hI hP) (fun hr0 => ?_)))
  rw [hn0] at hr0
  obtain ⟨n1, hn1⟩ : ∃ z, c P 1 = z := ⟨_, rfl⟩
  refine hv_ (p := c 41 21 = n1) ((rl_nums hR).2.1.symm.trans hn1) (fun hm1 => (hv_ (ir_p0_1 hI hP) (fun hr1 => ?_)))
  rw [hn1] at hr1
  obtain ⟨n2, hn2⟩ : ∃ z, c P 2 = z := ⟨_, rfl⟩
  refine hv_ (p := c 41 22 = n2) ((rl_nums hR).2.2.1.symm.trans hn2) (fun hm2 => (hv_ (ir_p0_2 hI hP) (fun hr2 => ?_)))
  rw [hn2] at hr2
  obtain ⟨n3, hn3⟩ : ∃ z, c P 3 = z := ⟨_, rfl⟩
  refine hv_ (p := c 41 23 = n3) ((rl_nums hR).2.2.2.symm.trans hn3) (fun hm3 => (hv_ (ir_p0_3 hI hP) (fun hr3 => ?_)))
  rw [hn3] at hr3
  refine hv_ (rl_cnt2 hR) (fun hNcnt2 => (hv_ (rl_cnt2 hR) (fun hNcnt2 => (q_aload_n c_296_1259 rfl (q_aload_n c_296_1260 rfl (q_iload c_296_1261 rfl (q_iconst c_296_1263 (v_iadd (v := (i0 : Int) + 1) c_296_1264 rfl (v_scr (j := i0 + 1) c_296_1265 (by omega) (by omega) hL hx1 ?_)))))))))
  refine q_aload_n c_296_1266 rfl (q_call c_296_1267 rfl rfl rfl (q_aload_n c_285_0 rfl (q_iconst c_285_1 (q_aload_n c_285_2 rfl (q_iload_n c_285_3 rfl (hv_ (ir_0_12 hI) (fun h_1 => (hv_ (ir_0_13 hI) (fun h_2 => ?_)))))))))
  refine v_cv c_285_4 km_9_84 rfl rfl (Nat.le_of_ble_eq_true rfl) ⟨⟨rfl, rfl⟩, Nat.le_of_ble_eq_true rfl, rfl⟩ (Nat.le_of_ble_eq_true rfl) (Nat.le_of_ble_eq_true rfl) (s_105S (a1 := x1) hI (show (-2147483648) ≤ x1 ∧ x1 ≤ 2147483647 from ⟨by omega, by omega⟩) (fun c_3 hI_4 hF_5 h_6 h_7 h_8 => ?_) (fun c_9 y_12 hI_10 hF_11 hy_12 h_13 h_14 h_15 => ?_))
  · skip
    refine hv_ (ir_0_13 hI_4) (fun h_16 => (hv_ (ir_0_12 hI_4) (fun h_17 => (bk_thr (z := Int32.ofInt 1) rfl ⟨_, _, rfl⟩ rfl (bk_inl (q_istore c_296_1270 (Nat.le_of_ble_eq_true rfl) (q_aload_n c_296_1272 rfl (q_aload_n c_296_1273 rfl (q_iload c_296_1274 rfl ?_)))))))))
    refine q_iconst c_296_1276 (v_iadd (v := (i0 : Int) + 1) c_296_1277 rfl (v_scr (j := i0 + 1) c_296_1278 (by omega) (by omega) hL hx1 (hv_ (ir_42 hI 0) (fun h_18 => (hv_ (p := Hid (c_3 42 0 = c 42 0)) (hF_5 42 0 (qn_c82d74c43 hP)) (fun kn_19 => (hv_ (p := c_3 42 0 = c 42 0) ((hid kn_19)) (fun h_20 => (hv_ (ir_42 hI 1) (fun h_21 => (hv_ (p := Hid (c_3 42 1 = c 42 1)) (hF_5 42 1 (qn_c82d74c43 hP)) (fun kn_22 => ?_))))))))))))
    refine hv_ (p := c_3 42 1 = c 42 1) ((hid kn_22)) (fun h_23 => (v_cv c_296_1279 km_9_212 rfl rfl (Nat.le_of_ble_eq_true rfl) ⟨⟨rfl, rfl⟩, Nat.le_of_ble_eq_true rfl, rfl⟩ (Nat.le_of_ble_eq_true rfl) (Nat.le_of_ble_eq_true rfl) (s_240S (a1 := x1) hI_4 (show (-2147483648) ≤ x1 ∧ x1 ≤ 2147483647 from ⟨by first | (clear hT hNcnt2 h_1 h_2 h_16 h_17; omega) | omega, by first | (clear hT hNcnt2 h_1 h_2 h_16 h_17; omega) | omega⟩) (fun c_24 y_27 hI_25 hF_26 hy_27 h_28 => (bk_inl (hv_ (ir_42 hI_25 0) (fun h_29 => (hv_ (ir_42 hI_25 1) (fun h_30 => (q_istore c_296_1282 (Nat.le_of_ble_eq_true rfl) (q_goto (t := 1816) c_296_1284 rfl (Wp_ls [(4, vi (i0 : Int)), (3, .ref 67), (2, .ref 41), (1, .ref 0), (0, .ref a_SC)] (lsub_cons rfl (lsub_cons rfl (lsub_cons rfl (lsub_cons rfl (lsub_cons rfl lsub_nil))))) ?_))))))))))))
    refine hv_ (ir_1_3 hI) (fun h_31 => (hv_ (p := Hid (c_3 1 3 = c 1 3)) (hF_5 1 3 (qn_573365727 hP)) (fun kn_32 => (hv_ (p := Hid (c_24 1 3 = c 1 3)) ((hF_26 1 3 qn_44683f5fa).trans (hid kn_32)) (fun kn_33 => (hv_ (p := c_24 1 3 = c 1 3) ((hid kn_33)) (fun h_34 => (hv_ (ir_41_2 hI) (fun h_35 => (hv_ (p := Hid (c_3 41 2 = c 41 2)) (hF_5 41 2 (qn_69be8c781 hP)) (fun kn_36 => (hv_ (p := Hid (c_24 41 2 = c 41 2)) ((hF_26 41 2 qn_7a112a690).trans (hid kn_36)) (fun kn_37 => (hv_ (p := c_24 41 2 = c 41 2) ((hid kn_37)) (fun h_38 => ?_)))))))))))))))
    refine hv_ (p := Hid (c_3 P 0 = n0)) ((hF_5 P 0 (qn_ab81a8ac9 hP)).trans (hn0)) (fun kn_39 => (hv_ (p := Hid (c_24 P 0 = n0)) ((hF_26 P 0 (qn_70fec742f hP)).trans (hid kn_39)) (fun kn_40 => (hv_ (p := c_24 P 0 = n0) ((hid kn_40)) (fun h_41 => (hv_ (p := Hid (c_3 41 20 = n0)) ((hF_5 41 20 (qn_69be8c781 hP)).trans (hm0)) (fun kn_42 => (hv_ (p := Hid (c_24 41 20 = n0)) ((hF_26 41 20 qn_d0753a96c).trans (hid kn_42)) (fun kn_43 => (hv_ (p := c_24 41 20 = n0) ((hid kn_43)) (fun h_44 => (hv_ (p := Hid (c_3 P 1 = n1)) ((hF_5 P 1 (qn_ab81a8ac9 hP)).trans (hn1)) (fun kn_45 => (hv_ (p := Hid (c_24 P 1 = n1)) ((hF_26 P 1 (qn_70fec742f hP)).trans (hid kn_45)) (fun kn_46 => ?_)))))))))))))))
    refine hv_ (p := c_24 P 1 = n1) ((hid kn_46)) (fun h_47 => (hv_ (p := Hid (c_3 41 21 = n1)) ((hF_5 41 21 (qn_69be8c781 hP)).trans (hm1)) (fun kn_48 => (hv_ (p := Hid (c_24 41 21 = n1)) ((hF_26 41 21 qn_2dba34809).trans (hid kn_48)) (fun kn_49 => (hv_ (p := c_24 41 21 = n1) ((hid kn_49)) (fun h_50 => (hv_ (p := Hid (c_3 P 2 = n2)) ((hF_5 P 2 (qn_ab81a8ac9 hP)).trans (hn2)) (fun kn_51 => (hv_ (p := Hid (c_24 P 2 = n2)) ((hF_26 P 2 (qn_70fec742f hP)).trans (hid kn_51)) (fun kn_52 => (hv_ (p := c_24 P 2 = n2) ((hid kn_52)) (fun h_53 => (hv_ (p := Hid (c_3 41 22 = n2)) ((hF_5 41 22 (qn_69be8c781 hP)).trans (hm2)) (fun kn_54 => ?_)))))))))))))))
    refine hv_ (p := Hid (c_24 41 22 = n2)) ((hF_26 41 22 qn_0d1137165).trans (hid kn_54)) (fun kn_55 => (hv_ (p := c_24 41 22 = n2) ((hid kn_55)) (fun h_56 => (hv_ (p := Hid (c_3 P 3 = n3)) ((hF_5 P 3 (qn_ab81a8ac9 hP)).trans (hn3)) (fun kn_57 => (hv_ (p := Hid (c_24 P 3 = n3)) ((hF_26 P 3 (qn_70fec742f hP)).trans (hid kn_57)) (fun kn_58 => (hv_ (p := c_24 P 3 = n3) ((hid kn_58)) (fun h_59 => (hv_ (p := Hid (c_3 41 23 = n3)) ((hF_5 41 23 (qn_69be8c781 hP)).trans (hm3)) (fun kn_60 => (hv_ (p := Hid (c_24 41 23 = n3)) ((hF_26 41 23 qn_ca1c2b99e).trans (hid kn_60)) (fun kn_61 => (hv_ (p := c_24 41 23 = n3) ((hid kn_61)) (fun h_62 => ?_)))))))))))))))
    refine hv_ (p := Hid (c_3 0 12 = c 0 12)) (hF_5 0 12 (qn_7c8fc4285 hP)) (fun kn_63 => (hv_ (p := Hid (c_24 0 12 = c 0 12)) ((hF_26 0 12 qn_37cffd657).trans (hid kn_63)) (fun kn_64 => (hv_ (p := c_24 0 12 = c 0 12) ((hid kn_64)) (fun h_65 => (hv_ (p := c_24 42 0 = c_24 42 0) (rfl) (fun h_66 => (hv_ (p := Hid (c_24 0 13 = c_3 0 13)) (hF_26 0 13 qn_37cffd657) (fun kn_67 => (hv_ (p := c_24 0 13 = c_3 0 13) ((hid kn_67)) (fun h_68 => (hv_ (p := c_24 42 1 = c_24 42 1) (rfl) (fun h_69 => ?_)))))))))))))
    exact K P Q c_24 1 (of_decide_eq_true rfl) hI_25 ⟨by omega, ub_fr hU (fun j => (hF_26 2 j qn_d0e66b3bf).trans (hF_5 2 j (qn_aaebe4308 hP))) (fun j => (hF_26 43 j qn_5a77d9750).trans (hF_5 43 j (qn_3e58b8819 hP))), ⟨by omega, by omega, by omega, by omega⟩, ⟨by omega, by omega⟩⟩
  refine bk_inl (hv_ (ir_0_12 hI_10) (fun h_70 => (hv_ (ir_0_13 hI_10) (fun h_71 => (v_i2l c_285_7 (by omega) (v_ls c_285_8 rfl (of_decide_eq_true rfl) (of_decide_eq_true rfl) (of_decide_eq_true rfl) (q_goto (t := 15) c_285_9 rfl (q_iconst c_285_15 (q_iret c_285_16 rfl ?_)))))))))
  refine bk_inl (q_istore c_296_1270 (Nat.le_of_ble_eq_true rfl) (q_aload_n c_296_1272 rfl (q_aload_n c_296_1273 rfl (q_iload c_296_1274 rfl (q_iconst c_296_1276 (v_iadd (v := (i0 : Int) + 1) c_296_1277 rfl (v_scr (j := i0 + 1) c_296_1278 (by omega) (by omega) hL hx1 ?_)))))))
  refine hv_ (iw_lx (a := 67) (j := 0) (v := y_12) hI_10 (by omega)) (fun hI_72 => (hv_ (ir_42 hI 0) (fun h_73 => (hv_ (p := Hid (c_9 42 0 = c 42 0)) (hF_11 42 0 (qn_c82d74c43 hP)) (fun kn_74 => (hv_ (p := (up c_9 67 0 y_12) 42 0 = c 42 0) (((up_c (nn rfl)).trans (hid kn_74))) (fun h_75 => (hv_ (ir_42 hI 1) (fun h_76 => (hv_ (p := Hid (c_9 42 1 = c 42 1)) (hF_11 42 1 (qn_c82d74c43 hP)) (fun kn_77 => (hv_ (p := (up c_9 67 0 y_12) 42 1 = c 42 1) (((up_c (nn rfl)).trans (hid kn_77))) (fun h_78 => (v_cv c_296_1279 km_9_212 rfl rfl (Nat.le_of_ble_eq_true rfl) ⟨⟨rfl, rfl⟩, Nat.le_of_ble_eq_true rfl, rfl⟩ (Nat.le_of_ble_eq_true rfl) (Nat.le_of_ble_eq_true rfl) (s_240S (a1 := x1) hI_72 (show (-2147483648) ≤ x1 ∧ x1 ≤ 2147483647 from ⟨by first | exact q_946aba308 h_13 | omega, by first | exact q_fe021046e h_13 | omega⟩) (fun c_79 y_82 hI_80 hF_81 hy_82 h_83 => ?_))))))))))))))))
  refine bk_inl (hv_ (ir_42 hI_80 0) (fun h_84 => (hv_ (ir_42 hI_80 1) (fun h_85 => (q_istore c_296_1282 (Nat.le_of_ble_eq_true rfl) (q_goto (t := 1816) c_296_1284 rfl (Wp_ls [(4, vi (i0 : Int)), (3, .ref 67), (2, .ref 41), (1, .ref 0), (0, .ref a_SC)] (lsub_cons rfl (lsub_cons rfl (lsub_cons rfl (lsub_cons rfl (lsub_cons rfl lsub_nil))))) (hv_ (ir_1_3 hI) (fun h_86 => (hv_ (p := Hid (c_9 1 3 = c 1 3)) (hF_11 1 3 (qn_573365727 hP)) (fun kn_87 => ?_)))))))))))
  refine hv_ (p := Hid (c_79 1 3 = c 1 3)) ((hF_81 1 3 qn_44683f5fa).trans ((up_c (nn rfl)).trans (hid kn_87))) (fun kn_88 => (hv_ (p := c_79 1 3 = c 1 3) ((hid kn_88)) (fun h_89 => (hv_ (ir_41_2 hI) (fun h_90 => (hv_ (p := Hid (c_9 41 2 = c 41 2)) (hF_11 41 2 (qn_69be8c781 hP)) (fun kn_91 => (hv_ (p := Hid (c_79 41 2 = c 41 2)) ((hF_81 41 2 qn_7a112a690).trans ((up_c (nn rfl)).trans (hid kn_91))) (fun kn_92 => (hv_ (p := c_79 41 2 = c 41 2) ((hid kn_92)) (fun h_93 => (hv_ (p := Hid (c_9 P 0 = n0)) ((hF_11 P 0 (qn_ab81a8ac9 hP)).trans (hn0)) (fun kn_94 => (hv_ (p := Hid (c_79 P 0 = n0)) ((hF_81 P 0 (qn_70fec742f hP)).trans ((up_c (np0 hP rfl)).trans (hid kn_94))) (fun kn_95 => ?_)))))))))))))))
  refine hv_ (p := c_79 P 0 = n0) ((hid kn_95)) (fun h_96 => (hv_ (p := Hid (c_9 41 20 = n0)) ((hF_11 41 20 (qn_69be8c781 hP)).trans (hm0)) (fun kn_97 => (hv_ (p := Hid (c_79 41 20 = n0)) ((hF_81 41 20 qn_d0753a96c).trans ((up_c (nn rfl)).trans (hid kn_97))) (fun kn_98 => (hv_ (p := c_79 41 20 = n0) ((hid kn_98)) (fun h_99 => (hv_ (p := Hid (c_9 P 1 = n1)) ((hF_11 P 1 (qn_ab81a8ac9 hP)).trans (hn1)) (fun kn_100 => (hv_ (p := Hid (c_79 P 1 = n1)) ((hF_81 P 1 (qn_70fec742f hP)).trans ((up_c (np0 hP rfl)).trans (hid kn_100))) (fun kn_101 => (hv_ (p := c_79 P 1 = n1) ((hid kn_101)) (fun h_102 => (hv_ (p := Hid (c_9 41 21 = n1)) ((hF_11 41 21 (qn_69be8c781 hP)).trans (hm1)) (fun kn_103 => ?_)))))))))))))))
  refine hv_ (p := Hid (c_79 41 21 = n1)) ((hF_81 41 21 qn_2dba34809).trans ((up_c (nn rfl)).trans (hid kn_103))) (fun kn_104 => (hv_ (p := c_79 41 21 = n1) ((hid kn_104)) (fun h_105 => (hv_ (p := Hid (c_9 P 2 = n2)) ((hF_11 P 2 (qn_ab81a8ac9 hP)).trans (hn2)) (fun kn_106 => (hv_ (p := Hid (c_79 P 2 = n2)) ((hF_81 P 2 (qn_70fec742f hP)).trans ((up_c (np0 hP rfl)).trans (hid kn_106))) (fun kn_107 => (hv_ (p := c_79 P 2 = n2) ((hid kn_107)) (fun h_108 => (hv_ (p := Hid (c_9 41 22 = n2)) ((hF_11 41 22 (qn_69be8c781 hP)).trans (hm2)) (fun kn_109 => (hv_ (p := Hid (c_79 41 22 = n2)) ((hF_81 41 22 qn_0d1137165).trans ((up_c (nn rfl)).trans (hid kn_109))) (fun kn_110 => (hv_ (p := c_79 41 22 = n2) ((hid kn_110)) (fun h_111 => ?_)))))))))))))))
  refine hv_ (p := Hid (c_9 P 3 = n3)) ((hF_11 P 3 (qn_ab81a8ac9 hP)).trans (hn3)) (fun kn_112 => (hv_ (p := Hid (c_79 P 3 = n3)) ((hF_81 P 3 (qn_70fec742f hP)).trans ((up_c (np0 hP rfl)).trans (hid kn_112))) (fun kn_113 => (hv_ (p := c_79 P 3 = n3) ((hid kn_113)) (fun h_114 => (hv_ (p := Hid (c_9 41 23 = n3)) ((hF_11 41 23 (qn_69be8c781 hP)).trans (hm3)) (fun kn_115 => (hv_ (p := Hid (c_79 41 23 = n3)) ((hF_81 41 23 qn_ca1c2b99e).trans ((up_c (nn rfl)).trans (hid kn_115))) (fun kn_116 => (hv_ (p := c_79 41 23 = n3) ((hid kn_116)) (fun h_117 => (hv_ (p := Hid (c_9 0 12 = c 0 12)) (hF_11 0 12 (qn_7c8fc4285 hP)) (fun kn_118 => (hv_ (p := Hid (c_79 0 12 = c 0 12)) ((hF_81 0 12 qn_37cffd657).trans ((up_c (nn rfl)).trans (hid kn_118))) (fun kn_119 => ?_)))))))))))))))
  refine hv_ (p := c_79 0 12 = c 0 12) ((hid kn_119)) (fun h_120 => (hv_ (p := c_79 42 0 = c_79 42 0) (rfl) (fun h_121 => (hv_ (p := Hid (c_79 0 13 = c_9 0 13)) ((hF_81 0 13 qn_37cffd657).trans (up_c (nn rfl))) (fun kn_122 => (hv_ (p := c_79 0 13 = c_9 0 13) ((hid kn_122)) (fun h_123 => (hv_ (p := c_79 42 1 = c_79 42 1) (rfl) (fun h_124 => ?_)))))))))
  exact K P Q c_79 0 (of_decide_eq_true rfl) hI_80 ⟨by omega, ub_fr hU (fun j => (hF_81 2 j qn_d0e66b3bf).trans ((up_c (nn rfl)).trans (hF_11 2 j (qn_aaebe4308 hP)))) (fun j => (hF_81 43 j qn_5a77d9750).trans ((up_c (nn rfl)).trans (hF_11 43 j (qn_3e58b8819 hP)))), ⟨by omega, by omega, by omega, by omega⟩, ⟨by omega, by omega⟩⟩

set_option maxRecDepth 100000 in
set_option maxHeartbeats 4000000 in
theorem o_26 {xs : Nat → Int32} {L i0 d nc ns P Q : Nat} {c : ME} {Z : AR → Prop} (hi : i0 + 8 ≤ L) (hL : L ≤ 100000) (hI : Iv 0 (-1) P Q c) (hR : Rq P c) (K : ∀ (P2 Q2 : Nat) (c2 : ME) (e : Nat), e ≤ 1 → Iv 0 (-1) P2 Q2 c2 → (Rq P2 c2) → Wp (a_scr L xs) (d + 90) 296 1816 [(4, vi (i0 : Int)), (3, .ref 67), (2, .ref 41), (1, .ref 0), (0, .ref a_SC)] [] (Wd P2 Q2 P2 P2 c2) (nc + e) (ns + 6 * e) Z) : Wp (a_scr L xs) (d + 90) 296 1287 [(4, vi (i0 : Int)), (3, .ref 67), (2, .ref 41), (1, .ref 0), (0, .ref a_SC)] [] (Wd P Q P P c) nc ns Z := by
  obtain ⟨x1, hx1⟩ : ∃ z, (xs (i0 + 1)).toInt = z := ⟨_, rfl⟩
  refine hv_ (c_rng (xs (i0 + 1))) (fun x1r => ?_)
  rw [hx1] at x1r
  obtain ⟨x2, hx2⟩ : ∃ z, (xs (i0 + 2)).toInt = z := ⟨_, rfl⟩
  refine hv_ (c_rng (xs (i0 + 2))) (fun x2r => ?_)
  rw [hx2] at x2r
  obtain ⟨x3, hx3⟩ : ∃ z, (xs (i0 + 3)).toInt = z := ⟨_, rfl⟩
  refine hv_ (c_rng (xs (i0 + 3))) (fun x3r => ?_)
  rw [hx3] at x3r
  obtain ⟨x4, hx4⟩ : ∃ z, (xs (i0 + 4)).toInt = z := ⟨_, rfl⟩
  refine hv_ (c_rng (xs (i0 + 4))) (fun x4r => ?_)
  rw [hx4] at x4r
  obtain ⟨x5, hx5⟩ : ∃ z, (xs (i0 + 5)).toInt = z := ⟨_, rfl⟩
  refine hv_ (c_rng (xs (i0 + 5))) (fun x5r => ?_)
  rw [hx5] at x5r
  obtain ⟨x6, hx6⟩ : ∃ z, (xs (i0 + 6)).toInt = z := ⟨_, rfl⟩
  refine hv_ (c_rng (xs (i0 + 6))) (fun x6r => ?_)
  rw [hx6] at x6r
  obtain ⟨x7, hx7⟩ : ∃ z, (xs (i0 + 7)).toInt = z := ⟨_, rfl⟩
  refine hv_ (c_rng (xs (i0 + 7))) (fun x7r => ?_)
  rw [hx7] at x7r
  refine hv_ (iv_P hI) (fun hP => (hv_ (iv_Q hI) (fun hQ => (hv_ (rl_t hR) (fun hT => (hv_ (rl_u hR) (fun hU => ?_)))))))
  obtain ⟨n0, hn0⟩ : ∃ z, c P 0 = z := ⟨_, rfl⟩
  refine hv_ (p := c 41 20 = n0) ((rl_nums hR).1.symm.trans hn0) (fun hm0 => (hv_ (ir_p0_0 hI hP) (fun hr0 => ?_)))
  rw [hn0] at hr0
  obtain ⟨n1, hn1⟩ : ∃ z, c P 1 = z := ⟨_, rfl⟩
  refine hv_ (p := c 41 21 = n1) ((rl_nums hR).2.1.symm.trans hn1) (fun hm1 => (hv_ (ir_p0_1 hI hP) (fun hr1 => ?_)))
  rw [hn1] at hr1
  obtain ⟨n2, hn2⟩ : ∃ z, c P 2 = z := ⟨_, rfl⟩
  refine hv_ (p := c 41 22 = n2) ((rl_nums hR).2.2.1.symm.trans hn2) (fun hm2 => (hv_ (ir_p0_2 hI hP) (fun hr2 => ?_)))
  rw [hn2] at hr2
  obtain ⟨n3, hn3⟩ : ∃ z, c P 3 = z := ⟨_, rfl⟩
  refine hv_ (p := c 41 23 = n3) ((rl_nums hR).2.2.2.symm.trans hn3) (fun hm3 => (hv_ (ir_p0_3 hI hP) (fun hr3 => ?_)))
  rw [hn3] at hr3
  refine hv_ (rl_cnt2 hR) (fun hNcnt2 => (hv_ (rl_cnt2 hR) (fun hNcnt2 => (q_aload_n c_296_1287 rfl (v_cv c_296_1288 km_9_213 rfl rfl (Nat.le_of_ble_eq_true rfl) ⟨⟨rfl, rfl⟩, Nat.le_of_ble_eq_true rfl, rfl⟩ (Nat.le_of_ble_eq_true rfl) (Nat.le_of_ble_eq_true rfl) (s_106 hI (fun c_1 y_4 hI_2 hF_3 hy_4 => (bk_inl (q_pop c_296_1291 rfl (q_aload_n c_296_1292 rfl (v_cv c_296_1293 km_9_216 rfl rfl (Nat.le_of_ble_eq_true rfl) ⟨⟨rfl, rfl⟩, Nat.le_of_ble_eq_true rfl, rfl⟩ (Nat.le_of_ble_eq_true rfl) (Nat.le_of_ble_eq_true rfl) (s_241 hI_2 (fun c_5 y_8 hI_6 hF_7 hy_8 => ?_)))))))))))))
  refine bk_inl (q_pop c_296_1296 rfl (q_goto (t := 1816) c_296_1297 rfl (Wp_ls [(4, vi (i0 : Int)), (3, .ref 67), (2, .ref 41), (1, .ref 0), (0, .ref a_SC)] (lsub_cons rfl (lsub_cons rfl (lsub_cons rfl (lsub_cons rfl (lsub_cons rfl lsub_nil))))) (hv_ (ir_1_3 hI) (fun h_9 => (hv_ (p := Hid (c_1 1 3 = c 1 3)) (hF_3 1 3 (qn_db0fa2040 hP)) (fun kn_10 => (hv_ (p := Hid (c_5 1 3 = c 1 3)) ((hF_7 1 3 qn_965711e77).trans (hid kn_10)) (fun kn_11 => (hv_ (p := c_5 1 3 = c 1 3) ((hid kn_11)) (fun h_12 => ?_)))))))))))
  refine hv_ (ir_41_2 hI) (fun h_13 => (hv_ (p := Hid (c_1 41 2 = c 41 2)) (hF_3 41 2 (qn_4d24c7afb hP)) (fun kn_14 => (hv_ (p := Hid (c_5 41 2 = c 41 2)) ((hF_7 41 2 qn_dd6cb5371).trans (hid kn_14)) (fun kn_15 => (hv_ (p := c_5 41 2 = c 41 2) ((hid kn_15)) (fun h_16 => (hv_ (p := Hid (c_1 P 0 = n0)) ((hF_3 P 0 (fun q => q.elim (fun h => absurd h (p0p rfl)) (fun h => absurd h (p0p rfl)))).trans (hn0)) (fun kn_17 => (hv_ (p := Hid (c_5 P 0 = n0)) ((hF_7 P 0 (qn_82f5c699c hP)).trans (hid kn_17)) (fun kn_18 => (hv_ (p := c_5 P 0 = n0) ((hid kn_18)) (fun h_19 => (hv_ (p := Hid (c_1 41 20 = n0)) ((hF_3 41 20 (qn_4d24c7afb hP)).trans (hm0)) (fun kn_20 => ?_)))))))))))))))
  refine hv_ (p := Hid (c_5 41 20 = n0)) ((hF_7 41 20 qn_4a675523d).trans (hid kn_20)) (fun kn_21 => (hv_ (p := c_5 41 20 = n0) ((hid kn_21)) (fun h_22 => (hv_ (p := Hid (c_1 P 1 = n1)) ((hF_3 P 1 (fun q => q.elim (fun h => absurd h (p0p rfl)) (fun h => absurd h (p0p rfl)))).trans (hn1)) (fun kn_23 => (hv_ (p := Hid (c_5 P 1 = n1)) ((hF_7 P 1 (qn_82f5c699c hP)).trans (hid kn_23)) (fun kn_24 => (hv_ (p := c_5 P 1 = n1) ((hid kn_24)) (fun h_25 => (hv_ (p := Hid (c_1 41 21 = n1)) ((hF_3 41 21 (qn_4d24c7afb hP)).trans (hm1)) (fun kn_26 => (hv_ (p := Hid (c_5 41 21 = n1)) ((hF_7 41 21 qn_b8c7ae319).trans (hid kn_26)) (fun kn_27 => (hv_ (p := c_5 41 21 = n1) ((hid kn_27)) (fun h_28 => ?_)))))))))))))))
  refine hv_ (p := Hid (c_1 P 2 = n2)) ((hF_3 P 2 (fun q => q.elim (fun h => absurd h (p0p rfl)) (fun h => absurd h (p0p rfl)))).trans (hn2)) (fun kn_29 => (hv_ (p := Hid (c_5 P 2 = n2)) ((hF_7 P 2 (qn_82f5c699c hP)).trans (hid kn_29)) (fun kn_30 => (hv_ (p := c_5 P 2 = n2) ((hid kn_30)) (fun h_31 => (hv_ (p := Hid (c_1 41 22 = n2)) ((hF_3 41 22 (qn_4d24c7afb hP)).trans (hm2)) (fun kn_32 => (hv_ (p := Hid (c_5 41 22 = n2)) ((hF_7 41 22 qn_6845dc871).trans (hid kn_32)) (fun kn_33 => (hv_ (p := c_5 41 22 = n2) ((hid kn_33)) (fun h_34 => (hv_ (p := Hid (c_1 P 3 = n3)) ((hF_3 P 3 (fun q => q.elim (fun h => absurd h (p0p rfl)) (fun h => absurd h (p0p rfl)))).trans (hn3)) (fun kn_35 => (hv_ (p := Hid (c_5 P 3 = n3)) ((hF_7 P 3 (qn_82f5c699c hP)).trans (hid kn_35)) (fun kn_36 => ?_)))))))))))))))
  refine hv_ (p := c_5 P 3 = n3) ((hid kn_36)) (fun h_37 => (hv_ (p := Hid (c_1 41 23 = n3)) ((hF_3 41 23 (qn_4d24c7afb hP)).trans (hm3)) (fun kn_38 => (hv_ (p := Hid (c_5 41 23 = n3)) ((hF_7 41 23 qn_d7f907dd2).trans (hid kn_38)) (fun kn_39 => (hv_ (p := c_5 41 23 = n3) ((hid kn_39)) (fun h_40 => (hv_ (ir_0_12 hI) (fun h_41 => (hv_ (p := Hid (c_1 0 12 = c 0 12)) (hF_3 0 12 (qn_f7a516dfe hP)) (fun kn_42 => (hv_ (p := Hid (c_5 0 12 = c 0 12)) ((hF_7 0 12 qn_95bc67d80).trans (hid kn_42)) (fun kn_43 => (hv_ (p := c_5 0 12 = c 0 12) ((hid kn_43)) (fun h_44 => ?_)))))))))))))))
  refine hv_ (ir_42 hI 0) (fun h_45 => (hv_ (p := Hid (c_1 42 0 = c 42 0)) (hF_3 42 0 (qn_da4e0117f hP)) (fun kn_46 => (hv_ (p := Hid (c_5 42 0 = c 42 0)) ((hF_7 42 0 qn_ac3d572a5).trans (hid kn_46)) (fun kn_47 => (hv_ (p := c_5 42 0 = c 42 0) ((hid kn_47)) (fun h_48 => (hv_ (ir_0_13 hI) (fun h_49 => (hv_ (p := Hid (c_1 0 13 = c 0 13)) (hF_3 0 13 (qn_f7a516dfe hP)) (fun kn_50 => (hv_ (p := Hid (c_5 0 13 = c 0 13)) ((hF_7 0 13 qn_95bc67d80).trans (hid kn_50)) (fun kn_51 => (hv_ (p := c_5 0 13 = c 0 13) ((hid kn_51)) (fun h_52 => ?_)))))))))))))))
  refine hv_ (ir_42 hI 1) (fun h_53 => (hv_ (p := Hid (c_1 42 1 = c 42 1)) (hF_3 42 1 (qn_da4e0117f hP)) (fun kn_54 => (hv_ (p := Hid (c_5 42 1 = c 42 1)) ((hF_7 42 1 qn_ac3d572a5).trans (hid kn_54)) (fun kn_55 => (hv_ (p := c_5 42 1 = c 42 1) ((hid kn_55)) (fun h_56 => ?_)))))))
  exact K P Q c_5 0 (of_decide_eq_true rfl) hI_6 ⟨by omega, ub_fr hU (fun j => (hF_7 2 j qn_7bbf03f40).trans (hF_3 2 j (qn_389d7b966 hP))) (fun j => (hF_7 43 j qn_da8a66655).trans (hF_3 43 j (qn_afbd556c9 hP))), ⟨by omega, by omega, by omega, by omega⟩, ⟨by omega, by omega⟩⟩

set_option maxRecDepth 100000 in
set_option maxHeartbeats 4000000 in
theorem o_27 {xs : Nat → Int32} {L i0 d nc ns P Q : Nat} {c : ME} {Z : AR → Prop} (hi : i0 + 8 ≤ L) (hL : L ≤ 100000) (hI : Iv 0 (-1) P Q c) (hR : Rq P c) (K : ∀ (P2 Q2 : Nat) (c2 : ME) (e : Nat), e ≤ 1 → Iv 0 (-1) P2 Q2 c2 → (Rq P2 c2) → Wp (a_scr L xs) (d + 90) 296 1816 [(4, vi (i0 : Int)), (3, .ref 67), (2, .ref 41), (1, .ref 0), (0, .ref a_SC)] [] (Wd P2 Q2 P2 P2 c2) (nc + e) (ns + 6 * e) Z) : Wp (a_scr L xs) (d + 90) 296 1300 [(4, vi (i0 : Int)), (3, .ref 67), (2, .ref 41), (1, .ref 0), (0, .ref a_SC)] [] (Wd P Q P P c) nc ns Z := by
  obtain ⟨x1, hx1⟩ : ∃ z, (xs (i0 + 1)).toInt = z := ⟨_, rfl⟩
  refine hv_ (c_rng (xs (i0 + 1))) (fun x1r => ?_)
  rw [hx1] at x1r
  obtain ⟨x2, hx2⟩ : ∃ z, (xs (i0 + 2)).toInt = z := ⟨_, rfl⟩
  refine hv_ (c_rng (xs (i0 + 2))) (fun x2r => ?_)
  rw [hx2] at x2r
  obtain ⟨x3, hx3⟩ : ∃ z, (xs (i0 + 3)).toInt = z := ⟨_, rfl⟩
  refine hv_ (c_rng (xs (i0 + 3))) (fun x3r => ?_)
  rw [hx3] at x3r
  obtain ⟨x4, hx4⟩ : ∃ z, (xs (i0 + 4)).toInt = z := ⟨_, rfl⟩
  refine hv_ (c_rng (xs (i0 + 4))) (fun x4r => ?_)
  rw [hx4] at x4r
  obtain ⟨x5, hx5⟩ : ∃ z, (xs (i0 + 5)).toInt = z := ⟨_, rfl⟩
  refine hv_ (c_rng (xs (i0 + 5))) (fun x5r => ?_)
  rw [hx5] at x5r
  obtain ⟨x6, hx6⟩ : ∃ z, (xs (i0 + 6)).toInt = z := ⟨_, rfl⟩
  refine hv_ (c_rng (xs (i0 + 6))) (fun x6r => ?_)
  rw [hx6] at x6r
  obtain ⟨x7, hx7⟩ : ∃ z, (xs (i0 + 7)).toInt = z := ⟨_, rfl⟩
  refine hv_ (c_rng (xs (i0 + 7))) (fun x7r => ?_)
  rw [hx7] at x7r
  refine hv_ (iv_P hI) (fun hP => (hv_ (iv_Q hI) (fun hQ => (hv_ (rl_t hR) (fun hT => (hv_ (rl_u hR) (fun hU => ?_)))))))
  obtain ⟨n0, hn0⟩ : ∃ z, c P 0 = z := ⟨_, rfl⟩
  refine hv_ (p := c 41 20 = n0) ((rl_nums hR).1.symm.trans hn0) (fun hm0 => (hv_ (ir_p0_0 hI hP) (fun hr0 => ?_)))
  rw [hn0] at hr0
  obtain ⟨n1, hn1⟩ : ∃ z, c P 1 = z := ⟨_, rfl⟩
  refine hv_ (p := c 41 21 = n1) ((rl_nums hR).2.1.symm.trans hn1) (fun hm1 => (hv_ (ir_p0_1 hI hP) (fun hr1 => ?_)))
  rw [hn1] at hr1
  obtain ⟨n2, hn2⟩ : ∃ z, c P 2 = z := ⟨_, rfl⟩
  refine hv_ (p := c 41 22 = n2) ((rl_nums hR).2.2.1.symm.trans hn2) (fun hm2 => (hv_ (ir_p0_2 hI hP) (fun hr2 => ?_)))
  rw [hn2] at hr2
  obtain ⟨n3, hn3⟩ : ∃ z, c P 3 = z := ⟨_, rfl⟩
  refine hv_ (p := c 41 23 = n3) ((rl_nums hR).2.2.2.symm.trans hn3) (fun hm3 => (hv_ (ir_p0_3 hI hP) (fun hr3 => ?_)))
  rw [hn3] at hr3
  refine hv_ (rl_cnt2 hR) (fun hNcnt2 => (hv_ (rl_cnt2 hR) (fun hNcnt2 => (q_aload_n c_296_1300 rfl (q_aload_n c_296_1301 rfl (q_iload c_296_1302 rfl (q_iconst c_296_1304 (v_iadd (v := (i0 : Int) + 1) c_296_1305 rfl (v_scr (j := i0 + 1) c_296_1306 (by omega) (by omega) hL hx1 ?_)))))))))
  refine q_aload_n c_296_1307 rfl (q_iload c_296_1308 rfl (q_iconst c_296_1310 (v_iadd (v := (i0 : Int) + 2) c_296_1311 rfl (v_scr (j := i0 + 2) c_296_1312 (by omega) (by omega) hL hx2 (q_aload_n c_296_1313 rfl (q_call c_296_1314 rfl rfl rfl (q_aload_n c_286_0 rfl ?_)))))))
  refine q_iconst c_286_1 (q_aload_n c_286_2 rfl (q_iload_n c_286_3 rfl (q_iload_n c_286_4 rfl (hv_ (p := c P 0 = n0) ((hn0)) (fun h_1 => (hv_ (ir_0_12 hI) (fun h_2 => (hv_ (ir_0_13 hI) (fun h_3 => ?_)))))))))
  refine v_cv c_286_5 km_9_87 rfl rfl (Nat.le_of_ble_eq_true rfl) ⟨⟨rfl, rfl⟩, Nat.le_of_ble_eq_true rfl, rfl⟩ (Nat.le_of_ble_eq_true rfl) (Nat.le_of_ble_eq_true rfl) (s_108S (a1 := x1) (a2 := x2) hI (show (-2147483648) ≤ x1 ∧ x1 ≤ 2147483647 from ⟨by omega, by omega⟩) (show (-2147483648) ≤ x2 ∧ x2 ≤ 2147483647 from ⟨by omega, by omega⟩) (fun c_4 hI_5 hF_6 h_7 h_8 h_9 => ?_) (fun c_10 y_13 hI_11 hF_12 hy_13 h_14 h_15 h_16 => ?_))
  · skip
    refine hv_ (ir_0_12 hI_5) (fun h_17 => (hv_ (ir_0_13 hI_5) (fun h_18 => (bk_thr (z := Int32.ofInt 1) rfl ⟨_, _, rfl⟩ rfl (bk_inl (q_istore c_296_1317 (Nat.le_of_ble_eq_true rfl) (q_aload_n c_296_1319 rfl (q_aload_n c_296_1320 rfl (q_iload c_296_1321 rfl ?_)))))))))
    refine q_iconst c_296_1323 (v_iadd (v := (i0 : Int) + 1) c_296_1324 rfl (v_scr (j := i0 + 1) c_296_1325 (by omega) (by omega) hL hx1 (q_aload_n c_296_1326 rfl (q_iload c_296_1327 rfl (q_iconst c_296_1329 (v_iadd (v := (i0 : Int) + 2) c_296_1330 rfl (v_scr (j := i0 + 2) c_296_1331 (by omega) (by omega) hL hx2 ?_)))))))
    refine hv_ (p := Hid (c_4 41 20 = n0)) ((hF_6 41 20 (qn_c1b212892 hP)).trans (hm0)) (fun kn_19 => (hv_ (p := c_4 41 20 = n0) ((hid kn_19)) (fun h_20 => (hv_ (ir_42 hI 0) (fun h_21 => (hv_ (p := Hid (c_4 42 0 = c 42 0)) (hF_6 42 0 (qn_8642dec24 hP)) (fun kn_22 => (hv_ (p := c_4 42 0 = c 42 0) ((hid kn_22)) (fun h_23 => (hv_ (ir_42 hI 1) (fun h_24 => (hv_ (p := Hid (c_4 42 1 = c 42 1)) (hF_6 42 1 (qn_8642dec24 hP)) (fun kn_25 => (hv_ (p := c_4 42 1 = c 42 1) ((hid kn_25)) (fun h_26 => ?_)))))))))))))))
    refine v_cv c_296_1332 km_9_219 rfl rfl (Nat.le_of_ble_eq_true rfl) ⟨⟨rfl, rfl⟩, Nat.le_of_ble_eq_true rfl, rfl⟩ (Nat.le_of_ble_eq_true rfl) (Nat.le_of_ble_eq_true rfl) (s_242S (a1 := x1) (a2 := x2) hI_5 (show (-2147483648) ≤ x1 ∧ x1 ≤ 2147483647 from ⟨by first | (clear hT hNcnt2 h_2 h_3 h_17 h_18; omega) | omega, by first | (clear hT hNcnt2 h_2 h_3 h_17 h_18; omega) | omega⟩) (show (-2147483648) ≤ x2 ∧ x2 ≤ 2147483647 from ⟨by first | (clear hT hNcnt2 h_2 h_3 h_17 h_18; omega) | omega, by first | (clear hT hNcnt2 h_2 h_3 h_17 h_18; omega) | omega⟩) (fun c_27 y_30 hI_28 hF_29 hy_30 h_31 => (bk_inl (hv_ (ir_42 hI_28 0) (fun h_32 => (hv_ (ir_42 hI_28 1) (fun h_33 => (q_istore c_296_1335 (Nat.le_of_ble_eq_true rfl) (q_goto (t := 1816) c_296_1337 rfl (Wp_ls [(4, vi (i0 : Int)), (3, .ref 67), (2, .ref 41), (1, .ref 0), (0, .ref a_SC)] (lsub_cons rfl (lsub_cons rfl (lsub_cons rfl (lsub_cons rfl (lsub_cons rfl lsub_nil))))) (hv_ (ir_1_3 hI) (fun h_34 => ?_))))))))))))
    refine hv_ (p := Hid (c_4 1 3 = c 1 3)) (hF_6 1 3 (qn_bcb6129a7 hP)) (fun kn_35 => (hv_ (p := Hid (c_27 1 3 = c 1 3)) ((hF_29 1 3 qn_44683f5fa).trans (hid kn_35)) (fun kn_36 => (hv_ (p := c_27 1 3 = c 1 3) ((hid kn_36)) (fun h_37 => (hv_ (ir_41_2 hI) (fun h_38 => (hv_ (p := Hid (c_4 41 2 = c 41 2)) (hF_6 41 2 (qn_c1b212892 hP)) (fun kn_39 => (hv_ (p := Hid (c_27 41 2 = c 41 2)) ((hF_29 41 2 qn_7a112a690).trans (hid kn_39)) (fun kn_40 => (hv_ (p := c_27 41 2 = c 41 2) ((hid kn_40)) (fun h_41 => (hv_ (p := Hid (c_4 P 0 = n0)) ((hF_6 P 0 (qn_f8aa6ac5f hP)).trans (hn0)) (fun kn_42 => ?_)))))))))))))))
    refine hv_ (p := Hid (c_27 P 0 = n0)) ((hF_29 P 0 (qn_70fec742f hP)).trans (hid kn_42)) (fun kn_43 => (hv_ (p := c_27 P 0 = n0) ((hid kn_43)) (fun h_44 => (hv_ (p := Hid (c_27 41 20 = n0)) ((hF_29 41 20 qn_d0753a96c).trans (hid kn_19)) (fun kn_45 => (hv_ (p := c_27 41 20 = n0) ((hid kn_45)) (fun h_46 => (hv_ (p := Hid (c_4 P 1 = n1)) ((hF_6 P 1 (qn_f8aa6ac5f hP)).trans (hn1)) (fun kn_47 => (hv_ (p := Hid (c_27 P 1 = n1)) ((hF_29 P 1 (qn_70fec742f hP)).trans (hid kn_47)) (fun kn_48 => (hv_ (p := c_27 P 1 = n1) ((hid kn_48)) (fun h_49 => (hv_ (p := Hid (c_4 41 21 = n1)) ((hF_6 41 21 (qn_c1b212892 hP)).trans (hm1)) (fun kn_50 => ?_)))))))))))))))
    refine hv_ (p := Hid (c_27 41 21 = n1)) ((hF_29 41 21 qn_2dba34809).trans (hid kn_50)) (fun kn_51 => (hv_ (p := c_27 41 21 = n1) ((hid kn_51)) (fun h_52 => (hv_ (p := Hid (c_4 P 2 = n2)) ((hF_6 P 2 (qn_f8aa6ac5f hP)).trans (hn2)) (fun kn_53 => (hv_ (p := Hid (c_27 P 2 = n2)) ((hF_29 P 2 (qn_70fec742f hP)).trans (hid kn_53)) (fun kn_54 => (hv_ (p := c_27 P 2 = n2) ((hid kn_54)) (fun h_55 => (hv_ (p := Hid (c_4 41 22 = n2)) ((hF_6 41 22 (qn_c1b212892 hP)).trans (hm2)) (fun kn_56 => (hv_ (p := Hid (c_27 41 22 = n2)) ((hF_29 41 22 qn_0d1137165).trans (hid kn_56)) (fun kn_57 => (hv_ (p := c_27 41 22 = n2) ((hid kn_57)) (fun h_58 => ?_)))))))))))))))
    refine hv_ (p := Hid (c_4 P 3 = n3)) ((hF_6 P 3 (qn_f8aa6ac5f hP)).trans (hn3)) (fun kn_59 => (hv_ (p := Hid (c_27 P 3 = n3)) ((hF_29 P 3 (qn_70fec742f hP)).trans (hid kn_59)) (fun kn_60 => (hv_ (p := c_27 P 3 = n3) ((hid kn_60)) (fun h_61 => (hv_ (p := Hid (c_4 41 23 = n3)) ((hF_6 41 23 (qn_c1b212892 hP)).trans (hm3)) (fun kn_62 => (hv_ (p := Hid (c_27 41 23 = n3)) ((hF_29 41 23 qn_ca1c2b99e).trans (hid kn_62)) (fun kn_63 => (hv_ (p := c_27 41 23 = n3) ((hid kn_63)) (fun h_64 => (hv_ (p := Hid (c_27 0 12 = c_4 0 12)) (hF_29 0 12 qn_37cffd657) (fun kn_65 => (hv_ (p := c_27 0 12 = c_4 0 12) ((hid kn_65)) (fun h_66 => ?_)))))))))))))))
    refine hv_ (p := c_27 42 0 = c_27 42 0) (rfl) (fun h_67 => (hv_ (p := Hid (c_4 0 13 = c 0 13)) (hF_6 0 13 (qn_707a5f876 hP)) (fun kn_68 => (hv_ (p := Hid (c_27 0 13 = c 0 13)) ((hF_29 0 13 qn_37cffd657).trans (hid kn_68)) (fun kn_69 => (hv_ (p := c_27 0 13 = c 0 13) ((hid kn_69)) (fun h_70 => (hv_ (p := c_27 42 1 = c_27 42 1) (rfl) (fun h_71 => ?_)))))))))
    exact K P Q c_27 1 (of_decide_eq_true rfl) hI_28 ⟨by omega, ub_fr hU (fun j => (hF_29 2 j qn_d0e66b3bf).trans (hF_6 2 j (qn_c44a51550 hP))) (fun j => (hF_29 43 j qn_5a77d9750).trans (hF_6 43 j (qn_2e57cdabe hP))), ⟨by omega, by omega, by omega, by omega⟩, ⟨by omega, by omega⟩⟩
  refine bk_inl (hv_ (ir_0_12 hI_11) (fun h_72 => (hv_ (ir_0_13 hI_11) (fun h_73 => (v_i2l c_286_8 (by omega) (v_ls c_286_9 rfl (of_decide_eq_true rfl) (of_decide_eq_true rfl) (of_decide_eq_true rfl) (q_goto (t := 17) c_286_10 rfl (q_iconst c_286_17 (q_iret c_286_18 rfl ?_)))))))))
  refine bk_inl (q_istore c_296_1317 (Nat.le_of_ble_eq_true rfl) (q_aload_n c_296_1319 rfl (q_aload_n c_296_1320 rfl (q_iload c_296_1321 rfl (q_iconst c_296_1323 (v_iadd (v := (i0 : Int) + 1) c_296_1324 rfl (v_scr (j := i0 + 1) c_296_1325 (by omega) (by omega) hL hx1 ?_)))))))
  refine q_aload_n c_296_1326 rfl (q_iload c_296_1327 rfl (q_iconst c_296_1329 (v_iadd (v := (i0 : Int) + 2) c_296_1330 rfl (v_scr (j := i0 + 2) c_296_1331 (by omega) (by omega) hL hx2 (hv_ (iw_lx (a := 67) (j := 0) (v := y_13) hI_11 (by omega)) (fun hI_74 => (hv_ (p := Hid (c_10 41 20 = n0)) ((hF_12 41 20 (qn_c1b212892 hP)).trans (hm0)) (fun kn_75 => (hv_ (p := (up c_10 67 0 y_13) 41 20 = n0) (((up_c (nn rfl)).trans (hid kn_75))) (fun h_76 => ?_))))))))))
  refine hv_ (ir_42 hI 0) (fun h_77 => (hv_ (p := Hid (c_10 42 0 = c 42 0)) (hF_12 42 0 (qn_8642dec24 hP)) (fun kn_78 => (hv_ (p := (up c_10 67 0 y_13) 42 0 = c 42 0) (((up_c (nn rfl)).trans (hid kn_78))) (fun h_79 => (hv_ (ir_42 hI 1) (fun h_80 => (hv_ (p := Hid (c_10 42 1 = c 42 1)) (hF_12 42 1 (qn_8642dec24 hP)) (fun kn_81 => (hv_ (p := (up c_10 67 0 y_13) 42 1 = c 42 1) (((up_c (nn rfl)).trans (hid kn_81))) (fun h_82 => (v_cv c_296_1332 km_9_219 rfl rfl (Nat.le_of_ble_eq_true rfl) ⟨⟨rfl, rfl⟩, Nat.le_of_ble_eq_true rfl, rfl⟩ (Nat.le_of_ble_eq_true rfl) (Nat.le_of_ble_eq_true rfl) (s_242S (a1 := x1) (a2 := x2) hI_74 (show (-2147483648) ≤ x1 ∧ x1 ≤ 2147483647 from ⟨by first | exact q_72c419465 h_14 h_1 | omega, by omega⟩) (show (-2147483648) ≤ x2 ∧ x2 ≤ 2147483647 from ⟨by first | exact q_c0a74a849 h_14 h_1 | omega, by omega⟩) (fun c_83 y_86 hI_84 hF_85 hy_86 h_87 => (bk_inl ?_)))))))))))))))
  refine hv_ (ir_42 hI_84 0) (fun h_88 => (hv_ (ir_42 hI_84 1) (fun h_89 => (q_istore c_296_1335 (Nat.le_of_ble_eq_true rfl) (q_goto (t := 1816) c_296_1337 rfl (Wp_ls [(4, vi (i0 : Int)), (3, .ref 67), (2, .ref 41), (1, .ref 0), (0, .ref a_SC)] (lsub_cons rfl (lsub_cons rfl (lsub_cons rfl (lsub_cons rfl (lsub_cons rfl lsub_nil))))) (hv_ (ir_1_3 hI) (fun h_90 => (hv_ (p := Hid (c_10 1 3 = c 1 3)) (hF_12 1 3 (qn_bcb6129a7 hP)) (fun kn_91 => (hv_ (p := Hid (c_83 1 3 = c 1 3)) ((hF_85 1 3 qn_44683f5fa).trans ((up_c (nn rfl)).trans (hid kn_91))) (fun kn_92 => ?_))))))))))))
  refine hv_ (p := c_83 1 3 = c 1 3) ((hid kn_92)) (fun h_93 => (hv_ (ir_41_2 hI) (fun h_94 => (hv_ (p := Hid (c_10 41 2 = c 41 2)) (hF_12 41 2 (qn_c1b212892 hP)) (fun kn_95 => (hv_ (p := Hid (c_83 41 2 = c 41 2)) ((hF_85 41 2 qn_7a112a690).trans ((up_c (nn rfl)).trans (hid kn_95))) (fun kn_96 => (hv_ (p := c_83 41 2 = c 41 2) ((hid kn_96)) (fun h_97 => (hv_ (p := Hid (c_10 P 0 = n0)) ((hF_12 P 0 (qn_f8aa6ac5f hP)).trans (hn0)) (fun kn_98 => (hv_ (p := Hid (c_83 P 0 = n0)) ((hF_85 P 0 (qn_70fec742f hP)).trans ((up_c (np0 hP rfl)).trans (hid kn_98))) (fun kn_99 => (hv_ (p := c_83 P 0 = n0) ((hid kn_99)) (fun h_100 => ?_)))))))))))))))
  refine hv_ (p := Hid (c_83 41 20 = n0)) ((hF_85 41 20 qn_d0753a96c).trans ((up_c (nn rfl)).trans (hid kn_75))) (fun kn_101 => (hv_ (p := c_83 41 20 = n0) ((hid kn_101)) (fun h_102 => (hv_ (p := Hid (c_10 P 1 = n1)) ((hF_12 P 1 (qn_f8aa6ac5f hP)).trans (hn1)) (fun kn_103 => (hv_ (p := Hid (c_83 P 1 = n1)) ((hF_85 P 1 (qn_70fec742f hP)).trans ((up_c (np0 hP rfl)).trans (hid kn_103))) (fun kn_104 => (hv_ (p := c_83 P 1 = n1) ((hid kn_104)) (fun h_105 => (hv_ (p := Hid (c_10 41 21 = n1)) ((hF_12 41 21 (qn_c1b212892 hP)).trans (hm1)) (fun kn_106 => (hv_ (p := Hid (c_83 41 21 = n1)) ((hF_85 41 21 qn_2dba34809).trans ((up_c (nn rfl)).trans (hid kn_106))) (fun kn_107 => (hv_ (p := c_83 41 21 = n1) ((hid kn_107)) (fun h_108 => ?_)))))))))))))))
  refine hv_ (p := Hid (c_10 P 2 = n2)) ((hF_12 P 2 (qn_f8aa6ac5f hP)).trans (hn2)) (fun kn_109 => (hv_ (p := Hid (c_83 P 2 = n2)) ((hF_85 P 2 (qn_70fec742f hP)).trans ((up_c (np0 hP rfl)).trans (hid kn_109))) (fun kn_110 => (hv_ (p := c_83 P 2 = n2) ((hid kn_110)) (fun h_111 => (hv_ (p := Hid (c_10 41 22 = n2)) ((hF_12 41 22 (qn_c1b212892 hP)).trans (hm2)) (fun kn_112 => (hv_ (p := Hid (c_83 41 22 = n2)) ((hF_85 41 22 qn_0d1137165).trans ((up_c (nn rfl)).trans (hid kn_112))) (fun kn_113 => (hv_ (p := c_83 41 22 = n2) ((hid kn_113)) (fun h_114 => (hv_ (p := Hid (c_10 P 3 = n3)) ((hF_12 P 3 (qn_f8aa6ac5f hP)).trans (hn3)) (fun kn_115 => (hv_ (p := Hid (c_83 P 3 = n3)) ((hF_85 P 3 (qn_70fec742f hP)).trans ((up_c (np0 hP rfl)).trans (hid kn_115))) (fun kn_116 => ?_)))))))))))))))
  refine hv_ (p := c_83 P 3 = n3) ((hid kn_116)) (fun h_117 => (hv_ (p := Hid (c_10 41 23 = n3)) ((hF_12 41 23 (qn_c1b212892 hP)).trans (hm3)) (fun kn_118 => (hv_ (p := Hid (c_83 41 23 = n3)) ((hF_85 41 23 qn_ca1c2b99e).trans ((up_c (nn rfl)).trans (hid kn_118))) (fun kn_119 => (hv_ (p := c_83 41 23 = n3) ((hid kn_119)) (fun h_120 => (hv_ (p := Hid (c_83 0 12 = c_10 0 12)) ((hF_85 0 12 qn_37cffd657).trans (up_c (nn rfl))) (fun kn_121 => (hv_ (p := c_83 0 12 = c_10 0 12) ((hid kn_121)) (fun h_122 => (hv_ (p := c_83 42 0 = c_83 42 0) (rfl) (fun h_123 => (hv_ (p := Hid (c_10 0 13 = c 0 13)) (hF_12 0 13 (qn_707a5f876 hP)) (fun kn_124 => ?_)))))))))))))))
  refine hv_ (p := Hid (c_83 0 13 = c 0 13)) ((hF_85 0 13 qn_37cffd657).trans ((up_c (nn rfl)).trans (hid kn_124))) (fun kn_125 => (hv_ (p := c_83 0 13 = c 0 13) ((hid kn_125)) (fun h_126 => (hv_ (p := c_83 42 1 = c_83 42 1) (rfl) (fun h_127 => ?_)))))
  exact K P Q c_83 0 (of_decide_eq_true rfl) hI_84 ⟨by omega, ub_fr hU (fun j => (hF_85 2 j qn_d0e66b3bf).trans ((up_c (nn rfl)).trans (hF_12 2 j (qn_c44a51550 hP)))) (fun j => (hF_85 43 j qn_5a77d9750).trans ((up_c (nn rfl)).trans (hF_12 43 j (qn_2e57cdabe hP)))), ⟨by omega, by omega, by omega, by omega⟩, ⟨by omega, by omega⟩⟩

set_option maxRecDepth 100000 in
set_option maxHeartbeats 4000000 in
theorem o_28 {xs : Nat → Int32} {L i0 d nc ns P Q : Nat} {c : ME} {Z : AR → Prop} (hi : i0 + 8 ≤ L) (hL : L ≤ 100000) (hI : Iv 0 (-1) P Q c) (hR : Rq P c) (K : ∀ (P2 Q2 : Nat) (c2 : ME) (e : Nat), e ≤ 1 → Iv 0 (-1) P2 Q2 c2 → (Rq P2 c2) → Wp (a_scr L xs) (d + 90) 296 1816 [(4, vi (i0 : Int)), (3, .ref 67), (2, .ref 41), (1, .ref 0), (0, .ref a_SC)] [] (Wd P2 Q2 P2 P2 c2) (nc + e) (ns + 6 * e) Z) : Wp (a_scr L xs) (d + 90) 296 1340 [(4, vi (i0 : Int)), (3, .ref 67), (2, .ref 41), (1, .ref 0), (0, .ref a_SC)] [] (Wd P Q P P c) nc ns Z := by
  obtain ⟨x1, hx1⟩ : ∃ z, (xs (i0 + 1)).toInt = z := ⟨_, rfl⟩
  refine hv_ (c_rng (xs (i0 + 1))) (fun x1r => ?_)
  rw [hx1] at x1r
  obtain ⟨x2, hx2⟩ : ∃ z, (xs (i0 + 2)).toInt = z := ⟨_, rfl⟩
  refine hv_ (c_rng (xs (i0 + 2))) (fun x2r => ?_)
  rw [hx2] at x2r
  obtain ⟨x3, hx3⟩ : ∃ z, (xs (i0 + 3)).toInt = z := ⟨_, rfl⟩
  refine hv_ (c_rng (xs (i0 + 3))) (fun x3r => ?_)
  rw [hx3] at x3r
  obtain ⟨x4, hx4⟩ : ∃ z, (xs (i0 + 4)).toInt = z := ⟨_, rfl⟩
  refine hv_ (c_rng (xs (i0 + 4))) (fun x4r => ?_)
  rw [hx4] at x4r
  obtain ⟨x5, hx5⟩ : ∃ z, (xs (i0 + 5)).toInt = z := ⟨_, rfl⟩
  refine hv_ (c_rng (xs (i0 + 5))) (fun x5r => ?_)
  rw [hx5] at x5r
  obtain ⟨x6, hx6⟩ : ∃ z, (xs (i0 + 6)).toInt = z := ⟨_, rfl⟩
  refine hv_ (c_rng (xs (i0 + 6))) (fun x6r => ?_)
  rw [hx6] at x6r
  obtain ⟨x7, hx7⟩ : ∃ z, (xs (i0 + 7)).toInt = z := ⟨_, rfl⟩
  refine hv_ (c_rng (xs (i0 + 7))) (fun x7r => ?_)
  rw [hx7] at x7r
  refine hv_ (iv_P hI) (fun hP => (hv_ (iv_Q hI) (fun hQ => (hv_ (rl_t hR) (fun hT => (hv_ (rl_u hR) (fun hU => ?_)))))))
  obtain ⟨n0, hn0⟩ : ∃ z, c P 0 = z := ⟨_, rfl⟩
  refine hv_ (p := c 41 20 = n0) ((rl_nums hR).1.symm.trans hn0) (fun hm0 => (hv_ (ir_p0_0 hI hP) (fun hr0 => ?_)))
  rw [hn0] at hr0
  obtain ⟨n1, hn1⟩ : ∃ z, c P 1 = z := ⟨_, rfl⟩
  refine hv_ (p := c 41 21 = n1) ((rl_nums hR).2.1.symm.trans hn1) (fun hm1 => (hv_ (ir_p0_1 hI hP) (fun hr1 => ?_)))
  rw [hn1] at hr1
  obtain ⟨n2, hn2⟩ : ∃ z, c P 2 = z := ⟨_, rfl⟩
  refine hv_ (p := c 41 22 = n2) ((rl_nums hR).2.2.1.symm.trans hn2) (fun hm2 => (hv_ (ir_p0_2 hI hP) (fun hr2 => ?_)))
  rw [hn2] at hr2
  obtain ⟨n3, hn3⟩ : ∃ z, c P 3 = z := ⟨_, rfl⟩
  refine hv_ (p := c 41 23 = n3) ((rl_nums hR).2.2.2.symm.trans hn3) (fun hm3 => (hv_ (ir_p0_3 hI hP) (fun hr3 => ?_)))
  rw [hn3] at hr3
  refine hv_ (rl_cnt2 hR) (fun hNcnt2 => (hv_ (rl_cnt2 hR) (fun hNcnt2 => (q_aload_n c_296_1340 rfl (v_cv c_296_1341 km_9_220 rfl rfl (Nat.le_of_ble_eq_true rfl) ⟨⟨rfl, rfl⟩, Nat.le_of_ble_eq_true rfl, rfl⟩ (Nat.le_of_ble_eq_true rfl) (Nat.le_of_ble_eq_true rfl) (s_101 hI (fun y_1 hy_1 => (bk_inl (q_pop c_296_1344 rfl (q_aload_n c_296_1345 rfl (v_cv c_296_1346 km_9_223 rfl rfl (Nat.le_of_ble_eq_true rfl) ⟨⟨rfl, rfl⟩, Nat.le_of_ble_eq_true rfl, rfl⟩ (Nat.le_of_ble_eq_true rfl) (Nat.le_of_ble_eq_true rfl) (s_243 hI (fun c_2 y_5 hI_3 hF_4 hy_5 => ?_)))))))))))))
  refine bk_inl (q_pop c_296_1349 rfl (q_goto (t := 1816) c_296_1350 rfl (Wp_ls [(4, vi (i0 : Int)), (3, .ref 67), (2, .ref 41), (1, .ref 0), (0, .ref a_SC)] (lsub_cons rfl (lsub_cons rfl (lsub_cons rfl (lsub_cons rfl (lsub_cons rfl lsub_nil))))) (hv_ (ir_1_3 hI) (fun h_6 => (hv_ (p := Hid (c_2 1 3 = c 1 3)) (hF_4 1 3 (fun q => q.elim (fun h => absurd h.1 (nn rfl)) (fun h => absurd h (nn rfl)))) (fun kn_7 => (hv_ (p := c_2 1 3 = c 1 3) ((hid kn_7)) (fun h_8 => (hv_ (ir_41_2 hI) (fun h_9 => ?_)))))))))))
  refine hv_ (p := Hid (c_2 41 2 = c 41 2)) (hF_4 41 2 (fun q => q.elim (fun h => absurd h.2 (ni rfl)) (fun h => absurd h (nn rfl)))) (fun kn_10 => (hv_ (p := c_2 41 2 = c 41 2) ((hid kn_10)) (fun h_11 => (hv_ (p := Hid (c_2 P 0 = n0)) ((hF_4 P 0 (qn_f78771b97 hP)).trans (hn0)) (fun kn_12 => (hv_ (p := c_2 P 0 = n0) ((hid kn_12)) (fun h_13 => (hv_ (p := Hid (c_2 41 20 = n0)) ((hF_4 41 20 (fun q => q.elim (fun h => absurd h.2 (ni rfl)) (fun h => absurd h (nn rfl)))).trans (hm0)) (fun kn_14 => (hv_ (p := c_2 41 20 = n0) ((hid kn_14)) (fun h_15 => (hv_ (p := Hid (c_2 P 1 = n1)) ((hF_4 P 1 (qn_f78771b97 hP)).trans (hn1)) (fun kn_16 => (hv_ (p := c_2 P 1 = n1) ((hid kn_16)) (fun h_17 => ?_)))))))))))))))
  refine hv_ (p := Hid (c_2 41 21 = n1)) ((hF_4 41 21 (fun q => q.elim (fun h => absurd h.2 (ni rfl)) (fun h => absurd h (nn rfl)))).trans (hm1)) (fun kn_18 => (hv_ (p := c_2 41 21 = n1) ((hid kn_18)) (fun h_19 => (hv_ (p := Hid (c_2 P 2 = n2)) ((hF_4 P 2 (qn_f78771b97 hP)).trans (hn2)) (fun kn_20 => (hv_ (p := c_2 P 2 = n2) ((hid kn_20)) (fun h_21 => (hv_ (p := Hid (c_2 41 22 = n2)) ((hF_4 41 22 (fun q => q.elim (fun h => absurd h.2 (ni rfl)) (fun h => absurd h (nn rfl)))).trans (hm2)) (fun kn_22 => (hv_ (p := c_2 41 22 = n2) ((hid kn_22)) (fun h_23 => (hv_ (p := Hid (c_2 P 3 = n3)) ((hF_4 P 3 (qn_f78771b97 hP)).trans (hn3)) (fun kn_24 => (hv_ (p := c_2 P 3 = n3) ((hid kn_24)) (fun h_25 => ?_)))))))))))))))
  refine hv_ (p := Hid (c_2 41 23 = n3)) ((hF_4 41 23 (fun q => q.elim (fun h => absurd h.2 (ni rfl)) (fun h => absurd h (nn rfl)))).trans (hm3)) (fun kn_26 => (hv_ (p := c_2 41 23 = n3) ((hid kn_26)) (fun h_27 => (hv_ (ir_0_12 hI) (fun h_28 => (hv_ (p := Hid (c_2 0 12 = c 0 12)) (hF_4 0 12 (fun q => q.elim (fun h => absurd h.1 (nn rfl)) (fun h => absurd h (nn rfl)))) (fun kn_29 => (hv_ (p := c_2 0 12 = c 0 12) ((hid kn_29)) (fun h_30 => (hv_ (ir_42 hI 0) (fun h_31 => (hv_ (p := Hid (c_2 42 0 = c 42 0)) (hF_4 42 0 (fun q => q.elim (fun h => absurd h.1 (nn rfl)) (fun h => absurd h (nn rfl)))) (fun kn_32 => (hv_ (p := c_2 42 0 = c 42 0) ((hid kn_32)) (fun h_33 => ?_)))))))))))))))
  refine hv_ (ir_0_13 hI) (fun h_34 => (hv_ (p := Hid (c_2 0 13 = c 0 13)) (hF_4 0 13 (fun q => q.elim (fun h => absurd h.1 (nn rfl)) (fun h => absurd h (nn rfl)))) (fun kn_35 => (hv_ (p := c_2 0 13 = c 0 13) ((hid kn_35)) (fun h_36 => (hv_ (ir_42 hI 1) (fun h_37 => (hv_ (p := Hid (c_2 42 1 = c 42 1)) (hF_4 42 1 (fun q => q.elim (fun h => absurd h.1 (nn rfl)) (fun h => absurd h (nn rfl)))) (fun kn_38 => (hv_ (p := c_2 42 1 = c 42 1) ((hid kn_38)) (fun h_39 => ?_)))))))))))
  exact K P Q c_2 0 (of_decide_eq_true rfl) hI_3 ⟨by omega, ub_fr hU (fun j => hF_4 2 j (fun q => q.elim (fun h => absurd h.1 (nn rfl)) (fun h => absurd h (nn rfl)))) (fun j => hF_4 43 j (fun q => q.elim (fun h => absurd h.1 (nn rfl)) (fun h => absurd h (nn rfl)))), ⟨by omega, by omega, by omega, by omega⟩, ⟨by omega, by omega⟩⟩

set_option maxRecDepth 100000 in
set_option maxHeartbeats 4000000 in
theorem o_29 {xs : Nat → Int32} {L i0 d nc ns P Q : Nat} {c : ME} {Z : AR → Prop} (hi : i0 + 8 ≤ L) (hL : L ≤ 100000) (hI : Iv 0 (-1) P Q c) (hR : Rq P c) (K : ∀ (P2 Q2 : Nat) (c2 : ME) (e : Nat), e ≤ 1 → Iv 0 (-1) P2 Q2 c2 → (Rq P2 c2) → Wp (a_scr L xs) (d + 90) 296 1816 [(4, vi (i0 : Int)), (3, .ref 67), (2, .ref 41), (1, .ref 0), (0, .ref a_SC)] [] (Wd P2 Q2 P2 P2 c2) (nc + e) (ns + 6 * e) Z) : Wp (a_scr L xs) (d + 90) 296 1353 [(4, vi (i0 : Int)), (3, .ref 67), (2, .ref 41), (1, .ref 0), (0, .ref a_SC)] [] (Wd P Q P P c) nc ns Z := by
  obtain ⟨x1, hx1⟩ : ∃ z, (xs (i0 + 1)).toInt = z := ⟨_, rfl⟩
  refine hv_ (c_rng (xs (i0 + 1))) (fun x1r => ?_)
  rw [hx1] at x1r
  obtain ⟨x2, hx2⟩ : ∃ z, (xs (i0 + 2)).toInt = z := ⟨_, rfl⟩
  refine hv_ (c_rng (xs (i0 + 2))) (fun x2r => ?_)
  rw [hx2] at x2r
  obtain ⟨x3, hx3⟩ : ∃ z, (xs (i0 + 3)).toInt = z := ⟨_, rfl⟩
  refine hv_ (c_rng (xs (i0 + 3))) (fun x3r => ?_)
  rw [hx3] at x3r
  obtain ⟨x4, hx4⟩ : ∃ z, (xs (i0 + 4)).toInt = z := ⟨_, rfl⟩
  refine hv_ (c_rng (xs (i0 + 4))) (fun x4r => ?_)
  rw [hx4] at x4r
  obtain ⟨x5, hx5⟩ : ∃ z, (xs (i0 + 5)).toInt = z := ⟨_, rfl⟩
  refine hv_ (c_rng (xs (i0 + 5))) (fun x5r => ?_)
  rw [hx5] at x5r
  obtain ⟨x6, hx6⟩ : ∃ z, (xs (i0 + 6)).toInt = z := ⟨_, rfl⟩
  refine hv_ (c_rng (xs (i0 + 6))) (fun x6r => ?_)
  rw [hx6] at x6r
  obtain ⟨x7, hx7⟩ : ∃ z, (xs (i0 + 7)).toInt = z := ⟨_, rfl⟩
  refine hv_ (c_rng (xs (i0 + 7))) (fun x7r => ?_)
  rw [hx7] at x7r
  refine hv_ (iv_P hI) (fun hP => (hv_ (iv_Q hI) (fun hQ => (hv_ (rl_t hR) (fun hT => (hv_ (rl_u hR) (fun hU => ?_)))))))
  obtain ⟨n0, hn0⟩ : ∃ z, c P 0 = z := ⟨_, rfl⟩
  refine hv_ (p := c 41 20 = n0) ((rl_nums hR).1.symm.trans hn0) (fun hm0 => (hv_ (ir_p0_0 hI hP) (fun hr0 => ?_)))
  rw [hn0] at hr0
  obtain ⟨n1, hn1⟩ : ∃ z, c P 1 = z := ⟨_, rfl⟩
  refine hv_ (p := c 41 21 = n1) ((rl_nums hR).2.1.symm.trans hn1) (fun hm1 => (hv_ (ir_p0_1 hI hP) (fun hr1 => ?_)))
  rw [hn1] at hr1
  obtain ⟨n2, hn2⟩ : ∃ z, c P 2 = z := ⟨_, rfl⟩
  refine hv_ (p := c 41 22 = n2) ((rl_nums hR).2.2.1.symm.trans hn2) (fun hm2 => (hv_ (ir_p0_2 hI hP) (fun hr2 => ?_)))
  rw [hn2] at hr2
  obtain ⟨n3, hn3⟩ : ∃ z, c P 3 = z := ⟨_, rfl⟩
  refine hv_ (p := c 41 23 = n3) ((rl_nums hR).2.2.2.symm.trans hn3) (fun hm3 => (hv_ (ir_p0_3 hI hP) (fun hr3 => ?_)))
  rw [hn3] at hr3
  refine hv_ (rl_cnt2 hR) (fun hNcnt2 => (hv_ (rl_cnt2 hR) (fun hNcnt2 => (q_aload_n c_296_1353 rfl (q_aload_n c_296_1354 rfl (q_iload c_296_1355 rfl (q_iconst c_296_1357 (v_iadd (v := (i0 : Int) + 1) c_296_1358 rfl (v_scr (j := i0 + 1) c_296_1359 (by omega) (by omega) hL hx1 ?_)))))))))
  refine q_aload_n c_296_1360 rfl (q_call c_296_1361 rfl rfl rfl (q_aload_n c_287_0 rfl (q_iconst c_287_1 (q_aload_n c_287_2 rfl (q_iload_n c_287_3 rfl (hv_ (p := c P 0 = n0) ((hn0)) (fun h_1 => (hv_ (ir_0_12 hI) (fun h_2 => ?_)))))))))
  refine hv_ (ir_0_13 hI) (fun h_3 => ?_)
  refine v_cv c_287_4 km_9_90 rfl rfl (Nat.le_of_ble_eq_true rfl) ⟨⟨rfl, rfl⟩, Nat.le_of_ble_eq_true rfl, rfl⟩ (Nat.le_of_ble_eq_true rfl) (Nat.le_of_ble_eq_true rfl) (s_109S (a1 := x1) hI (show (-2147483648) ≤ x1 ∧ x1 ≤ 2147483647 from ⟨by omega, by omega⟩) (fun c_4 hI_5 hF_6 h_7 h_8 h_9 => ?_) (fun c_10 y_13 hI_11 hF_12 hy_13 h_14 h_15 h_16 => ?_))
  · skip
    refine hv_ (ir_0_12 hI_5) (fun h_17 => (hv_ (ir_0_13 hI_5) (fun h_18 => (bk_thr (z := Int32.ofInt 1) rfl ⟨_, _, rfl⟩ rfl (bk_inl (q_istore c_296_1364 (Nat.le_of_ble_eq_true rfl) (q_aload_n c_296_1366 rfl (q_aload_n c_296_1367 rfl (q_iload c_296_1368 rfl ?_)))))))))
    refine q_iconst c_296_1370 (v_iadd (v := (i0 : Int) + 1) c_296_1371 rfl (v_scr (j := i0 + 1) c_296_1372 (by omega) (by omega) hL hx1 (hv_ (p := Hid (c_4 41 20 = n0)) ((hF_6 41 20 (qn_c1b212892 hP)).trans (hm0)) (fun kn_19 => (hv_ (p := c_4 41 20 = n0) ((hid kn_19)) (fun h_20 => (hv_ (ir_42 hI 0) (fun h_21 => (hv_ (p := Hid (c_4 42 0 = c 42 0)) (hF_6 42 0 (qn_8642dec24 hP)) (fun kn_22 => (hv_ (p := c_4 42 0 = c 42 0) ((hid kn_22)) (fun h_23 => ?_))))))))))))
    refine hv_ (ir_42 hI 1) (fun h_24 => (hv_ (p := Hid (c_4 42 1 = c 42 1)) (hF_6 42 1 (qn_8642dec24 hP)) (fun kn_25 => (hv_ (p := c_4 42 1 = c 42 1) ((hid kn_25)) (fun h_26 => (v_cv c_296_1373 km_9_226 rfl rfl (Nat.le_of_ble_eq_true rfl) ⟨⟨rfl, rfl⟩, Nat.le_of_ble_eq_true rfl, rfl⟩ (Nat.le_of_ble_eq_true rfl) (Nat.le_of_ble_eq_true rfl) (s_244S (a1 := x1) hI_5 (show (-2147483648) ≤ x1 ∧ x1 ≤ 2147483647 from ⟨by first | (clear hT hNcnt2 h_2 h_3 h_17 h_18; omega) | omega, by first | (clear hT hNcnt2 h_2 h_3 h_17 h_18; omega) | omega⟩) (fun c_27 y_30 hI_28 hF_29 hy_30 h_31 => (bk_inl (hv_ (ir_42 hI_28 0) (fun h_32 => (hv_ (ir_42 hI_28 1) (fun h_33 => (q_istore c_296_1376 (Nat.le_of_ble_eq_true rfl) ?_))))))))))))))
    refine q_goto (t := 1816) c_296_1378 rfl (Wp_ls [(4, vi (i0 : Int)), (3, .ref 67), (2, .ref 41), (1, .ref 0), (0, .ref a_SC)] (lsub_cons rfl (lsub_cons rfl (lsub_cons rfl (lsub_cons rfl (lsub_cons rfl lsub_nil))))) (hv_ (ir_1_3 hI) (fun h_34 => (hv_ (p := Hid (c_4 1 3 = c 1 3)) (hF_6 1 3 (qn_bcb6129a7 hP)) (fun kn_35 => (hv_ (p := Hid (c_27 1 3 = c 1 3)) ((hF_29 1 3 qn_44683f5fa).trans (hid kn_35)) (fun kn_36 => (hv_ (p := c_27 1 3 = c 1 3) ((hid kn_36)) (fun h_37 => (hv_ (ir_41_2 hI) (fun h_38 => (hv_ (p := Hid (c_4 41 2 = c 41 2)) (hF_6 41 2 (qn_c1b212892 hP)) (fun kn_39 => ?_)))))))))))))
    refine hv_ (p := Hid (c_27 41 2 = c 41 2)) ((hF_29 41 2 qn_7a112a690).trans (hid kn_39)) (fun kn_40 => (hv_ (p := c_27 41 2 = c 41 2) ((hid kn_40)) (fun h_41 => (hv_ (p := Hid (c_4 P 0 = n0)) ((hF_6 P 0 (qn_f8aa6ac5f hP)).trans (hn0)) (fun kn_42 => (hv_ (p := Hid (c_27 P 0 = n0)) ((hF_29 P 0 (qn_70fec742f hP)).trans (hid kn_42)) (fun kn_43 => (hv_ (p := c_27 P 0 = n0) ((hid kn_43)) (fun h_44 => (hv_ (p := Hid (c_27 41 20 = n0)) ((hF_29 41 20 qn_d0753a96c).trans (hid kn_19)) (fun kn_45 => (hv_ (p := c_27 41 20 = n0) ((hid kn_45)) (fun h_46 => (hv_ (p := Hid (c_4 P 1 = n1)) ((hF_6 P 1 (qn_f8aa6ac5f hP)).trans (hn1)) (fun kn_47 => ?_)))))))))))))))
    refine hv_ (p := Hid (c_27 P 1 = n1)) ((hF_29 P 1 (qn_70fec742f hP)).trans (hid kn_47)) (fun kn_48 => (hv_ (p := c_27 P 1 = n1) ((hid kn_48)) (fun h_49 => (hv_ (p := Hid (c_4 41 21 = n1)) ((hF_6 41 21 (qn_c1b212892 hP)).trans (hm1)) (fun kn_50 => (hv_ (p := Hid (c_27 41 21 = n1)) ((hF_29 41 21 qn_2dba34809).trans (hid kn_50)) (fun kn_51 => (hv_ (p := c_27 41 21 = n1) ((hid kn_51)) (fun h_52 => (hv_ (p := Hid (c_4 P 2 = n2)) ((hF_6 P 2 (qn_f8aa6ac5f hP)).trans (hn2)) (fun kn_53 => (hv_ (p := Hid (c_27 P 2 = n2)) ((hF_29 P 2 (qn_70fec742f hP)).trans (hid kn_53)) (fun kn_54 => (hv_ (p := c_27 P 2 = n2) ((hid kn_54)) (fun h_55 => ?_)))))))))))))))
    refine hv_ (p := Hid (c_4 41 22 = n2)) ((hF_6 41 22 (qn_c1b212892 hP)).trans (hm2)) (fun kn_56 => (hv_ (p := Hid (c_27 41 22 = n2)) ((hF_29 41 22 qn_0d1137165).trans (hid kn_56)) (fun kn_57 => (hv_ (p := c_27 41 22 = n2) ((hid kn_57)) (fun h_58 => (hv_ (p := Hid (c_4 P 3 = n3)) ((hF_6 P 3 (qn_f8aa6ac5f hP)).trans (hn3)) (fun kn_59 => (hv_ (p := Hid (c_27 P 3 = n3)) ((hF_29 P 3 (qn_70fec742f hP)).trans (hid kn_59)) (fun kn_60 => (hv_ (p := c_27 P 3 = n3) ((hid kn_60)) (fun h_61 => (hv_ (p := Hid (c_4 41 23 = n3)) ((hF_6 41 23 (qn_c1b212892 hP)).trans (hm3)) (fun kn_62 => (hv_ (p := Hid (c_27 41 23 = n3)) ((hF_29 41 23 qn_ca1c2b99e).trans (hid kn_62)) (fun kn_63 => ?_)))))))))))))))
    refine hv_ (p := c_27 41 23 = n3) ((hid kn_63)) (fun h_64 => (hv_ (p := Hid (c_27 0 12 = c_4 0 12)) (hF_29 0 12 qn_37cffd657) (fun kn_65 => (hv_ (p := c_27 0 12 = c_4 0 12) ((hid kn_65)) (fun h_66 => (hv_ (p := c_27 42 0 = c_27 42 0) (rfl) (fun h_67 => (hv_ (p := Hid (c_4 0 13 = c 0 13)) (hF_6 0 13 (qn_707a5f876 hP)) (fun kn_68 => (hv_ (p := Hid (c_27 0 13 = c 0 13)) ((hF_29 0 13 qn_37cffd657).trans (hid kn_68)) (fun kn_69 => (hv_ (p := c_27 0 13 = c 0 13) ((hid kn_69)) (fun h_70 => (hv_ (p := c_27 42 1 = c_27 42 1) (rfl) (fun h_71 => ?_)))))))))))))))
    exact K P Q c_27 1 (of_decide_eq_true rfl) hI_28 ⟨by omega, ub_fr hU (fun j => (hF_29 2 j qn_d0e66b3bf).trans (hF_6 2 j (qn_c44a51550 hP))) (fun j => (hF_29 43 j qn_5a77d9750).trans (hF_6 43 j (qn_2e57cdabe hP))), ⟨by omega, by omega, by omega, by omega⟩, ⟨by omega, by omega⟩⟩
  refine bk_inl (hv_ (ir_0_12 hI_11) (fun h_72 => (hv_ (ir_0_13 hI_11) (fun h_73 => (v_i2l c_287_7 (by omega) (v_ls c_287_8 rfl (of_decide_eq_true rfl) (of_decide_eq_true rfl) (of_decide_eq_true rfl) (q_goto (t := 15) c_287_9 rfl (q_iconst c_287_15 (q_iret c_287_16 rfl ?_)))))))))
  refine bk_inl (q_istore c_296_1364 (Nat.le_of_ble_eq_true rfl) (q_aload_n c_296_1366 rfl (q_aload_n c_296_1367 rfl (q_iload c_296_1368 rfl (q_iconst c_296_1370 (v_iadd (v := (i0 : Int) + 1) c_296_1371 rfl (v_scr (j := i0 + 1) c_296_1372 (by omega) (by omega) hL hx1 ?_)))))))
  refine hv_ (iw_lx (a := 67) (j := 0) (v := y_13) hI_11 (by omega)) (fun hI_74 => (hv_ (p := Hid (c_10 41 20 = n0)) ((hF_12 41 20 (qn_c1b212892 hP)).trans (hm0)) (fun kn_75 => (hv_ (p := (up c_10 67 0 y_13) 41 20 = n0) (((up_c (nn rfl)).trans (hid kn_75))) (fun h_76 => (hv_ (ir_42 hI 0) (fun h_77 => (hv_ (p := Hid (c_10 42 0 = c 42 0)) (hF_12 42 0 (qn_8642dec24 hP)) (fun kn_78 => (hv_ (p := (up c_10 67 0 y_13) 42 0 = c 42 0) (((up_c (nn rfl)).trans (hid kn_78))) (fun h_79 => (hv_ (ir_42 hI 1) (fun h_80 => (hv_ (p := Hid (c_10 42 1 = c 42 1)) (hF_12 42 1 (qn_8642dec24 hP)) (fun kn_81 => ?_)))))))))))))))
  refine hv_ (p := (up c_10 67 0 y_13) 42 1 = c 42 1) (((up_c (nn rfl)).trans (hid kn_81))) (fun h_82 => (v_cv c_296_1373 km_9_226 rfl rfl (Nat.le_of_ble_eq_true rfl) ⟨⟨rfl, rfl⟩, Nat.le_of_ble_eq_true rfl, rfl⟩ (Nat.le_of_ble_eq_true rfl) (Nat.le_of_ble_eq_true rfl) (s_244S (a1 := x1) hI_74 (show (-2147483648) ≤ x1 ∧ x1 ≤ 2147483647 from ⟨by first | exact q_7f52907d5 h_14 h_1 | omega, by omega⟩) (fun c_83 y_86 hI_84 hF_85 hy_86 h_87 => (bk_inl (hv_ (ir_42 hI_84 0) (fun h_88 => (hv_ (ir_42 hI_84 1) (fun h_89 => (q_istore c_296_1376 (Nat.le_of_ble_eq_true rfl) (q_goto (t := 1816) c_296_1378 rfl (Wp_ls [(4, vi (i0 : Int)), (3, .ref 67), (2, .ref 41), (1, .ref 0), (0, .ref a_SC)] (lsub_cons rfl (lsub_cons rfl (lsub_cons rfl (lsub_cons rfl (lsub_cons rfl lsub_nil))))) ?_))))))))))))
  refine hv_ (ir_1_3 hI) (fun h_90 => (hv_ (p := Hid (c_10 1 3 = c 1 3)) (hF_12 1 3 (qn_bcb6129a7 hP)) (fun kn_91 => (hv_ (p := Hid (c_83 1 3 = c 1 3)) ((hF_85 1 3 qn_44683f5fa).trans ((up_c (nn rfl)).trans (hid kn_91))) (fun kn_92 => (hv_ (p := c_83 1 3 = c 1 3) ((hid kn_92)) (fun h_93 => (hv_ (ir_41_2 hI) (fun h_94 => (hv_ (p := Hid (c_10 41 2 = c 41 2)) (hF_12 41 2 (qn_c1b212892 hP)) (fun kn_95 => (hv_ (p := Hid (c_83 41 2 = c 41 2)) ((hF_85 41 2 qn_7a112a690).trans ((up_c (nn rfl)).trans (hid kn_95))) (fun kn_96 => (hv_ (p := c_83 41 2 = c 41 2) ((hid kn_96)) (fun h_97 => ?_)))))))))))))))
  refine hv_ (p := Hid (c_10 P 0 = n0)) ((hF_12 P 0 (qn_f8aa6ac5f hP)).trans (hn0)) (fun kn_98 => (hv_ (p := Hid (c_83 P 0 = n0)) ((hF_85 P 0 (qn_70fec742f hP)).trans ((up_c (np0 hP rfl)).trans (hid kn_98))) (fun kn_99 => (hv_ (p := c_83 P 0 = n0) ((hid kn_99)) (fun h_100 => (hv_ (p := Hid (c_83 41 20 = n0)) ((hF_85 41 20 qn_d0753a96c).trans ((up_c (nn rfl)).trans (hid kn_75))) (fun kn_101 => (hv_ (p := c_83 41 20 = n0) ((hid kn_101)) (fun h_102 => (hv_ (p := Hid (c_10 P 1 = n1)) ((hF_12 P 1 (qn_f8aa6ac5f hP)).trans (hn1)) (fun kn_103 => (hv_ (p := Hid (c_83 P 1 = n1)) ((hF_85 P 1 (qn_70fec742f hP)).trans ((up_c (np0 hP rfl)).trans (hid kn_103))) (fun kn_104 => (hv_ (p := c_83 P 1 = n1) ((hid kn_104)) (fun h_105 => ?_)))))))))))))))
  refine hv_ (p := Hid (c_10 41 21 = n1)) ((hF_12 41 21 (qn_c1b212892 hP)).trans (hm1)) (fun kn_106 => (hv_ (p := Hid (c_83 41 21 = n1)) ((hF_85 41 21 qn_2dba34809).trans ((up_c (nn rfl)).trans (hid kn_106))) (fun kn_107 => (hv_ (p := c_83 41 21 = n1) ((hid kn_107)) (fun h_108 => (hv_ (p := Hid (c_10 P 2 = n2)) ((hF_12 P 2 (qn_f8aa6ac5f hP)).trans (hn2)) (fun kn_109 => (hv_ (p := Hid (c_83 P 2 = n2)) ((hF_85 P 2 (qn_70fec742f hP)).trans ((up_c (np0 hP rfl)).trans (hid kn_109))) (fun kn_110 => (hv_ (p := c_83 P 2 = n2) ((hid kn_110)) (fun h_111 => (hv_ (p := Hid (c_10 41 22 = n2)) ((hF_12 41 22 (qn_c1b212892 hP)).trans (hm2)) (fun kn_112 => (hv_ (p := Hid (c_83 41 22 = n2)) ((hF_85 41 22 qn_0d1137165).trans ((up_c (nn rfl)).trans (hid kn_112))) (fun kn_113 => ?_)))))))))))))))
  refine hv_ (p := c_83 41 22 = n2) ((hid kn_113)) (fun h_114 => (hv_ (p := Hid (c_10 P 3 = n3)) ((hF_12 P 3 (qn_f8aa6ac5f hP)).trans (hn3)) (fun kn_115 => (hv_ (p := Hid (c_83 P 3 = n3)) ((hF_85 P 3 (qn_70fec742f hP)).trans ((up_c (np0 hP rfl)).trans (hid kn_115))) (fun kn_116 => (hv_ (p := c_83 P 3 = n3) ((hid kn_116)) (fun h_117 => (hv_ (p := Hid (c_10 41 23 = n3)) ((hF_12 41 23 (qn_c1b212892 hP)).trans (hm3)) (fun kn_118 => (hv_ (p := Hid (c_83 41 23 = n3)) ((hF_85 41 23 qn_ca1c2b99e).trans ((up_c (nn rfl)).trans (hid kn_118))) (fun kn_119 => (hv_ (p := c_83 41 23 = n3) ((hid kn_119)) (fun h_120 => (hv_ (p := Hid (c_83 0 12 = c_10 0 12)) ((hF_85 0 12 qn_37cffd657).trans (up_c (nn rfl))) (fun kn_121 => ?_)))))))))))))))
  refine hv_ (p := c_83 0 12 = c_10 0 12) ((hid kn_121)) (fun h_122 => (hv_ (p := c_83 42 0 = c_83 42 0) (rfl) (fun h_123 => (hv_ (p := Hid (c_10 0 13 = c 0 13)) (hF_12 0 13 (qn_707a5f876 hP)) (fun kn_124 => (hv_ (p := Hid (c_83 0 13 = c 0 13)) ((hF_85 0 13 qn_37cffd657).trans ((up_c (nn rfl)).trans (hid kn_124))) (fun kn_125 => (hv_ (p := c_83 0 13 = c 0 13) ((hid kn_125)) (fun h_126 => (hv_ (p := c_83 42 1 = c_83 42 1) (rfl) (fun h_127 => ?_)))))))))))
  exact K P Q c_83 0 (of_decide_eq_true rfl) hI_84 ⟨by omega, ub_fr hU (fun j => (hF_85 2 j qn_d0e66b3bf).trans ((up_c (nn rfl)).trans (hF_12 2 j (qn_c44a51550 hP)))) (fun j => (hF_85 43 j qn_5a77d9750).trans ((up_c (nn rfl)).trans (hF_12 43 j (qn_2e57cdabe hP)))), ⟨by omega, by omega, by omega, by omega⟩, ⟨by omega, by omega⟩⟩

set_option maxRecDepth 100000 in
set_option maxHeartbeats 4000000 in
theorem o_30 {xs : Nat → Int32} {L i0 d nc ns P Q : Nat} {c : ME} {Z : AR → Prop} (hi : i0 + 8 ≤ L) (hL : L ≤ 100000) (hI : Iv 0 (-1) P Q c) (hR : Rq P c) (K : ∀ (P2 Q2 : Nat) (c2 : ME) (e : Nat), e ≤ 1 → Iv 0 (-1) P2 Q2 c2 → (Rq P2 c2) → Wp (a_scr L xs) (d + 90) 296 1816 [(4, vi (i0 : Int)), (3, .ref 67), (2, .ref 41), (1, .ref 0), (0, .ref a_SC)] [] (Wd P2 Q2 P2 P2 c2) (nc + e) (ns + 6 * e) Z) : Wp (a_scr L xs) (d + 90) 296 1381 [(4, vi (i0 : Int)), (3, .ref 67), (2, .ref 41), (1, .ref 0), (0, .ref a_SC)] [] (Wd P Q P P c) nc ns Z := by
  obtain ⟨x1, hx1⟩ : ∃ z, (xs (i0 + 1)).toInt = z := ⟨_, rfl⟩
  refine hv_ (c_rng (xs (i0 + 1))) (fun x1r => ?_)
  rw [hx1] at x1r
  obtain ⟨x2, hx2⟩ : ∃ z, (xs (i0 + 2)).toInt = z := ⟨_, rfl⟩
  refine hv_ (c_rng (xs (i0 + 2))) (fun x2r => ?_)
  rw [hx2] at x2r
  obtain ⟨x3, hx3⟩ : ∃ z, (xs (i0 + 3)).toInt = z := ⟨_, rfl⟩
  refine hv_ (c_rng (xs (i0 + 3))) (fun x3r => ?_)
  rw [hx3] at x3r
  obtain ⟨x4, hx4⟩ : ∃ z, (xs (i0 + 4)).toInt = z := ⟨_, rfl⟩
  refine hv_ (c_rng (xs (i0 + 4))) (fun x4r => ?_)
  rw [hx4] at x4r
  obtain ⟨x5, hx5⟩ : ∃ z, (xs (i0 + 5)).toInt = z := ⟨_, rfl⟩
  refine hv_ (c_rng (xs (i0 + 5))) (fun x5r => ?_)
  rw [hx5] at x5r
  obtain ⟨x6, hx6⟩ : ∃ z, (xs (i0 + 6)).toInt = z := ⟨_, rfl⟩
  refine hv_ (c_rng (xs (i0 + 6))) (fun x6r => ?_)
  rw [hx6] at x6r
  obtain ⟨x7, hx7⟩ : ∃ z, (xs (i0 + 7)).toInt = z := ⟨_, rfl⟩
  refine hv_ (c_rng (xs (i0 + 7))) (fun x7r => ?_)
  rw [hx7] at x7r
  refine hv_ (iv_P hI) (fun hP => (hv_ (iv_Q hI) (fun hQ => (hv_ (rl_t hR) (fun hT => (hv_ (rl_u hR) (fun hU => ?_)))))))
  obtain ⟨n0, hn0⟩ : ∃ z, c P 0 = z := ⟨_, rfl⟩
  refine hv_ (p := c 41 20 = n0) ((rl_nums hR).1.symm.trans hn0) (fun hm0 => (hv_ (ir_p0_0 hI hP) (fun hr0 => ?_)))
  rw [hn0] at hr0
  obtain ⟨n1, hn1⟩ : ∃ z, c P 1 = z := ⟨_, rfl⟩
  refine hv_ (p := c 41 21 = n1) ((rl_nums hR).2.1.symm.trans hn1) (fun hm1 => (hv_ (ir_p0_1 hI hP) (fun hr1 => ?_)))
  rw [hn1] at hr1
  obtain ⟨n2, hn2⟩ : ∃ z, c P 2 = z := ⟨_, rfl⟩
  refine hv_ (p := c 41 22 = n2) ((rl_nums hR).2.2.1.symm.trans hn2) (fun hm2 => (hv_ (ir_p0_2 hI hP) (fun hr2 => ?_)))
  rw [hn2] at hr2
  obtain ⟨n3, hn3⟩ : ∃ z, c P 3 = z := ⟨_, rfl⟩
  refine hv_ (p := c 41 23 = n3) ((rl_nums hR).2.2.2.symm.trans hn3) (fun hm3 => (hv_ (ir_p0_3 hI hP) (fun hr3 => ?_)))
  rw [hn3] at hr3
  refine hv_ (rl_cnt2 hR) (fun hNcnt2 => (hv_ (rl_cnt2 hR) (fun hNcnt2 => (q_aload_n c_296_1381 rfl (q_aload_n c_296_1382 rfl (q_iload c_296_1383 rfl (q_iconst c_296_1385 (v_iadd (v := (i0 : Int) + 1) c_296_1386 rfl (v_scr (j := i0 + 1) c_296_1387 (by omega) (by omega) hL hx1 ?_)))))))))
  refine q_aload_n c_296_1388 rfl (q_call c_296_1389 rfl rfl rfl (q_aload_n c_288_0 rfl (q_iconst c_288_1 (q_aload_n c_288_2 rfl (q_iload_n c_288_3 rfl (hv_ (p := c P 0 = n0) ((hn0)) (fun h_1 => (hv_ (ir_0_12 hI) (fun h_2 => ?_)))))))))
  refine hv_ (ir_0_13 hI) (fun h_3 => ?_)
  refine v_cv c_288_4 km_9_93 rfl rfl (Nat.le_of_ble_eq_true rfl) ⟨⟨rfl, rfl⟩, Nat.le_of_ble_eq_true rfl, rfl⟩ (Nat.le_of_ble_eq_true rfl) (Nat.le_of_ble_eq_true rfl) (s_98S (a1 := x1) hI (show (-2147483648) ≤ x1 ∧ x1 ≤ 2147483647 from ⟨by omega, by omega⟩) (fun c_4 hI_5 hF_6 h_7 h_8 h_9 => ?_) (fun c_10 y_13 hI_11 hF_12 hy_13 h_14 h_15 h_16 => ?_))
  · skip
    refine hv_ (ir_0_12 hI_5) (fun h_17 => (hv_ (ir_0_13 hI_5) (fun h_18 => (bk_thr (z := Int32.ofInt 1) rfl ⟨_, _, rfl⟩ rfl (bk_inl (q_istore c_296_1392 (Nat.le_of_ble_eq_true rfl) (q_aload_n c_296_1394 rfl (q_aload_n c_296_1395 rfl (q_iload c_296_1396 rfl ?_)))))))))
    refine q_iconst c_296_1398 (v_iadd (v := (i0 : Int) + 1) c_296_1399 rfl (v_scr (j := i0 + 1) c_296_1400 (by omega) (by omega) hL hx1 (hv_ (p := Hid (c_4 41 20 = n0)) ((hF_6 41 20 (fun h => absurd h.1 (nn rfl))).trans (hm0)) (fun kn_19 => (hv_ (p := c_4 41 20 = n0) ((hid kn_19)) (fun h_20 => (hv_ (ir_42 hI 0) (fun h_21 => (hv_ (p := Hid (c_4 42 0 = c 42 0)) (hF_6 42 0 (fun h => absurd h.1 (nn rfl))) (fun kn_22 => (hv_ (p := c_4 42 0 = c 42 0) ((hid kn_22)) (fun h_23 => ?_))))))))))))
    refine hv_ (ir_42 hI 1) (fun h_24 => (hv_ (p := Hid (c_4 42 1 = c 42 1)) (hF_6 42 1 (fun h => absurd h.1 (nn rfl))) (fun kn_25 => (hv_ (p := c_4 42 1 = c 42 1) ((hid kn_25)) (fun h_26 => (v_cv c_296_1401 km_9_229 rfl rfl (Nat.le_of_ble_eq_true rfl) ⟨⟨rfl, rfl⟩, Nat.le_of_ble_eq_true rfl, rfl⟩ (Nat.le_of_ble_eq_true rfl) (Nat.le_of_ble_eq_true rfl) (s_245S (a1 := x1) hI_5 (show (-2147483648) ≤ x1 ∧ x1 ≤ 2147483647 from ⟨by first | (clear hT hNcnt2 h_2 h_3 h_17 h_18; omega) | omega, by first | (clear hT hNcnt2 h_2 h_3 h_17 h_18; omega) | omega⟩) (fun c_27 y_30 hI_28 hF_29 hy_30 h_31 => (bk_inl (hv_ (ir_42 hI_28 0) (fun h_32 => (hv_ (ir_42 hI_28 1) (fun h_33 => (q_istore c_296_1404 (Nat.le_of_ble_eq_true rfl) ?_))))))))))))))
    refine q_goto (t := 1816) c_296_1406 rfl (Wp_ls [(4, vi (i0 : Int)), (3, .ref 67), (2, .ref 41), (1, .ref 0), (0, .ref a_SC)] (lsub_cons rfl (lsub_cons rfl (lsub_cons rfl (lsub_cons rfl (lsub_cons rfl lsub_nil))))) (hv_ (ir_1_3 hI) (fun h_34 => (hv_ (p := Hid (c_4 1 3 = c 1 3)) (hF_6 1 3 (fun h => absurd h.1 (nn rfl))) (fun kn_35 => (hv_ (p := Hid (c_27 1 3 = c 1 3)) ((hF_29 1 3 qn_39cd18c3e).trans (hid kn_35)) (fun kn_36 => (hv_ (p := c_27 1 3 = c 1 3) ((hid kn_36)) (fun h_37 => (hv_ (ir_41_2 hI) (fun h_38 => (hv_ (p := Hid (c_4 41 2 = c 41 2)) (hF_6 41 2 (fun h => absurd h.1 (nn rfl))) (fun kn_39 => ?_)))))))))))))
    refine hv_ (p := Hid (c_27 41 2 = c 41 2)) ((hF_29 41 2 qn_53bdb2099).trans (hid kn_39)) (fun kn_40 => (hv_ (p := c_27 41 2 = c 41 2) ((hid kn_40)) (fun h_41 => (hv_ (p := Hid (c_4 P 0 = n0)) ((hF_6 P 0 (fun h => absurd h.1 (np0 hP rfl))).trans (hn0)) (fun kn_42 => (hv_ (p := Hid (c_27 P 0 = n0)) ((hF_29 P 0 (qn_857752076 hP)).trans (hid kn_42)) (fun kn_43 => (hv_ (p := c_27 P 0 = n0) ((hid kn_43)) (fun h_44 => (hv_ (p := Hid (c_27 41 20 = n0)) ((hF_29 41 20 qn_110b29ed6).trans (hid kn_19)) (fun kn_45 => (hv_ (p := c_27 41 20 = n0) ((hid kn_45)) (fun h_46 => (hv_ (p := Hid (c_4 P 1 = n1)) ((hF_6 P 1 (fun h => absurd h.1 (np0 hP rfl))).trans (hn1)) (fun kn_47 => ?_)))))))))))))))
    refine hv_ (p := Hid (c_27 P 1 = n1)) ((hF_29 P 1 (qn_857752076 hP)).trans (hid kn_47)) (fun kn_48 => (hv_ (p := c_27 P 1 = n1) ((hid kn_48)) (fun h_49 => (hv_ (p := Hid (c_4 41 21 = n1)) ((hF_6 41 21 (fun h => absurd h.1 (nn rfl))).trans (hm1)) (fun kn_50 => (hv_ (p := Hid (c_27 41 21 = n1)) ((hF_29 41 21 qn_561064c41).trans (hid kn_50)) (fun kn_51 => (hv_ (p := c_27 41 21 = n1) ((hid kn_51)) (fun h_52 => (hv_ (p := Hid (c_4 P 2 = n2)) ((hF_6 P 2 (fun h => absurd h.1 (np0 hP rfl))).trans (hn2)) (fun kn_53 => (hv_ (p := Hid (c_27 P 2 = n2)) ((hF_29 P 2 (qn_857752076 hP)).trans (hid kn_53)) (fun kn_54 => (hv_ (p := c_27 P 2 = n2) ((hid kn_54)) (fun h_55 => ?_)))))))))))))))
    refine hv_ (p := Hid (c_4 41 22 = n2)) ((hF_6 41 22 (fun h => absurd h.1 (nn rfl))).trans (hm2)) (fun kn_56 => (hv_ (p := Hid (c_27 41 22 = n2)) ((hF_29 41 22 qn_1a460b46b).trans (hid kn_56)) (fun kn_57 => (hv_ (p := c_27 41 22 = n2) ((hid kn_57)) (fun h_58 => (hv_ (p := Hid (c_4 P 3 = n3)) ((hF_6 P 3 (fun h => absurd h.1 (np0 hP rfl))).trans (hn3)) (fun kn_59 => (hv_ (p := Hid (c_27 P 3 = n3)) ((hF_29 P 3 (qn_857752076 hP)).trans (hid kn_59)) (fun kn_60 => (hv_ (p := c_27 P 3 = n3) ((hid kn_60)) (fun h_61 => (hv_ (p := Hid (c_4 41 23 = n3)) ((hF_6 41 23 (fun h => absurd h.1 (nn rfl))).trans (hm3)) (fun kn_62 => (hv_ (p := Hid (c_27 41 23 = n3)) ((hF_29 41 23 qn_b79f282cd).trans (hid kn_62)) (fun kn_63 => ?_)))))))))))))))
    refine hv_ (p := c_27 41 23 = n3) ((hid kn_63)) (fun h_64 => (hv_ (p := Hid (c_27 0 12 = c_4 0 12)) (hF_29 0 12 qn_666ded271) (fun kn_65 => (hv_ (p := c_27 0 12 = c_4 0 12) ((hid kn_65)) (fun h_66 => (hv_ (p := c_27 42 0 = c_27 42 0) (rfl) (fun h_67 => (hv_ (p := Hid (c_4 0 13 = c 0 13)) (hF_6 0 13 (fun h => absurd h.2 (ni rfl))) (fun kn_68 => (hv_ (p := Hid (c_27 0 13 = c 0 13)) ((hF_29 0 13 qn_666ded271).trans (hid kn_68)) (fun kn_69 => (hv_ (p := c_27 0 13 = c 0 13) ((hid kn_69)) (fun h_70 => (hv_ (p := c_27 42 1 = c_27 42 1) (rfl) (fun h_71 => ?_)))))))))))))))
    exact K P Q c_27 1 (of_decide_eq_true rfl) hI_28 ⟨by omega, ub_fr hU (fun j => (hF_29 2 j qn_2ad67e194).trans (hF_6 2 j (fun h => absurd h.1 (nn rfl)))) (fun j => (hF_29 43 j qn_1520ff5e3).trans (hF_6 43 j (fun h => absurd h.1 (nn rfl)))), ⟨by omega, by omega, by omega, by omega⟩, ⟨by omega, by omega⟩⟩
  refine bk_inl (hv_ (ir_0_12 hI_11) (fun h_72 => (hv_ (ir_0_13 hI_11) (fun h_73 => (v_i2l c_288_7 (by omega) (v_ls c_288_8 rfl (of_decide_eq_true rfl) (of_decide_eq_true rfl) (of_decide_eq_true rfl) (q_goto (t := 15) c_288_9 rfl (q_iconst c_288_15 (q_iret c_288_16 rfl ?_)))))))))
  refine bk_inl (q_istore c_296_1392 (Nat.le_of_ble_eq_true rfl) (q_aload_n c_296_1394 rfl (q_aload_n c_296_1395 rfl (q_iload c_296_1396 rfl (q_iconst c_296_1398 (v_iadd (v := (i0 : Int) + 1) c_296_1399 rfl (v_scr (j := i0 + 1) c_296_1400 (by omega) (by omega) hL hx1 ?_)))))))
  refine hv_ (iw_lx (a := 67) (j := 0) (v := y_13) hI_11 (by omega)) (fun hI_74 => (hv_ (p := Hid (c_10 41 20 = n0)) ((hF_12 41 20 (fun h => absurd h.1 (nn rfl))).trans (hm0)) (fun kn_75 => (hv_ (p := (up c_10 67 0 y_13) 41 20 = n0) (((up_c (nn rfl)).trans (hid kn_75))) (fun h_76 => (hv_ (ir_42 hI 0) (fun h_77 => (hv_ (p := Hid (c_10 42 0 = c 42 0)) (hF_12 42 0 (fun h => absurd h.1 (nn rfl))) (fun kn_78 => (hv_ (p := (up c_10 67 0 y_13) 42 0 = c 42 0) (((up_c (nn rfl)).trans (hid kn_78))) (fun h_79 => (hv_ (ir_42 hI 1) (fun h_80 => (hv_ (p := Hid (c_10 42 1 = c 42 1)) (hF_12 42 1 (fun h => absurd h.1 (nn rfl))) (fun kn_81 => ?_)))))))))))))))
  refine hv_ (p := (up c_10 67 0 y_13) 42 1 = c 42 1) (((up_c (nn rfl)).trans (hid kn_81))) (fun h_82 => (v_cv c_296_1401 km_9_229 rfl rfl (Nat.le_of_ble_eq_true rfl) ⟨⟨rfl, rfl⟩, Nat.le_of_ble_eq_true rfl, rfl⟩ (Nat.le_of_ble_eq_true rfl) (Nat.le_of_ble_eq_true rfl) (s_245S (a1 := x1) hI_74 (show (-2147483648) ≤ x1 ∧ x1 ≤ 2147483647 from ⟨by first | exact q_7f52907d5 h_14 h_1 | omega, by omega⟩) (fun c_83 y_86 hI_84 hF_85 hy_86 h_87 => (bk_inl (hv_ (ir_42 hI_84 0) (fun h_88 => (hv_ (ir_42 hI_84 1) (fun h_89 => (q_istore c_296_1404 (Nat.le_of_ble_eq_true rfl) (q_goto (t := 1816) c_296_1406 rfl (Wp_ls [(4, vi (i0 : Int)), (3, .ref 67), (2, .ref 41), (1, .ref 0), (0, .ref a_SC)] (lsub_cons rfl (lsub_cons rfl (lsub_cons rfl (lsub_cons rfl (lsub_cons rfl lsub_nil))))) ?_))))))))))))
  refine hv_ (ir_1_3 hI) (fun h_90 => (hv_ (p := Hid (c_10 1 3 = c 1 3)) (hF_12 1 3 (fun h => absurd h.1 (nn rfl))) (fun kn_91 => (hv_ (p := Hid (c_83 1 3 = c 1 3)) ((hF_85 1 3 qn_39cd18c3e).trans ((up_c (nn rfl)).trans (hid kn_91))) (fun kn_92 => (hv_ (p := c_83 1 3 = c 1 3) ((hid kn_92)) (fun h_93 => (hv_ (ir_41_2 hI) (fun h_94 => (hv_ (p := Hid (c_10 41 2 = c 41 2)) (hF_12 41 2 (fun h => absurd h.1 (nn rfl))) (fun kn_95 => (hv_ (p := Hid (c_83 41 2 = c 41 2)) ((hF_85 41 2 qn_53bdb2099).trans ((up_c (nn rfl)).trans (hid kn_95))) (fun kn_96 => (hv_ (p := c_83 41 2 = c 41 2) ((hid kn_96)) (fun h_97 => ?_)))))))))))))))
  refine hv_ (p := Hid (c_10 P 0 = n0)) ((hF_12 P 0 (fun h => absurd h.1 (np0 hP rfl))).trans (hn0)) (fun kn_98 => (hv_ (p := Hid (c_83 P 0 = n0)) ((hF_85 P 0 (qn_857752076 hP)).trans ((up_c (np0 hP rfl)).trans (hid kn_98))) (fun kn_99 => (hv_ (p := c_83 P 0 = n0) ((hid kn_99)) (fun h_100 => (hv_ (p := Hid (c_83 41 20 = n0)) ((hF_85 41 20 qn_110b29ed6).trans ((up_c (nn rfl)).trans (hid kn_75))) (fun kn_101 => (hv_ (p := c_83 41 20 = n0) ((hid kn_101)) (fun h_102 => (hv_ (p := Hid (c_10 P 1 = n1)) ((hF_12 P 1 (fun h => absurd h.1 (np0 hP rfl))).trans (hn1)) (fun kn_103 => (hv_ (p := Hid (c_83 P 1 = n1)) ((hF_85 P 1 (qn_857752076 hP)).trans ((up_c (np0 hP rfl)).trans (hid kn_103))) (fun kn_104 => (hv_ (p := c_83 P 1 = n1) ((hid kn_104)) (fun h_105 => ?_)))))))))))))))
  refine hv_ (p := Hid (c_10 41 21 = n1)) ((hF_12 41 21 (fun h => absurd h.1 (nn rfl))).trans (hm1)) (fun kn_106 => (hv_ (p := Hid (c_83 41 21 = n1)) ((hF_85 41 21 qn_561064c41).trans ((up_c (nn rfl)).trans (hid kn_106))) (fun kn_107 => (hv_ (p := c_83 41 21 = n1) ((hid kn_107)) (fun h_108 => (hv_ (p := Hid (c_10 P 2 = n2)) ((hF_12 P 2 (fun h => absurd h.1 (np0 hP rfl))).trans (hn2)) (fun kn_109 => (hv_ (p := Hid (c_83 P 2 = n2)) ((hF_85 P 2 (qn_857752076 hP)).trans ((up_c (np0 hP rfl)).trans (hid kn_109))) (fun kn_110 => (hv_ (p := c_83 P 2 = n2) ((hid kn_110)) (fun h_111 => (hv_ (p := Hid (c_10 41 22 = n2)) ((hF_12 41 22 (fun h => absurd h.1 (nn rfl))).trans (hm2)) (fun kn_112 => (hv_ (p := Hid (c_83 41 22 = n2)) ((hF_85 41 22 qn_1a460b46b).trans ((up_c (nn rfl)).trans (hid kn_112))) (fun kn_113 => ?_)))))))))))))))
  refine hv_ (p := c_83 41 22 = n2) ((hid kn_113)) (fun h_114 => (hv_ (p := Hid (c_10 P 3 = n3)) ((hF_12 P 3 (fun h => absurd h.1 (np0 hP rfl))).trans (hn3)) (fun kn_115 => (hv_ (p := Hid (c_83 P 3 = n3)) ((hF_85 P 3 (qn_857752076 hP)).trans ((up_c (np0 hP rfl)).trans (hid kn_115))) (fun kn_116 => (hv_ (p := c_83 P 3 = n3) ((hid kn_116)) (fun h_117 => (hv_ (p := Hid (c_10 41 23 = n3)) ((hF_12 41 23 (fun h => absurd h.1 (nn rfl))).trans (hm3)) (fun kn_118 => (hv_ (p := Hid (c_83 41 23 = n3)) ((hF_85 41 23 qn_b79f282cd).trans ((up_c (nn rfl)).trans (hid kn_118))) (fun kn_119 => (hv_ (p := c_83 41 23 = n3) ((hid kn_119)) (fun h_120 => (hv_ (p := Hid (c_83 0 12 = c_10 0 12)) ((hF_85 0 12 qn_666ded271).trans (up_c (nn rfl))) (fun kn_121 => ?_)))))))))))))))
  refine hv_ (p := c_83 0 12 = c_10 0 12) ((hid kn_121)) (fun h_122 => (hv_ (p := c_83 42 0 = c_83 42 0) (rfl) (fun h_123 => (hv_ (p := Hid (c_10 0 13 = c 0 13)) (hF_12 0 13 (fun h => absurd h.2 (ni rfl))) (fun kn_124 => (hv_ (p := Hid (c_83 0 13 = c 0 13)) ((hF_85 0 13 qn_666ded271).trans ((up_c (nn rfl)).trans (hid kn_124))) (fun kn_125 => (hv_ (p := c_83 0 13 = c 0 13) ((hid kn_125)) (fun h_126 => (hv_ (p := c_83 42 1 = c_83 42 1) (rfl) (fun h_127 => ?_)))))))))))
  exact K P Q c_83 0 (of_decide_eq_true rfl) hI_84 ⟨by omega, ub_fr hU (fun j => (hF_85 2 j qn_2ad67e194).trans ((up_c (nn rfl)).trans (hF_12 2 j (fun h => absurd h.1 (nn rfl))))) (fun j => (hF_85 43 j qn_1520ff5e3).trans ((up_c (nn rfl)).trans (hF_12 43 j (fun h => absurd h.1 (nn rfl))))), ⟨by omega, by omega, by omega, by omega⟩, ⟨by omega, by omega⟩⟩

set_option maxRecDepth 100000 in
set_option maxHeartbeats 4000000 in
theorem o_31 {xs : Nat → Int32} {L i0 d nc ns P Q : Nat} {c : ME} {Z : AR → Prop} (hi : i0 + 8 ≤ L) (hL : L ≤ 100000) (hI : Iv 0 (-1) P Q c) (hR : Rq P c) (K : ∀ (P2 Q2 : Nat) (c2 : ME) (e : Nat), e ≤ 1 → Iv 0 (-1) P2 Q2 c2 → (Rq P2 c2) → Wp (a_scr L xs) (d + 90) 296 1816 [(4, vi (i0 : Int)), (3, .ref 67), (2, .ref 41), (1, .ref 0), (0, .ref a_SC)] [] (Wd P2 Q2 P2 P2 c2) (nc + e) (ns + 6 * e) Z) : Wp (a_scr L xs) (d + 90) 296 1409 [(4, vi (i0 : Int)), (3, .ref 67), (2, .ref 41), (1, .ref 0), (0, .ref a_SC)] [] (Wd P Q P P c) nc ns Z := by
  obtain ⟨x1, hx1⟩ : ∃ z, (xs (i0 + 1)).toInt = z := ⟨_, rfl⟩
  refine hv_ (c_rng (xs (i0 + 1))) (fun x1r => ?_)
  rw [hx1] at x1r
  obtain ⟨x2, hx2⟩ : ∃ z, (xs (i0 + 2)).toInt = z := ⟨_, rfl⟩
  refine hv_ (c_rng (xs (i0 + 2))) (fun x2r => ?_)
  rw [hx2] at x2r
  obtain ⟨x3, hx3⟩ : ∃ z, (xs (i0 + 3)).toInt = z := ⟨_, rfl⟩
  refine hv_ (c_rng (xs (i0 + 3))) (fun x3r => ?_)
  rw [hx3] at x3r
  obtain ⟨x4, hx4⟩ : ∃ z, (xs (i0 + 4)).toInt = z := ⟨_, rfl⟩
  refine hv_ (c_rng (xs (i0 + 4))) (fun x4r => ?_)
  rw [hx4] at x4r
  obtain ⟨x5, hx5⟩ : ∃ z, (xs (i0 + 5)).toInt = z := ⟨_, rfl⟩
  refine hv_ (c_rng (xs (i0 + 5))) (fun x5r => ?_)
  rw [hx5] at x5r
  obtain ⟨x6, hx6⟩ : ∃ z, (xs (i0 + 6)).toInt = z := ⟨_, rfl⟩
  refine hv_ (c_rng (xs (i0 + 6))) (fun x6r => ?_)
  rw [hx6] at x6r
  obtain ⟨x7, hx7⟩ : ∃ z, (xs (i0 + 7)).toInt = z := ⟨_, rfl⟩
  refine hv_ (c_rng (xs (i0 + 7))) (fun x7r => ?_)
  rw [hx7] at x7r
  refine hv_ (iv_P hI) (fun hP => (hv_ (iv_Q hI) (fun hQ => (hv_ (rl_t hR) (fun hT => (hv_ (rl_u hR) (fun hU => ?_)))))))
  obtain ⟨n0, hn0⟩ : ∃ z, c P 0 = z := ⟨_, rfl⟩
  refine hv_ (p := c 41 20 = n0) ((rl_nums hR).1.symm.trans hn0) (fun hm0 => (hv_ (ir_p0_0 hI hP) (fun hr0 => ?_)))
  rw [hn0] at hr0
  obtain ⟨n1, hn1⟩ : ∃ z, c P 1 = z := ⟨_, rfl⟩
  refine hv_ (p := c 41 21 = n1) ((rl_nums hR).2.1.symm.trans hn1) (fun hm1 => (hv_ (ir_p0_1 hI hP) (fun hr1 => ?_)))
  rw [hn1] at hr1
  obtain ⟨n2, hn2⟩ : ∃ z, c P 2 = z := ⟨_, rfl⟩
  refine hv_ (p := c 41 22 = n2) ((rl_nums hR).2.2.1.symm.trans hn2) (fun hm2 => (hv_ (ir_p0_2 hI hP) (fun hr2 => ?_)))
  rw [hn2] at hr2
  obtain ⟨n3, hn3⟩ : ∃ z, c P 3 = z := ⟨_, rfl⟩
  refine hv_ (p := c 41 23 = n3) ((rl_nums hR).2.2.2.symm.trans hn3) (fun hm3 => (hv_ (ir_p0_3 hI hP) (fun hr3 => ?_)))
  rw [hn3] at hr3
  refine hv_ (rl_cnt2 hR) (fun hNcnt2 => (hv_ (rl_cnt2 hR) (fun hNcnt2 => (q_aload_n c_296_1409 rfl (q_aload_n c_296_1410 rfl (q_iload c_296_1411 rfl (q_iconst c_296_1413 (v_iadd (v := (i0 : Int) + 1) c_296_1414 rfl (v_scr (j := i0 + 1) c_296_1415 (by omega) (by omega) hL hx1 ?_)))))))))
  refine q_aload_n c_296_1416 rfl (q_call c_296_1417 rfl rfl rfl (q_aload_n c_289_0 rfl (q_iconst c_289_1 (q_aload_n c_289_2 rfl (q_iload_n c_289_3 rfl (hv_ (ir_0_12 hI) (fun h_1 => (hv_ (ir_0_13 hI) (fun h_2 => ?_)))))))))
  refine v_cv c_289_4 km_9_96 rfl rfl (Nat.le_of_ble_eq_true rfl) ⟨⟨rfl, rfl⟩, Nat.le_of_ble_eq_true rfl, rfl⟩ (Nat.le_of_ble_eq_true rfl) (Nat.le_of_ble_eq_true rfl) (s_99S (a1 := x1) hI (show (-2147483648) ≤ x1 ∧ x1 ≤ 2147483647 from ⟨by omega, by omega⟩) (fun c_3 hI_4 hF_5 h_6 h_7 h_8 => ?_) (fun c_9 y_12 hI_10 hF_11 hy_12 h_13 h_14 h_15 => ?_))
  · skip
    refine hv_ (ir_0_13 hI_4) (fun h_16 => (hv_ (ir_0_12 hI_4) (fun h_17 => (bk_thr (z := Int32.ofInt 1) rfl ⟨_, _, rfl⟩ rfl (bk_inl (q_istore c_296_1420 (Nat.le_of_ble_eq_true rfl) (q_aload_n c_296_1422 rfl (q_aload_n c_296_1423 rfl (q_iload c_296_1424 rfl ?_)))))))))
    refine q_iconst c_296_1426 (v_iadd (v := (i0 : Int) + 1) c_296_1427 rfl (v_scr (j := i0 + 1) c_296_1428 (by omega) (by omega) hL hx1 (hv_ (ir_42 hI 0) (fun h_18 => (hv_ (p := Hid (c_3 42 0 = c 42 0)) (hF_5 42 0 (fun h => absurd h.1 (nn rfl))) (fun kn_19 => (hv_ (p := c_3 42 0 = c 42 0) ((hid kn_19)) (fun h_20 => (hv_ (ir_42 hI 1) (fun h_21 => (hv_ (p := Hid (c_3 42 1 = c 42 1)) (hF_5 42 1 (fun h => absurd h.1 (nn rfl))) (fun kn_22 => ?_))))))))))))
    refine hv_ (p := c_3 42 1 = c 42 1) ((hid kn_22)) (fun h_23 => (v_cv c_296_1429 km_9_232 rfl rfl (Nat.le_of_ble_eq_true rfl) ⟨⟨rfl, rfl⟩, Nat.le_of_ble_eq_true rfl, rfl⟩ (Nat.le_of_ble_eq_true rfl) (Nat.le_of_ble_eq_true rfl) (s_246S (a1 := x1) hI_4 (show (-2147483648) ≤ x1 ∧ x1 ≤ 2147483647 from ⟨by first | (clear hT hNcnt2 h_1 h_2 h_16 h_17; omega) | omega, by first | (clear hT hNcnt2 h_1 h_2 h_16 h_17; omega) | omega⟩) (fun c_24 y_27 hI_25 hF_26 hy_27 h_28 => (bk_inl (hv_ (ir_42 hI_25 0) (fun h_29 => (hv_ (ir_42 hI_25 1) (fun h_30 => (q_istore c_296_1432 (Nat.le_of_ble_eq_true rfl) (q_goto (t := 1816) c_296_1434 rfl (Wp_ls [(4, vi (i0 : Int)), (3, .ref 67), (2, .ref 41), (1, .ref 0), (0, .ref a_SC)] (lsub_cons rfl (lsub_cons rfl (lsub_cons rfl (lsub_cons rfl (lsub_cons rfl lsub_nil))))) ?_))))))))))))
    refine hv_ (ir_1_3 hI) (fun h_31 => (hv_ (p := Hid (c_3 1 3 = c 1 3)) (hF_5 1 3 (fun h => absurd h.1 (nn rfl))) (fun kn_32 => (hv_ (p := Hid (c_24 1 3 = c 1 3)) ((hF_26 1 3 qn_39cd18c3e).trans (hid kn_32)) (fun kn_33 => (hv_ (p := c_24 1 3 = c 1 3) ((hid kn_33)) (fun h_34 => (hv_ (ir_41_2 hI) (fun h_35 => (hv_ (p := Hid (c_3 41 2 = c 41 2)) (hF_5 41 2 (fun h => absurd h.1 (nn rfl))) (fun kn_36 => (hv_ (p := Hid (c_24 41 2 = c 41 2)) ((hF_26 41 2 qn_53bdb2099).trans (hid kn_36)) (fun kn_37 => (hv_ (p := c_24 41 2 = c 41 2) ((hid kn_37)) (fun h_38 => ?_)))))))))))))))
    refine hv_ (p := Hid (c_3 P 0 = n0)) ((hF_5 P 0 (fun h => absurd h.1 (np0 hP rfl))).trans (hn0)) (fun kn_39 => (hv_ (p := Hid (c_24 P 0 = n0)) ((hF_26 P 0 (qn_857752076 hP)).trans (hid kn_39)) (fun kn_40 => (hv_ (p := c_24 P 0 = n0) ((hid kn_40)) (fun h_41 => (hv_ (p := Hid (c_3 41 20 = n0)) ((hF_5 41 20 (fun h => absurd h.1 (nn rfl))).trans (hm0)) (fun kn_42 => (hv_ (p := Hid (c_24 41 20 = n0)) ((hF_26 41 20 qn_110b29ed6).trans (hid kn_42)) (fun kn_43 => (hv_ (p := c_24 41 20 = n0) ((hid kn_43)) (fun h_44 => (hv_ (p := Hid (c_3 P 1 = n1)) ((hF_5 P 1 (fun h => absurd h.1 (np0 hP rfl))).trans (hn1)) (fun kn_45 => (hv_ (p := Hid (c_24 P 1 = n1)) ((hF_26 P 1 (qn_857752076 hP)).trans (hid kn_45)) (fun kn_46 => ?_)))))))))))))))
    refine hv_ (p := c_24 P 1 = n1) ((hid kn_46)) (fun h_47 => (hv_ (p := Hid (c_3 41 21 = n1)) ((hF_5 41 21 (fun h => absurd h.1 (nn rfl))).trans (hm1)) (fun kn_48 => (hv_ (p := Hid (c_24 41 21 = n1)) ((hF_26 41 21 qn_561064c41).trans (hid kn_48)) (fun kn_49 => (hv_ (p := c_24 41 21 = n1) ((hid kn_49)) (fun h_50 => (hv_ (p := Hid (c_3 P 2 = n2)) ((hF_5 P 2 (fun h => absurd h.1 (np0 hP rfl))).trans (hn2)) (fun kn_51 => (hv_ (p := Hid (c_24 P 2 = n2)) ((hF_26 P 2 (qn_857752076 hP)).trans (hid kn_51)) (fun kn_52 => (hv_ (p := c_24 P 2 = n2) ((hid kn_52)) (fun h_53 => (hv_ (p := Hid (c_3 41 22 = n2)) ((hF_5 41 22 (fun h => absurd h.1 (nn rfl))).trans (hm2)) (fun kn_54 => ?_)))))))))))))))
    refine hv_ (p := Hid (c_24 41 22 = n2)) ((hF_26 41 22 qn_1a460b46b).trans (hid kn_54)) (fun kn_55 => (hv_ (p := c_24 41 22 = n2) ((hid kn_55)) (fun h_56 => (hv_ (p := Hid (c_3 P 3 = n3)) ((hF_5 P 3 (fun h => absurd h.1 (np0 hP rfl))).trans (hn3)) (fun kn_57 => (hv_ (p := Hid (c_24 P 3 = n3)) ((hF_26 P 3 (qn_857752076 hP)).trans (hid kn_57)) (fun kn_58 => (hv_ (p := c_24 P 3 = n3) ((hid kn_58)) (fun h_59 => (hv_ (p := Hid (c_3 41 23 = n3)) ((hF_5 41 23 (fun h => absurd h.1 (nn rfl))).trans (hm3)) (fun kn_60 => (hv_ (p := Hid (c_24 41 23 = n3)) ((hF_26 41 23 qn_b79f282cd).trans (hid kn_60)) (fun kn_61 => (hv_ (p := c_24 41 23 = n3) ((hid kn_61)) (fun h_62 => ?_)))))))))))))))
    refine hv_ (p := Hid (c_3 0 12 = c 0 12)) (hF_5 0 12 (fun h => absurd h.2 (ni rfl))) (fun kn_63 => (hv_ (p := Hid (c_24 0 12 = c 0 12)) ((hF_26 0 12 qn_666ded271).trans (hid kn_63)) (fun kn_64 => (hv_ (p := c_24 0 12 = c 0 12) ((hid kn_64)) (fun h_65 => (hv_ (p := c_24 42 0 = c_24 42 0) (rfl) (fun h_66 => (hv_ (p := Hid (c_24 0 13 = c_3 0 13)) (hF_26 0 13 qn_666ded271) (fun kn_67 => (hv_ (p := c_24 0 13 = c_3 0 13) ((hid kn_67)) (fun h_68 => (hv_ (p := c_24 42 1 = c_24 42 1) (rfl) (fun h_69 => ?_)))))))))))))
    exact K P Q c_24 1 (of_decide_eq_true rfl) hI_25 ⟨by omega, ub_fr hU (fun j => (hF_26 2 j qn_2ad67e194).trans (hF_5 2 j (fun h => absurd h.1 (nn rfl)))) (fun j => (hF_26 43 j qn_1520ff5e3).trans (hF_5 43 j (fun h => absurd h.1 (nn rfl)))), ⟨by omega, by omega, by omega, by omega⟩, ⟨by omega, by omega⟩⟩
  refine bk_inl (hv_ (ir_0_12 hI_10) (fun h_70 => (hv_ (ir_0_13 hI_10) (fun h_71 => (v_i2l c_289_7 (by omega) (v_ls c_289_8 rfl (of_decide_eq_true rfl) (of_decide_eq_true rfl) (of_decide_eq_true rfl) (q_goto (t := 15) c_289_9 rfl (q_iconst c_289_15 (q_iret c_289_16 rfl ?_)))))))))
  refine bk_inl (q_istore c_296_1420 (Nat.le_of_ble_eq_true rfl) (q_aload_n c_296_1422 rfl (q_aload_n c_296_1423 rfl (q_iload c_296_1424 rfl (q_iconst c_296_1426 (v_iadd (v := (i0 : Int) + 1) c_296_1427 rfl (v_scr (j := i0 + 1) c_296_1428 (by omega) (by omega) hL hx1 ?_)))))))
  refine hv_ (iw_lx (a := 67) (j := 0) (v := y_12) hI_10 (by omega)) (fun hI_72 => (hv_ (ir_42 hI 0) (fun h_73 => (hv_ (p := Hid (c_9 42 0 = c 42 0)) (hF_11 42 0 (fun h => absurd h.1 (nn rfl))) (fun kn_74 => (hv_ (p := (up c_9 67 0 y_12) 42 0 = c 42 0) (((up_c (nn rfl)).trans (hid kn_74))) (fun h_75 => (hv_ (ir_42 hI 1) (fun h_76 => (hv_ (p := Hid (c_9 42 1 = c 42 1)) (hF_11 42 1 (fun h => absurd h.1 (nn rfl))) (fun kn_77 => (hv_ (p := (up c_9 67 0 y_12) 42 1 = c 42 1) (((up_c (nn rfl)).trans (hid kn_77))) (fun h_78 => (v_cv c_296_1429 km_9_232 rfl rfl (Nat.le_of_ble_eq_true rfl) ⟨⟨rfl, rfl⟩, Nat.le_of_ble_eq_true rfl, rfl⟩ (Nat.le_of_ble_eq_true rfl) (Nat.le_of_ble_eq_true rfl) (s_246S (a1 := x1) hI_72 (show (-2147483648) ≤ x1 ∧ x1 ≤ 2147483647 from ⟨by first | exact q_946aba308 h_13 | omega, by first | exact q_fe021046e h_13 | omega⟩) (fun c_79 y_82 hI_80 hF_81 hy_82 h_83 => ?_))))))))))))))))
  refine bk_inl (hv_ (ir_42 hI_80 0) (fun h_84 => (hv_ (ir_42 hI_80 1) (fun h_85 => (q_istore c_296_1432 (Nat.le_of_ble_eq_true rfl) (q_goto (t := 1816) c_296_1434 rfl (Wp_ls [(4, vi (i0 : Int)), (3, .ref 67), (2, .ref 41), (1, .ref 0), (0, .ref a_SC)] (lsub_cons rfl (lsub_cons rfl (lsub_cons rfl (lsub_cons rfl (lsub_cons rfl lsub_nil))))) (hv_ (ir_1_3 hI) (fun h_86 => (hv_ (p := Hid (c_9 1 3 = c 1 3)) (hF_11 1 3 (fun h => absurd h.1 (nn rfl))) (fun kn_87 => ?_)))))))))))
  refine hv_ (p := Hid (c_79 1 3 = c 1 3)) ((hF_81 1 3 qn_39cd18c3e).trans ((up_c (nn rfl)).trans (hid kn_87))) (fun kn_88 => (hv_ (p := c_79 1 3 = c 1 3) ((hid kn_88)) (fun h_89 => (hv_ (ir_41_2 hI) (fun h_90 => (hv_ (p := Hid (c_9 41 2 = c 41 2)) (hF_11 41 2 (fun h => absurd h.1 (nn rfl))) (fun kn_91 => (hv_ (p := Hid (c_79 41 2 = c 41 2)) ((hF_81 41 2 qn_53bdb2099).trans ((up_c (nn rfl)).trans (hid kn_91))) (fun kn_92 => (hv_ (p := c_79 41 2 = c 41 2) ((hid kn_92)) (fun h_93 => (hv_ (p := Hid (c_9 P 0 = n0)) ((hF_11 P 0 (fun h => absurd h.1 (np0 hP rfl))).trans (hn0)) (fun kn_94 => (hv_ (p := Hid (c_79 P 0 = n0)) ((hF_81 P 0 (qn_857752076 hP)).trans ((up_c (np0 hP rfl)).trans (hid kn_94))) (fun kn_95 => ?_)))))))))))))))
  refine hv_ (p := c_79 P 0 = n0) ((hid kn_95)) (fun h_96 => (hv_ (p := Hid (c_9 41 20 = n0)) ((hF_11 41 20 (fun h => absurd h.1 (nn rfl))).trans (hm0)) (fun kn_97 => (hv_ (p := Hid (c_79 41 20 = n0)) ((hF_81 41 20 qn_110b29ed6).trans ((up_c (nn rfl)).trans (hid kn_97))) (fun kn_98 => (hv_ (p := c_79 41 20 = n0) ((hid kn_98)) (fun h_99 => (hv_ (p := Hid (c_9 P 1 = n1)) ((hF_11 P 1 (fun h => absurd h.1 (np0 hP rfl))).trans (hn1)) (fun kn_100 => (hv_ (p := Hid (c_79 P 1 = n1)) ((hF_81 P 1 (qn_857752076 hP)).trans ((up_c (np0 hP rfl)).trans (hid kn_100))) (fun kn_101 => (hv_ (p := c_79 P 1 = n1) ((hid kn_101)) (fun h_102 => (hv_ (p := Hid (c_9 41 21 = n1)) ((hF_11 41 21 (fun h => absurd h.1 (nn rfl))).trans (hm1)) (fun kn_103 => ?_)))))))))))))))
  refine hv_ (p := Hid (c_79 41 21 = n1)) ((hF_81 41 21 qn_561064c41).trans ((up_c (nn rfl)).trans (hid kn_103))) (fun kn_104 => (hv_ (p := c_79 41 21 = n1) ((hid kn_104)) (fun h_105 => (hv_ (p := Hid (c_9 P 2 = n2)) ((hF_11 P 2 (fun h => absurd h.1 (np0 hP rfl))).trans (hn2)) (fun kn_106 => (hv_ (p := Hid (c_79 P 2 = n2)) ((hF_81 P 2 (qn_857752076 hP)).trans ((up_c (np0 hP rfl)).trans (hid kn_106))) (fun kn_107 => (hv_ (p := c_79 P 2 = n2) ((hid kn_107)) (fun h_108 => (hv_ (p := Hid (c_9 41 22 = n2)) ((hF_11 41 22 (fun h => absurd h.1 (nn rfl))).trans (hm2)) (fun kn_109 => (hv_ (p := Hid (c_79 41 22 = n2)) ((hF_81 41 22 qn_1a460b46b).trans ((up_c (nn rfl)).trans (hid kn_109))) (fun kn_110 => (hv_ (p := c_79 41 22 = n2) ((hid kn_110)) (fun h_111 => ?_)))))))))))))))
  refine hv_ (p := Hid (c_9 P 3 = n3)) ((hF_11 P 3 (fun h => absurd h.1 (np0 hP rfl))).trans (hn3)) (fun kn_112 => (hv_ (p := Hid (c_79 P 3 = n3)) ((hF_81 P 3 (qn_857752076 hP)).trans ((up_c (np0 hP rfl)).trans (hid kn_112))) (fun kn_113 => (hv_ (p := c_79 P 3 = n3) ((hid kn_113)) (fun h_114 => (hv_ (p := Hid (c_9 41 23 = n3)) ((hF_11 41 23 (fun h => absurd h.1 (nn rfl))).trans (hm3)) (fun kn_115 => (hv_ (p := Hid (c_79 41 23 = n3)) ((hF_81 41 23 qn_b79f282cd).trans ((up_c (nn rfl)).trans (hid kn_115))) (fun kn_116 => (hv_ (p := c_79 41 23 = n3) ((hid kn_116)) (fun h_117 => (hv_ (p := Hid (c_9 0 12 = c 0 12)) (hF_11 0 12 (fun h => absurd h.2 (ni rfl))) (fun kn_118 => (hv_ (p := Hid (c_79 0 12 = c 0 12)) ((hF_81 0 12 qn_666ded271).trans ((up_c (nn rfl)).trans (hid kn_118))) (fun kn_119 => ?_)))))))))))))))
  refine hv_ (p := c_79 0 12 = c 0 12) ((hid kn_119)) (fun h_120 => (hv_ (p := c_79 42 0 = c_79 42 0) (rfl) (fun h_121 => (hv_ (p := Hid (c_79 0 13 = c_9 0 13)) ((hF_81 0 13 qn_666ded271).trans (up_c (nn rfl))) (fun kn_122 => (hv_ (p := c_79 0 13 = c_9 0 13) ((hid kn_122)) (fun h_123 => (hv_ (p := c_79 42 1 = c_79 42 1) (rfl) (fun h_124 => ?_)))))))))
  exact K P Q c_79 0 (of_decide_eq_true rfl) hI_80 ⟨by omega, ub_fr hU (fun j => (hF_81 2 j qn_2ad67e194).trans ((up_c (nn rfl)).trans (hF_11 2 j (fun h => absurd h.1 (nn rfl))))) (fun j => (hF_81 43 j qn_1520ff5e3).trans ((up_c (nn rfl)).trans (hF_11 43 j (fun h => absurd h.1 (nn rfl))))), ⟨by omega, by omega, by omega, by omega⟩, ⟨by omega, by omega⟩⟩

set_option maxRecDepth 100000 in
set_option maxHeartbeats 4000000 in
theorem o_32 {xs : Nat → Int32} {L i0 d nc ns P Q : Nat} {c : ME} {Z : AR → Prop} (hi : i0 + 8 ≤ L) (hL : L ≤ 100000) (hI : Iv 0 (-1) P Q c) (hR : Rq P c) (K : ∀ (P2 Q2 : Nat) (c2 : ME) (e : Nat), e ≤ 1 → Iv 0 (-1) P2 Q2 c2 → (Rq P2 c2) → Wp (a_scr L xs) (d + 90) 296 1816 [(4, vi (i0 : Int)), (3, .ref 67), (2, .ref 41), (1, .ref 0), (0, .ref a_SC)] [] (Wd P2 Q2 P2 P2 c2) (nc + e) (ns + 6 * e) Z) : Wp (a_scr L xs) (d + 90) 296 1437 [(4, vi (i0 : Int)), (3, .ref 67), (2, .ref 41), (1, .ref 0), (0, .ref a_SC)] [] (Wd P Q P P c) nc ns Z := by
  obtain ⟨x1, hx1⟩ : ∃ z, (xs (i0 + 1)).toInt = z := ⟨_, rfl⟩
  refine hv_ (c_rng (xs (i0 + 1))) (fun x1r => ?_)
  rw [hx1] at x1r
  obtain ⟨x2, hx2⟩ : ∃ z, (xs (i0 + 2)).toInt = z := ⟨_, rfl⟩
  refine hv_ (c_rng (xs (i0 + 2))) (fun x2r => ?_)
  rw [hx2] at x2r
  obtain ⟨x3, hx3⟩ : ∃ z, (xs (i0 + 3)).toInt = z := ⟨_, rfl⟩
  refine hv_ (c_rng (xs (i0 + 3))) (fun x3r => ?_)
  rw [hx3] at x3r
  obtain ⟨x4, hx4⟩ : ∃ z, (xs (i0 + 4)).toInt = z := ⟨_, rfl⟩
  refine hv_ (c_rng (xs (i0 + 4))) (fun x4r => ?_)
  rw [hx4] at x4r
  obtain ⟨x5, hx5⟩ : ∃ z, (xs (i0 + 5)).toInt = z := ⟨_, rfl⟩
  refine hv_ (c_rng (xs (i0 + 5))) (fun x5r => ?_)
  rw [hx5] at x5r
  obtain ⟨x6, hx6⟩ : ∃ z, (xs (i0 + 6)).toInt = z := ⟨_, rfl⟩
  refine hv_ (c_rng (xs (i0 + 6))) (fun x6r => ?_)
  rw [hx6] at x6r
  obtain ⟨x7, hx7⟩ : ∃ z, (xs (i0 + 7)).toInt = z := ⟨_, rfl⟩
  refine hv_ (c_rng (xs (i0 + 7))) (fun x7r => ?_)
  rw [hx7] at x7r
  refine hv_ (iv_P hI) (fun hP => (hv_ (iv_Q hI) (fun hQ => (hv_ (rl_t hR) (fun hT => (hv_ (rl_u hR) (fun hU => ?_)))))))
  obtain ⟨n0, hn0⟩ : ∃ z, c P 0 = z := ⟨_, rfl⟩
  refine hv_ (p := c 41 20 = n0) ((rl_nums hR).1.symm.trans hn0) (fun hm0 => (hv_ (ir_p0_0 hI hP) (fun hr0 => ?_)))
  rw [hn0] at hr0
  obtain ⟨n1, hn1⟩ : ∃ z, c P 1 = z := ⟨_, rfl⟩
  refine hv_ (p := c 41 21 = n1) ((rl_nums hR).2.1.symm.trans hn1) (fun hm1 => (hv_ (ir_p0_1 hI hP) (fun hr1 => ?_)))
  rw [hn1] at hr1
  obtain ⟨n2, hn2⟩ : ∃ z, c P 2 = z := ⟨_, rfl⟩
  refine hv_ (p := c 41 22 = n2) ((rl_nums hR).2.2.1.symm.trans hn2) (fun hm2 => (hv_ (ir_p0_2 hI hP) (fun hr2 => ?_)))
  rw [hn2] at hr2
  obtain ⟨n3, hn3⟩ : ∃ z, c P 3 = z := ⟨_, rfl⟩
  refine hv_ (p := c 41 23 = n3) ((rl_nums hR).2.2.2.symm.trans hn3) (fun hm3 => (hv_ (ir_p0_3 hI hP) (fun hr3 => ?_)))
  rw [hn3] at hr3
  refine hv_ (rl_cnt2 hR) (fun hNcnt2 => (hv_ (rl_cnt2 hR) (fun hNcnt2 => (q_aload_n c_296_1437 rfl (q_aload_n c_296_1438 rfl (q_iload c_296_1439 rfl (q_iconst c_296_1441 (v_iadd (v := (i0 : Int) + 1) c_296_1442 rfl (v_scr (j := i0 + 1) c_296_1443 (by omega) (by omega) hL hx1 ?_)))))))))
  refine q_aload_n c_296_1444 rfl (q_call c_296_1445 rfl rfl rfl (q_aload_n c_290_0 rfl (q_iconst c_290_1 (q_aload_n c_290_2 rfl (q_iload_n c_290_3 rfl (hv_ (p := c P 2 = n2) ((hn2)) (fun h_1 => (hv_ (ir_0_12 hI) (fun h_2 => ?_)))))))))
  refine hv_ (ir_0_13 hI) (fun h_3 => ?_)
  refine v_cv c_290_4 km_9_99 rfl rfl (Nat.le_of_ble_eq_true rfl) ⟨⟨rfl, rfl⟩, Nat.le_of_ble_eq_true rfl, rfl⟩ (Nat.le_of_ble_eq_true rfl) (Nat.le_of_ble_eq_true rfl) (s_115S (a1 := x1) hI (show (-2147483648) ≤ x1 ∧ x1 ≤ 2147483647 from ⟨by omega, by omega⟩) (fun c_4 hI_5 hF_6 h_7 h_8 h_9 => ?_) (fun c_10 y_13 hI_11 hF_12 hy_13 h_14 h_15 h_16 => ?_))
  · skip
    refine hv_ (ir_0_12 hI_5) (fun h_17 => (hv_ (ir_0_13 hI_5) (fun h_18 => (bk_thr (z := Int32.ofInt 1) rfl ⟨_, _, rfl⟩ rfl (bk_inl (q_istore c_296_1448 (Nat.le_of_ble_eq_true rfl) (q_aload_n c_296_1450 rfl (q_aload_n c_296_1451 rfl (q_iload c_296_1452 rfl ?_)))))))))
    refine q_iconst c_296_1454 (v_iadd (v := (i0 : Int) + 1) c_296_1455 rfl (v_scr (j := i0 + 1) c_296_1456 (by omega) (by omega) hL hx1 (hv_ (p := Hid (c_4 41 22 = n2)) ((hF_6 41 22 (fun h => absurd h.1 (nn rfl))).trans (hm2)) (fun kn_19 => (hv_ (p := c_4 41 22 = n2) ((hid kn_19)) (fun h_20 => (hv_ (ir_42 hI 0) (fun h_21 => (hv_ (p := Hid (c_4 42 0 = c 42 0)) (hF_6 42 0 (fun h => absurd h.1 (nn rfl))) (fun kn_22 => (hv_ (p := c_4 42 0 = c 42 0) ((hid kn_22)) (fun h_23 => ?_))))))))))))
    refine hv_ (ir_42 hI 1) (fun h_24 => (hv_ (p := Hid (c_4 42 1 = c 42 1)) (hF_6 42 1 (fun h => absurd h.1 (nn rfl))) (fun kn_25 => (hv_ (p := c_4 42 1 = c 42 1) ((hid kn_25)) (fun h_26 => (v_cv c_296_1457 km_9_235 rfl rfl (Nat.le_of_ble_eq_true rfl) ⟨⟨rfl, rfl⟩, Nat.le_of_ble_eq_true rfl, rfl⟩ (Nat.le_of_ble_eq_true rfl) (Nat.le_of_ble_eq_true rfl) (s_247S (a1 := x1) hI_5 (show (-2147483648) ≤ x1 ∧ x1 ≤ 2147483647 from ⟨by first | (clear hT hNcnt2 h_2 h_3 h_17 h_18; omega) | omega, by first | (clear hT hNcnt2 h_2 h_3 h_17 h_18; omega) | omega⟩) (fun c_27 y_30 hI_28 hF_29 hy_30 h_31 => (bk_inl (hv_ (ir_42 hI_28 0) (fun h_32 => (hv_ (ir_42 hI_28 1) (fun h_33 => (q_istore c_296_1460 (Nat.le_of_ble_eq_true rfl) ?_))))))))))))))
    refine q_goto (t := 1816) c_296_1462 rfl (Wp_ls [(4, vi (i0 : Int)), (3, .ref 67), (2, .ref 41), (1, .ref 0), (0, .ref a_SC)] (lsub_cons rfl (lsub_cons rfl (lsub_cons rfl (lsub_cons rfl (lsub_cons rfl lsub_nil))))) (hv_ (ir_1_3 hI) (fun h_34 => (hv_ (p := Hid (c_4 1 3 = c 1 3)) (hF_6 1 3 (fun h => absurd h.1 (nn rfl))) (fun kn_35 => (hv_ (p := Hid (c_27 1 3 = c 1 3)) ((hF_29 1 3 qn_39cd18c3e).trans (hid kn_35)) (fun kn_36 => (hv_ (p := c_27 1 3 = c 1 3) ((hid kn_36)) (fun h_37 => (hv_ (ir_41_2 hI) (fun h_38 => (hv_ (p := Hid (c_4 41 2 = c 41 2)) (hF_6 41 2 (fun h => absurd h.1 (nn rfl))) (fun kn_39 => ?_)))))))))))))
    refine hv_ (p := Hid (c_27 41 2 = c 41 2)) ((hF_29 41 2 qn_53bdb2099).trans (hid kn_39)) (fun kn_40 => (hv_ (p := c_27 41 2 = c 41 2) ((hid kn_40)) (fun h_41 => (hv_ (p := Hid (c_4 P 0 = n0)) ((hF_6 P 0 (fun h => absurd h.1 (np0 hP rfl))).trans (hn0)) (fun kn_42 => (hv_ (p := Hid (c_27 P 0 = n0)) ((hF_29 P 0 (qn_857752076 hP)).trans (hid kn_42)) (fun kn_43 => (hv_ (p := c_27 P 0 = n0) ((hid kn_43)) (fun h_44 => (hv_ (p := Hid (c_4 41 20 = n0)) ((hF_6 41 20 (fun h => absurd h.1 (nn rfl))).trans (hm0)) (fun kn_45 => (hv_ (p := Hid (c_27 41 20 = n0)) ((hF_29 41 20 qn_110b29ed6).trans (hid kn_45)) (fun kn_46 => (hv_ (p := c_27 41 20 = n0) ((hid kn_46)) (fun h_47 => ?_)))))))))))))))
    refine hv_ (p := Hid (c_4 P 1 = n1)) ((hF_6 P 1 (fun h => absurd h.1 (np0 hP rfl))).trans (hn1)) (fun kn_48 => (hv_ (p := Hid (c_27 P 1 = n1)) ((hF_29 P 1 (qn_857752076 hP)).trans (hid kn_48)) (fun kn_49 => (hv_ (p := c_27 P 1 = n1) ((hid kn_49)) (fun h_50 => (hv_ (p := Hid (c_4 41 21 = n1)) ((hF_6 41 21 (fun h => absurd h.1 (nn rfl))).trans (hm1)) (fun kn_51 => (hv_ (p := Hid (c_27 41 21 = n1)) ((hF_29 41 21 qn_561064c41).trans (hid kn_51)) (fun kn_52 => (hv_ (p := c_27 41 21 = n1) ((hid kn_52)) (fun h_53 => (hv_ (p := Hid (c_4 P 2 = n2)) ((hF_6 P 2 (fun h => absurd h.1 (np0 hP rfl))).trans (hn2)) (fun kn_54 => (hv_ (p := Hid (c_27 P 2 = n2)) ((hF_29 P 2 (qn_857752076 hP)).trans (hid kn_54)) (fun kn_55 => ?_)))))))))))))))
    refine hv_ (p := c_27 P 2 = n2) ((hid kn_55)) (fun h_56 => (hv_ (p := Hid (c_27 41 22 = n2)) ((hF_29 41 22 qn_1a460b46b).trans (hid kn_19)) (fun kn_57 => (hv_ (p := c_27 41 22 = n2) ((hid kn_57)) (fun h_58 => (hv_ (p := Hid (c_4 P 3 = n3)) ((hF_6 P 3 (fun h => absurd h.1 (np0 hP rfl))).trans (hn3)) (fun kn_59 => (hv_ (p := Hid (c_27 P 3 = n3)) ((hF_29 P 3 (qn_857752076 hP)).trans (hid kn_59)) (fun kn_60 => (hv_ (p := c_27 P 3 = n3) ((hid kn_60)) (fun h_61 => (hv_ (p := Hid (c_4 41 23 = n3)) ((hF_6 41 23 (fun h => absurd h.1 (nn rfl))).trans (hm3)) (fun kn_62 => (hv_ (p := Hid (c_27 41 23 = n3)) ((hF_29 41 23 qn_b79f282cd).trans (hid kn_62)) (fun kn_63 => ?_)))))))))))))))
    refine hv_ (p := c_27 41 23 = n3) ((hid kn_63)) (fun h_64 => (hv_ (p := Hid (c_27 0 12 = c_4 0 12)) (hF_29 0 12 qn_666ded271) (fun kn_65 => (hv_ (p := c_27 0 12 = c_4 0 12) ((hid kn_65)) (fun h_66 => (hv_ (p := c_27 42 0 = c_27 42 0) (rfl) (fun h_67 => (hv_ (p := Hid (c_4 0 13 = c 0 13)) (hF_6 0 13 (fun h => absurd h.2 (ni rfl))) (fun kn_68 => (hv_ (p := Hid (c_27 0 13 = c 0 13)) ((hF_29 0 13 qn_666ded271).trans (hid kn_68)) (fun kn_69 => (hv_ (p := c_27 0 13 = c 0 13) ((hid kn_69)) (fun h_70 => (hv_ (p := c_27 42 1 = c_27 42 1) (rfl) (fun h_71 => ?_)))))))))))))))
    exact K P Q c_27 1 (of_decide_eq_true rfl) hI_28 ⟨by omega, ub_fr hU (fun j => (hF_29 2 j qn_2ad67e194).trans (hF_6 2 j (fun h => absurd h.1 (nn rfl)))) (fun j => (hF_29 43 j qn_1520ff5e3).trans (hF_6 43 j (fun h => absurd h.1 (nn rfl)))), ⟨by omega, by omega, by omega, by omega⟩, ⟨by omega, by omega⟩⟩
  refine bk_inl (hv_ (ir_0_12 hI_11) (fun h_72 => (hv_ (ir_0_13 hI_11) (fun h_73 => (v_i2l c_290_7 (by omega) (v_ls c_290_8 rfl (of_decide_eq_true rfl) (of_decide_eq_true rfl) (of_decide_eq_true rfl) (q_goto (t := 15) c_290_9 rfl (q_iconst c_290_15 (q_iret c_290_16 rfl ?_)))))))))
  refine bk_inl (q_istore c_296_1448 (Nat.le_of_ble_eq_true rfl) (q_aload_n c_296_1450 rfl (q_aload_n c_296_1451 rfl (q_iload c_296_1452 rfl (q_iconst c_296_1454 (v_iadd (v := (i0 : Int) + 1) c_296_1455 rfl (v_scr (j := i0 + 1) c_296_1456 (by omega) (by omega) hL hx1 ?_)))))))
  refine hv_ (iw_lx (a := 67) (j := 0) (v := y_13) hI_11 (by omega)) (fun hI_74 => (hv_ (p := Hid (c_10 41 22 = n2)) ((hF_12 41 22 (fun h => absurd h.1 (nn rfl))).trans (hm2)) (fun kn_75 => (hv_ (p := (up c_10 67 0 y_13) 41 22 = n2) (((up_c (nn rfl)).trans (hid kn_75))) (fun h_76 => (hv_ (ir_42 hI 0) (fun h_77 => (hv_ (p := Hid (c_10 42 0 = c 42 0)) (hF_12 42 0 (fun h => absurd h.1 (nn rfl))) (fun kn_78 => (hv_ (p := (up c_10 67 0 y_13) 42 0 = c 42 0) (((up_c (nn rfl)).trans (hid kn_78))) (fun h_79 => (hv_ (ir_42 hI 1) (fun h_80 => (hv_ (p := Hid (c_10 42 1 = c 42 1)) (hF_12 42 1 (fun h => absurd h.1 (nn rfl))) (fun kn_81 => ?_)))))))))))))))
  refine hv_ (p := (up c_10 67 0 y_13) 42 1 = c 42 1) (((up_c (nn rfl)).trans (hid kn_81))) (fun h_82 => (v_cv c_296_1457 km_9_235 rfl rfl (Nat.le_of_ble_eq_true rfl) ⟨⟨rfl, rfl⟩, Nat.le_of_ble_eq_true rfl, rfl⟩ (Nat.le_of_ble_eq_true rfl) (Nat.le_of_ble_eq_true rfl) (s_247S (a1 := x1) hI_74 (show (-2147483648) ≤ x1 ∧ x1 ≤ 2147483647 from ⟨by first | exact q_7f52907d5 h_14 h_1 | omega, by omega⟩) (fun c_83 y_86 hI_84 hF_85 hy_86 h_87 => (bk_inl (hv_ (ir_42 hI_84 0) (fun h_88 => (hv_ (ir_42 hI_84 1) (fun h_89 => (q_istore c_296_1460 (Nat.le_of_ble_eq_true rfl) (q_goto (t := 1816) c_296_1462 rfl (Wp_ls [(4, vi (i0 : Int)), (3, .ref 67), (2, .ref 41), (1, .ref 0), (0, .ref a_SC)] (lsub_cons rfl (lsub_cons rfl (lsub_cons rfl (lsub_cons rfl (lsub_cons rfl lsub_nil))))) ?_))))))))))))
  refine hv_ (ir_1_3 hI) (fun h_90 => (hv_ (p := Hid (c_10 1 3 = c 1 3)) (hF_12 1 3 (fun h => absurd h.1 (nn rfl))) (fun kn_91 => (hv_ (p := Hid (c_83 1 3 = c 1 3)) ((hF_85 1 3 qn_39cd18c3e).trans ((up_c (nn rfl)).trans (hid kn_91))) (fun kn_92 => (hv_ (p := c_83 1 3 = c 1 3) ((hid kn_92)) (fun h_93 => (hv_ (ir_41_2 hI) (fun h_94 => (hv_ (p := Hid (c_10 41 2 = c 41 2)) (hF_12 41 2 (fun h => absurd h.1 (nn rfl))) (fun kn_95 => (hv_ (p := Hid (c_83 41 2 = c 41 2)) ((hF_85 41 2 qn_53bdb2099).trans ((up_c (nn rfl)).trans (hid kn_95))) (fun kn_96 => (hv_ (p := c_83 41 2 = c 41 2) ((hid kn_96)) (fun h_97 => ?_)))))))))))))))
  refine hv_ (p := Hid (c_10 P 0 = n0)) ((hF_12 P 0 (fun h => absurd h.1 (np0 hP rfl))).trans (hn0)) (fun kn_98 => (hv_ (p := Hid (c_83 P 0 = n0)) ((hF_85 P 0 (qn_857752076 hP)).trans ((up_c (np0 hP rfl)).trans (hid kn_98))) (fun kn_99 => (hv_ (p := c_83 P 0 = n0) ((hid kn_99)) (fun h_100 => (hv_ (p := Hid (c_10 41 20 = n0)) ((hF_12 41 20 (fun h => absurd h.1 (nn rfl))).trans (hm0)) (fun kn_101 => (hv_ (p := Hid (c_83 41 20 = n0)) ((hF_85 41 20 qn_110b29ed6).trans ((up_c (nn rfl)).trans (hid kn_101))) (fun kn_102 => (hv_ (p := c_83 41 20 = n0) ((hid kn_102)) (fun h_103 => (hv_ (p := Hid (c_10 P 1 = n1)) ((hF_12 P 1 (fun h => absurd h.1 (np0 hP rfl))).trans (hn1)) (fun kn_104 => (hv_ (p := Hid (c_83 P 1 = n1)) ((hF_85 P 1 (qn_857752076 hP)).trans ((up_c (np0 hP rfl)).trans (hid kn_104))) (fun kn_105 => ?_)))))))))))))))
  refine hv_ (p := c_83 P 1 = n1) ((hid kn_105)) (fun h_106 => (hv_ (p := Hid (c_10 41 21 = n1)) ((hF_12 41 21 (fun h => absurd h.1 (nn rfl))).trans (hm1)) (fun kn_107 => (hv_ (p := Hid (c_83 41 21 = n1)) ((hF_85 41 21 qn_561064c41).trans ((up_c (nn rfl)).trans (hid kn_107))) (fun kn_108 => (hv_ (p := c_83 41 21 = n1) ((hid kn_108)) (fun h_109 => (hv_ (p := Hid (c_10 P 2 = n2)) ((hF_12 P 2 (fun h => absurd h.1 (np0 hP rfl))).trans (hn2)) (fun kn_110 => (hv_ (p := Hid (c_83 P 2 = n2)) ((hF_85 P 2 (qn_857752076 hP)).trans ((up_c (np0 hP rfl)).trans (hid kn_110))) (fun kn_111 => (hv_ (p := c_83 P 2 = n2) ((hid kn_111)) (fun h_112 => (hv_ (p := Hid (c_83 41 22 = n2)) ((hF_85 41 22 qn_1a460b46b).trans ((up_c (nn rfl)).trans (hid kn_75))) (fun kn_113 => ?_)))))))))))))))
  refine hv_ (p := c_83 41 22 = n2) ((hid kn_113)) (fun h_114 => (hv_ (p := Hid (c_10 P 3 = n3)) ((hF_12 P 3 (fun h => absurd h.1 (np0 hP rfl))).trans (hn3)) (fun kn_115 => (hv_ (p := Hid (c_83 P 3 = n3)) ((hF_85 P 3 (qn_857752076 hP)).trans ((up_c (np0 hP rfl)).trans (hid kn_115))) (fun kn_116 => (hv_ (p := c_83 P 3 = n3) ((hid kn_116)) (fun h_117 => (hv_ (p := Hid (c_10 41 23 = n3)) ((hF_12 41 23 (fun h => absurd h.1 (nn rfl))).trans (hm3)) (fun kn_118 => (hv_ (p := Hid (c_83 41 23 = n3)) ((hF_85 41 23 qn_b79f282cd).trans ((up_c (nn rfl)).trans (hid kn_118))) (fun kn_119 => (hv_ (p := c_83 41 23 = n3) ((hid kn_119)) (fun h_120 => (hv_ (p := Hid (c_83 0 12 = c_10 0 12)) ((hF_85 0 12 qn_666ded271).trans (up_c (nn rfl))) (fun kn_121 => ?_)))))))))))))))
  refine hv_ (p := c_83 0 12 = c_10 0 12) ((hid kn_121)) (fun h_122 => (hv_ (p := c_83 42 0 = c_83 42 0) (rfl) (fun h_123 => (hv_ (p := Hid (c_10 0 13 = c 0 13)) (hF_12 0 13 (fun h => absurd h.2 (ni rfl))) (fun kn_124 => (hv_ (p := Hid (c_83 0 13 = c 0 13)) ((hF_85 0 13 qn_666ded271).trans ((up_c (nn rfl)).trans (hid kn_124))) (fun kn_125 => (hv_ (p := c_83 0 13 = c 0 13) ((hid kn_125)) (fun h_126 => (hv_ (p := c_83 42 1 = c_83 42 1) (rfl) (fun h_127 => ?_)))))))))))
  exact K P Q c_83 0 (of_decide_eq_true rfl) hI_84 ⟨by omega, ub_fr hU (fun j => (hF_85 2 j qn_2ad67e194).trans ((up_c (nn rfl)).trans (hF_12 2 j (fun h => absurd h.1 (nn rfl))))) (fun j => (hF_85 43 j qn_1520ff5e3).trans ((up_c (nn rfl)).trans (hF_12 43 j (fun h => absurd h.1 (nn rfl))))), ⟨by omega, by omega, by omega, by omega⟩, ⟨by omega, by omega⟩⟩

