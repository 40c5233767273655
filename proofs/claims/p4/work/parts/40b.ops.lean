/-! ===== the calls of the law 2 ===== -/
theorem qn_0bb414bab {j : Int} : ¬ (((1 : Nat) = 41 ∧ j = 0) ∨ (1 : Nat) = 42 ∨ (1 : Nat) = 65) := (fun q => q.elim (fun h => absurd h.1 (nn rfl)) (fun q => q.elim (fun h => absurd h (nn rfl)) (fun h => absurd h (nn rfl))))
theorem qn_ebfe7b626 : ¬ (((41 : Nat) = 41 ∧ (2 : Int) = 0) ∨ (41 : Nat) = 42 ∨ (41 : Nat) = 65) := (fun q => q.elim (fun h => absurd h.2 (ni rfl)) (fun q => q.elim (fun h => absurd h (nn rfl)) (fun h => absurd h (nn rfl))))
theorem qn_43b5cfd28 {j : Int} : ¬ (((2 : Nat) = 41 ∧ j = 0) ∨ (2 : Nat) = 42 ∨ (2 : Nat) = 65) := (fun q => q.elim (fun h => absurd h.1 (nn rfl)) (fun q => q.elim (fun h => absurd h (nn rfl)) (fun h => absurd h (nn rfl))))
theorem qn_6069d5231 {j : Int} : ¬ (((43 : Nat) = 41 ∧ j = 0) ∨ (43 : Nat) = 42 ∨ (43 : Nat) = 65) := (fun q => q.elim (fun h => absurd h.1 (nn rfl)) (fun q => q.elim (fun h => absurd h (nn rfl)) (fun h => absurd h (nn rfl))))
theorem qn_db0fa2040 {P : Nat} (hP : P = 13 ∨ P = 25) : ¬ ((1 : Nat) = (P + 10) ∨ (1 : Nat) = (P + 11)) := (fun q => q.elim (fun h => absurd h (pn hP rfl rfl)) (fun h => absurd h (pn hP rfl rfl)))
theorem qn_965711e77 {j : Int} : ¬ (((1 : Nat) = 41 ∧ j = 0) ∨ (1 : Nat) = 59 ∨ (1 : Nat) = 54 ∨ (1 : Nat) = 55) := (fun q => q.elim (fun h => absurd h.1 (nn rfl)) (fun q => q.elim (fun h => absurd h (nn rfl)) (fun q => q.elim (fun h => absurd h (nn rfl)) (fun h => absurd h (nn rfl)))))
theorem qn_4d24c7afb {P : Nat} (hP : P = 13 ∨ P = 25) : ¬ ((41 : Nat) = (P + 10) ∨ (41 : Nat) = (P + 11)) := (fun q => q.elim (fun h => absurd h (pn hP rfl rfl)) (fun h => absurd h (pn hP rfl rfl)))
theorem qn_dd6cb5371 : ¬ (((41 : Nat) = 41 ∧ (2 : Int) = 0) ∨ (41 : Nat) = 59 ∨ (41 : Nat) = 54 ∨ (41 : Nat) = 55) := (fun q => q.elim (fun h => absurd h.2 (ni rfl)) (fun q => q.elim (fun h => absurd h (nn rfl)) (fun q => q.elim (fun h => absurd h (nn rfl)) (fun h => absurd h (nn rfl)))))
theorem qn_7bbf03f40 {j : Int} : ¬ (((2 : Nat) = 41 ∧ j = 0) ∨ (2 : Nat) = 59 ∨ (2 : Nat) = 54 ∨ (2 : Nat) = 55) := (fun q => q.elim (fun h => absurd h.1 (nn rfl)) (fun q => q.elim (fun h => absurd h (nn rfl)) (fun q => q.elim (fun h => absurd h (nn rfl)) (fun h => absurd h (nn rfl)))))
theorem qn_389d7b966 {P : Nat} (hP : P = 13 ∨ P = 25) : ¬ ((2 : Nat) = (P + 10) ∨ (2 : Nat) = (P + 11)) := (fun q => q.elim (fun h => absurd h (pn hP rfl rfl)) (fun h => absurd h (pn hP rfl rfl)))
theorem qn_da8a66655 {j : Int} : ¬ (((43 : Nat) = 41 ∧ j = 0) ∨ (43 : Nat) = 59 ∨ (43 : Nat) = 54 ∨ (43 : Nat) = 55) := (fun q => q.elim (fun h => absurd h.1 (nn rfl)) (fun q => q.elim (fun h => absurd h (nn rfl)) (fun q => q.elim (fun h => absurd h (nn rfl)) (fun h => absurd h (nn rfl)))))
theorem qn_afbd556c9 {P : Nat} (hP : P = 13 ∨ P = 25) : ¬ ((43 : Nat) = (P + 10) ∨ (43 : Nat) = (P + 11)) := (fun q => q.elim (fun h => absurd h (pn hP rfl rfl)) (fun h => absurd h (pn hP rfl rfl)))
theorem qn_bcb6129a7 {P : Nat} {j : Int} (hP : P = 13 ∨ P = 25) : ¬ (((1 : Nat) = 0 ∧ j = 12) ∨ (1 : Nat) = (P + 10) ∨ (1 : Nat) = (P + 11) ∨ (1 : Nat) = 40) := (fun q => q.elim (fun h => absurd h.1 (nn rfl)) (fun q => q.elim (fun h => absurd h (pn hP rfl rfl)) (fun q => q.elim (fun h => absurd h (pn hP rfl rfl)) (fun h => absurd h (nn rfl)))))
theorem qn_c1b212892 {P : Nat} {j : Int} (hP : P = 13 ∨ P = 25) : ¬ (((41 : Nat) = 0 ∧ j = 12) ∨ (41 : Nat) = (P + 10) ∨ (41 : Nat) = (P + 11) ∨ (41 : Nat) = 40) := (fun q => q.elim (fun h => absurd h.1 (nn rfl)) (fun q => q.elim (fun h => absurd h (pn hP rfl rfl)) (fun q => q.elim (fun h => absurd h (pn hP rfl rfl)) (fun h => absurd h (nn rfl)))))
theorem qn_c44a51550 {P : Nat} {j : Int} (hP : P = 13 ∨ P = 25) : ¬ (((2 : Nat) = 0 ∧ j = 12) ∨ (2 : Nat) = (P + 10) ∨ (2 : Nat) = (P + 11) ∨ (2 : Nat) = 40) := (fun q => q.elim (fun h => absurd h.1 (nn rfl)) (fun q => q.elim (fun h => absurd h (pn hP rfl rfl)) (fun q => q.elim (fun h => absurd h (pn hP rfl rfl)) (fun h => absurd h (nn rfl)))))
theorem qn_2e57cdabe {P : Nat} {j : Int} (hP : P = 13 ∨ P = 25) : ¬ (((43 : Nat) = 0 ∧ j = 12) ∨ (43 : Nat) = (P + 10) ∨ (43 : Nat) = (P + 11) ∨ (43 : Nat) = 40) := (fun q => q.elim (fun h => absurd h.1 (nn rfl)) (fun q => q.elim (fun h => absurd h (pn hP rfl rfl)) (fun q => q.elim (fun h => absurd h (pn hP rfl rfl)) (fun h => absurd h (nn rfl)))))
theorem qn_cc1064621 {P : Nat} {j : Int} (hP : P = 13 ∨ P = 25) : ¬ (((1 : Nat) = 0 ∧ j = 13) ∨ (1 : Nat) = (P + 10) ∨ (1 : Nat) = (P + 11) ∨ ((1 : Nat) = 9 ∧ j = 0) ∨ (1 : Nat) = 40) := (fun q => q.elim (fun h => absurd h.1 (nn rfl)) (fun q => q.elim (fun h => absurd h (pn hP rfl rfl)) (fun q => q.elim (fun h => absurd h (pn hP rfl rfl)) (fun q => q.elim (fun h => absurd h.1 (nn rfl)) (fun h => absurd h (nn rfl))))))
theorem qn_9d94bd60f {j : Int} : ¬ (((1 : Nat) = 41 ∧ j = 0) ∨ (1 : Nat) = 42 ∨ ((1 : Nat) = 41 ∧ j = 50) ∨ (1 : Nat) = 59 ∨ (1 : Nat) = 54 ∨ (1 : Nat) = 55) := (fun q => q.elim (fun h => absurd h.1 (nn rfl)) (fun q => q.elim (fun h => absurd h (nn rfl)) (fun q => q.elim (fun h => absurd h.1 (nn rfl)) (fun q => q.elim (fun h => absurd h (nn rfl)) (fun q => q.elim (fun h => absurd h (nn rfl)) (fun h => absurd h (nn rfl)))))))
theorem qn_55346d250 {P : Nat} {j : Int} (hP : P = 13 ∨ P = 25) : ¬ (((41 : Nat) = 0 ∧ j = 13) ∨ (41 : Nat) = (P + 10) ∨ (41 : Nat) = (P + 11) ∨ ((41 : Nat) = 9 ∧ j = 0) ∨ (41 : Nat) = 40) := (fun q => q.elim (fun h => absurd h.1 (nn rfl)) (fun q => q.elim (fun h => absurd h (pn hP rfl rfl)) (fun q => q.elim (fun h => absurd h (pn hP rfl rfl)) (fun q => q.elim (fun h => absurd h.1 (nn rfl)) (fun h => absurd h (nn rfl))))))
theorem qn_9f4d5821f : ¬ (((41 : Nat) = 41 ∧ (2 : Int) = 0) ∨ (41 : Nat) = 42 ∨ ((41 : Nat) = 41 ∧ (2 : Int) = 50) ∨ (41 : Nat) = 59 ∨ (41 : Nat) = 54 ∨ (41 : Nat) = 55) := (fun q => q.elim (fun h => absurd h.2 (ni rfl)) (fun q => q.elim (fun h => absurd h (nn rfl)) (fun q => q.elim (fun h => absurd h.2 (ni rfl)) (fun q => q.elim (fun h => absurd h (nn rfl)) (fun q => q.elim (fun h => absurd h (nn rfl)) (fun h => absurd h (nn rfl)))))))
theorem qn_ea1d8203a {j : Int} : ¬ (((2 : Nat) = 41 ∧ j = 0) ∨ (2 : Nat) = 42 ∨ ((2 : Nat) = 41 ∧ j = 50) ∨ (2 : Nat) = 59 ∨ (2 : Nat) = 54 ∨ (2 : Nat) = 55) := (fun q => q.elim (fun h => absurd h.1 (nn rfl)) (fun q => q.elim (fun h => absurd h (nn rfl)) (fun q => q.elim (fun h => absurd h.1 (nn rfl)) (fun q => q.elim (fun h => absurd h (nn rfl)) (fun q => q.elim (fun h => absurd h (nn rfl)) (fun h => absurd h (nn rfl)))))))
theorem qn_11c530ba0 {P : Nat} {j : Int} (hP : P = 13 ∨ P = 25) : ¬ (((2 : Nat) = 0 ∧ j = 13) ∨ (2 : Nat) = (P + 10) ∨ (2 : Nat) = (P + 11) ∨ ((2 : Nat) = 9 ∧ j = 0) ∨ (2 : Nat) = 40) := (fun q => q.elim (fun h => absurd h.1 (nn rfl)) (fun q => q.elim (fun h => absurd h (pn hP rfl rfl)) (fun q => q.elim (fun h => absurd h (pn hP rfl rfl)) (fun q => q.elim (fun h => absurd h.1 (nn rfl)) (fun h => absurd h (nn rfl))))))
theorem qn_921fc31f7 {j : Int} : ¬ (((43 : Nat) = 41 ∧ j = 0) ∨ (43 : Nat) = 42 ∨ ((43 : Nat) = 41 ∧ j = 50) ∨ (43 : Nat) = 59 ∨ (43 : Nat) = 54 ∨ (43 : Nat) = 55) := (fun q => q.elim (fun h => absurd h.1 (nn rfl)) (fun q => q.elim (fun h => absurd h (nn rfl)) (fun q => q.elim (fun h => absurd h.1 (nn rfl)) (fun q => q.elim (fun h => absurd h (nn rfl)) (fun q => q.elim (fun h => absurd h (nn rfl)) (fun h => absurd h (nn rfl)))))))
theorem qn_ce891e06c {P : Nat} {j : Int} (hP : P = 13 ∨ P = 25) : ¬ (((43 : Nat) = 0 ∧ j = 13) ∨ (43 : Nat) = (P + 10) ∨ (43 : Nat) = (P + 11) ∨ ((43 : Nat) = 9 ∧ j = 0) ∨ (43 : Nat) = 40) := (fun q => q.elim (fun h => absurd h.1 (nn rfl)) (fun q => q.elim (fun h => absurd h (pn hP rfl rfl)) (fun q => q.elim (fun h => absurd h (pn hP rfl rfl)) (fun q => q.elim (fun h => absurd h.1 (nn rfl)) (fun h => absurd h (nn rfl))))))
theorem qn_f4ba2e69c {j : Int} : ¬ (((41 : Nat) = 3 ∧ j = 4) ∨ (41 : Nat) = 5 ∨ (41 : Nat) = 6) := (fun q => q.elim (fun h => absurd h.1 (nn rfl)) (fun q => q.elim (fun h => absurd h (nn rfl)) (fun h => absurd h (nn rfl))))
theorem qn_3963d6a95 {j : Int} : ¬ (((1 : Nat) = 3 ∧ j = 4) ∨ (1 : Nat) = 5 ∨ (1 : Nat) = 6) := (fun q => q.elim (fun h => absurd h.1 (nn rfl)) (fun q => q.elim (fun h => absurd h (nn rfl)) (fun h => absurd h (nn rfl))))
theorem qn_aabc2a966 {j : Int} : ¬ (((1 : Nat) = 41 ∧ j = 0) ∨ ((1 : Nat) = 41 ∧ j = 52) ∨ (1 : Nat) = 66) := (fun q => q.elim (fun h => absurd h.1 (nn rfl)) (fun q => q.elim (fun h => absurd h.1 (nn rfl)) (fun h => absurd h (nn rfl))))
theorem qn_e34326ac3 : ¬ (((41 : Nat) = 41 ∧ (2 : Int) = 0) ∨ ((41 : Nat) = 41 ∧ (2 : Int) = 52) ∨ (41 : Nat) = 66) := (fun q => q.elim (fun h => absurd h.2 (ni rfl)) (fun q => q.elim (fun h => absurd h.2 (ni rfl)) (fun h => absurd h (nn rfl))))
theorem qn_211572161 {j : Int} : ¬ (((2 : Nat) = 41 ∧ j = 0) ∨ ((2 : Nat) = 41 ∧ j = 52) ∨ (2 : Nat) = 66) := (fun q => q.elim (fun h => absurd h.1 (nn rfl)) (fun q => q.elim (fun h => absurd h.1 (nn rfl)) (fun h => absurd h (nn rfl))))
theorem qn_7006423a9 {j : Int} : ¬ (((2 : Nat) = 3 ∧ j = 4) ∨ (2 : Nat) = 5 ∨ (2 : Nat) = 6) := (fun q => q.elim (fun h => absurd h.1 (nn rfl)) (fun q => q.elim (fun h => absurd h (nn rfl)) (fun h => absurd h (nn rfl))))
theorem qn_42e8f904a {j : Int} : ¬ (((43 : Nat) = 41 ∧ j = 0) ∨ ((43 : Nat) = 41 ∧ j = 52) ∨ (43 : Nat) = 66) := (fun q => q.elim (fun h => absurd h.1 (nn rfl)) (fun q => q.elim (fun h => absurd h.1 (nn rfl)) (fun h => absurd h (nn rfl))))
theorem qn_7439fdc4f {j : Int} : ¬ (((43 : Nat) = 3 ∧ j = 4) ∨ (43 : Nat) = 5 ∨ (43 : Nat) = 6) := (fun q => q.elim (fun h => absurd h.1 (nn rfl)) (fun q => q.elim (fun h => absurd h (nn rfl)) (fun h => absurd h (nn rfl))))
theorem qn_4fc69d39d {j : Int} : ¬ (((41 : Nat) = 0 ∧ j = 11) ∨ ((41 : Nat) = 3 ∧ j = 3) ∨ ((41 : Nat) = 3 ∧ j = 4) ∨ (41 : Nat) = 38 ∨ (41 : Nat) = 4) := (fun q => q.elim (fun h => absurd h.1 (nn rfl)) (fun q => q.elim (fun h => absurd h.1 (nn rfl)) (fun q => q.elim (fun h => absurd h.1 (nn rfl)) (fun q => q.elim (fun h => absurd h (nn rfl)) (fun h => absurd h (nn rfl))))))
theorem qn_5ca552781 {j : Int} : ¬ (((1 : Nat) = 0 ∧ j = 11) ∨ ((1 : Nat) = 3 ∧ j = 3) ∨ ((1 : Nat) = 3 ∧ j = 4) ∨ (1 : Nat) = 38 ∨ (1 : Nat) = 4) := (fun q => q.elim (fun h => absurd h.1 (nn rfl)) (fun q => q.elim (fun h => absurd h.1 (nn rfl)) (fun q => q.elim (fun h => absurd h.1 (nn rfl)) (fun q => q.elim (fun h => absurd h (nn rfl)) (fun h => absurd h (nn rfl))))))
theorem qn_bf90d08f5 {j : Int} : ¬ (((1 : Nat) = 41 ∧ j = 0) ∨ ((1 : Nat) = 41 ∧ j = 52) ∨ ((1 : Nat) = 41 ∧ j = 35) ∨ ((1 : Nat) = 41 ∧ j = 36) ∨ (1 : Nat) = 58 ∨ (1 : Nat) = 60) := (fun q => q.elim (fun h => absurd h.1 (nn rfl)) (fun q => q.elim (fun h => absurd h.1 (nn rfl)) (fun q => q.elim (fun h => absurd h.1 (nn rfl)) (fun q => q.elim (fun h => absurd h.1 (nn rfl)) (fun q => q.elim (fun h => absurd h (nn rfl)) (fun h => absurd h (nn rfl)))))))
theorem qn_210722190 : ¬ (((41 : Nat) = 41 ∧ (2 : Int) = 0) ∨ ((41 : Nat) = 41 ∧ (2 : Int) = 52) ∨ ((41 : Nat) = 41 ∧ (2 : Int) = 35) ∨ ((41 : Nat) = 41 ∧ (2 : Int) = 36) ∨ (41 : Nat) = 58 ∨ (41 : Nat) = 60) := (fun q => q.elim (fun h => absurd h.2 (ni rfl)) (fun q => q.elim (fun h => absurd h.2 (ni rfl)) (fun q => q.elim (fun h => absurd h.2 (ni rfl)) (fun q => q.elim (fun h => absurd h.2 (ni rfl)) (fun q => q.elim (fun h => absurd h (nn rfl)) (fun h => absurd h (nn rfl)))))))
theorem qn_da2ba65fc {j : Int} : ¬ (((2 : Nat) = 41 ∧ j = 0) ∨ ((2 : Nat) = 41 ∧ j = 52) ∨ ((2 : Nat) = 41 ∧ j = 35) ∨ ((2 : Nat) = 41 ∧ j = 36) ∨ (2 : Nat) = 58 ∨ (2 : Nat) = 60) := (fun q => q.elim (fun h => absurd h.1 (nn rfl)) (fun q => q.elim (fun h => absurd h.1 (nn rfl)) (fun q => q.elim (fun h => absurd h.1 (nn rfl)) (fun q => q.elim (fun h => absurd h.1 (nn rfl)) (fun q => q.elim (fun h => absurd h (nn rfl)) (fun h => absurd h (nn rfl)))))))
theorem qn_b09292c1d {j : Int} : ¬ (((2 : Nat) = 0 ∧ j = 11) ∨ ((2 : Nat) = 3 ∧ j = 3) ∨ ((2 : Nat) = 3 ∧ j = 4) ∨ (2 : Nat) = 38 ∨ (2 : Nat) = 4) := (fun q => q.elim (fun h => absurd h.1 (nn rfl)) (fun q => q.elim (fun h => absurd h.1 (nn rfl)) (fun q => q.elim (fun h => absurd h.1 (nn rfl)) (fun q => q.elim (fun h => absurd h (nn rfl)) (fun h => absurd h (nn rfl))))))
theorem qn_9179bb198 {j : Int} : ¬ (((43 : Nat) = 41 ∧ j = 0) ∨ ((43 : Nat) = 41 ∧ j = 52) ∨ ((43 : Nat) = 41 ∧ j = 35) ∨ ((43 : Nat) = 41 ∧ j = 36) ∨ (43 : Nat) = 58 ∨ (43 : Nat) = 60) := (fun q => q.elim (fun h => absurd h.1 (nn rfl)) (fun q => q.elim (fun h => absurd h.1 (nn rfl)) (fun q => q.elim (fun h => absurd h.1 (nn rfl)) (fun q => q.elim (fun h => absurd h.1 (nn rfl)) (fun q => q.elim (fun h => absurd h (nn rfl)) (fun h => absurd h (nn rfl)))))))
theorem qn_2ecc35740 {j : Int} : ¬ (((43 : Nat) = 0 ∧ j = 11) ∨ ((43 : Nat) = 3 ∧ j = 3) ∨ ((43 : Nat) = 3 ∧ j = 4) ∨ (43 : Nat) = 38 ∨ (43 : Nat) = 4) := (fun q => q.elim (fun h => absurd h.1 (nn rfl)) (fun q => q.elim (fun h => absurd h.1 (nn rfl)) (fun q => q.elim (fun h => absurd h.1 (nn rfl)) (fun q => q.elim (fun h => absurd h (nn rfl)) (fun h => absurd h (nn rfl))))))
theorem c_296_1063 : mLk 296 1063 = some (.aload_n 1, 1) := rfl
theorem c_296_1064 : mLk 296 1064 = some (.aload_n 0, 1) := rfl
theorem c_296_1065 : mLk 296 1065 = some (.iload 4, 2) := rfl
theorem c_296_1067 : mLk 296 1067 = some (.iconst 1, 1) := rfl
theorem c_296_1068 : mLk 296 1068 = some (.iadd, 1) := rfl
theorem c_296_1069 : mLk 296 1069 = some (.iaload, 1) := rfl
theorem c_296_1070 : mLk 296 1070 = some (.aload_n 3, 1) := rfl
theorem c_296_1071 : mLk 296 1071 = some (.invokestatic 197, 3) := rfl
theorem c_280_0 : mLk 280 0 = some (.aload_n 2, 1) := rfl
theorem c_280_1 : mLk 280 1 = some (.iconst 0, 1) := rfl
theorem c_280_2 : mLk 280 2 = some (.aload_n 0, 1) := rfl
theorem c_280_3 : mLk 280 3 = some (.iload_n 1, 1) := rfl
theorem c_280_4 : mLk 280 4 = some (.invokevirtual 68, 3) := rfl
theorem c_296_1074 : mLk 296 1074 = some (.istore 5, 2) := rfl
theorem c_296_1076 : mLk 296 1076 = some (.aload_n 2, 1) := rfl
theorem c_296_1077 : mLk 296 1077 = some (.aload_n 0, 1) := rfl
theorem c_296_1078 : mLk 296 1078 = some (.iload 4, 2) := rfl
theorem c_296_1080 : mLk 296 1080 = some (.iconst 1, 1) := rfl
theorem c_296_1081 : mLk 296 1081 = some (.iadd, 1) := rfl
theorem c_296_1082 : mLk 296 1082 = some (.iaload, 1) := rfl
theorem c_296_1083 : mLk 296 1083 = some (.invokevirtual 199, 3) := rfl
theorem c_296_1086 : mLk 296 1086 = some (.istore 6, 2) := rfl
theorem c_296_1088 : mLk 296 1088 = some (.goto 756, 3) := rfl
theorem c_280_7 : mLk 280 7 = some (.i2l, 1) := rfl
theorem c_280_8 : mLk 280 8 = some (.lastore, 1) := rfl
theorem c_280_9 : mLk 280 9 = some (.goto 6, 3) := rfl
theorem c_280_15 : mLk 280 15 = some (.iconst 0, 1) := rfl
theorem c_280_16 : mLk 280 16 = some (.ireturn, 1) := rfl
theorem c_296_1091 : mLk 296 1091 = some (.aload_n 1, 1) := rfl
theorem c_296_1092 : mLk 296 1092 = some (.aload_n 0, 1) := rfl
theorem c_296_1093 : mLk 296 1093 = some (.iload 4, 2) := rfl
theorem c_296_1095 : mLk 296 1095 = some (.iconst 1, 1) := rfl
theorem c_296_1096 : mLk 296 1096 = some (.iadd, 1) := rfl
theorem c_296_1097 : mLk 296 1097 = some (.iaload, 1) := rfl
theorem c_296_1098 : mLk 296 1098 = some (.aload_n 3, 1) := rfl
theorem c_296_1099 : mLk 296 1099 = some (.invokestatic 200, 3) := rfl
theorem c_281_0 : mLk 281 0 = some (.aload_n 2, 1) := rfl
theorem c_281_1 : mLk 281 1 = some (.iconst 0, 1) := rfl
theorem c_281_2 : mLk 281 2 = some (.aload_n 0, 1) := rfl
theorem c_281_3 : mLk 281 3 = some (.iload_n 1, 1) := rfl
theorem c_281_4 : mLk 281 4 = some (.invokevirtual 71, 3) := rfl
theorem c_296_1102 : mLk 296 1102 = some (.istore 5, 2) := rfl
theorem c_296_1104 : mLk 296 1104 = some (.aload_n 2, 1) := rfl
theorem c_296_1105 : mLk 296 1105 = some (.aload_n 0, 1) := rfl
theorem c_296_1106 : mLk 296 1106 = some (.iload 4, 2) := rfl
theorem c_296_1108 : mLk 296 1108 = some (.iconst 1, 1) := rfl
theorem c_296_1109 : mLk 296 1109 = some (.iadd, 1) := rfl
theorem c_296_1110 : mLk 296 1110 = some (.iaload, 1) := rfl
theorem c_296_1111 : mLk 296 1111 = some (.invokevirtual 202, 3) := rfl
theorem c_296_1114 : mLk 296 1114 = some (.istore 6, 2) := rfl
theorem c_296_1116 : mLk 296 1116 = some (.goto 728, 3) := rfl
theorem c_281_7 : mLk 281 7 = some (.i2l, 1) := rfl
theorem c_281_8 : mLk 281 8 = some (.lastore, 1) := rfl
theorem c_281_9 : mLk 281 9 = some (.goto 6, 3) := rfl
theorem c_281_15 : mLk 281 15 = some (.iconst 0, 1) := rfl
theorem c_281_16 : mLk 281 16 = some (.ireturn, 1) := rfl
theorem c_296_1119 : mLk 296 1119 = some (.aload_n 1, 1) := rfl
theorem c_296_1120 : mLk 296 1120 = some (.aload_n 0, 1) := rfl
theorem c_296_1121 : mLk 296 1121 = some (.iload 4, 2) := rfl
theorem c_296_1123 : mLk 296 1123 = some (.iconst 1, 1) := rfl
theorem c_296_1124 : mLk 296 1124 = some (.iadd, 1) := rfl
theorem c_296_1125 : mLk 296 1125 = some (.iaload, 1) := rfl
theorem c_296_1126 : mLk 296 1126 = some (.aload_n 0, 1) := rfl
theorem c_296_1127 : mLk 296 1127 = some (.iload 4, 2) := rfl
theorem c_296_1129 : mLk 296 1129 = some (.iconst 2, 1) := rfl
theorem c_296_1130 : mLk 296 1130 = some (.iadd, 1) := rfl
theorem c_296_1131 : mLk 296 1131 = some (.iaload, 1) := rfl
theorem c_296_1132 : mLk 296 1132 = some (.aload_n 0, 1) := rfl
theorem c_296_1133 : mLk 296 1133 = some (.iload 4, 2) := rfl
theorem c_296_1135 : mLk 296 1135 = some (.iconst 3, 1) := rfl
theorem c_296_1136 : mLk 296 1136 = some (.iadd, 1) := rfl
theorem c_296_1137 : mLk 296 1137 = some (.iaload, 1) := rfl
theorem c_296_1138 : mLk 296 1138 = some (.aload_n 0, 1) := rfl
theorem c_296_1139 : mLk 296 1139 = some (.iload 4, 2) := rfl
theorem c_296_1141 : mLk 296 1141 = some (.iconst 4, 1) := rfl
theorem c_296_1142 : mLk 296 1142 = some (.iadd, 1) := rfl
theorem c_296_1143 : mLk 296 1143 = some (.iaload, 1) := rfl
theorem c_296_1144 : mLk 296 1144 = some (.aload_n 3, 1) := rfl
theorem c_296_1145 : mLk 296 1145 = some (.invokestatic 203, 3) := rfl
theorem c_282_0 : mLk 282 0 = some (.aload 5, 2) := rfl
theorem c_282_2 : mLk 282 2 = some (.iconst 0, 1) := rfl
theorem c_282_3 : mLk 282 3 = some (.aload_n 0, 1) := rfl
theorem c_282_4 : mLk 282 4 = some (.iload_n 1, 1) := rfl
theorem c_282_5 : mLk 282 5 = some (.iload_n 2, 1) := rfl
theorem c_282_6 : mLk 282 6 = some (.iload_n 3, 1) := rfl
theorem c_282_7 : mLk 282 7 = some (.iload 4, 2) := rfl
theorem c_282_9 : mLk 282 9 = some (.invokevirtual 74, 3) := rfl
theorem c_296_1148 : mLk 296 1148 = some (.istore 5, 2) := rfl
theorem c_296_1150 : mLk 296 1150 = some (.aload_n 2, 1) := rfl
theorem c_296_1151 : mLk 296 1151 = some (.aload_n 0, 1) := rfl
theorem c_296_1152 : mLk 296 1152 = some (.iload 4, 2) := rfl
theorem c_296_1154 : mLk 296 1154 = some (.iconst 1, 1) := rfl
theorem c_296_1155 : mLk 296 1155 = some (.iadd, 1) := rfl
theorem c_296_1156 : mLk 296 1156 = some (.iaload, 1) := rfl
theorem c_296_1157 : mLk 296 1157 = some (.aload_n 0, 1) := rfl
theorem c_296_1158 : mLk 296 1158 = some (.iload 4, 2) := rfl
theorem c_296_1160 : mLk 296 1160 = some (.iconst 2, 1) := rfl
theorem c_296_1161 : mLk 296 1161 = some (.iadd, 1) := rfl
theorem c_296_1162 : mLk 296 1162 = some (.iaload, 1) := rfl
theorem c_296_1163 : mLk 296 1163 = some (.aload_n 0, 1) := rfl
theorem c_296_1164 : mLk 296 1164 = some (.iload 4, 2) := rfl
theorem c_296_1166 : mLk 296 1166 = some (.iconst 3, 1) := rfl
theorem c_296_1167 : mLk 296 1167 = some (.iadd, 1) := rfl
theorem c_296_1168 : mLk 296 1168 = some (.iaload, 1) := rfl
theorem c_296_1169 : mLk 296 1169 = some (.aload_n 0, 1) := rfl
theorem c_296_1170 : mLk 296 1170 = some (.iload 4, 2) := rfl
theorem c_296_1172 : mLk 296 1172 = some (.iconst 4, 1) := rfl
theorem c_296_1173 : mLk 296 1173 = some (.iadd, 1) := rfl
theorem c_296_1174 : mLk 296 1174 = some (.iaload, 1) := rfl
theorem c_296_1175 : mLk 296 1175 = some (.invokevirtual 206, 3) := rfl
theorem c_296_1178 : mLk 296 1178 = some (.lstore 6, 2) := rfl
theorem c_296_1180 : mLk 296 1180 = some (.goto 664, 3) := rfl
theorem c_282_12 : mLk 282 12 = some (.lastore, 1) := rfl
theorem c_282_13 : mLk 282 13 = some (.goto 7, 3) := rfl
theorem c_282_20 : mLk 282 20 = some (.iconst 0, 1) := rfl
theorem c_282_21 : mLk 282 21 = some (.ireturn, 1) := rfl
theorem c_296_1183 : mLk 296 1183 = some (.aload_n 1, 1) := rfl
theorem c_296_1184 : mLk 296 1184 = some (.aload_n 0, 1) := rfl
theorem c_296_1185 : mLk 296 1185 = some (.iload 4, 2) := rfl
theorem c_296_1187 : mLk 296 1187 = some (.iconst 1, 1) := rfl
theorem c_296_1188 : mLk 296 1188 = some (.iadd, 1) := rfl
theorem c_296_1189 : mLk 296 1189 = some (.iaload, 1) := rfl
theorem c_296_1190 : mLk 296 1190 = some (.aload_n 0, 1) := rfl
theorem c_296_1191 : mLk 296 1191 = some (.iload 4, 2) := rfl
theorem c_296_1193 : mLk 296 1193 = some (.iconst 2, 1) := rfl
theorem c_296_1194 : mLk 296 1194 = some (.iadd, 1) := rfl
theorem c_296_1195 : mLk 296 1195 = some (.iaload, 1) := rfl
theorem c_296_1196 : mLk 296 1196 = some (.aload_n 0, 1) := rfl
theorem c_296_1197 : mLk 296 1197 = some (.iload 4, 2) := rfl
theorem c_296_1199 : mLk 296 1199 = some (.iconst 3, 1) := rfl
theorem c_296_1200 : mLk 296 1200 = some (.iadd, 1) := rfl
theorem c_296_1201 : mLk 296 1201 = some (.iaload, 1) := rfl
theorem c_296_1202 : mLk 296 1202 = some (.aload_n 3, 1) := rfl
theorem c_296_1203 : mLk 296 1203 = some (.invokestatic 207, 3) := rfl
theorem c_283_0 : mLk 283 0 = some (.aload 4, 2) := rfl
theorem c_283_2 : mLk 283 2 = some (.iconst 0, 1) := rfl
theorem c_283_3 : mLk 283 3 = some (.aload_n 0, 1) := rfl
theorem c_283_4 : mLk 283 4 = some (.iload_n 1, 1) := rfl
theorem c_283_5 : mLk 283 5 = some (.iload_n 2, 1) := rfl
theorem c_283_6 : mLk 283 6 = some (.iload_n 3, 1) := rfl
theorem c_283_7 : mLk 283 7 = some (.invokevirtual 78, 3) := rfl
theorem c_296_1206 : mLk 296 1206 = some (.istore 5, 2) := rfl
theorem c_296_1208 : mLk 296 1208 = some (.aload_n 2, 1) := rfl
theorem c_296_1209 : mLk 296 1209 = some (.aload_n 0, 1) := rfl
theorem c_296_1210 : mLk 296 1210 = some (.iload 4, 2) := rfl
theorem c_296_1212 : mLk 296 1212 = some (.iconst 1, 1) := rfl
theorem c_296_1213 : mLk 296 1213 = some (.iadd, 1) := rfl
theorem c_296_1214 : mLk 296 1214 = some (.iaload, 1) := rfl
theorem c_296_1215 : mLk 296 1215 = some (.aload_n 0, 1) := rfl
theorem c_296_1216 : mLk 296 1216 = some (.iload 4, 2) := rfl
theorem c_296_1218 : mLk 296 1218 = some (.iconst 2, 1) := rfl
theorem c_296_1219 : mLk 296 1219 = some (.iadd, 1) := rfl
theorem c_296_1220 : mLk 296 1220 = some (.iaload, 1) := rfl
theorem c_296_1221 : mLk 296 1221 = some (.aload_n 0, 1) := rfl
theorem c_296_1222 : mLk 296 1222 = some (.iload 4, 2) := rfl
theorem c_296_1224 : mLk 296 1224 = some (.iconst 3, 1) := rfl
theorem c_296_1225 : mLk 296 1225 = some (.iadd, 1) := rfl
theorem c_296_1226 : mLk 296 1226 = some (.iaload, 1) := rfl
theorem c_296_1227 : mLk 296 1227 = some (.invokevirtual 209, 3) := rfl
theorem c_296_1230 : mLk 296 1230 = some (.istore 6, 2) := rfl
theorem c_296_1232 : mLk 296 1232 = some (.goto 612, 3) := rfl
theorem c_283_10 : mLk 283 10 = some (.i2l, 1) := rfl
theorem c_283_11 : mLk 283 11 = some (.lastore, 1) := rfl
theorem c_283_12 : mLk 283 12 = some (.goto 7, 3) := rfl
theorem c_283_19 : mLk 283 19 = some (.iconst 0, 1) := rfl
theorem c_283_20 : mLk 283 20 = some (.ireturn, 1) := rfl
theorem c_296_1235 : mLk 296 1235 = some (.aload_n 1, 1) := rfl
theorem c_296_1236 : mLk 296 1236 = some (.aload_n 0, 1) := rfl
theorem c_296_1237 : mLk 296 1237 = some (.iload 4, 2) := rfl
theorem c_296_1239 : mLk 296 1239 = some (.iconst 1, 1) := rfl
theorem c_296_1240 : mLk 296 1240 = some (.iadd, 1) := rfl
theorem c_296_1241 : mLk 296 1241 = some (.iaload, 1) := rfl
theorem c_296_1242 : mLk 296 1242 = some (.aload_n 0, 1) := rfl
theorem c_296_1243 : mLk 296 1243 = some (.iload 4, 2) := rfl
theorem c_296_1245 : mLk 296 1245 = some (.iconst 2, 1) := rfl
theorem c_296_1246 : mLk 296 1246 = some (.iadd, 1) := rfl
theorem c_296_1247 : mLk 296 1247 = some (.iaload, 1) := rfl
theorem c_296_1248 : mLk 296 1248 = some (.aload_n 0, 1) := rfl
theorem c_296_1249 : mLk 296 1249 = some (.iload 4, 2) := rfl
theorem c_296_1251 : mLk 296 1251 = some (.iconst 3, 1) := rfl
theorem c_296_1252 : mLk 296 1252 = some (.iadd, 1) := rfl
theorem c_296_1253 : mLk 296 1253 = some (.iaload, 1) := rfl
theorem c_296_1254 : mLk 296 1254 = some (.aload_n 3, 1) := rfl
theorem c_296_1255 : mLk 296 1255 = some (.invokestatic 210, 3) := rfl
theorem c_284_0 : mLk 284 0 = some (.aload 4, 2) := rfl
theorem c_284_2 : mLk 284 2 = some (.iconst 0, 1) := rfl
theorem c_284_3 : mLk 284 3 = some (.aload_n 0, 1) := rfl
theorem c_284_4 : mLk 284 4 = some (.iload_n 1, 1) := rfl
theorem c_284_5 : mLk 284 5 = some (.iload_n 2, 1) := rfl
theorem c_284_6 : mLk 284 6 = some (.iload_n 3, 1) := rfl
theorem c_284_7 : mLk 284 7 = some (.invokevirtual 81, 3) := rfl
theorem c_296_1258 : mLk 296 1258 = some (.istore 5, 2) := rfl
theorem c_296_1260 : mLk 296 1260 = some (.aload_n 2, 1) := rfl
theorem c_296_1261 : mLk 296 1261 = some (.aload_n 0, 1) := rfl
theorem c_296_1262 : mLk 296 1262 = some (.iload 4, 2) := rfl
theorem c_296_1264 : mLk 296 1264 = some (.iconst 1, 1) := rfl
theorem c_296_1265 : mLk 296 1265 = some (.iadd, 1) := rfl
theorem c_296_1266 : mLk 296 1266 = some (.iaload, 1) := rfl
theorem c_296_1267 : mLk 296 1267 = some (.aload_n 0, 1) := rfl
theorem c_296_1268 : mLk 296 1268 = some (.iload 4, 2) := rfl
theorem c_296_1270 : mLk 296 1270 = some (.iconst 2, 1) := rfl
theorem c_296_1271 : mLk 296 1271 = some (.iadd, 1) := rfl
theorem c_296_1272 : mLk 296 1272 = some (.iaload, 1) := rfl
theorem c_296_1273 : mLk 296 1273 = some (.aload_n 0, 1) := rfl
theorem c_296_1274 : mLk 296 1274 = some (.iload 4, 2) := rfl
theorem c_296_1276 : mLk 296 1276 = some (.iconst 3, 1) := rfl
theorem c_296_1277 : mLk 296 1277 = some (.iadd, 1) := rfl
theorem c_296_1278 : mLk 296 1278 = some (.iaload, 1) := rfl
theorem c_296_1279 : mLk 296 1279 = some (.invokevirtual 212, 3) := rfl
theorem c_296_1282 : mLk 296 1282 = some (.istore 6, 2) := rfl
theorem c_296_1284 : mLk 296 1284 = some (.goto 560, 3) := rfl
theorem c_284_10 : mLk 284 10 = some (.i2l, 1) := rfl
theorem c_284_11 : mLk 284 11 = some (.lastore, 1) := rfl
theorem c_284_12 : mLk 284 12 = some (.goto 11, 3) := rfl
theorem c_284_23 : mLk 284 23 = some (.iconst 0, 1) := rfl
theorem c_284_24 : mLk 284 24 = some (.ireturn, 1) := rfl
theorem c_296_1287 : mLk 296 1287 = some (.aload_n 1, 1) := rfl
theorem c_296_1288 : mLk 296 1288 = some (.aload_n 0, 1) := rfl
theorem c_296_1289 : mLk 296 1289 = some (.iload 4, 2) := rfl
theorem c_296_1291 : mLk 296 1291 = some (.iconst 1, 1) := rfl
theorem c_296_1292 : mLk 296 1292 = some (.iadd, 1) := rfl
theorem c_296_1293 : mLk 296 1293 = some (.iaload, 1) := rfl
theorem c_296_1294 : mLk 296 1294 = some (.aload_n 3, 1) := rfl
theorem c_296_1295 : mLk 296 1295 = some (.invokestatic 213, 3) := rfl
theorem c_285_0 : mLk 285 0 = some (.aload_n 2, 1) := rfl
theorem c_285_1 : mLk 285 1 = some (.iconst 0, 1) := rfl
theorem c_285_2 : mLk 285 2 = some (.aload_n 0, 1) := rfl
theorem c_285_3 : mLk 285 3 = some (.iload_n 1, 1) := rfl
theorem c_285_4 : mLk 285 4 = some (.invokevirtual 84, 3) := rfl
theorem c_296_1298 : mLk 296 1298 = some (.istore 5, 2) := rfl
theorem c_296_1300 : mLk 296 1300 = some (.aload_n 2, 1) := rfl
theorem c_296_1301 : mLk 296 1301 = some (.aload_n 0, 1) := rfl
theorem c_296_1302 : mLk 296 1302 = some (.iload 4, 2) := rfl
theorem c_296_1304 : mLk 296 1304 = some (.iconst 1, 1) := rfl
theorem c_296_1305 : mLk 296 1305 = some (.iadd, 1) := rfl
theorem c_296_1306 : mLk 296 1306 = some (.iaload, 1) := rfl
theorem c_296_1307 : mLk 296 1307 = some (.invokevirtual 215, 3) := rfl
theorem c_296_1310 : mLk 296 1310 = some (.istore 6, 2) := rfl
theorem c_296_1312 : mLk 296 1312 = some (.goto 532, 3) := rfl
theorem c_285_7 : mLk 285 7 = some (.i2l, 1) := rfl
theorem c_285_8 : mLk 285 8 = some (.lastore, 1) := rfl
theorem c_285_9 : mLk 285 9 = some (.goto 6, 3) := rfl
theorem c_285_15 : mLk 285 15 = some (.iconst 0, 1) := rfl
theorem c_285_16 : mLk 285 16 = some (.ireturn, 1) := rfl
theorem c_296_1315 : mLk 296 1315 = some (.aload_n 1, 1) := rfl
theorem c_296_1316 : mLk 296 1316 = some (.invokevirtual 216, 3) := rfl
theorem c_296_1319 : mLk 296 1319 = some (.pop, 1) := rfl
theorem c_296_1320 : mLk 296 1320 = some (.aload_n 2, 1) := rfl
theorem c_296_1321 : mLk 296 1321 = some (.invokevirtual 219, 3) := rfl
theorem c_296_1324 : mLk 296 1324 = some (.pop, 1) := rfl
theorem c_296_1325 : mLk 296 1325 = some (.goto 519, 3) := rfl
theorem c_296_1328 : mLk 296 1328 = some (.aload_n 1, 1) := rfl
theorem c_296_1329 : mLk 296 1329 = some (.aload_n 0, 1) := rfl
theorem c_296_1330 : mLk 296 1330 = some (.iload 4, 2) := rfl
theorem c_296_1332 : mLk 296 1332 = some (.iconst 1, 1) := rfl
theorem c_296_1333 : mLk 296 1333 = some (.iadd, 1) := rfl
theorem c_296_1334 : mLk 296 1334 = some (.iaload, 1) := rfl
theorem c_296_1335 : mLk 296 1335 = some (.aload_n 0, 1) := rfl
theorem c_296_1336 : mLk 296 1336 = some (.iload 4, 2) := rfl
theorem c_296_1338 : mLk 296 1338 = some (.iconst 2, 1) := rfl
theorem c_296_1339 : mLk 296 1339 = some (.iadd, 1) := rfl
theorem c_296_1340 : mLk 296 1340 = some (.iaload, 1) := rfl
theorem c_296_1341 : mLk 296 1341 = some (.aload_n 3, 1) := rfl
theorem c_296_1342 : mLk 296 1342 = some (.invokestatic 220, 3) := rfl
theorem c_286_0 : mLk 286 0 = some (.aload_n 3, 1) := rfl
theorem c_286_1 : mLk 286 1 = some (.iconst 0, 1) := rfl
theorem c_286_2 : mLk 286 2 = some (.aload_n 0, 1) := rfl
theorem c_286_3 : mLk 286 3 = some (.iload_n 1, 1) := rfl
theorem c_286_4 : mLk 286 4 = some (.iload_n 2, 1) := rfl
theorem c_286_5 : mLk 286 5 = some (.invokevirtual 87, 3) := rfl
theorem c_296_1345 : mLk 296 1345 = some (.istore 5, 2) := rfl
theorem c_296_1347 : mLk 296 1347 = some (.aload_n 2, 1) := rfl
theorem c_296_1348 : mLk 296 1348 = some (.aload_n 0, 1) := rfl
theorem c_296_1349 : mLk 296 1349 = some (.iload 4, 2) := rfl
theorem c_296_1351 : mLk 296 1351 = some (.iconst 1, 1) := rfl
theorem c_296_1352 : mLk 296 1352 = some (.iadd, 1) := rfl
theorem c_296_1353 : mLk 296 1353 = some (.iaload, 1) := rfl
theorem c_296_1354 : mLk 296 1354 = some (.aload_n 0, 1) := rfl
theorem c_296_1355 : mLk 296 1355 = some (.iload 4, 2) := rfl
theorem c_296_1357 : mLk 296 1357 = some (.iconst 2, 1) := rfl
theorem c_296_1358 : mLk 296 1358 = some (.iadd, 1) := rfl
theorem c_296_1359 : mLk 296 1359 = some (.iaload, 1) := rfl
theorem c_296_1360 : mLk 296 1360 = some (.invokevirtual 222, 3) := rfl
theorem c_296_1363 : mLk 296 1363 = some (.istore 6, 2) := rfl
theorem c_296_1365 : mLk 296 1365 = some (.goto 479, 3) := rfl
theorem c_286_8 : mLk 286 8 = some (.i2l, 1) := rfl
theorem c_286_9 : mLk 286 9 = some (.lastore, 1) := rfl
theorem c_286_10 : mLk 286 10 = some (.goto 7, 3) := rfl
theorem c_286_17 : mLk 286 17 = some (.iconst 0, 1) := rfl
theorem c_286_18 : mLk 286 18 = some (.ireturn, 1) := rfl
theorem c_296_1368 : mLk 296 1368 = some (.aload_n 1, 1) := rfl
theorem c_296_1369 : mLk 296 1369 = some (.invokevirtual 223, 3) := rfl
theorem c_296_1372 : mLk 296 1372 = some (.pop, 1) := rfl
theorem c_296_1373 : mLk 296 1373 = some (.aload_n 2, 1) := rfl
theorem c_296_1374 : mLk 296 1374 = some (.invokevirtual 226, 3) := rfl
theorem c_296_1377 : mLk 296 1377 = some (.pop, 1) := rfl
theorem c_296_1378 : mLk 296 1378 = some (.goto 466, 3) := rfl
theorem c_296_1381 : mLk 296 1381 = some (.aload_n 1, 1) := rfl
theorem c_296_1382 : mLk 296 1382 = some (.aload_n 0, 1) := rfl
theorem c_296_1383 : mLk 296 1383 = some (.iload 4, 2) := rfl
theorem c_296_1385 : mLk 296 1385 = some (.iconst 1, 1) := rfl
theorem c_296_1386 : mLk 296 1386 = some (.iadd, 1) := rfl
theorem c_296_1387 : mLk 296 1387 = some (.iaload, 1) := rfl
theorem c_296_1388 : mLk 296 1388 = some (.aload_n 3, 1) := rfl
theorem c_296_1389 : mLk 296 1389 = some (.invokestatic 227, 3) := rfl
theorem c_287_0 : mLk 287 0 = some (.aload_n 2, 1) := rfl
theorem c_287_1 : mLk 287 1 = some (.iconst 0, 1) := rfl
theorem c_287_2 : mLk 287 2 = some (.aload_n 0, 1) := rfl
theorem c_287_3 : mLk 287 3 = some (.iload_n 1, 1) := rfl
theorem c_287_4 : mLk 287 4 = some (.invokevirtual 90, 3) := rfl
theorem c_296_1392 : mLk 296 1392 = some (.istore 5, 2) := rfl
theorem c_296_1394 : mLk 296 1394 = some (.aload_n 2, 1) := rfl
theorem c_296_1395 : mLk 296 1395 = some (.aload_n 0, 1) := rfl
theorem c_296_1396 : mLk 296 1396 = some (.iload 4, 2) := rfl
theorem c_296_1398 : mLk 296 1398 = some (.iconst 1, 1) := rfl
theorem c_296_1399 : mLk 296 1399 = some (.iadd, 1) := rfl
theorem c_296_1400 : mLk 296 1400 = some (.iaload, 1) := rfl
theorem c_296_1401 : mLk 296 1401 = some (.invokevirtual 229, 3) := rfl
theorem c_296_1404 : mLk 296 1404 = some (.istore 6, 2) := rfl
theorem c_296_1406 : mLk 296 1406 = some (.goto 438, 3) := rfl
theorem c_287_7 : mLk 287 7 = some (.i2l, 1) := rfl
theorem c_287_8 : mLk 287 8 = some (.lastore, 1) := rfl
theorem c_287_9 : mLk 287 9 = some (.goto 6, 3) := rfl
theorem c_287_15 : mLk 287 15 = some (.iconst 0, 1) := rfl
theorem c_287_16 : mLk 287 16 = some (.ireturn, 1) := rfl
theorem c_296_1409 : mLk 296 1409 = some (.aload_n 1, 1) := rfl
theorem c_296_1410 : mLk 296 1410 = some (.aload_n 0, 1) := rfl
theorem c_296_1411 : mLk 296 1411 = some (.iload 4, 2) := rfl
theorem c_296_1413 : mLk 296 1413 = some (.iconst 1, 1) := rfl
theorem c_296_1414 : mLk 296 1414 = some (.iadd, 1) := rfl
theorem c_296_1415 : mLk 296 1415 = some (.iaload, 1) := rfl
theorem c_296_1416 : mLk 296 1416 = some (.aload_n 3, 1) := rfl
theorem c_296_1417 : mLk 296 1417 = some (.invokestatic 230, 3) := rfl
theorem c_288_0 : mLk 288 0 = some (.aload_n 2, 1) := rfl
theorem c_288_1 : mLk 288 1 = some (.iconst 0, 1) := rfl
theorem c_288_2 : mLk 288 2 = some (.aload_n 0, 1) := rfl
theorem c_288_3 : mLk 288 3 = some (.iload_n 1, 1) := rfl
theorem c_288_4 : mLk 288 4 = some (.invokevirtual 93, 3) := rfl
theorem c_296_1420 : mLk 296 1420 = some (.istore 5, 2) := rfl
theorem c_296_1422 : mLk 296 1422 = some (.aload_n 2, 1) := rfl
theorem c_296_1423 : mLk 296 1423 = some (.aload_n 0, 1) := rfl
theorem c_296_1424 : mLk 296 1424 = some (.iload 4, 2) := rfl
theorem c_296_1426 : mLk 296 1426 = some (.iconst 1, 1) := rfl
theorem c_296_1427 : mLk 296 1427 = some (.iadd, 1) := rfl
theorem c_296_1428 : mLk 296 1428 = some (.iaload, 1) := rfl
theorem c_296_1429 : mLk 296 1429 = some (.invokevirtual 232, 3) := rfl
theorem c_296_1432 : mLk 296 1432 = some (.istore 6, 2) := rfl
theorem c_296_1434 : mLk 296 1434 = some (.goto 410, 3) := rfl
theorem c_288_7 : mLk 288 7 = some (.i2l, 1) := rfl
theorem c_288_8 : mLk 288 8 = some (.lastore, 1) := rfl
theorem c_288_9 : mLk 288 9 = some (.goto 6, 3) := rfl
theorem c_288_15 : mLk 288 15 = some (.iconst 0, 1) := rfl
theorem c_288_16 : mLk 288 16 = some (.ireturn, 1) := rfl
theorem c_296_1437 : mLk 296 1437 = some (.aload_n 1, 1) := rfl
theorem c_296_1438 : mLk 296 1438 = some (.aload_n 0, 1) := rfl
theorem c_296_1439 : mLk 296 1439 = some (.iload 4, 2) := rfl
theorem c_296_1441 : mLk 296 1441 = some (.iconst 1, 1) := rfl
theorem c_296_1442 : mLk 296 1442 = some (.iadd, 1) := rfl
theorem c_296_1443 : mLk 296 1443 = some (.iaload, 1) := rfl
theorem c_296_1444 : mLk 296 1444 = some (.aload_n 3, 1) := rfl
theorem c_296_1445 : mLk 296 1445 = some (.invokestatic 233, 3) := rfl
theorem c_289_0 : mLk 289 0 = some (.aload_n 2, 1) := rfl
theorem c_289_1 : mLk 289 1 = some (.iconst 0, 1) := rfl
theorem c_289_2 : mLk 289 2 = some (.aload_n 0, 1) := rfl
theorem c_289_3 : mLk 289 3 = some (.iload_n 1, 1) := rfl
theorem c_289_4 : mLk 289 4 = some (.invokevirtual 96, 3) := rfl
theorem c_296_1448 : mLk 296 1448 = some (.istore 5, 2) := rfl
theorem c_296_1450 : mLk 296 1450 = some (.aload_n 2, 1) := rfl
theorem c_296_1451 : mLk 296 1451 = some (.aload_n 0, 1) := rfl
theorem c_296_1452 : mLk 296 1452 = some (.iload 4, 2) := rfl
theorem c_296_1454 : mLk 296 1454 = some (.iconst 1, 1) := rfl
theorem c_296_1455 : mLk 296 1455 = some (.iadd, 1) := rfl
theorem c_296_1456 : mLk 296 1456 = some (.iaload, 1) := rfl
theorem c_296_1457 : mLk 296 1457 = some (.invokevirtual 235, 3) := rfl
theorem c_296_1460 : mLk 296 1460 = some (.istore 6, 2) := rfl
theorem c_296_1462 : mLk 296 1462 = some (.goto 382, 3) := rfl
theorem c_289_7 : mLk 289 7 = some (.i2l, 1) := rfl
theorem c_289_8 : mLk 289 8 = some (.lastore, 1) := rfl
theorem c_289_9 : mLk 289 9 = some (.goto 6, 3) := rfl
theorem c_289_15 : mLk 289 15 = some (.iconst 0, 1) := rfl
theorem c_289_16 : mLk 289 16 = some (.ireturn, 1) := rfl
theorem c_296_1465 : mLk 296 1465 = some (.aload_n 1, 1) := rfl
theorem c_296_1466 : mLk 296 1466 = some (.aload_n 0, 1) := rfl
theorem c_296_1467 : mLk 296 1467 = some (.iload 4, 2) := rfl
theorem c_296_1469 : mLk 296 1469 = some (.iconst 1, 1) := rfl
theorem c_296_1470 : mLk 296 1470 = some (.iadd, 1) := rfl
theorem c_296_1471 : mLk 296 1471 = some (.iaload, 1) := rfl
theorem c_296_1472 : mLk 296 1472 = some (.aload_n 3, 1) := rfl
theorem c_296_1473 : mLk 296 1473 = some (.invokestatic 236, 3) := rfl
theorem c_290_0 : mLk 290 0 = some (.aload_n 2, 1) := rfl
theorem c_290_1 : mLk 290 1 = some (.iconst 0, 1) := rfl
theorem c_290_2 : mLk 290 2 = some (.aload_n 0, 1) := rfl
theorem c_290_3 : mLk 290 3 = some (.iload_n 1, 1) := rfl
theorem c_290_4 : mLk 290 4 = some (.invokevirtual 99, 3) := rfl
theorem c_296_1476 : mLk 296 1476 = some (.istore 5, 2) := rfl
theorem c_296_1478 : mLk 296 1478 = some (.aload_n 2, 1) := rfl
theorem c_296_1479 : mLk 296 1479 = some (.aload_n 0, 1) := rfl
theorem c_296_1480 : mLk 296 1480 = some (.iload 4, 2) := rfl
theorem c_296_1482 : mLk 296 1482 = some (.iconst 1, 1) := rfl
theorem c_296_1483 : mLk 296 1483 = some (.iadd, 1) := rfl
theorem c_296_1484 : mLk 296 1484 = some (.iaload, 1) := rfl
theorem c_296_1485 : mLk 296 1485 = some (.invokevirtual 238, 3) := rfl
theorem c_296_1488 : mLk 296 1488 = some (.istore 6, 2) := rfl
theorem c_296_1490 : mLk 296 1490 = some (.goto 354, 3) := rfl
theorem c_290_7 : mLk 290 7 = some (.i2l, 1) := rfl
theorem c_290_8 : mLk 290 8 = some (.lastore, 1) := rfl
theorem c_290_9 : mLk 290 9 = some (.goto 6, 3) := rfl
theorem c_290_15 : mLk 290 15 = some (.iconst 0, 1) := rfl
theorem c_290_16 : mLk 290 16 = some (.ireturn, 1) := rfl
theorem c_296_1493 : mLk 296 1493 = some (.aload_n 1, 1) := rfl
theorem c_296_1494 : mLk 296 1494 = some (.aload_n 0, 1) := rfl
theorem c_296_1495 : mLk 296 1495 = some (.iload 4, 2) := rfl
theorem c_296_1497 : mLk 296 1497 = some (.iconst 1, 1) := rfl
theorem c_296_1498 : mLk 296 1498 = some (.iadd, 1) := rfl
theorem c_296_1499 : mLk 296 1499 = some (.iaload, 1) := rfl
theorem c_296_1500 : mLk 296 1500 = some (.aload_n 0, 1) := rfl
theorem c_296_1501 : mLk 296 1501 = some (.iload 4, 2) := rfl
theorem c_296_1503 : mLk 296 1503 = some (.iconst 2, 1) := rfl
theorem c_296_1504 : mLk 296 1504 = some (.iadd, 1) := rfl
theorem c_296_1505 : mLk 296 1505 = some (.iaload, 1) := rfl
theorem c_296_1506 : mLk 296 1506 = some (.aload_n 3, 1) := rfl
theorem c_296_1507 : mLk 296 1507 = some (.invokestatic 239, 3) := rfl
theorem c_291_0 : mLk 291 0 = some (.aload_n 3, 1) := rfl
theorem c_291_1 : mLk 291 1 = some (.iconst 0, 1) := rfl
theorem c_291_2 : mLk 291 2 = some (.aload_n 0, 1) := rfl
theorem c_291_3 : mLk 291 3 = some (.iload_n 1, 1) := rfl
theorem c_291_4 : mLk 291 4 = some (.iload_n 2, 1) := rfl
theorem c_291_5 : mLk 291 5 = some (.invokevirtual 102, 3) := rfl
theorem c_296_1510 : mLk 296 1510 = some (.istore 5, 2) := rfl
theorem c_296_1512 : mLk 296 1512 = some (.aload_n 2, 1) := rfl
theorem c_296_1513 : mLk 296 1513 = some (.aload_n 0, 1) := rfl
theorem c_296_1514 : mLk 296 1514 = some (.iload 4, 2) := rfl
theorem c_296_1516 : mLk 296 1516 = some (.iconst 1, 1) := rfl
theorem c_296_1517 : mLk 296 1517 = some (.iadd, 1) := rfl
theorem c_296_1518 : mLk 296 1518 = some (.iaload, 1) := rfl
theorem c_296_1519 : mLk 296 1519 = some (.aload_n 0, 1) := rfl
theorem c_296_1520 : mLk 296 1520 = some (.iload 4, 2) := rfl
theorem c_296_1522 : mLk 296 1522 = some (.iconst 2, 1) := rfl
theorem c_296_1523 : mLk 296 1523 = some (.iadd, 1) := rfl
theorem c_296_1524 : mLk 296 1524 = some (.iaload, 1) := rfl
theorem c_296_1525 : mLk 296 1525 = some (.invokevirtual 241, 3) := rfl
theorem c_296_1528 : mLk 296 1528 = some (.istore 6, 2) := rfl
theorem c_296_1530 : mLk 296 1530 = some (.goto 314, 3) := rfl
theorem c_291_8 : mLk 291 8 = some (.i2l, 1) := rfl
theorem c_291_9 : mLk 291 9 = some (.lastore, 1) := rfl
theorem c_291_10 : mLk 291 10 = some (.goto 7, 3) := rfl
theorem c_291_17 : mLk 291 17 = some (.iconst 0, 1) := rfl
theorem c_291_18 : mLk 291 18 = some (.ireturn, 1) := rfl
theorem c_296_1533 : mLk 296 1533 = some (.aload_n 1, 1) := rfl
theorem c_296_1534 : mLk 296 1534 = some (.invokevirtual 242, 3) := rfl
theorem c_296_1537 : mLk 296 1537 = some (.pop, 1) := rfl
theorem c_296_1538 : mLk 296 1538 = some (.aload_n 2, 1) := rfl
theorem c_296_1539 : mLk 296 1539 = some (.invokevirtual 245, 3) := rfl
theorem c_296_1542 : mLk 296 1542 = some (.pop, 1) := rfl
theorem c_296_1543 : mLk 296 1543 = some (.goto 301, 3) := rfl
theorem c_296_1546 : mLk 296 1546 = some (.aload_n 1, 1) := rfl
theorem c_296_1547 : mLk 296 1547 = some (.aload_n 0, 1) := rfl
theorem c_296_1548 : mLk 296 1548 = some (.iload 4, 2) := rfl
theorem c_296_1550 : mLk 296 1550 = some (.iconst 1, 1) := rfl
theorem c_296_1551 : mLk 296 1551 = some (.iadd, 1) := rfl
theorem c_296_1552 : mLk 296 1552 = some (.iaload, 1) := rfl
theorem c_296_1553 : mLk 296 1553 = some (.aload_n 3, 1) := rfl
theorem c_296_1554 : mLk 296 1554 = some (.invokestatic 246, 3) := rfl
theorem c_292_0 : mLk 292 0 = some (.aload_n 2, 1) := rfl
theorem c_292_1 : mLk 292 1 = some (.iconst 0, 1) := rfl
theorem c_292_2 : mLk 292 2 = some (.aload_n 0, 1) := rfl
theorem c_292_3 : mLk 292 3 = some (.iload_n 1, 1) := rfl
theorem c_292_4 : mLk 292 4 = some (.invokevirtual 105, 3) := rfl
theorem c_296_1557 : mLk 296 1557 = some (.istore 5, 2) := rfl
theorem c_296_1559 : mLk 296 1559 = some (.aload_n 2, 1) := rfl
theorem c_296_1560 : mLk 296 1560 = some (.aload_n 0, 1) := rfl
theorem c_296_1561 : mLk 296 1561 = some (.iload 4, 2) := rfl
theorem c_296_1563 : mLk 296 1563 = some (.iconst 1, 1) := rfl
theorem c_296_1564 : mLk 296 1564 = some (.iadd, 1) := rfl
theorem c_296_1565 : mLk 296 1565 = some (.iaload, 1) := rfl
theorem c_296_1566 : mLk 296 1566 = some (.invokevirtual 248, 3) := rfl
theorem c_296_1569 : mLk 296 1569 = some (.istore 6, 2) := rfl
theorem c_296_1571 : mLk 296 1571 = some (.goto 273, 3) := rfl
theorem c_292_7 : mLk 292 7 = some (.i2l, 1) := rfl
theorem c_292_8 : mLk 292 8 = some (.lastore, 1) := rfl
theorem c_292_9 : mLk 292 9 = some (.goto 6, 3) := rfl
theorem c_292_15 : mLk 292 15 = some (.iconst 0, 1) := rfl
theorem c_292_16 : mLk 292 16 = some (.ireturn, 1) := rfl
theorem c_296_1574 : mLk 296 1574 = some (.aload_n 1, 1) := rfl
theorem c_296_1575 : mLk 296 1575 = some (.aload_n 0, 1) := rfl
theorem c_296_1576 : mLk 296 1576 = some (.iload 4, 2) := rfl
theorem c_296_1578 : mLk 296 1578 = some (.iconst 1, 1) := rfl
theorem c_296_1579 : mLk 296 1579 = some (.iadd, 1) := rfl
theorem c_296_1580 : mLk 296 1580 = some (.iaload, 1) := rfl
theorem c_296_1581 : mLk 296 1581 = some (.aload_n 0, 1) := rfl
theorem c_296_1582 : mLk 296 1582 = some (.iload 4, 2) := rfl
theorem c_296_1584 : mLk 296 1584 = some (.iconst 2, 1) := rfl
theorem c_296_1585 : mLk 296 1585 = some (.iadd, 1) := rfl
theorem c_296_1586 : mLk 296 1586 = some (.iaload, 1) := rfl
theorem c_296_1587 : mLk 296 1587 = some (.aload_n 3, 1) := rfl
theorem c_296_1588 : mLk 296 1588 = some (.invokestatic 249, 3) := rfl
theorem c_293_0 : mLk 293 0 = some (.aload_n 3, 1) := rfl
theorem c_293_1 : mLk 293 1 = some (.iconst 0, 1) := rfl
theorem c_293_2 : mLk 293 2 = some (.aload_n 0, 1) := rfl
theorem c_293_3 : mLk 293 3 = some (.iload_n 1, 1) := rfl
theorem c_293_4 : mLk 293 4 = some (.iload_n 2, 1) := rfl
theorem c_293_5 : mLk 293 5 = some (.invokevirtual 108, 3) := rfl
theorem c_296_1591 : mLk 296 1591 = some (.istore 5, 2) := rfl
theorem c_296_1593 : mLk 296 1593 = some (.aload_n 2, 1) := rfl
theorem c_296_1594 : mLk 296 1594 = some (.aload_n 0, 1) := rfl
theorem c_296_1595 : mLk 296 1595 = some (.iload 4, 2) := rfl
theorem c_296_1597 : mLk 296 1597 = some (.iconst 1, 1) := rfl
theorem c_296_1598 : mLk 296 1598 = some (.iadd, 1) := rfl
theorem c_296_1599 : mLk 296 1599 = some (.iaload, 1) := rfl
theorem c_296_1600 : mLk 296 1600 = some (.aload_n 0, 1) := rfl
theorem c_296_1601 : mLk 296 1601 = some (.iload 4, 2) := rfl
theorem c_296_1603 : mLk 296 1603 = some (.iconst 2, 1) := rfl
theorem c_296_1604 : mLk 296 1604 = some (.iadd, 1) := rfl
theorem c_296_1605 : mLk 296 1605 = some (.iaload, 1) := rfl
theorem c_296_1606 : mLk 296 1606 = some (.invokevirtual 251, 3) := rfl
theorem c_296_1609 : mLk 296 1609 = some (.istore 6, 2) := rfl
theorem c_296_1611 : mLk 296 1611 = some (.goto 233, 3) := rfl
theorem c_293_8 : mLk 293 8 = some (.i2l, 1) := rfl
theorem c_293_9 : mLk 293 9 = some (.lastore, 1) := rfl
theorem c_293_10 : mLk 293 10 = some (.goto 11, 3) := rfl
theorem c_293_21 : mLk 293 21 = some (.iconst 0, 1) := rfl
theorem c_293_22 : mLk 293 22 = some (.ireturn, 1) := rfl
theorem c_296_1614 : mLk 296 1614 = some (.aload_n 1, 1) := rfl
theorem c_296_1615 : mLk 296 1615 = some (.aload_n 0, 1) := rfl
theorem c_296_1616 : mLk 296 1616 = some (.iload 4, 2) := rfl
theorem c_296_1618 : mLk 296 1618 = some (.iconst 1, 1) := rfl
theorem c_296_1619 : mLk 296 1619 = some (.iadd, 1) := rfl
theorem c_296_1620 : mLk 296 1620 = some (.iaload, 1) := rfl
theorem c_296_1621 : mLk 296 1621 = some (.aload_n 0, 1) := rfl
theorem c_296_1622 : mLk 296 1622 = some (.iload 4, 2) := rfl
theorem c_296_1624 : mLk 296 1624 = some (.iconst 2, 1) := rfl
theorem c_296_1625 : mLk 296 1625 = some (.iadd, 1) := rfl
theorem c_296_1626 : mLk 296 1626 = some (.iaload, 1) := rfl
theorem c_296_1627 : mLk 296 1627 = some (.aload_n 0, 1) := rfl
theorem c_296_1628 : mLk 296 1628 = some (.iload 4, 2) := rfl
theorem c_296_1630 : mLk 296 1630 = some (.iconst 3, 1) := rfl
theorem c_296_1631 : mLk 296 1631 = some (.iadd, 1) := rfl
theorem c_296_1632 : mLk 296 1632 = some (.iaload, 1) := rfl
theorem c_296_1633 : mLk 296 1633 = some (.aload_n 0, 1) := rfl
theorem c_296_1634 : mLk 296 1634 = some (.iload 4, 2) := rfl
theorem c_296_1636 : mLk 296 1636 = some (.iconst 4, 1) := rfl
theorem c_296_1637 : mLk 296 1637 = some (.iadd, 1) := rfl
theorem c_296_1638 : mLk 296 1638 = some (.iaload, 1) := rfl
theorem c_296_1639 : mLk 296 1639 = some (.aload_n 3, 1) := rfl
theorem c_296_1640 : mLk 296 1640 = some (.invokestatic 252, 3) := rfl
theorem c_294_0 : mLk 294 0 = some (.aload 5, 2) := rfl
theorem c_294_2 : mLk 294 2 = some (.iconst 0, 1) := rfl
theorem c_294_3 : mLk 294 3 = some (.aload_n 0, 1) := rfl
theorem c_294_4 : mLk 294 4 = some (.iload_n 1, 1) := rfl
theorem c_294_5 : mLk 294 5 = some (.iload_n 2, 1) := rfl
theorem c_294_6 : mLk 294 6 = some (.iload_n 3, 1) := rfl
theorem c_294_7 : mLk 294 7 = some (.iload 4, 2) := rfl
theorem c_294_9 : mLk 294 9 = some (.invokevirtual 111, 3) := rfl
theorem c_296_1643 : mLk 296 1643 = some (.istore 5, 2) := rfl
theorem c_296_1645 : mLk 296 1645 = some (.aload_n 2, 1) := rfl
theorem c_296_1646 : mLk 296 1646 = some (.aload_n 0, 1) := rfl
theorem c_296_1647 : mLk 296 1647 = some (.iload 4, 2) := rfl
theorem c_296_1649 : mLk 296 1649 = some (.iconst 1, 1) := rfl
theorem c_296_1650 : mLk 296 1650 = some (.iadd, 1) := rfl
theorem c_296_1651 : mLk 296 1651 = some (.iaload, 1) := rfl
theorem c_296_1652 : mLk 296 1652 = some (.aload_n 0, 1) := rfl
theorem c_296_1653 : mLk 296 1653 = some (.iload 4, 2) := rfl
theorem c_296_1655 : mLk 296 1655 = some (.iconst 2, 1) := rfl
theorem c_296_1656 : mLk 296 1656 = some (.iadd, 1) := rfl
theorem c_296_1657 : mLk 296 1657 = some (.iaload, 1) := rfl
theorem c_296_1658 : mLk 296 1658 = some (.aload_n 0, 1) := rfl
theorem c_296_1659 : mLk 296 1659 = some (.iload 4, 2) := rfl
theorem c_296_1661 : mLk 296 1661 = some (.iconst 3, 1) := rfl
theorem c_296_1662 : mLk 296 1662 = some (.iadd, 1) := rfl
theorem c_296_1663 : mLk 296 1663 = some (.iaload, 1) := rfl
theorem c_296_1664 : mLk 296 1664 = some (.aload_n 0, 1) := rfl
theorem c_296_1665 : mLk 296 1665 = some (.iload 4, 2) := rfl
theorem c_296_1667 : mLk 296 1667 = some (.iconst 4, 1) := rfl
theorem c_296_1668 : mLk 296 1668 = some (.iadd, 1) := rfl
theorem c_296_1669 : mLk 296 1669 = some (.iaload, 1) := rfl
theorem c_296_1670 : mLk 296 1670 = some (.invokevirtual 254, 3) := rfl
theorem c_296_1673 : mLk 296 1673 = some (.istore 6, 2) := rfl
theorem c_296_1675 : mLk 296 1675 = some (.goto 169, 3) := rfl
theorem c_294_12 : mLk 294 12 = some (.i2l, 1) := rfl
theorem c_294_13 : mLk 294 13 = some (.lastore, 1) := rfl
theorem c_294_14 : mLk 294 14 = some (.goto 7, 3) := rfl
theorem c_294_21 : mLk 294 21 = some (.iconst 0, 1) := rfl
theorem c_294_22 : mLk 294 22 = some (.ireturn, 1) := rfl
theorem c_296_1678 : mLk 296 1678 = some (.aload_n 1, 1) := rfl
theorem c_296_1679 : mLk 296 1679 = some (.aload_n 0, 1) := rfl
theorem c_296_1680 : mLk 296 1680 = some (.iload 4, 2) := rfl
theorem c_296_1682 : mLk 296 1682 = some (.iconst 1, 1) := rfl
theorem c_296_1683 : mLk 296 1683 = some (.iadd, 1) := rfl
theorem c_296_1684 : mLk 296 1684 = some (.iaload, 1) := rfl
theorem c_296_1685 : mLk 296 1685 = some (.aload_n 0, 1) := rfl
theorem c_296_1686 : mLk 296 1686 = some (.iload 4, 2) := rfl
theorem c_296_1688 : mLk 296 1688 = some (.iconst 2, 1) := rfl
theorem c_296_1689 : mLk 296 1689 = some (.iadd, 1) := rfl
theorem c_296_1690 : mLk 296 1690 = some (.iaload, 1) := rfl
theorem c_296_1691 : mLk 296 1691 = some (.aload_n 0, 1) := rfl
theorem c_296_1692 : mLk 296 1692 = some (.iload 4, 2) := rfl
theorem c_296_1694 : mLk 296 1694 = some (.iconst 3, 1) := rfl
theorem c_296_1695 : mLk 296 1695 = some (.iadd, 1) := rfl
theorem c_296_1696 : mLk 296 1696 = some (.iaload, 1) := rfl
theorem c_296_1697 : mLk 296 1697 = some (.aload_n 0, 1) := rfl
theorem c_296_1698 : mLk 296 1698 = some (.iload 4, 2) := rfl
theorem c_296_1700 : mLk 296 1700 = some (.iconst 4, 1) := rfl
theorem c_296_1701 : mLk 296 1701 = some (.iadd, 1) := rfl
theorem c_296_1702 : mLk 296 1702 = some (.iaload, 1) := rfl
theorem c_296_1703 : mLk 296 1703 = some (.aload_n 0, 1) := rfl
theorem c_296_1704 : mLk 296 1704 = some (.iload 4, 2) := rfl
theorem c_296_1706 : mLk 296 1706 = some (.iconst 5, 1) := rfl
theorem c_296_1707 : mLk 296 1707 = some (.iadd, 1) := rfl
theorem c_296_1708 : mLk 296 1708 = some (.iaload, 1) := rfl
theorem c_296_1709 : mLk 296 1709 = some (.aload_n 0, 1) := rfl
theorem c_296_1710 : mLk 296 1710 = some (.iload 4, 2) := rfl
theorem c_296_1712 : mLk 296 1712 = some (.bipush 6, 2) := rfl
theorem c_296_1714 : mLk 296 1714 = some (.iadd, 1) := rfl
theorem c_296_1715 : mLk 296 1715 = some (.iaload, 1) := rfl
theorem c_296_1716 : mLk 296 1716 = some (.aload_n 3, 1) := rfl
theorem c_296_1717 : mLk 296 1717 = some (.invokestatic 255, 3) := rfl
theorem c_295_0 : mLk 295 0 = some (.aload 7, 2) := rfl
theorem c_295_2 : mLk 295 2 = some (.iconst 0, 1) := rfl
theorem c_295_3 : mLk 295 3 = some (.aload_n 0, 1) := rfl
theorem c_295_4 : mLk 295 4 = some (.iload_n 1, 1) := rfl
theorem c_295_5 : mLk 295 5 = some (.iload_n 2, 1) := rfl
theorem c_295_6 : mLk 295 6 = some (.iload_n 3, 1) := rfl
theorem c_295_7 : mLk 295 7 = some (.iload 4, 2) := rfl
theorem c_295_9 : mLk 295 9 = some (.iload 5, 2) := rfl
theorem c_295_11 : mLk 295 11 = some (.iload 6, 2) := rfl
theorem c_295_13 : mLk 295 13 = some (.invokevirtual 115, 3) := rfl
theorem c_296_1720 : mLk 296 1720 = some (.istore 5, 2) := rfl
theorem c_296_1722 : mLk 296 1722 = some (.aload_n 2, 1) := rfl
theorem c_296_1723 : mLk 296 1723 = some (.aload_n 0, 1) := rfl
theorem c_296_1724 : mLk 296 1724 = some (.iload 4, 2) := rfl
theorem c_296_1726 : mLk 296 1726 = some (.iconst 1, 1) := rfl
theorem c_296_1727 : mLk 296 1727 = some (.iadd, 1) := rfl
theorem c_296_1728 : mLk 296 1728 = some (.iaload, 1) := rfl
theorem c_296_1729 : mLk 296 1729 = some (.aload_n 0, 1) := rfl
theorem c_296_1730 : mLk 296 1730 = some (.iload 4, 2) := rfl
theorem c_296_1732 : mLk 296 1732 = some (.iconst 2, 1) := rfl
theorem c_296_1733 : mLk 296 1733 = some (.iadd, 1) := rfl
theorem c_296_1734 : mLk 296 1734 = some (.iaload, 1) := rfl
theorem c_296_1735 : mLk 296 1735 = some (.aload_n 0, 1) := rfl
theorem c_296_1736 : mLk 296 1736 = some (.iload 4, 2) := rfl
theorem c_296_1738 : mLk 296 1738 = some (.iconst 3, 1) := rfl
theorem c_296_1739 : mLk 296 1739 = some (.iadd, 1) := rfl
theorem c_296_1740 : mLk 296 1740 = some (.iaload, 1) := rfl
theorem c_296_1741 : mLk 296 1741 = some (.aload_n 0, 1) := rfl
theorem c_296_1742 : mLk 296 1742 = some (.iload 4, 2) := rfl
theorem c_296_1744 : mLk 296 1744 = some (.iconst 4, 1) := rfl
theorem c_296_1745 : mLk 296 1745 = some (.iadd, 1) := rfl
theorem c_296_1746 : mLk 296 1746 = some (.iaload, 1) := rfl
theorem c_296_1747 : mLk 296 1747 = some (.aload_n 0, 1) := rfl
theorem c_296_1748 : mLk 296 1748 = some (.iload 4, 2) := rfl
theorem c_296_1750 : mLk 296 1750 = some (.iconst 5, 1) := rfl
theorem c_296_1751 : mLk 296 1751 = some (.iadd, 1) := rfl
theorem c_296_1752 : mLk 296 1752 = some (.iaload, 1) := rfl
theorem c_296_1753 : mLk 296 1753 = some (.aload_n 0, 1) := rfl
theorem c_296_1754 : mLk 296 1754 = some (.iload 4, 2) := rfl
theorem c_296_1756 : mLk 296 1756 = some (.bipush 6, 2) := rfl
theorem c_296_1758 : mLk 296 1758 = some (.iadd, 1) := rfl
theorem c_296_1759 : mLk 296 1759 = some (.iaload, 1) := rfl
theorem c_296_1760 : mLk 296 1760 = some (.invokevirtual 258, 3) := rfl
theorem c_296_1763 : mLk 296 1763 = some (.istore 6, 2) := rfl
theorem c_296_1765 : mLk 296 1765 = some (.goto 79, 3) := rfl
theorem c_295_16 : mLk 295 16 = some (.i2l, 1) := rfl
theorem c_295_17 : mLk 295 17 = some (.lastore, 1) := rfl
theorem c_295_18 : mLk 295 18 = some (.goto 7, 3) := rfl
theorem c_295_25 : mLk 295 25 = some (.iconst 0, 1) := rfl
theorem c_295_26 : mLk 295 26 = some (.ireturn, 1) := rfl
theorem c_296_1768 : mLk 296 1768 = some (.aload_n 1, 1) := rfl
theorem c_296_1769 : mLk 296 1769 = some (.invokevirtual 259, 3) := rfl
theorem c_296_1772 : mLk 296 1772 = some (.pop, 1) := rfl
theorem c_296_1773 : mLk 296 1773 = some (.aload_n 2, 1) := rfl
theorem c_296_1774 : mLk 296 1774 = some (.invokevirtual 262, 3) := rfl
theorem c_296_1777 : mLk 296 1777 = some (.pop, 1) := rfl
theorem c_296_1778 : mLk 296 1778 = some (.goto 66, 3) := rfl
theorem c_296_1781 : mLk 296 1781 = some (.aload_n 1, 1) := rfl
theorem c_296_1782 : mLk 296 1782 = some (.invokevirtual 263, 3) := rfl
theorem c_296_1785 : mLk 296 1785 = some (.pop, 1) := rfl
theorem c_296_1786 : mLk 296 1786 = some (.aload_n 2, 1) := rfl
theorem c_296_1787 : mLk 296 1787 = some (.invokevirtual 266, 3) := rfl
theorem c_296_1790 : mLk 296 1790 = some (.pop, 1) := rfl
theorem c_296_1791 : mLk 296 1791 = some (.goto 53, 3) := rfl
theorem c_296_1794 : mLk 296 1794 = some (.aload_n 1, 1) := rfl
theorem c_296_1795 : mLk 296 1795 = some (.aload_n 0, 1) := rfl
theorem c_296_1796 : mLk 296 1796 = some (.iload 4, 2) := rfl
theorem c_296_1798 : mLk 296 1798 = some (.iconst 1, 1) := rfl
theorem c_296_1799 : mLk 296 1799 = some (.iadd, 1) := rfl
theorem c_296_1800 : mLk 296 1800 = some (.iaload, 1) := rfl
theorem c_296_1801 : mLk 296 1801 = some (.invokevirtual 267, 3) := rfl
theorem c_296_1804 : mLk 296 1804 = some (.pop, 1) := rfl
theorem c_296_1805 : mLk 296 1805 = some (.aload_n 2, 1) := rfl
theorem c_296_1806 : mLk 296 1806 = some (.aload_n 0, 1) := rfl
theorem c_296_1807 : mLk 296 1807 = some (.iload 4, 2) := rfl
theorem c_296_1809 : mLk 296 1809 = some (.iconst 1, 1) := rfl
theorem c_296_1810 : mLk 296 1810 = some (.iadd, 1) := rfl
theorem c_296_1811 : mLk 296 1811 = some (.iaload, 1) := rfl
theorem c_296_1812 : mLk 296 1812 = some (.invokevirtual 270, 3) := rfl
theorem c_296_1815 : mLk 296 1815 = some (.pop, 1) := rfl
theorem c_296_1816 : mLk 296 1816 = some (.goto 28, 3) := rfl
theorem c_296_1819 : mLk 296 1819 = some (.aload_n 1, 1) := rfl
theorem c_296_1820 : mLk 296 1820 = some (.aload_n 0, 1) := rfl
theorem c_296_1821 : mLk 296 1821 = some (.iload 4, 2) := rfl
theorem c_296_1823 : mLk 296 1823 = some (.iconst 1, 1) := rfl
theorem c_296_1824 : mLk 296 1824 = some (.iadd, 1) := rfl
theorem c_296_1825 : mLk 296 1825 = some (.iaload, 1) := rfl
theorem c_296_1826 : mLk 296 1826 = some (.invokevirtual 271, 3) := rfl
theorem c_296_1829 : mLk 296 1829 = some (.pop, 1) := rfl
theorem c_296_1830 : mLk 296 1830 = some (.aload_n 2, 1) := rfl
theorem c_296_1831 : mLk 296 1831 = some (.aload_n 0, 1) := rfl
theorem c_296_1832 : mLk 296 1832 = some (.iload 4, 2) := rfl
theorem c_296_1834 : mLk 296 1834 = some (.iconst 1, 1) := rfl
theorem c_296_1835 : mLk 296 1835 = some (.iadd, 1) := rfl
theorem c_296_1836 : mLk 296 1836 = some (.iaload, 1) := rfl
theorem c_296_1837 : mLk 296 1837 = some (.invokevirtual 274, 3) := rfl
theorem c_296_1840 : mLk 296 1840 = some (.pop, 1) := rfl
theorem c_296_1841 : mLk 296 1841 = some (.goto 3, 3) := rfl
theorem km_9_102 : a_lk (kM 9) 102 = some (0, 100) := rfl
theorem km_9_105 : a_lk (kM 9) 105 = some (0, 102) := rfl
theorem km_9_108 : a_lk (kM 9) 108 = some (0, 116) := rfl
theorem km_9_111 : a_lk (kM 9) 111 = some (0, 137) := rfl
theorem km_9_115 : a_lk (kM 9) 115 = some (0, 138) := rfl
theorem km_9_199 : a_lk (kM 9) 199 = some (0, 230) := rfl
theorem km_9_202 : a_lk (kM 9) 202 = some (0, 232) := rfl
theorem km_9_206 : a_lk (kM 9) 206 = some (0, 234) := rfl
theorem km_9_209 : a_lk (kM 9) 209 = some (0, 236) := rfl
theorem km_9_212 : a_lk (kM 9) 212 = some (0, 239) := rfl
theorem km_9_215 : a_lk (kM 9) 215 = some (0, 240) := rfl
theorem km_9_216 : a_lk (kM 9) 216 = some (0, 106) := rfl
theorem km_9_219 : a_lk (kM 9) 219 = some (0, 241) := rfl
theorem km_9_222 : a_lk (kM 9) 222 = some (0, 242) := rfl
theorem km_9_223 : a_lk (kM 9) 223 = some (0, 101) := rfl
theorem km_9_226 : a_lk (kM 9) 226 = some (0, 243) := rfl
theorem km_9_229 : a_lk (kM 9) 229 = some (0, 244) := rfl
theorem km_9_232 : a_lk (kM 9) 232 = some (0, 245) := rfl
theorem km_9_235 : a_lk (kM 9) 235 = some (0, 246) := rfl
theorem km_9_238 : a_lk (kM 9) 238 = some (0, 247) := rfl
theorem km_9_241 : a_lk (kM 9) 241 = some (0, 248) := rfl
theorem km_9_242 : a_lk (kM 9) 242 = some (0, 107) := rfl
theorem km_9_245 : a_lk (kM 9) 245 = some (0, 249) := rfl
theorem km_9_248 : a_lk (kM 9) 248 = some (0, 250) := rfl
theorem km_9_251 : a_lk (kM 9) 251 = some (0, 251) := rfl
theorem km_9_254 : a_lk (kM 9) 254 = some (0, 255) := rfl
theorem km_9_258 : a_lk (kM 9) 258 = some (0, 256) := rfl
theorem km_9_259 : a_lk (kM 9) 259 = some (0, 140) := rfl
theorem km_9_262 : a_lk (kM 9) 262 = some (0, 259) := rfl
theorem km_9_263 : a_lk (kM 9) 263 = some (0, 141) := rfl
theorem km_9_266 : a_lk (kM 9) 266 = some (0, 260) := rfl
theorem km_9_267 : a_lk (kM 9) 267 = some (0, 142) := rfl
theorem km_9_270 : a_lk (kM 9) 270 = some (0, 261) := rfl
theorem km_9_271 : a_lk (kM 9) 271 = some (0, 143) := rfl
theorem km_9_274 : a_lk (kM 9) 274 = some (0, 262) := rfl
theorem km_9_68 : a_lk (kM 9) 68 = some (0, 128) := rfl
theorem km_9_71 : a_lk (kM 9) 71 = some (0, 131) := rfl
theorem km_9_74 : a_lk (kM 9) 74 = some (0, 134) := rfl
theorem km_9_78 : a_lk (kM 9) 78 = some (0, 136) := rfl
theorem km_9_81 : a_lk (kM 9) 81 = some (0, 125) := rfl
theorem km_9_84 : a_lk (kM 9) 84 = some (0, 105) := rfl
theorem km_9_87 : a_lk (kM 9) 87 = some (0, 108) := rfl
theorem km_9_90 : a_lk (kM 9) 90 = some (0, 109) := rfl
theorem km_9_93 : a_lk (kM 9) 93 = some (0, 98) := rfl
theorem km_9_96 : a_lk (kM 9) 96 = some (0, 99) := rfl
theorem km_9_99 : a_lk (kM 9) 99 = some (0, 115) := rfl
set_option maxRecDepth 100000 in
set_option maxHeartbeats 4000000 in
theorem o_20 {xs : Nat → Int32} {L i0 d nc ns P Q : Nat} {c : ME} {Z : AR → Prop} (hi : i0 + 8 ≤ L) (hL : L ≤ 100000) (hI : Iv 0 (-1) P Q c) (hR : Rq P c) (K : ∀ (P2 Q2 : Nat) (c2 : ME) (e : Nat), e ≤ 1 → Iv 0 (-1) P2 Q2 c2 → (Rq P2 c2) → Wp (a_scr L xs) (d + 90) 296 1844 [(4, vi (i0 : Int)), (3, .ref 67), (2, .ref 41), (1, .ref 0), (0, .ref a_SC)] [] (Wd P2 Q2 P2 P2 c2) (nc + e) (ns + 6 * e) Z) : Wp (a_scr L xs) (d + 90) 296 1063 [(4, vi (i0 : Int)), (3, .ref 67), (2, .ref 41), (1, .ref 0), (0, .ref a_SC)] [] (Wd P Q P P c) nc ns Z := by
  obtain ⟨x1, hx1⟩ : ∃ z, (xs (i0 + 1)).toInt = z := ⟨_, rfl⟩
  have x1r := c_rng (xs (i0 + 1))
  rw [hx1] at x1r
  obtain ⟨x2, hx2⟩ : ∃ z, (xs (i0 + 2)).toInt = z := ⟨_, rfl⟩
  have x2r := c_rng (xs (i0 + 2))
  rw [hx2] at x2r
  obtain ⟨x3, hx3⟩ : ∃ z, (xs (i0 + 3)).toInt = z := ⟨_, rfl⟩
  have x3r := c_rng (xs (i0 + 3))
  rw [hx3] at x3r
  obtain ⟨x4, hx4⟩ : ∃ z, (xs (i0 + 4)).toInt = z := ⟨_, rfl⟩
  have x4r := c_rng (xs (i0 + 4))
  rw [hx4] at x4r
  obtain ⟨x5, hx5⟩ : ∃ z, (xs (i0 + 5)).toInt = z := ⟨_, rfl⟩
  have x5r := c_rng (xs (i0 + 5))
  rw [hx5] at x5r
  obtain ⟨x6, hx6⟩ : ∃ z, (xs (i0 + 6)).toInt = z := ⟨_, rfl⟩
  have x6r := c_rng (xs (i0 + 6))
  rw [hx6] at x6r
  obtain ⟨x7, hx7⟩ : ∃ z, (xs (i0 + 7)).toInt = z := ⟨_, rfl⟩
  have x7r := c_rng (xs (i0 + 7))
  rw [hx7] at x7r
  have hP := iv_P hI
  have hQ := iv_Q hI
  have hT := rl_t hR
  have hU := rl_u hR
  refine q_aload_n c_296_1063 rfl (q_aload_n c_296_1064 rfl (q_iload c_296_1065 rfl (q_iconst c_296_1067 (v_iadd (v := (i0 : Int) + 1) c_296_1068 rfl (v_scr (j := i0 + 1) c_296_1069 (by omega) (by omega) hL hx1 (q_aload_n c_296_1070 rfl (q_call c_296_1071 rfl rfl rfl ?_)))))))
  refine q_aload_n c_280_0 rfl (q_iconst c_280_1 (q_aload_n c_280_2 rfl (q_iload_n c_280_3 rfl ?_)))
  refine v_cv c_280_4 km_9_68 rfl rfl (Nat.le_of_ble_eq_true rfl) ⟨⟨rfl, rfl⟩, Nat.le_of_ble_eq_true rfl, rfl⟩ (Nat.le_of_ble_eq_true rfl) (Nat.le_of_ble_eq_true rfl) (s_128 (a1 := x1) hI (show (-2147483648) ≤ x1 ∧ x1 ≤ 2147483647 from ⟨by omega, by omega⟩) (fun c_1 hI_2 hF_3 => ?_) (fun c_4 y_7 hI_5 hF_6 hy_7 => ?_))
  · skip
    refine bk_thr (z := Int32.ofInt 1) rfl ⟨_, _, rfl⟩ rfl (bk_inl (q_istore c_296_1074 (Nat.le_of_ble_eq_true rfl) (q_aload_n c_296_1076 rfl (q_aload_n c_296_1077 rfl (q_iload c_296_1078 rfl (q_iconst c_296_1080 (v_iadd (v := (i0 : Int) + 1) c_296_1081 rfl ?_)))))))
    refine v_scr (j := i0 + 1) c_296_1082 (by omega) (by omega) hL hx1 (v_cv c_296_1083 km_9_199 rfl rfl (Nat.le_of_ble_eq_true rfl) ⟨⟨rfl, rfl⟩, Nat.le_of_ble_eq_true rfl, rfl⟩ (Nat.le_of_ble_eq_true rfl) (Nat.le_of_ble_eq_true rfl) (s_230 (a1 := x1) hI_2 (show (-2147483648) ≤ x1 ∧ x1 ≤ 2147483647 from ⟨by omega, by omega⟩) (fun c_8 y_11 hI_9 hF_10 hy_11 => (bk_inl (q_istore c_296_1086 (Nat.le_of_ble_eq_true rfl) (q_goto (t := 1844) c_296_1088 rfl (Wp_ls [(4, vi (i0 : Int)), (3, .ref 67), (2, .ref 41), (1, .ref 0), (0, .ref a_SC)] (lsub_cons rfl (lsub_cons rfl (lsub_cons rfl (lsub_cons rfl (lsub_cons rfl lsub_nil))))) ?_)))))))
    have h_12 := ir_1_3 hI
    have kn_13 : Hid (c_1 1 3 = c 1 3) := hF_3 1 3 (fun q => q.elim (fun h => absurd h.1 (nn rfl)) (fun h => absurd h (nn rfl)))
    have kn_14 : Hid (c_8 1 3 = c 1 3) := (hF_10 1 3 qn_39cd18c3e).trans (hid kn_13)
    have h_15 : c_8 1 3 = c 1 3 := (hid kn_14)
    have h_16 := ir_41_2 hI
    have kn_17 : Hid (c_1 41 2 = c 41 2) := hF_3 41 2 (fun q => q.elim (fun h => absurd h.1 (nn rfl)) (fun h => absurd h (nn rfl)))
    have kn_18 : Hid (c_8 41 2 = c 41 2) := (hF_10 41 2 qn_53bdb2099).trans (hid kn_17)
    have h_19 : c_8 41 2 = c 41 2 := (hid kn_18)
    exact K P Q c_8 1 (by decide) hI_9 ⟨by omega, ub_fr hU (fun j => (hF_10 2 j qn_2ad67e194).trans (hF_3 2 j (fun q => q.elim (fun h => absurd h.1 (nn rfl)) (fun h => absurd h (nn rfl))))) (fun j => (hF_10 43 j qn_1520ff5e3).trans (hF_3 43 j (fun q => q.elim (fun h => absurd h.1 (nn rfl)) (fun h => absurd h (nn rfl)))))⟩
  refine bk_inl (v_i2l c_280_7 (by omega) (v_ls c_280_8 rfl (by decide) (by decide) (by decide) (q_goto (t := 15) c_280_9 rfl (q_iconst c_280_15 (q_iret c_280_16 rfl (bk_inl (q_istore c_296_1074 (Nat.le_of_ble_eq_true rfl) ?_)))))))
  refine q_aload_n c_296_1076 rfl (q_aload_n c_296_1077 rfl (q_iload c_296_1078 rfl (q_iconst c_296_1080 (v_iadd (v := (i0 : Int) + 1) c_296_1081 rfl (v_scr (j := i0 + 1) c_296_1082 (by omega) (by omega) hL hx1 ?_)))))
  have hI_20 := iw_lx (a := 67) (j := 0) (v := y_7) hI_5 (by omega)
  refine v_cv c_296_1083 km_9_199 rfl rfl (Nat.le_of_ble_eq_true rfl) ⟨⟨rfl, rfl⟩, Nat.le_of_ble_eq_true rfl, rfl⟩ (Nat.le_of_ble_eq_true rfl) (Nat.le_of_ble_eq_true rfl) (s_230 (a1 := x1) hI_20 (show (-2147483648) ≤ x1 ∧ x1 ≤ 2147483647 from ⟨by omega, by omega⟩) (fun c_21 y_24 hI_22 hF_23 hy_24 => (bk_inl (q_istore c_296_1086 (Nat.le_of_ble_eq_true rfl) (q_goto (t := 1844) c_296_1088 rfl (Wp_ls [(4, vi (i0 : Int)), (3, .ref 67), (2, .ref 41), (1, .ref 0), (0, .ref a_SC)] (lsub_cons rfl (lsub_cons rfl (lsub_cons rfl (lsub_cons rfl (lsub_cons rfl lsub_nil))))) ?_))))))
  have h_25 := ir_1_3 hI
  have kn_26 : Hid (c_4 1 3 = c 1 3) := hF_6 1 3 (fun q => q.elim (fun h => absurd h.1 (nn rfl)) (fun h => absurd h (nn rfl)))
  have kn_27 : Hid (c_21 1 3 = c 1 3) := (hF_23 1 3 qn_39cd18c3e).trans ((up_c (nn rfl)).trans (hid kn_26))
  have h_28 : c_21 1 3 = c 1 3 := (hid kn_27)
  have h_29 := ir_41_2 hI
  have kn_30 : Hid (c_4 41 2 = c 41 2) := hF_6 41 2 (fun q => q.elim (fun h => absurd h.1 (nn rfl)) (fun h => absurd h (nn rfl)))
  have kn_31 : Hid (c_21 41 2 = c 41 2) := (hF_23 41 2 qn_53bdb2099).trans ((up_c (nn rfl)).trans (hid kn_30))
  have h_32 : c_21 41 2 = c 41 2 := (hid kn_31)
  exact K P Q c_21 0 (by decide) hI_22 ⟨by omega, ub_fr hU (fun j => (hF_23 2 j qn_2ad67e194).trans ((up_c (nn rfl)).trans (hF_6 2 j (fun q => q.elim (fun h => absurd h.1 (nn rfl)) (fun h => absurd h (nn rfl)))))) (fun j => (hF_23 43 j qn_1520ff5e3).trans ((up_c (nn rfl)).trans (hF_6 43 j (fun q => q.elim (fun h => absurd h.1 (nn rfl)) (fun h => absurd h (nn rfl))))))⟩

set_option maxRecDepth 100000 in
set_option maxHeartbeats 4000000 in
theorem o_21 {xs : Nat → Int32} {L i0 d nc ns P Q : Nat} {c : ME} {Z : AR → Prop} (hi : i0 + 8 ≤ L) (hL : L ≤ 100000) (hI : Iv 0 (-1) P Q c) (hR : Rq P c) (K : ∀ (P2 Q2 : Nat) (c2 : ME) (e : Nat), e ≤ 1 → Iv 0 (-1) P2 Q2 c2 → (Rq P2 c2) → Wp (a_scr L xs) (d + 90) 296 1844 [(4, vi (i0 : Int)), (3, .ref 67), (2, .ref 41), (1, .ref 0), (0, .ref a_SC)] [] (Wd P2 Q2 P2 P2 c2) (nc + e) (ns + 6 * e) Z) : Wp (a_scr L xs) (d + 90) 296 1091 [(4, vi (i0 : Int)), (3, .ref 67), (2, .ref 41), (1, .ref 0), (0, .ref a_SC)] [] (Wd P Q P P c) nc ns Z := by
  obtain ⟨x1, hx1⟩ : ∃ z, (xs (i0 + 1)).toInt = z := ⟨_, rfl⟩
  have x1r := c_rng (xs (i0 + 1))
  rw [hx1] at x1r
  obtain ⟨x2, hx2⟩ : ∃ z, (xs (i0 + 2)).toInt = z := ⟨_, rfl⟩
  have x2r := c_rng (xs (i0 + 2))
  rw [hx2] at x2r
  obtain ⟨x3, hx3⟩ : ∃ z, (xs (i0 + 3)).toInt = z := ⟨_, rfl⟩
  have x3r := c_rng (xs (i0 + 3))
  rw [hx3] at x3r
  obtain ⟨x4, hx4⟩ : ∃ z, (xs (i0 + 4)).toInt = z := ⟨_, rfl⟩
  have x4r := c_rng (xs (i0 + 4))
  rw [hx4] at x4r
  obtain ⟨x5, hx5⟩ : ∃ z, (xs (i0 + 5)).toInt = z := ⟨_, rfl⟩
  have x5r := c_rng (xs (i0 + 5))
  rw [hx5] at x5r
  obtain ⟨x6, hx6⟩ : ∃ z, (xs (i0 + 6)).toInt = z := ⟨_, rfl⟩
  have x6r := c_rng (xs (i0 + 6))
  rw [hx6] at x6r
  obtain ⟨x7, hx7⟩ : ∃ z, (xs (i0 + 7)).toInt = z := ⟨_, rfl⟩
  have x7r := c_rng (xs (i0 + 7))
  rw [hx7] at x7r
  have hP := iv_P hI
  have hQ := iv_Q hI
  have hT := rl_t hR
  have hU := rl_u hR
  refine q_aload_n c_296_1091 rfl (q_aload_n c_296_1092 rfl (q_iload c_296_1093 rfl (q_iconst c_296_1095 (v_iadd (v := (i0 : Int) + 1) c_296_1096 rfl (v_scr (j := i0 + 1) c_296_1097 (by omega) (by omega) hL hx1 (q_aload_n c_296_1098 rfl (q_call c_296_1099 rfl rfl rfl ?_)))))))
  refine q_aload_n c_281_0 rfl (q_iconst c_281_1 (q_aload_n c_281_2 rfl (q_iload_n c_281_3 rfl ?_)))
  refine v_cv c_281_4 km_9_71 rfl rfl (Nat.le_of_ble_eq_true rfl) ⟨⟨rfl, rfl⟩, Nat.le_of_ble_eq_true rfl, rfl⟩ (Nat.le_of_ble_eq_true rfl) (Nat.le_of_ble_eq_true rfl) (s_131 (a1 := x1) hI (show (-2147483648) ≤ x1 ∧ x1 ≤ 2147483647 from ⟨by omega, by omega⟩) (fun c_1 hI_2 hF_3 => ?_) (fun c_4 y_7 hI_5 hF_6 hy_7 => ?_))
  · skip
    refine bk_thr (z := Int32.ofInt 1) rfl ⟨_, _, rfl⟩ rfl (bk_inl (q_istore c_296_1102 (Nat.le_of_ble_eq_true rfl) (q_aload_n c_296_1104 rfl (q_aload_n c_296_1105 rfl (q_iload c_296_1106 rfl (q_iconst c_296_1108 (v_iadd (v := (i0 : Int) + 1) c_296_1109 rfl ?_)))))))
    refine v_scr (j := i0 + 1) c_296_1110 (by omega) (by omega) hL hx1 (v_cv c_296_1111 km_9_202 rfl rfl (Nat.le_of_ble_eq_true rfl) ⟨⟨rfl, rfl⟩, Nat.le_of_ble_eq_true rfl, rfl⟩ (Nat.le_of_ble_eq_true rfl) (Nat.le_of_ble_eq_true rfl) (s_232 (a1 := x1) hI_2 (show (-2147483648) ≤ x1 ∧ x1 ≤ 2147483647 from ⟨by omega, by omega⟩) (fun c_8 y_11 hI_9 hF_10 hy_11 => (bk_inl (q_istore c_296_1114 (Nat.le_of_ble_eq_true rfl) (q_goto (t := 1844) c_296_1116 rfl (Wp_ls [(4, vi (i0 : Int)), (3, .ref 67), (2, .ref 41), (1, .ref 0), (0, .ref a_SC)] (lsub_cons rfl (lsub_cons rfl (lsub_cons rfl (lsub_cons rfl (lsub_cons rfl lsub_nil))))) ?_)))))))
    have h_12 := ir_1_3 hI
    have kn_13 : Hid (c_1 1 3 = c 1 3) := hF_3 1 3 (fun q => q.elim (fun h => absurd h.1 (nn rfl)) (fun h => absurd h (nn rfl)))
    have kn_14 : Hid (c_8 1 3 = c 1 3) := (hF_10 1 3 qn_39cd18c3e).trans (hid kn_13)
    have h_15 : c_8 1 3 = c 1 3 := (hid kn_14)
    have h_16 := ir_41_2 hI
    have kn_17 : Hid (c_1 41 2 = c 41 2) := hF_3 41 2 (fun q => q.elim (fun h => absurd h.1 (nn rfl)) (fun h => absurd h (nn rfl)))
    have kn_18 : Hid (c_8 41 2 = c 41 2) := (hF_10 41 2 qn_53bdb2099).trans (hid kn_17)
    have h_19 : c_8 41 2 = c 41 2 := (hid kn_18)
    exact K P Q c_8 1 (by decide) hI_9 ⟨by omega, ub_fr hU (fun j => (hF_10 2 j qn_2ad67e194).trans (hF_3 2 j (fun q => q.elim (fun h => absurd h.1 (nn rfl)) (fun h => absurd h (nn rfl))))) (fun j => (hF_10 43 j qn_1520ff5e3).trans (hF_3 43 j (fun q => q.elim (fun h => absurd h.1 (nn rfl)) (fun h => absurd h (nn rfl)))))⟩
  refine bk_inl (v_i2l c_281_7 (by omega) (v_ls c_281_8 rfl (by decide) (by decide) (by decide) (q_goto (t := 15) c_281_9 rfl (q_iconst c_281_15 (q_iret c_281_16 rfl (bk_inl (q_istore c_296_1102 (Nat.le_of_ble_eq_true rfl) ?_)))))))
  refine q_aload_n c_296_1104 rfl (q_aload_n c_296_1105 rfl (q_iload c_296_1106 rfl (q_iconst c_296_1108 (v_iadd (v := (i0 : Int) + 1) c_296_1109 rfl (v_scr (j := i0 + 1) c_296_1110 (by omega) (by omega) hL hx1 ?_)))))
  have hI_20 := iw_lx (a := 67) (j := 0) (v := y_7) hI_5 (by omega)
  refine v_cv c_296_1111 km_9_202 rfl rfl (Nat.le_of_ble_eq_true rfl) ⟨⟨rfl, rfl⟩, Nat.le_of_ble_eq_true rfl, rfl⟩ (Nat.le_of_ble_eq_true rfl) (Nat.le_of_ble_eq_true rfl) (s_232 (a1 := x1) hI_20 (show (-2147483648) ≤ x1 ∧ x1 ≤ 2147483647 from ⟨by omega, by omega⟩) (fun c_21 y_24 hI_22 hF_23 hy_24 => (bk_inl (q_istore c_296_1114 (Nat.le_of_ble_eq_true rfl) (q_goto (t := 1844) c_296_1116 rfl (Wp_ls [(4, vi (i0 : Int)), (3, .ref 67), (2, .ref 41), (1, .ref 0), (0, .ref a_SC)] (lsub_cons rfl (lsub_cons rfl (lsub_cons rfl (lsub_cons rfl (lsub_cons rfl lsub_nil))))) ?_))))))
  have h_25 := ir_1_3 hI
  have kn_26 : Hid (c_4 1 3 = c 1 3) := hF_6 1 3 (fun q => q.elim (fun h => absurd h.1 (nn rfl)) (fun h => absurd h (nn rfl)))
  have kn_27 : Hid (c_21 1 3 = c 1 3) := (hF_23 1 3 qn_39cd18c3e).trans ((up_c (nn rfl)).trans (hid kn_26))
  have h_28 : c_21 1 3 = c 1 3 := (hid kn_27)
  have h_29 := ir_41_2 hI
  have kn_30 : Hid (c_4 41 2 = c 41 2) := hF_6 41 2 (fun q => q.elim (fun h => absurd h.1 (nn rfl)) (fun h => absurd h (nn rfl)))
  have kn_31 : Hid (c_21 41 2 = c 41 2) := (hF_23 41 2 qn_53bdb2099).trans ((up_c (nn rfl)).trans (hid kn_30))
  have h_32 : c_21 41 2 = c 41 2 := (hid kn_31)
  exact K P Q c_21 0 (by decide) hI_22 ⟨by omega, ub_fr hU (fun j => (hF_23 2 j qn_2ad67e194).trans ((up_c (nn rfl)).trans (hF_6 2 j (fun q => q.elim (fun h => absurd h.1 (nn rfl)) (fun h => absurd h (nn rfl)))))) (fun j => (hF_23 43 j qn_1520ff5e3).trans ((up_c (nn rfl)).trans (hF_6 43 j (fun q => q.elim (fun h => absurd h.1 (nn rfl)) (fun h => absurd h (nn rfl))))))⟩

set_option maxRecDepth 100000 in
set_option maxHeartbeats 4000000 in
theorem o_22 {xs : Nat → Int32} {L i0 d nc ns P Q : Nat} {c : ME} {Z : AR → Prop} (hi : i0 + 8 ≤ L) (hL : L ≤ 100000) (hI : Iv 0 (-1) P Q c) (hR : Rq P c) (K : ∀ (P2 Q2 : Nat) (c2 : ME) (e : Nat), e ≤ 1 → Iv 0 (-1) P2 Q2 c2 → (Rq P2 c2) → Wp (a_scr L xs) (d + 90) 296 1844 [(4, vi (i0 : Int)), (3, .ref 67), (2, .ref 41), (1, .ref 0), (0, .ref a_SC)] [] (Wd P2 Q2 P2 P2 c2) (nc + e) (ns + 6 * e) Z) : Wp (a_scr L xs) (d + 90) 296 1119 [(4, vi (i0 : Int)), (3, .ref 67), (2, .ref 41), (1, .ref 0), (0, .ref a_SC)] [] (Wd P Q P P c) nc ns Z := by
  obtain ⟨x1, hx1⟩ : ∃ z, (xs (i0 + 1)).toInt = z := ⟨_, rfl⟩
  have x1r := c_rng (xs (i0 + 1))
  rw [hx1] at x1r
  obtain ⟨x2, hx2⟩ : ∃ z, (xs (i0 + 2)).toInt = z := ⟨_, rfl⟩
  have x2r := c_rng (xs (i0 + 2))
  rw [hx2] at x2r
  obtain ⟨x3, hx3⟩ : ∃ z, (xs (i0 + 3)).toInt = z := ⟨_, rfl⟩
  have x3r := c_rng (xs (i0 + 3))
  rw [hx3] at x3r
  obtain ⟨x4, hx4⟩ : ∃ z, (xs (i0 + 4)).toInt = z := ⟨_, rfl⟩
  have x4r := c_rng (xs (i0 + 4))
  rw [hx4] at x4r
  obtain ⟨x5, hx5⟩ : ∃ z, (xs (i0 + 5)).toInt = z := ⟨_, rfl⟩
  have x5r := c_rng (xs (i0 + 5))
  rw [hx5] at x5r
  obtain ⟨x6, hx6⟩ : ∃ z, (xs (i0 + 6)).toInt = z := ⟨_, rfl⟩
  have x6r := c_rng (xs (i0 + 6))
  rw [hx6] at x6r
  obtain ⟨x7, hx7⟩ : ∃ z, (xs (i0 + 7)).toInt = z := ⟨_, rfl⟩
  have x7r := c_rng (xs (i0 + 7))
  rw [hx7] at x7r
  have hP := iv_P hI
  have hQ := iv_Q hI
  have hT := rl_t hR
  have hU := rl_u hR
  refine q_aload_n c_296_1119 rfl (q_aload_n c_296_1120 rfl (q_iload c_296_1121 rfl (q_iconst c_296_1123 (v_iadd (v := (i0 : Int) + 1) c_296_1124 rfl (v_scr (j := i0 + 1) c_296_1125 (by omega) (by omega) hL hx1 (q_aload_n c_296_1126 rfl (q_iload c_296_1127 rfl ?_)))))))
  refine q_iconst c_296_1129 (v_iadd (v := (i0 : Int) + 2) c_296_1130 rfl (v_scr (j := i0 + 2) c_296_1131 (by omega) (by omega) hL hx2 (q_aload_n c_296_1132 rfl (q_iload c_296_1133 rfl (q_iconst c_296_1135 (v_iadd (v := (i0 : Int) + 3) c_296_1136 rfl (v_scr (j := i0 + 3) c_296_1137 (by omega) (by omega) hL hx3 ?_)))))))
  refine q_aload_n c_296_1138 rfl (q_iload c_296_1139 rfl (q_iconst c_296_1141 (v_iadd (v := (i0 : Int) + 4) c_296_1142 rfl (v_scr (j := i0 + 4) c_296_1143 (by omega) (by omega) hL hx4 (q_aload_n c_296_1144 rfl (q_call c_296_1145 rfl rfl rfl (q_aload c_282_0 rfl ?_)))))))
  refine q_iconst c_282_2 (q_aload_n c_282_3 rfl (q_iload_n c_282_4 rfl (q_iload_n c_282_5 rfl (q_iload_n c_282_6 rfl (q_iload c_282_7 rfl ?_)))))
  refine v_cv c_282_9 km_9_74 rfl rfl (Nat.le_of_ble_eq_true rfl) ⟨⟨rfl, rfl⟩, Nat.le_of_ble_eq_true rfl, rfl⟩ (Nat.le_of_ble_eq_true rfl) (Nat.le_of_ble_eq_true rfl) (s_134 (a1 := x1) (a2 := x2) (a3 := x3) (a4 := x4) hI (show (-2147483648) ≤ x1 ∧ x1 ≤ 2147483647 from ⟨by omega, by omega⟩) (show (-2147483648) ≤ x2 ∧ x2 ≤ 2147483647 from ⟨by omega, by omega⟩) (show (-2147483648) ≤ x3 ∧ x3 ≤ 2147483647 from ⟨by omega, by omega⟩) (show (-2147483648) ≤ x4 ∧ x4 ≤ 2147483647 from ⟨by omega, by omega⟩) (fun c_1 hI_2 hF_3 => ?_) (fun c_4 y_7 hI_5 hF_6 => ?_))
  · skip
    refine bk_thr (z := Int32.ofInt 1) rfl ⟨_, _, rfl⟩ rfl (bk_inl (q_istore c_296_1148 (Nat.le_of_ble_eq_true rfl) (q_aload_n c_296_1150 rfl (q_aload_n c_296_1151 rfl (q_iload c_296_1152 rfl (q_iconst c_296_1154 (v_iadd (v := (i0 : Int) + 1) c_296_1155 rfl ?_)))))))
    refine v_scr (j := i0 + 1) c_296_1156 (by omega) (by omega) hL hx1 (q_aload_n c_296_1157 rfl (q_iload c_296_1158 rfl (q_iconst c_296_1160 (v_iadd (v := (i0 : Int) + 2) c_296_1161 rfl (v_scr (j := i0 + 2) c_296_1162 (by omega) (by omega) hL hx2 (q_aload_n c_296_1163 rfl (q_iload c_296_1164 rfl ?_)))))))
    refine q_iconst c_296_1166 (v_iadd (v := (i0 : Int) + 3) c_296_1167 rfl (v_scr (j := i0 + 3) c_296_1168 (by omega) (by omega) hL hx3 (q_aload_n c_296_1169 rfl (q_iload c_296_1170 rfl (q_iconst c_296_1172 (v_iadd (v := (i0 : Int) + 4) c_296_1173 rfl (v_scr (j := i0 + 4) c_296_1174 (by omega) (by omega) hL hx4 ?_)))))))
    refine v_cv c_296_1175 km_9_206 rfl rfl (Nat.le_of_ble_eq_true rfl) ⟨⟨rfl, rfl⟩, Nat.le_of_ble_eq_true rfl, rfl⟩ (Nat.le_of_ble_eq_true rfl) (Nat.le_of_ble_eq_true rfl) (s_234 (a1 := x1) (a2 := x2) (a3 := x3) (a4 := x4) hI_2 (show (-2147483648) ≤ x1 ∧ x1 ≤ 2147483647 from ⟨by omega, by omega⟩) (show (-2147483648) ≤ x2 ∧ x2 ≤ 2147483647 from ⟨by omega, by omega⟩) (show (-2147483648) ≤ x3 ∧ x3 ≤ 2147483647 from ⟨by omega, by omega⟩) (show (-2147483648) ≤ x4 ∧ x4 ≤ 2147483647 from ⟨by omega, by omega⟩) (fun c_8 y_11 hI_9 hF_10 => (bk_inl (q_lstore c_296_1178 (by decide) (q_goto (t := 1844) c_296_1180 rfl (Wp_ls [(4, vi (i0 : Int)), (3, .ref 67), (2, .ref 41), (1, .ref 0), (0, .ref a_SC)] (lsub_cons rfl (lsub_cons rfl (lsub_cons rfl (lsub_cons rfl (lsub_cons rfl lsub_nil))))) ?_))))))
    have h_12 := ir_1_3 hI
    have kn_13 : Hid (c_1 1 3 = c 1 3) := hF_3 1 3 (fun h => absurd h.1 (nn rfl))
    have kn_14 : Hid (c_8 1 3 = c 1 3) := (hF_10 1 3 qn_0bb414bab).trans (hid kn_13)
    have h_15 : c_8 1 3 = c 1 3 := (hid kn_14)
    have h_16 := ir_41_2 hI
    have kn_17 : Hid (c_1 41 2 = c 41 2) := hF_3 41 2 (fun h => absurd h.1 (nn rfl))
    have kn_18 : Hid (c_8 41 2 = c 41 2) := (hF_10 41 2 qn_ebfe7b626).trans (hid kn_17)
    have h_19 : c_8 41 2 = c 41 2 := (hid kn_18)
    exact K P Q c_8 1 (by decide) hI_9 ⟨by omega, ub_fr hU (fun j => (hF_10 2 j qn_43b5cfd28).trans (hF_3 2 j (fun h => absurd h.1 (nn rfl)))) (fun j => (hF_10 43 j qn_6069d5231).trans (hF_3 43 j (fun h => absurd h.1 (nn rfl))))⟩
  refine bk_inl (v_ls c_282_12 rfl (by decide) (by decide) (by decide) (q_goto (t := 20) c_282_13 rfl (q_iconst c_282_20 (q_iret c_282_21 rfl (bk_inl (q_istore c_296_1148 (Nat.le_of_ble_eq_true rfl) (q_aload_n c_296_1150 rfl ?_)))))))
  refine q_aload_n c_296_1151 rfl (q_iload c_296_1152 rfl (q_iconst c_296_1154 (v_iadd (v := (i0 : Int) + 1) c_296_1155 rfl (v_scr (j := i0 + 1) c_296_1156 (by omega) (by omega) hL hx1 (q_aload_n c_296_1157 rfl (q_iload c_296_1158 rfl (q_iconst c_296_1160 ?_)))))))
  refine v_iadd (v := (i0 : Int) + 2) c_296_1161 rfl (v_scr (j := i0 + 2) c_296_1162 (by omega) (by omega) hL hx2 (q_aload_n c_296_1163 rfl (q_iload c_296_1164 rfl (q_iconst c_296_1166 (v_iadd (v := (i0 : Int) + 3) c_296_1167 rfl (v_scr (j := i0 + 3) c_296_1168 (by omega) (by omega) hL hx3 (q_aload_n c_296_1169 rfl ?_)))))))
  refine q_iload c_296_1170 rfl (q_iconst c_296_1172 (v_iadd (v := (i0 : Int) + 4) c_296_1173 rfl (v_scr (j := i0 + 4) c_296_1174 (by omega) (by omega) hL hx4 ?_)))
  have hI_20 := iw_lx (a := 67) (j := 0) (v := y_7) hI_5 (by omega)
  refine v_cv c_296_1175 km_9_206 rfl rfl (Nat.le_of_ble_eq_true rfl) ⟨⟨rfl, rfl⟩, Nat.le_of_ble_eq_true rfl, rfl⟩ (Nat.le_of_ble_eq_true rfl) (Nat.le_of_ble_eq_true rfl) (s_234 (a1 := x1) (a2 := x2) (a3 := x3) (a4 := x4) hI_20 (show (-2147483648) ≤ x1 ∧ x1 ≤ 2147483647 from ⟨by omega, by omega⟩) (show (-2147483648) ≤ x2 ∧ x2 ≤ 2147483647 from ⟨by omega, by omega⟩) (show (-2147483648) ≤ x3 ∧ x3 ≤ 2147483647 from ⟨by omega, by omega⟩) (show (-2147483648) ≤ x4 ∧ x4 ≤ 2147483647 from ⟨by omega, by omega⟩) (fun c_21 y_24 hI_22 hF_23 => (bk_inl (q_lstore c_296_1178 (by decide) (q_goto (t := 1844) c_296_1180 rfl (Wp_ls [(4, vi (i0 : Int)), (3, .ref 67), (2, .ref 41), (1, .ref 0), (0, .ref a_SC)] (lsub_cons rfl (lsub_cons rfl (lsub_cons rfl (lsub_cons rfl (lsub_cons rfl lsub_nil))))) ?_))))))
  have h_25 := ir_1_3 hI
  have kn_26 : Hid (c_4 1 3 = c 1 3) := hF_6 1 3 (fun h => absurd h.1 (nn rfl))
  have kn_27 : Hid (c_21 1 3 = c 1 3) := (hF_23 1 3 qn_0bb414bab).trans ((up_c (nn rfl)).trans (hid kn_26))
  have h_28 : c_21 1 3 = c 1 3 := (hid kn_27)
  have h_29 := ir_41_2 hI
  have kn_30 : Hid (c_4 41 2 = c 41 2) := hF_6 41 2 (fun h => absurd h.1 (nn rfl))
  have kn_31 : Hid (c_21 41 2 = c 41 2) := (hF_23 41 2 qn_ebfe7b626).trans ((up_c (nn rfl)).trans (hid kn_30))
  have h_32 : c_21 41 2 = c 41 2 := (hid kn_31)
  exact K P Q c_21 0 (by decide) hI_22 ⟨by omega, ub_fr hU (fun j => (hF_23 2 j qn_43b5cfd28).trans ((up_c (nn rfl)).trans (hF_6 2 j (fun h => absurd h.1 (nn rfl))))) (fun j => (hF_23 43 j qn_6069d5231).trans ((up_c (nn rfl)).trans (hF_6 43 j (fun h => absurd h.1 (nn rfl)))))⟩

set_option maxRecDepth 100000 in
set_option maxHeartbeats 4000000 in
theorem o_23 {xs : Nat → Int32} {L i0 d nc ns P Q : Nat} {c : ME} {Z : AR → Prop} (hi : i0 + 8 ≤ L) (hL : L ≤ 100000) (hI : Iv 0 (-1) P Q c) (hR : Rq P c) (K : ∀ (P2 Q2 : Nat) (c2 : ME) (e : Nat), e ≤ 1 → Iv 0 (-1) P2 Q2 c2 → (Rq P2 c2) → Wp (a_scr L xs) (d + 90) 296 1844 [(4, vi (i0 : Int)), (3, .ref 67), (2, .ref 41), (1, .ref 0), (0, .ref a_SC)] [] (Wd P2 Q2 P2 P2 c2) (nc + e) (ns + 6 * e) Z) : Wp (a_scr L xs) (d + 90) 296 1183 [(4, vi (i0 : Int)), (3, .ref 67), (2, .ref 41), (1, .ref 0), (0, .ref a_SC)] [] (Wd P Q P P c) nc ns Z := by
  obtain ⟨x1, hx1⟩ : ∃ z, (xs (i0 + 1)).toInt = z := ⟨_, rfl⟩
  have x1r := c_rng (xs (i0 + 1))
  rw [hx1] at x1r
  obtain ⟨x2, hx2⟩ : ∃ z, (xs (i0 + 2)).toInt = z := ⟨_, rfl⟩
  have x2r := c_rng (xs (i0 + 2))
  rw [hx2] at x2r
  obtain ⟨x3, hx3⟩ : ∃ z, (xs (i0 + 3)).toInt = z := ⟨_, rfl⟩
  have x3r := c_rng (xs (i0 + 3))
  rw [hx3] at x3r
  obtain ⟨x4, hx4⟩ : ∃ z, (xs (i0 + 4)).toInt = z := ⟨_, rfl⟩
  have x4r := c_rng (xs (i0 + 4))
  rw [hx4] at x4r
  obtain ⟨x5, hx5⟩ : ∃ z, (xs (i0 + 5)).toInt = z := ⟨_, rfl⟩
  have x5r := c_rng (xs (i0 + 5))
  rw [hx5] at x5r
  obtain ⟨x6, hx6⟩ : ∃ z, (xs (i0 + 6)).toInt = z := ⟨_, rfl⟩
  have x6r := c_rng (xs (i0 + 6))
  rw [hx6] at x6r
  obtain ⟨x7, hx7⟩ : ∃ z, (xs (i0 + 7)).toInt = z := ⟨_, rfl⟩
  have x7r := c_rng (xs (i0 + 7))
  rw [hx7] at x7r
  have hP := iv_P hI
  have hQ := iv_Q hI
  have hT := rl_t hR
  have hU := rl_u hR
  refine q_aload_n c_296_1183 rfl (q_aload_n c_296_1184 rfl (q_iload c_296_1185 rfl (q_iconst c_296_1187 (v_iadd (v := (i0 : Int) + 1) c_296_1188 rfl (v_scr (j := i0 + 1) c_296_1189 (by omega) (by omega) hL hx1 (q_aload_n c_296_1190 rfl (q_iload c_296_1191 rfl ?_)))))))
  refine q_iconst c_296_1193 (v_iadd (v := (i0 : Int) + 2) c_296_1194 rfl (v_scr (j := i0 + 2) c_296_1195 (by omega) (by omega) hL hx2 (q_aload_n c_296_1196 rfl (q_iload c_296_1197 rfl (q_iconst c_296_1199 (v_iadd (v := (i0 : Int) + 3) c_296_1200 rfl (v_scr (j := i0 + 3) c_296_1201 (by omega) (by omega) hL hx3 ?_)))))))
  refine q_aload_n c_296_1202 rfl (q_call c_296_1203 rfl rfl rfl (q_aload c_283_0 rfl (q_iconst c_283_2 (q_aload_n c_283_3 rfl (q_iload_n c_283_4 rfl (q_iload_n c_283_5 rfl (q_iload_n c_283_6 rfl ?_)))))))
  refine v_cv c_283_7 km_9_78 rfl rfl (Nat.le_of_ble_eq_true rfl) ⟨⟨rfl, rfl⟩, Nat.le_of_ble_eq_true rfl, rfl⟩ (Nat.le_of_ble_eq_true rfl) (Nat.le_of_ble_eq_true rfl) (s_136 (a1 := x1) (a2 := x2) (a3 := x3) hI (show (-2147483648) ≤ x1 ∧ x1 ≤ 2147483647 from ⟨by omega, by omega⟩) (show (-2147483648) ≤ x2 ∧ x2 ≤ 2147483647 from ⟨by omega, by omega⟩) (show (-2147483648) ≤ x3 ∧ x3 ≤ 2147483647 from ⟨by omega, by omega⟩) (fun c_1 hI_2 hF_3 => ?_) (fun c_4 y_7 hI_5 hF_6 hy_7 => ?_))
  · skip
    refine bk_thr (z := Int32.ofInt 1) rfl ⟨_, _, rfl⟩ rfl (bk_inl (q_istore c_296_1206 (Nat.le_of_ble_eq_true rfl) (q_aload_n c_296_1208 rfl (q_aload_n c_296_1209 rfl (q_iload c_296_1210 rfl (q_iconst c_296_1212 (v_iadd (v := (i0 : Int) + 1) c_296_1213 rfl ?_)))))))
    refine v_scr (j := i0 + 1) c_296_1214 (by omega) (by omega) hL hx1 (q_aload_n c_296_1215 rfl (q_iload c_296_1216 rfl (q_iconst c_296_1218 (v_iadd (v := (i0 : Int) + 2) c_296_1219 rfl (v_scr (j := i0 + 2) c_296_1220 (by omega) (by omega) hL hx2 (q_aload_n c_296_1221 rfl (q_iload c_296_1222 rfl ?_)))))))
    refine q_iconst c_296_1224 (v_iadd (v := (i0 : Int) + 3) c_296_1225 rfl (v_scr (j := i0 + 3) c_296_1226 (by omega) (by omega) hL hx3 (v_cv c_296_1227 km_9_209 rfl rfl (Nat.le_of_ble_eq_true rfl) ⟨⟨rfl, rfl⟩, Nat.le_of_ble_eq_true rfl, rfl⟩ (Nat.le_of_ble_eq_true rfl) (Nat.le_of_ble_eq_true rfl) (s_236 (a1 := x1) (a2 := x2) (a3 := x3) hI_2 (show (-2147483648) ≤ x1 ∧ x1 ≤ 2147483647 from ⟨by omega, by omega⟩) (show (-2147483648) ≤ x2 ∧ x2 ≤ 2147483647 from ⟨by omega, by omega⟩) (show (-2147483648) ≤ x3 ∧ x3 ≤ 2147483647 from ⟨by omega, by omega⟩) (fun c_8 y_11 hI_9 hF_10 hy_11 => (bk_inl (q_istore c_296_1230 (Nat.le_of_ble_eq_true rfl) (q_goto (t := 1844) c_296_1232 rfl (Wp_ls [(4, vi (i0 : Int)), (3, .ref 67), (2, .ref 41), (1, .ref 0), (0, .ref a_SC)] (lsub_cons rfl (lsub_cons rfl (lsub_cons rfl (lsub_cons rfl (lsub_cons rfl lsub_nil))))) ?_)))))))))
    have h_12 := ir_1_3 hI
    have kn_13 : Hid (c_1 1 3 = c 1 3) := hF_3 1 3 (fun h => absurd h.1 (nn rfl))
    have kn_14 : Hid (c_8 1 3 = c 1 3) := (hF_10 1 3 (fun q => q.elim (fun h => absurd h.1 (nn rfl)) (fun h => absurd h (nn rfl)))).trans (hid kn_13)
    have h_15 : c_8 1 3 = c 1 3 := (hid kn_14)
    have h_16 := ir_41_2 hI
    have kn_17 : Hid (c_1 41 2 = c 41 2) := hF_3 41 2 (fun h => absurd h.1 (nn rfl))
    have kn_18 : Hid (c_8 41 2 = c 41 2) := (hF_10 41 2 (fun q => q.elim (fun h => absurd h.2 (ni rfl)) (fun h => absurd h (nn rfl)))).trans (hid kn_17)
    have h_19 : c_8 41 2 = c 41 2 := (hid kn_18)
    exact K P Q c_8 1 (by decide) hI_9 ⟨by omega, ub_fr hU (fun j => (hF_10 2 j (fun q => q.elim (fun h => absurd h.1 (nn rfl)) (fun h => absurd h (nn rfl)))).trans (hF_3 2 j (fun h => absurd h.1 (nn rfl)))) (fun j => (hF_10 43 j (fun q => q.elim (fun h => absurd h.1 (nn rfl)) (fun h => absurd h (nn rfl)))).trans (hF_3 43 j (fun h => absurd h.1 (nn rfl))))⟩
  refine bk_inl (v_i2l c_283_10 (by omega) (v_ls c_283_11 rfl (by decide) (by decide) (by decide) (q_goto (t := 19) c_283_12 rfl (q_iconst c_283_19 (q_iret c_283_20 rfl (bk_inl (q_istore c_296_1206 (Nat.le_of_ble_eq_true rfl) ?_)))))))
  refine q_aload_n c_296_1208 rfl (q_aload_n c_296_1209 rfl (q_iload c_296_1210 rfl (q_iconst c_296_1212 (v_iadd (v := (i0 : Int) + 1) c_296_1213 rfl (v_scr (j := i0 + 1) c_296_1214 (by omega) (by omega) hL hx1 (q_aload_n c_296_1215 rfl (q_iload c_296_1216 rfl ?_)))))))
  refine q_iconst c_296_1218 (v_iadd (v := (i0 : Int) + 2) c_296_1219 rfl (v_scr (j := i0 + 2) c_296_1220 (by omega) (by omega) hL hx2 (q_aload_n c_296_1221 rfl (q_iload c_296_1222 rfl (q_iconst c_296_1224 (v_iadd (v := (i0 : Int) + 3) c_296_1225 rfl (v_scr (j := i0 + 3) c_296_1226 (by omega) (by omega) hL hx3 ?_)))))))
  have hI_20 := iw_lx (a := 67) (j := 0) (v := y_7) hI_5 (by omega)
  refine v_cv c_296_1227 km_9_209 rfl rfl (Nat.le_of_ble_eq_true rfl) ⟨⟨rfl, rfl⟩, Nat.le_of_ble_eq_true rfl, rfl⟩ (Nat.le_of_ble_eq_true rfl) (Nat.le_of_ble_eq_true rfl) (s_236 (a1 := x1) (a2 := x2) (a3 := x3) hI_20 (show (-2147483648) ≤ x1 ∧ x1 ≤ 2147483647 from ⟨by omega, by omega⟩) (show (-2147483648) ≤ x2 ∧ x2 ≤ 2147483647 from ⟨by omega, by omega⟩) (show (-2147483648) ≤ x3 ∧ x3 ≤ 2147483647 from ⟨by omega, by omega⟩) (fun c_21 y_24 hI_22 hF_23 hy_24 => (bk_inl (q_istore c_296_1230 (Nat.le_of_ble_eq_true rfl) (q_goto (t := 1844) c_296_1232 rfl (Wp_ls [(4, vi (i0 : Int)), (3, .ref 67), (2, .ref 41), (1, .ref 0), (0, .ref a_SC)] (lsub_cons rfl (lsub_cons rfl (lsub_cons rfl (lsub_cons rfl (lsub_cons rfl lsub_nil))))) ?_))))))
  have h_25 := ir_1_3 hI
  have kn_26 : Hid (c_4 1 3 = c 1 3) := hF_6 1 3 (fun h => absurd h.1 (nn rfl))
  have kn_27 : Hid (c_21 1 3 = c 1 3) := (hF_23 1 3 (fun q => q.elim (fun h => absurd h.1 (nn rfl)) (fun h => absurd h (nn rfl)))).trans ((up_c (nn rfl)).trans (hid kn_26))
  have h_28 : c_21 1 3 = c 1 3 := (hid kn_27)
  have h_29 := ir_41_2 hI
  have kn_30 : Hid (c_4 41 2 = c 41 2) := hF_6 41 2 (fun h => absurd h.1 (nn rfl))
  have kn_31 : Hid (c_21 41 2 = c 41 2) := (hF_23 41 2 (fun q => q.elim (fun h => absurd h.2 (ni rfl)) (fun h => absurd h (nn rfl)))).trans ((up_c (nn rfl)).trans (hid kn_30))
  have h_32 : c_21 41 2 = c 41 2 := (hid kn_31)
  exact K P Q c_21 0 (by decide) hI_22 ⟨by omega, ub_fr hU (fun j => (hF_23 2 j (fun q => q.elim (fun h => absurd h.1 (nn rfl)) (fun h => absurd h (nn rfl)))).trans ((up_c (nn rfl)).trans (hF_6 2 j (fun h => absurd h.1 (nn rfl))))) (fun j => (hF_23 43 j (fun q => q.elim (fun h => absurd h.1 (nn rfl)) (fun h => absurd h (nn rfl)))).trans ((up_c (nn rfl)).trans (hF_6 43 j (fun h => absurd h.1 (nn rfl)))))⟩

set_option maxRecDepth 100000 in
set_option maxHeartbeats 4000000 in
theorem o_24 {xs : Nat → Int32} {L i0 d nc ns P Q : Nat} {c : ME} {Z : AR → Prop} (hi : i0 + 8 ≤ L) (hL : L ≤ 100000) (hI : Iv 0 (-1) P Q c) (hR : Rq P c) (K : ∀ (P2 Q2 : Nat) (c2 : ME) (e : Nat), e ≤ 1 → Iv 0 (-1) P2 Q2 c2 → (Rq P2 c2) → Wp (a_scr L xs) (d + 90) 296 1844 [(4, vi (i0 : Int)), (3, .ref 67), (2, .ref 41), (1, .ref 0), (0, .ref a_SC)] [] (Wd P2 Q2 P2 P2 c2) (nc + e) (ns + 6 * e) Z) : Wp (a_scr L xs) (d + 90) 296 1235 [(4, vi (i0 : Int)), (3, .ref 67), (2, .ref 41), (1, .ref 0), (0, .ref a_SC)] [] (Wd P Q P P c) nc ns Z := by
  obtain ⟨x1, hx1⟩ : ∃ z, (xs (i0 + 1)).toInt = z := ⟨_, rfl⟩
  have x1r := c_rng (xs (i0 + 1))
  rw [hx1] at x1r
  obtain ⟨x2, hx2⟩ : ∃ z, (xs (i0 + 2)).toInt = z := ⟨_, rfl⟩
  have x2r := c_rng (xs (i0 + 2))
  rw [hx2] at x2r
  obtain ⟨x3, hx3⟩ : ∃ z, (xs (i0 + 3)).toInt = z := ⟨_, rfl⟩
  have x3r := c_rng (xs (i0 + 3))
  rw [hx3] at x3r
  obtain ⟨x4, hx4⟩ : ∃ z, (xs (i0 + 4)).toInt = z := ⟨_, rfl⟩
  have x4r := c_rng (xs (i0 + 4))
  rw [hx4] at x4r
  obtain ⟨x5, hx5⟩ : ∃ z, (xs (i0 + 5)).toInt = z := ⟨_, rfl⟩
  have x5r := c_rng (xs (i0 + 5))
  rw [hx5] at x5r
  obtain ⟨x6, hx6⟩ : ∃ z, (xs (i0 + 6)).toInt = z := ⟨_, rfl⟩
  have x6r := c_rng (xs (i0 + 6))
  rw [hx6] at x6r
  obtain ⟨x7, hx7⟩ : ∃ z, (xs (i0 + 7)).toInt = z := ⟨_, rfl⟩
  have x7r := c_rng (xs (i0 + 7))
  rw [hx7] at x7r
  have hP := iv_P hI
  have hQ := iv_Q hI
  have hT := rl_t hR
  have hU := rl_u hR
  refine q_aload_n c_296_1235 rfl (q_aload_n c_296_1236 rfl (q_iload c_296_1237 rfl (q_iconst c_296_1239 (v_iadd (v := (i0 : Int) + 1) c_296_1240 rfl (v_scr (j := i0 + 1) c_296_1241 (by omega) (by omega) hL hx1 (q_aload_n c_296_1242 rfl (q_iload c_296_1243 rfl ?_)))))))
  refine q_iconst c_296_1245 (v_iadd (v := (i0 : Int) + 2) c_296_1246 rfl (v_scr (j := i0 + 2) c_296_1247 (by omega) (by omega) hL hx2 (q_aload_n c_296_1248 rfl (q_iload c_296_1249 rfl (q_iconst c_296_1251 (v_iadd (v := (i0 : Int) + 3) c_296_1252 rfl (v_scr (j := i0 + 3) c_296_1253 (by omega) (by omega) hL hx3 ?_)))))))
  refine q_aload_n c_296_1254 rfl (q_call c_296_1255 rfl rfl rfl (q_aload c_284_0 rfl (q_iconst c_284_2 (q_aload_n c_284_3 rfl (q_iload_n c_284_4 rfl (q_iload_n c_284_5 rfl (q_iload_n c_284_6 rfl ?_)))))))
  refine v_cv c_284_7 km_9_81 rfl rfl (Nat.le_of_ble_eq_true rfl) ⟨⟨rfl, rfl⟩, Nat.le_of_ble_eq_true rfl, rfl⟩ (Nat.le_of_ble_eq_true rfl) (Nat.le_of_ble_eq_true rfl) (s_125 (a1 := x1) (a2 := x2) (a3 := x3) hI (show (-2147483648) ≤ x1 ∧ x1 ≤ 2147483647 from ⟨by omega, by omega⟩) (show (-2147483648) ≤ x2 ∧ x2 ≤ 2147483647 from ⟨by omega, by omega⟩) (show (-2147483648) ≤ x3 ∧ x3 ≤ 2147483647 from ⟨by omega, by omega⟩) (fun c_1 hI_2 hF_3 => ?_) (fun c_4 hI_5 hF_6 => ?_) (fun c_7 y_10 hI_8 hF_9 hy_10 => ?_))
  · skip
    refine bk_thr (z := Int32.ofInt 1) rfl ⟨_, _, rfl⟩ rfl (bk_inl (q_istore c_296_1258 (Nat.le_of_ble_eq_true rfl) (q_aload_n c_296_1260 rfl (q_aload_n c_296_1261 rfl (q_iload c_296_1262 rfl (q_iconst c_296_1264 (v_iadd (v := (i0 : Int) + 1) c_296_1265 rfl ?_)))))))
    refine v_scr (j := i0 + 1) c_296_1266 (by omega) (by omega) hL hx1 (q_aload_n c_296_1267 rfl (q_iload c_296_1268 rfl (q_iconst c_296_1270 (v_iadd (v := (i0 : Int) + 2) c_296_1271 rfl (v_scr (j := i0 + 2) c_296_1272 (by omega) (by omega) hL hx2 (q_aload_n c_296_1273 rfl (q_iload c_296_1274 rfl ?_)))))))
    refine q_iconst c_296_1276 (v_iadd (v := (i0 : Int) + 3) c_296_1277 rfl (v_scr (j := i0 + 3) c_296_1278 (by omega) (by omega) hL hx3 (v_cv c_296_1279 km_9_212 rfl rfl (Nat.le_of_ble_eq_true rfl) ⟨⟨rfl, rfl⟩, Nat.le_of_ble_eq_true rfl, rfl⟩ (Nat.le_of_ble_eq_true rfl) (Nat.le_of_ble_eq_true rfl) (s_239 (a1 := x1) (a2 := x2) (a3 := x3) hI_2 (show (-2147483648) ≤ x1 ∧ x1 ≤ 2147483647 from ⟨by omega, by omega⟩) (show (-2147483648) ≤ x2 ∧ x2 ≤ 2147483647 from ⟨by omega, by omega⟩) (show (-2147483648) ≤ x3 ∧ x3 ≤ 2147483647 from ⟨by omega, by omega⟩) (fun c_11 y_14 hI_12 hF_13 hy_14 => (bk_inl (q_istore c_296_1282 (Nat.le_of_ble_eq_true rfl) (q_goto (t := 1844) c_296_1284 rfl (Wp_ls [(4, vi (i0 : Int)), (3, .ref 67), (2, .ref 41), (1, .ref 0), (0, .ref a_SC)] (lsub_cons rfl (lsub_cons rfl (lsub_cons rfl (lsub_cons rfl (lsub_cons rfl lsub_nil))))) ?_)))))))))
    have h_15 := ir_1_3 hI
    have kn_16 : Hid (c_1 1 3 = c 1 3) := hF_3 1 3 (fun q => q.elim (fun h => absurd h.1 (nn rfl)) (fun h => absurd h.1 (nn rfl)))
    have kn_17 : Hid (c_11 1 3 = c 1 3) := (hF_13 1 3 qn_39cd18c3e).trans (hid kn_16)
    have h_18 : c_11 1 3 = c 1 3 := (hid kn_17)
    have h_19 := ir_41_2 hI
    have kn_20 : Hid (c_1 41 2 = c 41 2) := hF_3 41 2 (fun q => q.elim (fun h => absurd h.1 (nn rfl)) (fun h => absurd h.1 (nn rfl)))
    have kn_21 : Hid (c_11 41 2 = c 41 2) := (hF_13 41 2 qn_53bdb2099).trans (hid kn_20)
    have h_22 : c_11 41 2 = c 41 2 := (hid kn_21)
    exact K P Q c_11 1 (by decide) hI_12 ⟨by omega, ub_fr hU (fun j => (hF_13 2 j qn_2ad67e194).trans (hF_3 2 j (fun q => q.elim (fun h => absurd h.1 (nn rfl)) (fun h => absurd h.1 (nn rfl))))) (fun j => (hF_13 43 j qn_1520ff5e3).trans (hF_3 43 j (fun q => q.elim (fun h => absurd h.1 (nn rfl)) (fun h => absurd h.1 (nn rfl)))))⟩
  · skip
    refine bk_thr (z := Int32.ofInt 2) rfl ⟨_, _, rfl⟩ rfl (bk_inl (q_istore c_296_1258 (Nat.le_of_ble_eq_true rfl) (q_aload_n c_296_1260 rfl (q_aload_n c_296_1261 rfl (q_iload c_296_1262 rfl (q_iconst c_296_1264 (v_iadd (v := (i0 : Int) + 1) c_296_1265 rfl ?_)))))))
    refine v_scr (j := i0 + 1) c_296_1266 (by omega) (by omega) hL hx1 (q_aload_n c_296_1267 rfl (q_iload c_296_1268 rfl (q_iconst c_296_1270 (v_iadd (v := (i0 : Int) + 2) c_296_1271 rfl (v_scr (j := i0 + 2) c_296_1272 (by omega) (by omega) hL hx2 (q_aload_n c_296_1273 rfl (q_iload c_296_1274 rfl ?_)))))))
    refine q_iconst c_296_1276 (v_iadd (v := (i0 : Int) + 3) c_296_1277 rfl (v_scr (j := i0 + 3) c_296_1278 (by omega) (by omega) hL hx3 (v_cv c_296_1279 km_9_212 rfl rfl (Nat.le_of_ble_eq_true rfl) ⟨⟨rfl, rfl⟩, Nat.le_of_ble_eq_true rfl, rfl⟩ (Nat.le_of_ble_eq_true rfl) (Nat.le_of_ble_eq_true rfl) (s_239 (a1 := x1) (a2 := x2) (a3 := x3) hI_5 (show (-2147483648) ≤ x1 ∧ x1 ≤ 2147483647 from ⟨by omega, by omega⟩) (show (-2147483648) ≤ x2 ∧ x2 ≤ 2147483647 from ⟨by omega, by omega⟩) (show (-2147483648) ≤ x3 ∧ x3 ≤ 2147483647 from ⟨by omega, by omega⟩) (fun c_23 y_26 hI_24 hF_25 hy_26 => (bk_inl (q_istore c_296_1282 (Nat.le_of_ble_eq_true rfl) (q_goto (t := 1844) c_296_1284 rfl (Wp_ls [(4, vi (i0 : Int)), (3, .ref 67), (2, .ref 41), (1, .ref 0), (0, .ref a_SC)] (lsub_cons rfl (lsub_cons rfl (lsub_cons rfl (lsub_cons rfl (lsub_cons rfl lsub_nil))))) ?_)))))))))
    have h_27 := ir_1_3 hI
    have kn_28 : Hid (c_4 1 3 = c 1 3) := hF_6 1 3 (fun q => q.elim (fun h => absurd h.1 (nn rfl)) (fun h => absurd h.1 (nn rfl)))
    have kn_29 : Hid (c_23 1 3 = c 1 3) := (hF_25 1 3 qn_39cd18c3e).trans (hid kn_28)
    have h_30 : c_23 1 3 = c 1 3 := (hid kn_29)
    have h_31 := ir_41_2 hI
    have kn_32 : Hid (c_4 41 2 = c 41 2) := hF_6 41 2 (fun q => q.elim (fun h => absurd h.1 (nn rfl)) (fun h => absurd h.1 (nn rfl)))
    have kn_33 : Hid (c_23 41 2 = c 41 2) := (hF_25 41 2 qn_53bdb2099).trans (hid kn_32)
    have h_34 : c_23 41 2 = c 41 2 := (hid kn_33)
    exact K P Q c_23 1 (by decide) hI_24 ⟨by omega, ub_fr hU (fun j => (hF_25 2 j qn_2ad67e194).trans (hF_6 2 j (fun q => q.elim (fun h => absurd h.1 (nn rfl)) (fun h => absurd h.1 (nn rfl))))) (fun j => (hF_25 43 j qn_1520ff5e3).trans (hF_6 43 j (fun q => q.elim (fun h => absurd h.1 (nn rfl)) (fun h => absurd h.1 (nn rfl)))))⟩
  refine bk_inl (v_i2l c_284_10 (by omega) (v_ls c_284_11 rfl (by decide) (by decide) (by decide) (q_goto (t := 23) c_284_12 rfl (q_iconst c_284_23 (q_iret c_284_24 rfl (bk_inl (q_istore c_296_1258 (Nat.le_of_ble_eq_true rfl) ?_)))))))
  refine q_aload_n c_296_1260 rfl (q_aload_n c_296_1261 rfl (q_iload c_296_1262 rfl (q_iconst c_296_1264 (v_iadd (v := (i0 : Int) + 1) c_296_1265 rfl (v_scr (j := i0 + 1) c_296_1266 (by omega) (by omega) hL hx1 (q_aload_n c_296_1267 rfl (q_iload c_296_1268 rfl ?_)))))))
  refine q_iconst c_296_1270 (v_iadd (v := (i0 : Int) + 2) c_296_1271 rfl (v_scr (j := i0 + 2) c_296_1272 (by omega) (by omega) hL hx2 (q_aload_n c_296_1273 rfl (q_iload c_296_1274 rfl (q_iconst c_296_1276 (v_iadd (v := (i0 : Int) + 3) c_296_1277 rfl (v_scr (j := i0 + 3) c_296_1278 (by omega) (by omega) hL hx3 ?_)))))))
  have hI_35 := iw_lx (a := 67) (j := 0) (v := y_10) hI_8 (by omega)
  refine v_cv c_296_1279 km_9_212 rfl rfl (Nat.le_of_ble_eq_true rfl) ⟨⟨rfl, rfl⟩, Nat.le_of_ble_eq_true rfl, rfl⟩ (Nat.le_of_ble_eq_true rfl) (Nat.le_of_ble_eq_true rfl) (s_239 (a1 := x1) (a2 := x2) (a3 := x3) hI_35 (show (-2147483648) ≤ x1 ∧ x1 ≤ 2147483647 from ⟨by omega, by omega⟩) (show (-2147483648) ≤ x2 ∧ x2 ≤ 2147483647 from ⟨by omega, by omega⟩) (show (-2147483648) ≤ x3 ∧ x3 ≤ 2147483647 from ⟨by omega, by omega⟩) (fun c_36 y_39 hI_37 hF_38 hy_39 => (bk_inl (q_istore c_296_1282 (Nat.le_of_ble_eq_true rfl) (q_goto (t := 1844) c_296_1284 rfl (Wp_ls [(4, vi (i0 : Int)), (3, .ref 67), (2, .ref 41), (1, .ref 0), (0, .ref a_SC)] (lsub_cons rfl (lsub_cons rfl (lsub_cons rfl (lsub_cons rfl (lsub_cons rfl lsub_nil))))) ?_))))))
  have h_40 := ir_1_3 hI
  have kn_41 : Hid (c_7 1 3 = c 1 3) := hF_9 1 3 (fun q => q.elim (fun h => absurd h.1 (nn rfl)) (fun h => absurd h.1 (nn rfl)))
  have kn_42 : Hid (c_36 1 3 = c 1 3) := (hF_38 1 3 qn_39cd18c3e).trans ((up_c (nn rfl)).trans (hid kn_41))
  have h_43 : c_36 1 3 = c 1 3 := (hid kn_42)
  have h_44 := ir_41_2 hI
  have kn_45 : Hid (c_7 41 2 = c 41 2) := hF_9 41 2 (fun q => q.elim (fun h => absurd h.1 (nn rfl)) (fun h => absurd h.1 (nn rfl)))
  have kn_46 : Hid (c_36 41 2 = c 41 2) := (hF_38 41 2 qn_53bdb2099).trans ((up_c (nn rfl)).trans (hid kn_45))
  have h_47 : c_36 41 2 = c 41 2 := (hid kn_46)
  exact K P Q c_36 0 (by decide) hI_37 ⟨by omega, ub_fr hU (fun j => (hF_38 2 j qn_2ad67e194).trans ((up_c (nn rfl)).trans (hF_9 2 j (fun q => q.elim (fun h => absurd h.1 (nn rfl)) (fun h => absurd h.1 (nn rfl)))))) (fun j => (hF_38 43 j qn_1520ff5e3).trans ((up_c (nn rfl)).trans (hF_9 43 j (fun q => q.elim (fun h => absurd h.1 (nn rfl)) (fun h => absurd h.1 (nn rfl))))))⟩

set_option maxRecDepth 100000 in
set_option maxHeartbeats 4000000 in
theorem o_25 {xs : Nat → Int32} {L i0 d nc ns P Q : Nat} {c : ME} {Z : AR → Prop} (hi : i0 + 8 ≤ L) (hL : L ≤ 100000) (hI : Iv 0 (-1) P Q c) (hR : Rq P c) (K : ∀ (P2 Q2 : Nat) (c2 : ME) (e : Nat), e ≤ 1 → Iv 0 (-1) P2 Q2 c2 → (Rq P2 c2) → Wp (a_scr L xs) (d + 90) 296 1844 [(4, vi (i0 : Int)), (3, .ref 67), (2, .ref 41), (1, .ref 0), (0, .ref a_SC)] [] (Wd P2 Q2 P2 P2 c2) (nc + e) (ns + 6 * e) Z) : Wp (a_scr L xs) (d + 90) 296 1287 [(4, vi (i0 : Int)), (3, .ref 67), (2, .ref 41), (1, .ref 0), (0, .ref a_SC)] [] (Wd P Q P P c) nc ns Z := by
  obtain ⟨x1, hx1⟩ : ∃ z, (xs (i0 + 1)).toInt = z := ⟨_, rfl⟩
  have x1r := c_rng (xs (i0 + 1))
  rw [hx1] at x1r
  obtain ⟨x2, hx2⟩ : ∃ z, (xs (i0 + 2)).toInt = z := ⟨_, rfl⟩
  have x2r := c_rng (xs (i0 + 2))
  rw [hx2] at x2r
  obtain ⟨x3, hx3⟩ : ∃ z, (xs (i0 + 3)).toInt = z := ⟨_, rfl⟩
  have x3r := c_rng (xs (i0 + 3))
  rw [hx3] at x3r
  obtain ⟨x4, hx4⟩ : ∃ z, (xs (i0 + 4)).toInt = z := ⟨_, rfl⟩
  have x4r := c_rng (xs (i0 + 4))
  rw [hx4] at x4r
  obtain ⟨x5, hx5⟩ : ∃ z, (xs (i0 + 5)).toInt = z := ⟨_, rfl⟩
  have x5r := c_rng (xs (i0 + 5))
  rw [hx5] at x5r
  obtain ⟨x6, hx6⟩ : ∃ z, (xs (i0 + 6)).toInt = z := ⟨_, rfl⟩
  have x6r := c_rng (xs (i0 + 6))
  rw [hx6] at x6r
  obtain ⟨x7, hx7⟩ : ∃ z, (xs (i0 + 7)).toInt = z := ⟨_, rfl⟩
  have x7r := c_rng (xs (i0 + 7))
  rw [hx7] at x7r
  have hP := iv_P hI
  have hQ := iv_Q hI
  have hT := rl_t hR
  have hU := rl_u hR
  refine q_aload_n c_296_1287 rfl (q_aload_n c_296_1288 rfl (q_iload c_296_1289 rfl (q_iconst c_296_1291 (v_iadd (v := (i0 : Int) + 1) c_296_1292 rfl (v_scr (j := i0 + 1) c_296_1293 (by omega) (by omega) hL hx1 (q_aload_n c_296_1294 rfl (q_call c_296_1295 rfl rfl rfl ?_)))))))
  refine q_aload_n c_285_0 rfl (q_iconst c_285_1 (q_aload_n c_285_2 rfl (q_iload_n c_285_3 rfl ?_)))
  refine v_cv c_285_4 km_9_84 rfl rfl (Nat.le_of_ble_eq_true rfl) ⟨⟨rfl, rfl⟩, Nat.le_of_ble_eq_true rfl, rfl⟩ (Nat.le_of_ble_eq_true rfl) (Nat.le_of_ble_eq_true rfl) (s_105 (a1 := x1) hI (show (-2147483648) ≤ x1 ∧ x1 ≤ 2147483647 from ⟨by omega, by omega⟩) (fun c_1 hI_2 hF_3 => ?_) (fun c_4 y_7 hI_5 hF_6 hy_7 => ?_))
  · skip
    refine bk_thr (z := Int32.ofInt 1) rfl ⟨_, _, rfl⟩ rfl (bk_inl (q_istore c_296_1298 (Nat.le_of_ble_eq_true rfl) (q_aload_n c_296_1300 rfl (q_aload_n c_296_1301 rfl (q_iload c_296_1302 rfl (q_iconst c_296_1304 (v_iadd (v := (i0 : Int) + 1) c_296_1305 rfl ?_)))))))
    refine v_scr (j := i0 + 1) c_296_1306 (by omega) (by omega) hL hx1 (v_cv c_296_1307 km_9_215 rfl rfl (Nat.le_of_ble_eq_true rfl) ⟨⟨rfl, rfl⟩, Nat.le_of_ble_eq_true rfl, rfl⟩ (Nat.le_of_ble_eq_true rfl) (Nat.le_of_ble_eq_true rfl) (s_240 (a1 := x1) hI_2 (show (-2147483648) ≤ x1 ∧ x1 ≤ 2147483647 from ⟨by omega, by omega⟩) (fun c_8 y_11 hI_9 hF_10 hy_11 => (bk_inl (q_istore c_296_1310 (Nat.le_of_ble_eq_true rfl) (q_goto (t := 1844) c_296_1312 rfl (Wp_ls [(4, vi (i0 : Int)), (3, .ref 67), (2, .ref 41), (1, .ref 0), (0, .ref a_SC)] (lsub_cons rfl (lsub_cons rfl (lsub_cons rfl (lsub_cons rfl (lsub_cons rfl lsub_nil))))) ?_)))))))
    have h_12 := ir_1_3 hI
    have kn_13 : Hid (c_1 1 3 = c 1 3) := hF_3 1 3 (qn_573365727 hP)
    have kn_14 : Hid (c_8 1 3 = c 1 3) := (hF_10 1 3 qn_44683f5fa).trans (hid kn_13)
    have h_15 : c_8 1 3 = c 1 3 := (hid kn_14)
    have h_16 := ir_41_2 hI
    have kn_17 : Hid (c_1 41 2 = c 41 2) := hF_3 41 2 (qn_69be8c781 hP)
    have kn_18 : Hid (c_8 41 2 = c 41 2) := (hF_10 41 2 qn_7a112a690).trans (hid kn_17)
    have h_19 : c_8 41 2 = c 41 2 := (hid kn_18)
    exact K P Q c_8 1 (by decide) hI_9 ⟨by omega, ub_fr hU (fun j => (hF_10 2 j qn_d0e66b3bf).trans (hF_3 2 j (qn_aaebe4308 hP))) (fun j => (hF_10 43 j qn_5a77d9750).trans (hF_3 43 j (qn_3e58b8819 hP)))⟩
  refine bk_inl (v_i2l c_285_7 (by omega) (v_ls c_285_8 rfl (by decide) (by decide) (by decide) (q_goto (t := 15) c_285_9 rfl (q_iconst c_285_15 (q_iret c_285_16 rfl (bk_inl (q_istore c_296_1298 (Nat.le_of_ble_eq_true rfl) ?_)))))))
  refine q_aload_n c_296_1300 rfl (q_aload_n c_296_1301 rfl (q_iload c_296_1302 rfl (q_iconst c_296_1304 (v_iadd (v := (i0 : Int) + 1) c_296_1305 rfl (v_scr (j := i0 + 1) c_296_1306 (by omega) (by omega) hL hx1 ?_)))))
  have hI_20 := iw_lx (a := 67) (j := 0) (v := y_7) hI_5 (by omega)
  refine v_cv c_296_1307 km_9_215 rfl rfl (Nat.le_of_ble_eq_true rfl) ⟨⟨rfl, rfl⟩, Nat.le_of_ble_eq_true rfl, rfl⟩ (Nat.le_of_ble_eq_true rfl) (Nat.le_of_ble_eq_true rfl) (s_240 (a1 := x1) hI_20 (show (-2147483648) ≤ x1 ∧ x1 ≤ 2147483647 from ⟨by omega, by omega⟩) (fun c_21 y_24 hI_22 hF_23 hy_24 => (bk_inl (q_istore c_296_1310 (Nat.le_of_ble_eq_true rfl) (q_goto (t := 1844) c_296_1312 rfl (Wp_ls [(4, vi (i0 : Int)), (3, .ref 67), (2, .ref 41), (1, .ref 0), (0, .ref a_SC)] (lsub_cons rfl (lsub_cons rfl (lsub_cons rfl (lsub_cons rfl (lsub_cons rfl lsub_nil))))) ?_))))))
  have h_25 := ir_1_3 hI
  have kn_26 : Hid (c_4 1 3 = c 1 3) := hF_6 1 3 (qn_573365727 hP)
  have kn_27 : Hid (c_21 1 3 = c 1 3) := (hF_23 1 3 qn_44683f5fa).trans ((up_c (nn rfl)).trans (hid kn_26))
  have h_28 : c_21 1 3 = c 1 3 := (hid kn_27)
  have h_29 := ir_41_2 hI
  have kn_30 : Hid (c_4 41 2 = c 41 2) := hF_6 41 2 (qn_69be8c781 hP)
  have kn_31 : Hid (c_21 41 2 = c 41 2) := (hF_23 41 2 qn_7a112a690).trans ((up_c (nn rfl)).trans (hid kn_30))
  have h_32 : c_21 41 2 = c 41 2 := (hid kn_31)
  exact K P Q c_21 0 (by decide) hI_22 ⟨by omega, ub_fr hU (fun j => (hF_23 2 j qn_d0e66b3bf).trans ((up_c (nn rfl)).trans (hF_6 2 j (qn_aaebe4308 hP)))) (fun j => (hF_23 43 j qn_5a77d9750).trans ((up_c (nn rfl)).trans (hF_6 43 j (qn_3e58b8819 hP))))⟩

set_option maxRecDepth 100000 in
set_option maxHeartbeats 4000000 in
theorem o_26 {xs : Nat → Int32} {L i0 d nc ns P Q : Nat} {c : ME} {Z : AR → Prop} (hi : i0 + 8 ≤ L) (hL : L ≤ 100000) (hI : Iv 0 (-1) P Q c) (hR : Rq P c) (K : ∀ (P2 Q2 : Nat) (c2 : ME) (e : Nat), e ≤ 1 → Iv 0 (-1) P2 Q2 c2 → (Rq P2 c2) → Wp (a_scr L xs) (d + 90) 296 1844 [(4, vi (i0 : Int)), (3, .ref 67), (2, .ref 41), (1, .ref 0), (0, .ref a_SC)] [] (Wd P2 Q2 P2 P2 c2) (nc + e) (ns + 6 * e) Z) : Wp (a_scr L xs) (d + 90) 296 1315 [(4, vi (i0 : Int)), (3, .ref 67), (2, .ref 41), (1, .ref 0), (0, .ref a_SC)] [] (Wd P Q P P c) nc ns Z := by
  obtain ⟨x1, hx1⟩ : ∃ z, (xs (i0 + 1)).toInt = z := ⟨_, rfl⟩
  have x1r := c_rng (xs (i0 + 1))
  rw [hx1] at x1r
  obtain ⟨x2, hx2⟩ : ∃ z, (xs (i0 + 2)).toInt = z := ⟨_, rfl⟩
  have x2r := c_rng (xs (i0 + 2))
  rw [hx2] at x2r
  obtain ⟨x3, hx3⟩ : ∃ z, (xs (i0 + 3)).toInt = z := ⟨_, rfl⟩
  have x3r := c_rng (xs (i0 + 3))
  rw [hx3] at x3r
  obtain ⟨x4, hx4⟩ : ∃ z, (xs (i0 + 4)).toInt = z := ⟨_, rfl⟩
  have x4r := c_rng (xs (i0 + 4))
  rw [hx4] at x4r
  obtain ⟨x5, hx5⟩ : ∃ z, (xs (i0 + 5)).toInt = z := ⟨_, rfl⟩
  have x5r := c_rng (xs (i0 + 5))
  rw [hx5] at x5r
  obtain ⟨x6, hx6⟩ : ∃ z, (xs (i0 + 6)).toInt = z := ⟨_, rfl⟩
  have x6r := c_rng (xs (i0 + 6))
  rw [hx6] at x6r
  obtain ⟨x7, hx7⟩ : ∃ z, (xs (i0 + 7)).toInt = z := ⟨_, rfl⟩
  have x7r := c_rng (xs (i0 + 7))
  rw [hx7] at x7r
  have hP := iv_P hI
  have hQ := iv_Q hI
  have hT := rl_t hR
  have hU := rl_u hR
  refine q_aload_n c_296_1315 rfl (v_cv c_296_1316 km_9_216 rfl rfl (Nat.le_of_ble_eq_true rfl) ⟨⟨rfl, rfl⟩, Nat.le_of_ble_eq_true rfl, rfl⟩ (Nat.le_of_ble_eq_true rfl) (Nat.le_of_ble_eq_true rfl) (s_106 hI (fun c_1 y_4 hI_2 hF_3 hy_4 => (bk_inl (q_pop c_296_1319 rfl (q_aload_n c_296_1320 rfl (v_cv c_296_1321 km_9_219 rfl rfl (Nat.le_of_ble_eq_true rfl) ⟨⟨rfl, rfl⟩, Nat.le_of_ble_eq_true rfl, rfl⟩ (Nat.le_of_ble_eq_true rfl) (Nat.le_of_ble_eq_true rfl) (s_241 hI_2 (fun c_5 y_8 hI_6 hF_7 hy_8 => (bk_inl (q_pop c_296_1324 rfl ?_)))))))))))
  refine q_goto (t := 1844) c_296_1325 rfl (Wp_ls [(4, vi (i0 : Int)), (3, .ref 67), (2, .ref 41), (1, .ref 0), (0, .ref a_SC)] (lsub_cons rfl (lsub_cons rfl (lsub_cons rfl (lsub_cons rfl (lsub_cons rfl lsub_nil))))) ?_)
  have h_9 := ir_1_3 hI
  have kn_10 : Hid (c_1 1 3 = c 1 3) := hF_3 1 3 (qn_db0fa2040 hP)
  have kn_11 : Hid (c_5 1 3 = c 1 3) := (hF_7 1 3 qn_965711e77).trans (hid kn_10)
  have h_12 : c_5 1 3 = c 1 3 := (hid kn_11)
  have h_13 := ir_41_2 hI
  have kn_14 : Hid (c_1 41 2 = c 41 2) := hF_3 41 2 (qn_4d24c7afb hP)
  have kn_15 : Hid (c_5 41 2 = c 41 2) := (hF_7 41 2 qn_dd6cb5371).trans (hid kn_14)
  have h_16 : c_5 41 2 = c 41 2 := (hid kn_15)
  exact K P Q c_5 0 (by decide) hI_6 ⟨by omega, ub_fr hU (fun j => (hF_7 2 j qn_7bbf03f40).trans (hF_3 2 j (qn_389d7b966 hP))) (fun j => (hF_7 43 j qn_da8a66655).trans (hF_3 43 j (qn_afbd556c9 hP)))⟩

set_option maxRecDepth 100000 in
set_option maxHeartbeats 4000000 in
theorem o_27 {xs : Nat → Int32} {L i0 d nc ns P Q : Nat} {c : ME} {Z : AR → Prop} (hi : i0 + 8 ≤ L) (hL : L ≤ 100000) (hI : Iv 0 (-1) P Q c) (hR : Rq P c) (K : ∀ (P2 Q2 : Nat) (c2 : ME) (e : Nat), e ≤ 1 → Iv 0 (-1) P2 Q2 c2 → (Rq P2 c2) → Wp (a_scr L xs) (d + 90) 296 1844 [(4, vi (i0 : Int)), (3, .ref 67), (2, .ref 41), (1, .ref 0), (0, .ref a_SC)] [] (Wd P2 Q2 P2 P2 c2) (nc + e) (ns + 6 * e) Z) : Wp (a_scr L xs) (d + 90) 296 1328 [(4, vi (i0 : Int)), (3, .ref 67), (2, .ref 41), (1, .ref 0), (0, .ref a_SC)] [] (Wd P Q P P c) nc ns Z := by
  obtain ⟨x1, hx1⟩ : ∃ z, (xs (i0 + 1)).toInt = z := ⟨_, rfl⟩
  have x1r := c_rng (xs (i0 + 1))
  rw [hx1] at x1r
  obtain ⟨x2, hx2⟩ : ∃ z, (xs (i0 + 2)).toInt = z := ⟨_, rfl⟩
  have x2r := c_rng (xs (i0 + 2))
  rw [hx2] at x2r
  obtain ⟨x3, hx3⟩ : ∃ z, (xs (i0 + 3)).toInt = z := ⟨_, rfl⟩
  have x3r := c_rng (xs (i0 + 3))
  rw [hx3] at x3r
  obtain ⟨x4, hx4⟩ : ∃ z, (xs (i0 + 4)).toInt = z := ⟨_, rfl⟩
  have x4r := c_rng (xs (i0 + 4))
  rw [hx4] at x4r
  obtain ⟨x5, hx5⟩ : ∃ z, (xs (i0 + 5)).toInt = z := ⟨_, rfl⟩
  have x5r := c_rng (xs (i0 + 5))
  rw [hx5] at x5r
  obtain ⟨x6, hx6⟩ : ∃ z, (xs (i0 + 6)).toInt = z := ⟨_, rfl⟩
  have x6r := c_rng (xs (i0 + 6))
  rw [hx6] at x6r
  obtain ⟨x7, hx7⟩ : ∃ z, (xs (i0 + 7)).toInt = z := ⟨_, rfl⟩
  have x7r := c_rng (xs (i0 + 7))
  rw [hx7] at x7r
  have hP := iv_P hI
  have hQ := iv_Q hI
  have hT := rl_t hR
  have hU := rl_u hR
  refine q_aload_n c_296_1328 rfl (q_aload_n c_296_1329 rfl (q_iload c_296_1330 rfl (q_iconst c_296_1332 (v_iadd (v := (i0 : Int) + 1) c_296_1333 rfl (v_scr (j := i0 + 1) c_296_1334 (by omega) (by omega) hL hx1 (q_aload_n c_296_1335 rfl (q_iload c_296_1336 rfl ?_)))))))
  refine q_iconst c_296_1338 (v_iadd (v := (i0 : Int) + 2) c_296_1339 rfl (v_scr (j := i0 + 2) c_296_1340 (by omega) (by omega) hL hx2 (q_aload_n c_296_1341 rfl (q_call c_296_1342 rfl rfl rfl (q_aload_n c_286_0 rfl (q_iconst c_286_1 (q_aload_n c_286_2 rfl ?_)))))))
  refine q_iload_n c_286_3 rfl (q_iload_n c_286_4 rfl ?_)
  refine v_cv c_286_5 km_9_87 rfl rfl (Nat.le_of_ble_eq_true rfl) ⟨⟨rfl, rfl⟩, Nat.le_of_ble_eq_true rfl, rfl⟩ (Nat.le_of_ble_eq_true rfl) (Nat.le_of_ble_eq_true rfl) (s_108 (a1 := x1) (a2 := x2) hI (show (-2147483648) ≤ x1 ∧ x1 ≤ 2147483647 from ⟨by omega, by omega⟩) (show (-2147483648) ≤ x2 ∧ x2 ≤ 2147483647 from ⟨by omega, by omega⟩) (fun c_1 hI_2 hF_3 => ?_) (fun c_4 y_7 hI_5 hF_6 hy_7 => ?_))
  · skip
    refine bk_thr (z := Int32.ofInt 1) rfl ⟨_, _, rfl⟩ rfl (bk_inl (q_istore c_296_1345 (Nat.le_of_ble_eq_true rfl) (q_aload_n c_296_1347 rfl (q_aload_n c_296_1348 rfl (q_iload c_296_1349 rfl (q_iconst c_296_1351 (v_iadd (v := (i0 : Int) + 1) c_296_1352 rfl ?_)))))))
    refine v_scr (j := i0 + 1) c_296_1353 (by omega) (by omega) hL hx1 (q_aload_n c_296_1354 rfl (q_iload c_296_1355 rfl (q_iconst c_296_1357 (v_iadd (v := (i0 : Int) + 2) c_296_1358 rfl (v_scr (j := i0 + 2) c_296_1359 (by omega) (by omega) hL hx2 (v_cv c_296_1360 km_9_222 rfl rfl (Nat.le_of_ble_eq_true rfl) ⟨⟨rfl, rfl⟩, Nat.le_of_ble_eq_true rfl, rfl⟩ (Nat.le_of_ble_eq_true rfl) (Nat.le_of_ble_eq_true rfl) (s_242 (a1 := x1) (a2 := x2) hI_2 (show (-2147483648) ≤ x1 ∧ x1 ≤ 2147483647 from ⟨by omega, by omega⟩) (show (-2147483648) ≤ x2 ∧ x2 ≤ 2147483647 from ⟨by omega, by omega⟩) (fun c_8 y_11 hI_9 hF_10 hy_11 => (bk_inl ?_)))))))))
    refine q_istore c_296_1363 (Nat.le_of_ble_eq_true rfl) (q_goto (t := 1844) c_296_1365 rfl (Wp_ls [(4, vi (i0 : Int)), (3, .ref 67), (2, .ref 41), (1, .ref 0), (0, .ref a_SC)] (lsub_cons rfl (lsub_cons rfl (lsub_cons rfl (lsub_cons rfl (lsub_cons rfl lsub_nil))))) ?_))
    have h_12 := ir_1_3 hI
    have kn_13 : Hid (c_1 1 3 = c 1 3) := hF_3 1 3 (qn_bcb6129a7 hP)
    have kn_14 : Hid (c_8 1 3 = c 1 3) := (hF_10 1 3 qn_44683f5fa).trans (hid kn_13)
    have h_15 : c_8 1 3 = c 1 3 := (hid kn_14)
    have h_16 := ir_41_2 hI
    have kn_17 : Hid (c_1 41 2 = c 41 2) := hF_3 41 2 (qn_c1b212892 hP)
    have kn_18 : Hid (c_8 41 2 = c 41 2) := (hF_10 41 2 qn_7a112a690).trans (hid kn_17)
    have h_19 : c_8 41 2 = c 41 2 := (hid kn_18)
    exact K P Q c_8 1 (by decide) hI_9 ⟨by omega, ub_fr hU (fun j => (hF_10 2 j qn_d0e66b3bf).trans (hF_3 2 j (qn_c44a51550 hP))) (fun j => (hF_10 43 j qn_5a77d9750).trans (hF_3 43 j (qn_2e57cdabe hP)))⟩
  refine bk_inl (v_i2l c_286_8 (by omega) (v_ls c_286_9 rfl (by decide) (by decide) (by decide) (q_goto (t := 17) c_286_10 rfl (q_iconst c_286_17 (q_iret c_286_18 rfl (bk_inl (q_istore c_296_1345 (Nat.le_of_ble_eq_true rfl) ?_)))))))
  refine q_aload_n c_296_1347 rfl (q_aload_n c_296_1348 rfl (q_iload c_296_1349 rfl (q_iconst c_296_1351 (v_iadd (v := (i0 : Int) + 1) c_296_1352 rfl (v_scr (j := i0 + 1) c_296_1353 (by omega) (by omega) hL hx1 (q_aload_n c_296_1354 rfl (q_iload c_296_1355 rfl ?_)))))))
  refine q_iconst c_296_1357 (v_iadd (v := (i0 : Int) + 2) c_296_1358 rfl (v_scr (j := i0 + 2) c_296_1359 (by omega) (by omega) hL hx2 ?_))
  have hI_20 := iw_lx (a := 67) (j := 0) (v := y_7) hI_5 (by omega)
  refine v_cv c_296_1360 km_9_222 rfl rfl (Nat.le_of_ble_eq_true rfl) ⟨⟨rfl, rfl⟩, Nat.le_of_ble_eq_true rfl, rfl⟩ (Nat.le_of_ble_eq_true rfl) (Nat.le_of_ble_eq_true rfl) (s_242 (a1 := x1) (a2 := x2) hI_20 (show (-2147483648) ≤ x1 ∧ x1 ≤ 2147483647 from ⟨by omega, by omega⟩) (show (-2147483648) ≤ x2 ∧ x2 ≤ 2147483647 from ⟨by omega, by omega⟩) (fun c_21 y_24 hI_22 hF_23 hy_24 => (bk_inl (q_istore c_296_1363 (Nat.le_of_ble_eq_true rfl) (q_goto (t := 1844) c_296_1365 rfl (Wp_ls [(4, vi (i0 : Int)), (3, .ref 67), (2, .ref 41), (1, .ref 0), (0, .ref a_SC)] (lsub_cons rfl (lsub_cons rfl (lsub_cons rfl (lsub_cons rfl (lsub_cons rfl lsub_nil))))) ?_))))))
  have h_25 := ir_1_3 hI
  have kn_26 : Hid (c_4 1 3 = c 1 3) := hF_6 1 3 (qn_bcb6129a7 hP)
  have kn_27 : Hid (c_21 1 3 = c 1 3) := (hF_23 1 3 qn_44683f5fa).trans ((up_c (nn rfl)).trans (hid kn_26))
  have h_28 : c_21 1 3 = c 1 3 := (hid kn_27)
  have h_29 := ir_41_2 hI
  have kn_30 : Hid (c_4 41 2 = c 41 2) := hF_6 41 2 (qn_c1b212892 hP)
  have kn_31 : Hid (c_21 41 2 = c 41 2) := (hF_23 41 2 qn_7a112a690).trans ((up_c (nn rfl)).trans (hid kn_30))
  have h_32 : c_21 41 2 = c 41 2 := (hid kn_31)
  exact K P Q c_21 0 (by decide) hI_22 ⟨by omega, ub_fr hU (fun j => (hF_23 2 j qn_d0e66b3bf).trans ((up_c (nn rfl)).trans (hF_6 2 j (qn_c44a51550 hP)))) (fun j => (hF_23 43 j qn_5a77d9750).trans ((up_c (nn rfl)).trans (hF_6 43 j (qn_2e57cdabe hP))))⟩

set_option maxRecDepth 100000 in
set_option maxHeartbeats 4000000 in
theorem o_28 {xs : Nat → Int32} {L i0 d nc ns P Q : Nat} {c : ME} {Z : AR → Prop} (hi : i0 + 8 ≤ L) (hL : L ≤ 100000) (hI : Iv 0 (-1) P Q c) (hR : Rq P c) (K : ∀ (P2 Q2 : Nat) (c2 : ME) (e : Nat), e ≤ 1 → Iv 0 (-1) P2 Q2 c2 → (Rq P2 c2) → Wp (a_scr L xs) (d + 90) 296 1844 [(4, vi (i0 : Int)), (3, .ref 67), (2, .ref 41), (1, .ref 0), (0, .ref a_SC)] [] (Wd P2 Q2 P2 P2 c2) (nc + e) (ns + 6 * e) Z) : Wp (a_scr L xs) (d + 90) 296 1368 [(4, vi (i0 : Int)), (3, .ref 67), (2, .ref 41), (1, .ref 0), (0, .ref a_SC)] [] (Wd P Q P P c) nc ns Z := by
  obtain ⟨x1, hx1⟩ : ∃ z, (xs (i0 + 1)).toInt = z := ⟨_, rfl⟩
  have x1r := c_rng (xs (i0 + 1))
  rw [hx1] at x1r
  obtain ⟨x2, hx2⟩ : ∃ z, (xs (i0 + 2)).toInt = z := ⟨_, rfl⟩
  have x2r := c_rng (xs (i0 + 2))
  rw [hx2] at x2r
  obtain ⟨x3, hx3⟩ : ∃ z, (xs (i0 + 3)).toInt = z := ⟨_, rfl⟩
  have x3r := c_rng (xs (i0 + 3))
  rw [hx3] at x3r
  obtain ⟨x4, hx4⟩ : ∃ z, (xs (i0 + 4)).toInt = z := ⟨_, rfl⟩
  have x4r := c_rng (xs (i0 + 4))
  rw [hx4] at x4r
  obtain ⟨x5, hx5⟩ : ∃ z, (xs (i0 + 5)).toInt = z := ⟨_, rfl⟩
  have x5r := c_rng (xs (i0 + 5))
  rw [hx5] at x5r
  obtain ⟨x6, hx6⟩ : ∃ z, (xs (i0 + 6)).toInt = z := ⟨_, rfl⟩
  have x6r := c_rng (xs (i0 + 6))
  rw [hx6] at x6r
  obtain ⟨x7, hx7⟩ : ∃ z, (xs (i0 + 7)).toInt = z := ⟨_, rfl⟩
  have x7r := c_rng (xs (i0 + 7))
  rw [hx7] at x7r
  have hP := iv_P hI
  have hQ := iv_Q hI
  have hT := rl_t hR
  have hU := rl_u hR
  refine q_aload_n c_296_1368 rfl (v_cv c_296_1369 km_9_223 rfl rfl (Nat.le_of_ble_eq_true rfl) ⟨⟨rfl, rfl⟩, Nat.le_of_ble_eq_true rfl, rfl⟩ (Nat.le_of_ble_eq_true rfl) (Nat.le_of_ble_eq_true rfl) (s_101 hI (fun y_1 hy_1 => (bk_inl (q_pop c_296_1372 rfl (q_aload_n c_296_1373 rfl (v_cv c_296_1374 km_9_226 rfl rfl (Nat.le_of_ble_eq_true rfl) ⟨⟨rfl, rfl⟩, Nat.le_of_ble_eq_true rfl, rfl⟩ (Nat.le_of_ble_eq_true rfl) (Nat.le_of_ble_eq_true rfl) (s_243 hI (fun c_2 y_5 hI_3 hF_4 hy_5 => (bk_inl (q_pop c_296_1377 rfl ?_)))))))))))
  refine q_goto (t := 1844) c_296_1378 rfl (Wp_ls [(4, vi (i0 : Int)), (3, .ref 67), (2, .ref 41), (1, .ref 0), (0, .ref a_SC)] (lsub_cons rfl (lsub_cons rfl (lsub_cons rfl (lsub_cons rfl (lsub_cons rfl lsub_nil))))) ?_)
  have h_6 := ir_1_3 hI
  have kn_7 : Hid (c_2 1 3 = c 1 3) := hF_4 1 3 (fun q => q.elim (fun h => absurd h.1 (nn rfl)) (fun h => absurd h (nn rfl)))
  have h_8 : c_2 1 3 = c 1 3 := (hid kn_7)
  have h_9 := ir_41_2 hI
  have kn_10 : Hid (c_2 41 2 = c 41 2) := hF_4 41 2 (fun q => q.elim (fun h => absurd h.2 (ni rfl)) (fun h => absurd h (nn rfl)))
  have h_11 : c_2 41 2 = c 41 2 := (hid kn_10)
  exact K P Q c_2 0 (by decide) hI_3 ⟨by omega, ub_fr hU (fun j => hF_4 2 j (fun q => q.elim (fun h => absurd h.1 (nn rfl)) (fun h => absurd h (nn rfl)))) (fun j => hF_4 43 j (fun q => q.elim (fun h => absurd h.1 (nn rfl)) (fun h => absurd h (nn rfl))))⟩

set_option maxRecDepth 100000 in
set_option maxHeartbeats 4000000 in
theorem o_29 {xs : Nat → Int32} {L i0 d nc ns P Q : Nat} {c : ME} {Z : AR → Prop} (hi : i0 + 8 ≤ L) (hL : L ≤ 100000) (hI : Iv 0 (-1) P Q c) (hR : Rq P c) (K : ∀ (P2 Q2 : Nat) (c2 : ME) (e : Nat), e ≤ 1 → Iv 0 (-1) P2 Q2 c2 → (Rq P2 c2) → Wp (a_scr L xs) (d + 90) 296 1844 [(4, vi (i0 : Int)), (3, .ref 67), (2, .ref 41), (1, .ref 0), (0, .ref a_SC)] [] (Wd P2 Q2 P2 P2 c2) (nc + e) (ns + 6 * e) Z) : Wp (a_scr L xs) (d + 90) 296 1381 [(4, vi (i0 : Int)), (3, .ref 67), (2, .ref 41), (1, .ref 0), (0, .ref a_SC)] [] (Wd P Q P P c) nc ns Z := by
  obtain ⟨x1, hx1⟩ : ∃ z, (xs (i0 + 1)).toInt = z := ⟨_, rfl⟩
  have x1r := c_rng (xs (i0 + 1))
  rw [hx1] at x1r
  obtain ⟨x2, hx2⟩ : ∃ z, (xs (i0 + 2)).toInt = z := ⟨_, rfl⟩
  have x2r := c_rng (xs (i0 + 2))
  rw [hx2] at x2r
  obtain ⟨x3, hx3⟩ : ∃ z, (xs (i0 + 3)).toInt = z := ⟨_, rfl⟩
  have x3r := c_rng (xs (i0 + 3))
  rw [hx3] at x3r
  obtain ⟨x4, hx4⟩ : ∃ z, (xs (i0 + 4)).toInt = z := ⟨_, rfl⟩
  have x4r := c_rng (xs (i0 + 4))
  rw [hx4] at x4r
  obtain ⟨x5, hx5⟩ : ∃ z, (xs (i0 + 5)).toInt = z := ⟨_, rfl⟩
  have x5r := c_rng (xs (i0 + 5))
  rw [hx5] at x5r
  obtain ⟨x6, hx6⟩ : ∃ z, (xs (i0 + 6)).toInt = z := ⟨_, rfl⟩
  have x6r := c_rng (xs (i0 + 6))
  rw [hx6] at x6r
  obtain ⟨x7, hx7⟩ : ∃ z, (xs (i0 + 7)).toInt = z := ⟨_, rfl⟩
  have x7r := c_rng (xs (i0 + 7))
  rw [hx7] at x7r
  have hP := iv_P hI
  have hQ := iv_Q hI
  have hT := rl_t hR
  have hU := rl_u hR
  refine q_aload_n c_296_1381 rfl (q_aload_n c_296_1382 rfl (q_iload c_296_1383 rfl (q_iconst c_296_1385 (v_iadd (v := (i0 : Int) + 1) c_296_1386 rfl (v_scr (j := i0 + 1) c_296_1387 (by omega) (by omega) hL hx1 (q_aload_n c_296_1388 rfl (q_call c_296_1389 rfl rfl rfl ?_)))))))
  refine q_aload_n c_287_0 rfl (q_iconst c_287_1 (q_aload_n c_287_2 rfl (q_iload_n c_287_3 rfl ?_)))
  refine v_cv c_287_4 km_9_90 rfl rfl (Nat.le_of_ble_eq_true rfl) ⟨⟨rfl, rfl⟩, Nat.le_of_ble_eq_true rfl, rfl⟩ (Nat.le_of_ble_eq_true rfl) (Nat.le_of_ble_eq_true rfl) (s_109 (a1 := x1) hI (show (-2147483648) ≤ x1 ∧ x1 ≤ 2147483647 from ⟨by omega, by omega⟩) (fun c_1 hI_2 hF_3 => ?_) (fun c_4 y_7 hI_5 hF_6 hy_7 => ?_))
  · skip
    refine bk_thr (z := Int32.ofInt 1) rfl ⟨_, _, rfl⟩ rfl (bk_inl (q_istore c_296_1392 (Nat.le_of_ble_eq_true rfl) (q_aload_n c_296_1394 rfl (q_aload_n c_296_1395 rfl (q_iload c_296_1396 rfl (q_iconst c_296_1398 (v_iadd (v := (i0 : Int) + 1) c_296_1399 rfl ?_)))))))
    refine v_scr (j := i0 + 1) c_296_1400 (by omega) (by omega) hL hx1 (v_cv c_296_1401 km_9_229 rfl rfl (Nat.le_of_ble_eq_true rfl) ⟨⟨rfl, rfl⟩, Nat.le_of_ble_eq_true rfl, rfl⟩ (Nat.le_of_ble_eq_true rfl) (Nat.le_of_ble_eq_true rfl) (s_244 (a1 := x1) hI_2 (show (-2147483648) ≤ x1 ∧ x1 ≤ 2147483647 from ⟨by omega, by omega⟩) (fun c_8 y_11 hI_9 hF_10 hy_11 => (bk_inl (q_istore c_296_1404 (Nat.le_of_ble_eq_true rfl) (q_goto (t := 1844) c_296_1406 rfl (Wp_ls [(4, vi (i0 : Int)), (3, .ref 67), (2, .ref 41), (1, .ref 0), (0, .ref a_SC)] (lsub_cons rfl (lsub_cons rfl (lsub_cons rfl (lsub_cons rfl (lsub_cons rfl lsub_nil))))) ?_)))))))
    have h_12 := ir_1_3 hI
    have kn_13 : Hid (c_1 1 3 = c 1 3) := hF_3 1 3 (qn_bcb6129a7 hP)
    have kn_14 : Hid (c_8 1 3 = c 1 3) := (hF_10 1 3 qn_44683f5fa).trans (hid kn_13)
    have h_15 : c_8 1 3 = c 1 3 := (hid kn_14)
    have h_16 := ir_41_2 hI
    have kn_17 : Hid (c_1 41 2 = c 41 2) := hF_3 41 2 (qn_c1b212892 hP)
    have kn_18 : Hid (c_8 41 2 = c 41 2) := (hF_10 41 2 qn_7a112a690).trans (hid kn_17)
    have h_19 : c_8 41 2 = c 41 2 := (hid kn_18)
    exact K P Q c_8 1 (by decide) hI_9 ⟨by omega, ub_fr hU (fun j => (hF_10 2 j qn_d0e66b3bf).trans (hF_3 2 j (qn_c44a51550 hP))) (fun j => (hF_10 43 j qn_5a77d9750).trans (hF_3 43 j (qn_2e57cdabe hP)))⟩
  refine bk_inl (v_i2l c_287_7 (by omega) (v_ls c_287_8 rfl (by decide) (by decide) (by decide) (q_goto (t := 15) c_287_9 rfl (q_iconst c_287_15 (q_iret c_287_16 rfl (bk_inl (q_istore c_296_1392 (Nat.le_of_ble_eq_true rfl) ?_)))))))
  refine q_aload_n c_296_1394 rfl (q_aload_n c_296_1395 rfl (q_iload c_296_1396 rfl (q_iconst c_296_1398 (v_iadd (v := (i0 : Int) + 1) c_296_1399 rfl (v_scr (j := i0 + 1) c_296_1400 (by omega) (by omega) hL hx1 ?_)))))
  have hI_20 := iw_lx (a := 67) (j := 0) (v := y_7) hI_5 (by omega)
  refine v_cv c_296_1401 km_9_229 rfl rfl (Nat.le_of_ble_eq_true rfl) ⟨⟨rfl, rfl⟩, Nat.le_of_ble_eq_true rfl, rfl⟩ (Nat.le_of_ble_eq_true rfl) (Nat.le_of_ble_eq_true rfl) (s_244 (a1 := x1) hI_20 (show (-2147483648) ≤ x1 ∧ x1 ≤ 2147483647 from ⟨by omega, by omega⟩) (fun c_21 y_24 hI_22 hF_23 hy_24 => (bk_inl (q_istore c_296_1404 (Nat.le_of_ble_eq_true rfl) (q_goto (t := 1844) c_296_1406 rfl (Wp_ls [(4, vi (i0 : Int)), (3, .ref 67), (2, .ref 41), (1, .ref 0), (0, .ref a_SC)] (lsub_cons rfl (lsub_cons rfl (lsub_cons rfl (lsub_cons rfl (lsub_cons rfl lsub_nil))))) ?_))))))
  have h_25 := ir_1_3 hI
  have kn_26 : Hid (c_4 1 3 = c 1 3) := hF_6 1 3 (qn_bcb6129a7 hP)
  have kn_27 : Hid (c_21 1 3 = c 1 3) := (hF_23 1 3 qn_44683f5fa).trans ((up_c (nn rfl)).trans (hid kn_26))
  have h_28 : c_21 1 3 = c 1 3 := (hid kn_27)
  have h_29 := ir_41_2 hI
  have kn_30 : Hid (c_4 41 2 = c 41 2) := hF_6 41 2 (qn_c1b212892 hP)
  have kn_31 : Hid (c_21 41 2 = c 41 2) := (hF_23 41 2 qn_7a112a690).trans ((up_c (nn rfl)).trans (hid kn_30))
  have h_32 : c_21 41 2 = c 41 2 := (hid kn_31)
  exact K P Q c_21 0 (by decide) hI_22 ⟨by omega, ub_fr hU (fun j => (hF_23 2 j qn_d0e66b3bf).trans ((up_c (nn rfl)).trans (hF_6 2 j (qn_c44a51550 hP)))) (fun j => (hF_23 43 j qn_5a77d9750).trans ((up_c (nn rfl)).trans (hF_6 43 j (qn_2e57cdabe hP))))⟩

set_option maxRecDepth 100000 in
set_option maxHeartbeats 4000000 in
theorem o_30 {xs : Nat → Int32} {L i0 d nc ns P Q : Nat} {c : ME} {Z : AR → Prop} (hi : i0 + 8 ≤ L) (hL : L ≤ 100000) (hI : Iv 0 (-1) P Q c) (hR : Rq P c) (K : ∀ (P2 Q2 : Nat) (c2 : ME) (e : Nat), e ≤ 1 → Iv 0 (-1) P2 Q2 c2 → (Rq P2 c2) → Wp (a_scr L xs) (d + 90) 296 1844 [(4, vi (i0 : Int)), (3, .ref 67), (2, .ref 41), (1, .ref 0), (0, .ref a_SC)] [] (Wd P2 Q2 P2 P2 c2) (nc + e) (ns + 6 * e) Z) : Wp (a_scr L xs) (d + 90) 296 1409 [(4, vi (i0 : Int)), (3, .ref 67), (2, .ref 41), (1, .ref 0), (0, .ref a_SC)] [] (Wd P Q P P c) nc ns Z := by
  obtain ⟨x1, hx1⟩ : ∃ z, (xs (i0 + 1)).toInt = z := ⟨_, rfl⟩
  have x1r := c_rng (xs (i0 + 1))
  rw [hx1] at x1r
  obtain ⟨x2, hx2⟩ : ∃ z, (xs (i0 + 2)).toInt = z := ⟨_, rfl⟩
  have x2r := c_rng (xs (i0 + 2))
  rw [hx2] at x2r
  obtain ⟨x3, hx3⟩ : ∃ z, (xs (i0 + 3)).toInt = z := ⟨_, rfl⟩
  have x3r := c_rng (xs (i0 + 3))
  rw [hx3] at x3r
  obtain ⟨x4, hx4⟩ : ∃ z, (xs (i0 + 4)).toInt = z := ⟨_, rfl⟩
  have x4r := c_rng (xs (i0 + 4))
  rw [hx4] at x4r
  obtain ⟨x5, hx5⟩ : ∃ z, (xs (i0 + 5)).toInt = z := ⟨_, rfl⟩
  have x5r := c_rng (xs (i0 + 5))
  rw [hx5] at x5r
  obtain ⟨x6, hx6⟩ : ∃ z, (xs (i0 + 6)).toInt = z := ⟨_, rfl⟩
  have x6r := c_rng (xs (i0 + 6))
  rw [hx6] at x6r
  obtain ⟨x7, hx7⟩ : ∃ z, (xs (i0 + 7)).toInt = z := ⟨_, rfl⟩
  have x7r := c_rng (xs (i0 + 7))
  rw [hx7] at x7r
  have hP := iv_P hI
  have hQ := iv_Q hI
  have hT := rl_t hR
  have hU := rl_u hR
  refine q_aload_n c_296_1409 rfl (q_aload_n c_296_1410 rfl (q_iload c_296_1411 rfl (q_iconst c_296_1413 (v_iadd (v := (i0 : Int) + 1) c_296_1414 rfl (v_scr (j := i0 + 1) c_296_1415 (by omega) (by omega) hL hx1 (q_aload_n c_296_1416 rfl (q_call c_296_1417 rfl rfl rfl ?_)))))))
  refine q_aload_n c_288_0 rfl (q_iconst c_288_1 (q_aload_n c_288_2 rfl (q_iload_n c_288_3 rfl ?_)))
  refine v_cv c_288_4 km_9_93 rfl rfl (Nat.le_of_ble_eq_true rfl) ⟨⟨rfl, rfl⟩, Nat.le_of_ble_eq_true rfl, rfl⟩ (Nat.le_of_ble_eq_true rfl) (Nat.le_of_ble_eq_true rfl) (s_98 (a1 := x1) hI (show (-2147483648) ≤ x1 ∧ x1 ≤ 2147483647 from ⟨by omega, by omega⟩) (fun c_1 hI_2 hF_3 => ?_) (fun c_4 y_7 hI_5 hF_6 hy_7 => ?_))
  · skip
    refine bk_thr (z := Int32.ofInt 1) rfl ⟨_, _, rfl⟩ rfl (bk_inl (q_istore c_296_1420 (Nat.le_of_ble_eq_true rfl) (q_aload_n c_296_1422 rfl (q_aload_n c_296_1423 rfl (q_iload c_296_1424 rfl (q_iconst c_296_1426 (v_iadd (v := (i0 : Int) + 1) c_296_1427 rfl ?_)))))))
    refine v_scr (j := i0 + 1) c_296_1428 (by omega) (by omega) hL hx1 (v_cv c_296_1429 km_9_232 rfl rfl (Nat.le_of_ble_eq_true rfl) ⟨⟨rfl, rfl⟩, Nat.le_of_ble_eq_true rfl, rfl⟩ (Nat.le_of_ble_eq_true rfl) (Nat.le_of_ble_eq_true rfl) (s_245 (a1 := x1) hI_2 (show (-2147483648) ≤ x1 ∧ x1 ≤ 2147483647 from ⟨by omega, by omega⟩) (fun c_8 y_11 hI_9 hF_10 hy_11 => (bk_inl (q_istore c_296_1432 (Nat.le_of_ble_eq_true rfl) (q_goto (t := 1844) c_296_1434 rfl (Wp_ls [(4, vi (i0 : Int)), (3, .ref 67), (2, .ref 41), (1, .ref 0), (0, .ref a_SC)] (lsub_cons rfl (lsub_cons rfl (lsub_cons rfl (lsub_cons rfl (lsub_cons rfl lsub_nil))))) ?_)))))))
    have h_12 := ir_1_3 hI
    have kn_13 : Hid (c_1 1 3 = c 1 3) := hF_3 1 3 (fun h => absurd h.1 (nn rfl))
    have kn_14 : Hid (c_8 1 3 = c 1 3) := (hF_10 1 3 qn_39cd18c3e).trans (hid kn_13)
    have h_15 : c_8 1 3 = c 1 3 := (hid kn_14)
    have h_16 := ir_41_2 hI
    have kn_17 : Hid (c_1 41 2 = c 41 2) := hF_3 41 2 (fun h => absurd h.1 (nn rfl))
    have kn_18 : Hid (c_8 41 2 = c 41 2) := (hF_10 41 2 qn_53bdb2099).trans (hid kn_17)
    have h_19 : c_8 41 2 = c 41 2 := (hid kn_18)
    exact K P Q c_8 1 (by decide) hI_9 ⟨by omega, ub_fr hU (fun j => (hF_10 2 j qn_2ad67e194).trans (hF_3 2 j (fun h => absurd h.1 (nn rfl)))) (fun j => (hF_10 43 j qn_1520ff5e3).trans (hF_3 43 j (fun h => absurd h.1 (nn rfl))))⟩
  refine bk_inl (v_i2l c_288_7 (by omega) (v_ls c_288_8 rfl (by decide) (by decide) (by decide) (q_goto (t := 15) c_288_9 rfl (q_iconst c_288_15 (q_iret c_288_16 rfl (bk_inl (q_istore c_296_1420 (Nat.le_of_ble_eq_true rfl) ?_)))))))
  refine q_aload_n c_296_1422 rfl (q_aload_n c_296_1423 rfl (q_iload c_296_1424 rfl (q_iconst c_296_1426 (v_iadd (v := (i0 : Int) + 1) c_296_1427 rfl (v_scr (j := i0 + 1) c_296_1428 (by omega) (by omega) hL hx1 ?_)))))
  have hI_20 := iw_lx (a := 67) (j := 0) (v := y_7) hI_5 (by omega)
  refine v_cv c_296_1429 km_9_232 rfl rfl (Nat.le_of_ble_eq_true rfl) ⟨⟨rfl, rfl⟩, Nat.le_of_ble_eq_true rfl, rfl⟩ (Nat.le_of_ble_eq_true rfl) (Nat.le_of_ble_eq_true rfl) (s_245 (a1 := x1) hI_20 (show (-2147483648) ≤ x1 ∧ x1 ≤ 2147483647 from ⟨by omega, by omega⟩) (fun c_21 y_24 hI_22 hF_23 hy_24 => (bk_inl (q_istore c_296_1432 (Nat.le_of_ble_eq_true rfl) (q_goto (t := 1844) c_296_1434 rfl (Wp_ls [(4, vi (i0 : Int)), (3, .ref 67), (2, .ref 41), (1, .ref 0), (0, .ref a_SC)] (lsub_cons rfl (lsub_cons rfl (lsub_cons rfl (lsub_cons rfl (lsub_cons rfl lsub_nil))))) ?_))))))
  have h_25 := ir_1_3 hI
  have kn_26 : Hid (c_4 1 3 = c 1 3) := hF_6 1 3 (fun h => absurd h.1 (nn rfl))
  have kn_27 : Hid (c_21 1 3 = c 1 3) := (hF_23 1 3 qn_39cd18c3e).trans ((up_c (nn rfl)).trans (hid kn_26))
  have h_28 : c_21 1 3 = c 1 3 := (hid kn_27)
  have h_29 := ir_41_2 hI
  have kn_30 : Hid (c_4 41 2 = c 41 2) := hF_6 41 2 (fun h => absurd h.1 (nn rfl))
  have kn_31 : Hid (c_21 41 2 = c 41 2) := (hF_23 41 2 qn_53bdb2099).trans ((up_c (nn rfl)).trans (hid kn_30))
  have h_32 : c_21 41 2 = c 41 2 := (hid kn_31)
  exact K P Q c_21 0 (by decide) hI_22 ⟨by omega, ub_fr hU (fun j => (hF_23 2 j qn_2ad67e194).trans ((up_c (nn rfl)).trans (hF_6 2 j (fun h => absurd h.1 (nn rfl))))) (fun j => (hF_23 43 j qn_1520ff5e3).trans ((up_c (nn rfl)).trans (hF_6 43 j (fun h => absurd h.1 (nn rfl)))))⟩

set_option maxRecDepth 100000 in
set_option maxHeartbeats 4000000 in
theorem o_31 {xs : Nat → Int32} {L i0 d nc ns P Q : Nat} {c : ME} {Z : AR → Prop} (hi : i0 + 8 ≤ L) (hL : L ≤ 100000) (hI : Iv 0 (-1) P Q c) (hR : Rq P c) (K : ∀ (P2 Q2 : Nat) (c2 : ME) (e : Nat), e ≤ 1 → Iv 0 (-1) P2 Q2 c2 → (Rq P2 c2) → Wp (a_scr L xs) (d + 90) 296 1844 [(4, vi (i0 : Int)), (3, .ref 67), (2, .ref 41), (1, .ref 0), (0, .ref a_SC)] [] (Wd P2 Q2 P2 P2 c2) (nc + e) (ns + 6 * e) Z) : Wp (a_scr L xs) (d + 90) 296 1437 [(4, vi (i0 : Int)), (3, .ref 67), (2, .ref 41), (1, .ref 0), (0, .ref a_SC)] [] (Wd P Q P P c) nc ns Z := by
  obtain ⟨x1, hx1⟩ : ∃ z, (xs (i0 + 1)).toInt = z := ⟨_, rfl⟩
  have x1r := c_rng (xs (i0 + 1))
  rw [hx1] at x1r
  obtain ⟨x2, hx2⟩ : ∃ z, (xs (i0 + 2)).toInt = z := ⟨_, rfl⟩
  have x2r := c_rng (xs (i0 + 2))
  rw [hx2] at x2r
  obtain ⟨x3, hx3⟩ : ∃ z, (xs (i0 + 3)).toInt = z := ⟨_, rfl⟩
  have x3r := c_rng (xs (i0 + 3))
  rw [hx3] at x3r
  obtain ⟨x4, hx4⟩ : ∃ z, (xs (i0 + 4)).toInt = z := ⟨_, rfl⟩
  have x4r := c_rng (xs (i0 + 4))
  rw [hx4] at x4r
  obtain ⟨x5, hx5⟩ : ∃ z, (xs (i0 + 5)).toInt = z := ⟨_, rfl⟩
  have x5r := c_rng (xs (i0 + 5))
  rw [hx5] at x5r
  obtain ⟨x6, hx6⟩ : ∃ z, (xs (i0 + 6)).toInt = z := ⟨_, rfl⟩
  have x6r := c_rng (xs (i0 + 6))
  rw [hx6] at x6r
  obtain ⟨x7, hx7⟩ : ∃ z, (xs (i0 + 7)).toInt = z := ⟨_, rfl⟩
  have x7r := c_rng (xs (i0 + 7))
  rw [hx7] at x7r
  have hP := iv_P hI
  have hQ := iv_Q hI
  have hT := rl_t hR
  have hU := rl_u hR
  refine q_aload_n c_296_1437 rfl (q_aload_n c_296_1438 rfl (q_iload c_296_1439 rfl (q_iconst c_296_1441 (v_iadd (v := (i0 : Int) + 1) c_296_1442 rfl (v_scr (j := i0 + 1) c_296_1443 (by omega) (by omega) hL hx1 (q_aload_n c_296_1444 rfl (q_call c_296_1445 rfl rfl rfl ?_)))))))
  refine q_aload_n c_289_0 rfl (q_iconst c_289_1 (q_aload_n c_289_2 rfl (q_iload_n c_289_3 rfl ?_)))
  refine v_cv c_289_4 km_9_96 rfl rfl (Nat.le_of_ble_eq_true rfl) ⟨⟨rfl, rfl⟩, Nat.le_of_ble_eq_true rfl, rfl⟩ (Nat.le_of_ble_eq_true rfl) (Nat.le_of_ble_eq_true rfl) (s_99 (a1 := x1) hI (show (-2147483648) ≤ x1 ∧ x1 ≤ 2147483647 from ⟨by omega, by omega⟩) (fun c_1 hI_2 hF_3 => ?_) (fun c_4 y_7 hI_5 hF_6 hy_7 => ?_))
  · skip
    refine bk_thr (z := Int32.ofInt 1) rfl ⟨_, _, rfl⟩ rfl (bk_inl (q_istore c_296_1448 (Nat.le_of_ble_eq_true rfl) (q_aload_n c_296_1450 rfl (q_aload_n c_296_1451 rfl (q_iload c_296_1452 rfl (q_iconst c_296_1454 (v_iadd (v := (i0 : Int) + 1) c_296_1455 rfl ?_)))))))
    refine v_scr (j := i0 + 1) c_296_1456 (by omega) (by omega) hL hx1 (v_cv c_296_1457 km_9_235 rfl rfl (Nat.le_of_ble_eq_true rfl) ⟨⟨rfl, rfl⟩, Nat.le_of_ble_eq_true rfl, rfl⟩ (Nat.le_of_ble_eq_true rfl) (Nat.le_of_ble_eq_true rfl) (s_246 (a1 := x1) hI_2 (show (-2147483648) ≤ x1 ∧ x1 ≤ 2147483647 from ⟨by omega, by omega⟩) (fun c_8 y_11 hI_9 hF_10 hy_11 => (bk_inl (q_istore c_296_1460 (Nat.le_of_ble_eq_true rfl) (q_goto (t := 1844) c_296_1462 rfl (Wp_ls [(4, vi (i0 : Int)), (3, .ref 67), (2, .ref 41), (1, .ref 0), (0, .ref a_SC)] (lsub_cons rfl (lsub_cons rfl (lsub_cons rfl (lsub_cons rfl (lsub_cons rfl lsub_nil))))) ?_)))))))
    have h_12 := ir_1_3 hI
    have kn_13 : Hid (c_1 1 3 = c 1 3) := hF_3 1 3 (fun h => absurd h.1 (nn rfl))
    have kn_14 : Hid (c_8 1 3 = c 1 3) := (hF_10 1 3 qn_39cd18c3e).trans (hid kn_13)
    have h_15 : c_8 1 3 = c 1 3 := (hid kn_14)
    have h_16 := ir_41_2 hI
    have kn_17 : Hid (c_1 41 2 = c 41 2) := hF_3 41 2 (fun h => absurd h.1 (nn rfl))
    have kn_18 : Hid (c_8 41 2 = c 41 2) := (hF_10 41 2 qn_53bdb2099).trans (hid kn_17)
    have h_19 : c_8 41 2 = c 41 2 := (hid kn_18)
    exact K P Q c_8 1 (by decide) hI_9 ⟨by omega, ub_fr hU (fun j => (hF_10 2 j qn_2ad67e194).trans (hF_3 2 j (fun h => absurd h.1 (nn rfl)))) (fun j => (hF_10 43 j qn_1520ff5e3).trans (hF_3 43 j (fun h => absurd h.1 (nn rfl))))⟩
  refine bk_inl (v_i2l c_289_7 (by omega) (v_ls c_289_8 rfl (by decide) (by decide) (by decide) (q_goto (t := 15) c_289_9 rfl (q_iconst c_289_15 (q_iret c_289_16 rfl (bk_inl (q_istore c_296_1448 (Nat.le_of_ble_eq_true rfl) ?_)))))))
  refine q_aload_n c_296_1450 rfl (q_aload_n c_296_1451 rfl (q_iload c_296_1452 rfl (q_iconst c_296_1454 (v_iadd (v := (i0 : Int) + 1) c_296_1455 rfl (v_scr (j := i0 + 1) c_296_1456 (by omega) (by omega) hL hx1 ?_)))))
  have hI_20 := iw_lx (a := 67) (j := 0) (v := y_7) hI_5 (by omega)
  refine v_cv c_296_1457 km_9_235 rfl rfl (Nat.le_of_ble_eq_true rfl) ⟨⟨rfl, rfl⟩, Nat.le_of_ble_eq_true rfl, rfl⟩ (Nat.le_of_ble_eq_true rfl) (Nat.le_of_ble_eq_true rfl) (s_246 (a1 := x1) hI_20 (show (-2147483648) ≤ x1 ∧ x1 ≤ 2147483647 from ⟨by omega, by omega⟩) (fun c_21 y_24 hI_22 hF_23 hy_24 => (bk_inl (q_istore c_296_1460 (Nat.le_of_ble_eq_true rfl) (q_goto (t := 1844) c_296_1462 rfl (Wp_ls [(4, vi (i0 : Int)), (3, .ref 67), (2, .ref 41), (1, .ref 0), (0, .ref a_SC)] (lsub_cons rfl (lsub_cons rfl (lsub_cons rfl (lsub_cons rfl (lsub_cons rfl lsub_nil))))) ?_))))))
  have h_25 := ir_1_3 hI
  have kn_26 : Hid (c_4 1 3 = c 1 3) := hF_6 1 3 (fun h => absurd h.1 (nn rfl))
  have kn_27 : Hid (c_21 1 3 = c 1 3) := (hF_23 1 3 qn_39cd18c3e).trans ((up_c (nn rfl)).trans (hid kn_26))
  have h_28 : c_21 1 3 = c 1 3 := (hid kn_27)
  have h_29 := ir_41_2 hI
  have kn_30 : Hid (c_4 41 2 = c 41 2) := hF_6 41 2 (fun h => absurd h.1 (nn rfl))
  have kn_31 : Hid (c_21 41 2 = c 41 2) := (hF_23 41 2 qn_53bdb2099).trans ((up_c (nn rfl)).trans (hid kn_30))
  have h_32 : c_21 41 2 = c 41 2 := (hid kn_31)
  exact K P Q c_21 0 (by decide) hI_22 ⟨by omega, ub_fr hU (fun j => (hF_23 2 j qn_2ad67e194).trans ((up_c (nn rfl)).trans (hF_6 2 j (fun h => absurd h.1 (nn rfl))))) (fun j => (hF_23 43 j qn_1520ff5e3).trans ((up_c (nn rfl)).trans (hF_6 43 j (fun h => absurd h.1 (nn rfl)))))⟩

set_option maxRecDepth 100000 in
set_option maxHeartbeats 4000000 in
theorem o_32 {xs : Nat → Int32} {L i0 d nc ns P Q : Nat} {c : ME} {Z : AR → Prop} (hi : i0 + 8 ≤ L) (hL : L ≤ 100000) (hI : Iv 0 (-1) P Q c) (hR : Rq P c) (K : ∀ (P2 Q2 : Nat) (c2 : ME) (e : Nat), e ≤ 1 → Iv 0 (-1) P2 Q2 c2 → (Rq P2 c2) → Wp (a_scr L xs) (d + 90) 296 1844 [(4, vi (i0 : Int)), (3, .ref 67), (2, .ref 41), (1, .ref 0), (0, .ref a_SC)] [] (Wd P2 Q2 P2 P2 c2) (nc + e) (ns + 6 * e) Z) : Wp (a_scr L xs) (d + 90) 296 1465 [(4, vi (i0 : Int)), (3, .ref 67), (2, .ref 41), (1, .ref 0), (0, .ref a_SC)] [] (Wd P Q P P c) nc ns Z := by
  obtain ⟨x1, hx1⟩ : ∃ z, (xs (i0 + 1)).toInt = z := ⟨_, rfl⟩
  have x1r := c_rng (xs (i0 + 1))
  rw [hx1] at x1r
  obtain ⟨x2, hx2⟩ : ∃ z, (xs (i0 + 2)).toInt = z := ⟨_, rfl⟩
  have x2r := c_rng (xs (i0 + 2))
  rw [hx2] at x2r
  obtain ⟨x3, hx3⟩ : ∃ z, (xs (i0 + 3)).toInt = z := ⟨_, rfl⟩
  have x3r := c_rng (xs (i0 + 3))
  rw [hx3] at x3r
  obtain ⟨x4, hx4⟩ : ∃ z, (xs (i0 + 4)).toInt = z := ⟨_, rfl⟩
  have x4r := c_rng (xs (i0 + 4))
  rw [hx4] at x4r
  obtain ⟨x5, hx5⟩ : ∃ z, (xs (i0 + 5)).toInt = z := ⟨_, rfl⟩
  have x5r := c_rng (xs (i0 + 5))
  rw [hx5] at x5r
  obtain ⟨x6, hx6⟩ : ∃ z, (xs (i0 + 6)).toInt = z := ⟨_, rfl⟩
  have x6r := c_rng (xs (i0 + 6))
  rw [hx6] at x6r
  obtain ⟨x7, hx7⟩ : ∃ z, (xs (i0 + 7)).toInt = z := ⟨_, rfl⟩
  have x7r := c_rng (xs (i0 + 7))
  rw [hx7] at x7r
  have hP := iv_P hI
  have hQ := iv_Q hI
  have hT := rl_t hR
  have hU := rl_u hR
  refine q_aload_n c_296_1465 rfl (q_aload_n c_296_1466 rfl (q_iload c_296_1467 rfl (q_iconst c_296_1469 (v_iadd (v := (i0 : Int) + 1) c_296_1470 rfl (v_scr (j := i0 + 1) c_296_1471 (by omega) (by omega) hL hx1 (q_aload_n c_296_1472 rfl (q_call c_296_1473 rfl rfl rfl ?_)))))))
  refine q_aload_n c_290_0 rfl (q_iconst c_290_1 (q_aload_n c_290_2 rfl (q_iload_n c_290_3 rfl ?_)))
  refine v_cv c_290_4 km_9_99 rfl rfl (Nat.le_of_ble_eq_true rfl) ⟨⟨rfl, rfl⟩, Nat.le_of_ble_eq_true rfl, rfl⟩ (Nat.le_of_ble_eq_true rfl) (Nat.le_of_ble_eq_true rfl) (s_115 (a1 := x1) hI (show (-2147483648) ≤ x1 ∧ x1 ≤ 2147483647 from ⟨by omega, by omega⟩) (fun c_1 hI_2 hF_3 => ?_) (fun c_4 y_7 hI_5 hF_6 hy_7 => ?_))
  · skip
    refine bk_thr (z := Int32.ofInt 1) rfl ⟨_, _, rfl⟩ rfl (bk_inl (q_istore c_296_1476 (Nat.le_of_ble_eq_true rfl) (q_aload_n c_296_1478 rfl (q_aload_n c_296_1479 rfl (q_iload c_296_1480 rfl (q_iconst c_296_1482 (v_iadd (v := (i0 : Int) + 1) c_296_1483 rfl ?_)))))))
    refine v_scr (j := i0 + 1) c_296_1484 (by omega) (by omega) hL hx1 (v_cv c_296_1485 km_9_238 rfl rfl (Nat.le_of_ble_eq_true rfl) ⟨⟨rfl, rfl⟩, Nat.le_of_ble_eq_true rfl, rfl⟩ (Nat.le_of_ble_eq_true rfl) (Nat.le_of_ble_eq_true rfl) (s_247 (a1 := x1) hI_2 (show (-2147483648) ≤ x1 ∧ x1 ≤ 2147483647 from ⟨by omega, by omega⟩) (fun c_8 y_11 hI_9 hF_10 hy_11 => (bk_inl (q_istore c_296_1488 (Nat.le_of_ble_eq_true rfl) (q_goto (t := 1844) c_296_1490 rfl (Wp_ls [(4, vi (i0 : Int)), (3, .ref 67), (2, .ref 41), (1, .ref 0), (0, .ref a_SC)] (lsub_cons rfl (lsub_cons rfl (lsub_cons rfl (lsub_cons rfl (lsub_cons rfl lsub_nil))))) ?_)))))))
    have h_12 := ir_1_3 hI
    have kn_13 : Hid (c_1 1 3 = c 1 3) := hF_3 1 3 (fun h => absurd h.1 (nn rfl))
    have kn_14 : Hid (c_8 1 3 = c 1 3) := (hF_10 1 3 qn_39cd18c3e).trans (hid kn_13)
    have h_15 : c_8 1 3 = c 1 3 := (hid kn_14)
    have h_16 := ir_41_2 hI
    have kn_17 : Hid (c_1 41 2 = c 41 2) := hF_3 41 2 (fun h => absurd h.1 (nn rfl))
    have kn_18 : Hid (c_8 41 2 = c 41 2) := (hF_10 41 2 qn_53bdb2099).trans (hid kn_17)
    have h_19 : c_8 41 2 = c 41 2 := (hid kn_18)
    exact K P Q c_8 1 (by decide) hI_9 ⟨by omega, ub_fr hU (fun j => (hF_10 2 j qn_2ad67e194).trans (hF_3 2 j (fun h => absurd h.1 (nn rfl)))) (fun j => (hF_10 43 j qn_1520ff5e3).trans (hF_3 43 j (fun h => absurd h.1 (nn rfl))))⟩
  refine bk_inl (v_i2l c_290_7 (by omega) (v_ls c_290_8 rfl (by decide) (by decide) (by decide) (q_goto (t := 15) c_290_9 rfl (q_iconst c_290_15 (q_iret c_290_16 rfl (bk_inl (q_istore c_296_1476 (Nat.le_of_ble_eq_true rfl) ?_)))))))
  refine q_aload_n c_296_1478 rfl (q_aload_n c_296_1479 rfl (q_iload c_296_1480 rfl (q_iconst c_296_1482 (v_iadd (v := (i0 : Int) + 1) c_296_1483 rfl (v_scr (j := i0 + 1) c_296_1484 (by omega) (by omega) hL hx1 ?_)))))
  have hI_20 := iw_lx (a := 67) (j := 0) (v := y_7) hI_5 (by omega)
  refine v_cv c_296_1485 km_9_238 rfl rfl (Nat.le_of_ble_eq_true rfl) ⟨⟨rfl, rfl⟩, Nat.le_of_ble_eq_true rfl, rfl⟩ (Nat.le_of_ble_eq_true rfl) (Nat.le_of_ble_eq_true rfl) (s_247 (a1 := x1) hI_20 (show (-2147483648) ≤ x1 ∧ x1 ≤ 2147483647 from ⟨by omega, by omega⟩) (fun c_21 y_24 hI_22 hF_23 hy_24 => (bk_inl (q_istore c_296_1488 (Nat.le_of_ble_eq_true rfl) (q_goto (t := 1844) c_296_1490 rfl (Wp_ls [(4, vi (i0 : Int)), (3, .ref 67), (2, .ref 41), (1, .ref 0), (0, .ref a_SC)] (lsub_cons rfl (lsub_cons rfl (lsub_cons rfl (lsub_cons rfl (lsub_cons rfl lsub_nil))))) ?_))))))
  have h_25 := ir_1_3 hI
  have kn_26 : Hid (c_4 1 3 = c 1 3) := hF_6 1 3 (fun h => absurd h.1 (nn rfl))
  have kn_27 : Hid (c_21 1 3 = c 1 3) := (hF_23 1 3 qn_39cd18c3e).trans ((up_c (nn rfl)).trans (hid kn_26))
  have h_28 : c_21 1 3 = c 1 3 := (hid kn_27)
  have h_29 := ir_41_2 hI
  have kn_30 : Hid (c_4 41 2 = c 41 2) := hF_6 41 2 (fun h => absurd h.1 (nn rfl))
  have kn_31 : Hid (c_21 41 2 = c 41 2) := (hF_23 41 2 qn_53bdb2099).trans ((up_c (nn rfl)).trans (hid kn_30))
  have h_32 : c_21 41 2 = c 41 2 := (hid kn_31)
  exact K P Q c_21 0 (by decide) hI_22 ⟨by omega, ub_fr hU (fun j => (hF_23 2 j qn_2ad67e194).trans ((up_c (nn rfl)).trans (hF_6 2 j (fun h => absurd h.1 (nn rfl))))) (fun j => (hF_23 43 j qn_1520ff5e3).trans ((up_c (nn rfl)).trans (hF_6 43 j (fun h => absurd h.1 (nn rfl)))))⟩

set_option maxRecDepth 100000 in
set_option maxHeartbeats 4000000 in
theorem o_33 {xs : Nat → Int32} {L i0 d nc ns P Q : Nat} {c : ME} {Z : AR → Prop} (hi : i0 + 8 ≤ L) (hL : L ≤ 100000) (hI : Iv 0 (-1) P Q c) (hR : Rq P c) (K : ∀ (P2 Q2 : Nat) (c2 : ME) (e : Nat), e ≤ 1 → Iv 0 (-1) P2 Q2 c2 → (Rq P2 c2) → Wp (a_scr L xs) (d + 90) 296 1844 [(4, vi (i0 : Int)), (3, .ref 67), (2, .ref 41), (1, .ref 0), (0, .ref a_SC)] [] (Wd P2 Q2 P2 P2 c2) (nc + e) (ns + 6 * e) Z) : Wp (a_scr L xs) (d + 90) 296 1493 [(4, vi (i0 : Int)), (3, .ref 67), (2, .ref 41), (1, .ref 0), (0, .ref a_SC)] [] (Wd P Q P P c) nc ns Z := by
  obtain ⟨x1, hx1⟩ : ∃ z, (xs (i0 + 1)).toInt = z := ⟨_, rfl⟩
  have x1r := c_rng (xs (i0 + 1))
  rw [hx1] at x1r
  obtain ⟨x2, hx2⟩ : ∃ z, (xs (i0 + 2)).toInt = z := ⟨_, rfl⟩
  have x2r := c_rng (xs (i0 + 2))
  rw [hx2] at x2r
  obtain ⟨x3, hx3⟩ : ∃ z, (xs (i0 + 3)).toInt = z := ⟨_, rfl⟩
  have x3r := c_rng (xs (i0 + 3))
  rw [hx3] at x3r
  obtain ⟨x4, hx4⟩ : ∃ z, (xs (i0 + 4)).toInt = z := ⟨_, rfl⟩
  have x4r := c_rng (xs (i0 + 4))
  rw [hx4] at x4r
  obtain ⟨x5, hx5⟩ : ∃ z, (xs (i0 + 5)).toInt = z := ⟨_, rfl⟩
  have x5r := c_rng (xs (i0 + 5))
  rw [hx5] at x5r
  obtain ⟨x6, hx6⟩ : ∃ z, (xs (i0 + 6)).toInt = z := ⟨_, rfl⟩
  have x6r := c_rng (xs (i0 + 6))
  rw [hx6] at x6r
  obtain ⟨x7, hx7⟩ : ∃ z, (xs (i0 + 7)).toInt = z := ⟨_, rfl⟩
  have x7r := c_rng (xs (i0 + 7))
  rw [hx7] at x7r
  have hP := iv_P hI
  have hQ := iv_Q hI
  have hT := rl_t hR
  have hU := rl_u hR
  refine q_aload_n c_296_1493 rfl (q_aload_n c_296_1494 rfl (q_iload c_296_1495 rfl (q_iconst c_296_1497 (v_iadd (v := (i0 : Int) + 1) c_296_1498 rfl (v_scr (j := i0 + 1) c_296_1499 (by omega) (by omega) hL hx1 (q_aload_n c_296_1500 rfl (q_iload c_296_1501 rfl ?_)))))))
  refine q_iconst c_296_1503 (v_iadd (v := (i0 : Int) + 2) c_296_1504 rfl (v_scr (j := i0 + 2) c_296_1505 (by omega) (by omega) hL hx2 (q_aload_n c_296_1506 rfl (q_call c_296_1507 rfl rfl rfl (q_aload_n c_291_0 rfl (q_iconst c_291_1 (q_aload_n c_291_2 rfl ?_)))))))
  refine q_iload_n c_291_3 rfl (q_iload_n c_291_4 rfl ?_)
  refine v_cv c_291_5 km_9_102 rfl rfl (Nat.le_of_ble_eq_true rfl) ⟨⟨rfl, rfl⟩, Nat.le_of_ble_eq_true rfl, rfl⟩ (Nat.le_of_ble_eq_true rfl) (Nat.le_of_ble_eq_true rfl) (s_100 (a1 := x1) (a2 := x2) hI (show (-2147483648) ≤ x1 ∧ x1 ≤ 2147483647 from ⟨by omega, by omega⟩) (show (-2147483648) ≤ x2 ∧ x2 ≤ 2147483647 from ⟨by omega, by omega⟩) (fun c_1 hI_2 hF_3 => ?_) (fun c_4 y_7 hI_5 hF_6 hy_7 => ?_))
  · skip
    refine bk_thr (z := Int32.ofInt 1) rfl ⟨_, _, rfl⟩ rfl (bk_inl (q_istore c_296_1510 (Nat.le_of_ble_eq_true rfl) (q_aload_n c_296_1512 rfl (q_aload_n c_296_1513 rfl (q_iload c_296_1514 rfl (q_iconst c_296_1516 (v_iadd (v := (i0 : Int) + 1) c_296_1517 rfl ?_)))))))
    refine v_scr (j := i0 + 1) c_296_1518 (by omega) (by omega) hL hx1 (q_aload_n c_296_1519 rfl (q_iload c_296_1520 rfl (q_iconst c_296_1522 (v_iadd (v := (i0 : Int) + 2) c_296_1523 rfl (v_scr (j := i0 + 2) c_296_1524 (by omega) (by omega) hL hx2 (v_cv c_296_1525 km_9_241 rfl rfl (Nat.le_of_ble_eq_true rfl) ⟨⟨rfl, rfl⟩, Nat.le_of_ble_eq_true rfl, rfl⟩ (Nat.le_of_ble_eq_true rfl) (Nat.le_of_ble_eq_true rfl) (s_248 (a1 := x1) (a2 := x2) hI_2 (show (-2147483648) ≤ x1 ∧ x1 ≤ 2147483647 from ⟨by omega, by omega⟩) (show (-2147483648) ≤ x2 ∧ x2 ≤ 2147483647 from ⟨by omega, by omega⟩) (fun c_8 y_11 hI_9 hF_10 hy_11 => (bk_inl ?_)))))))))
    refine q_istore c_296_1528 (Nat.le_of_ble_eq_true rfl) (q_goto (t := 1844) c_296_1530 rfl (Wp_ls [(4, vi (i0 : Int)), (3, .ref 67), (2, .ref 41), (1, .ref 0), (0, .ref a_SC)] (lsub_cons rfl (lsub_cons rfl (lsub_cons rfl (lsub_cons rfl (lsub_cons rfl lsub_nil))))) ?_))
    have h_12 := ir_1_3 hI
    have kn_13 : Hid (c_1 1 3 = c 1 3) := hF_3 1 3 (fun h => absurd h.1 (nn rfl))
    have kn_14 : Hid (c_8 1 3 = c 1 3) := (hF_10 1 3 (fun q => q.elim (fun h => absurd h.1 (nn rfl)) (fun h => absurd h (nn rfl)))).trans (hid kn_13)
    have h_15 : c_8 1 3 = c 1 3 := (hid kn_14)
    have h_16 := ir_41_2 hI
    have kn_17 : Hid (c_1 41 2 = c 41 2) := hF_3 41 2 (fun h => absurd h.1 (nn rfl))
    have kn_18 : Hid (c_8 41 2 = c 41 2) := (hF_10 41 2 (fun q => q.elim (fun h => absurd h.2 (ni rfl)) (fun h => absurd h (nn rfl)))).trans (hid kn_17)
    have h_19 : c_8 41 2 = c 41 2 := (hid kn_18)
    exact K P Q c_8 1 (by decide) hI_9 ⟨by omega, ub_fr hU (fun j => (hF_10 2 j (fun q => q.elim (fun h => absurd h.1 (nn rfl)) (fun h => absurd h (nn rfl)))).trans (hF_3 2 j (fun h => absurd h.1 (nn rfl)))) (fun j => (hF_10 43 j (fun q => q.elim (fun h => absurd h.1 (nn rfl)) (fun h => absurd h (nn rfl)))).trans (hF_3 43 j (fun h => absurd h.1 (nn rfl))))⟩
  refine bk_inl (v_i2l c_291_8 (by omega) (v_ls c_291_9 rfl (by decide) (by decide) (by decide) (q_goto (t := 17) c_291_10 rfl (q_iconst c_291_17 (q_iret c_291_18 rfl (bk_inl (q_istore c_296_1510 (Nat.le_of_ble_eq_true rfl) ?_)))))))
  refine q_aload_n c_296_1512 rfl (q_aload_n c_296_1513 rfl (q_iload c_296_1514 rfl (q_iconst c_296_1516 (v_iadd (v := (i0 : Int) + 1) c_296_1517 rfl (v_scr (j := i0 + 1) c_296_1518 (by omega) (by omega) hL hx1 (q_aload_n c_296_1519 rfl (q_iload c_296_1520 rfl ?_)))))))
  refine q_iconst c_296_1522 (v_iadd (v := (i0 : Int) + 2) c_296_1523 rfl (v_scr (j := i0 + 2) c_296_1524 (by omega) (by omega) hL hx2 ?_))
  have hI_20 := iw_lx (a := 67) (j := 0) (v := y_7) hI_5 (by omega)
  refine v_cv c_296_1525 km_9_241 rfl rfl (Nat.le_of_ble_eq_true rfl) ⟨⟨rfl, rfl⟩, Nat.le_of_ble_eq_true rfl, rfl⟩ (Nat.le_of_ble_eq_true rfl) (Nat.le_of_ble_eq_true rfl) (s_248 (a1 := x1) (a2 := x2) hI_20 (show (-2147483648) ≤ x1 ∧ x1 ≤ 2147483647 from ⟨by omega, by omega⟩) (show (-2147483648) ≤ x2 ∧ x2 ≤ 2147483647 from ⟨by omega, by omega⟩) (fun c_21 y_24 hI_22 hF_23 hy_24 => (bk_inl (q_istore c_296_1528 (Nat.le_of_ble_eq_true rfl) (q_goto (t := 1844) c_296_1530 rfl (Wp_ls [(4, vi (i0 : Int)), (3, .ref 67), (2, .ref 41), (1, .ref 0), (0, .ref a_SC)] (lsub_cons rfl (lsub_cons rfl (lsub_cons rfl (lsub_cons rfl (lsub_cons rfl lsub_nil))))) ?_))))))
  have h_25 := ir_1_3 hI
  have kn_26 : Hid (c_4 1 3 = c 1 3) := hF_6 1 3 (fun h => absurd h.1 (nn rfl))
  have kn_27 : Hid (c_21 1 3 = c 1 3) := (hF_23 1 3 (fun q => q.elim (fun h => absurd h.1 (nn rfl)) (fun h => absurd h (nn rfl)))).trans ((up_c (nn rfl)).trans (hid kn_26))
  have h_28 : c_21 1 3 = c 1 3 := (hid kn_27)
  have h_29 := ir_41_2 hI
  have kn_30 : Hid (c_4 41 2 = c 41 2) := hF_6 41 2 (fun h => absurd h.1 (nn rfl))
  have kn_31 : Hid (c_21 41 2 = c 41 2) := (hF_23 41 2 (fun q => q.elim (fun h => absurd h.2 (ni rfl)) (fun h => absurd h (nn rfl)))).trans ((up_c (nn rfl)).trans (hid kn_30))
  have h_32 : c_21 41 2 = c 41 2 := (hid kn_31)
  exact K P Q c_21 0 (by decide) hI_22 ⟨by omega, ub_fr hU (fun j => (hF_23 2 j (fun q => q.elim (fun h => absurd h.1 (nn rfl)) (fun h => absurd h (nn rfl)))).trans ((up_c (nn rfl)).trans (hF_6 2 j (fun h => absurd h.1 (nn rfl))))) (fun j => (hF_23 43 j (fun q => q.elim (fun h => absurd h.1 (nn rfl)) (fun h => absurd h (nn rfl)))).trans ((up_c (nn rfl)).trans (hF_6 43 j (fun h => absurd h.1 (nn rfl)))))⟩

set_option maxRecDepth 100000 in
set_option maxHeartbeats 4000000 in
theorem o_34 {xs : Nat → Int32} {L i0 d nc ns P Q : Nat} {c : ME} {Z : AR → Prop} (hi : i0 + 8 ≤ L) (hL : L ≤ 100000) (hI : Iv 0 (-1) P Q c) (hR : Rq P c) (K : ∀ (P2 Q2 : Nat) (c2 : ME) (e : Nat), e ≤ 1 → Iv 0 (-1) P2 Q2 c2 → (Rq P2 c2) → Wp (a_scr L xs) (d + 90) 296 1844 [(4, vi (i0 : Int)), (3, .ref 67), (2, .ref 41), (1, .ref 0), (0, .ref a_SC)] [] (Wd P2 Q2 P2 P2 c2) (nc + e) (ns + 6 * e) Z) : Wp (a_scr L xs) (d + 90) 296 1533 [(4, vi (i0 : Int)), (3, .ref 67), (2, .ref 41), (1, .ref 0), (0, .ref a_SC)] [] (Wd P Q P P c) nc ns Z := by
  obtain ⟨x1, hx1⟩ : ∃ z, (xs (i0 + 1)).toInt = z := ⟨_, rfl⟩
  have x1r := c_rng (xs (i0 + 1))
  rw [hx1] at x1r
  obtain ⟨x2, hx2⟩ : ∃ z, (xs (i0 + 2)).toInt = z := ⟨_, rfl⟩
  have x2r := c_rng (xs (i0 + 2))
  rw [hx2] at x2r
  obtain ⟨x3, hx3⟩ : ∃ z, (xs (i0 + 3)).toInt = z := ⟨_, rfl⟩
  have x3r := c_rng (xs (i0 + 3))
  rw [hx3] at x3r
  obtain ⟨x4, hx4⟩ : ∃ z, (xs (i0 + 4)).toInt = z := ⟨_, rfl⟩
  have x4r := c_rng (xs (i0 + 4))
  rw [hx4] at x4r
  obtain ⟨x5, hx5⟩ : ∃ z, (xs (i0 + 5)).toInt = z := ⟨_, rfl⟩
  have x5r := c_rng (xs (i0 + 5))
  rw [hx5] at x5r
  obtain ⟨x6, hx6⟩ : ∃ z, (xs (i0 + 6)).toInt = z := ⟨_, rfl⟩
  have x6r := c_rng (xs (i0 + 6))
  rw [hx6] at x6r
  obtain ⟨x7, hx7⟩ : ∃ z, (xs (i0 + 7)).toInt = z := ⟨_, rfl⟩
  have x7r := c_rng (xs (i0 + 7))
  rw [hx7] at x7r
  have hP := iv_P hI
  have hQ := iv_Q hI
  have hT := rl_t hR
  have hU := rl_u hR
  refine q_aload_n c_296_1533 rfl (v_cv c_296_1534 km_9_242 rfl rfl (Nat.le_of_ble_eq_true rfl) ⟨⟨rfl, rfl⟩, Nat.le_of_ble_eq_true rfl, rfl⟩ (Nat.le_of_ble_eq_true rfl) (Nat.le_of_ble_eq_true rfl) (s_107 hI (fun c_1 y_4 hI_2 hF_3 hy_4 => (bk_inl (q_pop c_296_1537 rfl (q_aload_n c_296_1538 rfl (v_cv c_296_1539 km_9_245 rfl rfl (Nat.le_of_ble_eq_true rfl) ⟨⟨rfl, rfl⟩, Nat.le_of_ble_eq_true rfl, rfl⟩ (Nat.le_of_ble_eq_true rfl) (Nat.le_of_ble_eq_true rfl) (s_249 hI_2 (fun c_5 y_8 hI_6 hF_7 hy_8 => (bk_inl (q_pop c_296_1542 rfl ?_)))))))))))
  refine q_goto (t := 1844) c_296_1543 rfl (Wp_ls [(4, vi (i0 : Int)), (3, .ref 67), (2, .ref 41), (1, .ref 0), (0, .ref a_SC)] (lsub_cons rfl (lsub_cons rfl (lsub_cons rfl (lsub_cons rfl (lsub_cons rfl lsub_nil))))) ?_)
  have h_9 := ir_1_3 hI
  have kn_10 : Hid (c_1 1 3 = c 1 3) := hF_3 1 3 (qn_db0fa2040 hP)
  have kn_11 : Hid (c_5 1 3 = c 1 3) := (hF_7 1 3 qn_965711e77).trans (hid kn_10)
  have h_12 : c_5 1 3 = c 1 3 := (hid kn_11)
  have h_13 := ir_41_2 hI
  have kn_14 : Hid (c_1 41 2 = c 41 2) := hF_3 41 2 (qn_4d24c7afb hP)
  have kn_15 : Hid (c_5 41 2 = c 41 2) := (hF_7 41 2 qn_dd6cb5371).trans (hid kn_14)
  have h_16 : c_5 41 2 = c 41 2 := (hid kn_15)
  exact K P Q c_5 0 (by decide) hI_6 ⟨by omega, ub_fr hU (fun j => (hF_7 2 j qn_7bbf03f40).trans (hF_3 2 j (qn_389d7b966 hP))) (fun j => (hF_7 43 j qn_da8a66655).trans (hF_3 43 j (qn_afbd556c9 hP)))⟩

set_option maxRecDepth 100000 in
set_option maxHeartbeats 4000000 in
theorem o_35 {xs : Nat → Int32} {L i0 d nc ns P Q : Nat} {c : ME} {Z : AR → Prop} (hi : i0 + 8 ≤ L) (hL : L ≤ 100000) (hI : Iv 0 (-1) P Q c) (hR : Rq P c) (K : ∀ (P2 Q2 : Nat) (c2 : ME) (e : Nat), e ≤ 1 → Iv 0 (-1) P2 Q2 c2 → (Rq P2 c2) → Wp (a_scr L xs) (d + 90) 296 1844 [(4, vi (i0 : Int)), (3, .ref 67), (2, .ref 41), (1, .ref 0), (0, .ref a_SC)] [] (Wd P2 Q2 P2 P2 c2) (nc + e) (ns + 6 * e) Z) : Wp (a_scr L xs) (d + 90) 296 1546 [(4, vi (i0 : Int)), (3, .ref 67), (2, .ref 41), (1, .ref 0), (0, .ref a_SC)] [] (Wd P Q P P c) nc ns Z := by
  obtain ⟨x1, hx1⟩ : ∃ z, (xs (i0 + 1)).toInt = z := ⟨_, rfl⟩
  have x1r := c_rng (xs (i0 + 1))
  rw [hx1] at x1r
  obtain ⟨x2, hx2⟩ : ∃ z, (xs (i0 + 2)).toInt = z := ⟨_, rfl⟩
  have x2r := c_rng (xs (i0 + 2))
  rw [hx2] at x2r
  obtain ⟨x3, hx3⟩ : ∃ z, (xs (i0 + 3)).toInt = z := ⟨_, rfl⟩
  have x3r := c_rng (xs (i0 + 3))
  rw [hx3] at x3r
  obtain ⟨x4, hx4⟩ : ∃ z, (xs (i0 + 4)).toInt = z := ⟨_, rfl⟩
  have x4r := c_rng (xs (i0 + 4))
  rw [hx4] at x4r
  obtain ⟨x5, hx5⟩ : ∃ z, (xs (i0 + 5)).toInt = z := ⟨_, rfl⟩
  have x5r := c_rng (xs (i0 + 5))
  rw [hx5] at x5r
  obtain ⟨x6, hx6⟩ : ∃ z, (xs (i0 + 6)).toInt = z := ⟨_, rfl⟩
  have x6r := c_rng (xs (i0 + 6))
  rw [hx6] at x6r
  obtain ⟨x7, hx7⟩ : ∃ z, (xs (i0 + 7)).toInt = z := ⟨_, rfl⟩
  have x7r := c_rng (xs (i0 + 7))
  rw [hx7] at x7r
  have hP := iv_P hI
  have hQ := iv_Q hI
  have hT := rl_t hR
  have hU := rl_u hR
  refine q_aload_n c_296_1546 rfl (q_aload_n c_296_1547 rfl (q_iload c_296_1548 rfl (q_iconst c_296_1550 (v_iadd (v := (i0 : Int) + 1) c_296_1551 rfl (v_scr (j := i0 + 1) c_296_1552 (by omega) (by omega) hL hx1 (q_aload_n c_296_1553 rfl (q_call c_296_1554 rfl rfl rfl ?_)))))))
  refine q_aload_n c_292_0 rfl (q_iconst c_292_1 (q_aload_n c_292_2 rfl (q_iload_n c_292_3 rfl ?_)))
  refine v_cv c_292_4 km_9_105 rfl rfl (Nat.le_of_ble_eq_true rfl) ⟨⟨rfl, rfl⟩, Nat.le_of_ble_eq_true rfl, rfl⟩ (Nat.le_of_ble_eq_true rfl) (Nat.le_of_ble_eq_true rfl) (s_102 (a1 := x1) hI (show (-2147483648) ≤ x1 ∧ x1 ≤ 2147483647 from ⟨by omega, by omega⟩) (fun c_1 hI_2 hF_3 => ?_) (fun c_4 y_7 hI_5 hF_6 hy_7 => ?_))
  · skip
    refine bk_thr (z := Int32.ofInt 1) rfl ⟨_, _, rfl⟩ rfl (bk_inl (q_istore c_296_1557 (Nat.le_of_ble_eq_true rfl) (q_aload_n c_296_1559 rfl (q_aload_n c_296_1560 rfl (q_iload c_296_1561 rfl (q_iconst c_296_1563 (v_iadd (v := (i0 : Int) + 1) c_296_1564 rfl ?_)))))))
    refine v_scr (j := i0 + 1) c_296_1565 (by omega) (by omega) hL hx1 (v_cv c_296_1566 km_9_248 rfl rfl (Nat.le_of_ble_eq_true rfl) ⟨⟨rfl, rfl⟩, Nat.le_of_ble_eq_true rfl, rfl⟩ (Nat.le_of_ble_eq_true rfl) (Nat.le_of_ble_eq_true rfl) (s_250 (a1 := x1) hI_2 (show (-2147483648) ≤ x1 ∧ x1 ≤ 2147483647 from ⟨by omega, by omega⟩) (fun c_8 y_11 hI_9 hF_10 hy_11 => (bk_inl (q_istore c_296_1569 (Nat.le_of_ble_eq_true rfl) (q_goto (t := 1844) c_296_1571 rfl (Wp_ls [(4, vi (i0 : Int)), (3, .ref 67), (2, .ref 41), (1, .ref 0), (0, .ref a_SC)] (lsub_cons rfl (lsub_cons rfl (lsub_cons rfl (lsub_cons rfl (lsub_cons rfl lsub_nil))))) ?_)))))))
    have h_12 := ir_1_3 hI
    have kn_13 : Hid (c_1 1 3 = c 1 3) := hF_3 1 3 (fun h => absurd h.1 (nn rfl))
    have kn_14 : Hid (c_8 1 3 = c 1 3) := (hF_10 1 3 qn_39cd18c3e).trans (hid kn_13)
    have h_15 : c_8 1 3 = c 1 3 := (hid kn_14)
    have h_16 := ir_41_2 hI
    have kn_17 : Hid (c_1 41 2 = c 41 2) := hF_3 41 2 (fun h => absurd h.1 (nn rfl))
    have kn_18 : Hid (c_8 41 2 = c 41 2) := (hF_10 41 2 qn_53bdb2099).trans (hid kn_17)
    have h_19 : c_8 41 2 = c 41 2 := (hid kn_18)
    exact K P Q c_8 1 (by decide) hI_9 ⟨by omega, ub_fr hU (fun j => (hF_10 2 j qn_2ad67e194).trans (hF_3 2 j (fun h => absurd h.1 (nn rfl)))) (fun j => (hF_10 43 j qn_1520ff5e3).trans (hF_3 43 j (fun h => absurd h.1 (nn rfl))))⟩
  refine bk_inl (v_i2l c_292_7 (by omega) (v_ls c_292_8 rfl (by decide) (by decide) (by decide) (q_goto (t := 15) c_292_9 rfl (q_iconst c_292_15 (q_iret c_292_16 rfl (bk_inl (q_istore c_296_1557 (Nat.le_of_ble_eq_true rfl) ?_)))))))
  refine q_aload_n c_296_1559 rfl (q_aload_n c_296_1560 rfl (q_iload c_296_1561 rfl (q_iconst c_296_1563 (v_iadd (v := (i0 : Int) + 1) c_296_1564 rfl (v_scr (j := i0 + 1) c_296_1565 (by omega) (by omega) hL hx1 ?_)))))
  have hI_20 := iw_lx (a := 67) (j := 0) (v := y_7) hI_5 (by omega)
  refine v_cv c_296_1566 km_9_248 rfl rfl (Nat.le_of_ble_eq_true rfl) ⟨⟨rfl, rfl⟩, Nat.le_of_ble_eq_true rfl, rfl⟩ (Nat.le_of_ble_eq_true rfl) (Nat.le_of_ble_eq_true rfl) (s_250 (a1 := x1) hI_20 (show (-2147483648) ≤ x1 ∧ x1 ≤ 2147483647 from ⟨by omega, by omega⟩) (fun c_21 y_24 hI_22 hF_23 hy_24 => (bk_inl (q_istore c_296_1569 (Nat.le_of_ble_eq_true rfl) (q_goto (t := 1844) c_296_1571 rfl (Wp_ls [(4, vi (i0 : Int)), (3, .ref 67), (2, .ref 41), (1, .ref 0), (0, .ref a_SC)] (lsub_cons rfl (lsub_cons rfl (lsub_cons rfl (lsub_cons rfl (lsub_cons rfl lsub_nil))))) ?_))))))
  have h_25 := ir_1_3 hI
  have kn_26 : Hid (c_4 1 3 = c 1 3) := hF_6 1 3 (fun h => absurd h.1 (nn rfl))
  have kn_27 : Hid (c_21 1 3 = c 1 3) := (hF_23 1 3 qn_39cd18c3e).trans ((up_c (nn rfl)).trans (hid kn_26))
  have h_28 : c_21 1 3 = c 1 3 := (hid kn_27)
  have h_29 := ir_41_2 hI
  have kn_30 : Hid (c_4 41 2 = c 41 2) := hF_6 41 2 (fun h => absurd h.1 (nn rfl))
  have kn_31 : Hid (c_21 41 2 = c 41 2) := (hF_23 41 2 qn_53bdb2099).trans ((up_c (nn rfl)).trans (hid kn_30))
  have h_32 : c_21 41 2 = c 41 2 := (hid kn_31)
  exact K P Q c_21 0 (by decide) hI_22 ⟨by omega, ub_fr hU (fun j => (hF_23 2 j qn_2ad67e194).trans ((up_c (nn rfl)).trans (hF_6 2 j (fun h => absurd h.1 (nn rfl))))) (fun j => (hF_23 43 j qn_1520ff5e3).trans ((up_c (nn rfl)).trans (hF_6 43 j (fun h => absurd h.1 (nn rfl)))))⟩

set_option maxRecDepth 100000 in
set_option maxHeartbeats 4000000 in
theorem o_36 {xs : Nat → Int32} {L i0 d nc ns P Q : Nat} {c : ME} {Z : AR → Prop} (hi : i0 + 8 ≤ L) (hL : L ≤ 100000) (hI : Iv 0 (-1) P Q c) (hR : Rq P c) (K : ∀ (P2 Q2 : Nat) (c2 : ME) (e : Nat), e ≤ 1 → Iv 0 (-1) P2 Q2 c2 → (Rq P2 c2) → Wp (a_scr L xs) (d + 90) 296 1844 [(4, vi (i0 : Int)), (3, .ref 67), (2, .ref 41), (1, .ref 0), (0, .ref a_SC)] [] (Wd P2 Q2 P2 P2 c2) (nc + e) (ns + 6 * e) Z) : Wp (a_scr L xs) (d + 90) 296 1574 [(4, vi (i0 : Int)), (3, .ref 67), (2, .ref 41), (1, .ref 0), (0, .ref a_SC)] [] (Wd P Q P P c) nc ns Z := by
  obtain ⟨x1, hx1⟩ : ∃ z, (xs (i0 + 1)).toInt = z := ⟨_, rfl⟩
  have x1r := c_rng (xs (i0 + 1))
  rw [hx1] at x1r
  obtain ⟨x2, hx2⟩ : ∃ z, (xs (i0 + 2)).toInt = z := ⟨_, rfl⟩
  have x2r := c_rng (xs (i0 + 2))
  rw [hx2] at x2r
  obtain ⟨x3, hx3⟩ : ∃ z, (xs (i0 + 3)).toInt = z := ⟨_, rfl⟩
  have x3r := c_rng (xs (i0 + 3))
  rw [hx3] at x3r
  obtain ⟨x4, hx4⟩ : ∃ z, (xs (i0 + 4)).toInt = z := ⟨_, rfl⟩
  have x4r := c_rng (xs (i0 + 4))
  rw [hx4] at x4r
  obtain ⟨x5, hx5⟩ : ∃ z, (xs (i0 + 5)).toInt = z := ⟨_, rfl⟩
  have x5r := c_rng (xs (i0 + 5))
  rw [hx5] at x5r
  obtain ⟨x6, hx6⟩ : ∃ z, (xs (i0 + 6)).toInt = z := ⟨_, rfl⟩
  have x6r := c_rng (xs (i0 + 6))
  rw [hx6] at x6r
  obtain ⟨x7, hx7⟩ : ∃ z, (xs (i0 + 7)).toInt = z := ⟨_, rfl⟩
  have x7r := c_rng (xs (i0 + 7))
  rw [hx7] at x7r
  have hP := iv_P hI
  have hQ := iv_Q hI
  have hT := rl_t hR
  have hU := rl_u hR
  refine q_aload_n c_296_1574 rfl (q_aload_n c_296_1575 rfl (q_iload c_296_1576 rfl (q_iconst c_296_1578 (v_iadd (v := (i0 : Int) + 1) c_296_1579 rfl (v_scr (j := i0 + 1) c_296_1580 (by omega) (by omega) hL hx1 (q_aload_n c_296_1581 rfl (q_iload c_296_1582 rfl ?_)))))))
  refine q_iconst c_296_1584 (v_iadd (v := (i0 : Int) + 2) c_296_1585 rfl (v_scr (j := i0 + 2) c_296_1586 (by omega) (by omega) hL hx2 (q_aload_n c_296_1587 rfl (q_call c_296_1588 rfl rfl rfl (q_aload_n c_293_0 rfl (q_iconst c_293_1 (q_aload_n c_293_2 rfl ?_)))))))
  refine q_iload_n c_293_3 rfl (q_iload_n c_293_4 rfl ?_)
  refine v_cv c_293_5 km_9_108 rfl rfl (Nat.le_of_ble_eq_true rfl) ⟨⟨rfl, rfl⟩, Nat.le_of_ble_eq_true rfl, rfl⟩ (Nat.le_of_ble_eq_true rfl) (Nat.le_of_ble_eq_true rfl) (s_116 (a1 := x1) (a2 := x2) hI (show (-2147483648) ≤ x1 ∧ x1 ≤ 2147483647 from ⟨by omega, by omega⟩) (show (-2147483648) ≤ x2 ∧ x2 ≤ 2147483647 from ⟨by omega, by omega⟩) (fun c_1 hI_2 hF_3 => ?_) (fun c_4 hI_5 hF_6 => ?_) (fun c_7 y_10 hI_8 hF_9 hy_10 => ?_))
  · skip
    refine bk_thr (z := Int32.ofInt 1) rfl ⟨_, _, rfl⟩ rfl (bk_inl (q_istore c_296_1591 (Nat.le_of_ble_eq_true rfl) (q_aload_n c_296_1593 rfl (q_aload_n c_296_1594 rfl (q_iload c_296_1595 rfl (q_iconst c_296_1597 (v_iadd (v := (i0 : Int) + 1) c_296_1598 rfl ?_)))))))
    refine v_scr (j := i0 + 1) c_296_1599 (by omega) (by omega) hL hx1 (q_aload_n c_296_1600 rfl (q_iload c_296_1601 rfl (q_iconst c_296_1603 (v_iadd (v := (i0 : Int) + 2) c_296_1604 rfl (v_scr (j := i0 + 2) c_296_1605 (by omega) (by omega) hL hx2 (v_cv c_296_1606 km_9_251 rfl rfl (Nat.le_of_ble_eq_true rfl) ⟨⟨rfl, rfl⟩, Nat.le_of_ble_eq_true rfl, rfl⟩ (Nat.le_of_ble_eq_true rfl) (Nat.le_of_ble_eq_true rfl) (s_251 (a1 := x1) (a2 := x2) hI_2 (show (-2147483648) ≤ x1 ∧ x1 ≤ 2147483647 from ⟨by omega, by omega⟩) (show (-2147483648) ≤ x2 ∧ x2 ≤ 2147483647 from ⟨by omega, by omega⟩) (fun c_11 y_14 hI_12 hF_13 hy_14 => (bk_inl ?_)))))))))
    refine q_istore c_296_1609 (Nat.le_of_ble_eq_true rfl) (q_goto (t := 1844) c_296_1611 rfl (Wp_ls [(4, vi (i0 : Int)), (3, .ref 67), (2, .ref 41), (1, .ref 0), (0, .ref a_SC)] (lsub_cons rfl (lsub_cons rfl (lsub_cons rfl (lsub_cons rfl (lsub_cons rfl lsub_nil))))) ?_))
    have h_15 := ir_1_3 hI
    have kn_16 : Hid (c_1 1 3 = c 1 3) := hF_3 1 3 (fun q => q.elim (fun h => absurd h.1 (nn rfl)) (fun h => absurd h.1 (nn rfl)))
    have kn_17 : Hid (c_11 1 3 = c 1 3) := (hF_13 1 3 qn_39cd18c3e).trans (hid kn_16)
    have h_18 : c_11 1 3 = c 1 3 := (hid kn_17)
    have h_19 := ir_41_2 hI
    have kn_20 : Hid (c_1 41 2 = c 41 2) := hF_3 41 2 (fun q => q.elim (fun h => absurd h.1 (nn rfl)) (fun h => absurd h.1 (nn rfl)))
    have kn_21 : Hid (c_11 41 2 = c 41 2) := (hF_13 41 2 qn_53bdb2099).trans (hid kn_20)
    have h_22 : c_11 41 2 = c 41 2 := (hid kn_21)
    exact K P Q c_11 1 (by decide) hI_12 ⟨by omega, ub_fr hU (fun j => (hF_13 2 j qn_2ad67e194).trans (hF_3 2 j (fun q => q.elim (fun h => absurd h.1 (nn rfl)) (fun h => absurd h.1 (nn rfl))))) (fun j => (hF_13 43 j qn_1520ff5e3).trans (hF_3 43 j (fun q => q.elim (fun h => absurd h.1 (nn rfl)) (fun h => absurd h.1 (nn rfl)))))⟩
  · skip
    refine bk_thr (z := Int32.ofInt 2) rfl ⟨_, _, rfl⟩ rfl (bk_inl (q_istore c_296_1591 (Nat.le_of_ble_eq_true rfl) (q_aload_n c_296_1593 rfl (q_aload_n c_296_1594 rfl (q_iload c_296_1595 rfl (q_iconst c_296_1597 (v_iadd (v := (i0 : Int) + 1) c_296_1598 rfl ?_)))))))
    refine v_scr (j := i0 + 1) c_296_1599 (by omega) (by omega) hL hx1 (q_aload_n c_296_1600 rfl (q_iload c_296_1601 rfl (q_iconst c_296_1603 (v_iadd (v := (i0 : Int) + 2) c_296_1604 rfl (v_scr (j := i0 + 2) c_296_1605 (by omega) (by omega) hL hx2 (v_cv c_296_1606 km_9_251 rfl rfl (Nat.le_of_ble_eq_true rfl) ⟨⟨rfl, rfl⟩, Nat.le_of_ble_eq_true rfl, rfl⟩ (Nat.le_of_ble_eq_true rfl) (Nat.le_of_ble_eq_true rfl) (s_251 (a1 := x1) (a2 := x2) hI_5 (show (-2147483648) ≤ x1 ∧ x1 ≤ 2147483647 from ⟨by omega, by omega⟩) (show (-2147483648) ≤ x2 ∧ x2 ≤ 2147483647 from ⟨by omega, by omega⟩) (fun c_23 y_26 hI_24 hF_25 hy_26 => (bk_inl ?_)))))))))
    refine q_istore c_296_1609 (Nat.le_of_ble_eq_true rfl) (q_goto (t := 1844) c_296_1611 rfl (Wp_ls [(4, vi (i0 : Int)), (3, .ref 67), (2, .ref 41), (1, .ref 0), (0, .ref a_SC)] (lsub_cons rfl (lsub_cons rfl (lsub_cons rfl (lsub_cons rfl (lsub_cons rfl lsub_nil))))) ?_))
    have h_27 := ir_1_3 hI
    have kn_28 : Hid (c_4 1 3 = c 1 3) := hF_6 1 3 (fun q => q.elim (fun h => absurd h.1 (nn rfl)) (fun h => absurd h.1 (nn rfl)))
    have kn_29 : Hid (c_23 1 3 = c 1 3) := (hF_25 1 3 qn_39cd18c3e).trans (hid kn_28)
    have h_30 : c_23 1 3 = c 1 3 := (hid kn_29)
    have h_31 := ir_41_2 hI
    have kn_32 : Hid (c_4 41 2 = c 41 2) := hF_6 41 2 (fun q => q.elim (fun h => absurd h.1 (nn rfl)) (fun h => absurd h.1 (nn rfl)))
    have kn_33 : Hid (c_23 41 2 = c 41 2) := (hF_25 41 2 qn_53bdb2099).trans (hid kn_32)
    have h_34 : c_23 41 2 = c 41 2 := (hid kn_33)
    exact K P Q c_23 1 (by decide) hI_24 ⟨by omega, ub_fr hU (fun j => (hF_25 2 j qn_2ad67e194).trans (hF_6 2 j (fun q => q.elim (fun h => absurd h.1 (nn rfl)) (fun h => absurd h.1 (nn rfl))))) (fun j => (hF_25 43 j qn_1520ff5e3).trans (hF_6 43 j (fun q => q.elim (fun h => absurd h.1 (nn rfl)) (fun h => absurd h.1 (nn rfl)))))⟩
  refine bk_inl (v_i2l c_293_8 (by omega) (v_ls c_293_9 rfl (by decide) (by decide) (by decide) (q_goto (t := 21) c_293_10 rfl (q_iconst c_293_21 (q_iret c_293_22 rfl (bk_inl (q_istore c_296_1591 (Nat.le_of_ble_eq_true rfl) ?_)))))))
  refine q_aload_n c_296_1593 rfl (q_aload_n c_296_1594 rfl (q_iload c_296_1595 rfl (q_iconst c_296_1597 (v_iadd (v := (i0 : Int) + 1) c_296_1598 rfl (v_scr (j := i0 + 1) c_296_1599 (by omega) (by omega) hL hx1 (q_aload_n c_296_1600 rfl (q_iload c_296_1601 rfl ?_)))))))
  refine q_iconst c_296_1603 (v_iadd (v := (i0 : Int) + 2) c_296_1604 rfl (v_scr (j := i0 + 2) c_296_1605 (by omega) (by omega) hL hx2 ?_))
  have hI_35 := iw_lx (a := 67) (j := 0) (v := y_10) hI_8 (by omega)
  refine v_cv c_296_1606 km_9_251 rfl rfl (Nat.le_of_ble_eq_true rfl) ⟨⟨rfl, rfl⟩, Nat.le_of_ble_eq_true rfl, rfl⟩ (Nat.le_of_ble_eq_true rfl) (Nat.le_of_ble_eq_true rfl) (s_251 (a1 := x1) (a2 := x2) hI_35 (show (-2147483648) ≤ x1 ∧ x1 ≤ 2147483647 from ⟨by omega, by omega⟩) (show (-2147483648) ≤ x2 ∧ x2 ≤ 2147483647 from ⟨by omega, by omega⟩) (fun c_36 y_39 hI_37 hF_38 hy_39 => (bk_inl (q_istore c_296_1609 (Nat.le_of_ble_eq_true rfl) (q_goto (t := 1844) c_296_1611 rfl (Wp_ls [(4, vi (i0 : Int)), (3, .ref 67), (2, .ref 41), (1, .ref 0), (0, .ref a_SC)] (lsub_cons rfl (lsub_cons rfl (lsub_cons rfl (lsub_cons rfl (lsub_cons rfl lsub_nil))))) ?_))))))
  have h_40 := ir_1_3 hI
  have kn_41 : Hid (c_7 1 3 = c 1 3) := hF_9 1 3 (fun q => q.elim (fun h => absurd h.1 (nn rfl)) (fun h => absurd h.1 (nn rfl)))
  have kn_42 : Hid (c_36 1 3 = c 1 3) := (hF_38 1 3 qn_39cd18c3e).trans ((up_c (nn rfl)).trans (hid kn_41))
  have h_43 : c_36 1 3 = c 1 3 := (hid kn_42)
  have h_44 := ir_41_2 hI
  have kn_45 : Hid (c_7 41 2 = c 41 2) := hF_9 41 2 (fun q => q.elim (fun h => absurd h.1 (nn rfl)) (fun h => absurd h.1 (nn rfl)))
  have kn_46 : Hid (c_36 41 2 = c 41 2) := (hF_38 41 2 qn_53bdb2099).trans ((up_c (nn rfl)).trans (hid kn_45))
  have h_47 : c_36 41 2 = c 41 2 := (hid kn_46)
  exact K P Q c_36 0 (by decide) hI_37 ⟨by omega, ub_fr hU (fun j => (hF_38 2 j qn_2ad67e194).trans ((up_c (nn rfl)).trans (hF_9 2 j (fun q => q.elim (fun h => absurd h.1 (nn rfl)) (fun h => absurd h.1 (nn rfl)))))) (fun j => (hF_38 43 j qn_1520ff5e3).trans ((up_c (nn rfl)).trans (hF_9 43 j (fun q => q.elim (fun h => absurd h.1 (nn rfl)) (fun h => absurd h.1 (nn rfl))))))⟩

set_option maxRecDepth 100000 in
set_option maxHeartbeats 4000000 in
theorem o_37 {xs : Nat → Int32} {L i0 d nc ns P Q : Nat} {c : ME} {Z : AR → Prop} (hi : i0 + 8 ≤ L) (hL : L ≤ 100000) (hI : Iv 0 (-1) P Q c) (hR : Rq P c) (K : ∀ (P2 Q2 : Nat) (c2 : ME) (e : Nat), e ≤ 1 → Iv 0 (-1) P2 Q2 c2 → (Rq P2 c2) → Wp (a_scr L xs) (d + 90) 296 1844 [(4, vi (i0 : Int)), (3, .ref 67), (2, .ref 41), (1, .ref 0), (0, .ref a_SC)] [] (Wd P2 Q2 P2 P2 c2) (nc + e) (ns + 6 * e) Z) : Wp (a_scr L xs) (d + 90) 296 1614 [(4, vi (i0 : Int)), (3, .ref 67), (2, .ref 41), (1, .ref 0), (0, .ref a_SC)] [] (Wd P Q P P c) nc ns Z := by
  obtain ⟨x1, hx1⟩ : ∃ z, (xs (i0 + 1)).toInt = z := ⟨_, rfl⟩
  have x1r := c_rng (xs (i0 + 1))
  rw [hx1] at x1r
  obtain ⟨x2, hx2⟩ : ∃ z, (xs (i0 + 2)).toInt = z := ⟨_, rfl⟩
  have x2r := c_rng (xs (i0 + 2))
  rw [hx2] at x2r
  obtain ⟨x3, hx3⟩ : ∃ z, (xs (i0 + 3)).toInt = z := ⟨_, rfl⟩
  have x3r := c_rng (xs (i0 + 3))
  rw [hx3] at x3r
  obtain ⟨x4, hx4⟩ : ∃ z, (xs (i0 + 4)).toInt = z := ⟨_, rfl⟩
  have x4r := c_rng (xs (i0 + 4))
  rw [hx4] at x4r
  obtain ⟨x5, hx5⟩ : ∃ z, (xs (i0 + 5)).toInt = z := ⟨_, rfl⟩
  have x5r := c_rng (xs (i0 + 5))
  rw [hx5] at x5r
  obtain ⟨x6, hx6⟩ : ∃ z, (xs (i0 + 6)).toInt = z := ⟨_, rfl⟩
  have x6r := c_rng (xs (i0 + 6))
  rw [hx6] at x6r
  obtain ⟨x7, hx7⟩ : ∃ z, (xs (i0 + 7)).toInt = z := ⟨_, rfl⟩
  have x7r := c_rng (xs (i0 + 7))
  rw [hx7] at x7r
  have hP := iv_P hI
  have hQ := iv_Q hI
  have hT := rl_t hR
  have hU := rl_u hR
  refine q_aload_n c_296_1614 rfl (q_aload_n c_296_1615 rfl (q_iload c_296_1616 rfl (q_iconst c_296_1618 (v_iadd (v := (i0 : Int) + 1) c_296_1619 rfl (v_scr (j := i0 + 1) c_296_1620 (by omega) (by omega) hL hx1 (q_aload_n c_296_1621 rfl (q_iload c_296_1622 rfl ?_)))))))
  refine q_iconst c_296_1624 (v_iadd (v := (i0 : Int) + 2) c_296_1625 rfl (v_scr (j := i0 + 2) c_296_1626 (by omega) (by omega) hL hx2 (q_aload_n c_296_1627 rfl (q_iload c_296_1628 rfl (q_iconst c_296_1630 (v_iadd (v := (i0 : Int) + 3) c_296_1631 rfl (v_scr (j := i0 + 3) c_296_1632 (by omega) (by omega) hL hx3 ?_)))))))
  refine q_aload_n c_296_1633 rfl (q_iload c_296_1634 rfl (q_iconst c_296_1636 (v_iadd (v := (i0 : Int) + 4) c_296_1637 rfl (v_scr (j := i0 + 4) c_296_1638 (by omega) (by omega) hL hx4 (q_aload_n c_296_1639 rfl (q_call c_296_1640 rfl rfl rfl (q_aload c_294_0 rfl ?_)))))))
  refine q_iconst c_294_2 (q_aload_n c_294_3 rfl (q_iload_n c_294_4 rfl (q_iload_n c_294_5 rfl (q_iload_n c_294_6 rfl (q_iload c_294_7 rfl ?_)))))
  refine v_cv c_294_9 km_9_111 rfl rfl (Nat.le_of_ble_eq_true rfl) ⟨⟨rfl, rfl⟩, Nat.le_of_ble_eq_true rfl, rfl⟩ (Nat.le_of_ble_eq_true rfl) (Nat.le_of_ble_eq_true rfl) (s_137 (a1 := x1) (a2 := x2) (a3 := x3) (a4 := x4) hI (show (-2147483648) ≤ x1 ∧ x1 ≤ 2147483647 from ⟨by omega, by omega⟩) (show (-2147483648) ≤ x2 ∧ x2 ≤ 2147483647 from ⟨by omega, by omega⟩) (show (-2147483648) ≤ x3 ∧ x3 ≤ 2147483647 from ⟨by omega, by omega⟩) (show (-2147483648) ≤ x4 ∧ x4 ≤ 2147483647 from ⟨by omega, by omega⟩) (fun c_1 hI_2 hF_3 => ?_) (fun c_4 y_7 hI_5 hF_6 hy_7 => ?_))
  · skip
    refine bk_thr (z := Int32.ofInt 1) rfl ⟨_, _, rfl⟩ rfl (bk_inl (q_istore c_296_1643 (Nat.le_of_ble_eq_true rfl) (q_aload_n c_296_1645 rfl (q_aload_n c_296_1646 rfl (q_iload c_296_1647 rfl (q_iconst c_296_1649 (v_iadd (v := (i0 : Int) + 1) c_296_1650 rfl ?_)))))))
    refine v_scr (j := i0 + 1) c_296_1651 (by omega) (by omega) hL hx1 (q_aload_n c_296_1652 rfl (q_iload c_296_1653 rfl (q_iconst c_296_1655 (v_iadd (v := (i0 : Int) + 2) c_296_1656 rfl (v_scr (j := i0 + 2) c_296_1657 (by omega) (by omega) hL hx2 (q_aload_n c_296_1658 rfl (q_iload c_296_1659 rfl ?_)))))))
    refine q_iconst c_296_1661 (v_iadd (v := (i0 : Int) + 3) c_296_1662 rfl (v_scr (j := i0 + 3) c_296_1663 (by omega) (by omega) hL hx3 (q_aload_n c_296_1664 rfl (q_iload c_296_1665 rfl (q_iconst c_296_1667 (v_iadd (v := (i0 : Int) + 4) c_296_1668 rfl (v_scr (j := i0 + 4) c_296_1669 (by omega) (by omega) hL hx4 ?_)))))))
    refine v_cv c_296_1670 km_9_254 rfl rfl (Nat.le_of_ble_eq_true rfl) ⟨⟨rfl, rfl⟩, Nat.le_of_ble_eq_true rfl, rfl⟩ (Nat.le_of_ble_eq_true rfl) (Nat.le_of_ble_eq_true rfl) (s_255 (a1 := x1) (a2 := x2) (a3 := x3) (a4 := x4) hI_2 (show (-2147483648) ≤ x1 ∧ x1 ≤ 2147483647 from ⟨by omega, by omega⟩) (show (-2147483648) ≤ x2 ∧ x2 ≤ 2147483647 from ⟨by omega, by omega⟩) (show (-2147483648) ≤ x3 ∧ x3 ≤ 2147483647 from ⟨by omega, by omega⟩) (show (-2147483648) ≤ x4 ∧ x4 ≤ 2147483647 from ⟨by omega, by omega⟩) (fun c_8 y_11 hI_9 hF_10 hy_11 => (bk_inl (q_istore c_296_1673 (Nat.le_of_ble_eq_true rfl) (q_goto (t := 1844) c_296_1675 rfl (Wp_ls [(4, vi (i0 : Int)), (3, .ref 67), (2, .ref 41), (1, .ref 0), (0, .ref a_SC)] (lsub_cons rfl (lsub_cons rfl (lsub_cons rfl (lsub_cons rfl (lsub_cons rfl lsub_nil))))) ?_))))))
    have h_12 := ir_1_3 hI
    have kn_13 : Hid (c_1 1 3 = c 1 3) := hF_3 1 3 (qn_cc1064621 hP)
    have kn_14 : Hid (c_8 1 3 = c 1 3) := (hF_10 1 3 qn_9d94bd60f).trans (hid kn_13)
    have h_15 : c_8 1 3 = c 1 3 := (hid kn_14)
    have h_16 := ir_41_2 hI
    have kn_17 : Hid (c_1 41 2 = c 41 2) := hF_3 41 2 (qn_55346d250 hP)
    have kn_18 : Hid (c_8 41 2 = c 41 2) := (hF_10 41 2 qn_9f4d5821f).trans (hid kn_17)
    have h_19 : c_8 41 2 = c 41 2 := (hid kn_18)
    exact K P Q c_8 1 (by decide) hI_9 ⟨by omega, ub_fr hU (fun j => (hF_10 2 j qn_ea1d8203a).trans (hF_3 2 j (qn_11c530ba0 hP))) (fun j => (hF_10 43 j qn_921fc31f7).trans (hF_3 43 j (qn_ce891e06c hP)))⟩
  refine bk_inl (v_i2l c_294_12 (by omega) (v_ls c_294_13 rfl (by decide) (by decide) (by decide) (q_goto (t := 21) c_294_14 rfl (q_iconst c_294_21 (q_iret c_294_22 rfl (bk_inl (q_istore c_296_1643 (Nat.le_of_ble_eq_true rfl) ?_)))))))
  refine q_aload_n c_296_1645 rfl (q_aload_n c_296_1646 rfl (q_iload c_296_1647 rfl (q_iconst c_296_1649 (v_iadd (v := (i0 : Int) + 1) c_296_1650 rfl (v_scr (j := i0 + 1) c_296_1651 (by omega) (by omega) hL hx1 (q_aload_n c_296_1652 rfl (q_iload c_296_1653 rfl ?_)))))))
  refine q_iconst c_296_1655 (v_iadd (v := (i0 : Int) + 2) c_296_1656 rfl (v_scr (j := i0 + 2) c_296_1657 (by omega) (by omega) hL hx2 (q_aload_n c_296_1658 rfl (q_iload c_296_1659 rfl (q_iconst c_296_1661 (v_iadd (v := (i0 : Int) + 3) c_296_1662 rfl (v_scr (j := i0 + 3) c_296_1663 (by omega) (by omega) hL hx3 ?_)))))))
  refine q_aload_n c_296_1664 rfl (q_iload c_296_1665 rfl (q_iconst c_296_1667 (v_iadd (v := (i0 : Int) + 4) c_296_1668 rfl (v_scr (j := i0 + 4) c_296_1669 (by omega) (by omega) hL hx4 ?_))))
  have hI_20 := iw_lx (a := 67) (j := 0) (v := y_7) hI_5 (by omega)
  refine v_cv c_296_1670 km_9_254 rfl rfl (Nat.le_of_ble_eq_true rfl) ⟨⟨rfl, rfl⟩, Nat.le_of_ble_eq_true rfl, rfl⟩ (Nat.le_of_ble_eq_true rfl) (Nat.le_of_ble_eq_true rfl) (s_255 (a1 := x1) (a2 := x2) (a3 := x3) (a4 := x4) hI_20 (show (-2147483648) ≤ x1 ∧ x1 ≤ 2147483647 from ⟨by omega, by omega⟩) (show (-2147483648) ≤ x2 ∧ x2 ≤ 2147483647 from ⟨by omega, by omega⟩) (show (-2147483648) ≤ x3 ∧ x3 ≤ 2147483647 from ⟨by omega, by omega⟩) (show (-2147483648) ≤ x4 ∧ x4 ≤ 2147483647 from ⟨by omega, by omega⟩) (fun c_21 y_24 hI_22 hF_23 hy_24 => (bk_inl (q_istore c_296_1673 (Nat.le_of_ble_eq_true rfl) (q_goto (t := 1844) c_296_1675 rfl (Wp_ls [(4, vi (i0 : Int)), (3, .ref 67), (2, .ref 41), (1, .ref 0), (0, .ref a_SC)] (lsub_cons rfl (lsub_cons rfl (lsub_cons rfl (lsub_cons rfl (lsub_cons rfl lsub_nil))))) ?_))))))
  have h_25 := ir_1_3 hI
  have kn_26 : Hid (c_4 1 3 = c 1 3) := hF_6 1 3 (qn_cc1064621 hP)
  have kn_27 : Hid (c_21 1 3 = c 1 3) := (hF_23 1 3 qn_9d94bd60f).trans ((up_c (nn rfl)).trans (hid kn_26))
  have h_28 : c_21 1 3 = c 1 3 := (hid kn_27)
  have h_29 := ir_41_2 hI
  have kn_30 : Hid (c_4 41 2 = c 41 2) := hF_6 41 2 (qn_55346d250 hP)
  have kn_31 : Hid (c_21 41 2 = c 41 2) := (hF_23 41 2 qn_9f4d5821f).trans ((up_c (nn rfl)).trans (hid kn_30))
  have h_32 : c_21 41 2 = c 41 2 := (hid kn_31)
  exact K P Q c_21 0 (by decide) hI_22 ⟨by omega, ub_fr hU (fun j => (hF_23 2 j qn_ea1d8203a).trans ((up_c (nn rfl)).trans (hF_6 2 j (qn_11c530ba0 hP)))) (fun j => (hF_23 43 j qn_921fc31f7).trans ((up_c (nn rfl)).trans (hF_6 43 j (qn_ce891e06c hP))))⟩

set_option maxRecDepth 100000 in
set_option maxHeartbeats 4000000 in
theorem o_38 {xs : Nat → Int32} {L i0 d nc ns P Q : Nat} {c : ME} {Z : AR → Prop} (hi : i0 + 8 ≤ L) (hL : L ≤ 100000) (hI : Iv 0 (-1) P Q c) (hR : Rq P c) (K : ∀ (P2 Q2 : Nat) (c2 : ME) (e : Nat), e ≤ 1 → Iv 0 (-1) P2 Q2 c2 → (Rq P2 c2) → Wp (a_scr L xs) (d + 90) 296 1844 [(4, vi (i0 : Int)), (3, .ref 67), (2, .ref 41), (1, .ref 0), (0, .ref a_SC)] [] (Wd P2 Q2 P2 P2 c2) (nc + e) (ns + 6 * e) Z) : Wp (a_scr L xs) (d + 90) 296 1678 [(4, vi (i0 : Int)), (3, .ref 67), (2, .ref 41), (1, .ref 0), (0, .ref a_SC)] [] (Wd P Q P P c) nc ns Z := by
  obtain ⟨x1, hx1⟩ : ∃ z, (xs (i0 + 1)).toInt = z := ⟨_, rfl⟩
  have x1r := c_rng (xs (i0 + 1))
  rw [hx1] at x1r
  obtain ⟨x2, hx2⟩ : ∃ z, (xs (i0 + 2)).toInt = z := ⟨_, rfl⟩
  have x2r := c_rng (xs (i0 + 2))
  rw [hx2] at x2r
  obtain ⟨x3, hx3⟩ : ∃ z, (xs (i0 + 3)).toInt = z := ⟨_, rfl⟩
  have x3r := c_rng (xs (i0 + 3))
  rw [hx3] at x3r
  obtain ⟨x4, hx4⟩ : ∃ z, (xs (i0 + 4)).toInt = z := ⟨_, rfl⟩
  have x4r := c_rng (xs (i0 + 4))
  rw [hx4] at x4r
  obtain ⟨x5, hx5⟩ : ∃ z, (xs (i0 + 5)).toInt = z := ⟨_, rfl⟩
  have x5r := c_rng (xs (i0 + 5))
  rw [hx5] at x5r
  obtain ⟨x6, hx6⟩ : ∃ z, (xs (i0 + 6)).toInt = z := ⟨_, rfl⟩
  have x6r := c_rng (xs (i0 + 6))
  rw [hx6] at x6r
  obtain ⟨x7, hx7⟩ : ∃ z, (xs (i0 + 7)).toInt = z := ⟨_, rfl⟩
  have x7r := c_rng (xs (i0 + 7))
  rw [hx7] at x7r
  have hP := iv_P hI
  have hQ := iv_Q hI
  have hT := rl_t hR
  have hU := rl_u hR
  refine q_aload_n c_296_1678 rfl (q_aload_n c_296_1679 rfl (q_iload c_296_1680 rfl (q_iconst c_296_1682 (v_iadd (v := (i0 : Int) + 1) c_296_1683 rfl (v_scr (j := i0 + 1) c_296_1684 (by omega) (by omega) hL hx1 (q_aload_n c_296_1685 rfl (q_iload c_296_1686 rfl ?_)))))))
  refine q_iconst c_296_1688 (v_iadd (v := (i0 : Int) + 2) c_296_1689 rfl (v_scr (j := i0 + 2) c_296_1690 (by omega) (by omega) hL hx2 (q_aload_n c_296_1691 rfl (q_iload c_296_1692 rfl (q_iconst c_296_1694 (v_iadd (v := (i0 : Int) + 3) c_296_1695 rfl (v_scr (j := i0 + 3) c_296_1696 (by omega) (by omega) hL hx3 ?_)))))))
  refine q_aload_n c_296_1697 rfl (q_iload c_296_1698 rfl (q_iconst c_296_1700 (v_iadd (v := (i0 : Int) + 4) c_296_1701 rfl (v_scr (j := i0 + 4) c_296_1702 (by omega) (by omega) hL hx4 (q_aload_n c_296_1703 rfl (q_iload c_296_1704 rfl (q_iconst c_296_1706 ?_)))))))
  refine v_iadd (v := (i0 : Int) + 5) c_296_1707 rfl (v_scr (j := i0 + 5) c_296_1708 (by omega) (by omega) hL hx5 (q_aload_n c_296_1709 rfl (q_iload c_296_1710 rfl (v_bip c_296_1712 (by decide) (v_iadd (v := (i0 : Int) + 6) c_296_1714 rfl (v_scr (j := i0 + 6) c_296_1715 (by omega) (by omega) hL hx6 (q_aload_n c_296_1716 rfl ?_)))))))
  refine q_call c_296_1717 rfl rfl rfl (q_aload c_295_0 rfl (q_iconst c_295_2 (q_aload_n c_295_3 rfl (q_iload_n c_295_4 rfl (q_iload_n c_295_5 rfl (q_iload_n c_295_6 rfl (q_iload c_295_7 rfl ?_)))))))
  refine q_iload c_295_9 rfl (q_iload c_295_11 rfl ?_)
  refine v_cv c_295_13 km_9_115 rfl rfl (Nat.le_of_ble_eq_true rfl) ⟨⟨rfl, rfl⟩, Nat.le_of_ble_eq_true rfl, rfl⟩ (Nat.le_of_ble_eq_true rfl) (Nat.le_of_ble_eq_true rfl) (s_138 (a1 := x1) (a2 := x2) (a3 := x3) (a4 := x4) (a5 := x5) (a6 := x6) hI (show (-2147483648) ≤ x1 ∧ x1 ≤ 2147483647 from ⟨by omega, by omega⟩) (show (-2147483648) ≤ x2 ∧ x2 ≤ 2147483647 from ⟨by omega, by omega⟩) (show (-2147483648) ≤ x3 ∧ x3 ≤ 2147483647 from ⟨by omega, by omega⟩) (show (-2147483648) ≤ x4 ∧ x4 ≤ 2147483647 from ⟨by omega, by omega⟩) (show (-2147483648) ≤ x5 ∧ x5 ≤ 2147483647 from ⟨by omega, by omega⟩) (show (-2147483648) ≤ x6 ∧ x6 ≤ 2147483647 from ⟨by omega, by omega⟩) (fun c_1 hI_2 hF_3 => ?_) (fun c_4 y_7 hI_5 hF_6 hy_7 => ?_))
  · skip
    refine bk_thr (z := Int32.ofInt 1) rfl ⟨_, _, rfl⟩ rfl (bk_inl (q_istore c_296_1720 (Nat.le_of_ble_eq_true rfl) (q_aload_n c_296_1722 rfl (q_aload_n c_296_1723 rfl (q_iload c_296_1724 rfl (q_iconst c_296_1726 (v_iadd (v := (i0 : Int) + 1) c_296_1727 rfl ?_)))))))
    refine v_scr (j := i0 + 1) c_296_1728 (by omega) (by omega) hL hx1 (q_aload_n c_296_1729 rfl (q_iload c_296_1730 rfl (q_iconst c_296_1732 (v_iadd (v := (i0 : Int) + 2) c_296_1733 rfl (v_scr (j := i0 + 2) c_296_1734 (by omega) (by omega) hL hx2 (q_aload_n c_296_1735 rfl (q_iload c_296_1736 rfl ?_)))))))
    refine q_iconst c_296_1738 (v_iadd (v := (i0 : Int) + 3) c_296_1739 rfl (v_scr (j := i0 + 3) c_296_1740 (by omega) (by omega) hL hx3 (q_aload_n c_296_1741 rfl (q_iload c_296_1742 rfl (q_iconst c_296_1744 (v_iadd (v := (i0 : Int) + 4) c_296_1745 rfl (v_scr (j := i0 + 4) c_296_1746 (by omega) (by omega) hL hx4 ?_)))))))
    refine q_aload_n c_296_1747 rfl (q_iload c_296_1748 rfl (q_iconst c_296_1750 (v_iadd (v := (i0 : Int) + 5) c_296_1751 rfl (v_scr (j := i0 + 5) c_296_1752 (by omega) (by omega) hL hx5 (q_aload_n c_296_1753 rfl (q_iload c_296_1754 rfl (v_bip c_296_1756 (by decide) ?_)))))))
    refine v_iadd (v := (i0 : Int) + 6) c_296_1758 rfl (v_scr (j := i0 + 6) c_296_1759 (by omega) (by omega) hL hx6 (v_cv c_296_1760 km_9_258 rfl rfl (Nat.le_of_ble_eq_true rfl) ⟨⟨rfl, rfl⟩, Nat.le_of_ble_eq_true rfl, rfl⟩ (Nat.le_of_ble_eq_true rfl) (Nat.le_of_ble_eq_true rfl) (s_256 (a1 := x1) (a2 := x2) (a3 := x3) (a4 := x4) (a5 := x5) (a6 := x6) hI_2 (show (-2147483648) ≤ x1 ∧ x1 ≤ 2147483647 from ⟨by omega, by omega⟩) (show (-2147483648) ≤ x2 ∧ x2 ≤ 2147483647 from ⟨by omega, by omega⟩) (show (-2147483648) ≤ x3 ∧ x3 ≤ 2147483647 from ⟨by omega, by omega⟩) (show (-2147483648) ≤ x4 ∧ x4 ≤ 2147483647 from ⟨by omega, by omega⟩) (show (-2147483648) ≤ x5 ∧ x5 ≤ 2147483647 from ⟨by omega, by omega⟩) (show (-2147483648) ≤ x6 ∧ x6 ≤ 2147483647 from ⟨by omega, by omega⟩) (fun c_8 y_11 hI_9 hF_10 hy_11 => (bk_inl (q_istore c_296_1763 (Nat.le_of_ble_eq_true rfl) (q_goto (t := 1844) c_296_1765 rfl (Wp_ls [(4, vi (i0 : Int)), (3, .ref 67), (2, .ref 41), (1, .ref 0), (0, .ref a_SC)] (lsub_cons rfl (lsub_cons rfl (lsub_cons rfl (lsub_cons rfl (lsub_cons rfl lsub_nil))))) ?_))))))))
    have h_12 := ir_1_3 hI
    have kn_13 : Hid (c_1 1 3 = c 1 3) := hF_3 1 3 (qn_cc1064621 hP)
    have kn_14 : Hid (c_8 1 3 = c 1 3) := (hF_10 1 3 qn_9d94bd60f).trans (hid kn_13)
    have h_15 : c_8 1 3 = c 1 3 := (hid kn_14)
    have h_16 := ir_41_2 hI
    have kn_17 : Hid (c_1 41 2 = c 41 2) := hF_3 41 2 (qn_55346d250 hP)
    have kn_18 : Hid (c_8 41 2 = c 41 2) := (hF_10 41 2 qn_9f4d5821f).trans (hid kn_17)
    have h_19 : c_8 41 2 = c 41 2 := (hid kn_18)
    exact K P Q c_8 1 (by decide) hI_9 ⟨by omega, ub_fr hU (fun j => (hF_10 2 j qn_ea1d8203a).trans (hF_3 2 j (qn_11c530ba0 hP))) (fun j => (hF_10 43 j qn_921fc31f7).trans (hF_3 43 j (qn_ce891e06c hP)))⟩
  refine bk_inl (v_i2l c_295_16 (by omega) (v_ls c_295_17 rfl (by decide) (by decide) (by decide) (q_goto (t := 25) c_295_18 rfl (q_iconst c_295_25 (q_iret c_295_26 rfl (bk_inl (q_istore c_296_1720 (Nat.le_of_ble_eq_true rfl) ?_)))))))
  refine q_aload_n c_296_1722 rfl (q_aload_n c_296_1723 rfl (q_iload c_296_1724 rfl (q_iconst c_296_1726 (v_iadd (v := (i0 : Int) + 1) c_296_1727 rfl (v_scr (j := i0 + 1) c_296_1728 (by omega) (by omega) hL hx1 (q_aload_n c_296_1729 rfl (q_iload c_296_1730 rfl ?_)))))))
  refine q_iconst c_296_1732 (v_iadd (v := (i0 : Int) + 2) c_296_1733 rfl (v_scr (j := i0 + 2) c_296_1734 (by omega) (by omega) hL hx2 (q_aload_n c_296_1735 rfl (q_iload c_296_1736 rfl (q_iconst c_296_1738 (v_iadd (v := (i0 : Int) + 3) c_296_1739 rfl (v_scr (j := i0 + 3) c_296_1740 (by omega) (by omega) hL hx3 ?_)))))))
  refine q_aload_n c_296_1741 rfl (q_iload c_296_1742 rfl (q_iconst c_296_1744 (v_iadd (v := (i0 : Int) + 4) c_296_1745 rfl (v_scr (j := i0 + 4) c_296_1746 (by omega) (by omega) hL hx4 (q_aload_n c_296_1747 rfl (q_iload c_296_1748 rfl (q_iconst c_296_1750 ?_)))))))
  refine v_iadd (v := (i0 : Int) + 5) c_296_1751 rfl (v_scr (j := i0 + 5) c_296_1752 (by omega) (by omega) hL hx5 (q_aload_n c_296_1753 rfl (q_iload c_296_1754 rfl (v_bip c_296_1756 (by decide) (v_iadd (v := (i0 : Int) + 6) c_296_1758 rfl (v_scr (j := i0 + 6) c_296_1759 (by omega) (by omega) hL hx6 ?_))))))
  have hI_20 := iw_lx (a := 67) (j := 0) (v := y_7) hI_5 (by omega)
  refine v_cv c_296_1760 km_9_258 rfl rfl (Nat.le_of_ble_eq_true rfl) ⟨⟨rfl, rfl⟩, Nat.le_of_ble_eq_true rfl, rfl⟩ (Nat.le_of_ble_eq_true rfl) (Nat.le_of_ble_eq_true rfl) (s_256 (a1 := x1) (a2 := x2) (a3 := x3) (a4 := x4) (a5 := x5) (a6 := x6) hI_20 (show (-2147483648) ≤ x1 ∧ x1 ≤ 2147483647 from ⟨by omega, by omega⟩) (show (-2147483648) ≤ x2 ∧ x2 ≤ 2147483647 from ⟨by omega, by omega⟩) (show (-2147483648) ≤ x3 ∧ x3 ≤ 2147483647 from ⟨by omega, by omega⟩) (show (-2147483648) ≤ x4 ∧ x4 ≤ 2147483647 from ⟨by omega, by omega⟩) (show (-2147483648) ≤ x5 ∧ x5 ≤ 2147483647 from ⟨by omega, by omega⟩) (show (-2147483648) ≤ x6 ∧ x6 ≤ 2147483647 from ⟨by omega, by omega⟩) (fun c_21 y_24 hI_22 hF_23 hy_24 => (bk_inl (q_istore c_296_1763 (Nat.le_of_ble_eq_true rfl) (q_goto (t := 1844) c_296_1765 rfl (Wp_ls [(4, vi (i0 : Int)), (3, .ref 67), (2, .ref 41), (1, .ref 0), (0, .ref a_SC)] (lsub_cons rfl (lsub_cons rfl (lsub_cons rfl (lsub_cons rfl (lsub_cons rfl lsub_nil))))) ?_))))))
  have h_25 := ir_1_3 hI
  have kn_26 : Hid (c_4 1 3 = c 1 3) := hF_6 1 3 (qn_cc1064621 hP)
  have kn_27 : Hid (c_21 1 3 = c 1 3) := (hF_23 1 3 qn_9d94bd60f).trans ((up_c (nn rfl)).trans (hid kn_26))
  have h_28 : c_21 1 3 = c 1 3 := (hid kn_27)
  have h_29 := ir_41_2 hI
  have kn_30 : Hid (c_4 41 2 = c 41 2) := hF_6 41 2 (qn_55346d250 hP)
  have kn_31 : Hid (c_21 41 2 = c 41 2) := (hF_23 41 2 qn_9f4d5821f).trans ((up_c (nn rfl)).trans (hid kn_30))
  have h_32 : c_21 41 2 = c 41 2 := (hid kn_31)
  exact K P Q c_21 0 (by decide) hI_22 ⟨by omega, ub_fr hU (fun j => (hF_23 2 j qn_ea1d8203a).trans ((up_c (nn rfl)).trans (hF_6 2 j (qn_11c530ba0 hP)))) (fun j => (hF_23 43 j qn_921fc31f7).trans ((up_c (nn rfl)).trans (hF_6 43 j (qn_ce891e06c hP))))⟩

set_option maxRecDepth 100000 in
set_option maxHeartbeats 4000000 in
theorem o_39 {xs : Nat → Int32} {L i0 d nc ns P Q : Nat} {c : ME} {Z : AR → Prop} (hi : i0 + 8 ≤ L) (hL : L ≤ 100000) (hI : Iv 0 (-1) P Q c) (hR : Rq P c) (K : ∀ (P2 Q2 : Nat) (c2 : ME) (e : Nat), e ≤ 1 → Iv 0 (-1) P2 Q2 c2 → (Rq P2 c2) → Wp (a_scr L xs) (d + 90) 296 1844 [(4, vi (i0 : Int)), (3, .ref 67), (2, .ref 41), (1, .ref 0), (0, .ref a_SC)] [] (Wd P2 Q2 P2 P2 c2) (nc + e) (ns + 6 * e) Z) : Wp (a_scr L xs) (d + 90) 296 1768 [(4, vi (i0 : Int)), (3, .ref 67), (2, .ref 41), (1, .ref 0), (0, .ref a_SC)] [] (Wd P Q P P c) nc ns Z := by
  obtain ⟨x1, hx1⟩ : ∃ z, (xs (i0 + 1)).toInt = z := ⟨_, rfl⟩
  have x1r := c_rng (xs (i0 + 1))
  rw [hx1] at x1r
  obtain ⟨x2, hx2⟩ : ∃ z, (xs (i0 + 2)).toInt = z := ⟨_, rfl⟩
  have x2r := c_rng (xs (i0 + 2))
  rw [hx2] at x2r
  obtain ⟨x3, hx3⟩ : ∃ z, (xs (i0 + 3)).toInt = z := ⟨_, rfl⟩
  have x3r := c_rng (xs (i0 + 3))
  rw [hx3] at x3r
  obtain ⟨x4, hx4⟩ : ∃ z, (xs (i0 + 4)).toInt = z := ⟨_, rfl⟩
  have x4r := c_rng (xs (i0 + 4))
  rw [hx4] at x4r
  obtain ⟨x5, hx5⟩ : ∃ z, (xs (i0 + 5)).toInt = z := ⟨_, rfl⟩
  have x5r := c_rng (xs (i0 + 5))
  rw [hx5] at x5r
  obtain ⟨x6, hx6⟩ : ∃ z, (xs (i0 + 6)).toInt = z := ⟨_, rfl⟩
  have x6r := c_rng (xs (i0 + 6))
  rw [hx6] at x6r
  obtain ⟨x7, hx7⟩ : ∃ z, (xs (i0 + 7)).toInt = z := ⟨_, rfl⟩
  have x7r := c_rng (xs (i0 + 7))
  rw [hx7] at x7r
  have hP := iv_P hI
  have hQ := iv_Q hI
  have hT := rl_t hR
  have hU := rl_u hR
  refine q_aload_n c_296_1768 rfl ?_
  have h_1 := ir_3_4 hI
  refine v_cv c_296_1769 km_9_259 rfl rfl (Nat.le_of_ble_eq_true rfl) ⟨⟨rfl, rfl⟩, Nat.le_of_ble_eq_true rfl, rfl⟩ (Nat.le_of_ble_eq_true rfl) (Nat.le_of_ble_eq_true rfl) (s_140 hI (fun c_2 y_5 hI_3 hF_4 hy_5 h_6 => (bk_inl ?_)))
  have h_7 := ir_3_4 hI_3
  refine q_pop c_296_1772 rfl (q_aload_n c_296_1773 rfl ?_)
  have h_8 := ir_41_52 hI
  have kn_9 : Hid (c_2 41 52 = c 41 52) := hF_4 41 52 qn_f4ba2e69c
  have h_10 : c_2 41 52 = c 41 52 := (hid kn_9)
  refine v_cv c_296_1774 km_9_262 rfl rfl (Nat.le_of_ble_eq_true rfl) ⟨⟨rfl, rfl⟩, Nat.le_of_ble_eq_true rfl, rfl⟩ (Nat.le_of_ble_eq_true rfl) (Nat.le_of_ble_eq_true rfl) (s_259 hI_3 (fun c_11 y_14 hI_12 hF_13 hy_14 h_15 => (bk_inl ?_)))
  have h_16 := ir_41_52 hI_12
  refine q_pop c_296_1777 rfl (q_goto (t := 1844) c_296_1778 rfl (Wp_ls [(4, vi (i0 : Int)), (3, .ref 67), (2, .ref 41), (1, .ref 0), (0, .ref a_SC)] (lsub_cons rfl (lsub_cons rfl (lsub_cons rfl (lsub_cons rfl (lsub_cons rfl lsub_nil))))) ?_))
  have h_17 := ir_1_3 hI
  have kn_18 : Hid (c_2 1 3 = c 1 3) := hF_4 1 3 qn_3963d6a95
  have kn_19 : Hid (c_11 1 3 = c 1 3) := (hF_13 1 3 qn_aabc2a966).trans (hid kn_18)
  have h_20 : c_11 1 3 = c 1 3 := (hid kn_19)
  have h_21 := ir_41_2 hI
  have kn_22 : Hid (c_2 41 2 = c 41 2) := hF_4 41 2 qn_f4ba2e69c
  have kn_23 : Hid (c_11 41 2 = c 41 2) := (hF_13 41 2 qn_e34326ac3).trans (hid kn_22)
  have h_24 : c_11 41 2 = c 41 2 := (hid kn_23)
  exact K P Q c_11 0 (by decide) hI_12 ⟨by omega, ub_fr hU (fun j => (hF_13 2 j qn_211572161).trans (hF_4 2 j qn_7006423a9)) (fun j => (hF_13 43 j qn_42e8f904a).trans (hF_4 43 j qn_7439fdc4f))⟩

set_option maxRecDepth 100000 in
set_option maxHeartbeats 4000000 in
theorem o_40 {xs : Nat → Int32} {L i0 d nc ns P Q : Nat} {c : ME} {Z : AR → Prop} (hi : i0 + 8 ≤ L) (hL : L ≤ 100000) (hI : Iv 0 (-1) P Q c) (hR : Rq P c) (K : ∀ (P2 Q2 : Nat) (c2 : ME) (e : Nat), e ≤ 1 → Iv 0 (-1) P2 Q2 c2 → (Rq P2 c2) → Wp (a_scr L xs) (d + 90) 296 1844 [(4, vi (i0 : Int)), (3, .ref 67), (2, .ref 41), (1, .ref 0), (0, .ref a_SC)] [] (Wd P2 Q2 P2 P2 c2) (nc + e) (ns + 6 * e) Z) : Wp (a_scr L xs) (d + 90) 296 1781 [(4, vi (i0 : Int)), (3, .ref 67), (2, .ref 41), (1, .ref 0), (0, .ref a_SC)] [] (Wd P Q P P c) nc ns Z := by
  obtain ⟨x1, hx1⟩ : ∃ z, (xs (i0 + 1)).toInt = z := ⟨_, rfl⟩
  have x1r := c_rng (xs (i0 + 1))
  rw [hx1] at x1r
  obtain ⟨x2, hx2⟩ : ∃ z, (xs (i0 + 2)).toInt = z := ⟨_, rfl⟩
  have x2r := c_rng (xs (i0 + 2))
  rw [hx2] at x2r
  obtain ⟨x3, hx3⟩ : ∃ z, (xs (i0 + 3)).toInt = z := ⟨_, rfl⟩
  have x3r := c_rng (xs (i0 + 3))
  rw [hx3] at x3r
  obtain ⟨x4, hx4⟩ : ∃ z, (xs (i0 + 4)).toInt = z := ⟨_, rfl⟩
  have x4r := c_rng (xs (i0 + 4))
  rw [hx4] at x4r
  obtain ⟨x5, hx5⟩ : ∃ z, (xs (i0 + 5)).toInt = z := ⟨_, rfl⟩
  have x5r := c_rng (xs (i0 + 5))
  rw [hx5] at x5r
  obtain ⟨x6, hx6⟩ : ∃ z, (xs (i0 + 6)).toInt = z := ⟨_, rfl⟩
  have x6r := c_rng (xs (i0 + 6))
  rw [hx6] at x6r
  obtain ⟨x7, hx7⟩ : ∃ z, (xs (i0 + 7)).toInt = z := ⟨_, rfl⟩
  have x7r := c_rng (xs (i0 + 7))
  rw [hx7] at x7r
  have hP := iv_P hI
  have hQ := iv_Q hI
  have hT := rl_t hR
  have hU := rl_u hR
  refine q_aload_n c_296_1781 rfl ?_
  have h_1 := ir_3_4 hI
  refine v_cv c_296_1782 km_9_263 rfl rfl (Nat.le_of_ble_eq_true rfl) ⟨⟨rfl, rfl⟩, Nat.le_of_ble_eq_true rfl, rfl⟩ (Nat.le_of_ble_eq_true rfl) (Nat.le_of_ble_eq_true rfl) (s_141 hI (fun c_2 y_5 hI_3 hF_4 hy_5 h_6 => (bk_inl ?_)))
  have h_7 := ir_3_4 hI_3
  refine q_pop c_296_1785 rfl (q_aload_n c_296_1786 rfl ?_)
  have h_8 := ir_41_52 hI
  have kn_9 : Hid (c_2 41 52 = c 41 52) := hF_4 41 52 qn_4fc69d39d
  have h_10 : c_2 41 52 = c 41 52 := (hid kn_9)
  refine v_cv c_296_1787 km_9_266 rfl rfl (Nat.le_of_ble_eq_true rfl) ⟨⟨rfl, rfl⟩, Nat.le_of_ble_eq_true rfl, rfl⟩ (Nat.le_of_ble_eq_true rfl) (Nat.le_of_ble_eq_true rfl) (s_260 hI_3 (fun c_11 y_14 hI_12 hF_13 hy_14 h_15 => (bk_inl ?_)))
  have h_16 := ir_41_52 hI_12
  refine q_pop c_296_1790 rfl (q_goto (t := 1844) c_296_1791 rfl (Wp_ls [(4, vi (i0 : Int)), (3, .ref 67), (2, .ref 41), (1, .ref 0), (0, .ref a_SC)] (lsub_cons rfl (lsub_cons rfl (lsub_cons rfl (lsub_cons rfl (lsub_cons rfl lsub_nil))))) ?_))
  have h_17 := ir_1_3 hI
  have kn_18 : Hid (c_2 1 3 = c 1 3) := hF_4 1 3 qn_5ca552781
  have kn_19 : Hid (c_11 1 3 = c 1 3) := (hF_13 1 3 qn_bf90d08f5).trans (hid kn_18)
  have h_20 : c_11 1 3 = c 1 3 := (hid kn_19)
  have h_21 := ir_41_2 hI
  have kn_22 : Hid (c_2 41 2 = c 41 2) := hF_4 41 2 qn_4fc69d39d
  have kn_23 : Hid (c_11 41 2 = c 41 2) := (hF_13 41 2 qn_210722190).trans (hid kn_22)
  have h_24 : c_11 41 2 = c 41 2 := (hid kn_23)
  exact K P Q c_11 0 (by decide) hI_12 ⟨by omega, ub_fr hU (fun j => (hF_13 2 j qn_da2ba65fc).trans (hF_4 2 j qn_b09292c1d)) (fun j => (hF_13 43 j qn_9179bb198).trans (hF_4 43 j qn_2ecc35740))⟩

set_option maxRecDepth 100000 in
set_option maxHeartbeats 4000000 in
theorem o_41 {xs : Nat → Int32} {L i0 d nc ns P Q : Nat} {c : ME} {Z : AR → Prop} (hi : i0 + 8 ≤ L) (hL : L ≤ 100000) (hI : Iv 0 (-1) P Q c) (hR : Rq P c) (K : ∀ (P2 Q2 : Nat) (c2 : ME) (e : Nat), e ≤ 1 → Iv 0 (-1) P2 Q2 c2 → (Rq P2 c2) → Wp (a_scr L xs) (d + 90) 296 1844 [(4, vi (i0 : Int)), (3, .ref 67), (2, .ref 41), (1, .ref 0), (0, .ref a_SC)] [] (Wd P2 Q2 P2 P2 c2) (nc + e) (ns + 6 * e) Z) : Wp (a_scr L xs) (d + 90) 296 1794 [(4, vi (i0 : Int)), (3, .ref 67), (2, .ref 41), (1, .ref 0), (0, .ref a_SC)] [] (Wd P Q P P c) nc ns Z := by
  obtain ⟨x1, hx1⟩ : ∃ z, (xs (i0 + 1)).toInt = z := ⟨_, rfl⟩
  have x1r := c_rng (xs (i0 + 1))
  rw [hx1] at x1r
  obtain ⟨x2, hx2⟩ : ∃ z, (xs (i0 + 2)).toInt = z := ⟨_, rfl⟩
  have x2r := c_rng (xs (i0 + 2))
  rw [hx2] at x2r
  obtain ⟨x3, hx3⟩ : ∃ z, (xs (i0 + 3)).toInt = z := ⟨_, rfl⟩
  have x3r := c_rng (xs (i0 + 3))
  rw [hx3] at x3r
  obtain ⟨x4, hx4⟩ : ∃ z, (xs (i0 + 4)).toInt = z := ⟨_, rfl⟩
  have x4r := c_rng (xs (i0 + 4))
  rw [hx4] at x4r
  obtain ⟨x5, hx5⟩ : ∃ z, (xs (i0 + 5)).toInt = z := ⟨_, rfl⟩
  have x5r := c_rng (xs (i0 + 5))
  rw [hx5] at x5r
  obtain ⟨x6, hx6⟩ : ∃ z, (xs (i0 + 6)).toInt = z := ⟨_, rfl⟩
  have x6r := c_rng (xs (i0 + 6))
  rw [hx6] at x6r
  obtain ⟨x7, hx7⟩ : ∃ z, (xs (i0 + 7)).toInt = z := ⟨_, rfl⟩
  have x7r := c_rng (xs (i0 + 7))
  rw [hx7] at x7r
  have hP := iv_P hI
  have hQ := iv_Q hI
  have hT := rl_t hR
  have hU := rl_u hR
  refine q_aload_n c_296_1794 rfl (q_aload_n c_296_1795 rfl (q_iload c_296_1796 rfl (q_iconst c_296_1798 (v_iadd (v := (i0 : Int) + 1) c_296_1799 rfl (v_scr (j := i0 + 1) c_296_1800 (by omega) (by omega) hL hx1 (v_cv c_296_1801 km_9_267 rfl rfl (Nat.le_of_ble_eq_true rfl) ⟨⟨rfl, rfl⟩, Nat.le_of_ble_eq_true rfl, rfl⟩ (Nat.le_of_ble_eq_true rfl) (Nat.le_of_ble_eq_true rfl) (s_142 (a1 := x1) hI (show (-2147483648) ≤ x1 ∧ x1 ≤ 2147483647 from ⟨by omega, by omega⟩) (fun y_1 hy_1 => (bk_inl ?_)))))))))
  refine q_pop c_296_1804 rfl (q_aload_n c_296_1805 rfl (q_aload_n c_296_1806 rfl (q_iload c_296_1807 rfl (q_iconst c_296_1809 (v_iadd (v := (i0 : Int) + 1) c_296_1810 rfl (v_scr (j := i0 + 1) c_296_1811 (by omega) (by omega) hL hx1 (v_cv c_296_1812 km_9_270 rfl rfl (Nat.le_of_ble_eq_true rfl) ⟨⟨rfl, rfl⟩, Nat.le_of_ble_eq_true rfl, rfl⟩ (Nat.le_of_ble_eq_true rfl) (Nat.le_of_ble_eq_true rfl) (s_261 (a1 := x1) hI (show (-2147483648) ≤ x1 ∧ x1 ≤ 2147483647 from ⟨by omega, by omega⟩) (fun c_2 y_5 hI_3 hF_4 hy_5 => ?_)))))))))
  refine bk_inl (q_pop c_296_1815 rfl (q_goto (t := 1844) c_296_1816 rfl (Wp_ls [(4, vi (i0 : Int)), (3, .ref 67), (2, .ref 41), (1, .ref 0), (0, .ref a_SC)] (lsub_cons rfl (lsub_cons rfl (lsub_cons rfl (lsub_cons rfl (lsub_cons rfl lsub_nil))))) ?_)))
  have h_6 := ir_1_3 hI
  have kn_7 : Hid (c_2 1 3 = c 1 3) := hF_4 1 3 (fun h => absurd h.1 (nn rfl))
  have h_8 : c_2 1 3 = c 1 3 := (hid kn_7)
  have h_9 := ir_41_2 hI
  have kn_10 : Hid (c_2 41 2 = c 41 2) := hF_4 41 2 (fun h => absurd h.2 (ni rfl))
  have h_11 : c_2 41 2 = c 41 2 := (hid kn_10)
  exact K P Q c_2 0 (by decide) hI_3 ⟨by omega, ub_fr hU (fun j => hF_4 2 j (fun h => absurd h.1 (nn rfl))) (fun j => hF_4 43 j (fun h => absurd h.1 (nn rfl)))⟩

set_option maxRecDepth 100000 in
set_option maxHeartbeats 4000000 in
theorem o_42 {xs : Nat → Int32} {L i0 d nc ns P Q : Nat} {c : ME} {Z : AR → Prop} (hi : i0 + 8 ≤ L) (hL : L ≤ 100000) (hI : Iv 0 (-1) P Q c) (hR : Rq P c) (K : ∀ (P2 Q2 : Nat) (c2 : ME) (e : Nat), e ≤ 1 → Iv 0 (-1) P2 Q2 c2 → (Rq P2 c2) → Wp (a_scr L xs) (d + 90) 296 1844 [(4, vi (i0 : Int)), (3, .ref 67), (2, .ref 41), (1, .ref 0), (0, .ref a_SC)] [] (Wd P2 Q2 P2 P2 c2) (nc + e) (ns + 6 * e) Z) : Wp (a_scr L xs) (d + 90) 296 1819 [(4, vi (i0 : Int)), (3, .ref 67), (2, .ref 41), (1, .ref 0), (0, .ref a_SC)] [] (Wd P Q P P c) nc ns Z := by
  obtain ⟨x1, hx1⟩ : ∃ z, (xs (i0 + 1)).toInt = z := ⟨_, rfl⟩
  have x1r := c_rng (xs (i0 + 1))
  rw [hx1] at x1r
  obtain ⟨x2, hx2⟩ : ∃ z, (xs (i0 + 2)).toInt = z := ⟨_, rfl⟩
  have x2r := c_rng (xs (i0 + 2))
  rw [hx2] at x2r
  obtain ⟨x3, hx3⟩ : ∃ z, (xs (i0 + 3)).toInt = z := ⟨_, rfl⟩
  have x3r := c_rng (xs (i0 + 3))
  rw [hx3] at x3r
  obtain ⟨x4, hx4⟩ : ∃ z, (xs (i0 + 4)).toInt = z := ⟨_, rfl⟩
  have x4r := c_rng (xs (i0 + 4))
  rw [hx4] at x4r
  obtain ⟨x5, hx5⟩ : ∃ z, (xs (i0 + 5)).toInt = z := ⟨_, rfl⟩
  have x5r := c_rng (xs (i0 + 5))
  rw [hx5] at x5r
  obtain ⟨x6, hx6⟩ : ∃ z, (xs (i0 + 6)).toInt = z := ⟨_, rfl⟩
  have x6r := c_rng (xs (i0 + 6))
  rw [hx6] at x6r
  obtain ⟨x7, hx7⟩ : ∃ z, (xs (i0 + 7)).toInt = z := ⟨_, rfl⟩
  have x7r := c_rng (xs (i0 + 7))
  rw [hx7] at x7r
  have hP := iv_P hI
  have hQ := iv_Q hI
  have hT := rl_t hR
  have hU := rl_u hR
  refine q_aload_n c_296_1819 rfl (q_aload_n c_296_1820 rfl (q_iload c_296_1821 rfl (q_iconst c_296_1823 (v_iadd (v := (i0 : Int) + 1) c_296_1824 rfl (v_scr (j := i0 + 1) c_296_1825 (by omega) (by omega) hL hx1 (v_cv c_296_1826 km_9_271 rfl rfl (Nat.le_of_ble_eq_true rfl) ⟨⟨rfl, rfl⟩, Nat.le_of_ble_eq_true rfl, rfl⟩ (Nat.le_of_ble_eq_true rfl) (Nat.le_of_ble_eq_true rfl) (s_143 (a1 := x1) hI (show (-2147483648) ≤ x1 ∧ x1 ≤ 2147483647 from ⟨by omega, by omega⟩) (fun y_1 hy_1 => (bk_inl ?_)))))))))
  refine q_pop c_296_1829 rfl (q_aload_n c_296_1830 rfl (q_aload_n c_296_1831 rfl (q_iload c_296_1832 rfl (q_iconst c_296_1834 (v_iadd (v := (i0 : Int) + 1) c_296_1835 rfl (v_scr (j := i0 + 1) c_296_1836 (by omega) (by omega) hL hx1 (v_cv c_296_1837 km_9_274 rfl rfl (Nat.le_of_ble_eq_true rfl) ⟨⟨rfl, rfl⟩, Nat.le_of_ble_eq_true rfl, rfl⟩ (Nat.le_of_ble_eq_true rfl) (Nat.le_of_ble_eq_true rfl) (s_262 (a1 := x1) hI (show (-2147483648) ≤ x1 ∧ x1 ≤ 2147483647 from ⟨by omega, by omega⟩) (fun c_2 y_5 hI_3 hF_4 hy_5 => ?_)))))))))
  refine bk_inl (q_pop c_296_1840 rfl (q_goto (t := 1844) c_296_1841 rfl (Wp_ls [(4, vi (i0 : Int)), (3, .ref 67), (2, .ref 41), (1, .ref 0), (0, .ref a_SC)] (lsub_cons rfl (lsub_cons rfl (lsub_cons rfl (lsub_cons rfl (lsub_cons rfl lsub_nil))))) ?_)))
  have h_6 := ir_1_3 hI
  have kn_7 : Hid (c_2 1 3 = c 1 3) := hF_4 1 3 (fun h => absurd h.1 (nn rfl))
  have h_8 : c_2 1 3 = c 1 3 := (hid kn_7)
  have h_9 := ir_41_2 hI
  have kn_10 : Hid (c_2 41 2 = c 41 2) := hF_4 41 2 (fun h => absurd h.2 (ni rfl))
  have h_11 : c_2 41 2 = c 41 2 := (hid kn_10)
  exact K P Q c_2 0 (by decide) hI_3 ⟨by omega, ub_fr hU (fun j => hF_4 2 j (fun h => absurd h.1 (nn rfl))) (fun j => hF_4 43 j (fun h => absurd h.1 (nn rfl)))⟩

