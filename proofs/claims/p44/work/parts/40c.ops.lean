/-! ===== the calls of the law 3 ===== -/
theorem qn_e391c0369 {P : Nat} {j : Int} (hP : P = 13 ∨ P = 25) : ¬ ((P = 0 ∧ j = 13) ∨ P = 10) := (fun q => q.elim (fun h => absurd h.1 (np0 hP rfl)) (fun h => absurd h (np0 hP rfl)))
theorem qn_0bb414bab {j : Int} : ¬ (((1 : Nat) = 41 ∧ j = 0) ∨ (1 : Nat) = 42 ∨ (1 : Nat) = 65) := (fun q => q.elim (fun h => absurd h.1 (nn rfl)) (fun q => q.elim (fun h => absurd h (nn rfl)) (fun h => absurd h (nn rfl))))
theorem qn_ebfe7b626 : ¬ (((41 : Nat) = 41 ∧ (2 : Int) = 0) ∨ (41 : Nat) = 42 ∨ (41 : Nat) = 65) := (fun q => q.elim (fun h => absurd h.2 (ni rfl)) (fun q => q.elim (fun h => absurd h (nn rfl)) (fun h => absurd h (nn rfl))))
theorem qn_7f38acc6d {P : Nat} {j : Int} (hP : P = 13 ∨ P = 25) : ¬ ((P = 41 ∧ j = 0) ∨ P = 42 ∨ P = 65) := (fun q => q.elim (fun h => absurd h.1 (np0 hP rfl)) (fun q => q.elim (fun h => absurd h (np0 hP rfl)) (fun h => absurd h (np0 hP rfl))))
theorem qn_cd1179a69 : ¬ (((41 : Nat) = 41 ∧ (20 : Int) = 0) ∨ (41 : Nat) = 42 ∨ (41 : Nat) = 65) := (fun q => q.elim (fun h => absurd h.2 (ni rfl)) (fun q => q.elim (fun h => absurd h (nn rfl)) (fun h => absurd h (nn rfl))))
theorem qn_b9279a13b : ¬ (((41 : Nat) = 41 ∧ (21 : Int) = 0) ∨ (41 : Nat) = 42 ∨ (41 : Nat) = 65) := (fun q => q.elim (fun h => absurd h.2 (ni rfl)) (fun q => q.elim (fun h => absurd h (nn rfl)) (fun h => absurd h (nn rfl))))
theorem qn_60858c59b : ¬ (((41 : Nat) = 41 ∧ (22 : Int) = 0) ∨ (41 : Nat) = 42 ∨ (41 : Nat) = 65) := (fun q => q.elim (fun h => absurd h.2 (ni rfl)) (fun q => q.elim (fun h => absurd h (nn rfl)) (fun h => absurd h (nn rfl))))
theorem qn_cac453c9d : ¬ (((41 : Nat) = 41 ∧ (23 : Int) = 0) ∨ (41 : Nat) = 42 ∨ (41 : Nat) = 65) := (fun q => q.elim (fun h => absurd h.2 (ni rfl)) (fun q => q.elim (fun h => absurd h (nn rfl)) (fun h => absurd h (nn rfl))))
theorem qn_43df1dc4f {j : Int} : ¬ (((3 : Nat) = 41 ∧ j = 0) ∨ (3 : Nat) = 42 ∨ (3 : Nat) = 65) := (fun q => q.elim (fun h => absurd h.1 (nn rfl)) (fun q => q.elim (fun h => absurd h (nn rfl)) (fun h => absurd h (nn rfl))))
theorem qn_200544fe4 : ¬ (((41 : Nat) = 41 ∧ (52 : Int) = 0) ∨ (41 : Nat) = 42 ∨ (41 : Nat) = 65) := (fun q => q.elim (fun h => absurd h.2 (ni rfl)) (fun q => q.elim (fun h => absurd h (nn rfl)) (fun h => absurd h (nn rfl))))
theorem qn_4bede1abc : ¬ (((41 : Nat) = 41 ∧ (35 : Int) = 0) ∨ (41 : Nat) = 42 ∨ (41 : Nat) = 65) := (fun q => q.elim (fun h => absurd h.2 (ni rfl)) (fun q => q.elim (fun h => absurd h (nn rfl)) (fun h => absurd h (nn rfl))))
theorem qn_43b5cfd28 {j : Int} : ¬ (((2 : Nat) = 41 ∧ j = 0) ∨ (2 : Nat) = 42 ∨ (2 : Nat) = 65) := (fun q => q.elim (fun h => absurd h.1 (nn rfl)) (fun q => q.elim (fun h => absurd h (nn rfl)) (fun h => absurd h (nn rfl))))
theorem qn_6069d5231 {j : Int} : ¬ (((43 : Nat) = 41 ∧ j = 0) ∨ (43 : Nat) = 42 ∨ (43 : Nat) = 65) := (fun q => q.elim (fun h => absurd h.1 (nn rfl)) (fun q => q.elim (fun h => absurd h (nn rfl)) (fun h => absurd h (nn rfl))))
theorem qn_9a86ee4c1 {j : Int} : ¬ (((6 : Nat) = 41 ∧ j = 0) ∨ (6 : Nat) = 42 ∨ (6 : Nat) = 65) := (fun q => q.elim (fun h => absurd h.1 (nn rfl)) (fun q => q.elim (fun h => absurd h (nn rfl)) (fun h => absurd h (nn rfl))))
theorem qn_208766d82 {j : Int} : ¬ (((66 : Nat) = 41 ∧ j = 0) ∨ (66 : Nat) = 42 ∨ (66 : Nat) = 65) := (fun q => q.elim (fun h => absurd h.1 (nn rfl)) (fun q => q.elim (fun h => absurd h (nn rfl)) (fun h => absurd h (nn rfl))))
theorem qn_db0fa2040 {P : Nat} (hP : P = 13 ∨ P = 25) : ¬ ((1 : Nat) = (P + 10) ∨ (1 : Nat) = (P + 11)) := (fun q => q.elim (fun h => absurd h (pn hP rfl rfl)) (fun h => absurd h (pn hP rfl rfl)))
theorem qn_965711e77 {j : Int} : ¬ (((1 : Nat) = 41 ∧ j = 0) ∨ (1 : Nat) = 59 ∨ (1 : Nat) = 54 ∨ (1 : Nat) = 55) := (fun q => q.elim (fun h => absurd h.1 (nn rfl)) (fun q => q.elim (fun h => absurd h (nn rfl)) (fun q => q.elim (fun h => absurd h (nn rfl)) (fun h => absurd h (nn rfl)))))
theorem qn_4d24c7afb {P : Nat} (hP : P = 13 ∨ P = 25) : ¬ ((41 : Nat) = (P + 10) ∨ (41 : Nat) = (P + 11)) := (fun q => q.elim (fun h => absurd h (pn hP rfl rfl)) (fun h => absurd h (pn hP rfl rfl)))
theorem qn_dd6cb5371 : ¬ (((41 : Nat) = 41 ∧ (2 : Int) = 0) ∨ (41 : Nat) = 59 ∨ (41 : Nat) = 54 ∨ (41 : Nat) = 55) := (fun q => q.elim (fun h => absurd h.2 (ni rfl)) (fun q => q.elim (fun h => absurd h (nn rfl)) (fun q => q.elim (fun h => absurd h (nn rfl)) (fun h => absurd h (nn rfl)))))
theorem qn_82f5c699c {P : Nat} {j : Int} (hP : P = 13 ∨ P = 25) : ¬ ((P = 41 ∧ j = 0) ∨ P = 59 ∨ P = 54 ∨ P = 55) := (fun q => q.elim (fun h => absurd h.1 (np0 hP rfl)) (fun q => q.elim (fun h => absurd h (np0 hP rfl)) (fun q => q.elim (fun h => absurd h (np0 hP rfl)) (fun h => absurd h (np0 hP rfl)))))
theorem qn_b8c7ae319 : ¬ (((41 : Nat) = 41 ∧ (21 : Int) = 0) ∨ (41 : Nat) = 59 ∨ (41 : Nat) = 54 ∨ (41 : Nat) = 55) := (fun q => q.elim (fun h => absurd h.2 (ni rfl)) (fun q => q.elim (fun h => absurd h (nn rfl)) (fun q => q.elim (fun h => absurd h (nn rfl)) (fun h => absurd h (nn rfl)))))
theorem qn_6845dc871 : ¬ (((41 : Nat) = 41 ∧ (22 : Int) = 0) ∨ (41 : Nat) = 59 ∨ (41 : Nat) = 54 ∨ (41 : Nat) = 55) := (fun q => q.elim (fun h => absurd h.2 (ni rfl)) (fun q => q.elim (fun h => absurd h (nn rfl)) (fun q => q.elim (fun h => absurd h (nn rfl)) (fun h => absurd h (nn rfl)))))
theorem qn_d7f907dd2 : ¬ (((41 : Nat) = 41 ∧ (23 : Int) = 0) ∨ (41 : Nat) = 59 ∨ (41 : Nat) = 54 ∨ (41 : Nat) = 55) := (fun q => q.elim (fun h => absurd h.2 (ni rfl)) (fun q => q.elim (fun h => absurd h (nn rfl)) (fun q => q.elim (fun h => absurd h (nn rfl)) (fun h => absurd h (nn rfl)))))
theorem qn_e1cff7f51 {P : Nat} (hP : P = 13 ∨ P = 25) : ¬ ((3 : Nat) = (P + 10) ∨ (3 : Nat) = (P + 11)) := (fun q => q.elim (fun h => absurd h (pn hP rfl rfl)) (fun h => absurd h (pn hP rfl rfl)))
theorem qn_9184c3c35 {j : Int} : ¬ (((3 : Nat) = 41 ∧ j = 0) ∨ (3 : Nat) = 59 ∨ (3 : Nat) = 54 ∨ (3 : Nat) = 55) := (fun q => q.elim (fun h => absurd h.1 (nn rfl)) (fun q => q.elim (fun h => absurd h (nn rfl)) (fun q => q.elim (fun h => absurd h (nn rfl)) (fun h => absurd h (nn rfl)))))
theorem qn_fe8d01f7a : ¬ (((41 : Nat) = 41 ∧ (52 : Int) = 0) ∨ (41 : Nat) = 59 ∨ (41 : Nat) = 54 ∨ (41 : Nat) = 55) := (fun q => q.elim (fun h => absurd h.2 (ni rfl)) (fun q => q.elim (fun h => absurd h (nn rfl)) (fun q => q.elim (fun h => absurd h (nn rfl)) (fun h => absurd h (nn rfl)))))
theorem qn_300bb1d4d : ¬ (((41 : Nat) = 41 ∧ (35 : Int) = 0) ∨ (41 : Nat) = 59 ∨ (41 : Nat) = 54 ∨ (41 : Nat) = 55) := (fun q => q.elim (fun h => absurd h.2 (ni rfl)) (fun q => q.elim (fun h => absurd h (nn rfl)) (fun q => q.elim (fun h => absurd h (nn rfl)) (fun h => absurd h (nn rfl)))))
theorem qn_7bbf03f40 {j : Int} : ¬ (((2 : Nat) = 41 ∧ j = 0) ∨ (2 : Nat) = 59 ∨ (2 : Nat) = 54 ∨ (2 : Nat) = 55) := (fun q => q.elim (fun h => absurd h.1 (nn rfl)) (fun q => q.elim (fun h => absurd h (nn rfl)) (fun q => q.elim (fun h => absurd h (nn rfl)) (fun h => absurd h (nn rfl)))))
theorem qn_389d7b966 {P : Nat} (hP : P = 13 ∨ P = 25) : ¬ ((2 : Nat) = (P + 10) ∨ (2 : Nat) = (P + 11)) := (fun q => q.elim (fun h => absurd h (pn hP rfl rfl)) (fun h => absurd h (pn hP rfl rfl)))
theorem qn_da8a66655 {j : Int} : ¬ (((43 : Nat) = 41 ∧ j = 0) ∨ (43 : Nat) = 59 ∨ (43 : Nat) = 54 ∨ (43 : Nat) = 55) := (fun q => q.elim (fun h => absurd h.1 (nn rfl)) (fun q => q.elim (fun h => absurd h (nn rfl)) (fun q => q.elim (fun h => absurd h (nn rfl)) (fun h => absurd h (nn rfl)))))
theorem qn_afbd556c9 {P : Nat} (hP : P = 13 ∨ P = 25) : ¬ ((43 : Nat) = (P + 10) ∨ (43 : Nat) = (P + 11)) := (fun q => q.elim (fun h => absurd h (pn hP rfl rfl)) (fun h => absurd h (pn hP rfl rfl)))
theorem qn_aea755759 {j : Int} : ¬ (((6 : Nat) = 41 ∧ j = 0) ∨ (6 : Nat) = 59 ∨ (6 : Nat) = 54 ∨ (6 : Nat) = 55) := (fun q => q.elim (fun h => absurd h.1 (nn rfl)) (fun q => q.elim (fun h => absurd h (nn rfl)) (fun q => q.elim (fun h => absurd h (nn rfl)) (fun h => absurd h (nn rfl)))))
theorem qn_4b8057cf3 {P : Nat} (hP : P = 13 ∨ P = 25) : ¬ ((6 : Nat) = (P + 10) ∨ (6 : Nat) = (P + 11)) := (fun q => q.elim (fun h => absurd h (pn hP rfl rfl)) (fun h => absurd h (pn hP rfl rfl)))
theorem qn_7c789e383 {j : Int} : ¬ (((66 : Nat) = 41 ∧ j = 0) ∨ (66 : Nat) = 59 ∨ (66 : Nat) = 54 ∨ (66 : Nat) = 55) := (fun q => q.elim (fun h => absurd h.1 (nn rfl)) (fun q => q.elim (fun h => absurd h (nn rfl)) (fun q => q.elim (fun h => absurd h (nn rfl)) (fun h => absurd h (nn rfl)))))
theorem qn_6dde8fd4f {P : Nat} (hP : P = 13 ∨ P = 25) : ¬ ((66 : Nat) = (P + 10) ∨ (66 : Nat) = (P + 11)) := (fun q => q.elim (fun h => absurd h (pn hP rfl rfl)) (fun h => absurd h (pn hP rfl rfl)))
theorem qn_bcb6129a7 {P : Nat} {j : Int} (hP : P = 13 ∨ P = 25) : ¬ (((1 : Nat) = 0 ∧ j = 12) ∨ (1 : Nat) = (P + 10) ∨ (1 : Nat) = (P + 11) ∨ (1 : Nat) = 40) := (fun q => q.elim (fun h => absurd h.1 (nn rfl)) (fun q => q.elim (fun h => absurd h (pn hP rfl rfl)) (fun q => q.elim (fun h => absurd h (pn hP rfl rfl)) (fun h => absurd h (nn rfl)))))
theorem qn_c1b212892 {P : Nat} {j : Int} (hP : P = 13 ∨ P = 25) : ¬ (((41 : Nat) = 0 ∧ j = 12) ∨ (41 : Nat) = (P + 10) ∨ (41 : Nat) = (P + 11) ∨ (41 : Nat) = 40) := (fun q => q.elim (fun h => absurd h.1 (nn rfl)) (fun q => q.elim (fun h => absurd h (pn hP rfl rfl)) (fun q => q.elim (fun h => absurd h (pn hP rfl rfl)) (fun h => absurd h (nn rfl)))))
theorem qn_f8aa6ac5f {P : Nat} {j : Int} (hP : P = 13 ∨ P = 25) : ¬ ((P = 0 ∧ j = 12) ∨ P = (P + 10) ∨ P = (P + 11) ∨ P = 40) := (fun q => q.elim (fun h => absurd h.1 (np0 hP rfl)) (fun q => q.elim (fun h => absurd h (p0p rfl)) (fun q => q.elim (fun h => absurd h (p0p rfl)) (fun h => absurd h (np0 hP rfl)))))
theorem qn_116ab97cc {P : Nat} {j : Int} (hP : P = 13 ∨ P = 25) : ¬ (((3 : Nat) = 0 ∧ j = 12) ∨ (3 : Nat) = (P + 10) ∨ (3 : Nat) = (P + 11) ∨ (3 : Nat) = 40) := (fun q => q.elim (fun h => absurd h.1 (nn rfl)) (fun q => q.elim (fun h => absurd h (pn hP rfl rfl)) (fun q => q.elim (fun h => absurd h (pn hP rfl rfl)) (fun h => absurd h (nn rfl)))))
theorem qn_c44a51550 {P : Nat} {j : Int} (hP : P = 13 ∨ P = 25) : ¬ (((2 : Nat) = 0 ∧ j = 12) ∨ (2 : Nat) = (P + 10) ∨ (2 : Nat) = (P + 11) ∨ (2 : Nat) = 40) := (fun q => q.elim (fun h => absurd h.1 (nn rfl)) (fun q => q.elim (fun h => absurd h (pn hP rfl rfl)) (fun q => q.elim (fun h => absurd h (pn hP rfl rfl)) (fun h => absurd h (nn rfl)))))
theorem qn_2e57cdabe {P : Nat} {j : Int} (hP : P = 13 ∨ P = 25) : ¬ (((43 : Nat) = 0 ∧ j = 12) ∨ (43 : Nat) = (P + 10) ∨ (43 : Nat) = (P + 11) ∨ (43 : Nat) = 40) := (fun q => q.elim (fun h => absurd h.1 (nn rfl)) (fun q => q.elim (fun h => absurd h (pn hP rfl rfl)) (fun q => q.elim (fun h => absurd h (pn hP rfl rfl)) (fun h => absurd h (nn rfl)))))
theorem qn_5ecb26ba6 {P : Nat} {j : Int} (hP : P = 13 ∨ P = 25) : ¬ (((6 : Nat) = 0 ∧ j = 12) ∨ (6 : Nat) = (P + 10) ∨ (6 : Nat) = (P + 11) ∨ (6 : Nat) = 40) := (fun q => q.elim (fun h => absurd h.1 (nn rfl)) (fun q => q.elim (fun h => absurd h (pn hP rfl rfl)) (fun q => q.elim (fun h => absurd h (pn hP rfl rfl)) (fun h => absurd h (nn rfl)))))
theorem qn_7018f8751 {P : Nat} {j : Int} (hP : P = 13 ∨ P = 25) : ¬ (((66 : Nat) = 0 ∧ j = 12) ∨ (66 : Nat) = (P + 10) ∨ (66 : Nat) = (P + 11) ∨ (66 : Nat) = 40) := (fun q => q.elim (fun h => absurd h.1 (nn rfl)) (fun q => q.elim (fun h => absurd h (pn hP rfl rfl)) (fun q => q.elim (fun h => absurd h (pn hP rfl rfl)) (fun h => absurd h (nn rfl)))))
theorem qn_f78771b97 {P : Nat} {j : Int} (hP : P = 13 ∨ P = 25) : ¬ ((P = 41 ∧ j = 0) ∨ P = 59) := (fun q => q.elim (fun h => absurd h.1 (np0 hP rfl)) (fun h => absurd h (np0 hP rfl)))
theorem c_296_1035 : mLk 296 1035 = some (.aload_n 1, 1) := rfl
theorem c_296_1036 : mLk 296 1036 = some (.aload_n 0, 1) := rfl
theorem c_296_1037 : mLk 296 1037 = some (.iload 4, 2) := rfl
theorem c_296_1039 : mLk 296 1039 = some (.iconst 1, 1) := rfl
theorem c_296_1040 : mLk 296 1040 = some (.iadd, 1) := rfl
theorem c_296_1041 : mLk 296 1041 = some (.iaload, 1) := rfl
theorem c_296_1042 : mLk 296 1042 = some (.aload_n 3, 1) := rfl
theorem c_296_1043 : mLk 296 1043 = some (.invokestatic 194, 3) := rfl
theorem c_280_0 : mLk 280 0 = some (.aload_n 2, 1) := rfl
theorem c_280_1 : mLk 280 1 = some (.iconst 0, 1) := rfl
theorem c_280_2 : mLk 280 2 = some (.aload_n 0, 1) := rfl
theorem c_280_3 : mLk 280 3 = some (.iload_n 1, 1) := rfl
theorem c_280_4 : mLk 280 4 = some (.invokevirtual 68, 3) := rfl
theorem c_296_1046 : mLk 296 1046 = some (.istore 5, 2) := rfl
theorem c_296_1048 : mLk 296 1048 = some (.aload_n 2, 1) := rfl
theorem c_296_1049 : mLk 296 1049 = some (.aload_n 0, 1) := rfl
theorem c_296_1050 : mLk 296 1050 = some (.iload 4, 2) := rfl
theorem c_296_1052 : mLk 296 1052 = some (.iconst 1, 1) := rfl
theorem c_296_1053 : mLk 296 1053 = some (.iadd, 1) := rfl
theorem c_296_1054 : mLk 296 1054 = some (.iaload, 1) := rfl
theorem c_296_1055 : mLk 296 1055 = some (.invokevirtual 196, 3) := rfl
theorem c_296_1058 : mLk 296 1058 = some (.istore 6, 2) := rfl
theorem c_296_1060 : mLk 296 1060 = some (.goto 756, 3) := rfl
theorem c_280_7 : mLk 280 7 = some (.i2l, 1) := rfl
theorem c_280_8 : mLk 280 8 = some (.lastore, 1) := rfl
theorem c_280_9 : mLk 280 9 = some (.goto 6, 3) := rfl
theorem c_280_15 : mLk 280 15 = some (.iconst 0, 1) := rfl
theorem c_280_16 : mLk 280 16 = some (.ireturn, 1) := rfl
theorem c_296_1063 : mLk 296 1063 = some (.aload_n 1, 1) := rfl
theorem c_296_1064 : mLk 296 1064 = some (.aload_n 0, 1) := rfl
theorem c_296_1065 : mLk 296 1065 = some (.iload 4, 2) := rfl
theorem c_296_1067 : mLk 296 1067 = some (.iconst 1, 1) := rfl
theorem c_296_1068 : mLk 296 1068 = some (.iadd, 1) := rfl
theorem c_296_1069 : mLk 296 1069 = some (.iaload, 1) := rfl
theorem c_296_1070 : mLk 296 1070 = some (.aload_n 3, 1) := rfl
theorem c_296_1071 : mLk 296 1071 = some (.invokestatic 197, 3) := rfl
theorem c_281_0 : mLk 281 0 = some (.aload_n 2, 1) := rfl
theorem c_281_1 : mLk 281 1 = some (.iconst 0, 1) := rfl
theorem c_281_2 : mLk 281 2 = some (.aload_n 0, 1) := rfl
theorem c_281_3 : mLk 281 3 = some (.iload_n 1, 1) := rfl
theorem c_281_4 : mLk 281 4 = some (.invokevirtual 71, 3) := rfl
theorem c_296_1074 : mLk 296 1074 = some (.istore 5, 2) := rfl
theorem c_296_1076 : mLk 296 1076 = some (.aload_n 2, 1) := rfl
theorem c_296_1077 : mLk 296 1077 = some (.aload_n 0, 1) := rfl
theorem c_296_1078 : mLk 296 1078 = some (.iload 4, 2) := rfl
theorem c_296_1080 : mLk 296 1080 = some (.iconst 1, 1) := rfl
theorem c_296_1081 : mLk 296 1081 = some (.iadd, 1) := rfl
theorem c_296_1082 : mLk 296 1082 = some (.iaload, 1) := rfl
theorem c_296_1083 : mLk 296 1083 = some (.invokevirtual 199, 3) := rfl
theorem c_296_1086 : mLk 296 1086 = some (.istore 6, 2) := rfl
theorem c_296_1088 : mLk 296 1088 = some (.goto 728, 3) := rfl
theorem c_281_7 : mLk 281 7 = some (.i2l, 1) := rfl
theorem c_281_8 : mLk 281 8 = some (.lastore, 1) := rfl
theorem c_281_9 : mLk 281 9 = some (.goto 6, 3) := rfl
theorem c_281_15 : mLk 281 15 = some (.iconst 0, 1) := rfl
theorem c_281_16 : mLk 281 16 = some (.ireturn, 1) := rfl
theorem c_296_1091 : mLk 296 1091 = some (.aload_n 1, 1) := rfl
theorem c_296_1092 : mLk 296 1092 = some (.aload_n 0, 1) := rfl
theorem c_296_1093 : mLk 296 1093 = some (.iload 4, 2) := rfl
theorem c_296_1095 : mLk 296 1095 = some (.iconst 1, 1) := rfl
theorem c_296_1096 : mLk 296 1096 = some (.iadd, 1) := rfl
theorem c_296_1097 : mLk 296 1097 = some (.iaload, 1) := rfl
theorem c_296_1098 : mLk 296 1098 = some (.aload_n 0, 1) := rfl
theorem c_296_1099 : mLk 296 1099 = some (.iload 4, 2) := rfl
theorem c_296_1101 : mLk 296 1101 = some (.iconst 2, 1) := rfl
theorem c_296_1102 : mLk 296 1102 = some (.iadd, 1) := rfl
theorem c_296_1103 : mLk 296 1103 = some (.iaload, 1) := rfl
theorem c_296_1104 : mLk 296 1104 = some (.aload_n 0, 1) := rfl
theorem c_296_1105 : mLk 296 1105 = some (.iload 4, 2) := rfl
theorem c_296_1107 : mLk 296 1107 = some (.iconst 3, 1) := rfl
theorem c_296_1108 : mLk 296 1108 = some (.iadd, 1) := rfl
theorem c_296_1109 : mLk 296 1109 = some (.iaload, 1) := rfl
theorem c_296_1110 : mLk 296 1110 = some (.aload_n 0, 1) := rfl
theorem c_296_1111 : mLk 296 1111 = some (.iload 4, 2) := rfl
theorem c_296_1113 : mLk 296 1113 = some (.iconst 4, 1) := rfl
theorem c_296_1114 : mLk 296 1114 = some (.iadd, 1) := rfl
theorem c_296_1115 : mLk 296 1115 = some (.iaload, 1) := rfl
theorem c_296_1116 : mLk 296 1116 = some (.aload_n 3, 1) := rfl
theorem c_296_1117 : mLk 296 1117 = some (.invokestatic 200, 3) := rfl
theorem c_282_0 : mLk 282 0 = some (.aload 5, 2) := rfl
theorem c_282_2 : mLk 282 2 = some (.iconst 0, 1) := rfl
theorem c_282_3 : mLk 282 3 = some (.aload_n 0, 1) := rfl
theorem c_282_4 : mLk 282 4 = some (.iload_n 1, 1) := rfl
theorem c_282_5 : mLk 282 5 = some (.iload_n 2, 1) := rfl
theorem c_282_6 : mLk 282 6 = some (.iload_n 3, 1) := rfl
theorem c_282_7 : mLk 282 7 = some (.iload 4, 2) := rfl
theorem c_282_9 : mLk 282 9 = some (.invokevirtual 74, 3) := rfl
theorem c_296_1120 : mLk 296 1120 = some (.istore 5, 2) := rfl
theorem c_296_1122 : mLk 296 1122 = some (.aload_n 2, 1) := rfl
theorem c_296_1123 : mLk 296 1123 = some (.aload_n 0, 1) := rfl
theorem c_296_1124 : mLk 296 1124 = some (.iload 4, 2) := rfl
theorem c_296_1126 : mLk 296 1126 = some (.iconst 1, 1) := rfl
theorem c_296_1127 : mLk 296 1127 = some (.iadd, 1) := rfl
theorem c_296_1128 : mLk 296 1128 = some (.iaload, 1) := rfl
theorem c_296_1129 : mLk 296 1129 = some (.aload_n 0, 1) := rfl
theorem c_296_1130 : mLk 296 1130 = some (.iload 4, 2) := rfl
theorem c_296_1132 : mLk 296 1132 = some (.iconst 2, 1) := rfl
theorem c_296_1133 : mLk 296 1133 = some (.iadd, 1) := rfl
theorem c_296_1134 : mLk 296 1134 = some (.iaload, 1) := rfl
theorem c_296_1135 : mLk 296 1135 = some (.aload_n 0, 1) := rfl
theorem c_296_1136 : mLk 296 1136 = some (.iload 4, 2) := rfl
theorem c_296_1138 : mLk 296 1138 = some (.iconst 3, 1) := rfl
theorem c_296_1139 : mLk 296 1139 = some (.iadd, 1) := rfl
theorem c_296_1140 : mLk 296 1140 = some (.iaload, 1) := rfl
theorem c_296_1141 : mLk 296 1141 = some (.aload_n 0, 1) := rfl
theorem c_296_1142 : mLk 296 1142 = some (.iload 4, 2) := rfl
theorem c_296_1144 : mLk 296 1144 = some (.iconst 4, 1) := rfl
theorem c_296_1145 : mLk 296 1145 = some (.iadd, 1) := rfl
theorem c_296_1146 : mLk 296 1146 = some (.iaload, 1) := rfl
theorem c_296_1147 : mLk 296 1147 = some (.invokevirtual 203, 3) := rfl
theorem c_296_1150 : mLk 296 1150 = some (.lstore 6, 2) := rfl
theorem c_296_1152 : mLk 296 1152 = some (.goto 664, 3) := rfl
theorem c_282_12 : mLk 282 12 = some (.lastore, 1) := rfl
theorem c_282_13 : mLk 282 13 = some (.goto 7, 3) := rfl
theorem c_282_20 : mLk 282 20 = some (.iconst 0, 1) := rfl
theorem c_282_21 : mLk 282 21 = some (.ireturn, 1) := rfl
theorem c_296_1155 : mLk 296 1155 = some (.aload_n 1, 1) := rfl
theorem c_296_1156 : mLk 296 1156 = some (.aload_n 0, 1) := rfl
theorem c_296_1157 : mLk 296 1157 = some (.iload 4, 2) := rfl
theorem c_296_1159 : mLk 296 1159 = some (.iconst 1, 1) := rfl
theorem c_296_1160 : mLk 296 1160 = some (.iadd, 1) := rfl
theorem c_296_1161 : mLk 296 1161 = some (.iaload, 1) := rfl
theorem c_296_1162 : mLk 296 1162 = some (.aload_n 0, 1) := rfl
theorem c_296_1163 : mLk 296 1163 = some (.iload 4, 2) := rfl
theorem c_296_1165 : mLk 296 1165 = some (.iconst 2, 1) := rfl
theorem c_296_1166 : mLk 296 1166 = some (.iadd, 1) := rfl
theorem c_296_1167 : mLk 296 1167 = some (.iaload, 1) := rfl
theorem c_296_1168 : mLk 296 1168 = some (.aload_n 0, 1) := rfl
theorem c_296_1169 : mLk 296 1169 = some (.iload 4, 2) := rfl
theorem c_296_1171 : mLk 296 1171 = some (.iconst 3, 1) := rfl
theorem c_296_1172 : mLk 296 1172 = some (.iadd, 1) := rfl
theorem c_296_1173 : mLk 296 1173 = some (.iaload, 1) := rfl
theorem c_296_1174 : mLk 296 1174 = some (.aload_n 3, 1) := rfl
theorem c_296_1175 : mLk 296 1175 = some (.invokestatic 204, 3) := rfl
theorem c_283_0 : mLk 283 0 = some (.aload 4, 2) := rfl
theorem c_283_2 : mLk 283 2 = some (.iconst 0, 1) := rfl
theorem c_283_3 : mLk 283 3 = some (.aload_n 0, 1) := rfl
theorem c_283_4 : mLk 283 4 = some (.iload_n 1, 1) := rfl
theorem c_283_5 : mLk 283 5 = some (.iload_n 2, 1) := rfl
theorem c_283_6 : mLk 283 6 = some (.iload_n 3, 1) := rfl
theorem c_283_7 : mLk 283 7 = some (.invokevirtual 78, 3) := rfl
theorem c_296_1178 : mLk 296 1178 = some (.istore 5, 2) := rfl
theorem c_296_1180 : mLk 296 1180 = some (.aload_n 2, 1) := rfl
theorem c_296_1181 : mLk 296 1181 = some (.aload_n 0, 1) := rfl
theorem c_296_1182 : mLk 296 1182 = some (.iload 4, 2) := rfl
theorem c_296_1184 : mLk 296 1184 = some (.iconst 1, 1) := rfl
theorem c_296_1185 : mLk 296 1185 = some (.iadd, 1) := rfl
theorem c_296_1186 : mLk 296 1186 = some (.iaload, 1) := rfl
theorem c_296_1187 : mLk 296 1187 = some (.aload_n 0, 1) := rfl
theorem c_296_1188 : mLk 296 1188 = some (.iload 4, 2) := rfl
theorem c_296_1190 : mLk 296 1190 = some (.iconst 2, 1) := rfl
theorem c_296_1191 : mLk 296 1191 = some (.iadd, 1) := rfl
theorem c_296_1192 : mLk 296 1192 = some (.iaload, 1) := rfl
theorem c_296_1193 : mLk 296 1193 = some (.aload_n 0, 1) := rfl
theorem c_296_1194 : mLk 296 1194 = some (.iload 4, 2) := rfl
theorem c_296_1196 : mLk 296 1196 = some (.iconst 3, 1) := rfl
theorem c_296_1197 : mLk 296 1197 = some (.iadd, 1) := rfl
theorem c_296_1198 : mLk 296 1198 = some (.iaload, 1) := rfl
theorem c_296_1199 : mLk 296 1199 = some (.invokevirtual 206, 3) := rfl
theorem c_296_1202 : mLk 296 1202 = some (.istore 6, 2) := rfl
theorem c_296_1204 : mLk 296 1204 = some (.goto 612, 3) := rfl
theorem c_283_10 : mLk 283 10 = some (.i2l, 1) := rfl
theorem c_283_11 : mLk 283 11 = some (.lastore, 1) := rfl
theorem c_283_12 : mLk 283 12 = some (.goto 7, 3) := rfl
theorem c_283_19 : mLk 283 19 = some (.iconst 0, 1) := rfl
theorem c_283_20 : mLk 283 20 = some (.ireturn, 1) := rfl
theorem c_296_1207 : mLk 296 1207 = some (.aload_n 1, 1) := rfl
theorem c_296_1208 : mLk 296 1208 = some (.aload_n 0, 1) := rfl
theorem c_296_1209 : mLk 296 1209 = some (.iload 4, 2) := rfl
theorem c_296_1211 : mLk 296 1211 = some (.iconst 1, 1) := rfl
theorem c_296_1212 : mLk 296 1212 = some (.iadd, 1) := rfl
theorem c_296_1213 : mLk 296 1213 = some (.iaload, 1) := rfl
theorem c_296_1214 : mLk 296 1214 = some (.aload_n 0, 1) := rfl
theorem c_296_1215 : mLk 296 1215 = some (.iload 4, 2) := rfl
theorem c_296_1217 : mLk 296 1217 = some (.iconst 2, 1) := rfl
theorem c_296_1218 : mLk 296 1218 = some (.iadd, 1) := rfl
theorem c_296_1219 : mLk 296 1219 = some (.iaload, 1) := rfl
theorem c_296_1220 : mLk 296 1220 = some (.aload_n 0, 1) := rfl
theorem c_296_1221 : mLk 296 1221 = some (.iload 4, 2) := rfl
theorem c_296_1223 : mLk 296 1223 = some (.iconst 3, 1) := rfl
theorem c_296_1224 : mLk 296 1224 = some (.iadd, 1) := rfl
theorem c_296_1225 : mLk 296 1225 = some (.iaload, 1) := rfl
theorem c_296_1226 : mLk 296 1226 = some (.aload_n 3, 1) := rfl
theorem c_296_1227 : mLk 296 1227 = some (.invokestatic 207, 3) := rfl
theorem c_284_0 : mLk 284 0 = some (.aload 4, 2) := rfl
theorem c_284_2 : mLk 284 2 = some (.iconst 0, 1) := rfl
theorem c_284_3 : mLk 284 3 = some (.aload_n 0, 1) := rfl
theorem c_284_4 : mLk 284 4 = some (.iload_n 1, 1) := rfl
theorem c_284_5 : mLk 284 5 = some (.iload_n 2, 1) := rfl
theorem c_284_6 : mLk 284 6 = some (.iload_n 3, 1) := rfl
theorem c_284_7 : mLk 284 7 = some (.invokevirtual 81, 3) := rfl
theorem c_296_1230 : mLk 296 1230 = some (.istore 5, 2) := rfl
theorem c_296_1232 : mLk 296 1232 = some (.aload_n 2, 1) := rfl
theorem c_296_1233 : mLk 296 1233 = some (.aload_n 0, 1) := rfl
theorem c_296_1234 : mLk 296 1234 = some (.iload 4, 2) := rfl
theorem c_296_1236 : mLk 296 1236 = some (.iconst 1, 1) := rfl
theorem c_296_1237 : mLk 296 1237 = some (.iadd, 1) := rfl
theorem c_296_1238 : mLk 296 1238 = some (.iaload, 1) := rfl
theorem c_296_1239 : mLk 296 1239 = some (.aload_n 0, 1) := rfl
theorem c_296_1240 : mLk 296 1240 = some (.iload 4, 2) := rfl
theorem c_296_1242 : mLk 296 1242 = some (.iconst 2, 1) := rfl
theorem c_296_1243 : mLk 296 1243 = some (.iadd, 1) := rfl
theorem c_296_1244 : mLk 296 1244 = some (.iaload, 1) := rfl
theorem c_296_1245 : mLk 296 1245 = some (.aload_n 0, 1) := rfl
theorem c_296_1246 : mLk 296 1246 = some (.iload 4, 2) := rfl
theorem c_296_1248 : mLk 296 1248 = some (.iconst 3, 1) := rfl
theorem c_296_1249 : mLk 296 1249 = some (.iadd, 1) := rfl
theorem c_296_1250 : mLk 296 1250 = some (.iaload, 1) := rfl
theorem c_296_1251 : mLk 296 1251 = some (.invokevirtual 209, 3) := rfl
theorem c_296_1254 : mLk 296 1254 = some (.istore 6, 2) := rfl
theorem c_296_1256 : mLk 296 1256 = some (.goto 560, 3) := rfl
theorem c_284_10 : mLk 284 10 = some (.i2l, 1) := rfl
theorem c_284_11 : mLk 284 11 = some (.lastore, 1) := rfl
theorem c_284_12 : mLk 284 12 = some (.goto 11, 3) := rfl
theorem c_284_23 : mLk 284 23 = some (.iconst 0, 1) := rfl
theorem c_284_24 : mLk 284 24 = some (.ireturn, 1) := rfl
theorem c_296_1259 : mLk 296 1259 = some (.aload_n 1, 1) := rfl
theorem c_296_1260 : mLk 296 1260 = some (.aload_n 0, 1) := rfl
theorem c_296_1261 : mLk 296 1261 = some (.iload 4, 2) := rfl
theorem c_296_1263 : mLk 296 1263 = some (.iconst 1, 1) := rfl
theorem c_296_1264 : mLk 296 1264 = some (.iadd, 1) := rfl
theorem c_296_1265 : mLk 296 1265 = some (.iaload, 1) := rfl
theorem c_296_1266 : mLk 296 1266 = some (.aload_n 3, 1) := rfl
theorem c_296_1267 : mLk 296 1267 = some (.invokestatic 210, 3) := rfl
theorem c_285_0 : mLk 285 0 = some (.aload_n 2, 1) := rfl
theorem c_285_1 : mLk 285 1 = some (.iconst 0, 1) := rfl
theorem c_285_2 : mLk 285 2 = some (.aload_n 0, 1) := rfl
theorem c_285_3 : mLk 285 3 = some (.iload_n 1, 1) := rfl
theorem c_285_4 : mLk 285 4 = some (.invokevirtual 84, 3) := rfl
theorem c_296_1270 : mLk 296 1270 = some (.istore 5, 2) := rfl
theorem c_296_1272 : mLk 296 1272 = some (.aload_n 2, 1) := rfl
theorem c_296_1273 : mLk 296 1273 = some (.aload_n 0, 1) := rfl
theorem c_296_1274 : mLk 296 1274 = some (.iload 4, 2) := rfl
theorem c_296_1276 : mLk 296 1276 = some (.iconst 1, 1) := rfl
theorem c_296_1277 : mLk 296 1277 = some (.iadd, 1) := rfl
theorem c_296_1278 : mLk 296 1278 = some (.iaload, 1) := rfl
theorem c_296_1279 : mLk 296 1279 = some (.invokevirtual 212, 3) := rfl
theorem c_296_1282 : mLk 296 1282 = some (.istore 6, 2) := rfl
theorem c_296_1284 : mLk 296 1284 = some (.goto 532, 3) := rfl
theorem c_285_7 : mLk 285 7 = some (.i2l, 1) := rfl
theorem c_285_8 : mLk 285 8 = some (.lastore, 1) := rfl
theorem c_285_9 : mLk 285 9 = some (.goto 6, 3) := rfl
theorem c_285_15 : mLk 285 15 = some (.iconst 0, 1) := rfl
theorem c_285_16 : mLk 285 16 = some (.ireturn, 1) := rfl
theorem c_296_1287 : mLk 296 1287 = some (.aload_n 1, 1) := rfl
theorem c_296_1288 : mLk 296 1288 = some (.invokevirtual 213, 3) := rfl
theorem c_296_1291 : mLk 296 1291 = some (.pop, 1) := rfl
theorem c_296_1292 : mLk 296 1292 = some (.aload_n 2, 1) := rfl
theorem c_296_1293 : mLk 296 1293 = some (.invokevirtual 216, 3) := rfl
theorem c_296_1296 : mLk 296 1296 = some (.pop, 1) := rfl
theorem c_296_1297 : mLk 296 1297 = some (.goto 519, 3) := rfl
theorem c_296_1300 : mLk 296 1300 = some (.aload_n 1, 1) := rfl
theorem c_296_1301 : mLk 296 1301 = some (.aload_n 0, 1) := rfl
theorem c_296_1302 : mLk 296 1302 = some (.iload 4, 2) := rfl
theorem c_296_1304 : mLk 296 1304 = some (.iconst 1, 1) := rfl
theorem c_296_1305 : mLk 296 1305 = some (.iadd, 1) := rfl
theorem c_296_1306 : mLk 296 1306 = some (.iaload, 1) := rfl
theorem c_296_1307 : mLk 296 1307 = some (.aload_n 0, 1) := rfl
theorem c_296_1308 : mLk 296 1308 = some (.iload 4, 2) := rfl
theorem c_296_1310 : mLk 296 1310 = some (.iconst 2, 1) := rfl
theorem c_296_1311 : mLk 296 1311 = some (.iadd, 1) := rfl
theorem c_296_1312 : mLk 296 1312 = some (.iaload, 1) := rfl
theorem c_296_1313 : mLk 296 1313 = some (.aload_n 3, 1) := rfl
theorem c_296_1314 : mLk 296 1314 = some (.invokestatic 217, 3) := rfl
theorem c_286_0 : mLk 286 0 = some (.aload_n 3, 1) := rfl
theorem c_286_1 : mLk 286 1 = some (.iconst 0, 1) := rfl
theorem c_286_2 : mLk 286 2 = some (.aload_n 0, 1) := rfl
theorem c_286_3 : mLk 286 3 = some (.iload_n 1, 1) := rfl
theorem c_286_4 : mLk 286 4 = some (.iload_n 2, 1) := rfl
theorem c_286_5 : mLk 286 5 = some (.invokevirtual 87, 3) := rfl
theorem c_296_1317 : mLk 296 1317 = some (.istore 5, 2) := rfl
theorem c_296_1319 : mLk 296 1319 = some (.aload_n 2, 1) := rfl
theorem c_296_1320 : mLk 296 1320 = some (.aload_n 0, 1) := rfl
theorem c_296_1321 : mLk 296 1321 = some (.iload 4, 2) := rfl
theorem c_296_1323 : mLk 296 1323 = some (.iconst 1, 1) := rfl
theorem c_296_1324 : mLk 296 1324 = some (.iadd, 1) := rfl
theorem c_296_1325 : mLk 296 1325 = some (.iaload, 1) := rfl
theorem c_296_1326 : mLk 296 1326 = some (.aload_n 0, 1) := rfl
theorem c_296_1327 : mLk 296 1327 = some (.iload 4, 2) := rfl
theorem c_296_1329 : mLk 296 1329 = some (.iconst 2, 1) := rfl
theorem c_296_1330 : mLk 296 1330 = some (.iadd, 1) := rfl
theorem c_296_1331 : mLk 296 1331 = some (.iaload, 1) := rfl
theorem c_296_1332 : mLk 296 1332 = some (.invokevirtual 219, 3) := rfl
theorem c_296_1335 : mLk 296 1335 = some (.istore 6, 2) := rfl
theorem c_296_1337 : mLk 296 1337 = some (.goto 479, 3) := rfl
theorem c_286_8 : mLk 286 8 = some (.i2l, 1) := rfl
theorem c_286_9 : mLk 286 9 = some (.lastore, 1) := rfl
theorem c_286_10 : mLk 286 10 = some (.goto 7, 3) := rfl
theorem c_286_17 : mLk 286 17 = some (.iconst 0, 1) := rfl
theorem c_286_18 : mLk 286 18 = some (.ireturn, 1) := rfl
theorem c_296_1340 : mLk 296 1340 = some (.aload_n 1, 1) := rfl
theorem c_296_1341 : mLk 296 1341 = some (.invokevirtual 220, 3) := rfl
theorem c_296_1344 : mLk 296 1344 = some (.pop, 1) := rfl
theorem c_296_1345 : mLk 296 1345 = some (.aload_n 2, 1) := rfl
theorem c_296_1346 : mLk 296 1346 = some (.invokevirtual 223, 3) := rfl
theorem c_296_1349 : mLk 296 1349 = some (.pop, 1) := rfl
theorem c_296_1350 : mLk 296 1350 = some (.goto 466, 3) := rfl
theorem c_296_1353 : mLk 296 1353 = some (.aload_n 1, 1) := rfl
theorem c_296_1354 : mLk 296 1354 = some (.aload_n 0, 1) := rfl
theorem c_296_1355 : mLk 296 1355 = some (.iload 4, 2) := rfl
theorem c_296_1357 : mLk 296 1357 = some (.iconst 1, 1) := rfl
theorem c_296_1358 : mLk 296 1358 = some (.iadd, 1) := rfl
theorem c_296_1359 : mLk 296 1359 = some (.iaload, 1) := rfl
theorem c_296_1360 : mLk 296 1360 = some (.aload_n 3, 1) := rfl
theorem c_296_1361 : mLk 296 1361 = some (.invokestatic 224, 3) := rfl
theorem c_287_0 : mLk 287 0 = some (.aload_n 2, 1) := rfl
theorem c_287_1 : mLk 287 1 = some (.iconst 0, 1) := rfl
theorem c_287_2 : mLk 287 2 = some (.aload_n 0, 1) := rfl
theorem c_287_3 : mLk 287 3 = some (.iload_n 1, 1) := rfl
theorem c_287_4 : mLk 287 4 = some (.invokevirtual 90, 3) := rfl
theorem c_296_1364 : mLk 296 1364 = some (.istore 5, 2) := rfl
theorem c_296_1366 : mLk 296 1366 = some (.aload_n 2, 1) := rfl
theorem c_296_1367 : mLk 296 1367 = some (.aload_n 0, 1) := rfl
theorem c_296_1368 : mLk 296 1368 = some (.iload 4, 2) := rfl
theorem c_296_1370 : mLk 296 1370 = some (.iconst 1, 1) := rfl
theorem c_296_1371 : mLk 296 1371 = some (.iadd, 1) := rfl
theorem c_296_1372 : mLk 296 1372 = some (.iaload, 1) := rfl
theorem c_296_1373 : mLk 296 1373 = some (.invokevirtual 226, 3) := rfl
theorem c_296_1376 : mLk 296 1376 = some (.istore 6, 2) := rfl
theorem c_296_1378 : mLk 296 1378 = some (.goto 438, 3) := rfl
theorem c_287_7 : mLk 287 7 = some (.i2l, 1) := rfl
theorem c_287_8 : mLk 287 8 = some (.lastore, 1) := rfl
theorem c_287_9 : mLk 287 9 = some (.goto 6, 3) := rfl
theorem c_287_15 : mLk 287 15 = some (.iconst 0, 1) := rfl
theorem c_287_16 : mLk 287 16 = some (.ireturn, 1) := rfl
theorem c_296_1381 : mLk 296 1381 = some (.aload_n 1, 1) := rfl
theorem c_296_1382 : mLk 296 1382 = some (.aload_n 0, 1) := rfl
theorem c_296_1383 : mLk 296 1383 = some (.iload 4, 2) := rfl
theorem c_296_1385 : mLk 296 1385 = some (.iconst 1, 1) := rfl
theorem c_296_1386 : mLk 296 1386 = some (.iadd, 1) := rfl
theorem c_296_1387 : mLk 296 1387 = some (.iaload, 1) := rfl
theorem c_296_1388 : mLk 296 1388 = some (.aload_n 3, 1) := rfl
theorem c_296_1389 : mLk 296 1389 = some (.invokestatic 227, 3) := rfl
theorem c_288_0 : mLk 288 0 = some (.aload_n 2, 1) := rfl
theorem c_288_1 : mLk 288 1 = some (.iconst 0, 1) := rfl
theorem c_288_2 : mLk 288 2 = some (.aload_n 0, 1) := rfl
theorem c_288_3 : mLk 288 3 = some (.iload_n 1, 1) := rfl
theorem c_288_4 : mLk 288 4 = some (.invokevirtual 93, 3) := rfl
theorem c_296_1392 : mLk 296 1392 = some (.istore 5, 2) := rfl
theorem c_296_1394 : mLk 296 1394 = some (.aload_n 2, 1) := rfl
theorem c_296_1395 : mLk 296 1395 = some (.aload_n 0, 1) := rfl
theorem c_296_1396 : mLk 296 1396 = some (.iload 4, 2) := rfl
theorem c_296_1398 : mLk 296 1398 = some (.iconst 1, 1) := rfl
theorem c_296_1399 : mLk 296 1399 = some (.iadd, 1) := rfl
theorem c_296_1400 : mLk 296 1400 = some (.iaload, 1) := rfl
theorem c_296_1401 : mLk 296 1401 = some (.invokevirtual 229, 3) := rfl
theorem c_296_1404 : mLk 296 1404 = some (.istore 6, 2) := rfl
theorem c_296_1406 : mLk 296 1406 = some (.goto 410, 3) := rfl
theorem c_288_7 : mLk 288 7 = some (.i2l, 1) := rfl
theorem c_288_8 : mLk 288 8 = some (.lastore, 1) := rfl
theorem c_288_9 : mLk 288 9 = some (.goto 6, 3) := rfl
theorem c_288_15 : mLk 288 15 = some (.iconst 0, 1) := rfl
theorem c_288_16 : mLk 288 16 = some (.ireturn, 1) := rfl
theorem c_296_1409 : mLk 296 1409 = some (.aload_n 1, 1) := rfl
theorem c_296_1410 : mLk 296 1410 = some (.aload_n 0, 1) := rfl
theorem c_296_1411 : mLk 296 1411 = some (.iload 4, 2) := rfl
theorem c_296_1413 : mLk 296 1413 = some (.iconst 1, 1) := rfl
theorem c_296_1414 : mLk 296 1414 = some (.iadd, 1) := rfl
theorem c_296_1415 : mLk 296 1415 = some (.iaload, 1) := rfl
theorem c_296_1416 : mLk 296 1416 = some (.aload_n 3, 1) := rfl
theorem c_296_1417 : mLk 296 1417 = some (.invokestatic 230, 3) := rfl
theorem c_289_0 : mLk 289 0 = some (.aload_n 2, 1) := rfl
theorem c_289_1 : mLk 289 1 = some (.iconst 0, 1) := rfl
theorem c_289_2 : mLk 289 2 = some (.aload_n 0, 1) := rfl
theorem c_289_3 : mLk 289 3 = some (.iload_n 1, 1) := rfl
theorem c_289_4 : mLk 289 4 = some (.invokevirtual 96, 3) := rfl
theorem c_296_1420 : mLk 296 1420 = some (.istore 5, 2) := rfl
theorem c_296_1422 : mLk 296 1422 = some (.aload_n 2, 1) := rfl
theorem c_296_1423 : mLk 296 1423 = some (.aload_n 0, 1) := rfl
theorem c_296_1424 : mLk 296 1424 = some (.iload 4, 2) := rfl
theorem c_296_1426 : mLk 296 1426 = some (.iconst 1, 1) := rfl
theorem c_296_1427 : mLk 296 1427 = some (.iadd, 1) := rfl
theorem c_296_1428 : mLk 296 1428 = some (.iaload, 1) := rfl
theorem c_296_1429 : mLk 296 1429 = some (.invokevirtual 232, 3) := rfl
theorem c_296_1432 : mLk 296 1432 = some (.istore 6, 2) := rfl
theorem c_296_1434 : mLk 296 1434 = some (.goto 382, 3) := rfl
theorem c_289_7 : mLk 289 7 = some (.i2l, 1) := rfl
theorem c_289_8 : mLk 289 8 = some (.lastore, 1) := rfl
theorem c_289_9 : mLk 289 9 = some (.goto 6, 3) := rfl
theorem c_289_15 : mLk 289 15 = some (.iconst 0, 1) := rfl
theorem c_289_16 : mLk 289 16 = some (.ireturn, 1) := rfl
theorem km_9_196 : a_lk (kM 9) 196 = some (0, 230) := rfl
theorem km_9_199 : a_lk (kM 9) 199 = some (0, 232) := rfl
theorem km_9_203 : a_lk (kM 9) 203 = some (0, 234) := rfl
theorem km_9_206 : a_lk (kM 9) 206 = some (0, 236) := rfl
theorem km_9_209 : a_lk (kM 9) 209 = some (0, 239) := rfl
theorem km_9_212 : a_lk (kM 9) 212 = some (0, 240) := rfl
theorem km_9_213 : a_lk (kM 9) 213 = some (0, 106) := rfl
theorem km_9_216 : a_lk (kM 9) 216 = some (0, 241) := rfl
theorem km_9_219 : a_lk (kM 9) 219 = some (0, 242) := rfl
theorem km_9_220 : a_lk (kM 9) 220 = some (0, 101) := rfl
theorem km_9_223 : a_lk (kM 9) 223 = some (0, 243) := rfl
theorem km_9_226 : a_lk (kM 9) 226 = some (0, 244) := rfl
theorem km_9_229 : a_lk (kM 9) 229 = some (0, 245) := rfl
theorem km_9_232 : a_lk (kM 9) 232 = some (0, 246) := rfl
theorem km_9_68 : a_lk (kM 9) 68 = some (0, 128) := rfl
theorem km_9_71 : a_lk (kM 9) 71 = some (0, 131) := rfl
theorem km_9_74 : a_lk (kM 9) 74 = some (0, 134) := rfl
theorem km_9_78 : a_lk (kM 9) 78 = some (0, 136) := rfl
theorem km_9_81 : a_lk (kM 9) 81 = some (0, 125) := rfl
theorem km_9_84 : a_lk (kM 9) 84 = some (0, 105) := rfl
theorem km_9_87 : a_lk (kM 9) 87 = some (0, 108) := rfl
theorem km_9_90 : a_lk (kM 9) 90 = some (0, 109) := rfl
theorem km_9_93 : a_lk (kM 9) 93 = some (0, 98) := rfl
theorem km_9_96 : a_lk (kM 9) 96 = some (0, 99) := rfl
set_option maxRecDepth 100000 in
set_option maxHeartbeats 4000000 in
theorem o_20 {xs : Nat → Int32} {L i0 d nc ns P Q : Nat} {c : ME} {Z : AR → Prop} (hi : i0 + 8 ≤ L) (hL : L ≤ 100000) (hI : Iv 0 (-1) P Q c) (hR : Rq P c) (K : ∀ (P2 Q2 : Nat) (c2 : ME) (e : Nat), e ≤ 1 → Iv 0 (-1) P2 Q2 c2 → (Rq P2 c2) → Wp (a_scr L xs) (d + 90) 296 1816 [(4, vi (i0 : Int)), (3, .ref 67), (2, .ref 41), (1, .ref 0), (0, .ref a_SC)] [] (Wd P2 Q2 P2 P2 c2) (nc + e) (ns + 6 * e) Z) : Wp (a_scr L xs) (d + 90) 296 1035 [(4, vi (i0 : Int)), (3, .ref 67), (2, .ref 41), (1, .ref 0), (0, .ref a_SC)] [] (Wd P Q P P c) nc ns Z := by
  obtain ⟨x1, hx1⟩ : ∃ z, (xs (i0 + 1)).toInt = z := ⟨_, rfl⟩
  have x1r := c_rng (xs (i0 + 1))
  rw [hx1] at x1r
  obtain ⟨x2, hx2⟩ : ∃ z, (xs (i0 + 2)).toInt = z := ⟨_, rfl⟩
  have x2r := c_rng (xs (i0 + 2))
  rw [hx2] at x2r
  obtain ⟨x3, hx3⟩ : ∃ z, (xs (i0 + 3)).toInt = z := ⟨_, rfl⟩
  have x3r := c_rng (xs (i0 + 3))
  rw [hx3] at x3r
  obtain ⟨x4, hx4⟩ : ∃ z, (xs (i0 + 4)).toInt = z := ⟨_, rfl⟩
  have x4r := c_rng (xs (i0 + 4))
  rw [hx4] at x4r
  obtain ⟨x5, hx5⟩ : ∃ z, (xs (i0 + 5)).toInt = z := ⟨_, rfl⟩
  have x5r := c_rng (xs (i0 + 5))
  rw [hx5] at x5r
  obtain ⟨x6, hx6⟩ : ∃ z, (xs (i0 + 6)).toInt = z := ⟨_, rfl⟩
  have x6r := c_rng (xs (i0 + 6))
  rw [hx6] at x6r
  obtain ⟨x7, hx7⟩ : ∃ z, (xs (i0 + 7)).toInt = z := ⟨_, rfl⟩
  have x7r := c_rng (xs (i0 + 7))
  rw [hx7] at x7r
  have hP := iv_P hI
  have hQ := iv_Q hI
  have hT := rl_t hR
  have hU := rl_u hR
  obtain ⟨n0, hn0⟩ : ∃ z, c P 0 = z := ⟨_, rfl⟩
  have hm0 : c 41 20 = n0 := (rl_nums hR).1.symm.trans hn0
  have hr0 := ir_p0_0 hI hP
  rw [hn0] at hr0
  obtain ⟨n1, hn1⟩ : ∃ z, c P 1 = z := ⟨_, rfl⟩
  have hm1 : c 41 21 = n1 := (rl_nums hR).2.1.symm.trans hn1
  have hr1 := ir_p0_1 hI hP
  rw [hn1] at hr1
  obtain ⟨n2, hn2⟩ : ∃ z, c P 2 = z := ⟨_, rfl⟩
  have hm2 : c 41 22 = n2 := (rl_nums hR).2.2.1.symm.trans hn2
  have hr2 := ir_p0_2 hI hP
  rw [hn2] at hr2
  obtain ⟨n3, hn3⟩ : ∃ z, c P 3 = z := ⟨_, rfl⟩
  have hm3 : c 41 23 = n3 := (rl_nums hR).2.2.2.symm.trans hn3
  have hr3 := ir_p0_3 hI hP
  rw [hn3] at hr3
  have hNimg := rl_img hR
  have hNwk := rl_wk hR
  have h_1 := ir_3_4 hI
  have hIw := rl_iw hR
  refine q_aload_n c_296_1035 rfl (q_aload_n c_296_1036 rfl (q_iload c_296_1037 rfl (q_iconst c_296_1039 (v_iadd (v := (i0 : Int) + 1) c_296_1040 rfl (v_scr (j := i0 + 1) c_296_1041 (by omega) (by omega) hL hx1 (q_aload_n c_296_1042 rfl (q_call c_296_1043 rfl rfl rfl ?_)))))))
  refine q_aload_n c_280_0 rfl (q_iconst c_280_1 (q_aload_n c_280_2 rfl (q_iload_n c_280_3 rfl ?_)))
  refine v_cv c_280_4 km_9_68 rfl rfl (Nat.le_of_ble_eq_true rfl) ⟨⟨rfl, rfl⟩, Nat.le_of_ble_eq_true rfl, rfl⟩ (Nat.le_of_ble_eq_true rfl) (Nat.le_of_ble_eq_true rfl) (s_128 (a1 := x1) hI (show (-2147483648) ≤ x1 ∧ x1 ≤ 2147483647 from ⟨by omega, by omega⟩) (fun c_2 hI_3 hF_4 => ?_) (fun c_5 y_8 hI_6 hF_7 hy_8 => ?_))
  · skip
    refine bk_thr (z := Int32.ofInt 1) rfl ⟨_, _, rfl⟩ rfl (bk_inl (q_istore c_296_1046 (Nat.le_of_ble_eq_true rfl) (q_aload_n c_296_1048 rfl (q_aload_n c_296_1049 rfl (q_iload c_296_1050 rfl (q_iconst c_296_1052 (v_iadd (v := (i0 : Int) + 1) c_296_1053 rfl ?_)))))))
    refine v_scr (j := i0 + 1) c_296_1054 (by omega) (by omega) hL hx1 (v_cv c_296_1055 km_9_196 rfl rfl (Nat.le_of_ble_eq_true rfl) ⟨⟨rfl, rfl⟩, Nat.le_of_ble_eq_true rfl, rfl⟩ (Nat.le_of_ble_eq_true rfl) (Nat.le_of_ble_eq_true rfl) (s_230 (a1 := x1) hI_3 (show (-2147483648) ≤ x1 ∧ x1 ≤ 2147483647 from ⟨by omega, by omega⟩) (fun c_9 y_12 hI_10 hF_11 hy_12 => (bk_inl (q_istore c_296_1058 (Nat.le_of_ble_eq_true rfl) (q_goto (t := 1816) c_296_1060 rfl (Wp_ls [(4, vi (i0 : Int)), (3, .ref 67), (2, .ref 41), (1, .ref 0), (0, .ref a_SC)] (lsub_cons rfl (lsub_cons rfl (lsub_cons rfl (lsub_cons rfl (lsub_cons rfl lsub_nil))))) ?_)))))))
    have h_13 := ir_1_3 hI
    have kn_14 : Hid (c_2 1 3 = c 1 3) := hF_4 1 3 (fun q => q.elim (fun h => absurd h.1 (nn rfl)) (fun h => absurd h (nn rfl)))
    have kn_15 : Hid (c_9 1 3 = c 1 3) := (hF_11 1 3 qn_39cd18c3e).trans (hid kn_14)
    have h_16 : c_9 1 3 = c 1 3 := (hid kn_15)
    have h_17 := ir_41_2 hI
    have kn_18 : Hid (c_2 41 2 = c 41 2) := hF_4 41 2 (fun q => q.elim (fun h => absurd h.1 (nn rfl)) (fun h => absurd h (nn rfl)))
    have kn_19 : Hid (c_9 41 2 = c 41 2) := (hF_11 41 2 qn_53bdb2099).trans (hid kn_18)
    have h_20 : c_9 41 2 = c 41 2 := (hid kn_19)
    have kn_21 : Hid (c_2 P 0 = n0) := (hF_4 P 0 (qn_e391c0369 hP)).trans (hn0)
    have kn_22 : Hid (c_9 P 0 = n0) := (hF_11 P 0 (qn_857752076 hP)).trans (hid kn_21)
    have h_23 : c_9 P 0 = n0 := (hid kn_22)
    have kn_24 : Hid (c_2 41 20 = n0) := (hF_4 41 20 (fun q => q.elim (fun h => absurd h.1 (nn rfl)) (fun h => absurd h (nn rfl)))).trans (hm0)
    have kn_25 : Hid (c_9 41 20 = n0) := (hF_11 41 20 qn_110b29ed6).trans (hid kn_24)
    have h_26 : c_9 41 20 = n0 := (hid kn_25)
    have kn_27 : Hid (c_2 P 1 = n1) := (hF_4 P 1 (qn_e391c0369 hP)).trans (hn1)
    have kn_28 : Hid (c_9 P 1 = n1) := (hF_11 P 1 (qn_857752076 hP)).trans (hid kn_27)
    have h_29 : c_9 P 1 = n1 := (hid kn_28)
    have kn_30 : Hid (c_2 41 21 = n1) := (hF_4 41 21 (fun q => q.elim (fun h => absurd h.1 (nn rfl)) (fun h => absurd h (nn rfl)))).trans (hm1)
    have kn_31 : Hid (c_9 41 21 = n1) := (hF_11 41 21 qn_561064c41).trans (hid kn_30)
    have h_32 : c_9 41 21 = n1 := (hid kn_31)
    have kn_33 : Hid (c_2 P 2 = n2) := (hF_4 P 2 (qn_e391c0369 hP)).trans (hn2)
    have kn_34 : Hid (c_9 P 2 = n2) := (hF_11 P 2 (qn_857752076 hP)).trans (hid kn_33)
    have h_35 : c_9 P 2 = n2 := (hid kn_34)
    have kn_36 : Hid (c_2 41 22 = n2) := (hF_4 41 22 (fun q => q.elim (fun h => absurd h.1 (nn rfl)) (fun h => absurd h (nn rfl)))).trans (hm2)
    have kn_37 : Hid (c_9 41 22 = n2) := (hF_11 41 22 qn_1a460b46b).trans (hid kn_36)
    have h_38 : c_9 41 22 = n2 := (hid kn_37)
    have kn_39 : Hid (c_2 P 3 = n3) := (hF_4 P 3 (qn_e391c0369 hP)).trans (hn3)
    have kn_40 : Hid (c_9 P 3 = n3) := (hF_11 P 3 (qn_857752076 hP)).trans (hid kn_39)
    have h_41 : c_9 P 3 = n3 := (hid kn_40)
    have kn_42 : Hid (c_2 41 23 = n3) := (hF_4 41 23 (fun q => q.elim (fun h => absurd h.1 (nn rfl)) (fun h => absurd h (nn rfl)))).trans (hm3)
    have kn_43 : Hid (c_9 41 23 = n3) := (hF_11 41 23 qn_b79f282cd).trans (hid kn_42)
    have h_44 : c_9 41 23 = n3 := (hid kn_43)
    have kn_45 : Hid (c_2 3 4 = c 3 4) := hF_4 3 4 (fun q => q.elim (fun h => absurd h.1 (nn rfl)) (fun h => absurd h (nn rfl)))
    have kn_46 : Hid (c_9 3 4 = c 3 4) := (hF_11 3 4 qn_bf2303cc8).trans (hid kn_45)
    have h_47 : c_9 3 4 = c 3 4 := (hid kn_46)
    have h_48 := ir_41_52 hI
    have kn_49 : Hid (c_2 41 52 = c 41 52) := hF_4 41 52 (fun q => q.elim (fun h => absurd h.1 (nn rfl)) (fun h => absurd h (nn rfl)))
    have kn_50 : Hid (c_9 41 52 = c 41 52) := (hF_11 41 52 qn_90835161a).trans (hid kn_49)
    have h_51 : c_9 41 52 = c 41 52 := (hid kn_50)
    have h_52 := ir_3_3 hI
    have kn_53 : Hid (c_2 3 3 = c 3 3) := hF_4 3 3 (fun q => q.elim (fun h => absurd h.1 (nn rfl)) (fun h => absurd h (nn rfl)))
    have kn_54 : Hid (c_9 3 3 = c 3 3) := (hF_11 3 3 qn_bf2303cc8).trans (hid kn_53)
    have h_55 : c_9 3 3 = c 3 3 := (hid kn_54)
    have h_56 := ir_41_35 hI
    have kn_57 : Hid (c_2 41 35 = c 41 35) := hF_4 41 35 (fun q => q.elim (fun h => absurd h.1 (nn rfl)) (fun h => absurd h (nn rfl)))
    have kn_58 : Hid (c_9 41 35 = c 41 35) := (hF_11 41 35 qn_732a91ea5).trans (hid kn_57)
    have h_59 : c_9 41 35 = c 41 35 := (hid kn_58)
    have h_60 : c_9 3 4 = c 3 4 := (hid kn_46)
    exact K P Q c_9 1 (by decide) hI_10 ⟨by omega, ub_fr hU (fun j => (hF_11 2 j qn_2ad67e194).trans (hF_4 2 j (fun q => q.elim (fun h => absurd h.1 (nn rfl)) (fun h => absurd h (nn rfl))))) (fun j => (hF_11 43 j qn_1520ff5e3).trans (hF_4 43 j (fun q => q.elim (fun h => absurd h.1 (nn rfl)) (fun h => absurd h (nn rfl))))), ⟨by omega, by omega, by omega, by omega⟩, by omega, by omega, iw_fr2 hIw (by omega) (fun j => (hF_11 6 j qn_e1050858a).trans (hF_4 6 j (fun q => q.elim (fun h => absurd h.1 (nn rfl)) (fun h => absurd h (nn rfl))))) (fun j => (hF_11 66 j qn_5616dd9ce).trans (hF_4 66 j (fun q => q.elim (fun h => absurd h.1 (nn rfl)) (fun h => absurd h (nn rfl)))))⟩
  refine bk_inl (v_i2l c_280_7 (by omega) (v_ls c_280_8 rfl (by decide) (by decide) (by decide) (q_goto (t := 15) c_280_9 rfl (q_iconst c_280_15 (q_iret c_280_16 rfl (bk_inl (q_istore c_296_1046 (Nat.le_of_ble_eq_true rfl) ?_)))))))
  refine q_aload_n c_296_1048 rfl (q_aload_n c_296_1049 rfl (q_iload c_296_1050 rfl (q_iconst c_296_1052 (v_iadd (v := (i0 : Int) + 1) c_296_1053 rfl (v_scr (j := i0 + 1) c_296_1054 (by omega) (by omega) hL hx1 ?_)))))
  have hI_61 := iw_lx (a := 67) (j := 0) (v := y_8) hI_6 (by omega)
  refine v_cv c_296_1055 km_9_196 rfl rfl (Nat.le_of_ble_eq_true rfl) ⟨⟨rfl, rfl⟩, Nat.le_of_ble_eq_true rfl, rfl⟩ (Nat.le_of_ble_eq_true rfl) (Nat.le_of_ble_eq_true rfl) (s_230 (a1 := x1) hI_61 (show (-2147483648) ≤ x1 ∧ x1 ≤ 2147483647 from ⟨by omega, by omega⟩) (fun c_62 y_65 hI_63 hF_64 hy_65 => (bk_inl (q_istore c_296_1058 (Nat.le_of_ble_eq_true rfl) (q_goto (t := 1816) c_296_1060 rfl (Wp_ls [(4, vi (i0 : Int)), (3, .ref 67), (2, .ref 41), (1, .ref 0), (0, .ref a_SC)] (lsub_cons rfl (lsub_cons rfl (lsub_cons rfl (lsub_cons rfl (lsub_cons rfl lsub_nil))))) ?_))))))
  have h_66 := ir_1_3 hI
  have kn_67 : Hid (c_5 1 3 = c 1 3) := hF_7 1 3 (fun q => q.elim (fun h => absurd h.1 (nn rfl)) (fun h => absurd h (nn rfl)))
  have kn_68 : Hid (c_62 1 3 = c 1 3) := (hF_64 1 3 qn_39cd18c3e).trans ((up_c (nn rfl)).trans (hid kn_67))
  have h_69 : c_62 1 3 = c 1 3 := (hid kn_68)
  have h_70 := ir_41_2 hI
  have kn_71 : Hid (c_5 41 2 = c 41 2) := hF_7 41 2 (fun q => q.elim (fun h => absurd h.1 (nn rfl)) (fun h => absurd h (nn rfl)))
  have kn_72 : Hid (c_62 41 2 = c 41 2) := (hF_64 41 2 qn_53bdb2099).trans ((up_c (nn rfl)).trans (hid kn_71))
  have h_73 : c_62 41 2 = c 41 2 := (hid kn_72)
  have kn_74 : Hid (c_5 P 0 = n0) := (hF_7 P 0 (qn_e391c0369 hP)).trans (hn0)
  have kn_75 : Hid (c_62 P 0 = n0) := (hF_64 P 0 (qn_857752076 hP)).trans ((up_c (np0 hP rfl)).trans (hid kn_74))
  have h_76 : c_62 P 0 = n0 := (hid kn_75)
  have kn_77 : Hid (c_5 41 20 = n0) := (hF_7 41 20 (fun q => q.elim (fun h => absurd h.1 (nn rfl)) (fun h => absurd h (nn rfl)))).trans (hm0)
  have kn_78 : Hid (c_62 41 20 = n0) := (hF_64 41 20 qn_110b29ed6).trans ((up_c (nn rfl)).trans (hid kn_77))
  have h_79 : c_62 41 20 = n0 := (hid kn_78)
  have kn_80 : Hid (c_5 P 1 = n1) := (hF_7 P 1 (qn_e391c0369 hP)).trans (hn1)
  have kn_81 : Hid (c_62 P 1 = n1) := (hF_64 P 1 (qn_857752076 hP)).trans ((up_c (np0 hP rfl)).trans (hid kn_80))
  have h_82 : c_62 P 1 = n1 := (hid kn_81)
  have kn_83 : Hid (c_5 41 21 = n1) := (hF_7 41 21 (fun q => q.elim (fun h => absurd h.1 (nn rfl)) (fun h => absurd h (nn rfl)))).trans (hm1)
  have kn_84 : Hid (c_62 41 21 = n1) := (hF_64 41 21 qn_561064c41).trans ((up_c (nn rfl)).trans (hid kn_83))
  have h_85 : c_62 41 21 = n1 := (hid kn_84)
  have kn_86 : Hid (c_5 P 2 = n2) := (hF_7 P 2 (qn_e391c0369 hP)).trans (hn2)
  have kn_87 : Hid (c_62 P 2 = n2) := (hF_64 P 2 (qn_857752076 hP)).trans ((up_c (np0 hP rfl)).trans (hid kn_86))
  have h_88 : c_62 P 2 = n2 := (hid kn_87)
  have kn_89 : Hid (c_5 41 22 = n2) := (hF_7 41 22 (fun q => q.elim (fun h => absurd h.1 (nn rfl)) (fun h => absurd h (nn rfl)))).trans (hm2)
  have kn_90 : Hid (c_62 41 22 = n2) := (hF_64 41 22 qn_1a460b46b).trans ((up_c (nn rfl)).trans (hid kn_89))
  have h_91 : c_62 41 22 = n2 := (hid kn_90)
  have kn_92 : Hid (c_5 P 3 = n3) := (hF_7 P 3 (qn_e391c0369 hP)).trans (hn3)
  have kn_93 : Hid (c_62 P 3 = n3) := (hF_64 P 3 (qn_857752076 hP)).trans ((up_c (np0 hP rfl)).trans (hid kn_92))
  have h_94 : c_62 P 3 = n3 := (hid kn_93)
  have kn_95 : Hid (c_5 41 23 = n3) := (hF_7 41 23 (fun q => q.elim (fun h => absurd h.1 (nn rfl)) (fun h => absurd h (nn rfl)))).trans (hm3)
  have kn_96 : Hid (c_62 41 23 = n3) := (hF_64 41 23 qn_b79f282cd).trans ((up_c (nn rfl)).trans (hid kn_95))
  have h_97 : c_62 41 23 = n3 := (hid kn_96)
  have kn_98 : Hid (c_5 3 4 = c 3 4) := hF_7 3 4 (fun q => q.elim (fun h => absurd h.1 (nn rfl)) (fun h => absurd h (nn rfl)))
  have kn_99 : Hid (c_62 3 4 = c 3 4) := (hF_64 3 4 qn_bf2303cc8).trans ((up_c (nn rfl)).trans (hid kn_98))
  have h_100 : c_62 3 4 = c 3 4 := (hid kn_99)
  have h_101 := ir_41_52 hI
  have kn_102 : Hid (c_5 41 52 = c 41 52) := hF_7 41 52 (fun q => q.elim (fun h => absurd h.1 (nn rfl)) (fun h => absurd h (nn rfl)))
  have kn_103 : Hid (c_62 41 52 = c 41 52) := (hF_64 41 52 qn_90835161a).trans ((up_c (nn rfl)).trans (hid kn_102))
  have h_104 : c_62 41 52 = c 41 52 := (hid kn_103)
  have h_105 := ir_3_3 hI
  have kn_106 : Hid (c_5 3 3 = c 3 3) := hF_7 3 3 (fun q => q.elim (fun h => absurd h.1 (nn rfl)) (fun h => absurd h (nn rfl)))
  have kn_107 : Hid (c_62 3 3 = c 3 3) := (hF_64 3 3 qn_bf2303cc8).trans ((up_c (nn rfl)).trans (hid kn_106))
  have h_108 : c_62 3 3 = c 3 3 := (hid kn_107)
  have h_109 := ir_41_35 hI
  have kn_110 : Hid (c_5 41 35 = c 41 35) := hF_7 41 35 (fun q => q.elim (fun h => absurd h.1 (nn rfl)) (fun h => absurd h (nn rfl)))
  have kn_111 : Hid (c_62 41 35 = c 41 35) := (hF_64 41 35 qn_732a91ea5).trans ((up_c (nn rfl)).trans (hid kn_110))
  have h_112 : c_62 41 35 = c 41 35 := (hid kn_111)
  have h_113 : c_62 3 4 = c 3 4 := (hid kn_99)
  exact K P Q c_62 0 (by decide) hI_63 ⟨by omega, ub_fr hU (fun j => (hF_64 2 j qn_2ad67e194).trans ((up_c (nn rfl)).trans (hF_7 2 j (fun q => q.elim (fun h => absurd h.1 (nn rfl)) (fun h => absurd h (nn rfl)))))) (fun j => (hF_64 43 j qn_1520ff5e3).trans ((up_c (nn rfl)).trans (hF_7 43 j (fun q => q.elim (fun h => absurd h.1 (nn rfl)) (fun h => absurd h (nn rfl)))))), ⟨by omega, by omega, by omega, by omega⟩, by omega, by omega, iw_fr2 hIw (by omega) (fun j => (hF_64 6 j qn_e1050858a).trans ((up_c (nn rfl)).trans (hF_7 6 j (fun q => q.elim (fun h => absurd h.1 (nn rfl)) (fun h => absurd h (nn rfl)))))) (fun j => (hF_64 66 j qn_5616dd9ce).trans ((up_c (nn rfl)).trans (hF_7 66 j (fun q => q.elim (fun h => absurd h.1 (nn rfl)) (fun h => absurd h (nn rfl))))))⟩

set_option maxRecDepth 100000 in
set_option maxHeartbeats 4000000 in
theorem o_21 {xs : Nat → Int32} {L i0 d nc ns P Q : Nat} {c : ME} {Z : AR → Prop} (hi : i0 + 8 ≤ L) (hL : L ≤ 100000) (hI : Iv 0 (-1) P Q c) (hR : Rq P c) (K : ∀ (P2 Q2 : Nat) (c2 : ME) (e : Nat), e ≤ 1 → Iv 0 (-1) P2 Q2 c2 → (Rq P2 c2) → Wp (a_scr L xs) (d + 90) 296 1816 [(4, vi (i0 : Int)), (3, .ref 67), (2, .ref 41), (1, .ref 0), (0, .ref a_SC)] [] (Wd P2 Q2 P2 P2 c2) (nc + e) (ns + 6 * e) Z) : Wp (a_scr L xs) (d + 90) 296 1063 [(4, vi (i0 : Int)), (3, .ref 67), (2, .ref 41), (1, .ref 0), (0, .ref a_SC)] [] (Wd P Q P P c) nc ns Z := by
  obtain ⟨x1, hx1⟩ : ∃ z, (xs (i0 + 1)).toInt = z := ⟨_, rfl⟩
  have x1r := c_rng (xs (i0 + 1))
  rw [hx1] at x1r
  obtain ⟨x2, hx2⟩ : ∃ z, (xs (i0 + 2)).toInt = z := ⟨_, rfl⟩
  have x2r := c_rng (xs (i0 + 2))
  rw [hx2] at x2r
  obtain ⟨x3, hx3⟩ : ∃ z, (xs (i0 + 3)).toInt = z := ⟨_, rfl⟩
  have x3r := c_rng (xs (i0 + 3))
  rw [hx3] at x3r
  obtain ⟨x4, hx4⟩ : ∃ z, (xs (i0 + 4)).toInt = z := ⟨_, rfl⟩
  have x4r := c_rng (xs (i0 + 4))
  rw [hx4] at x4r
  obtain ⟨x5, hx5⟩ : ∃ z, (xs (i0 + 5)).toInt = z := ⟨_, rfl⟩
  have x5r := c_rng (xs (i0 + 5))
  rw [hx5] at x5r
  obtain ⟨x6, hx6⟩ : ∃ z, (xs (i0 + 6)).toInt = z := ⟨_, rfl⟩
  have x6r := c_rng (xs (i0 + 6))
  rw [hx6] at x6r
  obtain ⟨x7, hx7⟩ : ∃ z, (xs (i0 + 7)).toInt = z := ⟨_, rfl⟩
  have x7r := c_rng (xs (i0 + 7))
  rw [hx7] at x7r
  have hP := iv_P hI
  have hQ := iv_Q hI
  have hT := rl_t hR
  have hU := rl_u hR
  obtain ⟨n0, hn0⟩ : ∃ z, c P 0 = z := ⟨_, rfl⟩
  have hm0 : c 41 20 = n0 := (rl_nums hR).1.symm.trans hn0
  have hr0 := ir_p0_0 hI hP
  rw [hn0] at hr0
  obtain ⟨n1, hn1⟩ : ∃ z, c P 1 = z := ⟨_, rfl⟩
  have hm1 : c 41 21 = n1 := (rl_nums hR).2.1.symm.trans hn1
  have hr1 := ir_p0_1 hI hP
  rw [hn1] at hr1
  obtain ⟨n2, hn2⟩ : ∃ z, c P 2 = z := ⟨_, rfl⟩
  have hm2 : c 41 22 = n2 := (rl_nums hR).2.2.1.symm.trans hn2
  have hr2 := ir_p0_2 hI hP
  rw [hn2] at hr2
  obtain ⟨n3, hn3⟩ : ∃ z, c P 3 = z := ⟨_, rfl⟩
  have hm3 : c 41 23 = n3 := (rl_nums hR).2.2.2.symm.trans hn3
  have hr3 := ir_p0_3 hI hP
  rw [hn3] at hr3
  have hNimg := rl_img hR
  have hNwk := rl_wk hR
  have h_1 := ir_3_4 hI
  have hIw := rl_iw hR
  refine q_aload_n c_296_1063 rfl (q_aload_n c_296_1064 rfl (q_iload c_296_1065 rfl (q_iconst c_296_1067 (v_iadd (v := (i0 : Int) + 1) c_296_1068 rfl (v_scr (j := i0 + 1) c_296_1069 (by omega) (by omega) hL hx1 (q_aload_n c_296_1070 rfl (q_call c_296_1071 rfl rfl rfl ?_)))))))
  refine q_aload_n c_281_0 rfl (q_iconst c_281_1 (q_aload_n c_281_2 rfl (q_iload_n c_281_3 rfl ?_)))
  refine v_cv c_281_4 km_9_71 rfl rfl (Nat.le_of_ble_eq_true rfl) ⟨⟨rfl, rfl⟩, Nat.le_of_ble_eq_true rfl, rfl⟩ (Nat.le_of_ble_eq_true rfl) (Nat.le_of_ble_eq_true rfl) (s_131 (a1 := x1) hI (show (-2147483648) ≤ x1 ∧ x1 ≤ 2147483647 from ⟨by omega, by omega⟩) (fun c_2 hI_3 hF_4 => ?_) (fun c_5 y_8 hI_6 hF_7 hy_8 => ?_))
  · skip
    refine bk_thr (z := Int32.ofInt 1) rfl ⟨_, _, rfl⟩ rfl (bk_inl (q_istore c_296_1074 (Nat.le_of_ble_eq_true rfl) (q_aload_n c_296_1076 rfl (q_aload_n c_296_1077 rfl (q_iload c_296_1078 rfl (q_iconst c_296_1080 (v_iadd (v := (i0 : Int) + 1) c_296_1081 rfl ?_)))))))
    refine v_scr (j := i0 + 1) c_296_1082 (by omega) (by omega) hL hx1 (v_cv c_296_1083 km_9_199 rfl rfl (Nat.le_of_ble_eq_true rfl) ⟨⟨rfl, rfl⟩, Nat.le_of_ble_eq_true rfl, rfl⟩ (Nat.le_of_ble_eq_true rfl) (Nat.le_of_ble_eq_true rfl) (s_232 (a1 := x1) hI_3 (show (-2147483648) ≤ x1 ∧ x1 ≤ 2147483647 from ⟨by omega, by omega⟩) (fun c_9 y_12 hI_10 hF_11 hy_12 => (bk_inl (q_istore c_296_1086 (Nat.le_of_ble_eq_true rfl) (q_goto (t := 1816) c_296_1088 rfl (Wp_ls [(4, vi (i0 : Int)), (3, .ref 67), (2, .ref 41), (1, .ref 0), (0, .ref a_SC)] (lsub_cons rfl (lsub_cons rfl (lsub_cons rfl (lsub_cons rfl (lsub_cons rfl lsub_nil))))) ?_)))))))
    have h_13 := ir_1_3 hI
    have kn_14 : Hid (c_2 1 3 = c 1 3) := hF_4 1 3 (fun q => q.elim (fun h => absurd h.1 (nn rfl)) (fun h => absurd h (nn rfl)))
    have kn_15 : Hid (c_9 1 3 = c 1 3) := (hF_11 1 3 qn_39cd18c3e).trans (hid kn_14)
    have h_16 : c_9 1 3 = c 1 3 := (hid kn_15)
    have h_17 := ir_41_2 hI
    have kn_18 : Hid (c_2 41 2 = c 41 2) := hF_4 41 2 (fun q => q.elim (fun h => absurd h.1 (nn rfl)) (fun h => absurd h (nn rfl)))
    have kn_19 : Hid (c_9 41 2 = c 41 2) := (hF_11 41 2 qn_53bdb2099).trans (hid kn_18)
    have h_20 : c_9 41 2 = c 41 2 := (hid kn_19)
    have kn_21 : Hid (c_2 P 0 = n0) := (hF_4 P 0 (qn_e391c0369 hP)).trans (hn0)
    have kn_22 : Hid (c_9 P 0 = n0) := (hF_11 P 0 (qn_857752076 hP)).trans (hid kn_21)
    have h_23 : c_9 P 0 = n0 := (hid kn_22)
    have kn_24 : Hid (c_2 41 20 = n0) := (hF_4 41 20 (fun q => q.elim (fun h => absurd h.1 (nn rfl)) (fun h => absurd h (nn rfl)))).trans (hm0)
    have kn_25 : Hid (c_9 41 20 = n0) := (hF_11 41 20 qn_110b29ed6).trans (hid kn_24)
    have h_26 : c_9 41 20 = n0 := (hid kn_25)
    have kn_27 : Hid (c_2 P 1 = n1) := (hF_4 P 1 (qn_e391c0369 hP)).trans (hn1)
    have kn_28 : Hid (c_9 P 1 = n1) := (hF_11 P 1 (qn_857752076 hP)).trans (hid kn_27)
    have h_29 : c_9 P 1 = n1 := (hid kn_28)
    have kn_30 : Hid (c_2 41 21 = n1) := (hF_4 41 21 (fun q => q.elim (fun h => absurd h.1 (nn rfl)) (fun h => absurd h (nn rfl)))).trans (hm1)
    have kn_31 : Hid (c_9 41 21 = n1) := (hF_11 41 21 qn_561064c41).trans (hid kn_30)
    have h_32 : c_9 41 21 = n1 := (hid kn_31)
    have kn_33 : Hid (c_2 P 2 = n2) := (hF_4 P 2 (qn_e391c0369 hP)).trans (hn2)
    have kn_34 : Hid (c_9 P 2 = n2) := (hF_11 P 2 (qn_857752076 hP)).trans (hid kn_33)
    have h_35 : c_9 P 2 = n2 := (hid kn_34)
    have kn_36 : Hid (c_2 41 22 = n2) := (hF_4 41 22 (fun q => q.elim (fun h => absurd h.1 (nn rfl)) (fun h => absurd h (nn rfl)))).trans (hm2)
    have kn_37 : Hid (c_9 41 22 = n2) := (hF_11 41 22 qn_1a460b46b).trans (hid kn_36)
    have h_38 : c_9 41 22 = n2 := (hid kn_37)
    have kn_39 : Hid (c_2 P 3 = n3) := (hF_4 P 3 (qn_e391c0369 hP)).trans (hn3)
    have kn_40 : Hid (c_9 P 3 = n3) := (hF_11 P 3 (qn_857752076 hP)).trans (hid kn_39)
    have h_41 : c_9 P 3 = n3 := (hid kn_40)
    have kn_42 : Hid (c_2 41 23 = n3) := (hF_4 41 23 (fun q => q.elim (fun h => absurd h.1 (nn rfl)) (fun h => absurd h (nn rfl)))).trans (hm3)
    have kn_43 : Hid (c_9 41 23 = n3) := (hF_11 41 23 qn_b79f282cd).trans (hid kn_42)
    have h_44 : c_9 41 23 = n3 := (hid kn_43)
    have kn_45 : Hid (c_2 3 4 = c 3 4) := hF_4 3 4 (fun q => q.elim (fun h => absurd h.1 (nn rfl)) (fun h => absurd h (nn rfl)))
    have kn_46 : Hid (c_9 3 4 = c 3 4) := (hF_11 3 4 qn_bf2303cc8).trans (hid kn_45)
    have h_47 : c_9 3 4 = c 3 4 := (hid kn_46)
    have h_48 := ir_41_52 hI
    have kn_49 : Hid (c_2 41 52 = c 41 52) := hF_4 41 52 (fun q => q.elim (fun h => absurd h.1 (nn rfl)) (fun h => absurd h (nn rfl)))
    have kn_50 : Hid (c_9 41 52 = c 41 52) := (hF_11 41 52 qn_90835161a).trans (hid kn_49)
    have h_51 : c_9 41 52 = c 41 52 := (hid kn_50)
    have h_52 := ir_3_3 hI
    have kn_53 : Hid (c_2 3 3 = c 3 3) := hF_4 3 3 (fun q => q.elim (fun h => absurd h.1 (nn rfl)) (fun h => absurd h (nn rfl)))
    have kn_54 : Hid (c_9 3 3 = c 3 3) := (hF_11 3 3 qn_bf2303cc8).trans (hid kn_53)
    have h_55 : c_9 3 3 = c 3 3 := (hid kn_54)
    have h_56 := ir_41_35 hI
    have kn_57 : Hid (c_2 41 35 = c 41 35) := hF_4 41 35 (fun q => q.elim (fun h => absurd h.1 (nn rfl)) (fun h => absurd h (nn rfl)))
    have kn_58 : Hid (c_9 41 35 = c 41 35) := (hF_11 41 35 qn_732a91ea5).trans (hid kn_57)
    have h_59 : c_9 41 35 = c 41 35 := (hid kn_58)
    have h_60 : c_9 3 4 = c 3 4 := (hid kn_46)
    exact K P Q c_9 1 (by decide) hI_10 ⟨by omega, ub_fr hU (fun j => (hF_11 2 j qn_2ad67e194).trans (hF_4 2 j (fun q => q.elim (fun h => absurd h.1 (nn rfl)) (fun h => absurd h (nn rfl))))) (fun j => (hF_11 43 j qn_1520ff5e3).trans (hF_4 43 j (fun q => q.elim (fun h => absurd h.1 (nn rfl)) (fun h => absurd h (nn rfl))))), ⟨by omega, by omega, by omega, by omega⟩, by omega, by omega, iw_fr2 hIw (by omega) (fun j => (hF_11 6 j qn_e1050858a).trans (hF_4 6 j (fun q => q.elim (fun h => absurd h.1 (nn rfl)) (fun h => absurd h (nn rfl))))) (fun j => (hF_11 66 j qn_5616dd9ce).trans (hF_4 66 j (fun q => q.elim (fun h => absurd h.1 (nn rfl)) (fun h => absurd h (nn rfl)))))⟩
  refine bk_inl (v_i2l c_281_7 (by omega) (v_ls c_281_8 rfl (by decide) (by decide) (by decide) (q_goto (t := 15) c_281_9 rfl (q_iconst c_281_15 (q_iret c_281_16 rfl (bk_inl (q_istore c_296_1074 (Nat.le_of_ble_eq_true rfl) ?_)))))))
  refine q_aload_n c_296_1076 rfl (q_aload_n c_296_1077 rfl (q_iload c_296_1078 rfl (q_iconst c_296_1080 (v_iadd (v := (i0 : Int) + 1) c_296_1081 rfl (v_scr (j := i0 + 1) c_296_1082 (by omega) (by omega) hL hx1 ?_)))))
  have hI_61 := iw_lx (a := 67) (j := 0) (v := y_8) hI_6 (by omega)
  refine v_cv c_296_1083 km_9_199 rfl rfl (Nat.le_of_ble_eq_true rfl) ⟨⟨rfl, rfl⟩, Nat.le_of_ble_eq_true rfl, rfl⟩ (Nat.le_of_ble_eq_true rfl) (Nat.le_of_ble_eq_true rfl) (s_232 (a1 := x1) hI_61 (show (-2147483648) ≤ x1 ∧ x1 ≤ 2147483647 from ⟨by omega, by omega⟩) (fun c_62 y_65 hI_63 hF_64 hy_65 => (bk_inl (q_istore c_296_1086 (Nat.le_of_ble_eq_true rfl) (q_goto (t := 1816) c_296_1088 rfl (Wp_ls [(4, vi (i0 : Int)), (3, .ref 67), (2, .ref 41), (1, .ref 0), (0, .ref a_SC)] (lsub_cons rfl (lsub_cons rfl (lsub_cons rfl (lsub_cons rfl (lsub_cons rfl lsub_nil))))) ?_))))))
  have h_66 := ir_1_3 hI
  have kn_67 : Hid (c_5 1 3 = c 1 3) := hF_7 1 3 (fun q => q.elim (fun h => absurd h.1 (nn rfl)) (fun h => absurd h (nn rfl)))
  have kn_68 : Hid (c_62 1 3 = c 1 3) := (hF_64 1 3 qn_39cd18c3e).trans ((up_c (nn rfl)).trans (hid kn_67))
  have h_69 : c_62 1 3 = c 1 3 := (hid kn_68)
  have h_70 := ir_41_2 hI
  have kn_71 : Hid (c_5 41 2 = c 41 2) := hF_7 41 2 (fun q => q.elim (fun h => absurd h.1 (nn rfl)) (fun h => absurd h (nn rfl)))
  have kn_72 : Hid (c_62 41 2 = c 41 2) := (hF_64 41 2 qn_53bdb2099).trans ((up_c (nn rfl)).trans (hid kn_71))
  have h_73 : c_62 41 2 = c 41 2 := (hid kn_72)
  have kn_74 : Hid (c_5 P 0 = n0) := (hF_7 P 0 (qn_e391c0369 hP)).trans (hn0)
  have kn_75 : Hid (c_62 P 0 = n0) := (hF_64 P 0 (qn_857752076 hP)).trans ((up_c (np0 hP rfl)).trans (hid kn_74))
  have h_76 : c_62 P 0 = n0 := (hid kn_75)
  have kn_77 : Hid (c_5 41 20 = n0) := (hF_7 41 20 (fun q => q.elim (fun h => absurd h.1 (nn rfl)) (fun h => absurd h (nn rfl)))).trans (hm0)
  have kn_78 : Hid (c_62 41 20 = n0) := (hF_64 41 20 qn_110b29ed6).trans ((up_c (nn rfl)).trans (hid kn_77))
  have h_79 : c_62 41 20 = n0 := (hid kn_78)
  have kn_80 : Hid (c_5 P 1 = n1) := (hF_7 P 1 (qn_e391c0369 hP)).trans (hn1)
  have kn_81 : Hid (c_62 P 1 = n1) := (hF_64 P 1 (qn_857752076 hP)).trans ((up_c (np0 hP rfl)).trans (hid kn_80))
  have h_82 : c_62 P 1 = n1 := (hid kn_81)
  have kn_83 : Hid (c_5 41 21 = n1) := (hF_7 41 21 (fun q => q.elim (fun h => absurd h.1 (nn rfl)) (fun h => absurd h (nn rfl)))).trans (hm1)
  have kn_84 : Hid (c_62 41 21 = n1) := (hF_64 41 21 qn_561064c41).trans ((up_c (nn rfl)).trans (hid kn_83))
  have h_85 : c_62 41 21 = n1 := (hid kn_84)
  have kn_86 : Hid (c_5 P 2 = n2) := (hF_7 P 2 (qn_e391c0369 hP)).trans (hn2)
  have kn_87 : Hid (c_62 P 2 = n2) := (hF_64 P 2 (qn_857752076 hP)).trans ((up_c (np0 hP rfl)).trans (hid kn_86))
  have h_88 : c_62 P 2 = n2 := (hid kn_87)
  have kn_89 : Hid (c_5 41 22 = n2) := (hF_7 41 22 (fun q => q.elim (fun h => absurd h.1 (nn rfl)) (fun h => absurd h (nn rfl)))).trans (hm2)
  have kn_90 : Hid (c_62 41 22 = n2) := (hF_64 41 22 qn_1a460b46b).trans ((up_c (nn rfl)).trans (hid kn_89))
  have h_91 : c_62 41 22 = n2 := (hid kn_90)
  have kn_92 : Hid (c_5 P 3 = n3) := (hF_7 P 3 (qn_e391c0369 hP)).trans (hn3)
  have kn_93 : Hid (c_62 P 3 = n3) := (hF_64 P 3 (qn_857752076 hP)).trans ((up_c (np0 hP rfl)).trans (hid kn_92))
  have h_94 : c_62 P 3 = n3 := (hid kn_93)
  have kn_95 : Hid (c_5 41 23 = n3) := (hF_7 41 23 (fun q => q.elim (fun h => absurd h.1 (nn rfl)) (fun h => absurd h (nn rfl)))).trans (hm3)
  have kn_96 : Hid (c_62 41 23 = n3) := (hF_64 41 23 qn_b79f282cd).trans ((up_c (nn rfl)).trans (hid kn_95))
  have h_97 : c_62 41 23 = n3 := (hid kn_96)
  have kn_98 : Hid (c_5 3 4 = c 3 4) := hF_7 3 4 (fun q => q.elim (fun h => absurd h.1 (nn rfl)) (fun h => absurd h (nn rfl)))
  have kn_99 : Hid (c_62 3 4 = c 3 4) := (hF_64 3 4 qn_bf2303cc8).trans ((up_c (nn rfl)).trans (hid kn_98))
  have h_100 : c_62 3 4 = c 3 4 := (hid kn_99)
  have h_101 := ir_41_52 hI
  have kn_102 : Hid (c_5 41 52 = c 41 52) := hF_7 41 52 (fun q => q.elim (fun h => absurd h.1 (nn rfl)) (fun h => absurd h (nn rfl)))
  have kn_103 : Hid (c_62 41 52 = c 41 52) := (hF_64 41 52 qn_90835161a).trans ((up_c (nn rfl)).trans (hid kn_102))
  have h_104 : c_62 41 52 = c 41 52 := (hid kn_103)
  have h_105 := ir_3_3 hI
  have kn_106 : Hid (c_5 3 3 = c 3 3) := hF_7 3 3 (fun q => q.elim (fun h => absurd h.1 (nn rfl)) (fun h => absurd h (nn rfl)))
  have kn_107 : Hid (c_62 3 3 = c 3 3) := (hF_64 3 3 qn_bf2303cc8).trans ((up_c (nn rfl)).trans (hid kn_106))
  have h_108 : c_62 3 3 = c 3 3 := (hid kn_107)
  have h_109 := ir_41_35 hI
  have kn_110 : Hid (c_5 41 35 = c 41 35) := hF_7 41 35 (fun q => q.elim (fun h => absurd h.1 (nn rfl)) (fun h => absurd h (nn rfl)))
  have kn_111 : Hid (c_62 41 35 = c 41 35) := (hF_64 41 35 qn_732a91ea5).trans ((up_c (nn rfl)).trans (hid kn_110))
  have h_112 : c_62 41 35 = c 41 35 := (hid kn_111)
  have h_113 : c_62 3 4 = c 3 4 := (hid kn_99)
  exact K P Q c_62 0 (by decide) hI_63 ⟨by omega, ub_fr hU (fun j => (hF_64 2 j qn_2ad67e194).trans ((up_c (nn rfl)).trans (hF_7 2 j (fun q => q.elim (fun h => absurd h.1 (nn rfl)) (fun h => absurd h (nn rfl)))))) (fun j => (hF_64 43 j qn_1520ff5e3).trans ((up_c (nn rfl)).trans (hF_7 43 j (fun q => q.elim (fun h => absurd h.1 (nn rfl)) (fun h => absurd h (nn rfl)))))), ⟨by omega, by omega, by omega, by omega⟩, by omega, by omega, iw_fr2 hIw (by omega) (fun j => (hF_64 6 j qn_e1050858a).trans ((up_c (nn rfl)).trans (hF_7 6 j (fun q => q.elim (fun h => absurd h.1 (nn rfl)) (fun h => absurd h (nn rfl)))))) (fun j => (hF_64 66 j qn_5616dd9ce).trans ((up_c (nn rfl)).trans (hF_7 66 j (fun q => q.elim (fun h => absurd h.1 (nn rfl)) (fun h => absurd h (nn rfl))))))⟩

set_option maxRecDepth 100000 in
set_option maxHeartbeats 4000000 in
theorem o_22 {xs : Nat → Int32} {L i0 d nc ns P Q : Nat} {c : ME} {Z : AR → Prop} (hi : i0 + 8 ≤ L) (hL : L ≤ 100000) (hI : Iv 0 (-1) P Q c) (hR : Rq P c) (K : ∀ (P2 Q2 : Nat) (c2 : ME) (e : Nat), e ≤ 1 → Iv 0 (-1) P2 Q2 c2 → (Rq P2 c2) → Wp (a_scr L xs) (d + 90) 296 1816 [(4, vi (i0 : Int)), (3, .ref 67), (2, .ref 41), (1, .ref 0), (0, .ref a_SC)] [] (Wd P2 Q2 P2 P2 c2) (nc + e) (ns + 6 * e) Z) : Wp (a_scr L xs) (d + 90) 296 1091 [(4, vi (i0 : Int)), (3, .ref 67), (2, .ref 41), (1, .ref 0), (0, .ref a_SC)] [] (Wd P Q P P c) nc ns Z := by
  obtain ⟨x1, hx1⟩ : ∃ z, (xs (i0 + 1)).toInt = z := ⟨_, rfl⟩
  have x1r := c_rng (xs (i0 + 1))
  rw [hx1] at x1r
  obtain ⟨x2, hx2⟩ : ∃ z, (xs (i0 + 2)).toInt = z := ⟨_, rfl⟩
  have x2r := c_rng (xs (i0 + 2))
  rw [hx2] at x2r
  obtain ⟨x3, hx3⟩ : ∃ z, (xs (i0 + 3)).toInt = z := ⟨_, rfl⟩
  have x3r := c_rng (xs (i0 + 3))
  rw [hx3] at x3r
  obtain ⟨x4, hx4⟩ : ∃ z, (xs (i0 + 4)).toInt = z := ⟨_, rfl⟩
  have x4r := c_rng (xs (i0 + 4))
  rw [hx4] at x4r
  obtain ⟨x5, hx5⟩ : ∃ z, (xs (i0 + 5)).toInt = z := ⟨_, rfl⟩
  have x5r := c_rng (xs (i0 + 5))
  rw [hx5] at x5r
  obtain ⟨x6, hx6⟩ : ∃ z, (xs (i0 + 6)).toInt = z := ⟨_, rfl⟩
  have x6r := c_rng (xs (i0 + 6))
  rw [hx6] at x6r
  obtain ⟨x7, hx7⟩ : ∃ z, (xs (i0 + 7)).toInt = z := ⟨_, rfl⟩
  have x7r := c_rng (xs (i0 + 7))
  rw [hx7] at x7r
  have hP := iv_P hI
  have hQ := iv_Q hI
  have hT := rl_t hR
  have hU := rl_u hR
  obtain ⟨n0, hn0⟩ : ∃ z, c P 0 = z := ⟨_, rfl⟩
  have hm0 : c 41 20 = n0 := (rl_nums hR).1.symm.trans hn0
  have hr0 := ir_p0_0 hI hP
  rw [hn0] at hr0
  obtain ⟨n1, hn1⟩ : ∃ z, c P 1 = z := ⟨_, rfl⟩
  have hm1 : c 41 21 = n1 := (rl_nums hR).2.1.symm.trans hn1
  have hr1 := ir_p0_1 hI hP
  rw [hn1] at hr1
  obtain ⟨n2, hn2⟩ : ∃ z, c P 2 = z := ⟨_, rfl⟩
  have hm2 : c 41 22 = n2 := (rl_nums hR).2.2.1.symm.trans hn2
  have hr2 := ir_p0_2 hI hP
  rw [hn2] at hr2
  obtain ⟨n3, hn3⟩ : ∃ z, c P 3 = z := ⟨_, rfl⟩
  have hm3 : c 41 23 = n3 := (rl_nums hR).2.2.2.symm.trans hn3
  have hr3 := ir_p0_3 hI hP
  rw [hn3] at hr3
  have hNimg := rl_img hR
  have hNwk := rl_wk hR
  have h_1 := ir_3_4 hI
  have hIw := rl_iw hR
  refine q_aload_n c_296_1091 rfl (q_aload_n c_296_1092 rfl (q_iload c_296_1093 rfl (q_iconst c_296_1095 (v_iadd (v := (i0 : Int) + 1) c_296_1096 rfl (v_scr (j := i0 + 1) c_296_1097 (by omega) (by omega) hL hx1 (q_aload_n c_296_1098 rfl (q_iload c_296_1099 rfl ?_)))))))
  refine q_iconst c_296_1101 (v_iadd (v := (i0 : Int) + 2) c_296_1102 rfl (v_scr (j := i0 + 2) c_296_1103 (by omega) (by omega) hL hx2 (q_aload_n c_296_1104 rfl (q_iload c_296_1105 rfl (q_iconst c_296_1107 (v_iadd (v := (i0 : Int) + 3) c_296_1108 rfl (v_scr (j := i0 + 3) c_296_1109 (by omega) (by omega) hL hx3 ?_)))))))
  refine q_aload_n c_296_1110 rfl (q_iload c_296_1111 rfl (q_iconst c_296_1113 (v_iadd (v := (i0 : Int) + 4) c_296_1114 rfl (v_scr (j := i0 + 4) c_296_1115 (by omega) (by omega) hL hx4 (q_aload_n c_296_1116 rfl (q_call c_296_1117 rfl rfl rfl (q_aload c_282_0 rfl ?_)))))))
  refine q_iconst c_282_2 (q_aload_n c_282_3 rfl (q_iload_n c_282_4 rfl (q_iload_n c_282_5 rfl (q_iload_n c_282_6 rfl (q_iload c_282_7 rfl ?_)))))
  refine v_cv c_282_9 km_9_74 rfl rfl (Nat.le_of_ble_eq_true rfl) ⟨⟨rfl, rfl⟩, Nat.le_of_ble_eq_true rfl, rfl⟩ (Nat.le_of_ble_eq_true rfl) (Nat.le_of_ble_eq_true rfl) (s_134 (a1 := x1) (a2 := x2) (a3 := x3) (a4 := x4) hI (show (-2147483648) ≤ x1 ∧ x1 ≤ 2147483647 from ⟨by omega, by omega⟩) (show (-2147483648) ≤ x2 ∧ x2 ≤ 2147483647 from ⟨by omega, by omega⟩) (show (-2147483648) ≤ x3 ∧ x3 ≤ 2147483647 from ⟨by omega, by omega⟩) (show (-2147483648) ≤ x4 ∧ x4 ≤ 2147483647 from ⟨by omega, by omega⟩) (fun c_2 hI_3 hF_4 => ?_) (fun c_5 y_8 hI_6 hF_7 => ?_))
  · skip
    refine bk_thr (z := Int32.ofInt 1) rfl ⟨_, _, rfl⟩ rfl (bk_inl (q_istore c_296_1120 (Nat.le_of_ble_eq_true rfl) (q_aload_n c_296_1122 rfl (q_aload_n c_296_1123 rfl (q_iload c_296_1124 rfl (q_iconst c_296_1126 (v_iadd (v := (i0 : Int) + 1) c_296_1127 rfl ?_)))))))
    refine v_scr (j := i0 + 1) c_296_1128 (by omega) (by omega) hL hx1 (q_aload_n c_296_1129 rfl (q_iload c_296_1130 rfl (q_iconst c_296_1132 (v_iadd (v := (i0 : Int) + 2) c_296_1133 rfl (v_scr (j := i0 + 2) c_296_1134 (by omega) (by omega) hL hx2 (q_aload_n c_296_1135 rfl (q_iload c_296_1136 rfl ?_)))))))
    refine q_iconst c_296_1138 (v_iadd (v := (i0 : Int) + 3) c_296_1139 rfl (v_scr (j := i0 + 3) c_296_1140 (by omega) (by omega) hL hx3 (q_aload_n c_296_1141 rfl (q_iload c_296_1142 rfl (q_iconst c_296_1144 (v_iadd (v := (i0 : Int) + 4) c_296_1145 rfl (v_scr (j := i0 + 4) c_296_1146 (by omega) (by omega) hL hx4 ?_)))))))
    refine v_cv c_296_1147 km_9_203 rfl rfl (Nat.le_of_ble_eq_true rfl) ⟨⟨rfl, rfl⟩, Nat.le_of_ble_eq_true rfl, rfl⟩ (Nat.le_of_ble_eq_true rfl) (Nat.le_of_ble_eq_true rfl) (s_234 (a1 := x1) (a2 := x2) (a3 := x3) (a4 := x4) hI_3 (show (-2147483648) ≤ x1 ∧ x1 ≤ 2147483647 from ⟨by omega, by omega⟩) (show (-2147483648) ≤ x2 ∧ x2 ≤ 2147483647 from ⟨by omega, by omega⟩) (show (-2147483648) ≤ x3 ∧ x3 ≤ 2147483647 from ⟨by omega, by omega⟩) (show (-2147483648) ≤ x4 ∧ x4 ≤ 2147483647 from ⟨by omega, by omega⟩) (fun c_9 y_12 hI_10 hF_11 => (bk_inl (q_lstore c_296_1150 (by decide) (q_goto (t := 1816) c_296_1152 rfl (Wp_ls [(4, vi (i0 : Int)), (3, .ref 67), (2, .ref 41), (1, .ref 0), (0, .ref a_SC)] (lsub_cons rfl (lsub_cons rfl (lsub_cons rfl (lsub_cons rfl (lsub_cons rfl lsub_nil))))) ?_))))))
    have h_13 := ir_1_3 hI
    have kn_14 : Hid (c_2 1 3 = c 1 3) := hF_4 1 3 (fun h => absurd h.1 (nn rfl))
    have kn_15 : Hid (c_9 1 3 = c 1 3) := (hF_11 1 3 qn_0bb414bab).trans (hid kn_14)
    have h_16 : c_9 1 3 = c 1 3 := (hid kn_15)
    have h_17 := ir_41_2 hI
    have kn_18 : Hid (c_2 41 2 = c 41 2) := hF_4 41 2 (fun h => absurd h.1 (nn rfl))
    have kn_19 : Hid (c_9 41 2 = c 41 2) := (hF_11 41 2 qn_ebfe7b626).trans (hid kn_18)
    have h_20 : c_9 41 2 = c 41 2 := (hid kn_19)
    have kn_21 : Hid (c_2 P 0 = n0) := (hF_4 P 0 (fun h => absurd h.1 (np0 hP rfl))).trans (hn0)
    have kn_22 : Hid (c_9 P 0 = n0) := (hF_11 P 0 (qn_7f38acc6d hP)).trans (hid kn_21)
    have h_23 : c_9 P 0 = n0 := (hid kn_22)
    have kn_24 : Hid (c_2 41 20 = n0) := (hF_4 41 20 (fun h => absurd h.1 (nn rfl))).trans (hm0)
    have kn_25 : Hid (c_9 41 20 = n0) := (hF_11 41 20 qn_cd1179a69).trans (hid kn_24)
    have h_26 : c_9 41 20 = n0 := (hid kn_25)
    have kn_27 : Hid (c_2 P 1 = n1) := (hF_4 P 1 (fun h => absurd h.1 (np0 hP rfl))).trans (hn1)
    have kn_28 : Hid (c_9 P 1 = n1) := (hF_11 P 1 (qn_7f38acc6d hP)).trans (hid kn_27)
    have h_29 : c_9 P 1 = n1 := (hid kn_28)
    have kn_30 : Hid (c_2 41 21 = n1) := (hF_4 41 21 (fun h => absurd h.1 (nn rfl))).trans (hm1)
    have kn_31 : Hid (c_9 41 21 = n1) := (hF_11 41 21 qn_b9279a13b).trans (hid kn_30)
    have h_32 : c_9 41 21 = n1 := (hid kn_31)
    have kn_33 : Hid (c_2 P 2 = n2) := (hF_4 P 2 (fun h => absurd h.1 (np0 hP rfl))).trans (hn2)
    have kn_34 : Hid (c_9 P 2 = n2) := (hF_11 P 2 (qn_7f38acc6d hP)).trans (hid kn_33)
    have h_35 : c_9 P 2 = n2 := (hid kn_34)
    have kn_36 : Hid (c_2 41 22 = n2) := (hF_4 41 22 (fun h => absurd h.1 (nn rfl))).trans (hm2)
    have kn_37 : Hid (c_9 41 22 = n2) := (hF_11 41 22 qn_60858c59b).trans (hid kn_36)
    have h_38 : c_9 41 22 = n2 := (hid kn_37)
    have kn_39 : Hid (c_2 P 3 = n3) := (hF_4 P 3 (fun h => absurd h.1 (np0 hP rfl))).trans (hn3)
    have kn_40 : Hid (c_9 P 3 = n3) := (hF_11 P 3 (qn_7f38acc6d hP)).trans (hid kn_39)
    have h_41 : c_9 P 3 = n3 := (hid kn_40)
    have kn_42 : Hid (c_2 41 23 = n3) := (hF_4 41 23 (fun h => absurd h.1 (nn rfl))).trans (hm3)
    have kn_43 : Hid (c_9 41 23 = n3) := (hF_11 41 23 qn_cac453c9d).trans (hid kn_42)
    have h_44 : c_9 41 23 = n3 := (hid kn_43)
    have kn_45 : Hid (c_2 3 4 = c 3 4) := hF_4 3 4 (fun h => absurd h.1 (nn rfl))
    have kn_46 : Hid (c_9 3 4 = c 3 4) := (hF_11 3 4 qn_43df1dc4f).trans (hid kn_45)
    have h_47 : c_9 3 4 = c 3 4 := (hid kn_46)
    have h_48 := ir_41_52 hI
    have kn_49 : Hid (c_2 41 52 = c 41 52) := hF_4 41 52 (fun h => absurd h.1 (nn rfl))
    have kn_50 : Hid (c_9 41 52 = c 41 52) := (hF_11 41 52 qn_200544fe4).trans (hid kn_49)
    have h_51 : c_9 41 52 = c 41 52 := (hid kn_50)
    have h_52 := ir_3_3 hI
    have kn_53 : Hid (c_2 3 3 = c 3 3) := hF_4 3 3 (fun h => absurd h.1 (nn rfl))
    have kn_54 : Hid (c_9 3 3 = c 3 3) := (hF_11 3 3 qn_43df1dc4f).trans (hid kn_53)
    have h_55 : c_9 3 3 = c 3 3 := (hid kn_54)
    have h_56 := ir_41_35 hI
    have kn_57 : Hid (c_2 41 35 = c 41 35) := hF_4 41 35 (fun h => absurd h.1 (nn rfl))
    have kn_58 : Hid (c_9 41 35 = c 41 35) := (hF_11 41 35 qn_4bede1abc).trans (hid kn_57)
    have h_59 : c_9 41 35 = c 41 35 := (hid kn_58)
    have h_60 : c_9 3 4 = c 3 4 := (hid kn_46)
    exact K P Q c_9 1 (by decide) hI_10 ⟨by omega, ub_fr hU (fun j => (hF_11 2 j qn_43b5cfd28).trans (hF_4 2 j (fun h => absurd h.1 (nn rfl)))) (fun j => (hF_11 43 j qn_6069d5231).trans (hF_4 43 j (fun h => absurd h.1 (nn rfl)))), ⟨by omega, by omega, by omega, by omega⟩, by omega, by omega, iw_fr2 hIw (by omega) (fun j => (hF_11 6 j qn_9a86ee4c1).trans (hF_4 6 j (fun h => absurd h.1 (nn rfl)))) (fun j => (hF_11 66 j qn_208766d82).trans (hF_4 66 j (fun h => absurd h.1 (nn rfl))))⟩
  refine bk_inl (v_ls c_282_12 rfl (by decide) (by decide) (by decide) (q_goto (t := 20) c_282_13 rfl (q_iconst c_282_20 (q_iret c_282_21 rfl (bk_inl (q_istore c_296_1120 (Nat.le_of_ble_eq_true rfl) (q_aload_n c_296_1122 rfl ?_)))))))
  refine q_aload_n c_296_1123 rfl (q_iload c_296_1124 rfl (q_iconst c_296_1126 (v_iadd (v := (i0 : Int) + 1) c_296_1127 rfl (v_scr (j := i0 + 1) c_296_1128 (by omega) (by omega) hL hx1 (q_aload_n c_296_1129 rfl (q_iload c_296_1130 rfl (q_iconst c_296_1132 ?_)))))))
  refine v_iadd (v := (i0 : Int) + 2) c_296_1133 rfl (v_scr (j := i0 + 2) c_296_1134 (by omega) (by omega) hL hx2 (q_aload_n c_296_1135 rfl (q_iload c_296_1136 rfl (q_iconst c_296_1138 (v_iadd (v := (i0 : Int) + 3) c_296_1139 rfl (v_scr (j := i0 + 3) c_296_1140 (by omega) (by omega) hL hx3 (q_aload_n c_296_1141 rfl ?_)))))))
  refine q_iload c_296_1142 rfl (q_iconst c_296_1144 (v_iadd (v := (i0 : Int) + 4) c_296_1145 rfl (v_scr (j := i0 + 4) c_296_1146 (by omega) (by omega) hL hx4 ?_)))
  have hI_61 := iw_lx (a := 67) (j := 0) (v := y_8) hI_6 (by omega)
  refine v_cv c_296_1147 km_9_203 rfl rfl (Nat.le_of_ble_eq_true rfl) ⟨⟨rfl, rfl⟩, Nat.le_of_ble_eq_true rfl, rfl⟩ (Nat.le_of_ble_eq_true rfl) (Nat.le_of_ble_eq_true rfl) (s_234 (a1 := x1) (a2 := x2) (a3 := x3) (a4 := x4) hI_61 (show (-2147483648) ≤ x1 ∧ x1 ≤ 2147483647 from ⟨by omega, by omega⟩) (show (-2147483648) ≤ x2 ∧ x2 ≤ 2147483647 from ⟨by omega, by omega⟩) (show (-2147483648) ≤ x3 ∧ x3 ≤ 2147483647 from ⟨by omega, by omega⟩) (show (-2147483648) ≤ x4 ∧ x4 ≤ 2147483647 from ⟨by omega, by omega⟩) (fun c_62 y_65 hI_63 hF_64 => (bk_inl (q_lstore c_296_1150 (by decide) (q_goto (t := 1816) c_296_1152 rfl (Wp_ls [(4, vi (i0 : Int)), (3, .ref 67), (2, .ref 41), (1, .ref 0), (0, .ref a_SC)] (lsub_cons rfl (lsub_cons rfl (lsub_cons rfl (lsub_cons rfl (lsub_cons rfl lsub_nil))))) ?_))))))
  have h_66 := ir_1_3 hI
  have kn_67 : Hid (c_5 1 3 = c 1 3) := hF_7 1 3 (fun h => absurd h.1 (nn rfl))
  have kn_68 : Hid (c_62 1 3 = c 1 3) := (hF_64 1 3 qn_0bb414bab).trans ((up_c (nn rfl)).trans (hid kn_67))
  have h_69 : c_62 1 3 = c 1 3 := (hid kn_68)
  have h_70 := ir_41_2 hI
  have kn_71 : Hid (c_5 41 2 = c 41 2) := hF_7 41 2 (fun h => absurd h.1 (nn rfl))
  have kn_72 : Hid (c_62 41 2 = c 41 2) := (hF_64 41 2 qn_ebfe7b626).trans ((up_c (nn rfl)).trans (hid kn_71))
  have h_73 : c_62 41 2 = c 41 2 := (hid kn_72)
  have kn_74 : Hid (c_5 P 0 = n0) := (hF_7 P 0 (fun h => absurd h.1 (np0 hP rfl))).trans (hn0)
  have kn_75 : Hid (c_62 P 0 = n0) := (hF_64 P 0 (qn_7f38acc6d hP)).trans ((up_c (np0 hP rfl)).trans (hid kn_74))
  have h_76 : c_62 P 0 = n0 := (hid kn_75)
  have kn_77 : Hid (c_5 41 20 = n0) := (hF_7 41 20 (fun h => absurd h.1 (nn rfl))).trans (hm0)
  have kn_78 : Hid (c_62 41 20 = n0) := (hF_64 41 20 qn_cd1179a69).trans ((up_c (nn rfl)).trans (hid kn_77))
  have h_79 : c_62 41 20 = n0 := (hid kn_78)
  have kn_80 : Hid (c_5 P 1 = n1) := (hF_7 P 1 (fun h => absurd h.1 (np0 hP rfl))).trans (hn1)
  have kn_81 : Hid (c_62 P 1 = n1) := (hF_64 P 1 (qn_7f38acc6d hP)).trans ((up_c (np0 hP rfl)).trans (hid kn_80))
  have h_82 : c_62 P 1 = n1 := (hid kn_81)
  have kn_83 : Hid (c_5 41 21 = n1) := (hF_7 41 21 (fun h => absurd h.1 (nn rfl))).trans (hm1)
  have kn_84 : Hid (c_62 41 21 = n1) := (hF_64 41 21 qn_b9279a13b).trans ((up_c (nn rfl)).trans (hid kn_83))
  have h_85 : c_62 41 21 = n1 := (hid kn_84)
  have kn_86 : Hid (c_5 P 2 = n2) := (hF_7 P 2 (fun h => absurd h.1 (np0 hP rfl))).trans (hn2)
  have kn_87 : Hid (c_62 P 2 = n2) := (hF_64 P 2 (qn_7f38acc6d hP)).trans ((up_c (np0 hP rfl)).trans (hid kn_86))
  have h_88 : c_62 P 2 = n2 := (hid kn_87)
  have kn_89 : Hid (c_5 41 22 = n2) := (hF_7 41 22 (fun h => absurd h.1 (nn rfl))).trans (hm2)
  have kn_90 : Hid (c_62 41 22 = n2) := (hF_64 41 22 qn_60858c59b).trans ((up_c (nn rfl)).trans (hid kn_89))
  have h_91 : c_62 41 22 = n2 := (hid kn_90)
  have kn_92 : Hid (c_5 P 3 = n3) := (hF_7 P 3 (fun h => absurd h.1 (np0 hP rfl))).trans (hn3)
  have kn_93 : Hid (c_62 P 3 = n3) := (hF_64 P 3 (qn_7f38acc6d hP)).trans ((up_c (np0 hP rfl)).trans (hid kn_92))
  have h_94 : c_62 P 3 = n3 := (hid kn_93)
  have kn_95 : Hid (c_5 41 23 = n3) := (hF_7 41 23 (fun h => absurd h.1 (nn rfl))).trans (hm3)
  have kn_96 : Hid (c_62 41 23 = n3) := (hF_64 41 23 qn_cac453c9d).trans ((up_c (nn rfl)).trans (hid kn_95))
  have h_97 : c_62 41 23 = n3 := (hid kn_96)
  have kn_98 : Hid (c_5 3 4 = c 3 4) := hF_7 3 4 (fun h => absurd h.1 (nn rfl))
  have kn_99 : Hid (c_62 3 4 = c 3 4) := (hF_64 3 4 qn_43df1dc4f).trans ((up_c (nn rfl)).trans (hid kn_98))
  have h_100 : c_62 3 4 = c 3 4 := (hid kn_99)
  have h_101 := ir_41_52 hI
  have kn_102 : Hid (c_5 41 52 = c 41 52) := hF_7 41 52 (fun h => absurd h.1 (nn rfl))
  have kn_103 : Hid (c_62 41 52 = c 41 52) := (hF_64 41 52 qn_200544fe4).trans ((up_c (nn rfl)).trans (hid kn_102))
  have h_104 : c_62 41 52 = c 41 52 := (hid kn_103)
  have h_105 := ir_3_3 hI
  have kn_106 : Hid (c_5 3 3 = c 3 3) := hF_7 3 3 (fun h => absurd h.1 (nn rfl))
  have kn_107 : Hid (c_62 3 3 = c 3 3) := (hF_64 3 3 qn_43df1dc4f).trans ((up_c (nn rfl)).trans (hid kn_106))
  have h_108 : c_62 3 3 = c 3 3 := (hid kn_107)
  have h_109 := ir_41_35 hI
  have kn_110 : Hid (c_5 41 35 = c 41 35) := hF_7 41 35 (fun h => absurd h.1 (nn rfl))
  have kn_111 : Hid (c_62 41 35 = c 41 35) := (hF_64 41 35 qn_4bede1abc).trans ((up_c (nn rfl)).trans (hid kn_110))
  have h_112 : c_62 41 35 = c 41 35 := (hid kn_111)
  have h_113 : c_62 3 4 = c 3 4 := (hid kn_99)
  exact K P Q c_62 0 (by decide) hI_63 ⟨by omega, ub_fr hU (fun j => (hF_64 2 j qn_43b5cfd28).trans ((up_c (nn rfl)).trans (hF_7 2 j (fun h => absurd h.1 (nn rfl))))) (fun j => (hF_64 43 j qn_6069d5231).trans ((up_c (nn rfl)).trans (hF_7 43 j (fun h => absurd h.1 (nn rfl))))), ⟨by omega, by omega, by omega, by omega⟩, by omega, by omega, iw_fr2 hIw (by omega) (fun j => (hF_64 6 j qn_9a86ee4c1).trans ((up_c (nn rfl)).trans (hF_7 6 j (fun h => absurd h.1 (nn rfl))))) (fun j => (hF_64 66 j qn_208766d82).trans ((up_c (nn rfl)).trans (hF_7 66 j (fun h => absurd h.1 (nn rfl)))))⟩

set_option maxRecDepth 100000 in
set_option maxHeartbeats 4000000 in
theorem o_23 {xs : Nat → Int32} {L i0 d nc ns P Q : Nat} {c : ME} {Z : AR → Prop} (hi : i0 + 8 ≤ L) (hL : L ≤ 100000) (hI : Iv 0 (-1) P Q c) (hR : Rq P c) (K : ∀ (P2 Q2 : Nat) (c2 : ME) (e : Nat), e ≤ 1 → Iv 0 (-1) P2 Q2 c2 → (Rq P2 c2) → Wp (a_scr L xs) (d + 90) 296 1816 [(4, vi (i0 : Int)), (3, .ref 67), (2, .ref 41), (1, .ref 0), (0, .ref a_SC)] [] (Wd P2 Q2 P2 P2 c2) (nc + e) (ns + 6 * e) Z) : Wp (a_scr L xs) (d + 90) 296 1155 [(4, vi (i0 : Int)), (3, .ref 67), (2, .ref 41), (1, .ref 0), (0, .ref a_SC)] [] (Wd P Q P P c) nc ns Z := by
  obtain ⟨x1, hx1⟩ : ∃ z, (xs (i0 + 1)).toInt = z := ⟨_, rfl⟩
  have x1r := c_rng (xs (i0 + 1))
  rw [hx1] at x1r
  obtain ⟨x2, hx2⟩ : ∃ z, (xs (i0 + 2)).toInt = z := ⟨_, rfl⟩
  have x2r := c_rng (xs (i0 + 2))
  rw [hx2] at x2r
  obtain ⟨x3, hx3⟩ : ∃ z, (xs (i0 + 3)).toInt = z := ⟨_, rfl⟩
  have x3r := c_rng (xs (i0 + 3))
  rw [hx3] at x3r
  obtain ⟨x4, hx4⟩ : ∃ z, (xs (i0 + 4)).toInt = z := ⟨_, rfl⟩
  have x4r := c_rng (xs (i0 + 4))
  rw [hx4] at x4r
  obtain ⟨x5, hx5⟩ : ∃ z, (xs (i0 + 5)).toInt = z := ⟨_, rfl⟩
  have x5r := c_rng (xs (i0 + 5))
  rw [hx5] at x5r
  obtain ⟨x6, hx6⟩ : ∃ z, (xs (i0 + 6)).toInt = z := ⟨_, rfl⟩
  have x6r := c_rng (xs (i0 + 6))
  rw [hx6] at x6r
  obtain ⟨x7, hx7⟩ : ∃ z, (xs (i0 + 7)).toInt = z := ⟨_, rfl⟩
  have x7r := c_rng (xs (i0 + 7))
  rw [hx7] at x7r
  have hP := iv_P hI
  have hQ := iv_Q hI
  have hT := rl_t hR
  have hU := rl_u hR
  obtain ⟨n0, hn0⟩ : ∃ z, c P 0 = z := ⟨_, rfl⟩
  have hm0 : c 41 20 = n0 := (rl_nums hR).1.symm.trans hn0
  have hr0 := ir_p0_0 hI hP
  rw [hn0] at hr0
  obtain ⟨n1, hn1⟩ : ∃ z, c P 1 = z := ⟨_, rfl⟩
  have hm1 : c 41 21 = n1 := (rl_nums hR).2.1.symm.trans hn1
  have hr1 := ir_p0_1 hI hP
  rw [hn1] at hr1
  obtain ⟨n2, hn2⟩ : ∃ z, c P 2 = z := ⟨_, rfl⟩
  have hm2 : c 41 22 = n2 := (rl_nums hR).2.2.1.symm.trans hn2
  have hr2 := ir_p0_2 hI hP
  rw [hn2] at hr2
  obtain ⟨n3, hn3⟩ : ∃ z, c P 3 = z := ⟨_, rfl⟩
  have hm3 : c 41 23 = n3 := (rl_nums hR).2.2.2.symm.trans hn3
  have hr3 := ir_p0_3 hI hP
  rw [hn3] at hr3
  have hNimg := rl_img hR
  have hNwk := rl_wk hR
  have h_1 := ir_3_4 hI
  have hIw := rl_iw hR
  refine q_aload_n c_296_1155 rfl (q_aload_n c_296_1156 rfl (q_iload c_296_1157 rfl (q_iconst c_296_1159 (v_iadd (v := (i0 : Int) + 1) c_296_1160 rfl (v_scr (j := i0 + 1) c_296_1161 (by omega) (by omega) hL hx1 (q_aload_n c_296_1162 rfl (q_iload c_296_1163 rfl ?_)))))))
  refine q_iconst c_296_1165 (v_iadd (v := (i0 : Int) + 2) c_296_1166 rfl (v_scr (j := i0 + 2) c_296_1167 (by omega) (by omega) hL hx2 (q_aload_n c_296_1168 rfl (q_iload c_296_1169 rfl (q_iconst c_296_1171 (v_iadd (v := (i0 : Int) + 3) c_296_1172 rfl (v_scr (j := i0 + 3) c_296_1173 (by omega) (by omega) hL hx3 ?_)))))))
  refine q_aload_n c_296_1174 rfl (q_call c_296_1175 rfl rfl rfl (q_aload c_283_0 rfl (q_iconst c_283_2 (q_aload_n c_283_3 rfl (q_iload_n c_283_4 rfl (q_iload_n c_283_5 rfl (q_iload_n c_283_6 rfl ?_)))))))
  refine v_cv c_283_7 km_9_78 rfl rfl (Nat.le_of_ble_eq_true rfl) ⟨⟨rfl, rfl⟩, Nat.le_of_ble_eq_true rfl, rfl⟩ (Nat.le_of_ble_eq_true rfl) (Nat.le_of_ble_eq_true rfl) (s_136 (a1 := x1) (a2 := x2) (a3 := x3) hI (show (-2147483648) ≤ x1 ∧ x1 ≤ 2147483647 from ⟨by omega, by omega⟩) (show (-2147483648) ≤ x2 ∧ x2 ≤ 2147483647 from ⟨by omega, by omega⟩) (show (-2147483648) ≤ x3 ∧ x3 ≤ 2147483647 from ⟨by omega, by omega⟩) (fun c_2 hI_3 hF_4 => ?_) (fun c_5 y_8 hI_6 hF_7 hy_8 => ?_))
  · skip
    refine bk_thr (z := Int32.ofInt 1) rfl ⟨_, _, rfl⟩ rfl (bk_inl (q_istore c_296_1178 (Nat.le_of_ble_eq_true rfl) (q_aload_n c_296_1180 rfl (q_aload_n c_296_1181 rfl (q_iload c_296_1182 rfl (q_iconst c_296_1184 (v_iadd (v := (i0 : Int) + 1) c_296_1185 rfl ?_)))))))
    refine v_scr (j := i0 + 1) c_296_1186 (by omega) (by omega) hL hx1 (q_aload_n c_296_1187 rfl (q_iload c_296_1188 rfl (q_iconst c_296_1190 (v_iadd (v := (i0 : Int) + 2) c_296_1191 rfl (v_scr (j := i0 + 2) c_296_1192 (by omega) (by omega) hL hx2 (q_aload_n c_296_1193 rfl (q_iload c_296_1194 rfl ?_)))))))
    refine q_iconst c_296_1196 (v_iadd (v := (i0 : Int) + 3) c_296_1197 rfl (v_scr (j := i0 + 3) c_296_1198 (by omega) (by omega) hL hx3 (v_cv c_296_1199 km_9_206 rfl rfl (Nat.le_of_ble_eq_true rfl) ⟨⟨rfl, rfl⟩, Nat.le_of_ble_eq_true rfl, rfl⟩ (Nat.le_of_ble_eq_true rfl) (Nat.le_of_ble_eq_true rfl) (s_236 (a1 := x1) (a2 := x2) (a3 := x3) hI_3 (show (-2147483648) ≤ x1 ∧ x1 ≤ 2147483647 from ⟨by omega, by omega⟩) (show (-2147483648) ≤ x2 ∧ x2 ≤ 2147483647 from ⟨by omega, by omega⟩) (show (-2147483648) ≤ x3 ∧ x3 ≤ 2147483647 from ⟨by omega, by omega⟩) (fun c_9 y_12 hI_10 hF_11 hy_12 => (bk_inl (q_istore c_296_1202 (Nat.le_of_ble_eq_true rfl) (q_goto (t := 1816) c_296_1204 rfl (Wp_ls [(4, vi (i0 : Int)), (3, .ref 67), (2, .ref 41), (1, .ref 0), (0, .ref a_SC)] (lsub_cons rfl (lsub_cons rfl (lsub_cons rfl (lsub_cons rfl (lsub_cons rfl lsub_nil))))) ?_)))))))))
    have h_13 := ir_1_3 hI
    have kn_14 : Hid (c_2 1 3 = c 1 3) := hF_4 1 3 (fun h => absurd h.1 (nn rfl))
    have kn_15 : Hid (c_9 1 3 = c 1 3) := (hF_11 1 3 (fun q => q.elim (fun h => absurd h.1 (nn rfl)) (fun h => absurd h (nn rfl)))).trans (hid kn_14)
    have h_16 : c_9 1 3 = c 1 3 := (hid kn_15)
    have h_17 := ir_41_2 hI
    have kn_18 : Hid (c_2 41 2 = c 41 2) := hF_4 41 2 (fun h => absurd h.1 (nn rfl))
    have kn_19 : Hid (c_9 41 2 = c 41 2) := (hF_11 41 2 (fun q => q.elim (fun h => absurd h.2 (ni rfl)) (fun h => absurd h (nn rfl)))).trans (hid kn_18)
    have h_20 : c_9 41 2 = c 41 2 := (hid kn_19)
    have kn_21 : Hid (c_2 P 0 = n0) := (hF_4 P 0 (fun h => absurd h.1 (np0 hP rfl))).trans (hn0)
    have kn_22 : Hid (c_9 P 0 = n0) := (hF_11 P 0 (qn_753ab1e1a hP)).trans (hid kn_21)
    have h_23 : c_9 P 0 = n0 := (hid kn_22)
    have kn_24 : Hid (c_2 41 20 = n0) := (hF_4 41 20 (fun h => absurd h.1 (nn rfl))).trans (hm0)
    have kn_25 : Hid (c_9 41 20 = n0) := (hF_11 41 20 (fun q => q.elim (fun h => absurd h.2 (ni rfl)) (fun h => absurd h (nn rfl)))).trans (hid kn_24)
    have h_26 : c_9 41 20 = n0 := (hid kn_25)
    have kn_27 : Hid (c_2 P 1 = n1) := (hF_4 P 1 (fun h => absurd h.1 (np0 hP rfl))).trans (hn1)
    have kn_28 : Hid (c_9 P 1 = n1) := (hF_11 P 1 (qn_753ab1e1a hP)).trans (hid kn_27)
    have h_29 : c_9 P 1 = n1 := (hid kn_28)
    have kn_30 : Hid (c_2 41 21 = n1) := (hF_4 41 21 (fun h => absurd h.1 (nn rfl))).trans (hm1)
    have kn_31 : Hid (c_9 41 21 = n1) := (hF_11 41 21 (fun q => q.elim (fun h => absurd h.2 (ni rfl)) (fun h => absurd h (nn rfl)))).trans (hid kn_30)
    have h_32 : c_9 41 21 = n1 := (hid kn_31)
    have kn_33 : Hid (c_2 P 2 = n2) := (hF_4 P 2 (fun h => absurd h.1 (np0 hP rfl))).trans (hn2)
    have kn_34 : Hid (c_9 P 2 = n2) := (hF_11 P 2 (qn_753ab1e1a hP)).trans (hid kn_33)
    have h_35 : c_9 P 2 = n2 := (hid kn_34)
    have kn_36 : Hid (c_2 41 22 = n2) := (hF_4 41 22 (fun h => absurd h.1 (nn rfl))).trans (hm2)
    have kn_37 : Hid (c_9 41 22 = n2) := (hF_11 41 22 (fun q => q.elim (fun h => absurd h.2 (ni rfl)) (fun h => absurd h (nn rfl)))).trans (hid kn_36)
    have h_38 : c_9 41 22 = n2 := (hid kn_37)
    have kn_39 : Hid (c_2 P 3 = n3) := (hF_4 P 3 (fun h => absurd h.1 (np0 hP rfl))).trans (hn3)
    have kn_40 : Hid (c_9 P 3 = n3) := (hF_11 P 3 (qn_753ab1e1a hP)).trans (hid kn_39)
    have h_41 : c_9 P 3 = n3 := (hid kn_40)
    have kn_42 : Hid (c_2 41 23 = n3) := (hF_4 41 23 (fun h => absurd h.1 (nn rfl))).trans (hm3)
    have kn_43 : Hid (c_9 41 23 = n3) := (hF_11 41 23 (fun q => q.elim (fun h => absurd h.2 (ni rfl)) (fun h => absurd h (nn rfl)))).trans (hid kn_42)
    have h_44 : c_9 41 23 = n3 := (hid kn_43)
    have kn_45 : Hid (c_2 3 4 = c 3 4) := hF_4 3 4 (fun h => absurd h.1 (nn rfl))
    have kn_46 : Hid (c_9 3 4 = c 3 4) := (hF_11 3 4 (fun q => q.elim (fun h => absurd h.1 (nn rfl)) (fun h => absurd h (nn rfl)))).trans (hid kn_45)
    have h_47 : c_9 3 4 = c 3 4 := (hid kn_46)
    have h_48 := ir_41_52 hI
    have kn_49 : Hid (c_2 41 52 = c 41 52) := hF_4 41 52 (fun h => absurd h.1 (nn rfl))
    have kn_50 : Hid (c_9 41 52 = c 41 52) := (hF_11 41 52 (fun q => q.elim (fun h => absurd h.2 (ni rfl)) (fun h => absurd h (nn rfl)))).trans (hid kn_49)
    have h_51 : c_9 41 52 = c 41 52 := (hid kn_50)
    have h_52 := ir_3_3 hI
    have kn_53 : Hid (c_2 3 3 = c 3 3) := hF_4 3 3 (fun h => absurd h.1 (nn rfl))
    have kn_54 : Hid (c_9 3 3 = c 3 3) := (hF_11 3 3 (fun q => q.elim (fun h => absurd h.1 (nn rfl)) (fun h => absurd h (nn rfl)))).trans (hid kn_53)
    have h_55 : c_9 3 3 = c 3 3 := (hid kn_54)
    have h_56 := ir_41_35 hI
    have kn_57 : Hid (c_2 41 35 = c 41 35) := hF_4 41 35 (fun h => absurd h.1 (nn rfl))
    have kn_58 : Hid (c_9 41 35 = c 41 35) := (hF_11 41 35 (fun q => q.elim (fun h => absurd h.2 (ni rfl)) (fun h => absurd h (nn rfl)))).trans (hid kn_57)
    have h_59 : c_9 41 35 = c 41 35 := (hid kn_58)
    have h_60 : c_9 3 4 = c 3 4 := (hid kn_46)
    exact K P Q c_9 1 (by decide) hI_10 ⟨by omega, ub_fr hU (fun j => (hF_11 2 j (fun q => q.elim (fun h => absurd h.1 (nn rfl)) (fun h => absurd h (nn rfl)))).trans (hF_4 2 j (fun h => absurd h.1 (nn rfl)))) (fun j => (hF_11 43 j (fun q => q.elim (fun h => absurd h.1 (nn rfl)) (fun h => absurd h (nn rfl)))).trans (hF_4 43 j (fun h => absurd h.1 (nn rfl)))), ⟨by omega, by omega, by omega, by omega⟩, by omega, by omega, iw_fr2 hIw (by omega) (fun j => (hF_11 6 j (fun q => q.elim (fun h => absurd h.1 (nn rfl)) (fun h => absurd h (nn rfl)))).trans (hF_4 6 j (fun h => absurd h.1 (nn rfl)))) (fun j => (hF_11 66 j (fun q => q.elim (fun h => absurd h.1 (nn rfl)) (fun h => absurd h (nn rfl)))).trans (hF_4 66 j (fun h => absurd h.1 (nn rfl))))⟩
  refine bk_inl (v_i2l c_283_10 (by omega) (v_ls c_283_11 rfl (by decide) (by decide) (by decide) (q_goto (t := 19) c_283_12 rfl (q_iconst c_283_19 (q_iret c_283_20 rfl (bk_inl (q_istore c_296_1178 (Nat.le_of_ble_eq_true rfl) ?_)))))))
  refine q_aload_n c_296_1180 rfl (q_aload_n c_296_1181 rfl (q_iload c_296_1182 rfl (q_iconst c_296_1184 (v_iadd (v := (i0 : Int) + 1) c_296_1185 rfl (v_scr (j := i0 + 1) c_296_1186 (by omega) (by omega) hL hx1 (q_aload_n c_296_1187 rfl (q_iload c_296_1188 rfl ?_)))))))
  refine q_iconst c_296_1190 (v_iadd (v := (i0 : Int) + 2) c_296_1191 rfl (v_scr (j := i0 + 2) c_296_1192 (by omega) (by omega) hL hx2 (q_aload_n c_296_1193 rfl (q_iload c_296_1194 rfl (q_iconst c_296_1196 (v_iadd (v := (i0 : Int) + 3) c_296_1197 rfl (v_scr (j := i0 + 3) c_296_1198 (by omega) (by omega) hL hx3 ?_)))))))
  have hI_61 := iw_lx (a := 67) (j := 0) (v := y_8) hI_6 (by omega)
  refine v_cv c_296_1199 km_9_206 rfl rfl (Nat.le_of_ble_eq_true rfl) ⟨⟨rfl, rfl⟩, Nat.le_of_ble_eq_true rfl, rfl⟩ (Nat.le_of_ble_eq_true rfl) (Nat.le_of_ble_eq_true rfl) (s_236 (a1 := x1) (a2 := x2) (a3 := x3) hI_61 (show (-2147483648) ≤ x1 ∧ x1 ≤ 2147483647 from ⟨by omega, by omega⟩) (show (-2147483648) ≤ x2 ∧ x2 ≤ 2147483647 from ⟨by omega, by omega⟩) (show (-2147483648) ≤ x3 ∧ x3 ≤ 2147483647 from ⟨by omega, by omega⟩) (fun c_62 y_65 hI_63 hF_64 hy_65 => (bk_inl (q_istore c_296_1202 (Nat.le_of_ble_eq_true rfl) (q_goto (t := 1816) c_296_1204 rfl (Wp_ls [(4, vi (i0 : Int)), (3, .ref 67), (2, .ref 41), (1, .ref 0), (0, .ref a_SC)] (lsub_cons rfl (lsub_cons rfl (lsub_cons rfl (lsub_cons rfl (lsub_cons rfl lsub_nil))))) ?_))))))
  have h_66 := ir_1_3 hI
  have kn_67 : Hid (c_5 1 3 = c 1 3) := hF_7 1 3 (fun h => absurd h.1 (nn rfl))
  have kn_68 : Hid (c_62 1 3 = c 1 3) := (hF_64 1 3 (fun q => q.elim (fun h => absurd h.1 (nn rfl)) (fun h => absurd h (nn rfl)))).trans ((up_c (nn rfl)).trans (hid kn_67))
  have h_69 : c_62 1 3 = c 1 3 := (hid kn_68)
  have h_70 := ir_41_2 hI
  have kn_71 : Hid (c_5 41 2 = c 41 2) := hF_7 41 2 (fun h => absurd h.1 (nn rfl))
  have kn_72 : Hid (c_62 41 2 = c 41 2) := (hF_64 41 2 (fun q => q.elim (fun h => absurd h.2 (ni rfl)) (fun h => absurd h (nn rfl)))).trans ((up_c (nn rfl)).trans (hid kn_71))
  have h_73 : c_62 41 2 = c 41 2 := (hid kn_72)
  have kn_74 : Hid (c_5 P 0 = n0) := (hF_7 P 0 (fun h => absurd h.1 (np0 hP rfl))).trans (hn0)
  have kn_75 : Hid (c_62 P 0 = n0) := (hF_64 P 0 (qn_753ab1e1a hP)).trans ((up_c (np0 hP rfl)).trans (hid kn_74))
  have h_76 : c_62 P 0 = n0 := (hid kn_75)
  have kn_77 : Hid (c_5 41 20 = n0) := (hF_7 41 20 (fun h => absurd h.1 (nn rfl))).trans (hm0)
  have kn_78 : Hid (c_62 41 20 = n0) := (hF_64 41 20 (fun q => q.elim (fun h => absurd h.2 (ni rfl)) (fun h => absurd h (nn rfl)))).trans ((up_c (nn rfl)).trans (hid kn_77))
  have h_79 : c_62 41 20 = n0 := (hid kn_78)
  have kn_80 : Hid (c_5 P 1 = n1) := (hF_7 P 1 (fun h => absurd h.1 (np0 hP rfl))).trans (hn1)
  have kn_81 : Hid (c_62 P 1 = n1) := (hF_64 P 1 (qn_753ab1e1a hP)).trans ((up_c (np0 hP rfl)).trans (hid kn_80))
  have h_82 : c_62 P 1 = n1 := (hid kn_81)
  have kn_83 : Hid (c_5 41 21 = n1) := (hF_7 41 21 (fun h => absurd h.1 (nn rfl))).trans (hm1)
  have kn_84 : Hid (c_62 41 21 = n1) := (hF_64 41 21 (fun q => q.elim (fun h => absurd h.2 (ni rfl)) (fun h => absurd h (nn rfl)))).trans ((up_c (nn rfl)).trans (hid kn_83))
  have h_85 : c_62 41 21 = n1 := (hid kn_84)
  have kn_86 : Hid (c_5 P 2 = n2) := (hF_7 P 2 (fun h => absurd h.1 (np0 hP rfl))).trans (hn2)
  have kn_87 : Hid (c_62 P 2 = n2) := (hF_64 P 2 (qn_753ab1e1a hP)).trans ((up_c (np0 hP rfl)).trans (hid kn_86))
  have h_88 : c_62 P 2 = n2 := (hid kn_87)
  have kn_89 : Hid (c_5 41 22 = n2) := (hF_7 41 22 (fun h => absurd h.1 (nn rfl))).trans (hm2)
  have kn_90 : Hid (c_62 41 22 = n2) := (hF_64 41 22 (fun q => q.elim (fun h => absurd h.2 (ni rfl)) (fun h => absurd h (nn rfl)))).trans ((up_c (nn rfl)).trans (hid kn_89))
  have h_91 : c_62 41 22 = n2 := (hid kn_90)
  have kn_92 : Hid (c_5 P 3 = n3) := (hF_7 P 3 (fun h => absurd h.1 (np0 hP rfl))).trans (hn3)
  have kn_93 : Hid (c_62 P 3 = n3) := (hF_64 P 3 (qn_753ab1e1a hP)).trans ((up_c (np0 hP rfl)).trans (hid kn_92))
  have h_94 : c_62 P 3 = n3 := (hid kn_93)
  have kn_95 : Hid (c_5 41 23 = n3) := (hF_7 41 23 (fun h => absurd h.1 (nn rfl))).trans (hm3)
  have kn_96 : Hid (c_62 41 23 = n3) := (hF_64 41 23 (fun q => q.elim (fun h => absurd h.2 (ni rfl)) (fun h => absurd h (nn rfl)))).trans ((up_c (nn rfl)).trans (hid kn_95))
  have h_97 : c_62 41 23 = n3 := (hid kn_96)
  have kn_98 : Hid (c_5 3 4 = c 3 4) := hF_7 3 4 (fun h => absurd h.1 (nn rfl))
  have kn_99 : Hid (c_62 3 4 = c 3 4) := (hF_64 3 4 (fun q => q.elim (fun h => absurd h.1 (nn rfl)) (fun h => absurd h (nn rfl)))).trans ((up_c (nn rfl)).trans (hid kn_98))
  have h_100 : c_62 3 4 = c 3 4 := (hid kn_99)
  have h_101 := ir_41_52 hI
  have kn_102 : Hid (c_5 41 52 = c 41 52) := hF_7 41 52 (fun h => absurd h.1 (nn rfl))
  have kn_103 : Hid (c_62 41 52 = c 41 52) := (hF_64 41 52 (fun q => q.elim (fun h => absurd h.2 (ni rfl)) (fun h => absurd h (nn rfl)))).trans ((up_c (nn rfl)).trans (hid kn_102))
  have h_104 : c_62 41 52 = c 41 52 := (hid kn_103)
  have h_105 := ir_3_3 hI
  have kn_106 : Hid (c_5 3 3 = c 3 3) := hF_7 3 3 (fun h => absurd h.1 (nn rfl))
  have kn_107 : Hid (c_62 3 3 = c 3 3) := (hF_64 3 3 (fun q => q.elim (fun h => absurd h.1 (nn rfl)) (fun h => absurd h (nn rfl)))).trans ((up_c (nn rfl)).trans (hid kn_106))
  have h_108 : c_62 3 3 = c 3 3 := (hid kn_107)
  have h_109 := ir_41_35 hI
  have kn_110 : Hid (c_5 41 35 = c 41 35) := hF_7 41 35 (fun h => absurd h.1 (nn rfl))
  have kn_111 : Hid (c_62 41 35 = c 41 35) := (hF_64 41 35 (fun q => q.elim (fun h => absurd h.2 (ni rfl)) (fun h => absurd h (nn rfl)))).trans ((up_c (nn rfl)).trans (hid kn_110))
  have h_112 : c_62 41 35 = c 41 35 := (hid kn_111)
  have h_113 : c_62 3 4 = c 3 4 := (hid kn_99)
  exact K P Q c_62 0 (by decide) hI_63 ⟨by omega, ub_fr hU (fun j => (hF_64 2 j (fun q => q.elim (fun h => absurd h.1 (nn rfl)) (fun h => absurd h (nn rfl)))).trans ((up_c (nn rfl)).trans (hF_7 2 j (fun h => absurd h.1 (nn rfl))))) (fun j => (hF_64 43 j (fun q => q.elim (fun h => absurd h.1 (nn rfl)) (fun h => absurd h (nn rfl)))).trans ((up_c (nn rfl)).trans (hF_7 43 j (fun h => absurd h.1 (nn rfl))))), ⟨by omega, by omega, by omega, by omega⟩, by omega, by omega, iw_fr2 hIw (by omega) (fun j => (hF_64 6 j (fun q => q.elim (fun h => absurd h.1 (nn rfl)) (fun h => absurd h (nn rfl)))).trans ((up_c (nn rfl)).trans (hF_7 6 j (fun h => absurd h.1 (nn rfl))))) (fun j => (hF_64 66 j (fun q => q.elim (fun h => absurd h.1 (nn rfl)) (fun h => absurd h (nn rfl)))).trans ((up_c (nn rfl)).trans (hF_7 66 j (fun h => absurd h.1 (nn rfl)))))⟩

set_option maxRecDepth 100000 in
set_option maxHeartbeats 4000000 in
theorem o_24 {xs : Nat → Int32} {L i0 d nc ns P Q : Nat} {c : ME} {Z : AR → Prop} (hi : i0 + 8 ≤ L) (hL : L ≤ 100000) (hI : Iv 0 (-1) P Q c) (hR : Rq P c) (K : ∀ (P2 Q2 : Nat) (c2 : ME) (e : Nat), e ≤ 1 → Iv 0 (-1) P2 Q2 c2 → (Rq P2 c2) → Wp (a_scr L xs) (d + 90) 296 1816 [(4, vi (i0 : Int)), (3, .ref 67), (2, .ref 41), (1, .ref 0), (0, .ref a_SC)] [] (Wd P2 Q2 P2 P2 c2) (nc + e) (ns + 6 * e) Z) : Wp (a_scr L xs) (d + 90) 296 1207 [(4, vi (i0 : Int)), (3, .ref 67), (2, .ref 41), (1, .ref 0), (0, .ref a_SC)] [] (Wd P Q P P c) nc ns Z := by
  obtain ⟨x1, hx1⟩ : ∃ z, (xs (i0 + 1)).toInt = z := ⟨_, rfl⟩
  have x1r := c_rng (xs (i0 + 1))
  rw [hx1] at x1r
  obtain ⟨x2, hx2⟩ : ∃ z, (xs (i0 + 2)).toInt = z := ⟨_, rfl⟩
  have x2r := c_rng (xs (i0 + 2))
  rw [hx2] at x2r
  obtain ⟨x3, hx3⟩ : ∃ z, (xs (i0 + 3)).toInt = z := ⟨_, rfl⟩
  have x3r := c_rng (xs (i0 + 3))
  rw [hx3] at x3r
  obtain ⟨x4, hx4⟩ : ∃ z, (xs (i0 + 4)).toInt = z := ⟨_, rfl⟩
  have x4r := c_rng (xs (i0 + 4))
  rw [hx4] at x4r
  obtain ⟨x5, hx5⟩ : ∃ z, (xs (i0 + 5)).toInt = z := ⟨_, rfl⟩
  have x5r := c_rng (xs (i0 + 5))
  rw [hx5] at x5r
  obtain ⟨x6, hx6⟩ : ∃ z, (xs (i0 + 6)).toInt = z := ⟨_, rfl⟩
  have x6r := c_rng (xs (i0 + 6))
  rw [hx6] at x6r
  obtain ⟨x7, hx7⟩ : ∃ z, (xs (i0 + 7)).toInt = z := ⟨_, rfl⟩
  have x7r := c_rng (xs (i0 + 7))
  rw [hx7] at x7r
  have hP := iv_P hI
  have hQ := iv_Q hI
  have hT := rl_t hR
  have hU := rl_u hR
  obtain ⟨n0, hn0⟩ : ∃ z, c P 0 = z := ⟨_, rfl⟩
  have hm0 : c 41 20 = n0 := (rl_nums hR).1.symm.trans hn0
  have hr0 := ir_p0_0 hI hP
  rw [hn0] at hr0
  obtain ⟨n1, hn1⟩ : ∃ z, c P 1 = z := ⟨_, rfl⟩
  have hm1 : c 41 21 = n1 := (rl_nums hR).2.1.symm.trans hn1
  have hr1 := ir_p0_1 hI hP
  rw [hn1] at hr1
  obtain ⟨n2, hn2⟩ : ∃ z, c P 2 = z := ⟨_, rfl⟩
  have hm2 : c 41 22 = n2 := (rl_nums hR).2.2.1.symm.trans hn2
  have hr2 := ir_p0_2 hI hP
  rw [hn2] at hr2
  obtain ⟨n3, hn3⟩ : ∃ z, c P 3 = z := ⟨_, rfl⟩
  have hm3 : c 41 23 = n3 := (rl_nums hR).2.2.2.symm.trans hn3
  have hr3 := ir_p0_3 hI hP
  rw [hn3] at hr3
  have hNimg := rl_img hR
  have hNwk := rl_wk hR
  have h_1 := ir_3_4 hI
  have hIw := rl_iw hR
  refine q_aload_n c_296_1207 rfl (q_aload_n c_296_1208 rfl (q_iload c_296_1209 rfl (q_iconst c_296_1211 (v_iadd (v := (i0 : Int) + 1) c_296_1212 rfl (v_scr (j := i0 + 1) c_296_1213 (by omega) (by omega) hL hx1 (q_aload_n c_296_1214 rfl (q_iload c_296_1215 rfl ?_)))))))
  refine q_iconst c_296_1217 (v_iadd (v := (i0 : Int) + 2) c_296_1218 rfl (v_scr (j := i0 + 2) c_296_1219 (by omega) (by omega) hL hx2 (q_aload_n c_296_1220 rfl (q_iload c_296_1221 rfl (q_iconst c_296_1223 (v_iadd (v := (i0 : Int) + 3) c_296_1224 rfl (v_scr (j := i0 + 3) c_296_1225 (by omega) (by omega) hL hx3 ?_)))))))
  refine q_aload_n c_296_1226 rfl (q_call c_296_1227 rfl rfl rfl (q_aload c_284_0 rfl (q_iconst c_284_2 (q_aload_n c_284_3 rfl (q_iload_n c_284_4 rfl (q_iload_n c_284_5 rfl (q_iload_n c_284_6 rfl ?_)))))))
  refine v_cv c_284_7 km_9_81 rfl rfl (Nat.le_of_ble_eq_true rfl) ⟨⟨rfl, rfl⟩, Nat.le_of_ble_eq_true rfl, rfl⟩ (Nat.le_of_ble_eq_true rfl) (Nat.le_of_ble_eq_true rfl) (s_125 (a1 := x1) (a2 := x2) (a3 := x3) hI (show (-2147483648) ≤ x1 ∧ x1 ≤ 2147483647 from ⟨by omega, by omega⟩) (show (-2147483648) ≤ x2 ∧ x2 ≤ 2147483647 from ⟨by omega, by omega⟩) (show (-2147483648) ≤ x3 ∧ x3 ≤ 2147483647 from ⟨by omega, by omega⟩) (fun c_2 hI_3 hF_4 => ?_) (fun c_5 hI_6 hF_7 => ?_) (fun c_8 y_11 hI_9 hF_10 hy_11 => ?_))
  · skip
    refine bk_thr (z := Int32.ofInt 1) rfl ⟨_, _, rfl⟩ rfl (bk_inl (q_istore c_296_1230 (Nat.le_of_ble_eq_true rfl) (q_aload_n c_296_1232 rfl (q_aload_n c_296_1233 rfl (q_iload c_296_1234 rfl (q_iconst c_296_1236 (v_iadd (v := (i0 : Int) + 1) c_296_1237 rfl ?_)))))))
    refine v_scr (j := i0 + 1) c_296_1238 (by omega) (by omega) hL hx1 (q_aload_n c_296_1239 rfl (q_iload c_296_1240 rfl (q_iconst c_296_1242 (v_iadd (v := (i0 : Int) + 2) c_296_1243 rfl (v_scr (j := i0 + 2) c_296_1244 (by omega) (by omega) hL hx2 (q_aload_n c_296_1245 rfl (q_iload c_296_1246 rfl ?_)))))))
    refine q_iconst c_296_1248 (v_iadd (v := (i0 : Int) + 3) c_296_1249 rfl (v_scr (j := i0 + 3) c_296_1250 (by omega) (by omega) hL hx3 (v_cv c_296_1251 km_9_209 rfl rfl (Nat.le_of_ble_eq_true rfl) ⟨⟨rfl, rfl⟩, Nat.le_of_ble_eq_true rfl, rfl⟩ (Nat.le_of_ble_eq_true rfl) (Nat.le_of_ble_eq_true rfl) (s_239 (a1 := x1) (a2 := x2) (a3 := x3) hI_3 (show (-2147483648) ≤ x1 ∧ x1 ≤ 2147483647 from ⟨by omega, by omega⟩) (show (-2147483648) ≤ x2 ∧ x2 ≤ 2147483647 from ⟨by omega, by omega⟩) (show (-2147483648) ≤ x3 ∧ x3 ≤ 2147483647 from ⟨by omega, by omega⟩) (fun c_12 y_15 hI_13 hF_14 hy_15 => (bk_inl (q_istore c_296_1254 (Nat.le_of_ble_eq_true rfl) (q_goto (t := 1816) c_296_1256 rfl (Wp_ls [(4, vi (i0 : Int)), (3, .ref 67), (2, .ref 41), (1, .ref 0), (0, .ref a_SC)] (lsub_cons rfl (lsub_cons rfl (lsub_cons rfl (lsub_cons rfl (lsub_cons rfl lsub_nil))))) ?_)))))))))
    have h_16 := ir_1_3 hI
    have kn_17 : Hid (c_2 1 3 = c 1 3) := hF_4 1 3 (fun q => q.elim (fun h => absurd h.1 (nn rfl)) (fun h => absurd h.1 (nn rfl)))
    have kn_18 : Hid (c_12 1 3 = c 1 3) := (hF_14 1 3 qn_39cd18c3e).trans (hid kn_17)
    have h_19 : c_12 1 3 = c 1 3 := (hid kn_18)
    have h_20 := ir_41_2 hI
    have kn_21 : Hid (c_2 41 2 = c 41 2) := hF_4 41 2 (fun q => q.elim (fun h => absurd h.1 (nn rfl)) (fun h => absurd h.1 (nn rfl)))
    have kn_22 : Hid (c_12 41 2 = c 41 2) := (hF_14 41 2 qn_53bdb2099).trans (hid kn_21)
    have h_23 : c_12 41 2 = c 41 2 := (hid kn_22)
    have kn_24 : Hid (c_2 P 0 = n0) := (hF_4 P 0 (qn_7ba88e57e hP)).trans (hn0)
    have kn_25 : Hid (c_12 P 0 = n0) := (hF_14 P 0 (qn_857752076 hP)).trans (hid kn_24)
    have h_26 : c_12 P 0 = n0 := (hid kn_25)
    have kn_27 : Hid (c_2 41 20 = n0) := (hF_4 41 20 (fun q => q.elim (fun h => absurd h.1 (nn rfl)) (fun h => absurd h.1 (nn rfl)))).trans (hm0)
    have kn_28 : Hid (c_12 41 20 = n0) := (hF_14 41 20 qn_110b29ed6).trans (hid kn_27)
    have h_29 : c_12 41 20 = n0 := (hid kn_28)
    have kn_30 : Hid (c_2 P 1 = n1) := (hF_4 P 1 (qn_7ba88e57e hP)).trans (hn1)
    have kn_31 : Hid (c_12 P 1 = n1) := (hF_14 P 1 (qn_857752076 hP)).trans (hid kn_30)
    have h_32 : c_12 P 1 = n1 := (hid kn_31)
    have kn_33 : Hid (c_2 41 21 = n1) := (hF_4 41 21 (fun q => q.elim (fun h => absurd h.1 (nn rfl)) (fun h => absurd h.1 (nn rfl)))).trans (hm1)
    have kn_34 : Hid (c_12 41 21 = n1) := (hF_14 41 21 qn_561064c41).trans (hid kn_33)
    have h_35 : c_12 41 21 = n1 := (hid kn_34)
    have kn_36 : Hid (c_2 P 2 = n2) := (hF_4 P 2 (qn_7ba88e57e hP)).trans (hn2)
    have kn_37 : Hid (c_12 P 2 = n2) := (hF_14 P 2 (qn_857752076 hP)).trans (hid kn_36)
    have h_38 : c_12 P 2 = n2 := (hid kn_37)
    have kn_39 : Hid (c_2 41 22 = n2) := (hF_4 41 22 (fun q => q.elim (fun h => absurd h.1 (nn rfl)) (fun h => absurd h.1 (nn rfl)))).trans (hm2)
    have kn_40 : Hid (c_12 41 22 = n2) := (hF_14 41 22 qn_1a460b46b).trans (hid kn_39)
    have h_41 : c_12 41 22 = n2 := (hid kn_40)
    have kn_42 : Hid (c_2 P 3 = n3) := (hF_4 P 3 (qn_7ba88e57e hP)).trans (hn3)
    have kn_43 : Hid (c_12 P 3 = n3) := (hF_14 P 3 (qn_857752076 hP)).trans (hid kn_42)
    have h_44 : c_12 P 3 = n3 := (hid kn_43)
    have kn_45 : Hid (c_2 41 23 = n3) := (hF_4 41 23 (fun q => q.elim (fun h => absurd h.1 (nn rfl)) (fun h => absurd h.1 (nn rfl)))).trans (hm3)
    have kn_46 : Hid (c_12 41 23 = n3) := (hF_14 41 23 qn_b79f282cd).trans (hid kn_45)
    have h_47 : c_12 41 23 = n3 := (hid kn_46)
    have kn_48 : Hid (c_2 3 4 = c 3 4) := hF_4 3 4 (fun q => q.elim (fun h => absurd h.1 (nn rfl)) (fun h => absurd h.1 (nn rfl)))
    have kn_49 : Hid (c_12 3 4 = c 3 4) := (hF_14 3 4 qn_bf2303cc8).trans (hid kn_48)
    have h_50 : c_12 3 4 = c 3 4 := (hid kn_49)
    have h_51 := ir_41_52 hI
    have kn_52 : Hid (c_2 41 52 = c 41 52) := hF_4 41 52 (fun q => q.elim (fun h => absurd h.1 (nn rfl)) (fun h => absurd h.1 (nn rfl)))
    have kn_53 : Hid (c_12 41 52 = c 41 52) := (hF_14 41 52 qn_90835161a).trans (hid kn_52)
    have h_54 : c_12 41 52 = c 41 52 := (hid kn_53)
    have h_55 := ir_3_3 hI
    have kn_56 : Hid (c_2 3 3 = c 3 3) := hF_4 3 3 (fun q => q.elim (fun h => absurd h.1 (nn rfl)) (fun h => absurd h.1 (nn rfl)))
    have kn_57 : Hid (c_12 3 3 = c 3 3) := (hF_14 3 3 qn_bf2303cc8).trans (hid kn_56)
    have h_58 : c_12 3 3 = c 3 3 := (hid kn_57)
    have h_59 := ir_41_35 hI
    have kn_60 : Hid (c_2 41 35 = c 41 35) := hF_4 41 35 (fun q => q.elim (fun h => absurd h.1 (nn rfl)) (fun h => absurd h.1 (nn rfl)))
    have kn_61 : Hid (c_12 41 35 = c 41 35) := (hF_14 41 35 qn_732a91ea5).trans (hid kn_60)
    have h_62 : c_12 41 35 = c 41 35 := (hid kn_61)
    have h_63 : c_12 3 4 = c 3 4 := (hid kn_49)
    exact K P Q c_12 1 (by decide) hI_13 ⟨by omega, ub_fr hU (fun j => (hF_14 2 j qn_2ad67e194).trans (hF_4 2 j (fun q => q.elim (fun h => absurd h.1 (nn rfl)) (fun h => absurd h.1 (nn rfl))))) (fun j => (hF_14 43 j qn_1520ff5e3).trans (hF_4 43 j (fun q => q.elim (fun h => absurd h.1 (nn rfl)) (fun h => absurd h.1 (nn rfl))))), ⟨by omega, by omega, by omega, by omega⟩, by omega, by omega, iw_fr2 hIw (by omega) (fun j => (hF_14 6 j qn_e1050858a).trans (hF_4 6 j (fun q => q.elim (fun h => absurd h.1 (nn rfl)) (fun h => absurd h.1 (nn rfl))))) (fun j => (hF_14 66 j qn_5616dd9ce).trans (hF_4 66 j (fun q => q.elim (fun h => absurd h.1 (nn rfl)) (fun h => absurd h.1 (nn rfl)))))⟩
  · skip
    refine bk_thr (z := Int32.ofInt 2) rfl ⟨_, _, rfl⟩ rfl (bk_inl (q_istore c_296_1230 (Nat.le_of_ble_eq_true rfl) (q_aload_n c_296_1232 rfl (q_aload_n c_296_1233 rfl (q_iload c_296_1234 rfl (q_iconst c_296_1236 (v_iadd (v := (i0 : Int) + 1) c_296_1237 rfl ?_)))))))
    refine v_scr (j := i0 + 1) c_296_1238 (by omega) (by omega) hL hx1 (q_aload_n c_296_1239 rfl (q_iload c_296_1240 rfl (q_iconst c_296_1242 (v_iadd (v := (i0 : Int) + 2) c_296_1243 rfl (v_scr (j := i0 + 2) c_296_1244 (by omega) (by omega) hL hx2 (q_aload_n c_296_1245 rfl (q_iload c_296_1246 rfl ?_)))))))
    refine q_iconst c_296_1248 (v_iadd (v := (i0 : Int) + 3) c_296_1249 rfl (v_scr (j := i0 + 3) c_296_1250 (by omega) (by omega) hL hx3 (v_cv c_296_1251 km_9_209 rfl rfl (Nat.le_of_ble_eq_true rfl) ⟨⟨rfl, rfl⟩, Nat.le_of_ble_eq_true rfl, rfl⟩ (Nat.le_of_ble_eq_true rfl) (Nat.le_of_ble_eq_true rfl) (s_239 (a1 := x1) (a2 := x2) (a3 := x3) hI_6 (show (-2147483648) ≤ x1 ∧ x1 ≤ 2147483647 from ⟨by omega, by omega⟩) (show (-2147483648) ≤ x2 ∧ x2 ≤ 2147483647 from ⟨by omega, by omega⟩) (show (-2147483648) ≤ x3 ∧ x3 ≤ 2147483647 from ⟨by omega, by omega⟩) (fun c_64 y_67 hI_65 hF_66 hy_67 => (bk_inl (q_istore c_296_1254 (Nat.le_of_ble_eq_true rfl) (q_goto (t := 1816) c_296_1256 rfl (Wp_ls [(4, vi (i0 : Int)), (3, .ref 67), (2, .ref 41), (1, .ref 0), (0, .ref a_SC)] (lsub_cons rfl (lsub_cons rfl (lsub_cons rfl (lsub_cons rfl (lsub_cons rfl lsub_nil))))) ?_)))))))))
    have h_68 := ir_1_3 hI
    have kn_69 : Hid (c_5 1 3 = c 1 3) := hF_7 1 3 (fun q => q.elim (fun h => absurd h.1 (nn rfl)) (fun h => absurd h.1 (nn rfl)))
    have kn_70 : Hid (c_64 1 3 = c 1 3) := (hF_66 1 3 qn_39cd18c3e).trans (hid kn_69)
    have h_71 : c_64 1 3 = c 1 3 := (hid kn_70)
    have h_72 := ir_41_2 hI
    have kn_73 : Hid (c_5 41 2 = c 41 2) := hF_7 41 2 (fun q => q.elim (fun h => absurd h.1 (nn rfl)) (fun h => absurd h.1 (nn rfl)))
    have kn_74 : Hid (c_64 41 2 = c 41 2) := (hF_66 41 2 qn_53bdb2099).trans (hid kn_73)
    have h_75 : c_64 41 2 = c 41 2 := (hid kn_74)
    have kn_76 : Hid (c_5 P 0 = n0) := (hF_7 P 0 (qn_7ba88e57e hP)).trans (hn0)
    have kn_77 : Hid (c_64 P 0 = n0) := (hF_66 P 0 (qn_857752076 hP)).trans (hid kn_76)
    have h_78 : c_64 P 0 = n0 := (hid kn_77)
    have kn_79 : Hid (c_5 41 20 = n0) := (hF_7 41 20 (fun q => q.elim (fun h => absurd h.1 (nn rfl)) (fun h => absurd h.1 (nn rfl)))).trans (hm0)
    have kn_80 : Hid (c_64 41 20 = n0) := (hF_66 41 20 qn_110b29ed6).trans (hid kn_79)
    have h_81 : c_64 41 20 = n0 := (hid kn_80)
    have kn_82 : Hid (c_5 P 1 = n1) := (hF_7 P 1 (qn_7ba88e57e hP)).trans (hn1)
    have kn_83 : Hid (c_64 P 1 = n1) := (hF_66 P 1 (qn_857752076 hP)).trans (hid kn_82)
    have h_84 : c_64 P 1 = n1 := (hid kn_83)
    have kn_85 : Hid (c_5 41 21 = n1) := (hF_7 41 21 (fun q => q.elim (fun h => absurd h.1 (nn rfl)) (fun h => absurd h.1 (nn rfl)))).trans (hm1)
    have kn_86 : Hid (c_64 41 21 = n1) := (hF_66 41 21 qn_561064c41).trans (hid kn_85)
    have h_87 : c_64 41 21 = n1 := (hid kn_86)
    have kn_88 : Hid (c_5 P 2 = n2) := (hF_7 P 2 (qn_7ba88e57e hP)).trans (hn2)
    have kn_89 : Hid (c_64 P 2 = n2) := (hF_66 P 2 (qn_857752076 hP)).trans (hid kn_88)
    have h_90 : c_64 P 2 = n2 := (hid kn_89)
    have kn_91 : Hid (c_5 41 22 = n2) := (hF_7 41 22 (fun q => q.elim (fun h => absurd h.1 (nn rfl)) (fun h => absurd h.1 (nn rfl)))).trans (hm2)
    have kn_92 : Hid (c_64 41 22 = n2) := (hF_66 41 22 qn_1a460b46b).trans (hid kn_91)
    have h_93 : c_64 41 22 = n2 := (hid kn_92)
    have kn_94 : Hid (c_5 P 3 = n3) := (hF_7 P 3 (qn_7ba88e57e hP)).trans (hn3)
    have kn_95 : Hid (c_64 P 3 = n3) := (hF_66 P 3 (qn_857752076 hP)).trans (hid kn_94)
    have h_96 : c_64 P 3 = n3 := (hid kn_95)
    have kn_97 : Hid (c_5 41 23 = n3) := (hF_7 41 23 (fun q => q.elim (fun h => absurd h.1 (nn rfl)) (fun h => absurd h.1 (nn rfl)))).trans (hm3)
    have kn_98 : Hid (c_64 41 23 = n3) := (hF_66 41 23 qn_b79f282cd).trans (hid kn_97)
    have h_99 : c_64 41 23 = n3 := (hid kn_98)
    have kn_100 : Hid (c_5 3 4 = c 3 4) := hF_7 3 4 (fun q => q.elim (fun h => absurd h.1 (nn rfl)) (fun h => absurd h.1 (nn rfl)))
    have kn_101 : Hid (c_64 3 4 = c 3 4) := (hF_66 3 4 qn_bf2303cc8).trans (hid kn_100)
    have h_102 : c_64 3 4 = c 3 4 := (hid kn_101)
    have h_103 := ir_41_52 hI
    have kn_104 : Hid (c_5 41 52 = c 41 52) := hF_7 41 52 (fun q => q.elim (fun h => absurd h.1 (nn rfl)) (fun h => absurd h.1 (nn rfl)))
    have kn_105 : Hid (c_64 41 52 = c 41 52) := (hF_66 41 52 qn_90835161a).trans (hid kn_104)
    have h_106 : c_64 41 52 = c 41 52 := (hid kn_105)
    have h_107 := ir_3_3 hI
    have kn_108 : Hid (c_5 3 3 = c 3 3) := hF_7 3 3 (fun q => q.elim (fun h => absurd h.1 (nn rfl)) (fun h => absurd h.1 (nn rfl)))
    have kn_109 : Hid (c_64 3 3 = c 3 3) := (hF_66 3 3 qn_bf2303cc8).trans (hid kn_108)
    have h_110 : c_64 3 3 = c 3 3 := (hid kn_109)
    have h_111 := ir_41_35 hI
    have kn_112 : Hid (c_5 41 35 = c 41 35) := hF_7 41 35 (fun q => q.elim (fun h => absurd h.1 (nn rfl)) (fun h => absurd h.1 (nn rfl)))
    have kn_113 : Hid (c_64 41 35 = c 41 35) := (hF_66 41 35 qn_732a91ea5).trans (hid kn_112)
    have h_114 : c_64 41 35 = c 41 35 := (hid kn_113)
    have h_115 : c_64 3 4 = c 3 4 := (hid kn_101)
    exact K P Q c_64 1 (by decide) hI_65 ⟨by omega, ub_fr hU (fun j => (hF_66 2 j qn_2ad67e194).trans (hF_7 2 j (fun q => q.elim (fun h => absurd h.1 (nn rfl)) (fun h => absurd h.1 (nn rfl))))) (fun j => (hF_66 43 j qn_1520ff5e3).trans (hF_7 43 j (fun q => q.elim (fun h => absurd h.1 (nn rfl)) (fun h => absurd h.1 (nn rfl))))), ⟨by omega, by omega, by omega, by omega⟩, by omega, by omega, iw_fr2 hIw (by omega) (fun j => (hF_66 6 j qn_e1050858a).trans (hF_7 6 j (fun q => q.elim (fun h => absurd h.1 (nn rfl)) (fun h => absurd h.1 (nn rfl))))) (fun j => (hF_66 66 j qn_5616dd9ce).trans (hF_7 66 j (fun q => q.elim (fun h => absurd h.1 (nn rfl)) (fun h => absurd h.1 (nn rfl)))))⟩
  refine bk_inl (v_i2l c_284_10 (by omega) (v_ls c_284_11 rfl (by decide) (by decide) (by decide) (q_goto (t := 23) c_284_12 rfl (q_iconst c_284_23 (q_iret c_284_24 rfl (bk_inl (q_istore c_296_1230 (Nat.le_of_ble_eq_true rfl) ?_)))))))
  refine q_aload_n c_296_1232 rfl (q_aload_n c_296_1233 rfl (q_iload c_296_1234 rfl (q_iconst c_296_1236 (v_iadd (v := (i0 : Int) + 1) c_296_1237 rfl (v_scr (j := i0 + 1) c_296_1238 (by omega) (by omega) hL hx1 (q_aload_n c_296_1239 rfl (q_iload c_296_1240 rfl ?_)))))))
  refine q_iconst c_296_1242 (v_iadd (v := (i0 : Int) + 2) c_296_1243 rfl (v_scr (j := i0 + 2) c_296_1244 (by omega) (by omega) hL hx2 (q_aload_n c_296_1245 rfl (q_iload c_296_1246 rfl (q_iconst c_296_1248 (v_iadd (v := (i0 : Int) + 3) c_296_1249 rfl (v_scr (j := i0 + 3) c_296_1250 (by omega) (by omega) hL hx3 ?_)))))))
  have hI_116 := iw_lx (a := 67) (j := 0) (v := y_11) hI_9 (by omega)
  refine v_cv c_296_1251 km_9_209 rfl rfl (Nat.le_of_ble_eq_true rfl) ⟨⟨rfl, rfl⟩, Nat.le_of_ble_eq_true rfl, rfl⟩ (Nat.le_of_ble_eq_true rfl) (Nat.le_of_ble_eq_true rfl) (s_239 (a1 := x1) (a2 := x2) (a3 := x3) hI_116 (show (-2147483648) ≤ x1 ∧ x1 ≤ 2147483647 from ⟨by omega, by omega⟩) (show (-2147483648) ≤ x2 ∧ x2 ≤ 2147483647 from ⟨by omega, by omega⟩) (show (-2147483648) ≤ x3 ∧ x3 ≤ 2147483647 from ⟨by omega, by omega⟩) (fun c_117 y_120 hI_118 hF_119 hy_120 => (bk_inl (q_istore c_296_1254 (Nat.le_of_ble_eq_true rfl) (q_goto (t := 1816) c_296_1256 rfl (Wp_ls [(4, vi (i0 : Int)), (3, .ref 67), (2, .ref 41), (1, .ref 0), (0, .ref a_SC)] (lsub_cons rfl (lsub_cons rfl (lsub_cons rfl (lsub_cons rfl (lsub_cons rfl lsub_nil))))) ?_))))))
  have h_121 := ir_1_3 hI
  have kn_122 : Hid (c_8 1 3 = c 1 3) := hF_10 1 3 (fun q => q.elim (fun h => absurd h.1 (nn rfl)) (fun h => absurd h.1 (nn rfl)))
  have kn_123 : Hid (c_117 1 3 = c 1 3) := (hF_119 1 3 qn_39cd18c3e).trans ((up_c (nn rfl)).trans (hid kn_122))
  have h_124 : c_117 1 3 = c 1 3 := (hid kn_123)
  have h_125 := ir_41_2 hI
  have kn_126 : Hid (c_8 41 2 = c 41 2) := hF_10 41 2 (fun q => q.elim (fun h => absurd h.1 (nn rfl)) (fun h => absurd h.1 (nn rfl)))
  have kn_127 : Hid (c_117 41 2 = c 41 2) := (hF_119 41 2 qn_53bdb2099).trans ((up_c (nn rfl)).trans (hid kn_126))
  have h_128 : c_117 41 2 = c 41 2 := (hid kn_127)
  have kn_129 : Hid (c_8 P 0 = n0) := (hF_10 P 0 (qn_7ba88e57e hP)).trans (hn0)
  have kn_130 : Hid (c_117 P 0 = n0) := (hF_119 P 0 (qn_857752076 hP)).trans ((up_c (np0 hP rfl)).trans (hid kn_129))
  have h_131 : c_117 P 0 = n0 := (hid kn_130)
  have kn_132 : Hid (c_8 41 20 = n0) := (hF_10 41 20 (fun q => q.elim (fun h => absurd h.1 (nn rfl)) (fun h => absurd h.1 (nn rfl)))).trans (hm0)
  have kn_133 : Hid (c_117 41 20 = n0) := (hF_119 41 20 qn_110b29ed6).trans ((up_c (nn rfl)).trans (hid kn_132))
  have h_134 : c_117 41 20 = n0 := (hid kn_133)
  have kn_135 : Hid (c_8 P 1 = n1) := (hF_10 P 1 (qn_7ba88e57e hP)).trans (hn1)
  have kn_136 : Hid (c_117 P 1 = n1) := (hF_119 P 1 (qn_857752076 hP)).trans ((up_c (np0 hP rfl)).trans (hid kn_135))
  have h_137 : c_117 P 1 = n1 := (hid kn_136)
  have kn_138 : Hid (c_8 41 21 = n1) := (hF_10 41 21 (fun q => q.elim (fun h => absurd h.1 (nn rfl)) (fun h => absurd h.1 (nn rfl)))).trans (hm1)
  have kn_139 : Hid (c_117 41 21 = n1) := (hF_119 41 21 qn_561064c41).trans ((up_c (nn rfl)).trans (hid kn_138))
  have h_140 : c_117 41 21 = n1 := (hid kn_139)
  have kn_141 : Hid (c_8 P 2 = n2) := (hF_10 P 2 (qn_7ba88e57e hP)).trans (hn2)
  have kn_142 : Hid (c_117 P 2 = n2) := (hF_119 P 2 (qn_857752076 hP)).trans ((up_c (np0 hP rfl)).trans (hid kn_141))
  have h_143 : c_117 P 2 = n2 := (hid kn_142)
  have kn_144 : Hid (c_8 41 22 = n2) := (hF_10 41 22 (fun q => q.elim (fun h => absurd h.1 (nn rfl)) (fun h => absurd h.1 (nn rfl)))).trans (hm2)
  have kn_145 : Hid (c_117 41 22 = n2) := (hF_119 41 22 qn_1a460b46b).trans ((up_c (nn rfl)).trans (hid kn_144))
  have h_146 : c_117 41 22 = n2 := (hid kn_145)
  have kn_147 : Hid (c_8 P 3 = n3) := (hF_10 P 3 (qn_7ba88e57e hP)).trans (hn3)
  have kn_148 : Hid (c_117 P 3 = n3) := (hF_119 P 3 (qn_857752076 hP)).trans ((up_c (np0 hP rfl)).trans (hid kn_147))
  have h_149 : c_117 P 3 = n3 := (hid kn_148)
  have kn_150 : Hid (c_8 41 23 = n3) := (hF_10 41 23 (fun q => q.elim (fun h => absurd h.1 (nn rfl)) (fun h => absurd h.1 (nn rfl)))).trans (hm3)
  have kn_151 : Hid (c_117 41 23 = n3) := (hF_119 41 23 qn_b79f282cd).trans ((up_c (nn rfl)).trans (hid kn_150))
  have h_152 : c_117 41 23 = n3 := (hid kn_151)
  have kn_153 : Hid (c_8 3 4 = c 3 4) := hF_10 3 4 (fun q => q.elim (fun h => absurd h.1 (nn rfl)) (fun h => absurd h.1 (nn rfl)))
  have kn_154 : Hid (c_117 3 4 = c 3 4) := (hF_119 3 4 qn_bf2303cc8).trans ((up_c (nn rfl)).trans (hid kn_153))
  have h_155 : c_117 3 4 = c 3 4 := (hid kn_154)
  have h_156 := ir_41_52 hI
  have kn_157 : Hid (c_8 41 52 = c 41 52) := hF_10 41 52 (fun q => q.elim (fun h => absurd h.1 (nn rfl)) (fun h => absurd h.1 (nn rfl)))
  have kn_158 : Hid (c_117 41 52 = c 41 52) := (hF_119 41 52 qn_90835161a).trans ((up_c (nn rfl)).trans (hid kn_157))
  have h_159 : c_117 41 52 = c 41 52 := (hid kn_158)
  have h_160 := ir_3_3 hI
  have kn_161 : Hid (c_8 3 3 = c 3 3) := hF_10 3 3 (fun q => q.elim (fun h => absurd h.1 (nn rfl)) (fun h => absurd h.1 (nn rfl)))
  have kn_162 : Hid (c_117 3 3 = c 3 3) := (hF_119 3 3 qn_bf2303cc8).trans ((up_c (nn rfl)).trans (hid kn_161))
  have h_163 : c_117 3 3 = c 3 3 := (hid kn_162)
  have h_164 := ir_41_35 hI
  have kn_165 : Hid (c_8 41 35 = c 41 35) := hF_10 41 35 (fun q => q.elim (fun h => absurd h.1 (nn rfl)) (fun h => absurd h.1 (nn rfl)))
  have kn_166 : Hid (c_117 41 35 = c 41 35) := (hF_119 41 35 qn_732a91ea5).trans ((up_c (nn rfl)).trans (hid kn_165))
  have h_167 : c_117 41 35 = c 41 35 := (hid kn_166)
  have h_168 : c_117 3 4 = c 3 4 := (hid kn_154)
  exact K P Q c_117 0 (by decide) hI_118 ⟨by omega, ub_fr hU (fun j => (hF_119 2 j qn_2ad67e194).trans ((up_c (nn rfl)).trans (hF_10 2 j (fun q => q.elim (fun h => absurd h.1 (nn rfl)) (fun h => absurd h.1 (nn rfl)))))) (fun j => (hF_119 43 j qn_1520ff5e3).trans ((up_c (nn rfl)).trans (hF_10 43 j (fun q => q.elim (fun h => absurd h.1 (nn rfl)) (fun h => absurd h.1 (nn rfl)))))), ⟨by omega, by omega, by omega, by omega⟩, by omega, by omega, iw_fr2 hIw (by omega) (fun j => (hF_119 6 j qn_e1050858a).trans ((up_c (nn rfl)).trans (hF_10 6 j (fun q => q.elim (fun h => absurd h.1 (nn rfl)) (fun h => absurd h.1 (nn rfl)))))) (fun j => (hF_119 66 j qn_5616dd9ce).trans ((up_c (nn rfl)).trans (hF_10 66 j (fun q => q.elim (fun h => absurd h.1 (nn rfl)) (fun h => absurd h.1 (nn rfl))))))⟩

set_option maxRecDepth 100000 in
set_option maxHeartbeats 4000000 in
theorem o_25 {xs : Nat → Int32} {L i0 d nc ns P Q : Nat} {c : ME} {Z : AR → Prop} (hi : i0 + 8 ≤ L) (hL : L ≤ 100000) (hI : Iv 0 (-1) P Q c) (hR : Rq P c) (K : ∀ (P2 Q2 : Nat) (c2 : ME) (e : Nat), e ≤ 1 → Iv 0 (-1) P2 Q2 c2 → (Rq P2 c2) → Wp (a_scr L xs) (d + 90) 296 1816 [(4, vi (i0 : Int)), (3, .ref 67), (2, .ref 41), (1, .ref 0), (0, .ref a_SC)] [] (Wd P2 Q2 P2 P2 c2) (nc + e) (ns + 6 * e) Z) : Wp (a_scr L xs) (d + 90) 296 1259 [(4, vi (i0 : Int)), (3, .ref 67), (2, .ref 41), (1, .ref 0), (0, .ref a_SC)] [] (Wd P Q P P c) nc ns Z := by
  obtain ⟨x1, hx1⟩ : ∃ z, (xs (i0 + 1)).toInt = z := ⟨_, rfl⟩
  have x1r := c_rng (xs (i0 + 1))
  rw [hx1] at x1r
  obtain ⟨x2, hx2⟩ : ∃ z, (xs (i0 + 2)).toInt = z := ⟨_, rfl⟩
  have x2r := c_rng (xs (i0 + 2))
  rw [hx2] at x2r
  obtain ⟨x3, hx3⟩ : ∃ z, (xs (i0 + 3)).toInt = z := ⟨_, rfl⟩
  have x3r := c_rng (xs (i0 + 3))
  rw [hx3] at x3r
  obtain ⟨x4, hx4⟩ : ∃ z, (xs (i0 + 4)).toInt = z := ⟨_, rfl⟩
  have x4r := c_rng (xs (i0 + 4))
  rw [hx4] at x4r
  obtain ⟨x5, hx5⟩ : ∃ z, (xs (i0 + 5)).toInt = z := ⟨_, rfl⟩
  have x5r := c_rng (xs (i0 + 5))
  rw [hx5] at x5r
  obtain ⟨x6, hx6⟩ : ∃ z, (xs (i0 + 6)).toInt = z := ⟨_, rfl⟩
  have x6r := c_rng (xs (i0 + 6))
  rw [hx6] at x6r
  obtain ⟨x7, hx7⟩ : ∃ z, (xs (i0 + 7)).toInt = z := ⟨_, rfl⟩
  have x7r := c_rng (xs (i0 + 7))
  rw [hx7] at x7r
  have hP := iv_P hI
  have hQ := iv_Q hI
  have hT := rl_t hR
  have hU := rl_u hR
  obtain ⟨n0, hn0⟩ : ∃ z, c P 0 = z := ⟨_, rfl⟩
  have hm0 : c 41 20 = n0 := (rl_nums hR).1.symm.trans hn0
  have hr0 := ir_p0_0 hI hP
  rw [hn0] at hr0
  obtain ⟨n1, hn1⟩ : ∃ z, c P 1 = z := ⟨_, rfl⟩
  have hm1 : c 41 21 = n1 := (rl_nums hR).2.1.symm.trans hn1
  have hr1 := ir_p0_1 hI hP
  rw [hn1] at hr1
  obtain ⟨n2, hn2⟩ : ∃ z, c P 2 = z := ⟨_, rfl⟩
  have hm2 : c 41 22 = n2 := (rl_nums hR).2.2.1.symm.trans hn2
  have hr2 := ir_p0_2 hI hP
  rw [hn2] at hr2
  obtain ⟨n3, hn3⟩ : ∃ z, c P 3 = z := ⟨_, rfl⟩
  have hm3 : c 41 23 = n3 := (rl_nums hR).2.2.2.symm.trans hn3
  have hr3 := ir_p0_3 hI hP
  rw [hn3] at hr3
  have hNimg := rl_img hR
  have hNwk := rl_wk hR
  have h_1 := ir_3_4 hI
  have hIw := rl_iw hR
  refine q_aload_n c_296_1259 rfl (q_aload_n c_296_1260 rfl (q_iload c_296_1261 rfl (q_iconst c_296_1263 (v_iadd (v := (i0 : Int) + 1) c_296_1264 rfl (v_scr (j := i0 + 1) c_296_1265 (by omega) (by omega) hL hx1 (q_aload_n c_296_1266 rfl (q_call c_296_1267 rfl rfl rfl ?_)))))))
  refine q_aload_n c_285_0 rfl (q_iconst c_285_1 (q_aload_n c_285_2 rfl (q_iload_n c_285_3 rfl ?_)))
  refine v_cv c_285_4 km_9_84 rfl rfl (Nat.le_of_ble_eq_true rfl) ⟨⟨rfl, rfl⟩, Nat.le_of_ble_eq_true rfl, rfl⟩ (Nat.le_of_ble_eq_true rfl) (Nat.le_of_ble_eq_true rfl) (s_105 (a1 := x1) hI (show (-2147483648) ≤ x1 ∧ x1 ≤ 2147483647 from ⟨by omega, by omega⟩) (fun c_2 hI_3 hF_4 => ?_) (fun c_5 y_8 hI_6 hF_7 hy_8 => ?_))
  · skip
    refine bk_thr (z := Int32.ofInt 1) rfl ⟨_, _, rfl⟩ rfl (bk_inl (q_istore c_296_1270 (Nat.le_of_ble_eq_true rfl) (q_aload_n c_296_1272 rfl (q_aload_n c_296_1273 rfl (q_iload c_296_1274 rfl (q_iconst c_296_1276 (v_iadd (v := (i0 : Int) + 1) c_296_1277 rfl ?_)))))))
    refine v_scr (j := i0 + 1) c_296_1278 (by omega) (by omega) hL hx1 (v_cv c_296_1279 km_9_212 rfl rfl (Nat.le_of_ble_eq_true rfl) ⟨⟨rfl, rfl⟩, Nat.le_of_ble_eq_true rfl, rfl⟩ (Nat.le_of_ble_eq_true rfl) (Nat.le_of_ble_eq_true rfl) (s_240 (a1 := x1) hI_3 (show (-2147483648) ≤ x1 ∧ x1 ≤ 2147483647 from ⟨by omega, by omega⟩) (fun c_9 y_12 hI_10 hF_11 hy_12 => (bk_inl (q_istore c_296_1282 (Nat.le_of_ble_eq_true rfl) (q_goto (t := 1816) c_296_1284 rfl (Wp_ls [(4, vi (i0 : Int)), (3, .ref 67), (2, .ref 41), (1, .ref 0), (0, .ref a_SC)] (lsub_cons rfl (lsub_cons rfl (lsub_cons rfl (lsub_cons rfl (lsub_cons rfl lsub_nil))))) ?_)))))))
    have h_13 := ir_1_3 hI
    have kn_14 : Hid (c_2 1 3 = c 1 3) := hF_4 1 3 (qn_573365727 hP)
    have kn_15 : Hid (c_9 1 3 = c 1 3) := (hF_11 1 3 qn_44683f5fa).trans (hid kn_14)
    have h_16 : c_9 1 3 = c 1 3 := (hid kn_15)
    have h_17 := ir_41_2 hI
    have kn_18 : Hid (c_2 41 2 = c 41 2) := hF_4 41 2 (qn_69be8c781 hP)
    have kn_19 : Hid (c_9 41 2 = c 41 2) := (hF_11 41 2 qn_7a112a690).trans (hid kn_18)
    have h_20 : c_9 41 2 = c 41 2 := (hid kn_19)
    have kn_21 : Hid (c_2 P 0 = n0) := (hF_4 P 0 (qn_ab81a8ac9 hP)).trans (hn0)
    have kn_22 : Hid (c_9 P 0 = n0) := (hF_11 P 0 (qn_70fec742f hP)).trans (hid kn_21)
    have h_23 : c_9 P 0 = n0 := (hid kn_22)
    have kn_24 : Hid (c_2 41 20 = n0) := (hF_4 41 20 (qn_69be8c781 hP)).trans (hm0)
    have kn_25 : Hid (c_9 41 20 = n0) := (hF_11 41 20 qn_d0753a96c).trans (hid kn_24)
    have h_26 : c_9 41 20 = n0 := (hid kn_25)
    have kn_27 : Hid (c_2 P 1 = n1) := (hF_4 P 1 (qn_ab81a8ac9 hP)).trans (hn1)
    have kn_28 : Hid (c_9 P 1 = n1) := (hF_11 P 1 (qn_70fec742f hP)).trans (hid kn_27)
    have h_29 : c_9 P 1 = n1 := (hid kn_28)
    have kn_30 : Hid (c_2 41 21 = n1) := (hF_4 41 21 (qn_69be8c781 hP)).trans (hm1)
    have kn_31 : Hid (c_9 41 21 = n1) := (hF_11 41 21 qn_2dba34809).trans (hid kn_30)
    have h_32 : c_9 41 21 = n1 := (hid kn_31)
    have kn_33 : Hid (c_2 P 2 = n2) := (hF_4 P 2 (qn_ab81a8ac9 hP)).trans (hn2)
    have kn_34 : Hid (c_9 P 2 = n2) := (hF_11 P 2 (qn_70fec742f hP)).trans (hid kn_33)
    have h_35 : c_9 P 2 = n2 := (hid kn_34)
    have kn_36 : Hid (c_2 41 22 = n2) := (hF_4 41 22 (qn_69be8c781 hP)).trans (hm2)
    have kn_37 : Hid (c_9 41 22 = n2) := (hF_11 41 22 qn_0d1137165).trans (hid kn_36)
    have h_38 : c_9 41 22 = n2 := (hid kn_37)
    have kn_39 : Hid (c_2 P 3 = n3) := (hF_4 P 3 (qn_ab81a8ac9 hP)).trans (hn3)
    have kn_40 : Hid (c_9 P 3 = n3) := (hF_11 P 3 (qn_70fec742f hP)).trans (hid kn_39)
    have h_41 : c_9 P 3 = n3 := (hid kn_40)
    have kn_42 : Hid (c_2 41 23 = n3) := (hF_4 41 23 (qn_69be8c781 hP)).trans (hm3)
    have kn_43 : Hid (c_9 41 23 = n3) := (hF_11 41 23 qn_ca1c2b99e).trans (hid kn_42)
    have h_44 : c_9 41 23 = n3 := (hid kn_43)
    have kn_45 : Hid (c_2 3 4 = c 3 4) := hF_4 3 4 (qn_9e88b668d hP)
    have kn_46 : Hid (c_9 3 4 = c 3 4) := (hF_11 3 4 qn_85f7f5516).trans (hid kn_45)
    have h_47 : c_9 3 4 = c 3 4 := (hid kn_46)
    have h_48 := ir_41_52 hI
    have kn_49 : Hid (c_2 41 52 = c 41 52) := hF_4 41 52 (qn_69be8c781 hP)
    have kn_50 : Hid (c_9 41 52 = c 41 52) := (hF_11 41 52 qn_23bb338dd).trans (hid kn_49)
    have h_51 : c_9 41 52 = c 41 52 := (hid kn_50)
    have h_52 := ir_3_3 hI
    have kn_53 : Hid (c_2 3 3 = c 3 3) := hF_4 3 3 (qn_9e88b668d hP)
    have kn_54 : Hid (c_9 3 3 = c 3 3) := (hF_11 3 3 qn_85f7f5516).trans (hid kn_53)
    have h_55 : c_9 3 3 = c 3 3 := (hid kn_54)
    have h_56 := ir_41_35 hI
    have kn_57 : Hid (c_2 41 35 = c 41 35) := hF_4 41 35 (qn_69be8c781 hP)
    have kn_58 : Hid (c_9 41 35 = c 41 35) := (hF_11 41 35 qn_8b6342d8f).trans (hid kn_57)
    have h_59 : c_9 41 35 = c 41 35 := (hid kn_58)
    have h_60 : c_9 3 4 = c 3 4 := (hid kn_46)
    exact K P Q c_9 1 (by decide) hI_10 ⟨by omega, ub_fr hU (fun j => (hF_11 2 j qn_d0e66b3bf).trans (hF_4 2 j (qn_aaebe4308 hP))) (fun j => (hF_11 43 j qn_5a77d9750).trans (hF_4 43 j (qn_3e58b8819 hP))), ⟨by omega, by omega, by omega, by omega⟩, by omega, by omega, iw_fr2 hIw (by omega) (fun j => (hF_11 6 j qn_1f8406493).trans (hF_4 6 j (qn_11fbaf786 hP))) (fun j => (hF_11 66 j qn_02ce421cc).trans (hF_4 66 j (qn_1388626d2 hP)))⟩
  refine bk_inl (v_i2l c_285_7 (by omega) (v_ls c_285_8 rfl (by decide) (by decide) (by decide) (q_goto (t := 15) c_285_9 rfl (q_iconst c_285_15 (q_iret c_285_16 rfl (bk_inl (q_istore c_296_1270 (Nat.le_of_ble_eq_true rfl) ?_)))))))
  refine q_aload_n c_296_1272 rfl (q_aload_n c_296_1273 rfl (q_iload c_296_1274 rfl (q_iconst c_296_1276 (v_iadd (v := (i0 : Int) + 1) c_296_1277 rfl (v_scr (j := i0 + 1) c_296_1278 (by omega) (by omega) hL hx1 ?_)))))
  have hI_61 := iw_lx (a := 67) (j := 0) (v := y_8) hI_6 (by omega)
  refine v_cv c_296_1279 km_9_212 rfl rfl (Nat.le_of_ble_eq_true rfl) ⟨⟨rfl, rfl⟩, Nat.le_of_ble_eq_true rfl, rfl⟩ (Nat.le_of_ble_eq_true rfl) (Nat.le_of_ble_eq_true rfl) (s_240 (a1 := x1) hI_61 (show (-2147483648) ≤ x1 ∧ x1 ≤ 2147483647 from ⟨by omega, by omega⟩) (fun c_62 y_65 hI_63 hF_64 hy_65 => (bk_inl (q_istore c_296_1282 (Nat.le_of_ble_eq_true rfl) (q_goto (t := 1816) c_296_1284 rfl (Wp_ls [(4, vi (i0 : Int)), (3, .ref 67), (2, .ref 41), (1, .ref 0), (0, .ref a_SC)] (lsub_cons rfl (lsub_cons rfl (lsub_cons rfl (lsub_cons rfl (lsub_cons rfl lsub_nil))))) ?_))))))
  have h_66 := ir_1_3 hI
  have kn_67 : Hid (c_5 1 3 = c 1 3) := hF_7 1 3 (qn_573365727 hP)
  have kn_68 : Hid (c_62 1 3 = c 1 3) := (hF_64 1 3 qn_44683f5fa).trans ((up_c (nn rfl)).trans (hid kn_67))
  have h_69 : c_62 1 3 = c 1 3 := (hid kn_68)
  have h_70 := ir_41_2 hI
  have kn_71 : Hid (c_5 41 2 = c 41 2) := hF_7 41 2 (qn_69be8c781 hP)
  have kn_72 : Hid (c_62 41 2 = c 41 2) := (hF_64 41 2 qn_7a112a690).trans ((up_c (nn rfl)).trans (hid kn_71))
  have h_73 : c_62 41 2 = c 41 2 := (hid kn_72)
  have kn_74 : Hid (c_5 P 0 = n0) := (hF_7 P 0 (qn_ab81a8ac9 hP)).trans (hn0)
  have kn_75 : Hid (c_62 P 0 = n0) := (hF_64 P 0 (qn_70fec742f hP)).trans ((up_c (np0 hP rfl)).trans (hid kn_74))
  have h_76 : c_62 P 0 = n0 := (hid kn_75)
  have kn_77 : Hid (c_5 41 20 = n0) := (hF_7 41 20 (qn_69be8c781 hP)).trans (hm0)
  have kn_78 : Hid (c_62 41 20 = n0) := (hF_64 41 20 qn_d0753a96c).trans ((up_c (nn rfl)).trans (hid kn_77))
  have h_79 : c_62 41 20 = n0 := (hid kn_78)
  have kn_80 : Hid (c_5 P 1 = n1) := (hF_7 P 1 (qn_ab81a8ac9 hP)).trans (hn1)
  have kn_81 : Hid (c_62 P 1 = n1) := (hF_64 P 1 (qn_70fec742f hP)).trans ((up_c (np0 hP rfl)).trans (hid kn_80))
  have h_82 : c_62 P 1 = n1 := (hid kn_81)
  have kn_83 : Hid (c_5 41 21 = n1) := (hF_7 41 21 (qn_69be8c781 hP)).trans (hm1)
  have kn_84 : Hid (c_62 41 21 = n1) := (hF_64 41 21 qn_2dba34809).trans ((up_c (nn rfl)).trans (hid kn_83))
  have h_85 : c_62 41 21 = n1 := (hid kn_84)
  have kn_86 : Hid (c_5 P 2 = n2) := (hF_7 P 2 (qn_ab81a8ac9 hP)).trans (hn2)
  have kn_87 : Hid (c_62 P 2 = n2) := (hF_64 P 2 (qn_70fec742f hP)).trans ((up_c (np0 hP rfl)).trans (hid kn_86))
  have h_88 : c_62 P 2 = n2 := (hid kn_87)
  have kn_89 : Hid (c_5 41 22 = n2) := (hF_7 41 22 (qn_69be8c781 hP)).trans (hm2)
  have kn_90 : Hid (c_62 41 22 = n2) := (hF_64 41 22 qn_0d1137165).trans ((up_c (nn rfl)).trans (hid kn_89))
  have h_91 : c_62 41 22 = n2 := (hid kn_90)
  have kn_92 : Hid (c_5 P 3 = n3) := (hF_7 P 3 (qn_ab81a8ac9 hP)).trans (hn3)
  have kn_93 : Hid (c_62 P 3 = n3) := (hF_64 P 3 (qn_70fec742f hP)).trans ((up_c (np0 hP rfl)).trans (hid kn_92))
  have h_94 : c_62 P 3 = n3 := (hid kn_93)
  have kn_95 : Hid (c_5 41 23 = n3) := (hF_7 41 23 (qn_69be8c781 hP)).trans (hm3)
  have kn_96 : Hid (c_62 41 23 = n3) := (hF_64 41 23 qn_ca1c2b99e).trans ((up_c (nn rfl)).trans (hid kn_95))
  have h_97 : c_62 41 23 = n3 := (hid kn_96)
  have kn_98 : Hid (c_5 3 4 = c 3 4) := hF_7 3 4 (qn_9e88b668d hP)
  have kn_99 : Hid (c_62 3 4 = c 3 4) := (hF_64 3 4 qn_85f7f5516).trans ((up_c (nn rfl)).trans (hid kn_98))
  have h_100 : c_62 3 4 = c 3 4 := (hid kn_99)
  have h_101 := ir_41_52 hI
  have kn_102 : Hid (c_5 41 52 = c 41 52) := hF_7 41 52 (qn_69be8c781 hP)
  have kn_103 : Hid (c_62 41 52 = c 41 52) := (hF_64 41 52 qn_23bb338dd).trans ((up_c (nn rfl)).trans (hid kn_102))
  have h_104 : c_62 41 52 = c 41 52 := (hid kn_103)
  have h_105 := ir_3_3 hI
  have kn_106 : Hid (c_5 3 3 = c 3 3) := hF_7 3 3 (qn_9e88b668d hP)
  have kn_107 : Hid (c_62 3 3 = c 3 3) := (hF_64 3 3 qn_85f7f5516).trans ((up_c (nn rfl)).trans (hid kn_106))
  have h_108 : c_62 3 3 = c 3 3 := (hid kn_107)
  have h_109 := ir_41_35 hI
  have kn_110 : Hid (c_5 41 35 = c 41 35) := hF_7 41 35 (qn_69be8c781 hP)
  have kn_111 : Hid (c_62 41 35 = c 41 35) := (hF_64 41 35 qn_8b6342d8f).trans ((up_c (nn rfl)).trans (hid kn_110))
  have h_112 : c_62 41 35 = c 41 35 := (hid kn_111)
  have h_113 : c_62 3 4 = c 3 4 := (hid kn_99)
  exact K P Q c_62 0 (by decide) hI_63 ⟨by omega, ub_fr hU (fun j => (hF_64 2 j qn_d0e66b3bf).trans ((up_c (nn rfl)).trans (hF_7 2 j (qn_aaebe4308 hP)))) (fun j => (hF_64 43 j qn_5a77d9750).trans ((up_c (nn rfl)).trans (hF_7 43 j (qn_3e58b8819 hP)))), ⟨by omega, by omega, by omega, by omega⟩, by omega, by omega, iw_fr2 hIw (by omega) (fun j => (hF_64 6 j qn_1f8406493).trans ((up_c (nn rfl)).trans (hF_7 6 j (qn_11fbaf786 hP)))) (fun j => (hF_64 66 j qn_02ce421cc).trans ((up_c (nn rfl)).trans (hF_7 66 j (qn_1388626d2 hP))))⟩

set_option maxRecDepth 100000 in
set_option maxHeartbeats 4000000 in
theorem o_26 {xs : Nat → Int32} {L i0 d nc ns P Q : Nat} {c : ME} {Z : AR → Prop} (hi : i0 + 8 ≤ L) (hL : L ≤ 100000) (hI : Iv 0 (-1) P Q c) (hR : Rq P c) (K : ∀ (P2 Q2 : Nat) (c2 : ME) (e : Nat), e ≤ 1 → Iv 0 (-1) P2 Q2 c2 → (Rq P2 c2) → Wp (a_scr L xs) (d + 90) 296 1816 [(4, vi (i0 : Int)), (3, .ref 67), (2, .ref 41), (1, .ref 0), (0, .ref a_SC)] [] (Wd P2 Q2 P2 P2 c2) (nc + e) (ns + 6 * e) Z) : Wp (a_scr L xs) (d + 90) 296 1287 [(4, vi (i0 : Int)), (3, .ref 67), (2, .ref 41), (1, .ref 0), (0, .ref a_SC)] [] (Wd P Q P P c) nc ns Z := by
  obtain ⟨x1, hx1⟩ : ∃ z, (xs (i0 + 1)).toInt = z := ⟨_, rfl⟩
  have x1r := c_rng (xs (i0 + 1))
  rw [hx1] at x1r
  obtain ⟨x2, hx2⟩ : ∃ z, (xs (i0 + 2)).toInt = z := ⟨_, rfl⟩
  have x2r := c_rng (xs (i0 + 2))
  rw [hx2] at x2r
  obtain ⟨x3, hx3⟩ : ∃ z, (xs (i0 + 3)).toInt = z := ⟨_, rfl⟩
  have x3r := c_rng (xs (i0 + 3))
  rw [hx3] at x3r
  obtain ⟨x4, hx4⟩ : ∃ z, (xs (i0 + 4)).toInt = z := ⟨_, rfl⟩
  have x4r := c_rng (xs (i0 + 4))
  rw [hx4] at x4r
  obtain ⟨x5, hx5⟩ : ∃ z, (xs (i0 + 5)).toInt = z := ⟨_, rfl⟩
  have x5r := c_rng (xs (i0 + 5))
  rw [hx5] at x5r
  obtain ⟨x6, hx6⟩ : ∃ z, (xs (i0 + 6)).toInt = z := ⟨_, rfl⟩
  have x6r := c_rng (xs (i0 + 6))
  rw [hx6] at x6r
  obtain ⟨x7, hx7⟩ : ∃ z, (xs (i0 + 7)).toInt = z := ⟨_, rfl⟩
  have x7r := c_rng (xs (i0 + 7))
  rw [hx7] at x7r
  have hP := iv_P hI
  have hQ := iv_Q hI
  have hT := rl_t hR
  have hU := rl_u hR
  obtain ⟨n0, hn0⟩ : ∃ z, c P 0 = z := ⟨_, rfl⟩
  have hm0 : c 41 20 = n0 := (rl_nums hR).1.symm.trans hn0
  have hr0 := ir_p0_0 hI hP
  rw [hn0] at hr0
  obtain ⟨n1, hn1⟩ : ∃ z, c P 1 = z := ⟨_, rfl⟩
  have hm1 : c 41 21 = n1 := (rl_nums hR).2.1.symm.trans hn1
  have hr1 := ir_p0_1 hI hP
  rw [hn1] at hr1
  obtain ⟨n2, hn2⟩ : ∃ z, c P 2 = z := ⟨_, rfl⟩
  have hm2 : c 41 22 = n2 := (rl_nums hR).2.2.1.symm.trans hn2
  have hr2 := ir_p0_2 hI hP
  rw [hn2] at hr2
  obtain ⟨n3, hn3⟩ : ∃ z, c P 3 = z := ⟨_, rfl⟩
  have hm3 : c 41 23 = n3 := (rl_nums hR).2.2.2.symm.trans hn3
  have hr3 := ir_p0_3 hI hP
  rw [hn3] at hr3
  have hNimg := rl_img hR
  have hNwk := rl_wk hR
  have h_1 := ir_3_4 hI
  have hIw := rl_iw hR
  refine q_aload_n c_296_1287 rfl (v_cv c_296_1288 km_9_213 rfl rfl (Nat.le_of_ble_eq_true rfl) ⟨⟨rfl, rfl⟩, Nat.le_of_ble_eq_true rfl, rfl⟩ (Nat.le_of_ble_eq_true rfl) (Nat.le_of_ble_eq_true rfl) (s_106 hI (fun c_2 y_5 hI_3 hF_4 hy_5 => (bk_inl (q_pop c_296_1291 rfl (q_aload_n c_296_1292 rfl (v_cv c_296_1293 km_9_216 rfl rfl (Nat.le_of_ble_eq_true rfl) ⟨⟨rfl, rfl⟩, Nat.le_of_ble_eq_true rfl, rfl⟩ (Nat.le_of_ble_eq_true rfl) (Nat.le_of_ble_eq_true rfl) (s_241 hI_3 (fun c_6 y_9 hI_7 hF_8 hy_9 => (bk_inl (q_pop c_296_1296 rfl ?_)))))))))))
  refine q_goto (t := 1816) c_296_1297 rfl (Wp_ls [(4, vi (i0 : Int)), (3, .ref 67), (2, .ref 41), (1, .ref 0), (0, .ref a_SC)] (lsub_cons rfl (lsub_cons rfl (lsub_cons rfl (lsub_cons rfl (lsub_cons rfl lsub_nil))))) ?_)
  have h_10 := ir_1_3 hI
  have kn_11 : Hid (c_2 1 3 = c 1 3) := hF_4 1 3 (qn_db0fa2040 hP)
  have kn_12 : Hid (c_6 1 3 = c 1 3) := (hF_8 1 3 qn_965711e77).trans (hid kn_11)
  have h_13 : c_6 1 3 = c 1 3 := (hid kn_12)
  have h_14 := ir_41_2 hI
  have kn_15 : Hid (c_2 41 2 = c 41 2) := hF_4 41 2 (qn_4d24c7afb hP)
  have kn_16 : Hid (c_6 41 2 = c 41 2) := (hF_8 41 2 qn_dd6cb5371).trans (hid kn_15)
  have h_17 : c_6 41 2 = c 41 2 := (hid kn_16)
  have kn_18 : Hid (c_2 P 0 = n0) := (hF_4 P 0 (fun q => q.elim (fun h => absurd h (p0p rfl)) (fun h => absurd h (p0p rfl)))).trans (hn0)
  have kn_19 : Hid (c_6 P 0 = n0) := (hF_8 P 0 (qn_82f5c699c hP)).trans (hid kn_18)
  have h_20 : c_6 P 0 = n0 := (hid kn_19)
  have kn_21 : Hid (c_2 41 20 = n0) := (hF_4 41 20 (qn_4d24c7afb hP)).trans (hm0)
  have kn_22 : Hid (c_6 41 20 = n0) := (hF_8 41 20 qn_4a675523d).trans (hid kn_21)
  have h_23 : c_6 41 20 = n0 := (hid kn_22)
  have kn_24 : Hid (c_2 P 1 = n1) := (hF_4 P 1 (fun q => q.elim (fun h => absurd h (p0p rfl)) (fun h => absurd h (p0p rfl)))).trans (hn1)
  have kn_25 : Hid (c_6 P 1 = n1) := (hF_8 P 1 (qn_82f5c699c hP)).trans (hid kn_24)
  have h_26 : c_6 P 1 = n1 := (hid kn_25)
  have kn_27 : Hid (c_2 41 21 = n1) := (hF_4 41 21 (qn_4d24c7afb hP)).trans (hm1)
  have kn_28 : Hid (c_6 41 21 = n1) := (hF_8 41 21 qn_b8c7ae319).trans (hid kn_27)
  have h_29 : c_6 41 21 = n1 := (hid kn_28)
  have kn_30 : Hid (c_2 P 2 = n2) := (hF_4 P 2 (fun q => q.elim (fun h => absurd h (p0p rfl)) (fun h => absurd h (p0p rfl)))).trans (hn2)
  have kn_31 : Hid (c_6 P 2 = n2) := (hF_8 P 2 (qn_82f5c699c hP)).trans (hid kn_30)
  have h_32 : c_6 P 2 = n2 := (hid kn_31)
  have kn_33 : Hid (c_2 41 22 = n2) := (hF_4 41 22 (qn_4d24c7afb hP)).trans (hm2)
  have kn_34 : Hid (c_6 41 22 = n2) := (hF_8 41 22 qn_6845dc871).trans (hid kn_33)
  have h_35 : c_6 41 22 = n2 := (hid kn_34)
  have kn_36 : Hid (c_2 P 3 = n3) := (hF_4 P 3 (fun q => q.elim (fun h => absurd h (p0p rfl)) (fun h => absurd h (p0p rfl)))).trans (hn3)
  have kn_37 : Hid (c_6 P 3 = n3) := (hF_8 P 3 (qn_82f5c699c hP)).trans (hid kn_36)
  have h_38 : c_6 P 3 = n3 := (hid kn_37)
  have kn_39 : Hid (c_2 41 23 = n3) := (hF_4 41 23 (qn_4d24c7afb hP)).trans (hm3)
  have kn_40 : Hid (c_6 41 23 = n3) := (hF_8 41 23 qn_d7f907dd2).trans (hid kn_39)
  have h_41 : c_6 41 23 = n3 := (hid kn_40)
  have kn_42 : Hid (c_2 3 4 = c 3 4) := hF_4 3 4 (qn_e1cff7f51 hP)
  have kn_43 : Hid (c_6 3 4 = c 3 4) := (hF_8 3 4 qn_9184c3c35).trans (hid kn_42)
  have h_44 : c_6 3 4 = c 3 4 := (hid kn_43)
  have h_45 := ir_41_52 hI
  have kn_46 : Hid (c_2 41 52 = c 41 52) := hF_4 41 52 (qn_4d24c7afb hP)
  have kn_47 : Hid (c_6 41 52 = c 41 52) := (hF_8 41 52 qn_fe8d01f7a).trans (hid kn_46)
  have h_48 : c_6 41 52 = c 41 52 := (hid kn_47)
  have h_49 := ir_3_3 hI
  have kn_50 : Hid (c_2 3 3 = c 3 3) := hF_4 3 3 (qn_e1cff7f51 hP)
  have kn_51 : Hid (c_6 3 3 = c 3 3) := (hF_8 3 3 qn_9184c3c35).trans (hid kn_50)
  have h_52 : c_6 3 3 = c 3 3 := (hid kn_51)
  have h_53 := ir_41_35 hI
  have kn_54 : Hid (c_2 41 35 = c 41 35) := hF_4 41 35 (qn_4d24c7afb hP)
  have kn_55 : Hid (c_6 41 35 = c 41 35) := (hF_8 41 35 qn_300bb1d4d).trans (hid kn_54)
  have h_56 : c_6 41 35 = c 41 35 := (hid kn_55)
  have h_57 : c_6 3 4 = c 3 4 := (hid kn_43)
  exact K P Q c_6 0 (by decide) hI_7 ⟨by omega, ub_fr hU (fun j => (hF_8 2 j qn_7bbf03f40).trans (hF_4 2 j (qn_389d7b966 hP))) (fun j => (hF_8 43 j qn_da8a66655).trans (hF_4 43 j (qn_afbd556c9 hP))), ⟨by omega, by omega, by omega, by omega⟩, by omega, by omega, iw_fr2 hIw (by omega) (fun j => (hF_8 6 j qn_aea755759).trans (hF_4 6 j (qn_4b8057cf3 hP))) (fun j => (hF_8 66 j qn_7c789e383).trans (hF_4 66 j (qn_6dde8fd4f hP)))⟩

set_option maxRecDepth 100000 in
set_option maxHeartbeats 4000000 in
theorem o_27 {xs : Nat → Int32} {L i0 d nc ns P Q : Nat} {c : ME} {Z : AR → Prop} (hi : i0 + 8 ≤ L) (hL : L ≤ 100000) (hI : Iv 0 (-1) P Q c) (hR : Rq P c) (K : ∀ (P2 Q2 : Nat) (c2 : ME) (e : Nat), e ≤ 1 → Iv 0 (-1) P2 Q2 c2 → (Rq P2 c2) → Wp (a_scr L xs) (d + 90) 296 1816 [(4, vi (i0 : Int)), (3, .ref 67), (2, .ref 41), (1, .ref 0), (0, .ref a_SC)] [] (Wd P2 Q2 P2 P2 c2) (nc + e) (ns + 6 * e) Z) : Wp (a_scr L xs) (d + 90) 296 1300 [(4, vi (i0 : Int)), (3, .ref 67), (2, .ref 41), (1, .ref 0), (0, .ref a_SC)] [] (Wd P Q P P c) nc ns Z := by
  obtain ⟨x1, hx1⟩ : ∃ z, (xs (i0 + 1)).toInt = z := ⟨_, rfl⟩
  have x1r := c_rng (xs (i0 + 1))
  rw [hx1] at x1r
  obtain ⟨x2, hx2⟩ : ∃ z, (xs (i0 + 2)).toInt = z := ⟨_, rfl⟩
  have x2r := c_rng (xs (i0 + 2))
  rw [hx2] at x2r
  obtain ⟨x3, hx3⟩ : ∃ z, (xs (i0 + 3)).toInt = z := ⟨_, rfl⟩
  have x3r := c_rng (xs (i0 + 3))
  rw [hx3] at x3r
  obtain ⟨x4, hx4⟩ : ∃ z, (xs (i0 + 4)).toInt = z := ⟨_, rfl⟩
  have x4r := c_rng (xs (i0 + 4))
  rw [hx4] at x4r
  obtain ⟨x5, hx5⟩ : ∃ z, (xs (i0 + 5)).toInt = z := ⟨_, rfl⟩
  have x5r := c_rng (xs (i0 + 5))
  rw [hx5] at x5r
  obtain ⟨x6, hx6⟩ : ∃ z, (xs (i0 + 6)).toInt = z := ⟨_, rfl⟩
  have x6r := c_rng (xs (i0 + 6))
  rw [hx6] at x6r
  obtain ⟨x7, hx7⟩ : ∃ z, (xs (i0 + 7)).toInt = z := ⟨_, rfl⟩
  have x7r := c_rng (xs (i0 + 7))
  rw [hx7] at x7r
  have hP := iv_P hI
  have hQ := iv_Q hI
  have hT := rl_t hR
  have hU := rl_u hR
  obtain ⟨n0, hn0⟩ : ∃ z, c P 0 = z := ⟨_, rfl⟩
  have hm0 : c 41 20 = n0 := (rl_nums hR).1.symm.trans hn0
  have hr0 := ir_p0_0 hI hP
  rw [hn0] at hr0
  obtain ⟨n1, hn1⟩ : ∃ z, c P 1 = z := ⟨_, rfl⟩
  have hm1 : c 41 21 = n1 := (rl_nums hR).2.1.symm.trans hn1
  have hr1 := ir_p0_1 hI hP
  rw [hn1] at hr1
  obtain ⟨n2, hn2⟩ : ∃ z, c P 2 = z := ⟨_, rfl⟩
  have hm2 : c 41 22 = n2 := (rl_nums hR).2.2.1.symm.trans hn2
  have hr2 := ir_p0_2 hI hP
  rw [hn2] at hr2
  obtain ⟨n3, hn3⟩ : ∃ z, c P 3 = z := ⟨_, rfl⟩
  have hm3 : c 41 23 = n3 := (rl_nums hR).2.2.2.symm.trans hn3
  have hr3 := ir_p0_3 hI hP
  rw [hn3] at hr3
  have hNimg := rl_img hR
  have hNwk := rl_wk hR
  have h_1 := ir_3_4 hI
  have hIw := rl_iw hR
  refine q_aload_n c_296_1300 rfl (q_aload_n c_296_1301 rfl (q_iload c_296_1302 rfl (q_iconst c_296_1304 (v_iadd (v := (i0 : Int) + 1) c_296_1305 rfl (v_scr (j := i0 + 1) c_296_1306 (by omega) (by omega) hL hx1 (q_aload_n c_296_1307 rfl (q_iload c_296_1308 rfl ?_)))))))
  refine q_iconst c_296_1310 (v_iadd (v := (i0 : Int) + 2) c_296_1311 rfl (v_scr (j := i0 + 2) c_296_1312 (by omega) (by omega) hL hx2 (q_aload_n c_296_1313 rfl (q_call c_296_1314 rfl rfl rfl (q_aload_n c_286_0 rfl (q_iconst c_286_1 (q_aload_n c_286_2 rfl ?_)))))))
  refine q_iload_n c_286_3 rfl (q_iload_n c_286_4 rfl ?_)
  refine v_cv c_286_5 km_9_87 rfl rfl (Nat.le_of_ble_eq_true rfl) ⟨⟨rfl, rfl⟩, Nat.le_of_ble_eq_true rfl, rfl⟩ (Nat.le_of_ble_eq_true rfl) (Nat.le_of_ble_eq_true rfl) (s_108 (a1 := x1) (a2 := x2) hI (show (-2147483648) ≤ x1 ∧ x1 ≤ 2147483647 from ⟨by omega, by omega⟩) (show (-2147483648) ≤ x2 ∧ x2 ≤ 2147483647 from ⟨by omega, by omega⟩) (fun c_2 hI_3 hF_4 => ?_) (fun c_5 y_8 hI_6 hF_7 hy_8 => ?_))
  · skip
    refine bk_thr (z := Int32.ofInt 1) rfl ⟨_, _, rfl⟩ rfl (bk_inl (q_istore c_296_1317 (Nat.le_of_ble_eq_true rfl) (q_aload_n c_296_1319 rfl (q_aload_n c_296_1320 rfl (q_iload c_296_1321 rfl (q_iconst c_296_1323 (v_iadd (v := (i0 : Int) + 1) c_296_1324 rfl ?_)))))))
    refine v_scr (j := i0 + 1) c_296_1325 (by omega) (by omega) hL hx1 (q_aload_n c_296_1326 rfl (q_iload c_296_1327 rfl (q_iconst c_296_1329 (v_iadd (v := (i0 : Int) + 2) c_296_1330 rfl (v_scr (j := i0 + 2) c_296_1331 (by omega) (by omega) hL hx2 (v_cv c_296_1332 km_9_219 rfl rfl (Nat.le_of_ble_eq_true rfl) ⟨⟨rfl, rfl⟩, Nat.le_of_ble_eq_true rfl, rfl⟩ (Nat.le_of_ble_eq_true rfl) (Nat.le_of_ble_eq_true rfl) (s_242 (a1 := x1) (a2 := x2) hI_3 (show (-2147483648) ≤ x1 ∧ x1 ≤ 2147483647 from ⟨by omega, by omega⟩) (show (-2147483648) ≤ x2 ∧ x2 ≤ 2147483647 from ⟨by omega, by omega⟩) (fun c_9 y_12 hI_10 hF_11 hy_12 => (bk_inl ?_)))))))))
    refine q_istore c_296_1335 (Nat.le_of_ble_eq_true rfl) (q_goto (t := 1816) c_296_1337 rfl (Wp_ls [(4, vi (i0 : Int)), (3, .ref 67), (2, .ref 41), (1, .ref 0), (0, .ref a_SC)] (lsub_cons rfl (lsub_cons rfl (lsub_cons rfl (lsub_cons rfl (lsub_cons rfl lsub_nil))))) ?_))
    have h_13 := ir_1_3 hI
    have kn_14 : Hid (c_2 1 3 = c 1 3) := hF_4 1 3 (qn_bcb6129a7 hP)
    have kn_15 : Hid (c_9 1 3 = c 1 3) := (hF_11 1 3 qn_44683f5fa).trans (hid kn_14)
    have h_16 : c_9 1 3 = c 1 3 := (hid kn_15)
    have h_17 := ir_41_2 hI
    have kn_18 : Hid (c_2 41 2 = c 41 2) := hF_4 41 2 (qn_c1b212892 hP)
    have kn_19 : Hid (c_9 41 2 = c 41 2) := (hF_11 41 2 qn_7a112a690).trans (hid kn_18)
    have h_20 : c_9 41 2 = c 41 2 := (hid kn_19)
    have kn_21 : Hid (c_2 P 0 = n0) := (hF_4 P 0 (qn_f8aa6ac5f hP)).trans (hn0)
    have kn_22 : Hid (c_9 P 0 = n0) := (hF_11 P 0 (qn_70fec742f hP)).trans (hid kn_21)
    have h_23 : c_9 P 0 = n0 := (hid kn_22)
    have kn_24 : Hid (c_2 41 20 = n0) := (hF_4 41 20 (qn_c1b212892 hP)).trans (hm0)
    have kn_25 : Hid (c_9 41 20 = n0) := (hF_11 41 20 qn_d0753a96c).trans (hid kn_24)
    have h_26 : c_9 41 20 = n0 := (hid kn_25)
    have kn_27 : Hid (c_2 P 1 = n1) := (hF_4 P 1 (qn_f8aa6ac5f hP)).trans (hn1)
    have kn_28 : Hid (c_9 P 1 = n1) := (hF_11 P 1 (qn_70fec742f hP)).trans (hid kn_27)
    have h_29 : c_9 P 1 = n1 := (hid kn_28)
    have kn_30 : Hid (c_2 41 21 = n1) := (hF_4 41 21 (qn_c1b212892 hP)).trans (hm1)
    have kn_31 : Hid (c_9 41 21 = n1) := (hF_11 41 21 qn_2dba34809).trans (hid kn_30)
    have h_32 : c_9 41 21 = n1 := (hid kn_31)
    have kn_33 : Hid (c_2 P 2 = n2) := (hF_4 P 2 (qn_f8aa6ac5f hP)).trans (hn2)
    have kn_34 : Hid (c_9 P 2 = n2) := (hF_11 P 2 (qn_70fec742f hP)).trans (hid kn_33)
    have h_35 : c_9 P 2 = n2 := (hid kn_34)
    have kn_36 : Hid (c_2 41 22 = n2) := (hF_4 41 22 (qn_c1b212892 hP)).trans (hm2)
    have kn_37 : Hid (c_9 41 22 = n2) := (hF_11 41 22 qn_0d1137165).trans (hid kn_36)
    have h_38 : c_9 41 22 = n2 := (hid kn_37)
    have kn_39 : Hid (c_2 P 3 = n3) := (hF_4 P 3 (qn_f8aa6ac5f hP)).trans (hn3)
    have kn_40 : Hid (c_9 P 3 = n3) := (hF_11 P 3 (qn_70fec742f hP)).trans (hid kn_39)
    have h_41 : c_9 P 3 = n3 := (hid kn_40)
    have kn_42 : Hid (c_2 41 23 = n3) := (hF_4 41 23 (qn_c1b212892 hP)).trans (hm3)
    have kn_43 : Hid (c_9 41 23 = n3) := (hF_11 41 23 qn_ca1c2b99e).trans (hid kn_42)
    have h_44 : c_9 41 23 = n3 := (hid kn_43)
    have kn_45 : Hid (c_2 3 4 = c 3 4) := hF_4 3 4 (qn_116ab97cc hP)
    have kn_46 : Hid (c_9 3 4 = c 3 4) := (hF_11 3 4 qn_85f7f5516).trans (hid kn_45)
    have h_47 : c_9 3 4 = c 3 4 := (hid kn_46)
    have h_48 := ir_41_52 hI
    have kn_49 : Hid (c_2 41 52 = c 41 52) := hF_4 41 52 (qn_c1b212892 hP)
    have kn_50 : Hid (c_9 41 52 = c 41 52) := (hF_11 41 52 qn_23bb338dd).trans (hid kn_49)
    have h_51 : c_9 41 52 = c 41 52 := (hid kn_50)
    have h_52 := ir_3_3 hI
    have kn_53 : Hid (c_2 3 3 = c 3 3) := hF_4 3 3 (qn_116ab97cc hP)
    have kn_54 : Hid (c_9 3 3 = c 3 3) := (hF_11 3 3 qn_85f7f5516).trans (hid kn_53)
    have h_55 : c_9 3 3 = c 3 3 := (hid kn_54)
    have h_56 := ir_41_35 hI
    have kn_57 : Hid (c_2 41 35 = c 41 35) := hF_4 41 35 (qn_c1b212892 hP)
    have kn_58 : Hid (c_9 41 35 = c 41 35) := (hF_11 41 35 qn_8b6342d8f).trans (hid kn_57)
    have h_59 : c_9 41 35 = c 41 35 := (hid kn_58)
    have h_60 : c_9 3 4 = c 3 4 := (hid kn_46)
    exact K P Q c_9 1 (by decide) hI_10 ⟨by omega, ub_fr hU (fun j => (hF_11 2 j qn_d0e66b3bf).trans (hF_4 2 j (qn_c44a51550 hP))) (fun j => (hF_11 43 j qn_5a77d9750).trans (hF_4 43 j (qn_2e57cdabe hP))), ⟨by omega, by omega, by omega, by omega⟩, by omega, by omega, iw_fr2 hIw (by omega) (fun j => (hF_11 6 j qn_1f8406493).trans (hF_4 6 j (qn_5ecb26ba6 hP))) (fun j => (hF_11 66 j qn_02ce421cc).trans (hF_4 66 j (qn_7018f8751 hP)))⟩
  refine bk_inl (v_i2l c_286_8 (by omega) (v_ls c_286_9 rfl (by decide) (by decide) (by decide) (q_goto (t := 17) c_286_10 rfl (q_iconst c_286_17 (q_iret c_286_18 rfl (bk_inl (q_istore c_296_1317 (Nat.le_of_ble_eq_true rfl) ?_)))))))
  refine q_aload_n c_296_1319 rfl (q_aload_n c_296_1320 rfl (q_iload c_296_1321 rfl (q_iconst c_296_1323 (v_iadd (v := (i0 : Int) + 1) c_296_1324 rfl (v_scr (j := i0 + 1) c_296_1325 (by omega) (by omega) hL hx1 (q_aload_n c_296_1326 rfl (q_iload c_296_1327 rfl ?_)))))))
  refine q_iconst c_296_1329 (v_iadd (v := (i0 : Int) + 2) c_296_1330 rfl (v_scr (j := i0 + 2) c_296_1331 (by omega) (by omega) hL hx2 ?_))
  have hI_61 := iw_lx (a := 67) (j := 0) (v := y_8) hI_6 (by omega)
  refine v_cv c_296_1332 km_9_219 rfl rfl (Nat.le_of_ble_eq_true rfl) ⟨⟨rfl, rfl⟩, Nat.le_of_ble_eq_true rfl, rfl⟩ (Nat.le_of_ble_eq_true rfl) (Nat.le_of_ble_eq_true rfl) (s_242 (a1 := x1) (a2 := x2) hI_61 (show (-2147483648) ≤ x1 ∧ x1 ≤ 2147483647 from ⟨by omega, by omega⟩) (show (-2147483648) ≤ x2 ∧ x2 ≤ 2147483647 from ⟨by omega, by omega⟩) (fun c_62 y_65 hI_63 hF_64 hy_65 => (bk_inl (q_istore c_296_1335 (Nat.le_of_ble_eq_true rfl) (q_goto (t := 1816) c_296_1337 rfl (Wp_ls [(4, vi (i0 : Int)), (3, .ref 67), (2, .ref 41), (1, .ref 0), (0, .ref a_SC)] (lsub_cons rfl (lsub_cons rfl (lsub_cons rfl (lsub_cons rfl (lsub_cons rfl lsub_nil))))) ?_))))))
  have h_66 := ir_1_3 hI
  have kn_67 : Hid (c_5 1 3 = c 1 3) := hF_7 1 3 (qn_bcb6129a7 hP)
  have kn_68 : Hid (c_62 1 3 = c 1 3) := (hF_64 1 3 qn_44683f5fa).trans ((up_c (nn rfl)).trans (hid kn_67))
  have h_69 : c_62 1 3 = c 1 3 := (hid kn_68)
  have h_70 := ir_41_2 hI
  have kn_71 : Hid (c_5 41 2 = c 41 2) := hF_7 41 2 (qn_c1b212892 hP)
  have kn_72 : Hid (c_62 41 2 = c 41 2) := (hF_64 41 2 qn_7a112a690).trans ((up_c (nn rfl)).trans (hid kn_71))
  have h_73 : c_62 41 2 = c 41 2 := (hid kn_72)
  have kn_74 : Hid (c_5 P 0 = n0) := (hF_7 P 0 (qn_f8aa6ac5f hP)).trans (hn0)
  have kn_75 : Hid (c_62 P 0 = n0) := (hF_64 P 0 (qn_70fec742f hP)).trans ((up_c (np0 hP rfl)).trans (hid kn_74))
  have h_76 : c_62 P 0 = n0 := (hid kn_75)
  have kn_77 : Hid (c_5 41 20 = n0) := (hF_7 41 20 (qn_c1b212892 hP)).trans (hm0)
  have kn_78 : Hid (c_62 41 20 = n0) := (hF_64 41 20 qn_d0753a96c).trans ((up_c (nn rfl)).trans (hid kn_77))
  have h_79 : c_62 41 20 = n0 := (hid kn_78)
  have kn_80 : Hid (c_5 P 1 = n1) := (hF_7 P 1 (qn_f8aa6ac5f hP)).trans (hn1)
  have kn_81 : Hid (c_62 P 1 = n1) := (hF_64 P 1 (qn_70fec742f hP)).trans ((up_c (np0 hP rfl)).trans (hid kn_80))
  have h_82 : c_62 P 1 = n1 := (hid kn_81)
  have kn_83 : Hid (c_5 41 21 = n1) := (hF_7 41 21 (qn_c1b212892 hP)).trans (hm1)
  have kn_84 : Hid (c_62 41 21 = n1) := (hF_64 41 21 qn_2dba34809).trans ((up_c (nn rfl)).trans (hid kn_83))
  have h_85 : c_62 41 21 = n1 := (hid kn_84)
  have kn_86 : Hid (c_5 P 2 = n2) := (hF_7 P 2 (qn_f8aa6ac5f hP)).trans (hn2)
  have kn_87 : Hid (c_62 P 2 = n2) := (hF_64 P 2 (qn_70fec742f hP)).trans ((up_c (np0 hP rfl)).trans (hid kn_86))
  have h_88 : c_62 P 2 = n2 := (hid kn_87)
  have kn_89 : Hid (c_5 41 22 = n2) := (hF_7 41 22 (qn_c1b212892 hP)).trans (hm2)
  have kn_90 : Hid (c_62 41 22 = n2) := (hF_64 41 22 qn_0d1137165).trans ((up_c (nn rfl)).trans (hid kn_89))
  have h_91 : c_62 41 22 = n2 := (hid kn_90)
  have kn_92 : Hid (c_5 P 3 = n3) := (hF_7 P 3 (qn_f8aa6ac5f hP)).trans (hn3)
  have kn_93 : Hid (c_62 P 3 = n3) := (hF_64 P 3 (qn_70fec742f hP)).trans ((up_c (np0 hP rfl)).trans (hid kn_92))
  have h_94 : c_62 P 3 = n3 := (hid kn_93)
  have kn_95 : Hid (c_5 41 23 = n3) := (hF_7 41 23 (qn_c1b212892 hP)).trans (hm3)
  have kn_96 : Hid (c_62 41 23 = n3) := (hF_64 41 23 qn_ca1c2b99e).trans ((up_c (nn rfl)).trans (hid kn_95))
  have h_97 : c_62 41 23 = n3 := (hid kn_96)
  have kn_98 : Hid (c_5 3 4 = c 3 4) := hF_7 3 4 (qn_116ab97cc hP)
  have kn_99 : Hid (c_62 3 4 = c 3 4) := (hF_64 3 4 qn_85f7f5516).trans ((up_c (nn rfl)).trans (hid kn_98))
  have h_100 : c_62 3 4 = c 3 4 := (hid kn_99)
  have h_101 := ir_41_52 hI
  have kn_102 : Hid (c_5 41 52 = c 41 52) := hF_7 41 52 (qn_c1b212892 hP)
  have kn_103 : Hid (c_62 41 52 = c 41 52) := (hF_64 41 52 qn_23bb338dd).trans ((up_c (nn rfl)).trans (hid kn_102))
  have h_104 : c_62 41 52 = c 41 52 := (hid kn_103)
  have h_105 := ir_3_3 hI
  have kn_106 : Hid (c_5 3 3 = c 3 3) := hF_7 3 3 (qn_116ab97cc hP)
  have kn_107 : Hid (c_62 3 3 = c 3 3) := (hF_64 3 3 qn_85f7f5516).trans ((up_c (nn rfl)).trans (hid kn_106))
  have h_108 : c_62 3 3 = c 3 3 := (hid kn_107)
  have h_109 := ir_41_35 hI
  have kn_110 : Hid (c_5 41 35 = c 41 35) := hF_7 41 35 (qn_c1b212892 hP)
  have kn_111 : Hid (c_62 41 35 = c 41 35) := (hF_64 41 35 qn_8b6342d8f).trans ((up_c (nn rfl)).trans (hid kn_110))
  have h_112 : c_62 41 35 = c 41 35 := (hid kn_111)
  have h_113 : c_62 3 4 = c 3 4 := (hid kn_99)
  exact K P Q c_62 0 (by decide) hI_63 ⟨by omega, ub_fr hU (fun j => (hF_64 2 j qn_d0e66b3bf).trans ((up_c (nn rfl)).trans (hF_7 2 j (qn_c44a51550 hP)))) (fun j => (hF_64 43 j qn_5a77d9750).trans ((up_c (nn rfl)).trans (hF_7 43 j (qn_2e57cdabe hP)))), ⟨by omega, by omega, by omega, by omega⟩, by omega, by omega, iw_fr2 hIw (by omega) (fun j => (hF_64 6 j qn_1f8406493).trans ((up_c (nn rfl)).trans (hF_7 6 j (qn_5ecb26ba6 hP)))) (fun j => (hF_64 66 j qn_02ce421cc).trans ((up_c (nn rfl)).trans (hF_7 66 j (qn_7018f8751 hP))))⟩

set_option maxRecDepth 100000 in
set_option maxHeartbeats 4000000 in
theorem o_28 {xs : Nat → Int32} {L i0 d nc ns P Q : Nat} {c : ME} {Z : AR → Prop} (hi : i0 + 8 ≤ L) (hL : L ≤ 100000) (hI : Iv 0 (-1) P Q c) (hR : Rq P c) (K : ∀ (P2 Q2 : Nat) (c2 : ME) (e : Nat), e ≤ 1 → Iv 0 (-1) P2 Q2 c2 → (Rq P2 c2) → Wp (a_scr L xs) (d + 90) 296 1816 [(4, vi (i0 : Int)), (3, .ref 67), (2, .ref 41), (1, .ref 0), (0, .ref a_SC)] [] (Wd P2 Q2 P2 P2 c2) (nc + e) (ns + 6 * e) Z) : Wp (a_scr L xs) (d + 90) 296 1340 [(4, vi (i0 : Int)), (3, .ref 67), (2, .ref 41), (1, .ref 0), (0, .ref a_SC)] [] (Wd P Q P P c) nc ns Z := by
  obtain ⟨x1, hx1⟩ : ∃ z, (xs (i0 + 1)).toInt = z := ⟨_, rfl⟩
  have x1r := c_rng (xs (i0 + 1))
  rw [hx1] at x1r
  obtain ⟨x2, hx2⟩ : ∃ z, (xs (i0 + 2)).toInt = z := ⟨_, rfl⟩
  have x2r := c_rng (xs (i0 + 2))
  rw [hx2] at x2r
  obtain ⟨x3, hx3⟩ : ∃ z, (xs (i0 + 3)).toInt = z := ⟨_, rfl⟩
  have x3r := c_rng (xs (i0 + 3))
  rw [hx3] at x3r
  obtain ⟨x4, hx4⟩ : ∃ z, (xs (i0 + 4)).toInt = z := ⟨_, rfl⟩
  have x4r := c_rng (xs (i0 + 4))
  rw [hx4] at x4r
  obtain ⟨x5, hx5⟩ : ∃ z, (xs (i0 + 5)).toInt = z := ⟨_, rfl⟩
  have x5r := c_rng (xs (i0 + 5))
  rw [hx5] at x5r
  obtain ⟨x6, hx6⟩ : ∃ z, (xs (i0 + 6)).toInt = z := ⟨_, rfl⟩
  have x6r := c_rng (xs (i0 + 6))
  rw [hx6] at x6r
  obtain ⟨x7, hx7⟩ : ∃ z, (xs (i0 + 7)).toInt = z := ⟨_, rfl⟩
  have x7r := c_rng (xs (i0 + 7))
  rw [hx7] at x7r
  have hP := iv_P hI
  have hQ := iv_Q hI
  have hT := rl_t hR
  have hU := rl_u hR
  obtain ⟨n0, hn0⟩ : ∃ z, c P 0 = z := ⟨_, rfl⟩
  have hm0 : c 41 20 = n0 := (rl_nums hR).1.symm.trans hn0
  have hr0 := ir_p0_0 hI hP
  rw [hn0] at hr0
  obtain ⟨n1, hn1⟩ : ∃ z, c P 1 = z := ⟨_, rfl⟩
  have hm1 : c 41 21 = n1 := (rl_nums hR).2.1.symm.trans hn1
  have hr1 := ir_p0_1 hI hP
  rw [hn1] at hr1
  obtain ⟨n2, hn2⟩ : ∃ z, c P 2 = z := ⟨_, rfl⟩
  have hm2 : c 41 22 = n2 := (rl_nums hR).2.2.1.symm.trans hn2
  have hr2 := ir_p0_2 hI hP
  rw [hn2] at hr2
  obtain ⟨n3, hn3⟩ : ∃ z, c P 3 = z := ⟨_, rfl⟩
  have hm3 : c 41 23 = n3 := (rl_nums hR).2.2.2.symm.trans hn3
  have hr3 := ir_p0_3 hI hP
  rw [hn3] at hr3
  have hNimg := rl_img hR
  have hNwk := rl_wk hR
  have h_1 := ir_3_4 hI
  have hIw := rl_iw hR
  refine q_aload_n c_296_1340 rfl (v_cv c_296_1341 km_9_220 rfl rfl (Nat.le_of_ble_eq_true rfl) ⟨⟨rfl, rfl⟩, Nat.le_of_ble_eq_true rfl, rfl⟩ (Nat.le_of_ble_eq_true rfl) (Nat.le_of_ble_eq_true rfl) (s_101 hI (fun y_2 hy_2 => (bk_inl (q_pop c_296_1344 rfl (q_aload_n c_296_1345 rfl (v_cv c_296_1346 km_9_223 rfl rfl (Nat.le_of_ble_eq_true rfl) ⟨⟨rfl, rfl⟩, Nat.le_of_ble_eq_true rfl, rfl⟩ (Nat.le_of_ble_eq_true rfl) (Nat.le_of_ble_eq_true rfl) (s_243 hI (fun c_3 y_6 hI_4 hF_5 hy_6 => (bk_inl (q_pop c_296_1349 rfl ?_)))))))))))
  refine q_goto (t := 1816) c_296_1350 rfl (Wp_ls [(4, vi (i0 : Int)), (3, .ref 67), (2, .ref 41), (1, .ref 0), (0, .ref a_SC)] (lsub_cons rfl (lsub_cons rfl (lsub_cons rfl (lsub_cons rfl (lsub_cons rfl lsub_nil))))) ?_)
  have h_7 := ir_1_3 hI
  have kn_8 : Hid (c_3 1 3 = c 1 3) := hF_5 1 3 (fun q => q.elim (fun h => absurd h.1 (nn rfl)) (fun h => absurd h (nn rfl)))
  have h_9 : c_3 1 3 = c 1 3 := (hid kn_8)
  have h_10 := ir_41_2 hI
  have kn_11 : Hid (c_3 41 2 = c 41 2) := hF_5 41 2 (fun q => q.elim (fun h => absurd h.2 (ni rfl)) (fun h => absurd h (nn rfl)))
  have h_12 : c_3 41 2 = c 41 2 := (hid kn_11)
  have kn_13 : Hid (c_3 P 0 = n0) := (hF_5 P 0 (qn_f78771b97 hP)).trans (hn0)
  have h_14 : c_3 P 0 = n0 := (hid kn_13)
  have kn_15 : Hid (c_3 41 20 = n0) := (hF_5 41 20 (fun q => q.elim (fun h => absurd h.2 (ni rfl)) (fun h => absurd h (nn rfl)))).trans (hm0)
  have h_16 : c_3 41 20 = n0 := (hid kn_15)
  have kn_17 : Hid (c_3 P 1 = n1) := (hF_5 P 1 (qn_f78771b97 hP)).trans (hn1)
  have h_18 : c_3 P 1 = n1 := (hid kn_17)
  have kn_19 : Hid (c_3 41 21 = n1) := (hF_5 41 21 (fun q => q.elim (fun h => absurd h.2 (ni rfl)) (fun h => absurd h (nn rfl)))).trans (hm1)
  have h_20 : c_3 41 21 = n1 := (hid kn_19)
  have kn_21 : Hid (c_3 P 2 = n2) := (hF_5 P 2 (qn_f78771b97 hP)).trans (hn2)
  have h_22 : c_3 P 2 = n2 := (hid kn_21)
  have kn_23 : Hid (c_3 41 22 = n2) := (hF_5 41 22 (fun q => q.elim (fun h => absurd h.2 (ni rfl)) (fun h => absurd h (nn rfl)))).trans (hm2)
  have h_24 : c_3 41 22 = n2 := (hid kn_23)
  have kn_25 : Hid (c_3 P 3 = n3) := (hF_5 P 3 (qn_f78771b97 hP)).trans (hn3)
  have h_26 : c_3 P 3 = n3 := (hid kn_25)
  have kn_27 : Hid (c_3 41 23 = n3) := (hF_5 41 23 (fun q => q.elim (fun h => absurd h.2 (ni rfl)) (fun h => absurd h (nn rfl)))).trans (hm3)
  have h_28 : c_3 41 23 = n3 := (hid kn_27)
  have kn_29 : Hid (c_3 3 4 = c 3 4) := hF_5 3 4 (fun q => q.elim (fun h => absurd h.1 (nn rfl)) (fun h => absurd h (nn rfl)))
  have h_30 : c_3 3 4 = c 3 4 := (hid kn_29)
  have h_31 := ir_41_52 hI
  have kn_32 : Hid (c_3 41 52 = c 41 52) := hF_5 41 52 (fun q => q.elim (fun h => absurd h.2 (ni rfl)) (fun h => absurd h (nn rfl)))
  have h_33 : c_3 41 52 = c 41 52 := (hid kn_32)
  have h_34 := ir_3_3 hI
  have kn_35 : Hid (c_3 3 3 = c 3 3) := hF_5 3 3 (fun q => q.elim (fun h => absurd h.1 (nn rfl)) (fun h => absurd h (nn rfl)))
  have h_36 : c_3 3 3 = c 3 3 := (hid kn_35)
  have h_37 := ir_41_35 hI
  have kn_38 : Hid (c_3 41 35 = c 41 35) := hF_5 41 35 (fun q => q.elim (fun h => absurd h.2 (ni rfl)) (fun h => absurd h (nn rfl)))
  have h_39 : c_3 41 35 = c 41 35 := (hid kn_38)
  have h_40 : c_3 3 4 = c 3 4 := (hid kn_29)
  exact K P Q c_3 0 (by decide) hI_4 ⟨by omega, ub_fr hU (fun j => hF_5 2 j (fun q => q.elim (fun h => absurd h.1 (nn rfl)) (fun h => absurd h (nn rfl)))) (fun j => hF_5 43 j (fun q => q.elim (fun h => absurd h.1 (nn rfl)) (fun h => absurd h (nn rfl)))), ⟨by omega, by omega, by omega, by omega⟩, by omega, by omega, iw_fr2 hIw (by omega) (fun j => hF_5 6 j (fun q => q.elim (fun h => absurd h.1 (nn rfl)) (fun h => absurd h (nn rfl)))) (fun j => hF_5 66 j (fun q => q.elim (fun h => absurd h.1 (nn rfl)) (fun h => absurd h (nn rfl))))⟩

set_option maxRecDepth 100000 in
set_option maxHeartbeats 4000000 in
theorem o_29 {xs : Nat → Int32} {L i0 d nc ns P Q : Nat} {c : ME} {Z : AR → Prop} (hi : i0 + 8 ≤ L) (hL : L ≤ 100000) (hI : Iv 0 (-1) P Q c) (hR : Rq P c) (K : ∀ (P2 Q2 : Nat) (c2 : ME) (e : Nat), e ≤ 1 → Iv 0 (-1) P2 Q2 c2 → (Rq P2 c2) → Wp (a_scr L xs) (d + 90) 296 1816 [(4, vi (i0 : Int)), (3, .ref 67), (2, .ref 41), (1, .ref 0), (0, .ref a_SC)] [] (Wd P2 Q2 P2 P2 c2) (nc + e) (ns + 6 * e) Z) : Wp (a_scr L xs) (d + 90) 296 1353 [(4, vi (i0 : Int)), (3, .ref 67), (2, .ref 41), (1, .ref 0), (0, .ref a_SC)] [] (Wd P Q P P c) nc ns Z := by
  obtain ⟨x1, hx1⟩ : ∃ z, (xs (i0 + 1)).toInt = z := ⟨_, rfl⟩
  have x1r := c_rng (xs (i0 + 1))
  rw [hx1] at x1r
  obtain ⟨x2, hx2⟩ : ∃ z, (xs (i0 + 2)).toInt = z := ⟨_, rfl⟩
  have x2r := c_rng (xs (i0 + 2))
  rw [hx2] at x2r
  obtain ⟨x3, hx3⟩ : ∃ z, (xs (i0 + 3)).toInt = z := ⟨_, rfl⟩
  have x3r := c_rng (xs (i0 + 3))
  rw [hx3] at x3r
  obtain ⟨x4, hx4⟩ : ∃ z, (xs (i0 + 4)).toInt = z := ⟨_, rfl⟩
  have x4r := c_rng (xs (i0 + 4))
  rw [hx4] at x4r
  obtain ⟨x5, hx5⟩ : ∃ z, (xs (i0 + 5)).toInt = z := ⟨_, rfl⟩
  have x5r := c_rng (xs (i0 + 5))
  rw [hx5] at x5r
  obtain ⟨x6, hx6⟩ : ∃ z, (xs (i0 + 6)).toInt = z := ⟨_, rfl⟩
  have x6r := c_rng (xs (i0 + 6))
  rw [hx6] at x6r
  obtain ⟨x7, hx7⟩ : ∃ z, (xs (i0 + 7)).toInt = z := ⟨_, rfl⟩
  have x7r := c_rng (xs (i0 + 7))
  rw [hx7] at x7r
  have hP := iv_P hI
  have hQ := iv_Q hI
  have hT := rl_t hR
  have hU := rl_u hR
  obtain ⟨n0, hn0⟩ : ∃ z, c P 0 = z := ⟨_, rfl⟩
  have hm0 : c 41 20 = n0 := (rl_nums hR).1.symm.trans hn0
  have hr0 := ir_p0_0 hI hP
  rw [hn0] at hr0
  obtain ⟨n1, hn1⟩ : ∃ z, c P 1 = z := ⟨_, rfl⟩
  have hm1 : c 41 21 = n1 := (rl_nums hR).2.1.symm.trans hn1
  have hr1 := ir_p0_1 hI hP
  rw [hn1] at hr1
  obtain ⟨n2, hn2⟩ : ∃ z, c P 2 = z := ⟨_, rfl⟩
  have hm2 : c 41 22 = n2 := (rl_nums hR).2.2.1.symm.trans hn2
  have hr2 := ir_p0_2 hI hP
  rw [hn2] at hr2
  obtain ⟨n3, hn3⟩ : ∃ z, c P 3 = z := ⟨_, rfl⟩
  have hm3 : c 41 23 = n3 := (rl_nums hR).2.2.2.symm.trans hn3
  have hr3 := ir_p0_3 hI hP
  rw [hn3] at hr3
  have hNimg := rl_img hR
  have hNwk := rl_wk hR
  have h_1 := ir_3_4 hI
  have hIw := rl_iw hR
  refine q_aload_n c_296_1353 rfl (q_aload_n c_296_1354 rfl (q_iload c_296_1355 rfl (q_iconst c_296_1357 (v_iadd (v := (i0 : Int) + 1) c_296_1358 rfl (v_scr (j := i0 + 1) c_296_1359 (by omega) (by omega) hL hx1 (q_aload_n c_296_1360 rfl (q_call c_296_1361 rfl rfl rfl ?_)))))))
  refine q_aload_n c_287_0 rfl (q_iconst c_287_1 (q_aload_n c_287_2 rfl (q_iload_n c_287_3 rfl ?_)))
  refine v_cv c_287_4 km_9_90 rfl rfl (Nat.le_of_ble_eq_true rfl) ⟨⟨rfl, rfl⟩, Nat.le_of_ble_eq_true rfl, rfl⟩ (Nat.le_of_ble_eq_true rfl) (Nat.le_of_ble_eq_true rfl) (s_109 (a1 := x1) hI (show (-2147483648) ≤ x1 ∧ x1 ≤ 2147483647 from ⟨by omega, by omega⟩) (fun c_2 hI_3 hF_4 => ?_) (fun c_5 y_8 hI_6 hF_7 hy_8 => ?_))
  · skip
    refine bk_thr (z := Int32.ofInt 1) rfl ⟨_, _, rfl⟩ rfl (bk_inl (q_istore c_296_1364 (Nat.le_of_ble_eq_true rfl) (q_aload_n c_296_1366 rfl (q_aload_n c_296_1367 rfl (q_iload c_296_1368 rfl (q_iconst c_296_1370 (v_iadd (v := (i0 : Int) + 1) c_296_1371 rfl ?_)))))))
    refine v_scr (j := i0 + 1) c_296_1372 (by omega) (by omega) hL hx1 (v_cv c_296_1373 km_9_226 rfl rfl (Nat.le_of_ble_eq_true rfl) ⟨⟨rfl, rfl⟩, Nat.le_of_ble_eq_true rfl, rfl⟩ (Nat.le_of_ble_eq_true rfl) (Nat.le_of_ble_eq_true rfl) (s_244 (a1 := x1) hI_3 (show (-2147483648) ≤ x1 ∧ x1 ≤ 2147483647 from ⟨by omega, by omega⟩) (fun c_9 y_12 hI_10 hF_11 hy_12 => (bk_inl (q_istore c_296_1376 (Nat.le_of_ble_eq_true rfl) (q_goto (t := 1816) c_296_1378 rfl (Wp_ls [(4, vi (i0 : Int)), (3, .ref 67), (2, .ref 41), (1, .ref 0), (0, .ref a_SC)] (lsub_cons rfl (lsub_cons rfl (lsub_cons rfl (lsub_cons rfl (lsub_cons rfl lsub_nil))))) ?_)))))))
    have h_13 := ir_1_3 hI
    have kn_14 : Hid (c_2 1 3 = c 1 3) := hF_4 1 3 (qn_bcb6129a7 hP)
    have kn_15 : Hid (c_9 1 3 = c 1 3) := (hF_11 1 3 qn_44683f5fa).trans (hid kn_14)
    have h_16 : c_9 1 3 = c 1 3 := (hid kn_15)
    have h_17 := ir_41_2 hI
    have kn_18 : Hid (c_2 41 2 = c 41 2) := hF_4 41 2 (qn_c1b212892 hP)
    have kn_19 : Hid (c_9 41 2 = c 41 2) := (hF_11 41 2 qn_7a112a690).trans (hid kn_18)
    have h_20 : c_9 41 2 = c 41 2 := (hid kn_19)
    have kn_21 : Hid (c_2 P 0 = n0) := (hF_4 P 0 (qn_f8aa6ac5f hP)).trans (hn0)
    have kn_22 : Hid (c_9 P 0 = n0) := (hF_11 P 0 (qn_70fec742f hP)).trans (hid kn_21)
    have h_23 : c_9 P 0 = n0 := (hid kn_22)
    have kn_24 : Hid (c_2 41 20 = n0) := (hF_4 41 20 (qn_c1b212892 hP)).trans (hm0)
    have kn_25 : Hid (c_9 41 20 = n0) := (hF_11 41 20 qn_d0753a96c).trans (hid kn_24)
    have h_26 : c_9 41 20 = n0 := (hid kn_25)
    have kn_27 : Hid (c_2 P 1 = n1) := (hF_4 P 1 (qn_f8aa6ac5f hP)).trans (hn1)
    have kn_28 : Hid (c_9 P 1 = n1) := (hF_11 P 1 (qn_70fec742f hP)).trans (hid kn_27)
    have h_29 : c_9 P 1 = n1 := (hid kn_28)
    have kn_30 : Hid (c_2 41 21 = n1) := (hF_4 41 21 (qn_c1b212892 hP)).trans (hm1)
    have kn_31 : Hid (c_9 41 21 = n1) := (hF_11 41 21 qn_2dba34809).trans (hid kn_30)
    have h_32 : c_9 41 21 = n1 := (hid kn_31)
    have kn_33 : Hid (c_2 P 2 = n2) := (hF_4 P 2 (qn_f8aa6ac5f hP)).trans (hn2)
    have kn_34 : Hid (c_9 P 2 = n2) := (hF_11 P 2 (qn_70fec742f hP)).trans (hid kn_33)
    have h_35 : c_9 P 2 = n2 := (hid kn_34)
    have kn_36 : Hid (c_2 41 22 = n2) := (hF_4 41 22 (qn_c1b212892 hP)).trans (hm2)
    have kn_37 : Hid (c_9 41 22 = n2) := (hF_11 41 22 qn_0d1137165).trans (hid kn_36)
    have h_38 : c_9 41 22 = n2 := (hid kn_37)
    have kn_39 : Hid (c_2 P 3 = n3) := (hF_4 P 3 (qn_f8aa6ac5f hP)).trans (hn3)
    have kn_40 : Hid (c_9 P 3 = n3) := (hF_11 P 3 (qn_70fec742f hP)).trans (hid kn_39)
    have h_41 : c_9 P 3 = n3 := (hid kn_40)
    have kn_42 : Hid (c_2 41 23 = n3) := (hF_4 41 23 (qn_c1b212892 hP)).trans (hm3)
    have kn_43 : Hid (c_9 41 23 = n3) := (hF_11 41 23 qn_ca1c2b99e).trans (hid kn_42)
    have h_44 : c_9 41 23 = n3 := (hid kn_43)
    have kn_45 : Hid (c_2 3 4 = c 3 4) := hF_4 3 4 (qn_116ab97cc hP)
    have kn_46 : Hid (c_9 3 4 = c 3 4) := (hF_11 3 4 qn_85f7f5516).trans (hid kn_45)
    have h_47 : c_9 3 4 = c 3 4 := (hid kn_46)
    have h_48 := ir_41_52 hI
    have kn_49 : Hid (c_2 41 52 = c 41 52) := hF_4 41 52 (qn_c1b212892 hP)
    have kn_50 : Hid (c_9 41 52 = c 41 52) := (hF_11 41 52 qn_23bb338dd).trans (hid kn_49)
    have h_51 : c_9 41 52 = c 41 52 := (hid kn_50)
    have h_52 := ir_3_3 hI
    have kn_53 : Hid (c_2 3 3 = c 3 3) := hF_4 3 3 (qn_116ab97cc hP)
    have kn_54 : Hid (c_9 3 3 = c 3 3) := (hF_11 3 3 qn_85f7f5516).trans (hid kn_53)
    have h_55 : c_9 3 3 = c 3 3 := (hid kn_54)
    have h_56 := ir_41_35 hI
    have kn_57 : Hid (c_2 41 35 = c 41 35) := hF_4 41 35 (qn_c1b212892 hP)
    have kn_58 : Hid (c_9 41 35 = c 41 35) := (hF_11 41 35 qn_8b6342d8f).trans (hid kn_57)
    have h_59 : c_9 41 35 = c 41 35 := (hid kn_58)
    have h_60 : c_9 3 4 = c 3 4 := (hid kn_46)
    exact K P Q c_9 1 (by decide) hI_10 ⟨by omega, ub_fr hU (fun j => (hF_11 2 j qn_d0e66b3bf).trans (hF_4 2 j (qn_c44a51550 hP))) (fun j => (hF_11 43 j qn_5a77d9750).trans (hF_4 43 j (qn_2e57cdabe hP))), ⟨by omega, by omega, by omega, by omega⟩, by omega, by omega, iw_fr2 hIw (by omega) (fun j => (hF_11 6 j qn_1f8406493).trans (hF_4 6 j (qn_5ecb26ba6 hP))) (fun j => (hF_11 66 j qn_02ce421cc).trans (hF_4 66 j (qn_7018f8751 hP)))⟩
  refine bk_inl (v_i2l c_287_7 (by omega) (v_ls c_287_8 rfl (by decide) (by decide) (by decide) (q_goto (t := 15) c_287_9 rfl (q_iconst c_287_15 (q_iret c_287_16 rfl (bk_inl (q_istore c_296_1364 (Nat.le_of_ble_eq_true rfl) ?_)))))))
  refine q_aload_n c_296_1366 rfl (q_aload_n c_296_1367 rfl (q_iload c_296_1368 rfl (q_iconst c_296_1370 (v_iadd (v := (i0 : Int) + 1) c_296_1371 rfl (v_scr (j := i0 + 1) c_296_1372 (by omega) (by omega) hL hx1 ?_)))))
  have hI_61 := iw_lx (a := 67) (j := 0) (v := y_8) hI_6 (by omega)
  refine v_cv c_296_1373 km_9_226 rfl rfl (Nat.le_of_ble_eq_true rfl) ⟨⟨rfl, rfl⟩, Nat.le_of_ble_eq_true rfl, rfl⟩ (Nat.le_of_ble_eq_true rfl) (Nat.le_of_ble_eq_true rfl) (s_244 (a1 := x1) hI_61 (show (-2147483648) ≤ x1 ∧ x1 ≤ 2147483647 from ⟨by omega, by omega⟩) (fun c_62 y_65 hI_63 hF_64 hy_65 => (bk_inl (q_istore c_296_1376 (Nat.le_of_ble_eq_true rfl) (q_goto (t := 1816) c_296_1378 rfl (Wp_ls [(4, vi (i0 : Int)), (3, .ref 67), (2, .ref 41), (1, .ref 0), (0, .ref a_SC)] (lsub_cons rfl (lsub_cons rfl (lsub_cons rfl (lsub_cons rfl (lsub_cons rfl lsub_nil))))) ?_))))))
  have h_66 := ir_1_3 hI
  have kn_67 : Hid (c_5 1 3 = c 1 3) := hF_7 1 3 (qn_bcb6129a7 hP)
  have kn_68 : Hid (c_62 1 3 = c 1 3) := (hF_64 1 3 qn_44683f5fa).trans ((up_c (nn rfl)).trans (hid kn_67))
  have h_69 : c_62 1 3 = c 1 3 := (hid kn_68)
  have h_70 := ir_41_2 hI
  have kn_71 : Hid (c_5 41 2 = c 41 2) := hF_7 41 2 (qn_c1b212892 hP)
  have kn_72 : Hid (c_62 41 2 = c 41 2) := (hF_64 41 2 qn_7a112a690).trans ((up_c (nn rfl)).trans (hid kn_71))
  have h_73 : c_62 41 2 = c 41 2 := (hid kn_72)
  have kn_74 : Hid (c_5 P 0 = n0) := (hF_7 P 0 (qn_f8aa6ac5f hP)).trans (hn0)
  have kn_75 : Hid (c_62 P 0 = n0) := (hF_64 P 0 (qn_70fec742f hP)).trans ((up_c (np0 hP rfl)).trans (hid kn_74))
  have h_76 : c_62 P 0 = n0 := (hid kn_75)
  have kn_77 : Hid (c_5 41 20 = n0) := (hF_7 41 20 (qn_c1b212892 hP)).trans (hm0)
  have kn_78 : Hid (c_62 41 20 = n0) := (hF_64 41 20 qn_d0753a96c).trans ((up_c (nn rfl)).trans (hid kn_77))
  have h_79 : c_62 41 20 = n0 := (hid kn_78)
  have kn_80 : Hid (c_5 P 1 = n1) := (hF_7 P 1 (qn_f8aa6ac5f hP)).trans (hn1)
  have kn_81 : Hid (c_62 P 1 = n1) := (hF_64 P 1 (qn_70fec742f hP)).trans ((up_c (np0 hP rfl)).trans (hid kn_80))
  have h_82 : c_62 P 1 = n1 := (hid kn_81)
  have kn_83 : Hid (c_5 41 21 = n1) := (hF_7 41 21 (qn_c1b212892 hP)).trans (hm1)
  have kn_84 : Hid (c_62 41 21 = n1) := (hF_64 41 21 qn_2dba34809).trans ((up_c (nn rfl)).trans (hid kn_83))
  have h_85 : c_62 41 21 = n1 := (hid kn_84)
  have kn_86 : Hid (c_5 P 2 = n2) := (hF_7 P 2 (qn_f8aa6ac5f hP)).trans (hn2)
  have kn_87 : Hid (c_62 P 2 = n2) := (hF_64 P 2 (qn_70fec742f hP)).trans ((up_c (np0 hP rfl)).trans (hid kn_86))
  have h_88 : c_62 P 2 = n2 := (hid kn_87)
  have kn_89 : Hid (c_5 41 22 = n2) := (hF_7 41 22 (qn_c1b212892 hP)).trans (hm2)
  have kn_90 : Hid (c_62 41 22 = n2) := (hF_64 41 22 qn_0d1137165).trans ((up_c (nn rfl)).trans (hid kn_89))
  have h_91 : c_62 41 22 = n2 := (hid kn_90)
  have kn_92 : Hid (c_5 P 3 = n3) := (hF_7 P 3 (qn_f8aa6ac5f hP)).trans (hn3)
  have kn_93 : Hid (c_62 P 3 = n3) := (hF_64 P 3 (qn_70fec742f hP)).trans ((up_c (np0 hP rfl)).trans (hid kn_92))
  have h_94 : c_62 P 3 = n3 := (hid kn_93)
  have kn_95 : Hid (c_5 41 23 = n3) := (hF_7 41 23 (qn_c1b212892 hP)).trans (hm3)
  have kn_96 : Hid (c_62 41 23 = n3) := (hF_64 41 23 qn_ca1c2b99e).trans ((up_c (nn rfl)).trans (hid kn_95))
  have h_97 : c_62 41 23 = n3 := (hid kn_96)
  have kn_98 : Hid (c_5 3 4 = c 3 4) := hF_7 3 4 (qn_116ab97cc hP)
  have kn_99 : Hid (c_62 3 4 = c 3 4) := (hF_64 3 4 qn_85f7f5516).trans ((up_c (nn rfl)).trans (hid kn_98))
  have h_100 : c_62 3 4 = c 3 4 := (hid kn_99)
  have h_101 := ir_41_52 hI
  have kn_102 : Hid (c_5 41 52 = c 41 52) := hF_7 41 52 (qn_c1b212892 hP)
  have kn_103 : Hid (c_62 41 52 = c 41 52) := (hF_64 41 52 qn_23bb338dd).trans ((up_c (nn rfl)).trans (hid kn_102))
  have h_104 : c_62 41 52 = c 41 52 := (hid kn_103)
  have h_105 := ir_3_3 hI
  have kn_106 : Hid (c_5 3 3 = c 3 3) := hF_7 3 3 (qn_116ab97cc hP)
  have kn_107 : Hid (c_62 3 3 = c 3 3) := (hF_64 3 3 qn_85f7f5516).trans ((up_c (nn rfl)).trans (hid kn_106))
  have h_108 : c_62 3 3 = c 3 3 := (hid kn_107)
  have h_109 := ir_41_35 hI
  have kn_110 : Hid (c_5 41 35 = c 41 35) := hF_7 41 35 (qn_c1b212892 hP)
  have kn_111 : Hid (c_62 41 35 = c 41 35) := (hF_64 41 35 qn_8b6342d8f).trans ((up_c (nn rfl)).trans (hid kn_110))
  have h_112 : c_62 41 35 = c 41 35 := (hid kn_111)
  have h_113 : c_62 3 4 = c 3 4 := (hid kn_99)
  exact K P Q c_62 0 (by decide) hI_63 ⟨by omega, ub_fr hU (fun j => (hF_64 2 j qn_d0e66b3bf).trans ((up_c (nn rfl)).trans (hF_7 2 j (qn_c44a51550 hP)))) (fun j => (hF_64 43 j qn_5a77d9750).trans ((up_c (nn rfl)).trans (hF_7 43 j (qn_2e57cdabe hP)))), ⟨by omega, by omega, by omega, by omega⟩, by omega, by omega, iw_fr2 hIw (by omega) (fun j => (hF_64 6 j qn_1f8406493).trans ((up_c (nn rfl)).trans (hF_7 6 j (qn_5ecb26ba6 hP)))) (fun j => (hF_64 66 j qn_02ce421cc).trans ((up_c (nn rfl)).trans (hF_7 66 j (qn_7018f8751 hP))))⟩

set_option maxRecDepth 100000 in
set_option maxHeartbeats 4000000 in
theorem o_30 {xs : Nat → Int32} {L i0 d nc ns P Q : Nat} {c : ME} {Z : AR → Prop} (hi : i0 + 8 ≤ L) (hL : L ≤ 100000) (hI : Iv 0 (-1) P Q c) (hR : Rq P c) (K : ∀ (P2 Q2 : Nat) (c2 : ME) (e : Nat), e ≤ 1 → Iv 0 (-1) P2 Q2 c2 → (Rq P2 c2) → Wp (a_scr L xs) (d + 90) 296 1816 [(4, vi (i0 : Int)), (3, .ref 67), (2, .ref 41), (1, .ref 0), (0, .ref a_SC)] [] (Wd P2 Q2 P2 P2 c2) (nc + e) (ns + 6 * e) Z) : Wp (a_scr L xs) (d + 90) 296 1381 [(4, vi (i0 : Int)), (3, .ref 67), (2, .ref 41), (1, .ref 0), (0, .ref a_SC)] [] (Wd P Q P P c) nc ns Z := by
  obtain ⟨x1, hx1⟩ : ∃ z, (xs (i0 + 1)).toInt = z := ⟨_, rfl⟩
  have x1r := c_rng (xs (i0 + 1))
  rw [hx1] at x1r
  obtain ⟨x2, hx2⟩ : ∃ z, (xs (i0 + 2)).toInt = z := ⟨_, rfl⟩
  have x2r := c_rng (xs (i0 + 2))
  rw [hx2] at x2r
  obtain ⟨x3, hx3⟩ : ∃ z, (xs (i0 + 3)).toInt = z := ⟨_, rfl⟩
  have x3r := c_rng (xs (i0 + 3))
  rw [hx3] at x3r
  obtain ⟨x4, hx4⟩ : ∃ z, (xs (i0 + 4)).toInt = z := ⟨_, rfl⟩
  have x4r := c_rng (xs (i0 + 4))
  rw [hx4] at x4r
  obtain ⟨x5, hx5⟩ : ∃ z, (xs (i0 + 5)).toInt = z := ⟨_, rfl⟩
  have x5r := c_rng (xs (i0 + 5))
  rw [hx5] at x5r
  obtain ⟨x6, hx6⟩ : ∃ z, (xs (i0 + 6)).toInt = z := ⟨_, rfl⟩
  have x6r := c_rng (xs (i0 + 6))
  rw [hx6] at x6r
  obtain ⟨x7, hx7⟩ : ∃ z, (xs (i0 + 7)).toInt = z := ⟨_, rfl⟩
  have x7r := c_rng (xs (i0 + 7))
  rw [hx7] at x7r
  have hP := iv_P hI
  have hQ := iv_Q hI
  have hT := rl_t hR
  have hU := rl_u hR
  obtain ⟨n0, hn0⟩ : ∃ z, c P 0 = z := ⟨_, rfl⟩
  have hm0 : c 41 20 = n0 := (rl_nums hR).1.symm.trans hn0
  have hr0 := ir_p0_0 hI hP
  rw [hn0] at hr0
  obtain ⟨n1, hn1⟩ : ∃ z, c P 1 = z := ⟨_, rfl⟩
  have hm1 : c 41 21 = n1 := (rl_nums hR).2.1.symm.trans hn1
  have hr1 := ir_p0_1 hI hP
  rw [hn1] at hr1
  obtain ⟨n2, hn2⟩ : ∃ z, c P 2 = z := ⟨_, rfl⟩
  have hm2 : c 41 22 = n2 := (rl_nums hR).2.2.1.symm.trans hn2
  have hr2 := ir_p0_2 hI hP
  rw [hn2] at hr2
  obtain ⟨n3, hn3⟩ : ∃ z, c P 3 = z := ⟨_, rfl⟩
  have hm3 : c 41 23 = n3 := (rl_nums hR).2.2.2.symm.trans hn3
  have hr3 := ir_p0_3 hI hP
  rw [hn3] at hr3
  have hNimg := rl_img hR
  have hNwk := rl_wk hR
  have h_1 := ir_3_4 hI
  have hIw := rl_iw hR
  refine q_aload_n c_296_1381 rfl (q_aload_n c_296_1382 rfl (q_iload c_296_1383 rfl (q_iconst c_296_1385 (v_iadd (v := (i0 : Int) + 1) c_296_1386 rfl (v_scr (j := i0 + 1) c_296_1387 (by omega) (by omega) hL hx1 (q_aload_n c_296_1388 rfl (q_call c_296_1389 rfl rfl rfl ?_)))))))
  refine q_aload_n c_288_0 rfl (q_iconst c_288_1 (q_aload_n c_288_2 rfl (q_iload_n c_288_3 rfl ?_)))
  refine v_cv c_288_4 km_9_93 rfl rfl (Nat.le_of_ble_eq_true rfl) ⟨⟨rfl, rfl⟩, Nat.le_of_ble_eq_true rfl, rfl⟩ (Nat.le_of_ble_eq_true rfl) (Nat.le_of_ble_eq_true rfl) (s_98 (a1 := x1) hI (show (-2147483648) ≤ x1 ∧ x1 ≤ 2147483647 from ⟨by omega, by omega⟩) (fun c_2 hI_3 hF_4 => ?_) (fun c_5 y_8 hI_6 hF_7 hy_8 => ?_))
  · skip
    refine bk_thr (z := Int32.ofInt 1) rfl ⟨_, _, rfl⟩ rfl (bk_inl (q_istore c_296_1392 (Nat.le_of_ble_eq_true rfl) (q_aload_n c_296_1394 rfl (q_aload_n c_296_1395 rfl (q_iload c_296_1396 rfl (q_iconst c_296_1398 (v_iadd (v := (i0 : Int) + 1) c_296_1399 rfl ?_)))))))
    refine v_scr (j := i0 + 1) c_296_1400 (by omega) (by omega) hL hx1 (v_cv c_296_1401 km_9_229 rfl rfl (Nat.le_of_ble_eq_true rfl) ⟨⟨rfl, rfl⟩, Nat.le_of_ble_eq_true rfl, rfl⟩ (Nat.le_of_ble_eq_true rfl) (Nat.le_of_ble_eq_true rfl) (s_245 (a1 := x1) hI_3 (show (-2147483648) ≤ x1 ∧ x1 ≤ 2147483647 from ⟨by omega, by omega⟩) (fun c_9 y_12 hI_10 hF_11 hy_12 => (bk_inl (q_istore c_296_1404 (Nat.le_of_ble_eq_true rfl) (q_goto (t := 1816) c_296_1406 rfl (Wp_ls [(4, vi (i0 : Int)), (3, .ref 67), (2, .ref 41), (1, .ref 0), (0, .ref a_SC)] (lsub_cons rfl (lsub_cons rfl (lsub_cons rfl (lsub_cons rfl (lsub_cons rfl lsub_nil))))) ?_)))))))
    have h_13 := ir_1_3 hI
    have kn_14 : Hid (c_2 1 3 = c 1 3) := hF_4 1 3 (fun h => absurd h.1 (nn rfl))
    have kn_15 : Hid (c_9 1 3 = c 1 3) := (hF_11 1 3 qn_39cd18c3e).trans (hid kn_14)
    have h_16 : c_9 1 3 = c 1 3 := (hid kn_15)
    have h_17 := ir_41_2 hI
    have kn_18 : Hid (c_2 41 2 = c 41 2) := hF_4 41 2 (fun h => absurd h.1 (nn rfl))
    have kn_19 : Hid (c_9 41 2 = c 41 2) := (hF_11 41 2 qn_53bdb2099).trans (hid kn_18)
    have h_20 : c_9 41 2 = c 41 2 := (hid kn_19)
    have kn_21 : Hid (c_2 P 0 = n0) := (hF_4 P 0 (fun h => absurd h.1 (np0 hP rfl))).trans (hn0)
    have kn_22 : Hid (c_9 P 0 = n0) := (hF_11 P 0 (qn_857752076 hP)).trans (hid kn_21)
    have h_23 : c_9 P 0 = n0 := (hid kn_22)
    have kn_24 : Hid (c_2 41 20 = n0) := (hF_4 41 20 (fun h => absurd h.1 (nn rfl))).trans (hm0)
    have kn_25 : Hid (c_9 41 20 = n0) := (hF_11 41 20 qn_110b29ed6).trans (hid kn_24)
    have h_26 : c_9 41 20 = n0 := (hid kn_25)
    have kn_27 : Hid (c_2 P 1 = n1) := (hF_4 P 1 (fun h => absurd h.1 (np0 hP rfl))).trans (hn1)
    have kn_28 : Hid (c_9 P 1 = n1) := (hF_11 P 1 (qn_857752076 hP)).trans (hid kn_27)
    have h_29 : c_9 P 1 = n1 := (hid kn_28)
    have kn_30 : Hid (c_2 41 21 = n1) := (hF_4 41 21 (fun h => absurd h.1 (nn rfl))).trans (hm1)
    have kn_31 : Hid (c_9 41 21 = n1) := (hF_11 41 21 qn_561064c41).trans (hid kn_30)
    have h_32 : c_9 41 21 = n1 := (hid kn_31)
    have kn_33 : Hid (c_2 P 2 = n2) := (hF_4 P 2 (fun h => absurd h.1 (np0 hP rfl))).trans (hn2)
    have kn_34 : Hid (c_9 P 2 = n2) := (hF_11 P 2 (qn_857752076 hP)).trans (hid kn_33)
    have h_35 : c_9 P 2 = n2 := (hid kn_34)
    have kn_36 : Hid (c_2 41 22 = n2) := (hF_4 41 22 (fun h => absurd h.1 (nn rfl))).trans (hm2)
    have kn_37 : Hid (c_9 41 22 = n2) := (hF_11 41 22 qn_1a460b46b).trans (hid kn_36)
    have h_38 : c_9 41 22 = n2 := (hid kn_37)
    have kn_39 : Hid (c_2 P 3 = n3) := (hF_4 P 3 (fun h => absurd h.1 (np0 hP rfl))).trans (hn3)
    have kn_40 : Hid (c_9 P 3 = n3) := (hF_11 P 3 (qn_857752076 hP)).trans (hid kn_39)
    have h_41 : c_9 P 3 = n3 := (hid kn_40)
    have kn_42 : Hid (c_2 41 23 = n3) := (hF_4 41 23 (fun h => absurd h.1 (nn rfl))).trans (hm3)
    have kn_43 : Hid (c_9 41 23 = n3) := (hF_11 41 23 qn_b79f282cd).trans (hid kn_42)
    have h_44 : c_9 41 23 = n3 := (hid kn_43)
    have kn_45 : Hid (c_2 3 4 = c 3 4) := hF_4 3 4 (fun h => absurd h.1 (nn rfl))
    have kn_46 : Hid (c_9 3 4 = c 3 4) := (hF_11 3 4 qn_bf2303cc8).trans (hid kn_45)
    have h_47 : c_9 3 4 = c 3 4 := (hid kn_46)
    have h_48 := ir_41_52 hI
    have kn_49 : Hid (c_2 41 52 = c 41 52) := hF_4 41 52 (fun h => absurd h.1 (nn rfl))
    have kn_50 : Hid (c_9 41 52 = c 41 52) := (hF_11 41 52 qn_90835161a).trans (hid kn_49)
    have h_51 : c_9 41 52 = c 41 52 := (hid kn_50)
    have h_52 := ir_3_3 hI
    have kn_53 : Hid (c_2 3 3 = c 3 3) := hF_4 3 3 (fun h => absurd h.1 (nn rfl))
    have kn_54 : Hid (c_9 3 3 = c 3 3) := (hF_11 3 3 qn_bf2303cc8).trans (hid kn_53)
    have h_55 : c_9 3 3 = c 3 3 := (hid kn_54)
    have h_56 := ir_41_35 hI
    have kn_57 : Hid (c_2 41 35 = c 41 35) := hF_4 41 35 (fun h => absurd h.1 (nn rfl))
    have kn_58 : Hid (c_9 41 35 = c 41 35) := (hF_11 41 35 qn_732a91ea5).trans (hid kn_57)
    have h_59 : c_9 41 35 = c 41 35 := (hid kn_58)
    have h_60 : c_9 3 4 = c 3 4 := (hid kn_46)
    exact K P Q c_9 1 (by decide) hI_10 ⟨by omega, ub_fr hU (fun j => (hF_11 2 j qn_2ad67e194).trans (hF_4 2 j (fun h => absurd h.1 (nn rfl)))) (fun j => (hF_11 43 j qn_1520ff5e3).trans (hF_4 43 j (fun h => absurd h.1 (nn rfl)))), ⟨by omega, by omega, by omega, by omega⟩, by omega, by omega, iw_fr2 hIw (by omega) (fun j => (hF_11 6 j qn_e1050858a).trans (hF_4 6 j (fun h => absurd h.1 (nn rfl)))) (fun j => (hF_11 66 j qn_5616dd9ce).trans (hF_4 66 j (fun h => absurd h.1 (nn rfl))))⟩
  refine bk_inl (v_i2l c_288_7 (by omega) (v_ls c_288_8 rfl (by decide) (by decide) (by decide) (q_goto (t := 15) c_288_9 rfl (q_iconst c_288_15 (q_iret c_288_16 rfl (bk_inl (q_istore c_296_1392 (Nat.le_of_ble_eq_true rfl) ?_)))))))
  refine q_aload_n c_296_1394 rfl (q_aload_n c_296_1395 rfl (q_iload c_296_1396 rfl (q_iconst c_296_1398 (v_iadd (v := (i0 : Int) + 1) c_296_1399 rfl (v_scr (j := i0 + 1) c_296_1400 (by omega) (by omega) hL hx1 ?_)))))
  have hI_61 := iw_lx (a := 67) (j := 0) (v := y_8) hI_6 (by omega)
  refine v_cv c_296_1401 km_9_229 rfl rfl (Nat.le_of_ble_eq_true rfl) ⟨⟨rfl, rfl⟩, Nat.le_of_ble_eq_true rfl, rfl⟩ (Nat.le_of_ble_eq_true rfl) (Nat.le_of_ble_eq_true rfl) (s_245 (a1 := x1) hI_61 (show (-2147483648) ≤ x1 ∧ x1 ≤ 2147483647 from ⟨by omega, by omega⟩) (fun c_62 y_65 hI_63 hF_64 hy_65 => (bk_inl (q_istore c_296_1404 (Nat.le_of_ble_eq_true rfl) (q_goto (t := 1816) c_296_1406 rfl (Wp_ls [(4, vi (i0 : Int)), (3, .ref 67), (2, .ref 41), (1, .ref 0), (0, .ref a_SC)] (lsub_cons rfl (lsub_cons rfl (lsub_cons rfl (lsub_cons rfl (lsub_cons rfl lsub_nil))))) ?_))))))
  have h_66 := ir_1_3 hI
  have kn_67 : Hid (c_5 1 3 = c 1 3) := hF_7 1 3 (fun h => absurd h.1 (nn rfl))
  have kn_68 : Hid (c_62 1 3 = c 1 3) := (hF_64 1 3 qn_39cd18c3e).trans ((up_c (nn rfl)).trans (hid kn_67))
  have h_69 : c_62 1 3 = c 1 3 := (hid kn_68)
  have h_70 := ir_41_2 hI
  have kn_71 : Hid (c_5 41 2 = c 41 2) := hF_7 41 2 (fun h => absurd h.1 (nn rfl))
  have kn_72 : Hid (c_62 41 2 = c 41 2) := (hF_64 41 2 qn_53bdb2099).trans ((up_c (nn rfl)).trans (hid kn_71))
  have h_73 : c_62 41 2 = c 41 2 := (hid kn_72)
  have kn_74 : Hid (c_5 P 0 = n0) := (hF_7 P 0 (fun h => absurd h.1 (np0 hP rfl))).trans (hn0)
  have kn_75 : Hid (c_62 P 0 = n0) := (hF_64 P 0 (qn_857752076 hP)).trans ((up_c (np0 hP rfl)).trans (hid kn_74))
  have h_76 : c_62 P 0 = n0 := (hid kn_75)
  have kn_77 : Hid (c_5 41 20 = n0) := (hF_7 41 20 (fun h => absurd h.1 (nn rfl))).trans (hm0)
  have kn_78 : Hid (c_62 41 20 = n0) := (hF_64 41 20 qn_110b29ed6).trans ((up_c (nn rfl)).trans (hid kn_77))
  have h_79 : c_62 41 20 = n0 := (hid kn_78)
  have kn_80 : Hid (c_5 P 1 = n1) := (hF_7 P 1 (fun h => absurd h.1 (np0 hP rfl))).trans (hn1)
  have kn_81 : Hid (c_62 P 1 = n1) := (hF_64 P 1 (qn_857752076 hP)).trans ((up_c (np0 hP rfl)).trans (hid kn_80))
  have h_82 : c_62 P 1 = n1 := (hid kn_81)
  have kn_83 : Hid (c_5 41 21 = n1) := (hF_7 41 21 (fun h => absurd h.1 (nn rfl))).trans (hm1)
  have kn_84 : Hid (c_62 41 21 = n1) := (hF_64 41 21 qn_561064c41).trans ((up_c (nn rfl)).trans (hid kn_83))
  have h_85 : c_62 41 21 = n1 := (hid kn_84)
  have kn_86 : Hid (c_5 P 2 = n2) := (hF_7 P 2 (fun h => absurd h.1 (np0 hP rfl))).trans (hn2)
  have kn_87 : Hid (c_62 P 2 = n2) := (hF_64 P 2 (qn_857752076 hP)).trans ((up_c (np0 hP rfl)).trans (hid kn_86))
  have h_88 : c_62 P 2 = n2 := (hid kn_87)
  have kn_89 : Hid (c_5 41 22 = n2) := (hF_7 41 22 (fun h => absurd h.1 (nn rfl))).trans (hm2)
  have kn_90 : Hid (c_62 41 22 = n2) := (hF_64 41 22 qn_1a460b46b).trans ((up_c (nn rfl)).trans (hid kn_89))
  have h_91 : c_62 41 22 = n2 := (hid kn_90)
  have kn_92 : Hid (c_5 P 3 = n3) := (hF_7 P 3 (fun h => absurd h.1 (np0 hP rfl))).trans (hn3)
  have kn_93 : Hid (c_62 P 3 = n3) := (hF_64 P 3 (qn_857752076 hP)).trans ((up_c (np0 hP rfl)).trans (hid kn_92))
  have h_94 : c_62 P 3 = n3 := (hid kn_93)
  have kn_95 : Hid (c_5 41 23 = n3) := (hF_7 41 23 (fun h => absurd h.1 (nn rfl))).trans (hm3)
  have kn_96 : Hid (c_62 41 23 = n3) := (hF_64 41 23 qn_b79f282cd).trans ((up_c (nn rfl)).trans (hid kn_95))
  have h_97 : c_62 41 23 = n3 := (hid kn_96)
  have kn_98 : Hid (c_5 3 4 = c 3 4) := hF_7 3 4 (fun h => absurd h.1 (nn rfl))
  have kn_99 : Hid (c_62 3 4 = c 3 4) := (hF_64 3 4 qn_bf2303cc8).trans ((up_c (nn rfl)).trans (hid kn_98))
  have h_100 : c_62 3 4 = c 3 4 := (hid kn_99)
  have h_101 := ir_41_52 hI
  have kn_102 : Hid (c_5 41 52 = c 41 52) := hF_7 41 52 (fun h => absurd h.1 (nn rfl))
  have kn_103 : Hid (c_62 41 52 = c 41 52) := (hF_64 41 52 qn_90835161a).trans ((up_c (nn rfl)).trans (hid kn_102))
  have h_104 : c_62 41 52 = c 41 52 := (hid kn_103)
  have h_105 := ir_3_3 hI
  have kn_106 : Hid (c_5 3 3 = c 3 3) := hF_7 3 3 (fun h => absurd h.1 (nn rfl))
  have kn_107 : Hid (c_62 3 3 = c 3 3) := (hF_64 3 3 qn_bf2303cc8).trans ((up_c (nn rfl)).trans (hid kn_106))
  have h_108 : c_62 3 3 = c 3 3 := (hid kn_107)
  have h_109 := ir_41_35 hI
  have kn_110 : Hid (c_5 41 35 = c 41 35) := hF_7 41 35 (fun h => absurd h.1 (nn rfl))
  have kn_111 : Hid (c_62 41 35 = c 41 35) := (hF_64 41 35 qn_732a91ea5).trans ((up_c (nn rfl)).trans (hid kn_110))
  have h_112 : c_62 41 35 = c 41 35 := (hid kn_111)
  have h_113 : c_62 3 4 = c 3 4 := (hid kn_99)
  exact K P Q c_62 0 (by decide) hI_63 ⟨by omega, ub_fr hU (fun j => (hF_64 2 j qn_2ad67e194).trans ((up_c (nn rfl)).trans (hF_7 2 j (fun h => absurd h.1 (nn rfl))))) (fun j => (hF_64 43 j qn_1520ff5e3).trans ((up_c (nn rfl)).trans (hF_7 43 j (fun h => absurd h.1 (nn rfl))))), ⟨by omega, by omega, by omega, by omega⟩, by omega, by omega, iw_fr2 hIw (by omega) (fun j => (hF_64 6 j qn_e1050858a).trans ((up_c (nn rfl)).trans (hF_7 6 j (fun h => absurd h.1 (nn rfl))))) (fun j => (hF_64 66 j qn_5616dd9ce).trans ((up_c (nn rfl)).trans (hF_7 66 j (fun h => absurd h.1 (nn rfl)))))⟩

set_option maxRecDepth 100000 in
set_option maxHeartbeats 4000000 in
theorem o_31 {xs : Nat → Int32} {L i0 d nc ns P Q : Nat} {c : ME} {Z : AR → Prop} (hi : i0 + 8 ≤ L) (hL : L ≤ 100000) (hI : Iv 0 (-1) P Q c) (hR : Rq P c) (K : ∀ (P2 Q2 : Nat) (c2 : ME) (e : Nat), e ≤ 1 → Iv 0 (-1) P2 Q2 c2 → (Rq P2 c2) → Wp (a_scr L xs) (d + 90) 296 1816 [(4, vi (i0 : Int)), (3, .ref 67), (2, .ref 41), (1, .ref 0), (0, .ref a_SC)] [] (Wd P2 Q2 P2 P2 c2) (nc + e) (ns + 6 * e) Z) : Wp (a_scr L xs) (d + 90) 296 1409 [(4, vi (i0 : Int)), (3, .ref 67), (2, .ref 41), (1, .ref 0), (0, .ref a_SC)] [] (Wd P Q P P c) nc ns Z := by
  obtain ⟨x1, hx1⟩ : ∃ z, (xs (i0 + 1)).toInt = z := ⟨_, rfl⟩
  have x1r := c_rng (xs (i0 + 1))
  rw [hx1] at x1r
  obtain ⟨x2, hx2⟩ : ∃ z, (xs (i0 + 2)).toInt = z := ⟨_, rfl⟩
  have x2r := c_rng (xs (i0 + 2))
  rw [hx2] at x2r
  obtain ⟨x3, hx3⟩ : ∃ z, (xs (i0 + 3)).toInt = z := ⟨_, rfl⟩
  have x3r := c_rng (xs (i0 + 3))
  rw [hx3] at x3r
  obtain ⟨x4, hx4⟩ : ∃ z, (xs (i0 + 4)).toInt = z := ⟨_, rfl⟩
  have x4r := c_rng (xs (i0 + 4))
  rw [hx4] at x4r
  obtain ⟨x5, hx5⟩ : ∃ z, (xs (i0 + 5)).toInt = z := ⟨_, rfl⟩
  have x5r := c_rng (xs (i0 + 5))
  rw [hx5] at x5r
  obtain ⟨x6, hx6⟩ : ∃ z, (xs (i0 + 6)).toInt = z := ⟨_, rfl⟩
  have x6r := c_rng (xs (i0 + 6))
  rw [hx6] at x6r
  obtain ⟨x7, hx7⟩ : ∃ z, (xs (i0 + 7)).toInt = z := ⟨_, rfl⟩
  have x7r := c_rng (xs (i0 + 7))
  rw [hx7] at x7r
  have hP := iv_P hI
  have hQ := iv_Q hI
  have hT := rl_t hR
  have hU := rl_u hR
  obtain ⟨n0, hn0⟩ : ∃ z, c P 0 = z := ⟨_, rfl⟩
  have hm0 : c 41 20 = n0 := (rl_nums hR).1.symm.trans hn0
  have hr0 := ir_p0_0 hI hP
  rw [hn0] at hr0
  obtain ⟨n1, hn1⟩ : ∃ z, c P 1 = z := ⟨_, rfl⟩
  have hm1 : c 41 21 = n1 := (rl_nums hR).2.1.symm.trans hn1
  have hr1 := ir_p0_1 hI hP
  rw [hn1] at hr1
  obtain ⟨n2, hn2⟩ : ∃ z, c P 2 = z := ⟨_, rfl⟩
  have hm2 : c 41 22 = n2 := (rl_nums hR).2.2.1.symm.trans hn2
  have hr2 := ir_p0_2 hI hP
  rw [hn2] at hr2
  obtain ⟨n3, hn3⟩ : ∃ z, c P 3 = z := ⟨_, rfl⟩
  have hm3 : c 41 23 = n3 := (rl_nums hR).2.2.2.symm.trans hn3
  have hr3 := ir_p0_3 hI hP
  rw [hn3] at hr3
  have hNimg := rl_img hR
  have hNwk := rl_wk hR
  have h_1 := ir_3_4 hI
  have hIw := rl_iw hR
  refine q_aload_n c_296_1409 rfl (q_aload_n c_296_1410 rfl (q_iload c_296_1411 rfl (q_iconst c_296_1413 (v_iadd (v := (i0 : Int) + 1) c_296_1414 rfl (v_scr (j := i0 + 1) c_296_1415 (by omega) (by omega) hL hx1 (q_aload_n c_296_1416 rfl (q_call c_296_1417 rfl rfl rfl ?_)))))))
  refine q_aload_n c_289_0 rfl (q_iconst c_289_1 (q_aload_n c_289_2 rfl (q_iload_n c_289_3 rfl ?_)))
  refine v_cv c_289_4 km_9_96 rfl rfl (Nat.le_of_ble_eq_true rfl) ⟨⟨rfl, rfl⟩, Nat.le_of_ble_eq_true rfl, rfl⟩ (Nat.le_of_ble_eq_true rfl) (Nat.le_of_ble_eq_true rfl) (s_99 (a1 := x1) hI (show (-2147483648) ≤ x1 ∧ x1 ≤ 2147483647 from ⟨by omega, by omega⟩) (fun c_2 hI_3 hF_4 => ?_) (fun c_5 y_8 hI_6 hF_7 hy_8 => ?_))
  · skip
    refine bk_thr (z := Int32.ofInt 1) rfl ⟨_, _, rfl⟩ rfl (bk_inl (q_istore c_296_1420 (Nat.le_of_ble_eq_true rfl) (q_aload_n c_296_1422 rfl (q_aload_n c_296_1423 rfl (q_iload c_296_1424 rfl (q_iconst c_296_1426 (v_iadd (v := (i0 : Int) + 1) c_296_1427 rfl ?_)))))))
    refine v_scr (j := i0 + 1) c_296_1428 (by omega) (by omega) hL hx1 (v_cv c_296_1429 km_9_232 rfl rfl (Nat.le_of_ble_eq_true rfl) ⟨⟨rfl, rfl⟩, Nat.le_of_ble_eq_true rfl, rfl⟩ (Nat.le_of_ble_eq_true rfl) (Nat.le_of_ble_eq_true rfl) (s_246 (a1 := x1) hI_3 (show (-2147483648) ≤ x1 ∧ x1 ≤ 2147483647 from ⟨by omega, by omega⟩) (fun c_9 y_12 hI_10 hF_11 hy_12 => (bk_inl (q_istore c_296_1432 (Nat.le_of_ble_eq_true rfl) (q_goto (t := 1816) c_296_1434 rfl (Wp_ls [(4, vi (i0 : Int)), (3, .ref 67), (2, .ref 41), (1, .ref 0), (0, .ref a_SC)] (lsub_cons rfl (lsub_cons rfl (lsub_cons rfl (lsub_cons rfl (lsub_cons rfl lsub_nil))))) ?_)))))))
    have h_13 := ir_1_3 hI
    have kn_14 : Hid (c_2 1 3 = c 1 3) := hF_4 1 3 (fun h => absurd h.1 (nn rfl))
    have kn_15 : Hid (c_9 1 3 = c 1 3) := (hF_11 1 3 qn_39cd18c3e).trans (hid kn_14)
    have h_16 : c_9 1 3 = c 1 3 := (hid kn_15)
    have h_17 := ir_41_2 hI
    have kn_18 : Hid (c_2 41 2 = c 41 2) := hF_4 41 2 (fun h => absurd h.1 (nn rfl))
    have kn_19 : Hid (c_9 41 2 = c 41 2) := (hF_11 41 2 qn_53bdb2099).trans (hid kn_18)
    have h_20 : c_9 41 2 = c 41 2 := (hid kn_19)
    have kn_21 : Hid (c_2 P 0 = n0) := (hF_4 P 0 (fun h => absurd h.1 (np0 hP rfl))).trans (hn0)
    have kn_22 : Hid (c_9 P 0 = n0) := (hF_11 P 0 (qn_857752076 hP)).trans (hid kn_21)
    have h_23 : c_9 P 0 = n0 := (hid kn_22)
    have kn_24 : Hid (c_2 41 20 = n0) := (hF_4 41 20 (fun h => absurd h.1 (nn rfl))).trans (hm0)
    have kn_25 : Hid (c_9 41 20 = n0) := (hF_11 41 20 qn_110b29ed6).trans (hid kn_24)
    have h_26 : c_9 41 20 = n0 := (hid kn_25)
    have kn_27 : Hid (c_2 P 1 = n1) := (hF_4 P 1 (fun h => absurd h.1 (np0 hP rfl))).trans (hn1)
    have kn_28 : Hid (c_9 P 1 = n1) := (hF_11 P 1 (qn_857752076 hP)).trans (hid kn_27)
    have h_29 : c_9 P 1 = n1 := (hid kn_28)
    have kn_30 : Hid (c_2 41 21 = n1) := (hF_4 41 21 (fun h => absurd h.1 (nn rfl))).trans (hm1)
    have kn_31 : Hid (c_9 41 21 = n1) := (hF_11 41 21 qn_561064c41).trans (hid kn_30)
    have h_32 : c_9 41 21 = n1 := (hid kn_31)
    have kn_33 : Hid (c_2 P 2 = n2) := (hF_4 P 2 (fun h => absurd h.1 (np0 hP rfl))).trans (hn2)
    have kn_34 : Hid (c_9 P 2 = n2) := (hF_11 P 2 (qn_857752076 hP)).trans (hid kn_33)
    have h_35 : c_9 P 2 = n2 := (hid kn_34)
    have kn_36 : Hid (c_2 41 22 = n2) := (hF_4 41 22 (fun h => absurd h.1 (nn rfl))).trans (hm2)
    have kn_37 : Hid (c_9 41 22 = n2) := (hF_11 41 22 qn_1a460b46b).trans (hid kn_36)
    have h_38 : c_9 41 22 = n2 := (hid kn_37)
    have kn_39 : Hid (c_2 P 3 = n3) := (hF_4 P 3 (fun h => absurd h.1 (np0 hP rfl))).trans (hn3)
    have kn_40 : Hid (c_9 P 3 = n3) := (hF_11 P 3 (qn_857752076 hP)).trans (hid kn_39)
    have h_41 : c_9 P 3 = n3 := (hid kn_40)
    have kn_42 : Hid (c_2 41 23 = n3) := (hF_4 41 23 (fun h => absurd h.1 (nn rfl))).trans (hm3)
    have kn_43 : Hid (c_9 41 23 = n3) := (hF_11 41 23 qn_b79f282cd).trans (hid kn_42)
    have h_44 : c_9 41 23 = n3 := (hid kn_43)
    have kn_45 : Hid (c_2 3 4 = c 3 4) := hF_4 3 4 (fun h => absurd h.1 (nn rfl))
    have kn_46 : Hid (c_9 3 4 = c 3 4) := (hF_11 3 4 qn_bf2303cc8).trans (hid kn_45)
    have h_47 : c_9 3 4 = c 3 4 := (hid kn_46)
    have h_48 := ir_41_52 hI
    have kn_49 : Hid (c_2 41 52 = c 41 52) := hF_4 41 52 (fun h => absurd h.1 (nn rfl))
    have kn_50 : Hid (c_9 41 52 = c 41 52) := (hF_11 41 52 qn_90835161a).trans (hid kn_49)
    have h_51 : c_9 41 52 = c 41 52 := (hid kn_50)
    have h_52 := ir_3_3 hI
    have kn_53 : Hid (c_2 3 3 = c 3 3) := hF_4 3 3 (fun h => absurd h.1 (nn rfl))
    have kn_54 : Hid (c_9 3 3 = c 3 3) := (hF_11 3 3 qn_bf2303cc8).trans (hid kn_53)
    have h_55 : c_9 3 3 = c 3 3 := (hid kn_54)
    have h_56 := ir_41_35 hI
    have kn_57 : Hid (c_2 41 35 = c 41 35) := hF_4 41 35 (fun h => absurd h.1 (nn rfl))
    have kn_58 : Hid (c_9 41 35 = c 41 35) := (hF_11 41 35 qn_732a91ea5).trans (hid kn_57)
    have h_59 : c_9 41 35 = c 41 35 := (hid kn_58)
    have h_60 : c_9 3 4 = c 3 4 := (hid kn_46)
    exact K P Q c_9 1 (by decide) hI_10 ⟨by omega, ub_fr hU (fun j => (hF_11 2 j qn_2ad67e194).trans (hF_4 2 j (fun h => absurd h.1 (nn rfl)))) (fun j => (hF_11 43 j qn_1520ff5e3).trans (hF_4 43 j (fun h => absurd h.1 (nn rfl)))), ⟨by omega, by omega, by omega, by omega⟩, by omega, by omega, iw_fr2 hIw (by omega) (fun j => (hF_11 6 j qn_e1050858a).trans (hF_4 6 j (fun h => absurd h.1 (nn rfl)))) (fun j => (hF_11 66 j qn_5616dd9ce).trans (hF_4 66 j (fun h => absurd h.1 (nn rfl))))⟩
  refine bk_inl (v_i2l c_289_7 (by omega) (v_ls c_289_8 rfl (by decide) (by decide) (by decide) (q_goto (t := 15) c_289_9 rfl (q_iconst c_289_15 (q_iret c_289_16 rfl (bk_inl (q_istore c_296_1420 (Nat.le_of_ble_eq_true rfl) ?_)))))))
  refine q_aload_n c_296_1422 rfl (q_aload_n c_296_1423 rfl (q_iload c_296_1424 rfl (q_iconst c_296_1426 (v_iadd (v := (i0 : Int) + 1) c_296_1427 rfl (v_scr (j := i0 + 1) c_296_1428 (by omega) (by omega) hL hx1 ?_)))))
  have hI_61 := iw_lx (a := 67) (j := 0) (v := y_8) hI_6 (by omega)
  refine v_cv c_296_1429 km_9_232 rfl rfl (Nat.le_of_ble_eq_true rfl) ⟨⟨rfl, rfl⟩, Nat.le_of_ble_eq_true rfl, rfl⟩ (Nat.le_of_ble_eq_true rfl) (Nat.le_of_ble_eq_true rfl) (s_246 (a1 := x1) hI_61 (show (-2147483648) ≤ x1 ∧ x1 ≤ 2147483647 from ⟨by omega, by omega⟩) (fun c_62 y_65 hI_63 hF_64 hy_65 => (bk_inl (q_istore c_296_1432 (Nat.le_of_ble_eq_true rfl) (q_goto (t := 1816) c_296_1434 rfl (Wp_ls [(4, vi (i0 : Int)), (3, .ref 67), (2, .ref 41), (1, .ref 0), (0, .ref a_SC)] (lsub_cons rfl (lsub_cons rfl (lsub_cons rfl (lsub_cons rfl (lsub_cons rfl lsub_nil))))) ?_))))))
  have h_66 := ir_1_3 hI
  have kn_67 : Hid (c_5 1 3 = c 1 3) := hF_7 1 3 (fun h => absurd h.1 (nn rfl))
  have kn_68 : Hid (c_62 1 3 = c 1 3) := (hF_64 1 3 qn_39cd18c3e).trans ((up_c (nn rfl)).trans (hid kn_67))
  have h_69 : c_62 1 3 = c 1 3 := (hid kn_68)
  have h_70 := ir_41_2 hI
  have kn_71 : Hid (c_5 41 2 = c 41 2) := hF_7 41 2 (fun h => absurd h.1 (nn rfl))
  have kn_72 : Hid (c_62 41 2 = c 41 2) := (hF_64 41 2 qn_53bdb2099).trans ((up_c (nn rfl)).trans (hid kn_71))
  have h_73 : c_62 41 2 = c 41 2 := (hid kn_72)
  have kn_74 : Hid (c_5 P 0 = n0) := (hF_7 P 0 (fun h => absurd h.1 (np0 hP rfl))).trans (hn0)
  have kn_75 : Hid (c_62 P 0 = n0) := (hF_64 P 0 (qn_857752076 hP)).trans ((up_c (np0 hP rfl)).trans (hid kn_74))
  have h_76 : c_62 P 0 = n0 := (hid kn_75)
  have kn_77 : Hid (c_5 41 20 = n0) := (hF_7 41 20 (fun h => absurd h.1 (nn rfl))).trans (hm0)
  have kn_78 : Hid (c_62 41 20 = n0) := (hF_64 41 20 qn_110b29ed6).trans ((up_c (nn rfl)).trans (hid kn_77))
  have h_79 : c_62 41 20 = n0 := (hid kn_78)
  have kn_80 : Hid (c_5 P 1 = n1) := (hF_7 P 1 (fun h => absurd h.1 (np0 hP rfl))).trans (hn1)
  have kn_81 : Hid (c_62 P 1 = n1) := (hF_64 P 1 (qn_857752076 hP)).trans ((up_c (np0 hP rfl)).trans (hid kn_80))
  have h_82 : c_62 P 1 = n1 := (hid kn_81)
  have kn_83 : Hid (c_5 41 21 = n1) := (hF_7 41 21 (fun h => absurd h.1 (nn rfl))).trans (hm1)
  have kn_84 : Hid (c_62 41 21 = n1) := (hF_64 41 21 qn_561064c41).trans ((up_c (nn rfl)).trans (hid kn_83))
  have h_85 : c_62 41 21 = n1 := (hid kn_84)
  have kn_86 : Hid (c_5 P 2 = n2) := (hF_7 P 2 (fun h => absurd h.1 (np0 hP rfl))).trans (hn2)
  have kn_87 : Hid (c_62 P 2 = n2) := (hF_64 P 2 (qn_857752076 hP)).trans ((up_c (np0 hP rfl)).trans (hid kn_86))
  have h_88 : c_62 P 2 = n2 := (hid kn_87)
  have kn_89 : Hid (c_5 41 22 = n2) := (hF_7 41 22 (fun h => absurd h.1 (nn rfl))).trans (hm2)
  have kn_90 : Hid (c_62 41 22 = n2) := (hF_64 41 22 qn_1a460b46b).trans ((up_c (nn rfl)).trans (hid kn_89))
  have h_91 : c_62 41 22 = n2 := (hid kn_90)
  have kn_92 : Hid (c_5 P 3 = n3) := (hF_7 P 3 (fun h => absurd h.1 (np0 hP rfl))).trans (hn3)
  have kn_93 : Hid (c_62 P 3 = n3) := (hF_64 P 3 (qn_857752076 hP)).trans ((up_c (np0 hP rfl)).trans (hid kn_92))
  have h_94 : c_62 P 3 = n3 := (hid kn_93)
  have kn_95 : Hid (c_5 41 23 = n3) := (hF_7 41 23 (fun h => absurd h.1 (nn rfl))).trans (hm3)
  have kn_96 : Hid (c_62 41 23 = n3) := (hF_64 41 23 qn_b79f282cd).trans ((up_c (nn rfl)).trans (hid kn_95))
  have h_97 : c_62 41 23 = n3 := (hid kn_96)
  have kn_98 : Hid (c_5 3 4 = c 3 4) := hF_7 3 4 (fun h => absurd h.1 (nn rfl))
  have kn_99 : Hid (c_62 3 4 = c 3 4) := (hF_64 3 4 qn_bf2303cc8).trans ((up_c (nn rfl)).trans (hid kn_98))
  have h_100 : c_62 3 4 = c 3 4 := (hid kn_99)
  have h_101 := ir_41_52 hI
  have kn_102 : Hid (c_5 41 52 = c 41 52) := hF_7 41 52 (fun h => absurd h.1 (nn rfl))
  have kn_103 : Hid (c_62 41 52 = c 41 52) := (hF_64 41 52 qn_90835161a).trans ((up_c (nn rfl)).trans (hid kn_102))
  have h_104 : c_62 41 52 = c 41 52 := (hid kn_103)
  have h_105 := ir_3_3 hI
  have kn_106 : Hid (c_5 3 3 = c 3 3) := hF_7 3 3 (fun h => absurd h.1 (nn rfl))
  have kn_107 : Hid (c_62 3 3 = c 3 3) := (hF_64 3 3 qn_bf2303cc8).trans ((up_c (nn rfl)).trans (hid kn_106))
  have h_108 : c_62 3 3 = c 3 3 := (hid kn_107)
  have h_109 := ir_41_35 hI
  have kn_110 : Hid (c_5 41 35 = c 41 35) := hF_7 41 35 (fun h => absurd h.1 (nn rfl))
  have kn_111 : Hid (c_62 41 35 = c 41 35) := (hF_64 41 35 qn_732a91ea5).trans ((up_c (nn rfl)).trans (hid kn_110))
  have h_112 : c_62 41 35 = c 41 35 := (hid kn_111)
  have h_113 : c_62 3 4 = c 3 4 := (hid kn_99)
  exact K P Q c_62 0 (by decide) hI_63 ⟨by omega, ub_fr hU (fun j => (hF_64 2 j qn_2ad67e194).trans ((up_c (nn rfl)).trans (hF_7 2 j (fun h => absurd h.1 (nn rfl))))) (fun j => (hF_64 43 j qn_1520ff5e3).trans ((up_c (nn rfl)).trans (hF_7 43 j (fun h => absurd h.1 (nn rfl))))), ⟨by omega, by omega, by omega, by omega⟩, by omega, by omega, iw_fr2 hIw (by omega) (fun j => (hF_64 6 j qn_e1050858a).trans ((up_c (nn rfl)).trans (hF_7 6 j (fun h => absurd h.1 (nn rfl))))) (fun j => (hF_64 66 j qn_5616dd9ce).trans ((up_c (nn rfl)).trans (hF_7 66 j (fun h => absurd h.1 (nn rfl)))))⟩

