/-! ===== the calls of the law 3 ===== -/
theorem qn_eae2a9dd9 {j : Int} : ¬ (((1 : Nat) = 0 ∧ j = 12) ∨ ((1 : Nat) = 0 ∧ j = 13) ∨ (1 : Nat) = 12) := (fun q => q.elim (fun h => absurd h.1 (nn rfl)) (fun q => q.elim (fun h => absurd h.1 (nn rfl)) (fun h => absurd h (nn rfl))))
theorem qn_ad6320866 {j : Int} : ¬ (((41 : Nat) = 0 ∧ j = 12) ∨ ((41 : Nat) = 0 ∧ j = 13) ∨ (41 : Nat) = 12) := (fun q => q.elim (fun h => absurd h.1 (nn rfl)) (fun q => q.elim (fun h => absurd h.1 (nn rfl)) (fun h => absurd h (nn rfl))))
theorem qn_860a0ac9e {j : Int} : ¬ (((3 : Nat) = 0 ∧ j = 12) ∨ ((3 : Nat) = 0 ∧ j = 13) ∨ (3 : Nat) = 12) := (fun q => q.elim (fun h => absurd h.1 (nn rfl)) (fun q => q.elim (fun h => absurd h.1 (nn rfl)) (fun h => absurd h (nn rfl))))
theorem qn_37f624f87 {j : Int} : ¬ (((2 : Nat) = 0 ∧ j = 12) ∨ ((2 : Nat) = 0 ∧ j = 13) ∨ (2 : Nat) = 12) := (fun q => q.elim (fun h => absurd h.1 (nn rfl)) (fun q => q.elim (fun h => absurd h.1 (nn rfl)) (fun h => absurd h (nn rfl))))
theorem qn_f1cf9021e {j : Int} : ¬ (((43 : Nat) = 0 ∧ j = 12) ∨ ((43 : Nat) = 0 ∧ j = 13) ∨ (43 : Nat) = 12) := (fun q => q.elim (fun h => absurd h.1 (nn rfl)) (fun q => q.elim (fun h => absurd h.1 (nn rfl)) (fun h => absurd h (nn rfl))))
theorem qn_34eca4922 {j : Int} : ¬ (((6 : Nat) = 0 ∧ j = 12) ∨ ((6 : Nat) = 0 ∧ j = 13) ∨ (6 : Nat) = 12) := (fun q => q.elim (fun h => absurd h.1 (nn rfl)) (fun q => q.elim (fun h => absurd h.1 (nn rfl)) (fun h => absurd h (nn rfl))))
theorem qn_e4cbe4f43 {j : Int} : ¬ (((66 : Nat) = 0 ∧ j = 12) ∨ ((66 : Nat) = 0 ∧ j = 13) ∨ (66 : Nat) = 12) := (fun q => q.elim (fun h => absurd h.1 (nn rfl)) (fun q => q.elim (fun h => absurd h.1 (nn rfl)) (fun h => absurd h (nn rfl))))
theorem qn_3770fd1a9 {P : Nat} {j : Int} (hP : P = 13 ∨ P = 25) : ¬ (((1 : Nat) = 0 ∧ j = 13) ∨ (1 : Nat) = (P + 10) ∨ (1 : Nat) = (P + 11) ∨ (1 : Nat) = 11) := (fun q => q.elim (fun h => absurd h.1 (nn rfl)) (fun q => q.elim (fun h => absurd h (pn hP rfl rfl)) (fun q => q.elim (fun h => absurd h (pn hP rfl rfl)) (fun h => absurd h (nn rfl)))))
theorem qn_691fb4e77 {P : Nat} {j : Int} (hP : P = 13 ∨ P = 25) : ¬ (((41 : Nat) = 0 ∧ j = 13) ∨ (41 : Nat) = (P + 10) ∨ (41 : Nat) = (P + 11) ∨ (41 : Nat) = 11) := (fun q => q.elim (fun h => absurd h.1 (nn rfl)) (fun q => q.elim (fun h => absurd h (pn hP rfl rfl)) (fun q => q.elim (fun h => absurd h (pn hP rfl rfl)) (fun h => absurd h (nn rfl)))))
theorem qn_75dcb717b {P : Nat} {j : Int} (hP : P = 13 ∨ P = 25) : ¬ ((P = 0 ∧ j = 13) ∨ P = (P + 10) ∨ P = (P + 11) ∨ P = 11) := (fun q => q.elim (fun h => absurd h.1 (np0 hP rfl)) (fun q => q.elim (fun h => absurd h (p0p rfl)) (fun q => q.elim (fun h => absurd h (p0p rfl)) (fun h => absurd h (np0 hP rfl)))))
theorem qn_16fd4bb06 {P : Nat} {j : Int} (hP : P = 13 ∨ P = 25) : ¬ (((3 : Nat) = 0 ∧ j = 13) ∨ (3 : Nat) = (P + 10) ∨ (3 : Nat) = (P + 11) ∨ (3 : Nat) = 11) := (fun q => q.elim (fun h => absurd h.1 (nn rfl)) (fun q => q.elim (fun h => absurd h (pn hP rfl rfl)) (fun q => q.elim (fun h => absurd h (pn hP rfl rfl)) (fun h => absurd h (nn rfl)))))
theorem qn_28c0e9630 {P : Nat} {j : Int} (hP : P = 13 ∨ P = 25) : ¬ (((2 : Nat) = 0 ∧ j = 13) ∨ (2 : Nat) = (P + 10) ∨ (2 : Nat) = (P + 11) ∨ (2 : Nat) = 11) := (fun q => q.elim (fun h => absurd h.1 (nn rfl)) (fun q => q.elim (fun h => absurd h (pn hP rfl rfl)) (fun q => q.elim (fun h => absurd h (pn hP rfl rfl)) (fun h => absurd h (nn rfl)))))
theorem qn_824e8473b {P : Nat} {j : Int} (hP : P = 13 ∨ P = 25) : ¬ (((43 : Nat) = 0 ∧ j = 13) ∨ (43 : Nat) = (P + 10) ∨ (43 : Nat) = (P + 11) ∨ (43 : Nat) = 11) := (fun q => q.elim (fun h => absurd h.1 (nn rfl)) (fun q => q.elim (fun h => absurd h (pn hP rfl rfl)) (fun q => q.elim (fun h => absurd h (pn hP rfl rfl)) (fun h => absurd h (nn rfl)))))
theorem qn_c3eb586cd {P : Nat} {j : Int} (hP : P = 13 ∨ P = 25) : ¬ (((6 : Nat) = 0 ∧ j = 13) ∨ (6 : Nat) = (P + 10) ∨ (6 : Nat) = (P + 11) ∨ (6 : Nat) = 11) := (fun q => q.elim (fun h => absurd h.1 (nn rfl)) (fun q => q.elim (fun h => absurd h (pn hP rfl rfl)) (fun q => q.elim (fun h => absurd h (pn hP rfl rfl)) (fun h => absurd h (nn rfl)))))
theorem qn_3fc7909e2 {P : Nat} {j : Int} (hP : P = 13 ∨ P = 25) : ¬ (((66 : Nat) = 0 ∧ j = 13) ∨ (66 : Nat) = (P + 10) ∨ (66 : Nat) = (P + 11) ∨ (66 : Nat) = 11) := (fun q => q.elim (fun h => absurd h.1 (nn rfl)) (fun q => q.elim (fun h => absurd h (pn hP rfl rfl)) (fun q => q.elim (fun h => absurd h (pn hP rfl rfl)) (fun h => absurd h (nn rfl)))))
theorem qn_e391c0369 {P : Nat} {j : Int} (hP : P = 13 ∨ P = 25) : ¬ ((P = 0 ∧ j = 13) ∨ P = 10) := (fun q => q.elim (fun h => absurd h.1 (np0 hP rfl)) (fun h => absurd h (np0 hP rfl)))
theorem qn_0bb414bab {j : Int} : ¬ (((1 : Nat) = 41 ∧ j = 0) ∨ (1 : Nat) = 42 ∨ (1 : Nat) = 65) := (fun q => q.elim (fun h => absurd h.1 (nn rfl)) (fun q => q.elim (fun h => absurd h (nn rfl)) (fun h => absurd h (nn rfl))))
theorem qn_ebfe7b626 : ¬ (((41 : Nat) = 41 ∧ (2 : Int) = 0) ∨ (41 : Nat) = 42 ∨ (41 : Nat) = 65) := (fun q => q.elim (fun h => absurd h.2 (ni rfl)) (fun q => q.elim (fun h => absurd h (nn rfl)) (fun h => absurd h (nn rfl))))
theorem qn_7f38acc6d {P : Nat} {j : Int} (hP : P = 13 ∨ P = 25) : ¬ ((P = 41 ∧ j = 0) ∨ P = 42 ∨ P = 65) := (fun q => q.elim (fun h => absurd h.1 (np0 hP rfl)) (fun q => q.elim (fun h => absurd h (np0 hP rfl)) (fun h => absurd h (np0 hP rfl))))
theorem qn_cd1179a69 : ¬ (((41 : Nat) = 41 ∧ (20 : Int) = 0) ∨ (41 : Nat) = 42 ∨ (41 : Nat) = 65) := (fun q => q.elim (fun h => absurd h.2 (ni rfl)) (fun q => q.elim (fun h => absurd h (nn rfl)) (fun h => absurd h (nn rfl))))
theorem qn_b9279a13b : ¬ (((41 : Nat) = 41 ∧ (21 : Int) = 0) ∨ (41 : Nat) = 42 ∨ (41 : Nat) = 65) := (fun q => q.elim (fun h => absurd h.2 (ni rfl)) (fun q => q.elim (fun h => absurd h (nn rfl)) (fun h => absurd h (nn rfl))))
theorem qn_60858c59b : ¬ (((41 : Nat) = 41 ∧ (22 : Int) = 0) ∨ (41 : Nat) = 42 ∨ (41 : Nat) = 65) := (fun q => q.elim (fun h => absurd h.2 (ni rfl)) (fun q => q.elim (fun h => absurd h (nn rfl)) (fun h => absurd h (nn rfl))))
theorem qn_cac453c9d : ¬ (((41 : Nat) = 41 ∧ (23 : Int) = 0) ∨ (41 : Nat) = 42 ∨ (41 : Nat) = 65) := (fun q => q.elim (fun h => absurd h.2 (ni rfl)) (fun q => q.elim (fun h => absurd h (nn rfl)) (fun h => absurd h (nn rfl))))
theorem qn_43df1dc4f {j : Int} : ¬ (((3 : Nat) = 41 ∧ j = 0) ∨ (3 : Nat) = 42 ∨ (3 : Nat) = 65) := (fun q => q.elim (fun h => absurd h.1 (nn rfl)) (fun q => q.elim (fun h => absurd h (nn rfl)) (fun h => absurd h (nn rfl))))
theorem qn_200544fe4 : ¬ (((41 : Nat) = 41 ∧ (52 : Int) = 0) ∨ (41 : Nat) = 42 ∨ (41 : Nat) = 65) := (fun q => q.elim (fun h => absurd h.2 (ni rfl)) (fun q => q.elim (fun h => absurd h (nn rfl)) (fun h => absurd h (nn rfl))))
theorem qn_4bede1abc : ¬ (((41 : Nat) = 41 ∧ (35 : Int) = 0) ∨ (41 : Nat) = 42 ∨ (41 : Nat) = 65) := (fun q => q.elim (fun h => absurd h.2 (ni rfl)) (fun q => q.elim (fun h => absurd h (nn rfl)) (fun h => absurd h (nn rfl))))
theorem qn_f4866e59e : ¬ (((41 : Nat) = 41 ∧ (8 : Int) = 0) ∨ (41 : Nat) = 42 ∨ (41 : Nat) = 65) := (fun q => q.elim (fun h => absurd h.2 (ni rfl)) (fun q => q.elim (fun h => absurd h (nn rfl)) (fun h => absurd h (nn rfl))))
theorem qn_43b5cfd28 {j : Int} : ¬ (((2 : Nat) = 41 ∧ j = 0) ∨ (2 : Nat) = 42 ∨ (2 : Nat) = 65) := (fun q => q.elim (fun h => absurd h.1 (nn rfl)) (fun q => q.elim (fun h => absurd h (nn rfl)) (fun h => absurd h (nn rfl))))
theorem qn_6069d5231 {j : Int} : ¬ (((43 : Nat) = 41 ∧ j = 0) ∨ (43 : Nat) = 42 ∨ (43 : Nat) = 65) := (fun q => q.elim (fun h => absurd h.1 (nn rfl)) (fun q => q.elim (fun h => absurd h (nn rfl)) (fun h => absurd h (nn rfl))))
theorem qn_9a86ee4c1 {j : Int} : ¬ (((6 : Nat) = 41 ∧ j = 0) ∨ (6 : Nat) = 42 ∨ (6 : Nat) = 65) := (fun q => q.elim (fun h => absurd h.1 (nn rfl)) (fun q => q.elim (fun h => absurd h (nn rfl)) (fun h => absurd h (nn rfl))))
theorem qn_208766d82 {j : Int} : ¬ (((66 : Nat) = 41 ∧ j = 0) ∨ (66 : Nat) = 42 ∨ (66 : Nat) = 65) := (fun q => q.elim (fun h => absurd h.1 (nn rfl)) (fun q => q.elim (fun h => absurd h (nn rfl)) (fun h => absurd h (nn rfl))))
theorem qn_db0fa2040 {P : Nat} (hP : P = 13 ∨ P = 25) : ¬ ((1 : Nat) = (P + 10) ∨ (1 : Nat) = (P + 11)) := (fun q => q.elim (fun h => absurd h (pn hP rfl rfl)) (fun h => absurd h (pn hP rfl rfl)))
theorem qn_965711e77 {j : Int} : ¬ (((1 : Nat) = 41 ∧ j = 0) ∨ (1 : Nat) = 59 ∨ (1 : Nat) = 54 ∨ (1 : Nat) = 55) := (fun q => q.elim (fun h => absurd h.1 (nn rfl)) (fun q => q.elim (fun h => absurd h (nn rfl)) (fun q => q.elim (fun h => absurd h (nn rfl)) (fun h => absurd h (nn rfl)))))
theorem qn_4d24c7afb {P : Nat} (hP : P = 13 ∨ P = 25) : ¬ ((41 : Nat) = (P + 10) ∨ (41 : Nat) = (P + 11)) := (fun q => q.elim (fun h => absurd h (pn hP rfl rfl)) (fun h => absurd h (pn hP rfl rfl)))
theorem qn_dd6cb5371 : ¬ (((41 : Nat) = 41 ∧ (2 : Int) = 0) ∨ (41 : Nat) = 59 ∨ (41 : Nat) = 54 ∨ (41 : Nat) = 55) := (fun q => q.elim (fun h => absurd h.2 (ni rfl)) (fun q => q.elim (fun h => absurd h (nn rfl)) (fun q => q.elim (fun h => absurd h (nn rfl)) (fun h => absurd h (nn rfl)))))
theorem qn_82f5c699c {P : Nat} {j : Int} (hP : P = 13 ∨ P = 25) : ¬ ((P = 41 ∧ j = 0) ∨ P = 59 ∨ P = 54 ∨ P = 55) := (fun q => q.elim (fun h => absurd h.1 (np0 hP rfl)) (fun q => q.elim (fun h => absurd h (np0 hP rfl)) (fun q => q.elim (fun h => absurd h (np0 hP rfl)) (fun h => absurd h (np0 hP rfl)))))
theorem qn_b8c7ae319 : ¬ (((41 : Nat) = 41 ∧ (21 : Int) = 0) ∨ (41 : Nat) = 59 ∨ (41 : Nat) = 54 ∨ (41 : Nat) = 55) := (fun q => q.elim (fun h => absurd h.2 (ni rfl)) (fun q => q.elim (fun h => absurd h (nn rfl)) (fun q => q.elim (fun h => absurd h (nn rfl)) (fun h => absurd h (nn rfl)))))
theorem qn_6845dc871 : ¬ (((41 : Nat) = 41 ∧ (22 : Int) = 0) ∨ (41 : Nat) = 59 ∨ (41 : Nat) = 54 ∨ (41 : Nat) = 55) := (fun q => q.elim (fun h => absurd h.2 (ni rfl)) (fun q => q.elim (fun h => absurd h (nn rfl)) (fun q => q.elim (fun h => absurd h (nn rfl)) (fun h => absurd h (nn rfl)))))
theorem qn_d7f907dd2 : ¬ (((41 : Nat) = 41 ∧ (23 : Int) = 0) ∨ (41 : Nat) = 59 ∨ (41 : Nat) = 54 ∨ (41 : Nat) = 55) := (fun q => q.elim (fun h => absurd h.2 (ni rfl)) (fun q => q.elim (fun h => absurd h (nn rfl)) (fun q => q.elim (fun h => absurd h (nn rfl)) (fun h => absurd h (nn rfl)))))
theorem qn_e1cff7f51 {P : Nat} (hP : P = 13 ∨ P = 25) : ¬ ((3 : Nat) = (P + 10) ∨ (3 : Nat) = (P + 11)) := (fun q => q.elim (fun h => absurd h (pn hP rfl rfl)) (fun h => absurd h (pn hP rfl rfl)))
theorem qn_9184c3c35 {j : Int} : ¬ (((3 : Nat) = 41 ∧ j = 0) ∨ (3 : Nat) = 59 ∨ (3 : Nat) = 54 ∨ (3 : Nat) = 55) := (fun q => q.elim (fun h => absurd h.1 (nn rfl)) (fun q => q.elim (fun h => absurd h (nn rfl)) (fun q => q.elim (fun h => absurd h (nn rfl)) (fun h => absurd h (nn rfl)))))
theorem qn_fe8d01f7a : ¬ (((41 : Nat) = 41 ∧ (52 : Int) = 0) ∨ (41 : Nat) = 59 ∨ (41 : Nat) = 54 ∨ (41 : Nat) = 55) := (fun q => q.elim (fun h => absurd h.2 (ni rfl)) (fun q => q.elim (fun h => absurd h (nn rfl)) (fun q => q.elim (fun h => absurd h (nn rfl)) (fun h => absurd h (nn rfl)))))
theorem qn_300bb1d4d : ¬ (((41 : Nat) = 41 ∧ (35 : Int) = 0) ∨ (41 : Nat) = 59 ∨ (41 : Nat) = 54 ∨ (41 : Nat) = 55) := (fun q => q.elim (fun h => absurd h.2 (ni rfl)) (fun q => q.elim (fun h => absurd h (nn rfl)) (fun q => q.elim (fun h => absurd h (nn rfl)) (fun h => absurd h (nn rfl)))))
theorem qn_040892555 : ¬ (((41 : Nat) = 41 ∧ (8 : Int) = 0) ∨ (41 : Nat) = 59 ∨ (41 : Nat) = 54 ∨ (41 : Nat) = 55) := (fun q => q.elim (fun h => absurd h.2 (ni rfl)) (fun q => q.elim (fun h => absurd h (nn rfl)) (fun q => q.elim (fun h => absurd h (nn rfl)) (fun h => absurd h (nn rfl)))))
theorem qn_7bbf03f40 {j : Int} : ¬ (((2 : Nat) = 41 ∧ j = 0) ∨ (2 : Nat) = 59 ∨ (2 : Nat) = 54 ∨ (2 : Nat) = 55) := (fun q => q.elim (fun h => absurd h.1 (nn rfl)) (fun q => q.elim (fun h => absurd h (nn rfl)) (fun q => q.elim (fun h => absurd h (nn rfl)) (fun h => absurd h (nn rfl)))))
theorem qn_389d7b966 {P : Nat} (hP : P = 13 ∨ P = 25) : ¬ ((2 : Nat) = (P + 10) ∨ (2 : Nat) = (P + 11)) := (fun q => q.elim (fun h => absurd h (pn hP rfl rfl)) (fun h => absurd h (pn hP rfl rfl)))
theorem qn_da8a66655 {j : Int} : ¬ (((43 : Nat) = 41 ∧ j = 0) ∨ (43 : Nat) = 59 ∨ (43 : Nat) = 54 ∨ (43 : Nat) = 55) := (fun q => q.elim (fun h => absurd h.1 (nn rfl)) (fun q => q.elim (fun h => absurd h (nn rfl)) (fun q => q.elim (fun h => absurd h (nn rfl)) (fun h => absurd h (nn rfl)))))
theorem qn_afbd556c9 {P : Nat} (hP : P = 13 ∨ P = 25) : ¬ ((43 : Nat) = (P + 10) ∨ (43 : Nat) = (P + 11)) := (fun q => q.elim (fun h => absurd h (pn hP rfl rfl)) (fun h => absurd h (pn hP rfl rfl)))
theorem qn_aea755759 {j : Int} : ¬ (((6 : Nat) = 41 ∧ j = 0) ∨ (6 : Nat) = 59 ∨ (6 : Nat) = 54 ∨ (6 : Nat) = 55) := (fun q => q.elim (fun h => absurd h.1 (nn rfl)) (fun q => q.elim (fun h => absurd h (nn rfl)) (fun q => q.elim (fun h => absurd h (nn rfl)) (fun h => absurd h (nn rfl)))))
theorem qn_4b8057cf3 {P : Nat} (hP : P = 13 ∨ P = 25) : ¬ ((6 : Nat) = (P + 10) ∨ (6 : Nat) = (P + 11)) := (fun q => q.elim (fun h => absurd h (pn hP rfl rfl)) (fun h => absurd h (pn hP rfl rfl)))
theorem qn_7c789e383 {j : Int} : ¬ (((66 : Nat) = 41 ∧ j = 0) ∨ (66 : Nat) = 59 ∨ (66 : Nat) = 54 ∨ (66 : Nat) = 55) := (fun q => q.elim (fun h => absurd h.1 (nn rfl)) (fun q => q.elim (fun h => absurd h (nn rfl)) (fun q => q.elim (fun h => absurd h (nn rfl)) (fun h => absurd h (nn rfl)))))
theorem qn_6dde8fd4f {P : Nat} (hP : P = 13 ∨ P = 25) : ¬ ((66 : Nat) = (P + 10) ∨ (66 : Nat) = (P + 11)) := (fun q => q.elim (fun h => absurd h (pn hP rfl rfl)) (fun h => absurd h (pn hP rfl rfl)))
theorem c_296_903 : mLk 296 903 = some (.aload_n 1, 1) := rfl
theorem c_296_904 : mLk 296 904 = some (.aload_n 0, 1) := rfl
theorem c_296_905 : mLk 296 905 = some (.iload 4, 2) := rfl
theorem c_296_907 : mLk 296 907 = some (.iconst 1, 1) := rfl
theorem c_296_908 : mLk 296 908 = some (.iadd, 1) := rfl
theorem c_296_909 : mLk 296 909 = some (.iaload, 1) := rfl
theorem c_296_910 : mLk 296 910 = some (.aload_n 0, 1) := rfl
theorem c_296_911 : mLk 296 911 = some (.iload 4, 2) := rfl
theorem c_296_913 : mLk 296 913 = some (.iconst 2, 1) := rfl
theorem c_296_914 : mLk 296 914 = some (.iadd, 1) := rfl
theorem c_296_915 : mLk 296 915 = some (.iaload, 1) := rfl
theorem c_296_916 : mLk 296 916 = some (.aload_n 3, 1) := rfl
theorem c_296_917 : mLk 296 917 = some (.invokestatic 185, 3) := rfl
theorem c_277_0 : mLk 277 0 = some (.aload_n 3, 1) := rfl
theorem c_277_1 : mLk 277 1 = some (.iconst 0, 1) := rfl
theorem c_277_2 : mLk 277 2 = some (.aload_n 0, 1) := rfl
theorem c_277_3 : mLk 277 3 = some (.iload_n 1, 1) := rfl
theorem c_277_4 : mLk 277 4 = some (.iload_n 2, 1) := rfl
theorem c_277_5 : mLk 277 5 = some (.invokevirtual 59, 3) := rfl
theorem c_296_920 : mLk 296 920 = some (.istore 5, 2) := rfl
theorem c_296_922 : mLk 296 922 = some (.aload_n 2, 1) := rfl
theorem c_296_923 : mLk 296 923 = some (.aload_n 0, 1) := rfl
theorem c_296_924 : mLk 296 924 = some (.iload 4, 2) := rfl
theorem c_296_926 : mLk 296 926 = some (.iconst 1, 1) := rfl
theorem c_296_927 : mLk 296 927 = some (.iadd, 1) := rfl
theorem c_296_928 : mLk 296 928 = some (.iaload, 1) := rfl
theorem c_296_929 : mLk 296 929 = some (.aload_n 0, 1) := rfl
theorem c_296_930 : mLk 296 930 = some (.iload 4, 2) := rfl
theorem c_296_932 : mLk 296 932 = some (.iconst 2, 1) := rfl
theorem c_296_933 : mLk 296 933 = some (.iadd, 1) := rfl
theorem c_296_934 : mLk 296 934 = some (.iaload, 1) := rfl
theorem c_296_935 : mLk 296 935 = some (.invokevirtual 187, 3) := rfl
theorem c_296_938 : mLk 296 938 = some (.istore 6, 2) := rfl
theorem c_296_940 : mLk 296 940 = some (.goto 876, 3) := rfl
theorem c_277_8 : mLk 277 8 = some (.i2l, 1) := rfl
theorem c_277_9 : mLk 277 9 = some (.lastore, 1) := rfl
theorem c_277_10 : mLk 277 10 = some (.goto 11, 3) := rfl
theorem c_277_21 : mLk 277 21 = some (.iconst 0, 1) := rfl
theorem c_277_22 : mLk 277 22 = some (.ireturn, 1) := rfl
theorem c_296_943 : mLk 296 943 = some (.aload_n 1, 1) := rfl
theorem c_296_944 : mLk 296 944 = some (.aload_n 0, 1) := rfl
theorem c_296_945 : mLk 296 945 = some (.iload 4, 2) := rfl
theorem c_296_947 : mLk 296 947 = some (.iconst 1, 1) := rfl
theorem c_296_948 : mLk 296 948 = some (.iadd, 1) := rfl
theorem c_296_949 : mLk 296 949 = some (.iaload, 1) := rfl
theorem c_296_950 : mLk 296 950 = some (.aload_n 0, 1) := rfl
theorem c_296_951 : mLk 296 951 = some (.iload 4, 2) := rfl
theorem c_296_953 : mLk 296 953 = some (.iconst 2, 1) := rfl
theorem c_296_954 : mLk 296 954 = some (.iadd, 1) := rfl
theorem c_296_955 : mLk 296 955 = some (.iaload, 1) := rfl
theorem c_296_956 : mLk 296 956 = some (.aload_n 3, 1) := rfl
theorem c_296_957 : mLk 296 957 = some (.invokestatic 188, 3) := rfl
theorem c_278_0 : mLk 278 0 = some (.aload_n 3, 1) := rfl
theorem c_278_1 : mLk 278 1 = some (.iconst 0, 1) := rfl
theorem c_278_2 : mLk 278 2 = some (.aload_n 0, 1) := rfl
theorem c_278_3 : mLk 278 3 = some (.iload_n 1, 1) := rfl
theorem c_278_4 : mLk 278 4 = some (.iload_n 2, 1) := rfl
theorem c_278_5 : mLk 278 5 = some (.invokevirtual 62, 3) := rfl
theorem c_296_960 : mLk 296 960 = some (.istore 5, 2) := rfl
theorem c_296_962 : mLk 296 962 = some (.aload_n 2, 1) := rfl
theorem c_296_963 : mLk 296 963 = some (.aload_n 0, 1) := rfl
theorem c_296_964 : mLk 296 964 = some (.iload 4, 2) := rfl
theorem c_296_966 : mLk 296 966 = some (.iconst 1, 1) := rfl
theorem c_296_967 : mLk 296 967 = some (.iadd, 1) := rfl
theorem c_296_968 : mLk 296 968 = some (.iaload, 1) := rfl
theorem c_296_969 : mLk 296 969 = some (.aload_n 0, 1) := rfl
theorem c_296_970 : mLk 296 970 = some (.iload 4, 2) := rfl
theorem c_296_972 : mLk 296 972 = some (.iconst 2, 1) := rfl
theorem c_296_973 : mLk 296 973 = some (.iadd, 1) := rfl
theorem c_296_974 : mLk 296 974 = some (.iaload, 1) := rfl
theorem c_296_975 : mLk 296 975 = some (.invokevirtual 190, 3) := rfl
theorem c_296_978 : mLk 296 978 = some (.istore 6, 2) := rfl
theorem c_296_980 : mLk 296 980 = some (.goto 836, 3) := rfl
theorem c_278_8 : mLk 278 8 = some (.i2l, 1) := rfl
theorem c_278_9 : mLk 278 9 = some (.lastore, 1) := rfl
theorem c_278_10 : mLk 278 10 = some (.goto 7, 3) := rfl
theorem c_278_17 : mLk 278 17 = some (.iconst 0, 1) := rfl
theorem c_278_18 : mLk 278 18 = some (.ireturn, 1) := rfl
theorem c_296_983 : mLk 296 983 = some (.aload_n 1, 1) := rfl
theorem c_296_984 : mLk 296 984 = some (.aload_n 0, 1) := rfl
theorem c_296_985 : mLk 296 985 = some (.iload 4, 2) := rfl
theorem c_296_987 : mLk 296 987 = some (.iconst 1, 1) := rfl
theorem c_296_988 : mLk 296 988 = some (.iadd, 1) := rfl
theorem c_296_989 : mLk 296 989 = some (.iaload, 1) := rfl
theorem c_296_990 : mLk 296 990 = some (.aload_n 0, 1) := rfl
theorem c_296_991 : mLk 296 991 = some (.iload 4, 2) := rfl
theorem c_296_993 : mLk 296 993 = some (.iconst 2, 1) := rfl
theorem c_296_994 : mLk 296 994 = some (.iadd, 1) := rfl
theorem c_296_995 : mLk 296 995 = some (.iaload, 1) := rfl
theorem c_296_996 : mLk 296 996 = some (.aload_n 0, 1) := rfl
theorem c_296_997 : mLk 296 997 = some (.iload 4, 2) := rfl
theorem c_296_999 : mLk 296 999 = some (.iconst 3, 1) := rfl
theorem c_296_1000 : mLk 296 1000 = some (.iadd, 1) := rfl
theorem c_296_1001 : mLk 296 1001 = some (.iaload, 1) := rfl
theorem c_296_1002 : mLk 296 1002 = some (.aload_n 3, 1) := rfl
theorem c_296_1003 : mLk 296 1003 = some (.invokestatic 191, 3) := rfl
theorem c_279_0 : mLk 279 0 = some (.aload 4, 2) := rfl
theorem c_279_2 : mLk 279 2 = some (.iconst 0, 1) := rfl
theorem c_279_3 : mLk 279 3 = some (.aload_n 0, 1) := rfl
theorem c_279_4 : mLk 279 4 = some (.iload_n 1, 1) := rfl
theorem c_279_5 : mLk 279 5 = some (.iload_n 2, 1) := rfl
theorem c_279_6 : mLk 279 6 = some (.iload_n 3, 1) := rfl
theorem c_279_7 : mLk 279 7 = some (.invokevirtual 65, 3) := rfl
theorem c_296_1006 : mLk 296 1006 = some (.istore 5, 2) := rfl
theorem c_296_1008 : mLk 296 1008 = some (.aload_n 2, 1) := rfl
theorem c_296_1009 : mLk 296 1009 = some (.aload_n 0, 1) := rfl
theorem c_296_1010 : mLk 296 1010 = some (.iload 4, 2) := rfl
theorem c_296_1012 : mLk 296 1012 = some (.iconst 1, 1) := rfl
theorem c_296_1013 : mLk 296 1013 = some (.iadd, 1) := rfl
theorem c_296_1014 : mLk 296 1014 = some (.iaload, 1) := rfl
theorem c_296_1015 : mLk 296 1015 = some (.aload_n 0, 1) := rfl
theorem c_296_1016 : mLk 296 1016 = some (.iload 4, 2) := rfl
theorem c_296_1018 : mLk 296 1018 = some (.iconst 2, 1) := rfl
theorem c_296_1019 : mLk 296 1019 = some (.iadd, 1) := rfl
theorem c_296_1020 : mLk 296 1020 = some (.iaload, 1) := rfl
theorem c_296_1021 : mLk 296 1021 = some (.aload_n 0, 1) := rfl
theorem c_296_1022 : mLk 296 1022 = some (.iload 4, 2) := rfl
theorem c_296_1024 : mLk 296 1024 = some (.iconst 3, 1) := rfl
theorem c_296_1025 : mLk 296 1025 = some (.iadd, 1) := rfl
theorem c_296_1026 : mLk 296 1026 = some (.iaload, 1) := rfl
theorem c_296_1027 : mLk 296 1027 = some (.invokevirtual 193, 3) := rfl
theorem c_296_1030 : mLk 296 1030 = some (.istore 6, 2) := rfl
theorem c_296_1032 : mLk 296 1032 = some (.goto 784, 3) := rfl
theorem c_279_10 : mLk 279 10 = some (.i2l, 1) := rfl
theorem c_279_11 : mLk 279 11 = some (.lastore, 1) := rfl
theorem c_279_12 : mLk 279 12 = some (.goto 7, 3) := rfl
theorem c_279_19 : mLk 279 19 = some (.iconst 0, 1) := rfl
theorem c_279_20 : mLk 279 20 = some (.ireturn, 1) := rfl
theorem c_296_1035 : mLk 296 1035 = some (.aload_n 1, 1) := rfl
theorem c_296_1036 : mLk 296 1036 = some (.aload_n 0, 1) := rfl
theorem c_296_1037 : mLk 296 1037 = some (.iload 4, 2) := rfl
theorem c_296_1039 : mLk 296 1039 = some (.iconst 1, 1) := rfl
theorem c_296_1040 : mLk 296 1040 = some (.iadd, 1) := rfl
theorem c_296_1041 : mLk 296 1041 = some (.iaload, 1) := rfl
theorem c_296_1042 : mLk 296 1042 = some (.aload_n 3, 1) := rfl
theorem c_296_1043 : mLk 296 1043 = some (.invokestatic 194, 3) := rfl
theorem c_280_0 : mLk 280 0 = some (.aload_n 2, 1) := rfl
theorem c_280_1 : mLk 280 1 = some (.iconst 0, 1) := rfl
theorem c_280_2 : mLk 280 2 = some (.aload_n 0, 1) := rfl
theorem c_280_3 : mLk 280 3 = some (.iload_n 1, 1) := rfl
theorem c_280_4 : mLk 280 4 = some (.invokevirtual 68, 3) := rfl
theorem c_296_1046 : mLk 296 1046 = some (.istore 5, 2) := rfl
theorem c_296_1048 : mLk 296 1048 = some (.aload_n 2, 1) := rfl
theorem c_296_1049 : mLk 296 1049 = some (.aload_n 0, 1) := rfl
theorem c_296_1050 : mLk 296 1050 = some (.iload 4, 2) := rfl
theorem c_296_1052 : mLk 296 1052 = some (.iconst 1, 1) := rfl
theorem c_296_1053 : mLk 296 1053 = some (.iadd, 1) := rfl
theorem c_296_1054 : mLk 296 1054 = some (.iaload, 1) := rfl
theorem c_296_1055 : mLk 296 1055 = some (.invokevirtual 196, 3) := rfl
theorem c_296_1058 : mLk 296 1058 = some (.istore 6, 2) := rfl
theorem c_296_1060 : mLk 296 1060 = some (.goto 756, 3) := rfl
theorem c_280_7 : mLk 280 7 = some (.i2l, 1) := rfl
theorem c_280_8 : mLk 280 8 = some (.lastore, 1) := rfl
theorem c_280_9 : mLk 280 9 = some (.goto 6, 3) := rfl
theorem c_280_15 : mLk 280 15 = some (.iconst 0, 1) := rfl
theorem c_280_16 : mLk 280 16 = some (.ireturn, 1) := rfl
theorem c_296_1063 : mLk 296 1063 = some (.aload_n 1, 1) := rfl
theorem c_296_1064 : mLk 296 1064 = some (.aload_n 0, 1) := rfl
theorem c_296_1065 : mLk 296 1065 = some (.iload 4, 2) := rfl
theorem c_296_1067 : mLk 296 1067 = some (.iconst 1, 1) := rfl
theorem c_296_1068 : mLk 296 1068 = some (.iadd, 1) := rfl
theorem c_296_1069 : mLk 296 1069 = some (.iaload, 1) := rfl
theorem c_296_1070 : mLk 296 1070 = some (.aload_n 3, 1) := rfl
theorem c_296_1071 : mLk 296 1071 = some (.invokestatic 197, 3) := rfl
theorem c_281_0 : mLk 281 0 = some (.aload_n 2, 1) := rfl
theorem c_281_1 : mLk 281 1 = some (.iconst 0, 1) := rfl
theorem c_281_2 : mLk 281 2 = some (.aload_n 0, 1) := rfl
theorem c_281_3 : mLk 281 3 = some (.iload_n 1, 1) := rfl
theorem c_281_4 : mLk 281 4 = some (.invokevirtual 71, 3) := rfl
theorem c_296_1074 : mLk 296 1074 = some (.istore 5, 2) := rfl
theorem c_296_1076 : mLk 296 1076 = some (.aload_n 2, 1) := rfl
theorem c_296_1077 : mLk 296 1077 = some (.aload_n 0, 1) := rfl
theorem c_296_1078 : mLk 296 1078 = some (.iload 4, 2) := rfl
theorem c_296_1080 : mLk 296 1080 = some (.iconst 1, 1) := rfl
theorem c_296_1081 : mLk 296 1081 = some (.iadd, 1) := rfl
theorem c_296_1082 : mLk 296 1082 = some (.iaload, 1) := rfl
theorem c_296_1083 : mLk 296 1083 = some (.invokevirtual 199, 3) := rfl
theorem c_296_1086 : mLk 296 1086 = some (.istore 6, 2) := rfl
theorem c_296_1088 : mLk 296 1088 = some (.goto 728, 3) := rfl
theorem c_281_7 : mLk 281 7 = some (.i2l, 1) := rfl
theorem c_281_8 : mLk 281 8 = some (.lastore, 1) := rfl
theorem c_281_9 : mLk 281 9 = some (.goto 6, 3) := rfl
theorem c_281_15 : mLk 281 15 = some (.iconst 0, 1) := rfl
theorem c_281_16 : mLk 281 16 = some (.ireturn, 1) := rfl
theorem c_296_1091 : mLk 296 1091 = some (.aload_n 1, 1) := rfl
theorem c_296_1092 : mLk 296 1092 = some (.aload_n 0, 1) := rfl
theorem c_296_1093 : mLk 296 1093 = some (.iload 4, 2) := rfl
theorem c_296_1095 : mLk 296 1095 = some (.iconst 1, 1) := rfl
theorem c_296_1096 : mLk 296 1096 = some (.iadd, 1) := rfl
theorem c_296_1097 : mLk 296 1097 = some (.iaload, 1) := rfl
theorem c_296_1098 : mLk 296 1098 = some (.aload_n 0, 1) := rfl
theorem c_296_1099 : mLk 296 1099 = some (.iload 4, 2) := rfl
theorem c_296_1101 : mLk 296 1101 = some (.iconst 2, 1) := rfl
theorem c_296_1102 : mLk 296 1102 = some (.iadd, 1) := rfl
theorem c_296_1103 : mLk 296 1103 = some (.iaload, 1) := rfl
theorem c_296_1104 : mLk 296 1104 = some (.aload_n 0, 1) := rfl
theorem c_296_1105 : mLk 296 1105 = some (.iload 4, 2) := rfl
theorem c_296_1107 : mLk 296 1107 = some (.iconst 3, 1) := rfl
theorem c_296_1108 : mLk 296 1108 = some (.iadd, 1) := rfl
theorem c_296_1109 : mLk 296 1109 = some (.iaload, 1) := rfl
theorem c_296_1110 : mLk 296 1110 = some (.aload_n 0, 1) := rfl
theorem c_296_1111 : mLk 296 1111 = some (.iload 4, 2) := rfl
theorem c_296_1113 : mLk 296 1113 = some (.iconst 4, 1) := rfl
theorem c_296_1114 : mLk 296 1114 = some (.iadd, 1) := rfl
theorem c_296_1115 : mLk 296 1115 = some (.iaload, 1) := rfl
theorem c_296_1116 : mLk 296 1116 = some (.aload_n 3, 1) := rfl
theorem c_296_1117 : mLk 296 1117 = some (.invokestatic 200, 3) := rfl
theorem c_282_0 : mLk 282 0 = some (.aload 5, 2) := rfl
theorem c_282_2 : mLk 282 2 = some (.iconst 0, 1) := rfl
theorem c_282_3 : mLk 282 3 = some (.aload_n 0, 1) := rfl
theorem c_282_4 : mLk 282 4 = some (.iload_n 1, 1) := rfl
theorem c_282_5 : mLk 282 5 = some (.iload_n 2, 1) := rfl
theorem c_282_6 : mLk 282 6 = some (.iload_n 3, 1) := rfl
theorem c_282_7 : mLk 282 7 = some (.iload 4, 2) := rfl
theorem c_282_9 : mLk 282 9 = some (.invokevirtual 74, 3) := rfl
theorem c_296_1120 : mLk 296 1120 = some (.istore 5, 2) := rfl
theorem c_296_1122 : mLk 296 1122 = some (.aload_n 2, 1) := rfl
theorem c_296_1123 : mLk 296 1123 = some (.aload_n 0, 1) := rfl
theorem c_296_1124 : mLk 296 1124 = some (.iload 4, 2) := rfl
theorem c_296_1126 : mLk 296 1126 = some (.iconst 1, 1) := rfl
theorem c_296_1127 : mLk 296 1127 = some (.iadd, 1) := rfl
theorem c_296_1128 : mLk 296 1128 = some (.iaload, 1) := rfl
theorem c_296_1129 : mLk 296 1129 = some (.aload_n 0, 1) := rfl
theorem c_296_1130 : mLk 296 1130 = some (.iload 4, 2) := rfl
theorem c_296_1132 : mLk 296 1132 = some (.iconst 2, 1) := rfl
theorem c_296_1133 : mLk 296 1133 = some (.iadd, 1) := rfl
theorem c_296_1134 : mLk 296 1134 = some (.iaload, 1) := rfl
theorem c_296_1135 : mLk 296 1135 = some (.aload_n 0, 1) := rfl
theorem c_296_1136 : mLk 296 1136 = some (.iload 4, 2) := rfl
theorem c_296_1138 : mLk 296 1138 = some (.iconst 3, 1) := rfl
theorem c_296_1139 : mLk 296 1139 = some (.iadd, 1) := rfl
theorem c_296_1140 : mLk 296 1140 = some (.iaload, 1) := rfl
theorem c_296_1141 : mLk 296 1141 = some (.aload_n 0, 1) := rfl
theorem c_296_1142 : mLk 296 1142 = some (.iload 4, 2) := rfl
theorem c_296_1144 : mLk 296 1144 = some (.iconst 4, 1) := rfl
theorem c_296_1145 : mLk 296 1145 = some (.iadd, 1) := rfl
theorem c_296_1146 : mLk 296 1146 = some (.iaload, 1) := rfl
theorem c_296_1147 : mLk 296 1147 = some (.invokevirtual 203, 3) := rfl
theorem c_296_1150 : mLk 296 1150 = some (.lstore 6, 2) := rfl
theorem c_296_1152 : mLk 296 1152 = some (.goto 664, 3) := rfl
theorem c_282_12 : mLk 282 12 = some (.lastore, 1) := rfl
theorem c_282_13 : mLk 282 13 = some (.goto 7, 3) := rfl
theorem c_282_20 : mLk 282 20 = some (.iconst 0, 1) := rfl
theorem c_282_21 : mLk 282 21 = some (.ireturn, 1) := rfl
theorem c_296_1155 : mLk 296 1155 = some (.aload_n 1, 1) := rfl
theorem c_296_1156 : mLk 296 1156 = some (.aload_n 0, 1) := rfl
theorem c_296_1157 : mLk 296 1157 = some (.iload 4, 2) := rfl
theorem c_296_1159 : mLk 296 1159 = some (.iconst 1, 1) := rfl
theorem c_296_1160 : mLk 296 1160 = some (.iadd, 1) := rfl
theorem c_296_1161 : mLk 296 1161 = some (.iaload, 1) := rfl
theorem c_296_1162 : mLk 296 1162 = some (.aload_n 0, 1) := rfl
theorem c_296_1163 : mLk 296 1163 = some (.iload 4, 2) := rfl
theorem c_296_1165 : mLk 296 1165 = some (.iconst 2, 1) := rfl
theorem c_296_1166 : mLk 296 1166 = some (.iadd, 1) := rfl
theorem c_296_1167 : mLk 296 1167 = some (.iaload, 1) := rfl
theorem c_296_1168 : mLk 296 1168 = some (.aload_n 0, 1) := rfl
theorem c_296_1169 : mLk 296 1169 = some (.iload 4, 2) := rfl
theorem c_296_1171 : mLk 296 1171 = some (.iconst 3, 1) := rfl
theorem c_296_1172 : mLk 296 1172 = some (.iadd, 1) := rfl
theorem c_296_1173 : mLk 296 1173 = some (.iaload, 1) := rfl
theorem c_296_1174 : mLk 296 1174 = some (.aload_n 3, 1) := rfl
theorem c_296_1175 : mLk 296 1175 = some (.invokestatic 204, 3) := rfl
theorem c_283_0 : mLk 283 0 = some (.aload 4, 2) := rfl
theorem c_283_2 : mLk 283 2 = some (.iconst 0, 1) := rfl
theorem c_283_3 : mLk 283 3 = some (.aload_n 0, 1) := rfl
theorem c_283_4 : mLk 283 4 = some (.iload_n 1, 1) := rfl
theorem c_283_5 : mLk 283 5 = some (.iload_n 2, 1) := rfl
theorem c_283_6 : mLk 283 6 = some (.iload_n 3, 1) := rfl
theorem c_283_7 : mLk 283 7 = some (.invokevirtual 78, 3) := rfl
theorem c_296_1178 : mLk 296 1178 = some (.istore 5, 2) := rfl
theorem c_296_1180 : mLk 296 1180 = some (.aload_n 2, 1) := rfl
theorem c_296_1181 : mLk 296 1181 = some (.aload_n 0, 1) := rfl
theorem c_296_1182 : mLk 296 1182 = some (.iload 4, 2) := rfl
theorem c_296_1184 : mLk 296 1184 = some (.iconst 1, 1) := rfl
theorem c_296_1185 : mLk 296 1185 = some (.iadd, 1) := rfl
theorem c_296_1186 : mLk 296 1186 = some (.iaload, 1) := rfl
theorem c_296_1187 : mLk 296 1187 = some (.aload_n 0, 1) := rfl
theorem c_296_1188 : mLk 296 1188 = some (.iload 4, 2) := rfl
theorem c_296_1190 : mLk 296 1190 = some (.iconst 2, 1) := rfl
theorem c_296_1191 : mLk 296 1191 = some (.iadd, 1) := rfl
theorem c_296_1192 : mLk 296 1192 = some (.iaload, 1) := rfl
theorem c_296_1193 : mLk 296 1193 = some (.aload_n 0, 1) := rfl
theorem c_296_1194 : mLk 296 1194 = some (.iload 4, 2) := rfl
theorem c_296_1196 : mLk 296 1196 = some (.iconst 3, 1) := rfl
theorem c_296_1197 : mLk 296 1197 = some (.iadd, 1) := rfl
theorem c_296_1198 : mLk 296 1198 = some (.iaload, 1) := rfl
theorem c_296_1199 : mLk 296 1199 = some (.invokevirtual 206, 3) := rfl
theorem c_296_1202 : mLk 296 1202 = some (.istore 6, 2) := rfl
theorem c_296_1204 : mLk 296 1204 = some (.goto 612, 3) := rfl
theorem c_283_10 : mLk 283 10 = some (.i2l, 1) := rfl
theorem c_283_11 : mLk 283 11 = some (.lastore, 1) := rfl
theorem c_283_12 : mLk 283 12 = some (.goto 7, 3) := rfl
theorem c_283_19 : mLk 283 19 = some (.iconst 0, 1) := rfl
theorem c_283_20 : mLk 283 20 = some (.ireturn, 1) := rfl
theorem c_296_1207 : mLk 296 1207 = some (.aload_n 1, 1) := rfl
theorem c_296_1208 : mLk 296 1208 = some (.aload_n 0, 1) := rfl
theorem c_296_1209 : mLk 296 1209 = some (.iload 4, 2) := rfl
theorem c_296_1211 : mLk 296 1211 = some (.iconst 1, 1) := rfl
theorem c_296_1212 : mLk 296 1212 = some (.iadd, 1) := rfl
theorem c_296_1213 : mLk 296 1213 = some (.iaload, 1) := rfl
theorem c_296_1214 : mLk 296 1214 = some (.aload_n 0, 1) := rfl
theorem c_296_1215 : mLk 296 1215 = some (.iload 4, 2) := rfl
theorem c_296_1217 : mLk 296 1217 = some (.iconst 2, 1) := rfl
theorem c_296_1218 : mLk 296 1218 = some (.iadd, 1) := rfl
theorem c_296_1219 : mLk 296 1219 = some (.iaload, 1) := rfl
theorem c_296_1220 : mLk 296 1220 = some (.aload_n 0, 1) := rfl
theorem c_296_1221 : mLk 296 1221 = some (.iload 4, 2) := rfl
theorem c_296_1223 : mLk 296 1223 = some (.iconst 3, 1) := rfl
theorem c_296_1224 : mLk 296 1224 = some (.iadd, 1) := rfl
theorem c_296_1225 : mLk 296 1225 = some (.iaload, 1) := rfl
theorem c_296_1226 : mLk 296 1226 = some (.aload_n 3, 1) := rfl
theorem c_296_1227 : mLk 296 1227 = some (.invokestatic 207, 3) := rfl
theorem c_284_0 : mLk 284 0 = some (.aload 4, 2) := rfl
theorem c_284_2 : mLk 284 2 = some (.iconst 0, 1) := rfl
theorem c_284_3 : mLk 284 3 = some (.aload_n 0, 1) := rfl
theorem c_284_4 : mLk 284 4 = some (.iload_n 1, 1) := rfl
theorem c_284_5 : mLk 284 5 = some (.iload_n 2, 1) := rfl
theorem c_284_6 : mLk 284 6 = some (.iload_n 3, 1) := rfl
theorem c_284_7 : mLk 284 7 = some (.invokevirtual 81, 3) := rfl
theorem c_296_1230 : mLk 296 1230 = some (.istore 5, 2) := rfl
theorem c_296_1232 : mLk 296 1232 = some (.aload_n 2, 1) := rfl
theorem c_296_1233 : mLk 296 1233 = some (.aload_n 0, 1) := rfl
theorem c_296_1234 : mLk 296 1234 = some (.iload 4, 2) := rfl
theorem c_296_1236 : mLk 296 1236 = some (.iconst 1, 1) := rfl
theorem c_296_1237 : mLk 296 1237 = some (.iadd, 1) := rfl
theorem c_296_1238 : mLk 296 1238 = some (.iaload, 1) := rfl
theorem c_296_1239 : mLk 296 1239 = some (.aload_n 0, 1) := rfl
theorem c_296_1240 : mLk 296 1240 = some (.iload 4, 2) := rfl
theorem c_296_1242 : mLk 296 1242 = some (.iconst 2, 1) := rfl
theorem c_296_1243 : mLk 296 1243 = some (.iadd, 1) := rfl
theorem c_296_1244 : mLk 296 1244 = some (.iaload, 1) := rfl
theorem c_296_1245 : mLk 296 1245 = some (.aload_n 0, 1) := rfl
theorem c_296_1246 : mLk 296 1246 = some (.iload 4, 2) := rfl
theorem c_296_1248 : mLk 296 1248 = some (.iconst 3, 1) := rfl
theorem c_296_1249 : mLk 296 1249 = some (.iadd, 1) := rfl
theorem c_296_1250 : mLk 296 1250 = some (.iaload, 1) := rfl
theorem c_296_1251 : mLk 296 1251 = some (.invokevirtual 209, 3) := rfl
theorem c_296_1254 : mLk 296 1254 = some (.istore 6, 2) := rfl
theorem c_296_1256 : mLk 296 1256 = some (.goto 560, 3) := rfl
theorem c_284_10 : mLk 284 10 = some (.i2l, 1) := rfl
theorem c_284_11 : mLk 284 11 = some (.lastore, 1) := rfl
theorem c_284_12 : mLk 284 12 = some (.goto 11, 3) := rfl
theorem c_284_23 : mLk 284 23 = some (.iconst 0, 1) := rfl
theorem c_284_24 : mLk 284 24 = some (.ireturn, 1) := rfl
theorem c_296_1259 : mLk 296 1259 = some (.aload_n 1, 1) := rfl
theorem c_296_1260 : mLk 296 1260 = some (.aload_n 0, 1) := rfl
theorem c_296_1261 : mLk 296 1261 = some (.iload 4, 2) := rfl
theorem c_296_1263 : mLk 296 1263 = some (.iconst 1, 1) := rfl
theorem c_296_1264 : mLk 296 1264 = some (.iadd, 1) := rfl
theorem c_296_1265 : mLk 296 1265 = some (.iaload, 1) := rfl
theorem c_296_1266 : mLk 296 1266 = some (.aload_n 3, 1) := rfl
theorem c_296_1267 : mLk 296 1267 = some (.invokestatic 210, 3) := rfl
theorem c_285_0 : mLk 285 0 = some (.aload_n 2, 1) := rfl
theorem c_285_1 : mLk 285 1 = some (.iconst 0, 1) := rfl
theorem c_285_2 : mLk 285 2 = some (.aload_n 0, 1) := rfl
theorem c_285_3 : mLk 285 3 = some (.iload_n 1, 1) := rfl
theorem c_285_4 : mLk 285 4 = some (.invokevirtual 84, 3) := rfl
theorem c_296_1270 : mLk 296 1270 = some (.istore 5, 2) := rfl
theorem c_296_1272 : mLk 296 1272 = some (.aload_n 2, 1) := rfl
theorem c_296_1273 : mLk 296 1273 = some (.aload_n 0, 1) := rfl
theorem c_296_1274 : mLk 296 1274 = some (.iload 4, 2) := rfl
theorem c_296_1276 : mLk 296 1276 = some (.iconst 1, 1) := rfl
theorem c_296_1277 : mLk 296 1277 = some (.iadd, 1) := rfl
theorem c_296_1278 : mLk 296 1278 = some (.iaload, 1) := rfl
theorem c_296_1279 : mLk 296 1279 = some (.invokevirtual 212, 3) := rfl
theorem c_296_1282 : mLk 296 1282 = some (.istore 6, 2) := rfl
theorem c_296_1284 : mLk 296 1284 = some (.goto 532, 3) := rfl
theorem c_285_7 : mLk 285 7 = some (.i2l, 1) := rfl
theorem c_285_8 : mLk 285 8 = some (.lastore, 1) := rfl
theorem c_285_9 : mLk 285 9 = some (.goto 6, 3) := rfl
theorem c_285_15 : mLk 285 15 = some (.iconst 0, 1) := rfl
theorem c_285_16 : mLk 285 16 = some (.ireturn, 1) := rfl
theorem c_296_1287 : mLk 296 1287 = some (.aload_n 1, 1) := rfl
theorem c_296_1288 : mLk 296 1288 = some (.invokevirtual 213, 3) := rfl
theorem c_296_1291 : mLk 296 1291 = some (.pop, 1) := rfl
theorem c_296_1292 : mLk 296 1292 = some (.aload_n 2, 1) := rfl
theorem c_296_1293 : mLk 296 1293 = some (.invokevirtual 216, 3) := rfl
theorem c_296_1296 : mLk 296 1296 = some (.pop, 1) := rfl
theorem c_296_1297 : mLk 296 1297 = some (.goto 519, 3) := rfl
theorem km_9_187 : a_lk (kM 9) 187 = some (0, 221) := rfl
theorem km_9_190 : a_lk (kM 9) 190 = some (0, 227) := rfl
theorem km_9_193 : a_lk (kM 9) 193 = some (0, 228) := rfl
theorem km_9_196 : a_lk (kM 9) 196 = some (0, 230) := rfl
theorem km_9_199 : a_lk (kM 9) 199 = some (0, 232) := rfl
theorem km_9_203 : a_lk (kM 9) 203 = some (0, 234) := rfl
theorem km_9_206 : a_lk (kM 9) 206 = some (0, 236) := rfl
theorem km_9_209 : a_lk (kM 9) 209 = some (0, 239) := rfl
theorem km_9_212 : a_lk (kM 9) 212 = some (0, 240) := rfl
theorem km_9_213 : a_lk (kM 9) 213 = some (0, 106) := rfl
theorem km_9_216 : a_lk (kM 9) 216 = some (0, 241) := rfl
theorem km_9_59 : a_lk (kM 9) 59 = some (0, 114) := rfl
theorem km_9_62 : a_lk (kM 9) 62 = some (0, 119) := rfl
theorem km_9_65 : a_lk (kM 9) 65 = some (0, 123) := rfl
theorem km_9_68 : a_lk (kM 9) 68 = some (0, 128) := rfl
theorem km_9_71 : a_lk (kM 9) 71 = some (0, 131) := rfl
theorem km_9_74 : a_lk (kM 9) 74 = some (0, 134) := rfl
theorem km_9_78 : a_lk (kM 9) 78 = some (0, 136) := rfl
theorem km_9_81 : a_lk (kM 9) 81 = some (0, 125) := rfl
theorem km_9_84 : a_lk (kM 9) 84 = some (0, 105) := rfl
set_option maxRecDepth 100000 in
set_option maxHeartbeats 4000000 in
theorem o_17 {xs : Nat → Int32} {L i0 d nc ns P Q : Nat} {c : ME} {Z : AR → Prop} (hi : i0 + 8 ≤ L) (hL : L ≤ 100000) (hI : Iv 0 (-1) P Q c) (hR : Rq P c) (K : ∀ (P2 Q2 : Nat) (c2 : ME) (e : Nat), e ≤ 1 → Iv 0 (-1) P2 Q2 c2 → (Rq P2 c2) → Wp (a_scr L xs) (d + 90) 296 1816 [(4, vi (i0 : Int)), (3, .ref 67), (2, .ref 41), (1, .ref 0), (0, .ref a_SC)] [] (Wd P2 Q2 P2 P2 c2) (nc + e) (ns + 6 * e) Z) : Wp (a_scr L xs) (d + 90) 296 903 [(4, vi (i0 : Int)), (3, .ref 67), (2, .ref 41), (1, .ref 0), (0, .ref a_SC)] [] (Wd P Q P P c) nc ns Z := by
  obtain ⟨x1, hx1⟩ : ∃ z, (xs (i0 + 1)).toInt = z := ⟨_, rfl⟩
  have x1r := c_rng (xs (i0 + 1))
  rw [hx1] at x1r
  obtain ⟨x2, hx2⟩ : ∃ z, (xs (i0 + 2)).toInt = z := ⟨_, rfl⟩
  have x2r := c_rng (xs (i0 + 2))
  rw [hx2] at x2r
  obtain ⟨x3, hx3⟩ : ∃ z, (xs (i0 + 3)).toInt = z := ⟨_, rfl⟩
  have x3r := c_rng (xs (i0 + 3))
  rw [hx3] at x3r
  obtain ⟨x4, hx4⟩ : ∃ z, (xs (i0 + 4)).toInt = z := ⟨_, rfl⟩
  have x4r := c_rng (xs (i0 + 4))
  rw [hx4] at x4r
  obtain ⟨x5, hx5⟩ : ∃ z, (xs (i0 + 5)).toInt = z := ⟨_, rfl⟩
  have x5r := c_rng (xs (i0 + 5))
  rw [hx5] at x5r
  obtain ⟨x6, hx6⟩ : ∃ z, (xs (i0 + 6)).toInt = z := ⟨_, rfl⟩
  have x6r := c_rng (xs (i0 + 6))
  rw [hx6] at x6r
  obtain ⟨x7, hx7⟩ : ∃ z, (xs (i0 + 7)).toInt = z := ⟨_, rfl⟩
  have x7r := c_rng (xs (i0 + 7))
  rw [hx7] at x7r
  have hP := iv_P hI
  have hQ := iv_Q hI
  have hT := rl_t hR
  have hU := rl_u hR
  obtain ⟨n0, hn0⟩ : ∃ z, c P 0 = z := ⟨_, rfl⟩
  have hm0 : c 41 20 = n0 := (rl_nums hR).1.symm.trans hn0
  have hr0 := ir_p0_0 hI hP
  rw [hn0] at hr0
  obtain ⟨n1, hn1⟩ : ∃ z, c P 1 = z := ⟨_, rfl⟩
  have hm1 : c 41 21 = n1 := (rl_nums hR).2.1.symm.trans hn1
  have hr1 := ir_p0_1 hI hP
  rw [hn1] at hr1
  obtain ⟨n2, hn2⟩ : ∃ z, c P 2 = z := ⟨_, rfl⟩
  have hm2 : c 41 22 = n2 := (rl_nums hR).2.2.1.symm.trans hn2
  have hr2 := ir_p0_2 hI hP
  rw [hn2] at hr2
  obtain ⟨n3, hn3⟩ : ∃ z, c P 3 = z := ⟨_, rfl⟩
  have hm3 : c 41 23 = n3 := (rl_nums hR).2.2.2.symm.trans hn3
  have hr3 := ir_p0_3 hI hP
  rw [hn3] at hr3
  have hNimg := rl_img hR
  have hNwk := rl_wk hR
  have h_1 := ir_3_4 hI
  have hIw := rl_iw hR
  have hNplace := rl_place hR
  refine q_aload_n c_296_903 rfl (q_aload_n c_296_904 rfl (q_iload c_296_905 rfl (q_iconst c_296_907 (v_iadd (v := (i0 : Int) + 1) c_296_908 rfl (v_scr (j := i0 + 1) c_296_909 (by omega) (by omega) hL hx1 (q_aload_n c_296_910 rfl (q_iload c_296_911 rfl ?_)))))))
  refine q_iconst c_296_913 (v_iadd (v := (i0 : Int) + 2) c_296_914 rfl (v_scr (j := i0 + 2) c_296_915 (by omega) (by omega) hL hx2 (q_aload_n c_296_916 rfl (q_call c_296_917 rfl rfl rfl (q_aload_n c_277_0 rfl (q_iconst c_277_1 (q_aload_n c_277_2 rfl ?_)))))))
  refine q_iload_n c_277_3 rfl (q_iload_n c_277_4 rfl ?_)
  refine v_cv c_277_5 km_9_59 rfl rfl (Nat.le_of_ble_eq_true rfl) ⟨⟨rfl, rfl⟩, Nat.le_of_ble_eq_true rfl, rfl⟩ (Nat.le_of_ble_eq_true rfl) (Nat.le_of_ble_eq_true rfl) (s_114 (a1 := x1) (a2 := x2) hI (show (-2147483648) ≤ x1 ∧ x1 ≤ 2147483647 from ⟨by omega, by omega⟩) (show (-2147483648) ≤ x2 ∧ x2 ≤ 2147483647 from ⟨by omega, by omega⟩) (fun c_2 hI_3 hF_4 => ?_) (fun c_5 hI_6 hF_7 => ?_) (fun c_8 y_11 hI_9 hF_10 hy_11 => ?_))
  · skip
    refine bk_thr (z := Int32.ofInt 1) rfl ⟨_, _, rfl⟩ rfl (bk_inl (q_istore c_296_920 (Nat.le_of_ble_eq_true rfl) (q_aload_n c_296_922 rfl (q_aload_n c_296_923 rfl (q_iload c_296_924 rfl (q_iconst c_296_926 (v_iadd (v := (i0 : Int) + 1) c_296_927 rfl ?_)))))))
    refine v_scr (j := i0 + 1) c_296_928 (by omega) (by omega) hL hx1 (q_aload_n c_296_929 rfl (q_iload c_296_930 rfl (q_iconst c_296_932 (v_iadd (v := (i0 : Int) + 2) c_296_933 rfl (v_scr (j := i0 + 2) c_296_934 (by omega) (by omega) hL hx2 (v_cv c_296_935 km_9_187 rfl rfl (Nat.le_of_ble_eq_true rfl) ⟨⟨rfl, rfl⟩, Nat.le_of_ble_eq_true rfl, rfl⟩ (Nat.le_of_ble_eq_true rfl) (Nat.le_of_ble_eq_true rfl) (s_221 (a1 := x1) (a2 := x2) hI_3 (show (-2147483648) ≤ x1 ∧ x1 ≤ 2147483647 from ⟨by omega, by omega⟩) (show (-2147483648) ≤ x2 ∧ x2 ≤ 2147483647 from ⟨by omega, by omega⟩) (fun c_12 y_15 hI_13 hF_14 hy_15 => (bk_inl ?_)))))))))
    refine q_istore c_296_938 (Nat.le_of_ble_eq_true rfl) (q_goto (t := 1816) c_296_940 rfl (Wp_ls [(4, vi (i0 : Int)), (3, .ref 67), (2, .ref 41), (1, .ref 0), (0, .ref a_SC)] (lsub_cons rfl (lsub_cons rfl (lsub_cons rfl (lsub_cons rfl (lsub_cons rfl lsub_nil))))) ?_))
    have h_16 := ir_1_3 hI
    have kn_17 : Hid (c_2 1 3 = c 1 3) := hF_4 1 3 qn_eae2a9dd9
    have kn_18 : Hid (c_12 1 3 = c 1 3) := (hF_14 1 3 qn_39cd18c3e).trans (hid kn_17)
    have h_19 : c_12 1 3 = c 1 3 := (hid kn_18)
    have h_20 := ir_41_2 hI
    have kn_21 : Hid (c_2 41 2 = c 41 2) := hF_4 41 2 qn_ad6320866
    have kn_22 : Hid (c_12 41 2 = c 41 2) := (hF_14 41 2 qn_53bdb2099).trans (hid kn_21)
    have h_23 : c_12 41 2 = c 41 2 := (hid kn_22)
    have kn_24 : Hid (c_2 P 0 = n0) := (hF_4 P 0 (qn_b39d5257d hP)).trans (hn0)
    have kn_25 : Hid (c_12 P 0 = n0) := (hF_14 P 0 (qn_857752076 hP)).trans (hid kn_24)
    have h_26 : c_12 P 0 = n0 := (hid kn_25)
    have kn_27 : Hid (c_2 41 20 = n0) := (hF_4 41 20 qn_ad6320866).trans (hm0)
    have kn_28 : Hid (c_12 41 20 = n0) := (hF_14 41 20 qn_110b29ed6).trans (hid kn_27)
    have h_29 : c_12 41 20 = n0 := (hid kn_28)
    have kn_30 : Hid (c_2 P 1 = n1) := (hF_4 P 1 (qn_b39d5257d hP)).trans (hn1)
    have kn_31 : Hid (c_12 P 1 = n1) := (hF_14 P 1 (qn_857752076 hP)).trans (hid kn_30)
    have h_32 : c_12 P 1 = n1 := (hid kn_31)
    have kn_33 : Hid (c_2 41 21 = n1) := (hF_4 41 21 qn_ad6320866).trans (hm1)
    have kn_34 : Hid (c_12 41 21 = n1) := (hF_14 41 21 qn_561064c41).trans (hid kn_33)
    have h_35 : c_12 41 21 = n1 := (hid kn_34)
    have kn_36 : Hid (c_2 P 2 = n2) := (hF_4 P 2 (qn_b39d5257d hP)).trans (hn2)
    have kn_37 : Hid (c_12 P 2 = n2) := (hF_14 P 2 (qn_857752076 hP)).trans (hid kn_36)
    have h_38 : c_12 P 2 = n2 := (hid kn_37)
    have kn_39 : Hid (c_2 41 22 = n2) := (hF_4 41 22 qn_ad6320866).trans (hm2)
    have kn_40 : Hid (c_12 41 22 = n2) := (hF_14 41 22 qn_1a460b46b).trans (hid kn_39)
    have h_41 : c_12 41 22 = n2 := (hid kn_40)
    have kn_42 : Hid (c_2 P 3 = n3) := (hF_4 P 3 (qn_b39d5257d hP)).trans (hn3)
    have kn_43 : Hid (c_12 P 3 = n3) := (hF_14 P 3 (qn_857752076 hP)).trans (hid kn_42)
    have h_44 : c_12 P 3 = n3 := (hid kn_43)
    have kn_45 : Hid (c_2 41 23 = n3) := (hF_4 41 23 qn_ad6320866).trans (hm3)
    have kn_46 : Hid (c_12 41 23 = n3) := (hF_14 41 23 qn_b79f282cd).trans (hid kn_45)
    have h_47 : c_12 41 23 = n3 := (hid kn_46)
    have kn_48 : Hid (c_2 3 4 = c 3 4) := hF_4 3 4 qn_860a0ac9e
    have kn_49 : Hid (c_12 3 4 = c 3 4) := (hF_14 3 4 qn_bf2303cc8).trans (hid kn_48)
    have h_50 : c_12 3 4 = c 3 4 := (hid kn_49)
    have h_51 := ir_41_52 hI
    have kn_52 : Hid (c_2 41 52 = c 41 52) := hF_4 41 52 qn_ad6320866
    have kn_53 : Hid (c_12 41 52 = c 41 52) := (hF_14 41 52 qn_90835161a).trans (hid kn_52)
    have h_54 : c_12 41 52 = c 41 52 := (hid kn_53)
    have h_55 := ir_3_3 hI
    have kn_56 : Hid (c_2 3 3 = c 3 3) := hF_4 3 3 qn_860a0ac9e
    have kn_57 : Hid (c_12 3 3 = c 3 3) := (hF_14 3 3 qn_bf2303cc8).trans (hid kn_56)
    have h_58 : c_12 3 3 = c 3 3 := (hid kn_57)
    have h_59 := ir_41_35 hI
    have kn_60 : Hid (c_2 41 35 = c 41 35) := hF_4 41 35 qn_ad6320866
    have kn_61 : Hid (c_12 41 35 = c 41 35) := (hF_14 41 35 qn_732a91ea5).trans (hid kn_60)
    have h_62 : c_12 41 35 = c 41 35 := (hid kn_61)
    have h_63 : c_12 3 4 = c 3 4 := (hid kn_49)
    have h_64 := ir_1_5 hI
    have kn_65 : Hid (c_2 1 5 = c 1 5) := hF_4 1 5 qn_eae2a9dd9
    have kn_66 : Hid (c_12 1 5 = c 1 5) := (hF_14 1 5 qn_39cd18c3e).trans (hid kn_65)
    have h_67 : c_12 1 5 = c 1 5 := (hid kn_66)
    have h_68 := ir_41_8 hI
    have kn_69 : Hid (c_2 41 8 = c 41 8) := hF_4 41 8 qn_ad6320866
    have kn_70 : Hid (c_12 41 8 = c 41 8) := (hF_14 41 8 qn_b601a9968).trans (hid kn_69)
    have h_71 : c_12 41 8 = c 41 8 := (hid kn_70)
    exact K P Q c_12 1 (by decide) hI_13 ⟨by omega, ub_fr hU (fun j => (hF_14 2 j qn_2ad67e194).trans (hF_4 2 j qn_37f624f87)) (fun j => (hF_14 43 j qn_1520ff5e3).trans (hF_4 43 j qn_f1cf9021e)), ⟨by omega, by omega, by omega, by omega⟩, by omega, by omega, iw_fr2 hIw (by omega) (fun j => (hF_14 6 j qn_e1050858a).trans (hF_4 6 j qn_34eca4922)) (fun j => (hF_14 66 j qn_5616dd9ce).trans (hF_4 66 j qn_e4cbe4f43)), by omega⟩
  · skip
    refine bk_thr (z := Int32.ofInt 2) rfl ⟨_, _, rfl⟩ rfl (bk_inl (q_istore c_296_920 (Nat.le_of_ble_eq_true rfl) (q_aload_n c_296_922 rfl (q_aload_n c_296_923 rfl (q_iload c_296_924 rfl (q_iconst c_296_926 (v_iadd (v := (i0 : Int) + 1) c_296_927 rfl ?_)))))))
    refine v_scr (j := i0 + 1) c_296_928 (by omega) (by omega) hL hx1 (q_aload_n c_296_929 rfl (q_iload c_296_930 rfl (q_iconst c_296_932 (v_iadd (v := (i0 : Int) + 2) c_296_933 rfl (v_scr (j := i0 + 2) c_296_934 (by omega) (by omega) hL hx2 (v_cv c_296_935 km_9_187 rfl rfl (Nat.le_of_ble_eq_true rfl) ⟨⟨rfl, rfl⟩, Nat.le_of_ble_eq_true rfl, rfl⟩ (Nat.le_of_ble_eq_true rfl) (Nat.le_of_ble_eq_true rfl) (s_221 (a1 := x1) (a2 := x2) hI_6 (show (-2147483648) ≤ x1 ∧ x1 ≤ 2147483647 from ⟨by omega, by omega⟩) (show (-2147483648) ≤ x2 ∧ x2 ≤ 2147483647 from ⟨by omega, by omega⟩) (fun c_72 y_75 hI_73 hF_74 hy_75 => (bk_inl ?_)))))))))
    refine q_istore c_296_938 (Nat.le_of_ble_eq_true rfl) (q_goto (t := 1816) c_296_940 rfl (Wp_ls [(4, vi (i0 : Int)), (3, .ref 67), (2, .ref 41), (1, .ref 0), (0, .ref a_SC)] (lsub_cons rfl (lsub_cons rfl (lsub_cons rfl (lsub_cons rfl (lsub_cons rfl lsub_nil))))) ?_))
    have h_76 := ir_1_3 hI
    have kn_77 : Hid (c_5 1 3 = c 1 3) := hF_7 1 3 qn_eae2a9dd9
    have kn_78 : Hid (c_72 1 3 = c 1 3) := (hF_74 1 3 qn_39cd18c3e).trans (hid kn_77)
    have h_79 : c_72 1 3 = c 1 3 := (hid kn_78)
    have h_80 := ir_41_2 hI
    have kn_81 : Hid (c_5 41 2 = c 41 2) := hF_7 41 2 qn_ad6320866
    have kn_82 : Hid (c_72 41 2 = c 41 2) := (hF_74 41 2 qn_53bdb2099).trans (hid kn_81)
    have h_83 : c_72 41 2 = c 41 2 := (hid kn_82)
    have kn_84 : Hid (c_5 P 0 = n0) := (hF_7 P 0 (qn_b39d5257d hP)).trans (hn0)
    have kn_85 : Hid (c_72 P 0 = n0) := (hF_74 P 0 (qn_857752076 hP)).trans (hid kn_84)
    have h_86 : c_72 P 0 = n0 := (hid kn_85)
    have kn_87 : Hid (c_5 41 20 = n0) := (hF_7 41 20 qn_ad6320866).trans (hm0)
    have kn_88 : Hid (c_72 41 20 = n0) := (hF_74 41 20 qn_110b29ed6).trans (hid kn_87)
    have h_89 : c_72 41 20 = n0 := (hid kn_88)
    have kn_90 : Hid (c_5 P 1 = n1) := (hF_7 P 1 (qn_b39d5257d hP)).trans (hn1)
    have kn_91 : Hid (c_72 P 1 = n1) := (hF_74 P 1 (qn_857752076 hP)).trans (hid kn_90)
    have h_92 : c_72 P 1 = n1 := (hid kn_91)
    have kn_93 : Hid (c_5 41 21 = n1) := (hF_7 41 21 qn_ad6320866).trans (hm1)
    have kn_94 : Hid (c_72 41 21 = n1) := (hF_74 41 21 qn_561064c41).trans (hid kn_93)
    have h_95 : c_72 41 21 = n1 := (hid kn_94)
    have kn_96 : Hid (c_5 P 2 = n2) := (hF_7 P 2 (qn_b39d5257d hP)).trans (hn2)
    have kn_97 : Hid (c_72 P 2 = n2) := (hF_74 P 2 (qn_857752076 hP)).trans (hid kn_96)
    have h_98 : c_72 P 2 = n2 := (hid kn_97)
    have kn_99 : Hid (c_5 41 22 = n2) := (hF_7 41 22 qn_ad6320866).trans (hm2)
    have kn_100 : Hid (c_72 41 22 = n2) := (hF_74 41 22 qn_1a460b46b).trans (hid kn_99)
    have h_101 : c_72 41 22 = n2 := (hid kn_100)
    have kn_102 : Hid (c_5 P 3 = n3) := (hF_7 P 3 (qn_b39d5257d hP)).trans (hn3)
    have kn_103 : Hid (c_72 P 3 = n3) := (hF_74 P 3 (qn_857752076 hP)).trans (hid kn_102)
    have h_104 : c_72 P 3 = n3 := (hid kn_103)
    have kn_105 : Hid (c_5 41 23 = n3) := (hF_7 41 23 qn_ad6320866).trans (hm3)
    have kn_106 : Hid (c_72 41 23 = n3) := (hF_74 41 23 qn_b79f282cd).trans (hid kn_105)
    have h_107 : c_72 41 23 = n3 := (hid kn_106)
    have kn_108 : Hid (c_5 3 4 = c 3 4) := hF_7 3 4 qn_860a0ac9e
    have kn_109 : Hid (c_72 3 4 = c 3 4) := (hF_74 3 4 qn_bf2303cc8).trans (hid kn_108)
    have h_110 : c_72 3 4 = c 3 4 := (hid kn_109)
    have h_111 := ir_41_52 hI
    have kn_112 : Hid (c_5 41 52 = c 41 52) := hF_7 41 52 qn_ad6320866
    have kn_113 : Hid (c_72 41 52 = c 41 52) := (hF_74 41 52 qn_90835161a).trans (hid kn_112)
    have h_114 : c_72 41 52 = c 41 52 := (hid kn_113)
    have h_115 := ir_3_3 hI
    have kn_116 : Hid (c_5 3 3 = c 3 3) := hF_7 3 3 qn_860a0ac9e
    have kn_117 : Hid (c_72 3 3 = c 3 3) := (hF_74 3 3 qn_bf2303cc8).trans (hid kn_116)
    have h_118 : c_72 3 3 = c 3 3 := (hid kn_117)
    have h_119 := ir_41_35 hI
    have kn_120 : Hid (c_5 41 35 = c 41 35) := hF_7 41 35 qn_ad6320866
    have kn_121 : Hid (c_72 41 35 = c 41 35) := (hF_74 41 35 qn_732a91ea5).trans (hid kn_120)
    have h_122 : c_72 41 35 = c 41 35 := (hid kn_121)
    have h_123 : c_72 3 4 = c 3 4 := (hid kn_109)
    have h_124 := ir_1_5 hI
    have kn_125 : Hid (c_5 1 5 = c 1 5) := hF_7 1 5 qn_eae2a9dd9
    have kn_126 : Hid (c_72 1 5 = c 1 5) := (hF_74 1 5 qn_39cd18c3e).trans (hid kn_125)
    have h_127 : c_72 1 5 = c 1 5 := (hid kn_126)
    have h_128 := ir_41_8 hI
    have kn_129 : Hid (c_5 41 8 = c 41 8) := hF_7 41 8 qn_ad6320866
    have kn_130 : Hid (c_72 41 8 = c 41 8) := (hF_74 41 8 qn_b601a9968).trans (hid kn_129)
    have h_131 : c_72 41 8 = c 41 8 := (hid kn_130)
    exact K P Q c_72 1 (by decide) hI_73 ⟨by omega, ub_fr hU (fun j => (hF_74 2 j qn_2ad67e194).trans (hF_7 2 j qn_37f624f87)) (fun j => (hF_74 43 j qn_1520ff5e3).trans (hF_7 43 j qn_f1cf9021e)), ⟨by omega, by omega, by omega, by omega⟩, by omega, by omega, iw_fr2 hIw (by omega) (fun j => (hF_74 6 j qn_e1050858a).trans (hF_7 6 j qn_34eca4922)) (fun j => (hF_74 66 j qn_5616dd9ce).trans (hF_7 66 j qn_e4cbe4f43)), by omega⟩
  refine bk_inl (v_i2l c_277_8 (by omega) (v_ls c_277_9 rfl (by decide) (by decide) (by decide) (q_goto (t := 21) c_277_10 rfl (q_iconst c_277_21 (q_iret c_277_22 rfl (bk_inl (q_istore c_296_920 (Nat.le_of_ble_eq_true rfl) ?_)))))))
  refine q_aload_n c_296_922 rfl (q_aload_n c_296_923 rfl (q_iload c_296_924 rfl (q_iconst c_296_926 (v_iadd (v := (i0 : Int) + 1) c_296_927 rfl (v_scr (j := i0 + 1) c_296_928 (by omega) (by omega) hL hx1 (q_aload_n c_296_929 rfl (q_iload c_296_930 rfl ?_)))))))
  refine q_iconst c_296_932 (v_iadd (v := (i0 : Int) + 2) c_296_933 rfl (v_scr (j := i0 + 2) c_296_934 (by omega) (by omega) hL hx2 ?_))
  have hI_132 := iw_lx (a := 67) (j := 0) (v := y_11) hI_9 (by omega)
  refine v_cv c_296_935 km_9_187 rfl rfl (Nat.le_of_ble_eq_true rfl) ⟨⟨rfl, rfl⟩, Nat.le_of_ble_eq_true rfl, rfl⟩ (Nat.le_of_ble_eq_true rfl) (Nat.le_of_ble_eq_true rfl) (s_221 (a1 := x1) (a2 := x2) hI_132 (show (-2147483648) ≤ x1 ∧ x1 ≤ 2147483647 from ⟨by omega, by omega⟩) (show (-2147483648) ≤ x2 ∧ x2 ≤ 2147483647 from ⟨by omega, by omega⟩) (fun c_133 y_136 hI_134 hF_135 hy_136 => (bk_inl (q_istore c_296_938 (Nat.le_of_ble_eq_true rfl) (q_goto (t := 1816) c_296_940 rfl (Wp_ls [(4, vi (i0 : Int)), (3, .ref 67), (2, .ref 41), (1, .ref 0), (0, .ref a_SC)] (lsub_cons rfl (lsub_cons rfl (lsub_cons rfl (lsub_cons rfl (lsub_cons rfl lsub_nil))))) ?_))))))
  have h_137 := ir_1_3 hI
  have kn_138 : Hid (c_8 1 3 = c 1 3) := hF_10 1 3 qn_eae2a9dd9
  have kn_139 : Hid (c_133 1 3 = c 1 3) := (hF_135 1 3 qn_39cd18c3e).trans ((up_c (nn rfl)).trans (hid kn_138))
  have h_140 : c_133 1 3 = c 1 3 := (hid kn_139)
  have h_141 := ir_41_2 hI
  have kn_142 : Hid (c_8 41 2 = c 41 2) := hF_10 41 2 qn_ad6320866
  have kn_143 : Hid (c_133 41 2 = c 41 2) := (hF_135 41 2 qn_53bdb2099).trans ((up_c (nn rfl)).trans (hid kn_142))
  have h_144 : c_133 41 2 = c 41 2 := (hid kn_143)
  have kn_145 : Hid (c_8 P 0 = n0) := (hF_10 P 0 (qn_b39d5257d hP)).trans (hn0)
  have kn_146 : Hid (c_133 P 0 = n0) := (hF_135 P 0 (qn_857752076 hP)).trans ((up_c (np0 hP rfl)).trans (hid kn_145))
  have h_147 : c_133 P 0 = n0 := (hid kn_146)
  have kn_148 : Hid (c_8 41 20 = n0) := (hF_10 41 20 qn_ad6320866).trans (hm0)
  have kn_149 : Hid (c_133 41 20 = n0) := (hF_135 41 20 qn_110b29ed6).trans ((up_c (nn rfl)).trans (hid kn_148))
  have h_150 : c_133 41 20 = n0 := (hid kn_149)
  have kn_151 : Hid (c_8 P 1 = n1) := (hF_10 P 1 (qn_b39d5257d hP)).trans (hn1)
  have kn_152 : Hid (c_133 P 1 = n1) := (hF_135 P 1 (qn_857752076 hP)).trans ((up_c (np0 hP rfl)).trans (hid kn_151))
  have h_153 : c_133 P 1 = n1 := (hid kn_152)
  have kn_154 : Hid (c_8 41 21 = n1) := (hF_10 41 21 qn_ad6320866).trans (hm1)
  have kn_155 : Hid (c_133 41 21 = n1) := (hF_135 41 21 qn_561064c41).trans ((up_c (nn rfl)).trans (hid kn_154))
  have h_156 : c_133 41 21 = n1 := (hid kn_155)
  have kn_157 : Hid (c_8 P 2 = n2) := (hF_10 P 2 (qn_b39d5257d hP)).trans (hn2)
  have kn_158 : Hid (c_133 P 2 = n2) := (hF_135 P 2 (qn_857752076 hP)).trans ((up_c (np0 hP rfl)).trans (hid kn_157))
  have h_159 : c_133 P 2 = n2 := (hid kn_158)
  have kn_160 : Hid (c_8 41 22 = n2) := (hF_10 41 22 qn_ad6320866).trans (hm2)
  have kn_161 : Hid (c_133 41 22 = n2) := (hF_135 41 22 qn_1a460b46b).trans ((up_c (nn rfl)).trans (hid kn_160))
  have h_162 : c_133 41 22 = n2 := (hid kn_161)
  have kn_163 : Hid (c_8 P 3 = n3) := (hF_10 P 3 (qn_b39d5257d hP)).trans (hn3)
  have kn_164 : Hid (c_133 P 3 = n3) := (hF_135 P 3 (qn_857752076 hP)).trans ((up_c (np0 hP rfl)).trans (hid kn_163))
  have h_165 : c_133 P 3 = n3 := (hid kn_164)
  have kn_166 : Hid (c_8 41 23 = n3) := (hF_10 41 23 qn_ad6320866).trans (hm3)
  have kn_167 : Hid (c_133 41 23 = n3) := (hF_135 41 23 qn_b79f282cd).trans ((up_c (nn rfl)).trans (hid kn_166))
  have h_168 : c_133 41 23 = n3 := (hid kn_167)
  have kn_169 : Hid (c_8 3 4 = c 3 4) := hF_10 3 4 qn_860a0ac9e
  have kn_170 : Hid (c_133 3 4 = c 3 4) := (hF_135 3 4 qn_bf2303cc8).trans ((up_c (nn rfl)).trans (hid kn_169))
  have h_171 : c_133 3 4 = c 3 4 := (hid kn_170)
  have h_172 := ir_41_52 hI
  have kn_173 : Hid (c_8 41 52 = c 41 52) := hF_10 41 52 qn_ad6320866
  have kn_174 : Hid (c_133 41 52 = c 41 52) := (hF_135 41 52 qn_90835161a).trans ((up_c (nn rfl)).trans (hid kn_173))
  have h_175 : c_133 41 52 = c 41 52 := (hid kn_174)
  have h_176 := ir_3_3 hI
  have kn_177 : Hid (c_8 3 3 = c 3 3) := hF_10 3 3 qn_860a0ac9e
  have kn_178 : Hid (c_133 3 3 = c 3 3) := (hF_135 3 3 qn_bf2303cc8).trans ((up_c (nn rfl)).trans (hid kn_177))
  have h_179 : c_133 3 3 = c 3 3 := (hid kn_178)
  have h_180 := ir_41_35 hI
  have kn_181 : Hid (c_8 41 35 = c 41 35) := hF_10 41 35 qn_ad6320866
  have kn_182 : Hid (c_133 41 35 = c 41 35) := (hF_135 41 35 qn_732a91ea5).trans ((up_c (nn rfl)).trans (hid kn_181))
  have h_183 : c_133 41 35 = c 41 35 := (hid kn_182)
  have h_184 : c_133 3 4 = c 3 4 := (hid kn_170)
  have h_185 := ir_1_5 hI
  have kn_186 : Hid (c_8 1 5 = c 1 5) := hF_10 1 5 qn_eae2a9dd9
  have kn_187 : Hid (c_133 1 5 = c 1 5) := (hF_135 1 5 qn_39cd18c3e).trans ((up_c (nn rfl)).trans (hid kn_186))
  have h_188 : c_133 1 5 = c 1 5 := (hid kn_187)
  have h_189 := ir_41_8 hI
  have kn_190 : Hid (c_8 41 8 = c 41 8) := hF_10 41 8 qn_ad6320866
  have kn_191 : Hid (c_133 41 8 = c 41 8) := (hF_135 41 8 qn_b601a9968).trans ((up_c (nn rfl)).trans (hid kn_190))
  have h_192 : c_133 41 8 = c 41 8 := (hid kn_191)
  exact K P Q c_133 0 (by decide) hI_134 ⟨by omega, ub_fr hU (fun j => (hF_135 2 j qn_2ad67e194).trans ((up_c (nn rfl)).trans (hF_10 2 j qn_37f624f87))) (fun j => (hF_135 43 j qn_1520ff5e3).trans ((up_c (nn rfl)).trans (hF_10 43 j qn_f1cf9021e))), ⟨by omega, by omega, by omega, by omega⟩, by omega, by omega, iw_fr2 hIw (by omega) (fun j => (hF_135 6 j qn_e1050858a).trans ((up_c (nn rfl)).trans (hF_10 6 j qn_34eca4922))) (fun j => (hF_135 66 j qn_5616dd9ce).trans ((up_c (nn rfl)).trans (hF_10 66 j qn_e4cbe4f43))), by omega⟩

set_option maxRecDepth 100000 in
set_option maxHeartbeats 4000000 in
theorem o_18 {xs : Nat → Int32} {L i0 d nc ns P Q : Nat} {c : ME} {Z : AR → Prop} (hi : i0 + 8 ≤ L) (hL : L ≤ 100000) (hI : Iv 0 (-1) P Q c) (hR : Rq P c) (K : ∀ (P2 Q2 : Nat) (c2 : ME) (e : Nat), e ≤ 1 → Iv 0 (-1) P2 Q2 c2 → (Rq P2 c2) → Wp (a_scr L xs) (d + 90) 296 1816 [(4, vi (i0 : Int)), (3, .ref 67), (2, .ref 41), (1, .ref 0), (0, .ref a_SC)] [] (Wd P2 Q2 P2 P2 c2) (nc + e) (ns + 6 * e) Z) : Wp (a_scr L xs) (d + 90) 296 943 [(4, vi (i0 : Int)), (3, .ref 67), (2, .ref 41), (1, .ref 0), (0, .ref a_SC)] [] (Wd P Q P P c) nc ns Z := by
  obtain ⟨x1, hx1⟩ : ∃ z, (xs (i0 + 1)).toInt = z := ⟨_, rfl⟩
  have x1r := c_rng (xs (i0 + 1))
  rw [hx1] at x1r
  obtain ⟨x2, hx2⟩ : ∃ z, (xs (i0 + 2)).toInt = z := ⟨_, rfl⟩
  have x2r := c_rng (xs (i0 + 2))
  rw [hx2] at x2r
  obtain ⟨x3, hx3⟩ : ∃ z, (xs (i0 + 3)).toInt = z := ⟨_, rfl⟩
  have x3r := c_rng (xs (i0 + 3))
  rw [hx3] at x3r
  obtain ⟨x4, hx4⟩ : ∃ z, (xs (i0 + 4)).toInt = z := ⟨_, rfl⟩
  have x4r := c_rng (xs (i0 + 4))
  rw [hx4] at x4r
  obtain ⟨x5, hx5⟩ : ∃ z, (xs (i0 + 5)).toInt = z := ⟨_, rfl⟩
  have x5r := c_rng (xs (i0 + 5))
  rw [hx5] at x5r
  obtain ⟨x6, hx6⟩ : ∃ z, (xs (i0 + 6)).toInt = z := ⟨_, rfl⟩
  have x6r := c_rng (xs (i0 + 6))
  rw [hx6] at x6r
  obtain ⟨x7, hx7⟩ : ∃ z, (xs (i0 + 7)).toInt = z := ⟨_, rfl⟩
  have x7r := c_rng (xs (i0 + 7))
  rw [hx7] at x7r
  have hP := iv_P hI
  have hQ := iv_Q hI
  have hT := rl_t hR
  have hU := rl_u hR
  obtain ⟨n0, hn0⟩ : ∃ z, c P 0 = z := ⟨_, rfl⟩
  have hm0 : c 41 20 = n0 := (rl_nums hR).1.symm.trans hn0
  have hr0 := ir_p0_0 hI hP
  rw [hn0] at hr0
  obtain ⟨n1, hn1⟩ : ∃ z, c P 1 = z := ⟨_, rfl⟩
  have hm1 : c 41 21 = n1 := (rl_nums hR).2.1.symm.trans hn1
  have hr1 := ir_p0_1 hI hP
  rw [hn1] at hr1
  obtain ⟨n2, hn2⟩ : ∃ z, c P 2 = z := ⟨_, rfl⟩
  have hm2 : c 41 22 = n2 := (rl_nums hR).2.2.1.symm.trans hn2
  have hr2 := ir_p0_2 hI hP
  rw [hn2] at hr2
  obtain ⟨n3, hn3⟩ : ∃ z, c P 3 = z := ⟨_, rfl⟩
  have hm3 : c 41 23 = n3 := (rl_nums hR).2.2.2.symm.trans hn3
  have hr3 := ir_p0_3 hI hP
  rw [hn3] at hr3
  have hNimg := rl_img hR
  have hNwk := rl_wk hR
  have h_1 := ir_3_4 hI
  have hIw := rl_iw hR
  have hNplace := rl_place hR
  refine q_aload_n c_296_943 rfl (q_aload_n c_296_944 rfl (q_iload c_296_945 rfl (q_iconst c_296_947 (v_iadd (v := (i0 : Int) + 1) c_296_948 rfl (v_scr (j := i0 + 1) c_296_949 (by omega) (by omega) hL hx1 (q_aload_n c_296_950 rfl (q_iload c_296_951 rfl ?_)))))))
  refine q_iconst c_296_953 (v_iadd (v := (i0 : Int) + 2) c_296_954 rfl (v_scr (j := i0 + 2) c_296_955 (by omega) (by omega) hL hx2 (q_aload_n c_296_956 rfl (q_call c_296_957 rfl rfl rfl (q_aload_n c_278_0 rfl (q_iconst c_278_1 (q_aload_n c_278_2 rfl ?_)))))))
  refine q_iload_n c_278_3 rfl (q_iload_n c_278_4 rfl ?_)
  refine v_cv c_278_5 km_9_62 rfl rfl (Nat.le_of_ble_eq_true rfl) ⟨⟨rfl, rfl⟩, Nat.le_of_ble_eq_true rfl, rfl⟩ (Nat.le_of_ble_eq_true rfl) (Nat.le_of_ble_eq_true rfl) (s_119 (a1 := x1) (a2 := x2) hI (show (-2147483648) ≤ x1 ∧ x1 ≤ 2147483647 from ⟨by omega, by omega⟩) (show (-2147483648) ≤ x2 ∧ x2 ≤ 2147483647 from ⟨by omega, by omega⟩) (fun c_2 hI_3 hF_4 => ?_) (fun c_5 y_8 hI_6 hF_7 hy_8 => ?_))
  · skip
    refine bk_thr (z := Int32.ofInt 1) rfl ⟨_, _, rfl⟩ rfl (bk_inl (q_istore c_296_960 (Nat.le_of_ble_eq_true rfl) (q_aload_n c_296_962 rfl (q_aload_n c_296_963 rfl (q_iload c_296_964 rfl (q_iconst c_296_966 (v_iadd (v := (i0 : Int) + 1) c_296_967 rfl ?_)))))))
    refine v_scr (j := i0 + 1) c_296_968 (by omega) (by omega) hL hx1 (q_aload_n c_296_969 rfl (q_iload c_296_970 rfl (q_iconst c_296_972 (v_iadd (v := (i0 : Int) + 2) c_296_973 rfl (v_scr (j := i0 + 2) c_296_974 (by omega) (by omega) hL hx2 (v_cv c_296_975 km_9_190 rfl rfl (Nat.le_of_ble_eq_true rfl) ⟨⟨rfl, rfl⟩, Nat.le_of_ble_eq_true rfl, rfl⟩ (Nat.le_of_ble_eq_true rfl) (Nat.le_of_ble_eq_true rfl) (s_227 (a1 := x1) (a2 := x2) hI_3 (show (-2147483648) ≤ x1 ∧ x1 ≤ 2147483647 from ⟨by omega, by omega⟩) (show (-2147483648) ≤ x2 ∧ x2 ≤ 2147483647 from ⟨by omega, by omega⟩) (fun c_9 y_12 hI_10 hF_11 hy_12 => (bk_inl ?_)))))))))
    refine q_istore c_296_978 (Nat.le_of_ble_eq_true rfl) (q_goto (t := 1816) c_296_980 rfl (Wp_ls [(4, vi (i0 : Int)), (3, .ref 67), (2, .ref 41), (1, .ref 0), (0, .ref a_SC)] (lsub_cons rfl (lsub_cons rfl (lsub_cons rfl (lsub_cons rfl (lsub_cons rfl lsub_nil))))) ?_))
    have h_13 := ir_1_3 hI
    have kn_14 : Hid (c_2 1 3 = c 1 3) := hF_4 1 3 (fun h => absurd h.1 (nn rfl))
    have kn_15 : Hid (c_9 1 3 = c 1 3) := (hF_11 1 3 qn_39cd18c3e).trans (hid kn_14)
    have h_16 : c_9 1 3 = c 1 3 := (hid kn_15)
    have h_17 := ir_41_2 hI
    have kn_18 : Hid (c_2 41 2 = c 41 2) := hF_4 41 2 (fun h => absurd h.1 (nn rfl))
    have kn_19 : Hid (c_9 41 2 = c 41 2) := (hF_11 41 2 qn_53bdb2099).trans (hid kn_18)
    have h_20 : c_9 41 2 = c 41 2 := (hid kn_19)
    have kn_21 : Hid (c_2 P 0 = n0) := (hF_4 P 0 (fun h => absurd h.1 (np0 hP rfl))).trans (hn0)
    have kn_22 : Hid (c_9 P 0 = n0) := (hF_11 P 0 (qn_857752076 hP)).trans (hid kn_21)
    have h_23 : c_9 P 0 = n0 := (hid kn_22)
    have kn_24 : Hid (c_2 41 20 = n0) := (hF_4 41 20 (fun h => absurd h.1 (nn rfl))).trans (hm0)
    have kn_25 : Hid (c_9 41 20 = n0) := (hF_11 41 20 qn_110b29ed6).trans (hid kn_24)
    have h_26 : c_9 41 20 = n0 := (hid kn_25)
    have kn_27 : Hid (c_2 P 1 = n1) := (hF_4 P 1 (fun h => absurd h.1 (np0 hP rfl))).trans (hn1)
    have kn_28 : Hid (c_9 P 1 = n1) := (hF_11 P 1 (qn_857752076 hP)).trans (hid kn_27)
    have h_29 : c_9 P 1 = n1 := (hid kn_28)
    have kn_30 : Hid (c_2 41 21 = n1) := (hF_4 41 21 (fun h => absurd h.1 (nn rfl))).trans (hm1)
    have kn_31 : Hid (c_9 41 21 = n1) := (hF_11 41 21 qn_561064c41).trans (hid kn_30)
    have h_32 : c_9 41 21 = n1 := (hid kn_31)
    have kn_33 : Hid (c_2 P 2 = n2) := (hF_4 P 2 (fun h => absurd h.1 (np0 hP rfl))).trans (hn2)
    have kn_34 : Hid (c_9 P 2 = n2) := (hF_11 P 2 (qn_857752076 hP)).trans (hid kn_33)
    have h_35 : c_9 P 2 = n2 := (hid kn_34)
    have kn_36 : Hid (c_2 41 22 = n2) := (hF_4 41 22 (fun h => absurd h.1 (nn rfl))).trans (hm2)
    have kn_37 : Hid (c_9 41 22 = n2) := (hF_11 41 22 qn_1a460b46b).trans (hid kn_36)
    have h_38 : c_9 41 22 = n2 := (hid kn_37)
    have kn_39 : Hid (c_2 P 3 = n3) := (hF_4 P 3 (fun h => absurd h.1 (np0 hP rfl))).trans (hn3)
    have kn_40 : Hid (c_9 P 3 = n3) := (hF_11 P 3 (qn_857752076 hP)).trans (hid kn_39)
    have h_41 : c_9 P 3 = n3 := (hid kn_40)
    have kn_42 : Hid (c_2 41 23 = n3) := (hF_4 41 23 (fun h => absurd h.1 (nn rfl))).trans (hm3)
    have kn_43 : Hid (c_9 41 23 = n3) := (hF_11 41 23 qn_b79f282cd).trans (hid kn_42)
    have h_44 : c_9 41 23 = n3 := (hid kn_43)
    have kn_45 : Hid (c_2 3 4 = c 3 4) := hF_4 3 4 (fun h => absurd h.1 (nn rfl))
    have kn_46 : Hid (c_9 3 4 = c 3 4) := (hF_11 3 4 qn_bf2303cc8).trans (hid kn_45)
    have h_47 : c_9 3 4 = c 3 4 := (hid kn_46)
    have h_48 := ir_41_52 hI
    have kn_49 : Hid (c_2 41 52 = c 41 52) := hF_4 41 52 (fun h => absurd h.1 (nn rfl))
    have kn_50 : Hid (c_9 41 52 = c 41 52) := (hF_11 41 52 qn_90835161a).trans (hid kn_49)
    have h_51 : c_9 41 52 = c 41 52 := (hid kn_50)
    have h_52 := ir_3_3 hI
    have kn_53 : Hid (c_2 3 3 = c 3 3) := hF_4 3 3 (fun h => absurd h.1 (nn rfl))
    have kn_54 : Hid (c_9 3 3 = c 3 3) := (hF_11 3 3 qn_bf2303cc8).trans (hid kn_53)
    have h_55 : c_9 3 3 = c 3 3 := (hid kn_54)
    have h_56 := ir_41_35 hI
    have kn_57 : Hid (c_2 41 35 = c 41 35) := hF_4 41 35 (fun h => absurd h.1 (nn rfl))
    have kn_58 : Hid (c_9 41 35 = c 41 35) := (hF_11 41 35 qn_732a91ea5).trans (hid kn_57)
    have h_59 : c_9 41 35 = c 41 35 := (hid kn_58)
    have h_60 : c_9 3 4 = c 3 4 := (hid kn_46)
    have h_61 := ir_1_5 hI
    have kn_62 : Hid (c_2 1 5 = c 1 5) := hF_4 1 5 (fun h => absurd h.1 (nn rfl))
    have kn_63 : Hid (c_9 1 5 = c 1 5) := (hF_11 1 5 qn_39cd18c3e).trans (hid kn_62)
    have h_64 : c_9 1 5 = c 1 5 := (hid kn_63)
    have h_65 := ir_41_8 hI
    have kn_66 : Hid (c_2 41 8 = c 41 8) := hF_4 41 8 (fun h => absurd h.1 (nn rfl))
    have kn_67 : Hid (c_9 41 8 = c 41 8) := (hF_11 41 8 qn_b601a9968).trans (hid kn_66)
    have h_68 : c_9 41 8 = c 41 8 := (hid kn_67)
    exact K P Q c_9 1 (by decide) hI_10 ⟨by omega, ub_fr hU (fun j => (hF_11 2 j qn_2ad67e194).trans (hF_4 2 j (fun h => absurd h.1 (nn rfl)))) (fun j => (hF_11 43 j qn_1520ff5e3).trans (hF_4 43 j (fun h => absurd h.1 (nn rfl)))), ⟨by omega, by omega, by omega, by omega⟩, by omega, by omega, iw_fr2 hIw (by omega) (fun j => (hF_11 6 j qn_e1050858a).trans (hF_4 6 j (fun h => absurd h.1 (nn rfl)))) (fun j => (hF_11 66 j qn_5616dd9ce).trans (hF_4 66 j (fun h => absurd h.1 (nn rfl)))), by omega⟩
  refine bk_inl (v_i2l c_278_8 (by omega) (v_ls c_278_9 rfl (by decide) (by decide) (by decide) (q_goto (t := 17) c_278_10 rfl (q_iconst c_278_17 (q_iret c_278_18 rfl (bk_inl (q_istore c_296_960 (Nat.le_of_ble_eq_true rfl) ?_)))))))
  refine q_aload_n c_296_962 rfl (q_aload_n c_296_963 rfl (q_iload c_296_964 rfl (q_iconst c_296_966 (v_iadd (v := (i0 : Int) + 1) c_296_967 rfl (v_scr (j := i0 + 1) c_296_968 (by omega) (by omega) hL hx1 (q_aload_n c_296_969 rfl (q_iload c_296_970 rfl ?_)))))))
  refine q_iconst c_296_972 (v_iadd (v := (i0 : Int) + 2) c_296_973 rfl (v_scr (j := i0 + 2) c_296_974 (by omega) (by omega) hL hx2 ?_))
  have hI_69 := iw_lx (a := 67) (j := 0) (v := y_8) hI_6 (by omega)
  refine v_cv c_296_975 km_9_190 rfl rfl (Nat.le_of_ble_eq_true rfl) ⟨⟨rfl, rfl⟩, Nat.le_of_ble_eq_true rfl, rfl⟩ (Nat.le_of_ble_eq_true rfl) (Nat.le_of_ble_eq_true rfl) (s_227 (a1 := x1) (a2 := x2) hI_69 (show (-2147483648) ≤ x1 ∧ x1 ≤ 2147483647 from ⟨by omega, by omega⟩) (show (-2147483648) ≤ x2 ∧ x2 ≤ 2147483647 from ⟨by omega, by omega⟩) (fun c_70 y_73 hI_71 hF_72 hy_73 => (bk_inl (q_istore c_296_978 (Nat.le_of_ble_eq_true rfl) (q_goto (t := 1816) c_296_980 rfl (Wp_ls [(4, vi (i0 : Int)), (3, .ref 67), (2, .ref 41), (1, .ref 0), (0, .ref a_SC)] (lsub_cons rfl (lsub_cons rfl (lsub_cons rfl (lsub_cons rfl (lsub_cons rfl lsub_nil))))) ?_))))))
  have h_74 := ir_1_3 hI
  have kn_75 : Hid (c_5 1 3 = c 1 3) := hF_7 1 3 (fun h => absurd h.1 (nn rfl))
  have kn_76 : Hid (c_70 1 3 = c 1 3) := (hF_72 1 3 qn_39cd18c3e).trans ((up_c (nn rfl)).trans (hid kn_75))
  have h_77 : c_70 1 3 = c 1 3 := (hid kn_76)
  have h_78 := ir_41_2 hI
  have kn_79 : Hid (c_5 41 2 = c 41 2) := hF_7 41 2 (fun h => absurd h.1 (nn rfl))
  have kn_80 : Hid (c_70 41 2 = c 41 2) := (hF_72 41 2 qn_53bdb2099).trans ((up_c (nn rfl)).trans (hid kn_79))
  have h_81 : c_70 41 2 = c 41 2 := (hid kn_80)
  have kn_82 : Hid (c_5 P 0 = n0) := (hF_7 P 0 (fun h => absurd h.1 (np0 hP rfl))).trans (hn0)
  have kn_83 : Hid (c_70 P 0 = n0) := (hF_72 P 0 (qn_857752076 hP)).trans ((up_c (np0 hP rfl)).trans (hid kn_82))
  have h_84 : c_70 P 0 = n0 := (hid kn_83)
  have kn_85 : Hid (c_5 41 20 = n0) := (hF_7 41 20 (fun h => absurd h.1 (nn rfl))).trans (hm0)
  have kn_86 : Hid (c_70 41 20 = n0) := (hF_72 41 20 qn_110b29ed6).trans ((up_c (nn rfl)).trans (hid kn_85))
  have h_87 : c_70 41 20 = n0 := (hid kn_86)
  have kn_88 : Hid (c_5 P 1 = n1) := (hF_7 P 1 (fun h => absurd h.1 (np0 hP rfl))).trans (hn1)
  have kn_89 : Hid (c_70 P 1 = n1) := (hF_72 P 1 (qn_857752076 hP)).trans ((up_c (np0 hP rfl)).trans (hid kn_88))
  have h_90 : c_70 P 1 = n1 := (hid kn_89)
  have kn_91 : Hid (c_5 41 21 = n1) := (hF_7 41 21 (fun h => absurd h.1 (nn rfl))).trans (hm1)
  have kn_92 : Hid (c_70 41 21 = n1) := (hF_72 41 21 qn_561064c41).trans ((up_c (nn rfl)).trans (hid kn_91))
  have h_93 : c_70 41 21 = n1 := (hid kn_92)
  have kn_94 : Hid (c_5 P 2 = n2) := (hF_7 P 2 (fun h => absurd h.1 (np0 hP rfl))).trans (hn2)
  have kn_95 : Hid (c_70 P 2 = n2) := (hF_72 P 2 (qn_857752076 hP)).trans ((up_c (np0 hP rfl)).trans (hid kn_94))
  have h_96 : c_70 P 2 = n2 := (hid kn_95)
  have kn_97 : Hid (c_5 41 22 = n2) := (hF_7 41 22 (fun h => absurd h.1 (nn rfl))).trans (hm2)
  have kn_98 : Hid (c_70 41 22 = n2) := (hF_72 41 22 qn_1a460b46b).trans ((up_c (nn rfl)).trans (hid kn_97))
  have h_99 : c_70 41 22 = n2 := (hid kn_98)
  have kn_100 : Hid (c_5 P 3 = n3) := (hF_7 P 3 (fun h => absurd h.1 (np0 hP rfl))).trans (hn3)
  have kn_101 : Hid (c_70 P 3 = n3) := (hF_72 P 3 (qn_857752076 hP)).trans ((up_c (np0 hP rfl)).trans (hid kn_100))
  have h_102 : c_70 P 3 = n3 := (hid kn_101)
  have kn_103 : Hid (c_5 41 23 = n3) := (hF_7 41 23 (fun h => absurd h.1 (nn rfl))).trans (hm3)
  have kn_104 : Hid (c_70 41 23 = n3) := (hF_72 41 23 qn_b79f282cd).trans ((up_c (nn rfl)).trans (hid kn_103))
  have h_105 : c_70 41 23 = n3 := (hid kn_104)
  have kn_106 : Hid (c_5 3 4 = c 3 4) := hF_7 3 4 (fun h => absurd h.1 (nn rfl))
  have kn_107 : Hid (c_70 3 4 = c 3 4) := (hF_72 3 4 qn_bf2303cc8).trans ((up_c (nn rfl)).trans (hid kn_106))
  have h_108 : c_70 3 4 = c 3 4 := (hid kn_107)
  have h_109 := ir_41_52 hI
  have kn_110 : Hid (c_5 41 52 = c 41 52) := hF_7 41 52 (fun h => absurd h.1 (nn rfl))
  have kn_111 : Hid (c_70 41 52 = c 41 52) := (hF_72 41 52 qn_90835161a).trans ((up_c (nn rfl)).trans (hid kn_110))
  have h_112 : c_70 41 52 = c 41 52 := (hid kn_111)
  have h_113 := ir_3_3 hI
  have kn_114 : Hid (c_5 3 3 = c 3 3) := hF_7 3 3 (fun h => absurd h.1 (nn rfl))
  have kn_115 : Hid (c_70 3 3 = c 3 3) := (hF_72 3 3 qn_bf2303cc8).trans ((up_c (nn rfl)).trans (hid kn_114))
  have h_116 : c_70 3 3 = c 3 3 := (hid kn_115)
  have h_117 := ir_41_35 hI
  have kn_118 : Hid (c_5 41 35 = c 41 35) := hF_7 41 35 (fun h => absurd h.1 (nn rfl))
  have kn_119 : Hid (c_70 41 35 = c 41 35) := (hF_72 41 35 qn_732a91ea5).trans ((up_c (nn rfl)).trans (hid kn_118))
  have h_120 : c_70 41 35 = c 41 35 := (hid kn_119)
  have h_121 : c_70 3 4 = c 3 4 := (hid kn_107)
  have h_122 := ir_1_5 hI
  have kn_123 : Hid (c_5 1 5 = c 1 5) := hF_7 1 5 (fun h => absurd h.1 (nn rfl))
  have kn_124 : Hid (c_70 1 5 = c 1 5) := (hF_72 1 5 qn_39cd18c3e).trans ((up_c (nn rfl)).trans (hid kn_123))
  have h_125 : c_70 1 5 = c 1 5 := (hid kn_124)
  have h_126 := ir_41_8 hI
  have kn_127 : Hid (c_5 41 8 = c 41 8) := hF_7 41 8 (fun h => absurd h.1 (nn rfl))
  have kn_128 : Hid (c_70 41 8 = c 41 8) := (hF_72 41 8 qn_b601a9968).trans ((up_c (nn rfl)).trans (hid kn_127))
  have h_129 : c_70 41 8 = c 41 8 := (hid kn_128)
  exact K P Q c_70 0 (by decide) hI_71 ⟨by omega, ub_fr hU (fun j => (hF_72 2 j qn_2ad67e194).trans ((up_c (nn rfl)).trans (hF_7 2 j (fun h => absurd h.1 (nn rfl))))) (fun j => (hF_72 43 j qn_1520ff5e3).trans ((up_c (nn rfl)).trans (hF_7 43 j (fun h => absurd h.1 (nn rfl))))), ⟨by omega, by omega, by omega, by omega⟩, by omega, by omega, iw_fr2 hIw (by omega) (fun j => (hF_72 6 j qn_e1050858a).trans ((up_c (nn rfl)).trans (hF_7 6 j (fun h => absurd h.1 (nn rfl))))) (fun j => (hF_72 66 j qn_5616dd9ce).trans ((up_c (nn rfl)).trans (hF_7 66 j (fun h => absurd h.1 (nn rfl))))), by omega⟩

set_option maxRecDepth 100000 in
set_option maxHeartbeats 4000000 in
theorem o_19 {xs : Nat → Int32} {L i0 d nc ns P Q : Nat} {c : ME} {Z : AR → Prop} (hi : i0 + 8 ≤ L) (hL : L ≤ 100000) (hI : Iv 0 (-1) P Q c) (hR : Rq P c) (K : ∀ (P2 Q2 : Nat) (c2 : ME) (e : Nat), e ≤ 1 → Iv 0 (-1) P2 Q2 c2 → (Rq P2 c2) → Wp (a_scr L xs) (d + 90) 296 1816 [(4, vi (i0 : Int)), (3, .ref 67), (2, .ref 41), (1, .ref 0), (0, .ref a_SC)] [] (Wd P2 Q2 P2 P2 c2) (nc + e) (ns + 6 * e) Z) : Wp (a_scr L xs) (d + 90) 296 983 [(4, vi (i0 : Int)), (3, .ref 67), (2, .ref 41), (1, .ref 0), (0, .ref a_SC)] [] (Wd P Q P P c) nc ns Z := by
  obtain ⟨x1, hx1⟩ : ∃ z, (xs (i0 + 1)).toInt = z := ⟨_, rfl⟩
  have x1r := c_rng (xs (i0 + 1))
  rw [hx1] at x1r
  obtain ⟨x2, hx2⟩ : ∃ z, (xs (i0 + 2)).toInt = z := ⟨_, rfl⟩
  have x2r := c_rng (xs (i0 + 2))
  rw [hx2] at x2r
  obtain ⟨x3, hx3⟩ : ∃ z, (xs (i0 + 3)).toInt = z := ⟨_, rfl⟩
  have x3r := c_rng (xs (i0 + 3))
  rw [hx3] at x3r
  obtain ⟨x4, hx4⟩ : ∃ z, (xs (i0 + 4)).toInt = z := ⟨_, rfl⟩
  have x4r := c_rng (xs (i0 + 4))
  rw [hx4] at x4r
  obtain ⟨x5, hx5⟩ : ∃ z, (xs (i0 + 5)).toInt = z := ⟨_, rfl⟩
  have x5r := c_rng (xs (i0 + 5))
  rw [hx5] at x5r
  obtain ⟨x6, hx6⟩ : ∃ z, (xs (i0 + 6)).toInt = z := ⟨_, rfl⟩
  have x6r := c_rng (xs (i0 + 6))
  rw [hx6] at x6r
  obtain ⟨x7, hx7⟩ : ∃ z, (xs (i0 + 7)).toInt = z := ⟨_, rfl⟩
  have x7r := c_rng (xs (i0 + 7))
  rw [hx7] at x7r
  have hP := iv_P hI
  have hQ := iv_Q hI
  have hT := rl_t hR
  have hU := rl_u hR
  obtain ⟨n0, hn0⟩ : ∃ z, c P 0 = z := ⟨_, rfl⟩
  have hm0 : c 41 20 = n0 := (rl_nums hR).1.symm.trans hn0
  have hr0 := ir_p0_0 hI hP
  rw [hn0] at hr0
  obtain ⟨n1, hn1⟩ : ∃ z, c P 1 = z := ⟨_, rfl⟩
  have hm1 : c 41 21 = n1 := (rl_nums hR).2.1.symm.trans hn1
  have hr1 := ir_p0_1 hI hP
  rw [hn1] at hr1
  obtain ⟨n2, hn2⟩ : ∃ z, c P 2 = z := ⟨_, rfl⟩
  have hm2 : c 41 22 = n2 := (rl_nums hR).2.2.1.symm.trans hn2
  have hr2 := ir_p0_2 hI hP
  rw [hn2] at hr2
  obtain ⟨n3, hn3⟩ : ∃ z, c P 3 = z := ⟨_, rfl⟩
  have hm3 : c 41 23 = n3 := (rl_nums hR).2.2.2.symm.trans hn3
  have hr3 := ir_p0_3 hI hP
  rw [hn3] at hr3
  have hNimg := rl_img hR
  have hNwk := rl_wk hR
  have h_1 := ir_3_4 hI
  have hIw := rl_iw hR
  have hNplace := rl_place hR
  refine q_aload_n c_296_983 rfl (q_aload_n c_296_984 rfl (q_iload c_296_985 rfl (q_iconst c_296_987 (v_iadd (v := (i0 : Int) + 1) c_296_988 rfl (v_scr (j := i0 + 1) c_296_989 (by omega) (by omega) hL hx1 (q_aload_n c_296_990 rfl (q_iload c_296_991 rfl ?_)))))))
  refine q_iconst c_296_993 (v_iadd (v := (i0 : Int) + 2) c_296_994 rfl (v_scr (j := i0 + 2) c_296_995 (by omega) (by omega) hL hx2 (q_aload_n c_296_996 rfl (q_iload c_296_997 rfl (q_iconst c_296_999 (v_iadd (v := (i0 : Int) + 3) c_296_1000 rfl (v_scr (j := i0 + 3) c_296_1001 (by omega) (by omega) hL hx3 ?_)))))))
  refine q_aload_n c_296_1002 rfl (q_call c_296_1003 rfl rfl rfl (q_aload c_279_0 rfl (q_iconst c_279_2 (q_aload_n c_279_3 rfl (q_iload_n c_279_4 rfl (q_iload_n c_279_5 rfl (q_iload_n c_279_6 rfl ?_)))))))
  refine v_cv c_279_7 km_9_65 rfl rfl (Nat.le_of_ble_eq_true rfl) ⟨⟨rfl, rfl⟩, Nat.le_of_ble_eq_true rfl, rfl⟩ (Nat.le_of_ble_eq_true rfl) (Nat.le_of_ble_eq_true rfl) (s_123 (a1 := x1) (a2 := x2) (a3 := x3) hI (show (-2147483648) ≤ x1 ∧ x1 ≤ 2147483647 from ⟨by omega, by omega⟩) (show (-2147483648) ≤ x2 ∧ x2 ≤ 2147483647 from ⟨by omega, by omega⟩) (show (-2147483648) ≤ x3 ∧ x3 ≤ 2147483647 from ⟨by omega, by omega⟩) (fun c_2 hI_3 hF_4 => ?_) (fun c_5 y_8 hI_6 hF_7 hy_8 => ?_))
  · skip
    refine bk_thr (z := Int32.ofInt 1) rfl ⟨_, _, rfl⟩ rfl (bk_inl (q_istore c_296_1006 (Nat.le_of_ble_eq_true rfl) (q_aload_n c_296_1008 rfl (q_aload_n c_296_1009 rfl (q_iload c_296_1010 rfl (q_iconst c_296_1012 (v_iadd (v := (i0 : Int) + 1) c_296_1013 rfl ?_)))))))
    refine v_scr (j := i0 + 1) c_296_1014 (by omega) (by omega) hL hx1 (q_aload_n c_296_1015 rfl (q_iload c_296_1016 rfl (q_iconst c_296_1018 (v_iadd (v := (i0 : Int) + 2) c_296_1019 rfl (v_scr (j := i0 + 2) c_296_1020 (by omega) (by omega) hL hx2 (q_aload_n c_296_1021 rfl (q_iload c_296_1022 rfl ?_)))))))
    refine q_iconst c_296_1024 (v_iadd (v := (i0 : Int) + 3) c_296_1025 rfl (v_scr (j := i0 + 3) c_296_1026 (by omega) (by omega) hL hx3 (v_cv c_296_1027 km_9_193 rfl rfl (Nat.le_of_ble_eq_true rfl) ⟨⟨rfl, rfl⟩, Nat.le_of_ble_eq_true rfl, rfl⟩ (Nat.le_of_ble_eq_true rfl) (Nat.le_of_ble_eq_true rfl) (s_228 (a1 := x1) (a2 := x2) (a3 := x3) hI_3 (show (-2147483648) ≤ x1 ∧ x1 ≤ 2147483647 from ⟨by omega, by omega⟩) (show (-2147483648) ≤ x2 ∧ x2 ≤ 2147483647 from ⟨by omega, by omega⟩) (show (-2147483648) ≤ x3 ∧ x3 ≤ 2147483647 from ⟨by omega, by omega⟩) (fun c_9 y_12 hI_10 hF_11 hy_12 => (bk_inl (q_istore c_296_1030 (Nat.le_of_ble_eq_true rfl) (q_goto (t := 1816) c_296_1032 rfl (Wp_ls [(4, vi (i0 : Int)), (3, .ref 67), (2, .ref 41), (1, .ref 0), (0, .ref a_SC)] (lsub_cons rfl (lsub_cons rfl (lsub_cons rfl (lsub_cons rfl (lsub_cons rfl lsub_nil))))) ?_)))))))))
    have h_13 := ir_1_3 hI
    have kn_14 : Hid (c_2 1 3 = c 1 3) := hF_4 1 3 (qn_3770fd1a9 hP)
    have kn_15 : Hid (c_9 1 3 = c 1 3) := (hF_11 1 3 qn_44683f5fa).trans (hid kn_14)
    have h_16 : c_9 1 3 = c 1 3 := (hid kn_15)
    have h_17 := ir_41_2 hI
    have kn_18 : Hid (c_2 41 2 = c 41 2) := hF_4 41 2 (qn_691fb4e77 hP)
    have kn_19 : Hid (c_9 41 2 = c 41 2) := (hF_11 41 2 qn_7a112a690).trans (hid kn_18)
    have h_20 : c_9 41 2 = c 41 2 := (hid kn_19)
    have kn_21 : Hid (c_2 P 0 = n0) := (hF_4 P 0 (qn_75dcb717b hP)).trans (hn0)
    have kn_22 : Hid (c_9 P 0 = n0) := (hF_11 P 0 (qn_70fec742f hP)).trans (hid kn_21)
    have h_23 : c_9 P 0 = n0 := (hid kn_22)
    have kn_24 : Hid (c_2 41 20 = n0) := (hF_4 41 20 (qn_691fb4e77 hP)).trans (hm0)
    have kn_25 : Hid (c_9 41 20 = n0) := (hF_11 41 20 qn_d0753a96c).trans (hid kn_24)
    have h_26 : c_9 41 20 = n0 := (hid kn_25)
    have kn_27 : Hid (c_2 P 1 = n1) := (hF_4 P 1 (qn_75dcb717b hP)).trans (hn1)
    have kn_28 : Hid (c_9 P 1 = n1) := (hF_11 P 1 (qn_70fec742f hP)).trans (hid kn_27)
    have h_29 : c_9 P 1 = n1 := (hid kn_28)
    have kn_30 : Hid (c_2 41 21 = n1) := (hF_4 41 21 (qn_691fb4e77 hP)).trans (hm1)
    have kn_31 : Hid (c_9 41 21 = n1) := (hF_11 41 21 qn_2dba34809).trans (hid kn_30)
    have h_32 : c_9 41 21 = n1 := (hid kn_31)
    have kn_33 : Hid (c_2 P 2 = n2) := (hF_4 P 2 (qn_75dcb717b hP)).trans (hn2)
    have kn_34 : Hid (c_9 P 2 = n2) := (hF_11 P 2 (qn_70fec742f hP)).trans (hid kn_33)
    have h_35 : c_9 P 2 = n2 := (hid kn_34)
    have kn_36 : Hid (c_2 41 22 = n2) := (hF_4 41 22 (qn_691fb4e77 hP)).trans (hm2)
    have kn_37 : Hid (c_9 41 22 = n2) := (hF_11 41 22 qn_0d1137165).trans (hid kn_36)
    have h_38 : c_9 41 22 = n2 := (hid kn_37)
    have kn_39 : Hid (c_2 P 3 = n3) := (hF_4 P 3 (qn_75dcb717b hP)).trans (hn3)
    have kn_40 : Hid (c_9 P 3 = n3) := (hF_11 P 3 (qn_70fec742f hP)).trans (hid kn_39)
    have h_41 : c_9 P 3 = n3 := (hid kn_40)
    have kn_42 : Hid (c_2 41 23 = n3) := (hF_4 41 23 (qn_691fb4e77 hP)).trans (hm3)
    have kn_43 : Hid (c_9 41 23 = n3) := (hF_11 41 23 qn_ca1c2b99e).trans (hid kn_42)
    have h_44 : c_9 41 23 = n3 := (hid kn_43)
    have kn_45 : Hid (c_2 3 4 = c 3 4) := hF_4 3 4 (qn_16fd4bb06 hP)
    have kn_46 : Hid (c_9 3 4 = c 3 4) := (hF_11 3 4 qn_85f7f5516).trans (hid kn_45)
    have h_47 : c_9 3 4 = c 3 4 := (hid kn_46)
    have h_48 := ir_41_52 hI
    have kn_49 : Hid (c_2 41 52 = c 41 52) := hF_4 41 52 (qn_691fb4e77 hP)
    have kn_50 : Hid (c_9 41 52 = c 41 52) := (hF_11 41 52 qn_23bb338dd).trans (hid kn_49)
    have h_51 : c_9 41 52 = c 41 52 := (hid kn_50)
    have h_52 := ir_3_3 hI
    have kn_53 : Hid (c_2 3 3 = c 3 3) := hF_4 3 3 (qn_16fd4bb06 hP)
    have kn_54 : Hid (c_9 3 3 = c 3 3) := (hF_11 3 3 qn_85f7f5516).trans (hid kn_53)
    have h_55 : c_9 3 3 = c 3 3 := (hid kn_54)
    have h_56 := ir_41_35 hI
    have kn_57 : Hid (c_2 41 35 = c 41 35) := hF_4 41 35 (qn_691fb4e77 hP)
    have kn_58 : Hid (c_9 41 35 = c 41 35) := (hF_11 41 35 qn_8b6342d8f).trans (hid kn_57)
    have h_59 : c_9 41 35 = c 41 35 := (hid kn_58)
    have h_60 : c_9 3 4 = c 3 4 := (hid kn_46)
    have h_61 := ir_1_5 hI
    have kn_62 : Hid (c_2 1 5 = c 1 5) := hF_4 1 5 (qn_3770fd1a9 hP)
    have kn_63 : Hid (c_9 1 5 = c 1 5) := (hF_11 1 5 qn_44683f5fa).trans (hid kn_62)
    have h_64 : c_9 1 5 = c 1 5 := (hid kn_63)
    have h_65 := ir_41_8 hI
    have kn_66 : Hid (c_2 41 8 = c 41 8) := hF_4 41 8 (qn_691fb4e77 hP)
    have kn_67 : Hid (c_9 41 8 = c 41 8) := (hF_11 41 8 qn_fa94fa4d3).trans (hid kn_66)
    have h_68 : c_9 41 8 = c 41 8 := (hid kn_67)
    exact K P Q c_9 1 (by decide) hI_10 ⟨by omega, ub_fr hU (fun j => (hF_11 2 j qn_d0e66b3bf).trans (hF_4 2 j (qn_28c0e9630 hP))) (fun j => (hF_11 43 j qn_5a77d9750).trans (hF_4 43 j (qn_824e8473b hP))), ⟨by omega, by omega, by omega, by omega⟩, by omega, by omega, iw_fr2 hIw (by omega) (fun j => (hF_11 6 j qn_1f8406493).trans (hF_4 6 j (qn_c3eb586cd hP))) (fun j => (hF_11 66 j qn_02ce421cc).trans (hF_4 66 j (qn_3fc7909e2 hP))), by omega⟩
  refine bk_inl (v_i2l c_279_10 (by omega) (v_ls c_279_11 rfl (by decide) (by decide) (by decide) (q_goto (t := 19) c_279_12 rfl (q_iconst c_279_19 (q_iret c_279_20 rfl (bk_inl (q_istore c_296_1006 (Nat.le_of_ble_eq_true rfl) ?_)))))))
  refine q_aload_n c_296_1008 rfl (q_aload_n c_296_1009 rfl (q_iload c_296_1010 rfl (q_iconst c_296_1012 (v_iadd (v := (i0 : Int) + 1) c_296_1013 rfl (v_scr (j := i0 + 1) c_296_1014 (by omega) (by omega) hL hx1 (q_aload_n c_296_1015 rfl (q_iload c_296_1016 rfl ?_)))))))
  refine q_iconst c_296_1018 (v_iadd (v := (i0 : Int) + 2) c_296_1019 rfl (v_scr (j := i0 + 2) c_296_1020 (by omega) (by omega) hL hx2 (q_aload_n c_296_1021 rfl (q_iload c_296_1022 rfl (q_iconst c_296_1024 (v_iadd (v := (i0 : Int) + 3) c_296_1025 rfl (v_scr (j := i0 + 3) c_296_1026 (by omega) (by omega) hL hx3 ?_)))))))
  have hI_69 := iw_lx (a := 67) (j := 0) (v := y_8) hI_6 (by omega)
  refine v_cv c_296_1027 km_9_193 rfl rfl (Nat.le_of_ble_eq_true rfl) ⟨⟨rfl, rfl⟩, Nat.le_of_ble_eq_true rfl, rfl⟩ (Nat.le_of_ble_eq_true rfl) (Nat.le_of_ble_eq_true rfl) (s_228 (a1 := x1) (a2 := x2) (a3 := x3) hI_69 (show (-2147483648) ≤ x1 ∧ x1 ≤ 2147483647 from ⟨by omega, by omega⟩) (show (-2147483648) ≤ x2 ∧ x2 ≤ 2147483647 from ⟨by omega, by omega⟩) (show (-2147483648) ≤ x3 ∧ x3 ≤ 2147483647 from ⟨by omega, by omega⟩) (fun c_70 y_73 hI_71 hF_72 hy_73 => (bk_inl (q_istore c_296_1030 (Nat.le_of_ble_eq_true rfl) (q_goto (t := 1816) c_296_1032 rfl (Wp_ls [(4, vi (i0 : Int)), (3, .ref 67), (2, .ref 41), (1, .ref 0), (0, .ref a_SC)] (lsub_cons rfl (lsub_cons rfl (lsub_cons rfl (lsub_cons rfl (lsub_cons rfl lsub_nil))))) ?_))))))
  have h_74 := ir_1_3 hI
  have kn_75 : Hid (c_5 1 3 = c 1 3) := hF_7 1 3 (qn_3770fd1a9 hP)
  have kn_76 : Hid (c_70 1 3 = c 1 3) := (hF_72 1 3 qn_44683f5fa).trans ((up_c (nn rfl)).trans (hid kn_75))
  have h_77 : c_70 1 3 = c 1 3 := (hid kn_76)
  have h_78 := ir_41_2 hI
  have kn_79 : Hid (c_5 41 2 = c 41 2) := hF_7 41 2 (qn_691fb4e77 hP)
  have kn_80 : Hid (c_70 41 2 = c 41 2) := (hF_72 41 2 qn_7a112a690).trans ((up_c (nn rfl)).trans (hid kn_79))
  have h_81 : c_70 41 2 = c 41 2 := (hid kn_80)
  have kn_82 : Hid (c_5 P 0 = n0) := (hF_7 P 0 (qn_75dcb717b hP)).trans (hn0)
  have kn_83 : Hid (c_70 P 0 = n0) := (hF_72 P 0 (qn_70fec742f hP)).trans ((up_c (np0 hP rfl)).trans (hid kn_82))
  have h_84 : c_70 P 0 = n0 := (hid kn_83)
  have kn_85 : Hid (c_5 41 20 = n0) := (hF_7 41 20 (qn_691fb4e77 hP)).trans (hm0)
  have kn_86 : Hid (c_70 41 20 = n0) := (hF_72 41 20 qn_d0753a96c).trans ((up_c (nn rfl)).trans (hid kn_85))
  have h_87 : c_70 41 20 = n0 := (hid kn_86)
  have kn_88 : Hid (c_5 P 1 = n1) := (hF_7 P 1 (qn_75dcb717b hP)).trans (hn1)
  have kn_89 : Hid (c_70 P 1 = n1) := (hF_72 P 1 (qn_70fec742f hP)).trans ((up_c (np0 hP rfl)).trans (hid kn_88))
  have h_90 : c_70 P 1 = n1 := (hid kn_89)
  have kn_91 : Hid (c_5 41 21 = n1) := (hF_7 41 21 (qn_691fb4e77 hP)).trans (hm1)
  have kn_92 : Hid (c_70 41 21 = n1) := (hF_72 41 21 qn_2dba34809).trans ((up_c (nn rfl)).trans (hid kn_91))
  have h_93 : c_70 41 21 = n1 := (hid kn_92)
  have kn_94 : Hid (c_5 P 2 = n2) := (hF_7 P 2 (qn_75dcb717b hP)).trans (hn2)
  have kn_95 : Hid (c_70 P 2 = n2) := (hF_72 P 2 (qn_70fec742f hP)).trans ((up_c (np0 hP rfl)).trans (hid kn_94))
  have h_96 : c_70 P 2 = n2 := (hid kn_95)
  have kn_97 : Hid (c_5 41 22 = n2) := (hF_7 41 22 (qn_691fb4e77 hP)).trans (hm2)
  have kn_98 : Hid (c_70 41 22 = n2) := (hF_72 41 22 qn_0d1137165).trans ((up_c (nn rfl)).trans (hid kn_97))
  have h_99 : c_70 41 22 = n2 := (hid kn_98)
  have kn_100 : Hid (c_5 P 3 = n3) := (hF_7 P 3 (qn_75dcb717b hP)).trans (hn3)
  have kn_101 : Hid (c_70 P 3 = n3) := (hF_72 P 3 (qn_70fec742f hP)).trans ((up_c (np0 hP rfl)).trans (hid kn_100))
  have h_102 : c_70 P 3 = n3 := (hid kn_101)
  have kn_103 : Hid (c_5 41 23 = n3) := (hF_7 41 23 (qn_691fb4e77 hP)).trans (hm3)
  have kn_104 : Hid (c_70 41 23 = n3) := (hF_72 41 23 qn_ca1c2b99e).trans ((up_c (nn rfl)).trans (hid kn_103))
  have h_105 : c_70 41 23 = n3 := (hid kn_104)
  have kn_106 : Hid (c_5 3 4 = c 3 4) := hF_7 3 4 (qn_16fd4bb06 hP)
  have kn_107 : Hid (c_70 3 4 = c 3 4) := (hF_72 3 4 qn_85f7f5516).trans ((up_c (nn rfl)).trans (hid kn_106))
  have h_108 : c_70 3 4 = c 3 4 := (hid kn_107)
  have h_109 := ir_41_52 hI
  have kn_110 : Hid (c_5 41 52 = c 41 52) := hF_7 41 52 (qn_691fb4e77 hP)
  have kn_111 : Hid (c_70 41 52 = c 41 52) := (hF_72 41 52 qn_23bb338dd).trans ((up_c (nn rfl)).trans (hid kn_110))
  have h_112 : c_70 41 52 = c 41 52 := (hid kn_111)
  have h_113 := ir_3_3 hI
  have kn_114 : Hid (c_5 3 3 = c 3 3) := hF_7 3 3 (qn_16fd4bb06 hP)
  have kn_115 : Hid (c_70 3 3 = c 3 3) := (hF_72 3 3 qn_85f7f5516).trans ((up_c (nn rfl)).trans (hid kn_114))
  have h_116 : c_70 3 3 = c 3 3 := (hid kn_115)
  have h_117 := ir_41_35 hI
  have kn_118 : Hid (c_5 41 35 = c 41 35) := hF_7 41 35 (qn_691fb4e77 hP)
  have kn_119 : Hid (c_70 41 35 = c 41 35) := (hF_72 41 35 qn_8b6342d8f).trans ((up_c (nn rfl)).trans (hid kn_118))
  have h_120 : c_70 41 35 = c 41 35 := (hid kn_119)
  have h_121 : c_70 3 4 = c 3 4 := (hid kn_107)
  have h_122 := ir_1_5 hI
  have kn_123 : Hid (c_5 1 5 = c 1 5) := hF_7 1 5 (qn_3770fd1a9 hP)
  have kn_124 : Hid (c_70 1 5 = c 1 5) := (hF_72 1 5 qn_44683f5fa).trans ((up_c (nn rfl)).trans (hid kn_123))
  have h_125 : c_70 1 5 = c 1 5 := (hid kn_124)
  have h_126 := ir_41_8 hI
  have kn_127 : Hid (c_5 41 8 = c 41 8) := hF_7 41 8 (qn_691fb4e77 hP)
  have kn_128 : Hid (c_70 41 8 = c 41 8) := (hF_72 41 8 qn_fa94fa4d3).trans ((up_c (nn rfl)).trans (hid kn_127))
  have h_129 : c_70 41 8 = c 41 8 := (hid kn_128)
  exact K P Q c_70 0 (by decide) hI_71 ⟨by omega, ub_fr hU (fun j => (hF_72 2 j qn_d0e66b3bf).trans ((up_c (nn rfl)).trans (hF_7 2 j (qn_28c0e9630 hP)))) (fun j => (hF_72 43 j qn_5a77d9750).trans ((up_c (nn rfl)).trans (hF_7 43 j (qn_824e8473b hP)))), ⟨by omega, by omega, by omega, by omega⟩, by omega, by omega, iw_fr2 hIw (by omega) (fun j => (hF_72 6 j qn_1f8406493).trans ((up_c (nn rfl)).trans (hF_7 6 j (qn_c3eb586cd hP)))) (fun j => (hF_72 66 j qn_02ce421cc).trans ((up_c (nn rfl)).trans (hF_7 66 j (qn_3fc7909e2 hP)))), by omega⟩

set_option maxRecDepth 100000 in
set_option maxHeartbeats 4000000 in
theorem o_20 {xs : Nat → Int32} {L i0 d nc ns P Q : Nat} {c : ME} {Z : AR → Prop} (hi : i0 + 8 ≤ L) (hL : L ≤ 100000) (hI : Iv 0 (-1) P Q c) (hR : Rq P c) (K : ∀ (P2 Q2 : Nat) (c2 : ME) (e : Nat), e ≤ 1 → Iv 0 (-1) P2 Q2 c2 → (Rq P2 c2) → Wp (a_scr L xs) (d + 90) 296 1816 [(4, vi (i0 : Int)), (3, .ref 67), (2, .ref 41), (1, .ref 0), (0, .ref a_SC)] [] (Wd P2 Q2 P2 P2 c2) (nc + e) (ns + 6 * e) Z) : Wp (a_scr L xs) (d + 90) 296 1035 [(4, vi (i0 : Int)), (3, .ref 67), (2, .ref 41), (1, .ref 0), (0, .ref a_SC)] [] (Wd P Q P P c) nc ns Z := by
  obtain ⟨x1, hx1⟩ : ∃ z, (xs (i0 + 1)).toInt = z := ⟨_, rfl⟩
  have x1r := c_rng (xs (i0 + 1))
  rw [hx1] at x1r
  obtain ⟨x2, hx2⟩ : ∃ z, (xs (i0 + 2)).toInt = z := ⟨_, rfl⟩
  have x2r := c_rng (xs (i0 + 2))
  rw [hx2] at x2r
  obtain ⟨x3, hx3⟩ : ∃ z, (xs (i0 + 3)).toInt = z := ⟨_, rfl⟩
  have x3r := c_rng (xs (i0 + 3))
  rw [hx3] at x3r
  obtain ⟨x4, hx4⟩ : ∃ z, (xs (i0 + 4)).toInt = z := ⟨_, rfl⟩
  have x4r := c_rng (xs (i0 + 4))
  rw [hx4] at x4r
  obtain ⟨x5, hx5⟩ : ∃ z, (xs (i0 + 5)).toInt = z := ⟨_, rfl⟩
  have x5r := c_rng (xs (i0 + 5))
  rw [hx5] at x5r
  obtain ⟨x6, hx6⟩ : ∃ z, (xs (i0 + 6)).toInt = z := ⟨_, rfl⟩
  have x6r := c_rng (xs (i0 + 6))
  rw [hx6] at x6r
  obtain ⟨x7, hx7⟩ : ∃ z, (xs (i0 + 7)).toInt = z := ⟨_, rfl⟩
  have x7r := c_rng (xs (i0 + 7))
  rw [hx7] at x7r
  have hP := iv_P hI
  have hQ := iv_Q hI
  have hT := rl_t hR
  have hU := rl_u hR
  obtain ⟨n0, hn0⟩ : ∃ z, c P 0 = z := ⟨_, rfl⟩
  have hm0 : c 41 20 = n0 := (rl_nums hR).1.symm.trans hn0
  have hr0 := ir_p0_0 hI hP
  rw [hn0] at hr0
  obtain ⟨n1, hn1⟩ : ∃ z, c P 1 = z := ⟨_, rfl⟩
  have hm1 : c 41 21 = n1 := (rl_nums hR).2.1.symm.trans hn1
  have hr1 := ir_p0_1 hI hP
  rw [hn1] at hr1
  obtain ⟨n2, hn2⟩ : ∃ z, c P 2 = z := ⟨_, rfl⟩
  have hm2 : c 41 22 = n2 := (rl_nums hR).2.2.1.symm.trans hn2
  have hr2 := ir_p0_2 hI hP
  rw [hn2] at hr2
  obtain ⟨n3, hn3⟩ : ∃ z, c P 3 = z := ⟨_, rfl⟩
  have hm3 : c 41 23 = n3 := (rl_nums hR).2.2.2.symm.trans hn3
  have hr3 := ir_p0_3 hI hP
  rw [hn3] at hr3
  have hNimg := rl_img hR
  have hNwk := rl_wk hR
  have h_1 := ir_3_4 hI
  have hIw := rl_iw hR
  have hNplace := rl_place hR
  refine q_aload_n c_296_1035 rfl (q_aload_n c_296_1036 rfl (q_iload c_296_1037 rfl (q_iconst c_296_1039 (v_iadd (v := (i0 : Int) + 1) c_296_1040 rfl (v_scr (j := i0 + 1) c_296_1041 (by omega) (by omega) hL hx1 (q_aload_n c_296_1042 rfl (q_call c_296_1043 rfl rfl rfl ?_)))))))
  refine q_aload_n c_280_0 rfl (q_iconst c_280_1 (q_aload_n c_280_2 rfl (q_iload_n c_280_3 rfl ?_)))
  refine v_cv c_280_4 km_9_68 rfl rfl (Nat.le_of_ble_eq_true rfl) ⟨⟨rfl, rfl⟩, Nat.le_of_ble_eq_true rfl, rfl⟩ (Nat.le_of_ble_eq_true rfl) (Nat.le_of_ble_eq_true rfl) (s_128 (a1 := x1) hI (show (-2147483648) ≤ x1 ∧ x1 ≤ 2147483647 from ⟨by omega, by omega⟩) (fun c_2 hI_3 hF_4 => ?_) (fun c_5 y_8 hI_6 hF_7 hy_8 => ?_))
  · skip
    refine bk_thr (z := Int32.ofInt 1) rfl ⟨_, _, rfl⟩ rfl (bk_inl (q_istore c_296_1046 (Nat.le_of_ble_eq_true rfl) (q_aload_n c_296_1048 rfl (q_aload_n c_296_1049 rfl (q_iload c_296_1050 rfl (q_iconst c_296_1052 (v_iadd (v := (i0 : Int) + 1) c_296_1053 rfl ?_)))))))
    refine v_scr (j := i0 + 1) c_296_1054 (by omega) (by omega) hL hx1 (v_cv c_296_1055 km_9_196 rfl rfl (Nat.le_of_ble_eq_true rfl) ⟨⟨rfl, rfl⟩, Nat.le_of_ble_eq_true rfl, rfl⟩ (Nat.le_of_ble_eq_true rfl) (Nat.le_of_ble_eq_true rfl) (s_230 (a1 := x1) hI_3 (show (-2147483648) ≤ x1 ∧ x1 ≤ 2147483647 from ⟨by omega, by omega⟩) (fun c_9 y_12 hI_10 hF_11 hy_12 => (bk_inl (q_istore c_296_1058 (Nat.le_of_ble_eq_true rfl) (q_goto (t := 1816) c_296_1060 rfl (Wp_ls [(4, vi (i0 : Int)), (3, .ref 67), (2, .ref 41), (1, .ref 0), (0, .ref a_SC)] (lsub_cons rfl (lsub_cons rfl (lsub_cons rfl (lsub_cons rfl (lsub_cons rfl lsub_nil))))) ?_)))))))
    have h_13 := ir_1_3 hI
    have kn_14 : Hid (c_2 1 3 = c 1 3) := hF_4 1 3 (fun q => q.elim (fun h => absurd h.1 (nn rfl)) (fun h => absurd h (nn rfl)))
    have kn_15 : Hid (c_9 1 3 = c 1 3) := (hF_11 1 3 qn_39cd18c3e).trans (hid kn_14)
    have h_16 : c_9 1 3 = c 1 3 := (hid kn_15)
    have h_17 := ir_41_2 hI
    have kn_18 : Hid (c_2 41 2 = c 41 2) := hF_4 41 2 (fun q => q.elim (fun h => absurd h.1 (nn rfl)) (fun h => absurd h (nn rfl)))
    have kn_19 : Hid (c_9 41 2 = c 41 2) := (hF_11 41 2 qn_53bdb2099).trans (hid kn_18)
    have h_20 : c_9 41 2 = c 41 2 := (hid kn_19)
    have kn_21 : Hid (c_2 P 0 = n0) := (hF_4 P 0 (qn_e391c0369 hP)).trans (hn0)
    have kn_22 : Hid (c_9 P 0 = n0) := (hF_11 P 0 (qn_857752076 hP)).trans (hid kn_21)
    have h_23 : c_9 P 0 = n0 := (hid kn_22)
    have kn_24 : Hid (c_2 41 20 = n0) := (hF_4 41 20 (fun q => q.elim (fun h => absurd h.1 (nn rfl)) (fun h => absurd h (nn rfl)))).trans (hm0)
    have kn_25 : Hid (c_9 41 20 = n0) := (hF_11 41 20 qn_110b29ed6).trans (hid kn_24)
    have h_26 : c_9 41 20 = n0 := (hid kn_25)
    have kn_27 : Hid (c_2 P 1 = n1) := (hF_4 P 1 (qn_e391c0369 hP)).trans (hn1)
    have kn_28 : Hid (c_9 P 1 = n1) := (hF_11 P 1 (qn_857752076 hP)).trans (hid kn_27)
    have h_29 : c_9 P 1 = n1 := (hid kn_28)
    have kn_30 : Hid (c_2 41 21 = n1) := (hF_4 41 21 (fun q => q.elim (fun h => absurd h.1 (nn rfl)) (fun h => absurd h (nn rfl)))).trans (hm1)
    have kn_31 : Hid (c_9 41 21 = n1) := (hF_11 41 21 qn_561064c41).trans (hid kn_30)
    have h_32 : c_9 41 21 = n1 := (hid kn_31)
    have kn_33 : Hid (c_2 P 2 = n2) := (hF_4 P 2 (qn_e391c0369 hP)).trans (hn2)
    have kn_34 : Hid (c_9 P 2 = n2) := (hF_11 P 2 (qn_857752076 hP)).trans (hid kn_33)
    have h_35 : c_9 P 2 = n2 := (hid kn_34)
    have kn_36 : Hid (c_2 41 22 = n2) := (hF_4 41 22 (fun q => q.elim (fun h => absurd h.1 (nn rfl)) (fun h => absurd h (nn rfl)))).trans (hm2)
    have kn_37 : Hid (c_9 41 22 = n2) := (hF_11 41 22 qn_1a460b46b).trans (hid kn_36)
    have h_38 : c_9 41 22 = n2 := (hid kn_37)
    have kn_39 : Hid (c_2 P 3 = n3) := (hF_4 P 3 (qn_e391c0369 hP)).trans (hn3)
    have kn_40 : Hid (c_9 P 3 = n3) := (hF_11 P 3 (qn_857752076 hP)).trans (hid kn_39)
    have h_41 : c_9 P 3 = n3 := (hid kn_40)
    have kn_42 : Hid (c_2 41 23 = n3) := (hF_4 41 23 (fun q => q.elim (fun h => absurd h.1 (nn rfl)) (fun h => absurd h (nn rfl)))).trans (hm3)
    have kn_43 : Hid (c_9 41 23 = n3) := (hF_11 41 23 qn_b79f282cd).trans (hid kn_42)
    have h_44 : c_9 41 23 = n3 := (hid kn_43)
    have kn_45 : Hid (c_2 3 4 = c 3 4) := hF_4 3 4 (fun q => q.elim (fun h => absurd h.1 (nn rfl)) (fun h => absurd h (nn rfl)))
    have kn_46 : Hid (c_9 3 4 = c 3 4) := (hF_11 3 4 qn_bf2303cc8).trans (hid kn_45)
    have h_47 : c_9 3 4 = c 3 4 := (hid kn_46)
    have h_48 := ir_41_52 hI
    have kn_49 : Hid (c_2 41 52 = c 41 52) := hF_4 41 52 (fun q => q.elim (fun h => absurd h.1 (nn rfl)) (fun h => absurd h (nn rfl)))
    have kn_50 : Hid (c_9 41 52 = c 41 52) := (hF_11 41 52 qn_90835161a).trans (hid kn_49)
    have h_51 : c_9 41 52 = c 41 52 := (hid kn_50)
    have h_52 := ir_3_3 hI
    have kn_53 : Hid (c_2 3 3 = c 3 3) := hF_4 3 3 (fun q => q.elim (fun h => absurd h.1 (nn rfl)) (fun h => absurd h (nn rfl)))
    have kn_54 : Hid (c_9 3 3 = c 3 3) := (hF_11 3 3 qn_bf2303cc8).trans (hid kn_53)
    have h_55 : c_9 3 3 = c 3 3 := (hid kn_54)
    have h_56 := ir_41_35 hI
    have kn_57 : Hid (c_2 41 35 = c 41 35) := hF_4 41 35 (fun q => q.elim (fun h => absurd h.1 (nn rfl)) (fun h => absurd h (nn rfl)))
    have kn_58 : Hid (c_9 41 35 = c 41 35) := (hF_11 41 35 qn_732a91ea5).trans (hid kn_57)
    have h_59 : c_9 41 35 = c 41 35 := (hid kn_58)
    have h_60 : c_9 3 4 = c 3 4 := (hid kn_46)
    have h_61 := ir_1_5 hI
    have kn_62 : Hid (c_2 1 5 = c 1 5) := hF_4 1 5 (fun q => q.elim (fun h => absurd h.1 (nn rfl)) (fun h => absurd h (nn rfl)))
    have kn_63 : Hid (c_9 1 5 = c 1 5) := (hF_11 1 5 qn_39cd18c3e).trans (hid kn_62)
    have h_64 : c_9 1 5 = c 1 5 := (hid kn_63)
    have h_65 := ir_41_8 hI
    have kn_66 : Hid (c_2 41 8 = c 41 8) := hF_4 41 8 (fun q => q.elim (fun h => absurd h.1 (nn rfl)) (fun h => absurd h (nn rfl)))
    have kn_67 : Hid (c_9 41 8 = c 41 8) := (hF_11 41 8 qn_b601a9968).trans (hid kn_66)
    have h_68 : c_9 41 8 = c 41 8 := (hid kn_67)
    exact K P Q c_9 1 (by decide) hI_10 ⟨by omega, ub_fr hU (fun j => (hF_11 2 j qn_2ad67e194).trans (hF_4 2 j (fun q => q.elim (fun h => absurd h.1 (nn rfl)) (fun h => absurd h (nn rfl))))) (fun j => (hF_11 43 j qn_1520ff5e3).trans (hF_4 43 j (fun q => q.elim (fun h => absurd h.1 (nn rfl)) (fun h => absurd h (nn rfl))))), ⟨by omega, by omega, by omega, by omega⟩, by omega, by omega, iw_fr2 hIw (by omega) (fun j => (hF_11 6 j qn_e1050858a).trans (hF_4 6 j (fun q => q.elim (fun h => absurd h.1 (nn rfl)) (fun h => absurd h (nn rfl))))) (fun j => (hF_11 66 j qn_5616dd9ce).trans (hF_4 66 j (fun q => q.elim (fun h => absurd h.1 (nn rfl)) (fun h => absurd h (nn rfl))))), by omega⟩
  refine bk_inl (v_i2l c_280_7 (by omega) (v_ls c_280_8 rfl (by decide) (by decide) (by decide) (q_goto (t := 15) c_280_9 rfl (q_iconst c_280_15 (q_iret c_280_16 rfl (bk_inl (q_istore c_296_1046 (Nat.le_of_ble_eq_true rfl) ?_)))))))
  refine q_aload_n c_296_1048 rfl (q_aload_n c_296_1049 rfl (q_iload c_296_1050 rfl (q_iconst c_296_1052 (v_iadd (v := (i0 : Int) + 1) c_296_1053 rfl (v_scr (j := i0 + 1) c_296_1054 (by omega) (by omega) hL hx1 ?_)))))
  have hI_69 := iw_lx (a := 67) (j := 0) (v := y_8) hI_6 (by omega)
  refine v_cv c_296_1055 km_9_196 rfl rfl (Nat.le_of_ble_eq_true rfl) ⟨⟨rfl, rfl⟩, Nat.le_of_ble_eq_true rfl, rfl⟩ (Nat.le_of_ble_eq_true rfl) (Nat.le_of_ble_eq_true rfl) (s_230 (a1 := x1) hI_69 (show (-2147483648) ≤ x1 ∧ x1 ≤ 2147483647 from ⟨by omega, by omega⟩) (fun c_70 y_73 hI_71 hF_72 hy_73 => (bk_inl (q_istore c_296_1058 (Nat.le_of_ble_eq_true rfl) (q_goto (t := 1816) c_296_1060 rfl (Wp_ls [(4, vi (i0 : Int)), (3, .ref 67), (2, .ref 41), (1, .ref 0), (0, .ref a_SC)] (lsub_cons rfl (lsub_cons rfl (lsub_cons rfl (lsub_cons rfl (lsub_cons rfl lsub_nil))))) ?_))))))
  have h_74 := ir_1_3 hI
  have kn_75 : Hid (c_5 1 3 = c 1 3) := hF_7 1 3 (fun q => q.elim (fun h => absurd h.1 (nn rfl)) (fun h => absurd h (nn rfl)))
  have kn_76 : Hid (c_70 1 3 = c 1 3) := (hF_72 1 3 qn_39cd18c3e).trans ((up_c (nn rfl)).trans (hid kn_75))
  have h_77 : c_70 1 3 = c 1 3 := (hid kn_76)
  have h_78 := ir_41_2 hI
  have kn_79 : Hid (c_5 41 2 = c 41 2) := hF_7 41 2 (fun q => q.elim (fun h => absurd h.1 (nn rfl)) (fun h => absurd h (nn rfl)))
  have kn_80 : Hid (c_70 41 2 = c 41 2) := (hF_72 41 2 qn_53bdb2099).trans ((up_c (nn rfl)).trans (hid kn_79))
  have h_81 : c_70 41 2 = c 41 2 := (hid kn_80)
  have kn_82 : Hid (c_5 P 0 = n0) := (hF_7 P 0 (qn_e391c0369 hP)).trans (hn0)
  have kn_83 : Hid (c_70 P 0 = n0) := (hF_72 P 0 (qn_857752076 hP)).trans ((up_c (np0 hP rfl)).trans (hid kn_82))
  have h_84 : c_70 P 0 = n0 := (hid kn_83)
  have kn_85 : Hid (c_5 41 20 = n0) := (hF_7 41 20 (fun q => q.elim (fun h => absurd h.1 (nn rfl)) (fun h => absurd h (nn rfl)))).trans (hm0)
  have kn_86 : Hid (c_70 41 20 = n0) := (hF_72 41 20 qn_110b29ed6).trans ((up_c (nn rfl)).trans (hid kn_85))
  have h_87 : c_70 41 20 = n0 := (hid kn_86)
  have kn_88 : Hid (c_5 P 1 = n1) := (hF_7 P 1 (qn_e391c0369 hP)).trans (hn1)
  have kn_89 : Hid (c_70 P 1 = n1) := (hF_72 P 1 (qn_857752076 hP)).trans ((up_c (np0 hP rfl)).trans (hid kn_88))
  have h_90 : c_70 P 1 = n1 := (hid kn_89)
  have kn_91 : Hid (c_5 41 21 = n1) := (hF_7 41 21 (fun q => q.elim (fun h => absurd h.1 (nn rfl)) (fun h => absurd h (nn rfl)))).trans (hm1)
  have kn_92 : Hid (c_70 41 21 = n1) := (hF_72 41 21 qn_561064c41).trans ((up_c (nn rfl)).trans (hid kn_91))
  have h_93 : c_70 41 21 = n1 := (hid kn_92)
  have kn_94 : Hid (c_5 P 2 = n2) := (hF_7 P 2 (qn_e391c0369 hP)).trans (hn2)
  have kn_95 : Hid (c_70 P 2 = n2) := (hF_72 P 2 (qn_857752076 hP)).trans ((up_c (np0 hP rfl)).trans (hid kn_94))
  have h_96 : c_70 P 2 = n2 := (hid kn_95)
  have kn_97 : Hid (c_5 41 22 = n2) := (hF_7 41 22 (fun q => q.elim (fun h => absurd h.1 (nn rfl)) (fun h => absurd h (nn rfl)))).trans (hm2)
  have kn_98 : Hid (c_70 41 22 = n2) := (hF_72 41 22 qn_1a460b46b).trans ((up_c (nn rfl)).trans (hid kn_97))
  have h_99 : c_70 41 22 = n2 := (hid kn_98)
  have kn_100 : Hid (c_5 P 3 = n3) := (hF_7 P 3 (qn_e391c0369 hP)).trans (hn3)
  have kn_101 : Hid (c_70 P 3 = n3) := (hF_72 P 3 (qn_857752076 hP)).trans ((up_c (np0 hP rfl)).trans (hid kn_100))
  have h_102 : c_70 P 3 = n3 := (hid kn_101)
  have kn_103 : Hid (c_5 41 23 = n3) := (hF_7 41 23 (fun q => q.elim (fun h => absurd h.1 (nn rfl)) (fun h => absurd h (nn rfl)))).trans (hm3)
  have kn_104 : Hid (c_70 41 23 = n3) := (hF_72 41 23 qn_b79f282cd).trans ((up_c (nn rfl)).trans (hid kn_103))
  have h_105 : c_70 41 23 = n3 := (hid kn_104)
  have kn_106 : Hid (c_5 3 4 = c 3 4) := hF_7 3 4 (fun q => q.elim (fun h => absurd h.1 (nn rfl)) (fun h => absurd h (nn rfl)))
  have kn_107 : Hid (c_70 3 4 = c 3 4) := (hF_72 3 4 qn_bf2303cc8).trans ((up_c (nn rfl)).trans (hid kn_106))
  have h_108 : c_70 3 4 = c 3 4 := (hid kn_107)
  have h_109 := ir_41_52 hI
  have kn_110 : Hid (c_5 41 52 = c 41 52) := hF_7 41 52 (fun q => q.elim (fun h => absurd h.1 (nn rfl)) (fun h => absurd h (nn rfl)))
  have kn_111 : Hid (c_70 41 52 = c 41 52) := (hF_72 41 52 qn_90835161a).trans ((up_c (nn rfl)).trans (hid kn_110))
  have h_112 : c_70 41 52 = c 41 52 := (hid kn_111)
  have h_113 := ir_3_3 hI
  have kn_114 : Hid (c_5 3 3 = c 3 3) := hF_7 3 3 (fun q => q.elim (fun h => absurd h.1 (nn rfl)) (fun h => absurd h (nn rfl)))
  have kn_115 : Hid (c_70 3 3 = c 3 3) := (hF_72 3 3 qn_bf2303cc8).trans ((up_c (nn rfl)).trans (hid kn_114))
  have h_116 : c_70 3 3 = c 3 3 := (hid kn_115)
  have h_117 := ir_41_35 hI
  have kn_118 : Hid (c_5 41 35 = c 41 35) := hF_7 41 35 (fun q => q.elim (fun h => absurd h.1 (nn rfl)) (fun h => absurd h (nn rfl)))
  have kn_119 : Hid (c_70 41 35 = c 41 35) := (hF_72 41 35 qn_732a91ea5).trans ((up_c (nn rfl)).trans (hid kn_118))
  have h_120 : c_70 41 35 = c 41 35 := (hid kn_119)
  have h_121 : c_70 3 4 = c 3 4 := (hid kn_107)
  have h_122 := ir_1_5 hI
  have kn_123 : Hid (c_5 1 5 = c 1 5) := hF_7 1 5 (fun q => q.elim (fun h => absurd h.1 (nn rfl)) (fun h => absurd h (nn rfl)))
  have kn_124 : Hid (c_70 1 5 = c 1 5) := (hF_72 1 5 qn_39cd18c3e).trans ((up_c (nn rfl)).trans (hid kn_123))
  have h_125 : c_70 1 5 = c 1 5 := (hid kn_124)
  have h_126 := ir_41_8 hI
  have kn_127 : Hid (c_5 41 8 = c 41 8) := hF_7 41 8 (fun q => q.elim (fun h => absurd h.1 (nn rfl)) (fun h => absurd h (nn rfl)))
  have kn_128 : Hid (c_70 41 8 = c 41 8) := (hF_72 41 8 qn_b601a9968).trans ((up_c (nn rfl)).trans (hid kn_127))
  have h_129 : c_70 41 8 = c 41 8 := (hid kn_128)
  exact K P Q c_70 0 (by decide) hI_71 ⟨by omega, ub_fr hU (fun j => (hF_72 2 j qn_2ad67e194).trans ((up_c (nn rfl)).trans (hF_7 2 j (fun q => q.elim (fun h => absurd h.1 (nn rfl)) (fun h => absurd h (nn rfl)))))) (fun j => (hF_72 43 j qn_1520ff5e3).trans ((up_c (nn rfl)).trans (hF_7 43 j (fun q => q.elim (fun h => absurd h.1 (nn rfl)) (fun h => absurd h (nn rfl)))))), ⟨by omega, by omega, by omega, by omega⟩, by omega, by omega, iw_fr2 hIw (by omega) (fun j => (hF_72 6 j qn_e1050858a).trans ((up_c (nn rfl)).trans (hF_7 6 j (fun q => q.elim (fun h => absurd h.1 (nn rfl)) (fun h => absurd h (nn rfl)))))) (fun j => (hF_72 66 j qn_5616dd9ce).trans ((up_c (nn rfl)).trans (hF_7 66 j (fun q => q.elim (fun h => absurd h.1 (nn rfl)) (fun h => absurd h (nn rfl)))))), by omega⟩

set_option maxRecDepth 100000 in
set_option maxHeartbeats 4000000 in
theorem o_21 {xs : Nat → Int32} {L i0 d nc ns P Q : Nat} {c : ME} {Z : AR → Prop} (hi : i0 + 8 ≤ L) (hL : L ≤ 100000) (hI : Iv 0 (-1) P Q c) (hR : Rq P c) (K : ∀ (P2 Q2 : Nat) (c2 : ME) (e : Nat), e ≤ 1 → Iv 0 (-1) P2 Q2 c2 → (Rq P2 c2) → Wp (a_scr L xs) (d + 90) 296 1816 [(4, vi (i0 : Int)), (3, .ref 67), (2, .ref 41), (1, .ref 0), (0, .ref a_SC)] [] (Wd P2 Q2 P2 P2 c2) (nc + e) (ns + 6 * e) Z) : Wp (a_scr L xs) (d + 90) 296 1063 [(4, vi (i0 : Int)), (3, .ref 67), (2, .ref 41), (1, .ref 0), (0, .ref a_SC)] [] (Wd P Q P P c) nc ns Z := by
  obtain ⟨x1, hx1⟩ : ∃ z, (xs (i0 + 1)).toInt = z := ⟨_, rfl⟩
  have x1r := c_rng (xs (i0 + 1))
  rw [hx1] at x1r
  obtain ⟨x2, hx2⟩ : ∃ z, (xs (i0 + 2)).toInt = z := ⟨_, rfl⟩
  have x2r := c_rng (xs (i0 + 2))
  rw [hx2] at x2r
  obtain ⟨x3, hx3⟩ : ∃ z, (xs (i0 + 3)).toInt = z := ⟨_, rfl⟩
  have x3r := c_rng (xs (i0 + 3))
  rw [hx3] at x3r
  obtain ⟨x4, hx4⟩ : ∃ z, (xs (i0 + 4)).toInt = z := ⟨_, rfl⟩
  have x4r := c_rng (xs (i0 + 4))
  rw [hx4] at x4r
  obtain ⟨x5, hx5⟩ : ∃ z, (xs (i0 + 5)).toInt = z := ⟨_, rfl⟩
  have x5r := c_rng (xs (i0 + 5))
  rw [hx5] at x5r
  obtain ⟨x6, hx6⟩ : ∃ z, (xs (i0 + 6)).toInt = z := ⟨_, rfl⟩
  have x6r := c_rng (xs (i0 + 6))
  rw [hx6] at x6r
  obtain ⟨x7, hx7⟩ : ∃ z, (xs (i0 + 7)).toInt = z := ⟨_, rfl⟩
  have x7r := c_rng (xs (i0 + 7))
  rw [hx7] at x7r
  have hP := iv_P hI
  have hQ := iv_Q hI
  have hT := rl_t hR
  have hU := rl_u hR
  obtain ⟨n0, hn0⟩ : ∃ z, c P 0 = z := ⟨_, rfl⟩
  have hm0 : c 41 20 = n0 := (rl_nums hR).1.symm.trans hn0
  have hr0 := ir_p0_0 hI hP
  rw [hn0] at hr0
  obtain ⟨n1, hn1⟩ : ∃ z, c P 1 = z := ⟨_, rfl⟩
  have hm1 : c 41 21 = n1 := (rl_nums hR).2.1.symm.trans hn1
  have hr1 := ir_p0_1 hI hP
  rw [hn1] at hr1
  obtain ⟨n2, hn2⟩ : ∃ z, c P 2 = z := ⟨_, rfl⟩
  have hm2 : c 41 22 = n2 := (rl_nums hR).2.2.1.symm.trans hn2
  have hr2 := ir_p0_2 hI hP
  rw [hn2] at hr2
  obtain ⟨n3, hn3⟩ : ∃ z, c P 3 = z := ⟨_, rfl⟩
  have hm3 : c 41 23 = n3 := (rl_nums hR).2.2.2.symm.trans hn3
  have hr3 := ir_p0_3 hI hP
  rw [hn3] at hr3
  have hNimg := rl_img hR
  have hNwk := rl_wk hR
  have h_1 := ir_3_4 hI
  have hIw := rl_iw hR
  have hNplace := rl_place hR
  refine q_aload_n c_296_1063 rfl (q_aload_n c_296_1064 rfl (q_iload c_296_1065 rfl (q_iconst c_296_1067 (v_iadd (v := (i0 : Int) + 1) c_296_1068 rfl (v_scr (j := i0 + 1) c_296_1069 (by omega) (by omega) hL hx1 (q_aload_n c_296_1070 rfl (q_call c_296_1071 rfl rfl rfl ?_)))))))
  refine q_aload_n c_281_0 rfl (q_iconst c_281_1 (q_aload_n c_281_2 rfl (q_iload_n c_281_3 rfl ?_)))
  refine v_cv c_281_4 km_9_71 rfl rfl (Nat.le_of_ble_eq_true rfl) ⟨⟨rfl, rfl⟩, Nat.le_of_ble_eq_true rfl, rfl⟩ (Nat.le_of_ble_eq_true rfl) (Nat.le_of_ble_eq_true rfl) (s_131 (a1 := x1) hI (show (-2147483648) ≤ x1 ∧ x1 ≤ 2147483647 from ⟨by omega, by omega⟩) (fun c_2 hI_3 hF_4 => ?_) (fun c_5 y_8 hI_6 hF_7 hy_8 => ?_))
  · skip
    refine bk_thr (z := Int32.ofInt 1) rfl ⟨_, _, rfl⟩ rfl (bk_inl (q_istore c_296_1074 (Nat.le_of_ble_eq_true rfl) (q_aload_n c_296_1076 rfl (q_aload_n c_296_1077 rfl (q_iload c_296_1078 rfl (q_iconst c_296_1080 (v_iadd (v := (i0 : Int) + 1) c_296_1081 rfl ?_)))))))
    refine v_scr (j := i0 + 1) c_296_1082 (by omega) (by omega) hL hx1 (v_cv c_296_1083 km_9_199 rfl rfl (Nat.le_of_ble_eq_true rfl) ⟨⟨rfl, rfl⟩, Nat.le_of_ble_eq_true rfl, rfl⟩ (Nat.le_of_ble_eq_true rfl) (Nat.le_of_ble_eq_true rfl) (s_232 (a1 := x1) hI_3 (show (-2147483648) ≤ x1 ∧ x1 ≤ 2147483647 from ⟨by omega, by omega⟩) (fun c_9 y_12 hI_10 hF_11 hy_12 => (bk_inl (q_istore c_296_1086 (Nat.le_of_ble_eq_true rfl) (q_goto (t := 1816) c_296_1088 rfl (Wp_ls [(4, vi (i0 : Int)), (3, .ref 67), (2, .ref 41), (1, .ref 0), (0, .ref a_SC)] (lsub_cons rfl (lsub_cons rfl (lsub_cons rfl (lsub_cons rfl (lsub_cons rfl lsub_nil))))) ?_)))))))
    have h_13 := ir_1_3 hI
    have kn_14 : Hid (c_2 1 3 = c 1 3) := hF_4 1 3 (fun q => q.elim (fun h => absurd h.1 (nn rfl)) (fun h => absurd h (nn rfl)))
    have kn_15 : Hid (c_9 1 3 = c 1 3) := (hF_11 1 3 qn_39cd18c3e).trans (hid kn_14)
    have h_16 : c_9 1 3 = c 1 3 := (hid kn_15)
    have h_17 := ir_41_2 hI
    have kn_18 : Hid (c_2 41 2 = c 41 2) := hF_4 41 2 (fun q => q.elim (fun h => absurd h.1 (nn rfl)) (fun h => absurd h (nn rfl)))
    have kn_19 : Hid (c_9 41 2 = c 41 2) := (hF_11 41 2 qn_53bdb2099).trans (hid kn_18)
    have h_20 : c_9 41 2 = c 41 2 := (hid kn_19)
    have kn_21 : Hid (c_2 P 0 = n0) := (hF_4 P 0 (qn_e391c0369 hP)).trans (hn0)
    have kn_22 : Hid (c_9 P 0 = n0) := (hF_11 P 0 (qn_857752076 hP)).trans (hid kn_21)
    have h_23 : c_9 P 0 = n0 := (hid kn_22)
    have kn_24 : Hid (c_2 41 20 = n0) := (hF_4 41 20 (fun q => q.elim (fun h => absurd h.1 (nn rfl)) (fun h => absurd h (nn rfl)))).trans (hm0)
    have kn_25 : Hid (c_9 41 20 = n0) := (hF_11 41 20 qn_110b29ed6).trans (hid kn_24)
    have h_26 : c_9 41 20 = n0 := (hid kn_25)
    have kn_27 : Hid (c_2 P 1 = n1) := (hF_4 P 1 (qn_e391c0369 hP)).trans (hn1)
    have kn_28 : Hid (c_9 P 1 = n1) := (hF_11 P 1 (qn_857752076 hP)).trans (hid kn_27)
    have h_29 : c_9 P 1 = n1 := (hid kn_28)
    have kn_30 : Hid (c_2 41 21 = n1) := (hF_4 41 21 (fun q => q.elim (fun h => absurd h.1 (nn rfl)) (fun h => absurd h (nn rfl)))).trans (hm1)
    have kn_31 : Hid (c_9 41 21 = n1) := (hF_11 41 21 qn_561064c41).trans (hid kn_30)
    have h_32 : c_9 41 21 = n1 := (hid kn_31)
    have kn_33 : Hid (c_2 P 2 = n2) := (hF_4 P 2 (qn_e391c0369 hP)).trans (hn2)
    have kn_34 : Hid (c_9 P 2 = n2) := (hF_11 P 2 (qn_857752076 hP)).trans (hid kn_33)
    have h_35 : c_9 P 2 = n2 := (hid kn_34)
    have kn_36 : Hid (c_2 41 22 = n2) := (hF_4 41 22 (fun q => q.elim (fun h => absurd h.1 (nn rfl)) (fun h => absurd h (nn rfl)))).trans (hm2)
    have kn_37 : Hid (c_9 41 22 = n2) := (hF_11 41 22 qn_1a460b46b).trans (hid kn_36)
    have h_38 : c_9 41 22 = n2 := (hid kn_37)
    have kn_39 : Hid (c_2 P 3 = n3) := (hF_4 P 3 (qn_e391c0369 hP)).trans (hn3)
    have kn_40 : Hid (c_9 P 3 = n3) := (hF_11 P 3 (qn_857752076 hP)).trans (hid kn_39)
    have h_41 : c_9 P 3 = n3 := (hid kn_40)
    have kn_42 : Hid (c_2 41 23 = n3) := (hF_4 41 23 (fun q => q.elim (fun h => absurd h.1 (nn rfl)) (fun h => absurd h (nn rfl)))).trans (hm3)
    have kn_43 : Hid (c_9 41 23 = n3) := (hF_11 41 23 qn_b79f282cd).trans (hid kn_42)
    have h_44 : c_9 41 23 = n3 := (hid kn_43)
    have kn_45 : Hid (c_2 3 4 = c 3 4) := hF_4 3 4 (fun q => q.elim (fun h => absurd h.1 (nn rfl)) (fun h => absurd h (nn rfl)))
    have kn_46 : Hid (c_9 3 4 = c 3 4) := (hF_11 3 4 qn_bf2303cc8).trans (hid kn_45)
    have h_47 : c_9 3 4 = c 3 4 := (hid kn_46)
    have h_48 := ir_41_52 hI
    have kn_49 : Hid (c_2 41 52 = c 41 52) := hF_4 41 52 (fun q => q.elim (fun h => absurd h.1 (nn rfl)) (fun h => absurd h (nn rfl)))
    have kn_50 : Hid (c_9 41 52 = c 41 52) := (hF_11 41 52 qn_90835161a).trans (hid kn_49)
    have h_51 : c_9 41 52 = c 41 52 := (hid kn_50)
    have h_52 := ir_3_3 hI
    have kn_53 : Hid (c_2 3 3 = c 3 3) := hF_4 3 3 (fun q => q.elim (fun h => absurd h.1 (nn rfl)) (fun h => absurd h (nn rfl)))
    have kn_54 : Hid (c_9 3 3 = c 3 3) := (hF_11 3 3 qn_bf2303cc8).trans (hid kn_53)
    have h_55 : c_9 3 3 = c 3 3 := (hid kn_54)
    have h_56 := ir_41_35 hI
    have kn_57 : Hid (c_2 41 35 = c 41 35) := hF_4 41 35 (fun q => q.elim (fun h => absurd h.1 (nn rfl)) (fun h => absurd h (nn rfl)))
    have kn_58 : Hid (c_9 41 35 = c 41 35) := (hF_11 41 35 qn_732a91ea5).trans (hid kn_57)
    have h_59 : c_9 41 35 = c 41 35 := (hid kn_58)
    have h_60 : c_9 3 4 = c 3 4 := (hid kn_46)
    have h_61 := ir_1_5 hI
    have kn_62 : Hid (c_2 1 5 = c 1 5) := hF_4 1 5 (fun q => q.elim (fun h => absurd h.1 (nn rfl)) (fun h => absurd h (nn rfl)))
    have kn_63 : Hid (c_9 1 5 = c 1 5) := (hF_11 1 5 qn_39cd18c3e).trans (hid kn_62)
    have h_64 : c_9 1 5 = c 1 5 := (hid kn_63)
    have h_65 := ir_41_8 hI
    have kn_66 : Hid (c_2 41 8 = c 41 8) := hF_4 41 8 (fun q => q.elim (fun h => absurd h.1 (nn rfl)) (fun h => absurd h (nn rfl)))
    have kn_67 : Hid (c_9 41 8 = c 41 8) := (hF_11 41 8 qn_b601a9968).trans (hid kn_66)
    have h_68 : c_9 41 8 = c 41 8 := (hid kn_67)
    exact K P Q c_9 1 (by decide) hI_10 ⟨by omega, ub_fr hU (fun j => (hF_11 2 j qn_2ad67e194).trans (hF_4 2 j (fun q => q.elim (fun h => absurd h.1 (nn rfl)) (fun h => absurd h (nn rfl))))) (fun j => (hF_11 43 j qn_1520ff5e3).trans (hF_4 43 j (fun q => q.elim (fun h => absurd h.1 (nn rfl)) (fun h => absurd h (nn rfl))))), ⟨by omega, by omega, by omega, by omega⟩, by omega, by omega, iw_fr2 hIw (by omega) (fun j => (hF_11 6 j qn_e1050858a).trans (hF_4 6 j (fun q => q.elim (fun h => absurd h.1 (nn rfl)) (fun h => absurd h (nn rfl))))) (fun j => (hF_11 66 j qn_5616dd9ce).trans (hF_4 66 j (fun q => q.elim (fun h => absurd h.1 (nn rfl)) (fun h => absurd h (nn rfl))))), by omega⟩
  refine bk_inl (v_i2l c_281_7 (by omega) (v_ls c_281_8 rfl (by decide) (by decide) (by decide) (q_goto (t := 15) c_281_9 rfl (q_iconst c_281_15 (q_iret c_281_16 rfl (bk_inl (q_istore c_296_1074 (Nat.le_of_ble_eq_true rfl) ?_)))))))
  refine q_aload_n c_296_1076 rfl (q_aload_n c_296_1077 rfl (q_iload c_296_1078 rfl (q_iconst c_296_1080 (v_iadd (v := (i0 : Int) + 1) c_296_1081 rfl (v_scr (j := i0 + 1) c_296_1082 (by omega) (by omega) hL hx1 ?_)))))
  have hI_69 := iw_lx (a := 67) (j := 0) (v := y_8) hI_6 (by omega)
  refine v_cv c_296_1083 km_9_199 rfl rfl (Nat.le_of_ble_eq_true rfl) ⟨⟨rfl, rfl⟩, Nat.le_of_ble_eq_true rfl, rfl⟩ (Nat.le_of_ble_eq_true rfl) (Nat.le_of_ble_eq_true rfl) (s_232 (a1 := x1) hI_69 (show (-2147483648) ≤ x1 ∧ x1 ≤ 2147483647 from ⟨by omega, by omega⟩) (fun c_70 y_73 hI_71 hF_72 hy_73 => (bk_inl (q_istore c_296_1086 (Nat.le_of_ble_eq_true rfl) (q_goto (t := 1816) c_296_1088 rfl (Wp_ls [(4, vi (i0 : Int)), (3, .ref 67), (2, .ref 41), (1, .ref 0), (0, .ref a_SC)] (lsub_cons rfl (lsub_cons rfl (lsub_cons rfl (lsub_cons rfl (lsub_cons rfl lsub_nil))))) ?_))))))
  have h_74 := ir_1_3 hI
  have kn_75 : Hid (c_5 1 3 = c 1 3) := hF_7 1 3 (fun q => q.elim (fun h => absurd h.1 (nn rfl)) (fun h => absurd h (nn rfl)))
  have kn_76 : Hid (c_70 1 3 = c 1 3) := (hF_72 1 3 qn_39cd18c3e).trans ((up_c (nn rfl)).trans (hid kn_75))
  have h_77 : c_70 1 3 = c 1 3 := (hid kn_76)
  have h_78 := ir_41_2 hI
  have kn_79 : Hid (c_5 41 2 = c 41 2) := hF_7 41 2 (fun q => q.elim (fun h => absurd h.1 (nn rfl)) (fun h => absurd h (nn rfl)))
  have kn_80 : Hid (c_70 41 2 = c 41 2) := (hF_72 41 2 qn_53bdb2099).trans ((up_c (nn rfl)).trans (hid kn_79))
  have h_81 : c_70 41 2 = c 41 2 := (hid kn_80)
  have kn_82 : Hid (c_5 P 0 = n0) := (hF_7 P 0 (qn_e391c0369 hP)).trans (hn0)
  have kn_83 : Hid (c_70 P 0 = n0) := (hF_72 P 0 (qn_857752076 hP)).trans ((up_c (np0 hP rfl)).trans (hid kn_82))
  have h_84 : c_70 P 0 = n0 := (hid kn_83)
  have kn_85 : Hid (c_5 41 20 = n0) := (hF_7 41 20 (fun q => q.elim (fun h => absurd h.1 (nn rfl)) (fun h => absurd h (nn rfl)))).trans (hm0)
  have kn_86 : Hid (c_70 41 20 = n0) := (hF_72 41 20 qn_110b29ed6).trans ((up_c (nn rfl)).trans (hid kn_85))
  have h_87 : c_70 41 20 = n0 := (hid kn_86)
  have kn_88 : Hid (c_5 P 1 = n1) := (hF_7 P 1 (qn_e391c0369 hP)).trans (hn1)
  have kn_89 : Hid (c_70 P 1 = n1) := (hF_72 P 1 (qn_857752076 hP)).trans ((up_c (np0 hP rfl)).trans (hid kn_88))
  have h_90 : c_70 P 1 = n1 := (hid kn_89)
  have kn_91 : Hid (c_5 41 21 = n1) := (hF_7 41 21 (fun q => q.elim (fun h => absurd h.1 (nn rfl)) (fun h => absurd h (nn rfl)))).trans (hm1)
  have kn_92 : Hid (c_70 41 21 = n1) := (hF_72 41 21 qn_561064c41).trans ((up_c (nn rfl)).trans (hid kn_91))
  have h_93 : c_70 41 21 = n1 := (hid kn_92)
  have kn_94 : Hid (c_5 P 2 = n2) := (hF_7 P 2 (qn_e391c0369 hP)).trans (hn2)
  have kn_95 : Hid (c_70 P 2 = n2) := (hF_72 P 2 (qn_857752076 hP)).trans ((up_c (np0 hP rfl)).trans (hid kn_94))
  have h_96 : c_70 P 2 = n2 := (hid kn_95)
  have kn_97 : Hid (c_5 41 22 = n2) := (hF_7 41 22 (fun q => q.elim (fun h => absurd h.1 (nn rfl)) (fun h => absurd h (nn rfl)))).trans (hm2)
  have kn_98 : Hid (c_70 41 22 = n2) := (hF_72 41 22 qn_1a460b46b).trans ((up_c (nn rfl)).trans (hid kn_97))
  have h_99 : c_70 41 22 = n2 := (hid kn_98)
  have kn_100 : Hid (c_5 P 3 = n3) := (hF_7 P 3 (qn_e391c0369 hP)).trans (hn3)
  have kn_101 : Hid (c_70 P 3 = n3) := (hF_72 P 3 (qn_857752076 hP)).trans ((up_c (np0 hP rfl)).trans (hid kn_100))
  have h_102 : c_70 P 3 = n3 := (hid kn_101)
  have kn_103 : Hid (c_5 41 23 = n3) := (hF_7 41 23 (fun q => q.elim (fun h => absurd h.1 (nn rfl)) (fun h => absurd h (nn rfl)))).trans (hm3)
  have kn_104 : Hid (c_70 41 23 = n3) := (hF_72 41 23 qn_b79f282cd).trans ((up_c (nn rfl)).trans (hid kn_103))
  have h_105 : c_70 41 23 = n3 := (hid kn_104)
  have kn_106 : Hid (c_5 3 4 = c 3 4) := hF_7 3 4 (fun q => q.elim (fun h => absurd h.1 (nn rfl)) (fun h => absurd h (nn rfl)))
  have kn_107 : Hid (c_70 3 4 = c 3 4) := (hF_72 3 4 qn_bf2303cc8).trans ((up_c (nn rfl)).trans (hid kn_106))
  have h_108 : c_70 3 4 = c 3 4 := (hid kn_107)
  have h_109 := ir_41_52 hI
  have kn_110 : Hid (c_5 41 52 = c 41 52) := hF_7 41 52 (fun q => q.elim (fun h => absurd h.1 (nn rfl)) (fun h => absurd h (nn rfl)))
  have kn_111 : Hid (c_70 41 52 = c 41 52) := (hF_72 41 52 qn_90835161a).trans ((up_c (nn rfl)).trans (hid kn_110))
  have h_112 : c_70 41 52 = c 41 52 := (hid kn_111)
  have h_113 := ir_3_3 hI
  have kn_114 : Hid (c_5 3 3 = c 3 3) := hF_7 3 3 (fun q => q.elim (fun h => absurd h.1 (nn rfl)) (fun h => absurd h (nn rfl)))
  have kn_115 : Hid (c_70 3 3 = c 3 3) := (hF_72 3 3 qn_bf2303cc8).trans ((up_c (nn rfl)).trans (hid kn_114))
  have h_116 : c_70 3 3 = c 3 3 := (hid kn_115)
  have h_117 := ir_41_35 hI
  have kn_118 : Hid (c_5 41 35 = c 41 35) := hF_7 41 35 (fun q => q.elim (fun h => absurd h.1 (nn rfl)) (fun h => absurd h (nn rfl)))
  have kn_119 : Hid (c_70 41 35 = c 41 35) := (hF_72 41 35 qn_732a91ea5).trans ((up_c (nn rfl)).trans (hid kn_118))
  have h_120 : c_70 41 35 = c 41 35 := (hid kn_119)
  have h_121 : c_70 3 4 = c 3 4 := (hid kn_107)
  have h_122 := ir_1_5 hI
  have kn_123 : Hid (c_5 1 5 = c 1 5) := hF_7 1 5 (fun q => q.elim (fun h => absurd h.1 (nn rfl)) (fun h => absurd h (nn rfl)))
  have kn_124 : Hid (c_70 1 5 = c 1 5) := (hF_72 1 5 qn_39cd18c3e).trans ((up_c (nn rfl)).trans (hid kn_123))
  have h_125 : c_70 1 5 = c 1 5 := (hid kn_124)
  have h_126 := ir_41_8 hI
  have kn_127 : Hid (c_5 41 8 = c 41 8) := hF_7 41 8 (fun q => q.elim (fun h => absurd h.1 (nn rfl)) (fun h => absurd h (nn rfl)))
  have kn_128 : Hid (c_70 41 8 = c 41 8) := (hF_72 41 8 qn_b601a9968).trans ((up_c (nn rfl)).trans (hid kn_127))
  have h_129 : c_70 41 8 = c 41 8 := (hid kn_128)
  exact K P Q c_70 0 (by decide) hI_71 ⟨by omega, ub_fr hU (fun j => (hF_72 2 j qn_2ad67e194).trans ((up_c (nn rfl)).trans (hF_7 2 j (fun q => q.elim (fun h => absurd h.1 (nn rfl)) (fun h => absurd h (nn rfl)))))) (fun j => (hF_72 43 j qn_1520ff5e3).trans ((up_c (nn rfl)).trans (hF_7 43 j (fun q => q.elim (fun h => absurd h.1 (nn rfl)) (fun h => absurd h (nn rfl)))))), ⟨by omega, by omega, by omega, by omega⟩, by omega, by omega, iw_fr2 hIw (by omega) (fun j => (hF_72 6 j qn_e1050858a).trans ((up_c (nn rfl)).trans (hF_7 6 j (fun q => q.elim (fun h => absurd h.1 (nn rfl)) (fun h => absurd h (nn rfl)))))) (fun j => (hF_72 66 j qn_5616dd9ce).trans ((up_c (nn rfl)).trans (hF_7 66 j (fun q => q.elim (fun h => absurd h.1 (nn rfl)) (fun h => absurd h (nn rfl)))))), by omega⟩

set_option maxRecDepth 100000 in
set_option maxHeartbeats 4000000 in
theorem o_22 {xs : Nat → Int32} {L i0 d nc ns P Q : Nat} {c : ME} {Z : AR → Prop} (hi : i0 + 8 ≤ L) (hL : L ≤ 100000) (hI : Iv 0 (-1) P Q c) (hR : Rq P c) (K : ∀ (P2 Q2 : Nat) (c2 : ME) (e : Nat), e ≤ 1 → Iv 0 (-1) P2 Q2 c2 → (Rq P2 c2) → Wp (a_scr L xs) (d + 90) 296 1816 [(4, vi (i0 : Int)), (3, .ref 67), (2, .ref 41), (1, .ref 0), (0, .ref a_SC)] [] (Wd P2 Q2 P2 P2 c2) (nc + e) (ns + 6 * e) Z) : Wp (a_scr L xs) (d + 90) 296 1091 [(4, vi (i0 : Int)), (3, .ref 67), (2, .ref 41), (1, .ref 0), (0, .ref a_SC)] [] (Wd P Q P P c) nc ns Z := by
  obtain ⟨x1, hx1⟩ : ∃ z, (xs (i0 + 1)).toInt = z := ⟨_, rfl⟩
  have x1r := c_rng (xs (i0 + 1))
  rw [hx1] at x1r
  obtain ⟨x2, hx2⟩ : ∃ z, (xs (i0 + 2)).toInt = z := ⟨_, rfl⟩
  have x2r := c_rng (xs (i0 + 2))
  rw [hx2] at x2r
  obtain ⟨x3, hx3⟩ : ∃ z, (xs (i0 + 3)).toInt = z := ⟨_, rfl⟩
  have x3r := c_rng (xs (i0 + 3))
  rw [hx3] at x3r
  obtain ⟨x4, hx4⟩ : ∃ z, (xs (i0 + 4)).toInt = z := ⟨_, rfl⟩
  have x4r := c_rng (xs (i0 + 4))
  rw [hx4] at x4r
  obtain ⟨x5, hx5⟩ : ∃ z, (xs (i0 + 5)).toInt = z := ⟨_, rfl⟩
  have x5r := c_rng (xs (i0 + 5))
  rw [hx5] at x5r
  obtain ⟨x6, hx6⟩ : ∃ z, (xs (i0 + 6)).toInt = z := ⟨_, rfl⟩
  have x6r := c_rng (xs (i0 + 6))
  rw [hx6] at x6r
  obtain ⟨x7, hx7⟩ : ∃ z, (xs (i0 + 7)).toInt = z := ⟨_, rfl⟩
  have x7r := c_rng (xs (i0 + 7))
  rw [hx7] at x7r
  have hP := iv_P hI
  have hQ := iv_Q hI
  have hT := rl_t hR
  have hU := rl_u hR
  obtain ⟨n0, hn0⟩ : ∃ z, c P 0 = z := ⟨_, rfl⟩
  have hm0 : c 41 20 = n0 := (rl_nums hR).1.symm.trans hn0
  have hr0 := ir_p0_0 hI hP
  rw [hn0] at hr0
  obtain ⟨n1, hn1⟩ : ∃ z, c P 1 = z := ⟨_, rfl⟩
  have hm1 : c 41 21 = n1 := (rl_nums hR).2.1.symm.trans hn1
  have hr1 := ir_p0_1 hI hP
  rw [hn1] at hr1
  obtain ⟨n2, hn2⟩ : ∃ z, c P 2 = z := ⟨_, rfl⟩
  have hm2 : c 41 22 = n2 := (rl_nums hR).2.2.1.symm.trans hn2
  have hr2 := ir_p0_2 hI hP
  rw [hn2] at hr2
  obtain ⟨n3, hn3⟩ : ∃ z, c P 3 = z := ⟨_, rfl⟩
  have hm3 : c 41 23 = n3 := (rl_nums hR).2.2.2.symm.trans hn3
  have hr3 := ir_p0_3 hI hP
  rw [hn3] at hr3
  have hNimg := rl_img hR
  have hNwk := rl_wk hR
  have h_1 := ir_3_4 hI
  have hIw := rl_iw hR
  have hNplace := rl_place hR
  refine q_aload_n c_296_1091 rfl (q_aload_n c_296_1092 rfl (q_iload c_296_1093 rfl (q_iconst c_296_1095 (v_iadd (v := (i0 : Int) + 1) c_296_1096 rfl (v_scr (j := i0 + 1) c_296_1097 (by omega) (by omega) hL hx1 (q_aload_n c_296_1098 rfl (q_iload c_296_1099 rfl ?_)))))))
  refine q_iconst c_296_1101 (v_iadd (v := (i0 : Int) + 2) c_296_1102 rfl (v_scr (j := i0 + 2) c_296_1103 (by omega) (by omega) hL hx2 (q_aload_n c_296_1104 rfl (q_iload c_296_1105 rfl (q_iconst c_296_1107 (v_iadd (v := (i0 : Int) + 3) c_296_1108 rfl (v_scr (j := i0 + 3) c_296_1109 (by omega) (by omega) hL hx3 ?_)))))))
  refine q_aload_n c_296_1110 rfl (q_iload c_296_1111 rfl (q_iconst c_296_1113 (v_iadd (v := (i0 : Int) + 4) c_296_1114 rfl (v_scr (j := i0 + 4) c_296_1115 (by omega) (by omega) hL hx4 (q_aload_n c_296_1116 rfl (q_call c_296_1117 rfl rfl rfl (q_aload c_282_0 rfl ?_)))))))
  refine q_iconst c_282_2 (q_aload_n c_282_3 rfl (q_iload_n c_282_4 rfl (q_iload_n c_282_5 rfl (q_iload_n c_282_6 rfl (q_iload c_282_7 rfl ?_)))))
  refine v_cv c_282_9 km_9_74 rfl rfl (Nat.le_of_ble_eq_true rfl) ⟨⟨rfl, rfl⟩, Nat.le_of_ble_eq_true rfl, rfl⟩ (Nat.le_of_ble_eq_true rfl) (Nat.le_of_ble_eq_true rfl) (s_134 (a1 := x1) (a2 := x2) (a3 := x3) (a4 := x4) hI (show (-2147483648) ≤ x1 ∧ x1 ≤ 2147483647 from ⟨by omega, by omega⟩) (show (-2147483648) ≤ x2 ∧ x2 ≤ 2147483647 from ⟨by omega, by omega⟩) (show (-2147483648) ≤ x3 ∧ x3 ≤ 2147483647 from ⟨by omega, by omega⟩) (show (-2147483648) ≤ x4 ∧ x4 ≤ 2147483647 from ⟨by omega, by omega⟩) (fun c_2 hI_3 hF_4 => ?_) (fun c_5 y_8 hI_6 hF_7 => ?_))
  · skip
    refine bk_thr (z := Int32.ofInt 1) rfl ⟨_, _, rfl⟩ rfl (bk_inl (q_istore c_296_1120 (Nat.le_of_ble_eq_true rfl) (q_aload_n c_296_1122 rfl (q_aload_n c_296_1123 rfl (q_iload c_296_1124 rfl (q_iconst c_296_1126 (v_iadd (v := (i0 : Int) + 1) c_296_1127 rfl ?_)))))))
    refine v_scr (j := i0 + 1) c_296_1128 (by omega) (by omega) hL hx1 (q_aload_n c_296_1129 rfl (q_iload c_296_1130 rfl (q_iconst c_296_1132 (v_iadd (v := (i0 : Int) + 2) c_296_1133 rfl (v_scr (j := i0 + 2) c_296_1134 (by omega) (by omega) hL hx2 (q_aload_n c_296_1135 rfl (q_iload c_296_1136 rfl ?_)))))))
    refine q_iconst c_296_1138 (v_iadd (v := (i0 : Int) + 3) c_296_1139 rfl (v_scr (j := i0 + 3) c_296_1140 (by omega) (by omega) hL hx3 (q_aload_n c_296_1141 rfl (q_iload c_296_1142 rfl (q_iconst c_296_1144 (v_iadd (v := (i0 : Int) + 4) c_296_1145 rfl (v_scr (j := i0 + 4) c_296_1146 (by omega) (by omega) hL hx4 ?_)))))))
    refine v_cv c_296_1147 km_9_203 rfl rfl (Nat.le_of_ble_eq_true rfl) ⟨⟨rfl, rfl⟩, Nat.le_of_ble_eq_true rfl, rfl⟩ (Nat.le_of_ble_eq_true rfl) (Nat.le_of_ble_eq_true rfl) (s_234 (a1 := x1) (a2 := x2) (a3 := x3) (a4 := x4) hI_3 (show (-2147483648) ≤ x1 ∧ x1 ≤ 2147483647 from ⟨by omega, by omega⟩) (show (-2147483648) ≤ x2 ∧ x2 ≤ 2147483647 from ⟨by omega, by omega⟩) (show (-2147483648) ≤ x3 ∧ x3 ≤ 2147483647 from ⟨by omega, by omega⟩) (show (-2147483648) ≤ x4 ∧ x4 ≤ 2147483647 from ⟨by omega, by omega⟩) (fun c_9 y_12 hI_10 hF_11 => (bk_inl (q_lstore c_296_1150 (by decide) (q_goto (t := 1816) c_296_1152 rfl (Wp_ls [(4, vi (i0 : Int)), (3, .ref 67), (2, .ref 41), (1, .ref 0), (0, .ref a_SC)] (lsub_cons rfl (lsub_cons rfl (lsub_cons rfl (lsub_cons rfl (lsub_cons rfl lsub_nil))))) ?_))))))
    have h_13 := ir_1_3 hI
    have kn_14 : Hid (c_2 1 3 = c 1 3) := hF_4 1 3 (fun h => absurd h.1 (nn rfl))
    have kn_15 : Hid (c_9 1 3 = c 1 3) := (hF_11 1 3 qn_0bb414bab).trans (hid kn_14)
    have h_16 : c_9 1 3 = c 1 3 := (hid kn_15)
    have h_17 := ir_41_2 hI
    have kn_18 : Hid (c_2 41 2 = c 41 2) := hF_4 41 2 (fun h => absurd h.1 (nn rfl))
    have kn_19 : Hid (c_9 41 2 = c 41 2) := (hF_11 41 2 qn_ebfe7b626).trans (hid kn_18)
    have h_20 : c_9 41 2 = c 41 2 := (hid kn_19)
    have kn_21 : Hid (c_2 P 0 = n0) := (hF_4 P 0 (fun h => absurd h.1 (np0 hP rfl))).trans (hn0)
    have kn_22 : Hid (c_9 P 0 = n0) := (hF_11 P 0 (qn_7f38acc6d hP)).trans (hid kn_21)
    have h_23 : c_9 P 0 = n0 := (hid kn_22)
    have kn_24 : Hid (c_2 41 20 = n0) := (hF_4 41 20 (fun h => absurd h.1 (nn rfl))).trans (hm0)
    have kn_25 : Hid (c_9 41 20 = n0) := (hF_11 41 20 qn_cd1179a69).trans (hid kn_24)
    have h_26 : c_9 41 20 = n0 := (hid kn_25)
    have kn_27 : Hid (c_2 P 1 = n1) := (hF_4 P 1 (fun h => absurd h.1 (np0 hP rfl))).trans (hn1)
    have kn_28 : Hid (c_9 P 1 = n1) := (hF_11 P 1 (qn_7f38acc6d hP)).trans (hid kn_27)
    have h_29 : c_9 P 1 = n1 := (hid kn_28)
    have kn_30 : Hid (c_2 41 21 = n1) := (hF_4 41 21 (fun h => absurd h.1 (nn rfl))).trans (hm1)
    have kn_31 : Hid (c_9 41 21 = n1) := (hF_11 41 21 qn_b9279a13b).trans (hid kn_30)
    have h_32 : c_9 41 21 = n1 := (hid kn_31)
    have kn_33 : Hid (c_2 P 2 = n2) := (hF_4 P 2 (fun h => absurd h.1 (np0 hP rfl))).trans (hn2)
    have kn_34 : Hid (c_9 P 2 = n2) := (hF_11 P 2 (qn_7f38acc6d hP)).trans (hid kn_33)
    have h_35 : c_9 P 2 = n2 := (hid kn_34)
    have kn_36 : Hid (c_2 41 22 = n2) := (hF_4 41 22 (fun h => absurd h.1 (nn rfl))).trans (hm2)
    have kn_37 : Hid (c_9 41 22 = n2) := (hF_11 41 22 qn_60858c59b).trans (hid kn_36)
    have h_38 : c_9 41 22 = n2 := (hid kn_37)
    have kn_39 : Hid (c_2 P 3 = n3) := (hF_4 P 3 (fun h => absurd h.1 (np0 hP rfl))).trans (hn3)
    have kn_40 : Hid (c_9 P 3 = n3) := (hF_11 P 3 (qn_7f38acc6d hP)).trans (hid kn_39)
    have h_41 : c_9 P 3 = n3 := (hid kn_40)
    have kn_42 : Hid (c_2 41 23 = n3) := (hF_4 41 23 (fun h => absurd h.1 (nn rfl))).trans (hm3)
    have kn_43 : Hid (c_9 41 23 = n3) := (hF_11 41 23 qn_cac453c9d).trans (hid kn_42)
    have h_44 : c_9 41 23 = n3 := (hid kn_43)
    have kn_45 : Hid (c_2 3 4 = c 3 4) := hF_4 3 4 (fun h => absurd h.1 (nn rfl))
    have kn_46 : Hid (c_9 3 4 = c 3 4) := (hF_11 3 4 qn_43df1dc4f).trans (hid kn_45)
    have h_47 : c_9 3 4 = c 3 4 := (hid kn_46)
    have h_48 := ir_41_52 hI
    have kn_49 : Hid (c_2 41 52 = c 41 52) := hF_4 41 52 (fun h => absurd h.1 (nn rfl))
    have kn_50 : Hid (c_9 41 52 = c 41 52) := (hF_11 41 52 qn_200544fe4).trans (hid kn_49)
    have h_51 : c_9 41 52 = c 41 52 := (hid kn_50)
    have h_52 := ir_3_3 hI
    have kn_53 : Hid (c_2 3 3 = c 3 3) := hF_4 3 3 (fun h => absurd h.1 (nn rfl))
    have kn_54 : Hid (c_9 3 3 = c 3 3) := (hF_11 3 3 qn_43df1dc4f).trans (hid kn_53)
    have h_55 : c_9 3 3 = c 3 3 := (hid kn_54)
    have h_56 := ir_41_35 hI
    have kn_57 : Hid (c_2 41 35 = c 41 35) := hF_4 41 35 (fun h => absurd h.1 (nn rfl))
    have kn_58 : Hid (c_9 41 35 = c 41 35) := (hF_11 41 35 qn_4bede1abc).trans (hid kn_57)
    have h_59 : c_9 41 35 = c 41 35 := (hid kn_58)
    have h_60 : c_9 3 4 = c 3 4 := (hid kn_46)
    have h_61 := ir_1_5 hI
    have kn_62 : Hid (c_2 1 5 = c 1 5) := hF_4 1 5 (fun h => absurd h.1 (nn rfl))
    have kn_63 : Hid (c_9 1 5 = c 1 5) := (hF_11 1 5 qn_0bb414bab).trans (hid kn_62)
    have h_64 : c_9 1 5 = c 1 5 := (hid kn_63)
    have h_65 := ir_41_8 hI
    have kn_66 : Hid (c_2 41 8 = c 41 8) := hF_4 41 8 (fun h => absurd h.1 (nn rfl))
    have kn_67 : Hid (c_9 41 8 = c 41 8) := (hF_11 41 8 qn_f4866e59e).trans (hid kn_66)
    have h_68 : c_9 41 8 = c 41 8 := (hid kn_67)
    exact K P Q c_9 1 (by decide) hI_10 ⟨by omega, ub_fr hU (fun j => (hF_11 2 j qn_43b5cfd28).trans (hF_4 2 j (fun h => absurd h.1 (nn rfl)))) (fun j => (hF_11 43 j qn_6069d5231).trans (hF_4 43 j (fun h => absurd h.1 (nn rfl)))), ⟨by omega, by omega, by omega, by omega⟩, by omega, by omega, iw_fr2 hIw (by omega) (fun j => (hF_11 6 j qn_9a86ee4c1).trans (hF_4 6 j (fun h => absurd h.1 (nn rfl)))) (fun j => (hF_11 66 j qn_208766d82).trans (hF_4 66 j (fun h => absurd h.1 (nn rfl)))), by omega⟩
  refine bk_inl (v_ls c_282_12 rfl (by decide) (by decide) (by decide) (q_goto (t := 20) c_282_13 rfl (q_iconst c_282_20 (q_iret c_282_21 rfl (bk_inl (q_istore c_296_1120 (Nat.le_of_ble_eq_true rfl) (q_aload_n c_296_1122 rfl ?_)))))))
  refine q_aload_n c_296_1123 rfl (q_iload c_296_1124 rfl (q_iconst c_296_1126 (v_iadd (v := (i0 : Int) + 1) c_296_1127 rfl (v_scr (j := i0 + 1) c_296_1128 (by omega) (by omega) hL hx1 (q_aload_n c_296_1129 rfl (q_iload c_296_1130 rfl (q_iconst c_296_1132 ?_)))))))
  refine v_iadd (v := (i0 : Int) + 2) c_296_1133 rfl (v_scr (j := i0 + 2) c_296_1134 (by omega) (by omega) hL hx2 (q_aload_n c_296_1135 rfl (q_iload c_296_1136 rfl (q_iconst c_296_1138 (v_iadd (v := (i0 : Int) + 3) c_296_1139 rfl (v_scr (j := i0 + 3) c_296_1140 (by omega) (by omega) hL hx3 (q_aload_n c_296_1141 rfl ?_)))))))
  refine q_iload c_296_1142 rfl (q_iconst c_296_1144 (v_iadd (v := (i0 : Int) + 4) c_296_1145 rfl (v_scr (j := i0 + 4) c_296_1146 (by omega) (by omega) hL hx4 ?_)))
  have hI_69 := iw_lx (a := 67) (j := 0) (v := y_8) hI_6 (by omega)
  refine v_cv c_296_1147 km_9_203 rfl rfl (Nat.le_of_ble_eq_true rfl) ⟨⟨rfl, rfl⟩, Nat.le_of_ble_eq_true rfl, rfl⟩ (Nat.le_of_ble_eq_true rfl) (Nat.le_of_ble_eq_true rfl) (s_234 (a1 := x1) (a2 := x2) (a3 := x3) (a4 := x4) hI_69 (show (-2147483648) ≤ x1 ∧ x1 ≤ 2147483647 from ⟨by omega, by omega⟩) (show (-2147483648) ≤ x2 ∧ x2 ≤ 2147483647 from ⟨by omega, by omega⟩) (show (-2147483648) ≤ x3 ∧ x3 ≤ 2147483647 from ⟨by omega, by omega⟩) (show (-2147483648) ≤ x4 ∧ x4 ≤ 2147483647 from ⟨by omega, by omega⟩) (fun c_70 y_73 hI_71 hF_72 => (bk_inl (q_lstore c_296_1150 (by decide) (q_goto (t := 1816) c_296_1152 rfl (Wp_ls [(4, vi (i0 : Int)), (3, .ref 67), (2, .ref 41), (1, .ref 0), (0, .ref a_SC)] (lsub_cons rfl (lsub_cons rfl (lsub_cons rfl (lsub_cons rfl (lsub_cons rfl lsub_nil))))) ?_))))))
  have h_74 := ir_1_3 hI
  have kn_75 : Hid (c_5 1 3 = c 1 3) := hF_7 1 3 (fun h => absurd h.1 (nn rfl))
  have kn_76 : Hid (c_70 1 3 = c 1 3) := (hF_72 1 3 qn_0bb414bab).trans ((up_c (nn rfl)).trans (hid kn_75))
  have h_77 : c_70 1 3 = c 1 3 := (hid kn_76)
  have h_78 := ir_41_2 hI
  have kn_79 : Hid (c_5 41 2 = c 41 2) := hF_7 41 2 (fun h => absurd h.1 (nn rfl))
  have kn_80 : Hid (c_70 41 2 = c 41 2) := (hF_72 41 2 qn_ebfe7b626).trans ((up_c (nn rfl)).trans (hid kn_79))
  have h_81 : c_70 41 2 = c 41 2 := (hid kn_80)
  have kn_82 : Hid (c_5 P 0 = n0) := (hF_7 P 0 (fun h => absurd h.1 (np0 hP rfl))).trans (hn0)
  have kn_83 : Hid (c_70 P 0 = n0) := (hF_72 P 0 (qn_7f38acc6d hP)).trans ((up_c (np0 hP rfl)).trans (hid kn_82))
  have h_84 : c_70 P 0 = n0 := (hid kn_83)
  have kn_85 : Hid (c_5 41 20 = n0) := (hF_7 41 20 (fun h => absurd h.1 (nn rfl))).trans (hm0)
  have kn_86 : Hid (c_70 41 20 = n0) := (hF_72 41 20 qn_cd1179a69).trans ((up_c (nn rfl)).trans (hid kn_85))
  have h_87 : c_70 41 20 = n0 := (hid kn_86)
  have kn_88 : Hid (c_5 P 1 = n1) := (hF_7 P 1 (fun h => absurd h.1 (np0 hP rfl))).trans (hn1)
  have kn_89 : Hid (c_70 P 1 = n1) := (hF_72 P 1 (qn_7f38acc6d hP)).trans ((up_c (np0 hP rfl)).trans (hid kn_88))
  have h_90 : c_70 P 1 = n1 := (hid kn_89)
  have kn_91 : Hid (c_5 41 21 = n1) := (hF_7 41 21 (fun h => absurd h.1 (nn rfl))).trans (hm1)
  have kn_92 : Hid (c_70 41 21 = n1) := (hF_72 41 21 qn_b9279a13b).trans ((up_c (nn rfl)).trans (hid kn_91))
  have h_93 : c_70 41 21 = n1 := (hid kn_92)
  have kn_94 : Hid (c_5 P 2 = n2) := (hF_7 P 2 (fun h => absurd h.1 (np0 hP rfl))).trans (hn2)
  have kn_95 : Hid (c_70 P 2 = n2) := (hF_72 P 2 (qn_7f38acc6d hP)).trans ((up_c (np0 hP rfl)).trans (hid kn_94))
  have h_96 : c_70 P 2 = n2 := (hid kn_95)
  have kn_97 : Hid (c_5 41 22 = n2) := (hF_7 41 22 (fun h => absurd h.1 (nn rfl))).trans (hm2)
  have kn_98 : Hid (c_70 41 22 = n2) := (hF_72 41 22 qn_60858c59b).trans ((up_c (nn rfl)).trans (hid kn_97))
  have h_99 : c_70 41 22 = n2 := (hid kn_98)
  have kn_100 : Hid (c_5 P 3 = n3) := (hF_7 P 3 (fun h => absurd h.1 (np0 hP rfl))).trans (hn3)
  have kn_101 : Hid (c_70 P 3 = n3) := (hF_72 P 3 (qn_7f38acc6d hP)).trans ((up_c (np0 hP rfl)).trans (hid kn_100))
  have h_102 : c_70 P 3 = n3 := (hid kn_101)
  have kn_103 : Hid (c_5 41 23 = n3) := (hF_7 41 23 (fun h => absurd h.1 (nn rfl))).trans (hm3)
  have kn_104 : Hid (c_70 41 23 = n3) := (hF_72 41 23 qn_cac453c9d).trans ((up_c (nn rfl)).trans (hid kn_103))
  have h_105 : c_70 41 23 = n3 := (hid kn_104)
  have kn_106 : Hid (c_5 3 4 = c 3 4) := hF_7 3 4 (fun h => absurd h.1 (nn rfl))
  have kn_107 : Hid (c_70 3 4 = c 3 4) := (hF_72 3 4 qn_43df1dc4f).trans ((up_c (nn rfl)).trans (hid kn_106))
  have h_108 : c_70 3 4 = c 3 4 := (hid kn_107)
  have h_109 := ir_41_52 hI
  have kn_110 : Hid (c_5 41 52 = c 41 52) := hF_7 41 52 (fun h => absurd h.1 (nn rfl))
  have kn_111 : Hid (c_70 41 52 = c 41 52) := (hF_72 41 52 qn_200544fe4).trans ((up_c (nn rfl)).trans (hid kn_110))
  have h_112 : c_70 41 52 = c 41 52 := (hid kn_111)
  have h_113 := ir_3_3 hI
  have kn_114 : Hid (c_5 3 3 = c 3 3) := hF_7 3 3 (fun h => absurd h.1 (nn rfl))
  have kn_115 : Hid (c_70 3 3 = c 3 3) := (hF_72 3 3 qn_43df1dc4f).trans ((up_c (nn rfl)).trans (hid kn_114))
  have h_116 : c_70 3 3 = c 3 3 := (hid kn_115)
  have h_117 := ir_41_35 hI
  have kn_118 : Hid (c_5 41 35 = c 41 35) := hF_7 41 35 (fun h => absurd h.1 (nn rfl))
  have kn_119 : Hid (c_70 41 35 = c 41 35) := (hF_72 41 35 qn_4bede1abc).trans ((up_c (nn rfl)).trans (hid kn_118))
  have h_120 : c_70 41 35 = c 41 35 := (hid kn_119)
  have h_121 : c_70 3 4 = c 3 4 := (hid kn_107)
  have h_122 := ir_1_5 hI
  have kn_123 : Hid (c_5 1 5 = c 1 5) := hF_7 1 5 (fun h => absurd h.1 (nn rfl))
  have kn_124 : Hid (c_70 1 5 = c 1 5) := (hF_72 1 5 qn_0bb414bab).trans ((up_c (nn rfl)).trans (hid kn_123))
  have h_125 : c_70 1 5 = c 1 5 := (hid kn_124)
  have h_126 := ir_41_8 hI
  have kn_127 : Hid (c_5 41 8 = c 41 8) := hF_7 41 8 (fun h => absurd h.1 (nn rfl))
  have kn_128 : Hid (c_70 41 8 = c 41 8) := (hF_72 41 8 qn_f4866e59e).trans ((up_c (nn rfl)).trans (hid kn_127))
  have h_129 : c_70 41 8 = c 41 8 := (hid kn_128)
  exact K P Q c_70 0 (by decide) hI_71 ⟨by omega, ub_fr hU (fun j => (hF_72 2 j qn_43b5cfd28).trans ((up_c (nn rfl)).trans (hF_7 2 j (fun h => absurd h.1 (nn rfl))))) (fun j => (hF_72 43 j qn_6069d5231).trans ((up_c (nn rfl)).trans (hF_7 43 j (fun h => absurd h.1 (nn rfl))))), ⟨by omega, by omega, by omega, by omega⟩, by omega, by omega, iw_fr2 hIw (by omega) (fun j => (hF_72 6 j qn_9a86ee4c1).trans ((up_c (nn rfl)).trans (hF_7 6 j (fun h => absurd h.1 (nn rfl))))) (fun j => (hF_72 66 j qn_208766d82).trans ((up_c (nn rfl)).trans (hF_7 66 j (fun h => absurd h.1 (nn rfl))))), by omega⟩

set_option maxRecDepth 100000 in
set_option maxHeartbeats 4000000 in
theorem o_23 {xs : Nat → Int32} {L i0 d nc ns P Q : Nat} {c : ME} {Z : AR → Prop} (hi : i0 + 8 ≤ L) (hL : L ≤ 100000) (hI : Iv 0 (-1) P Q c) (hR : Rq P c) (K : ∀ (P2 Q2 : Nat) (c2 : ME) (e : Nat), e ≤ 1 → Iv 0 (-1) P2 Q2 c2 → (Rq P2 c2) → Wp (a_scr L xs) (d + 90) 296 1816 [(4, vi (i0 : Int)), (3, .ref 67), (2, .ref 41), (1, .ref 0), (0, .ref a_SC)] [] (Wd P2 Q2 P2 P2 c2) (nc + e) (ns + 6 * e) Z) : Wp (a_scr L xs) (d + 90) 296 1155 [(4, vi (i0 : Int)), (3, .ref 67), (2, .ref 41), (1, .ref 0), (0, .ref a_SC)] [] (Wd P Q P P c) nc ns Z := by
  obtain ⟨x1, hx1⟩ : ∃ z, (xs (i0 + 1)).toInt = z := ⟨_, rfl⟩
  have x1r := c_rng (xs (i0 + 1))
  rw [hx1] at x1r
  obtain ⟨x2, hx2⟩ : ∃ z, (xs (i0 + 2)).toInt = z := ⟨_, rfl⟩
  have x2r := c_rng (xs (i0 + 2))
  rw [hx2] at x2r
  obtain ⟨x3, hx3⟩ : ∃ z, (xs (i0 + 3)).toInt = z := ⟨_, rfl⟩
  have x3r := c_rng (xs (i0 + 3))
  rw [hx3] at x3r
  obtain ⟨x4, hx4⟩ : ∃ z, (xs (i0 + 4)).toInt = z := ⟨_, rfl⟩
  have x4r := c_rng (xs (i0 + 4))
  rw [hx4] at x4r
  obtain ⟨x5, hx5⟩ : ∃ z, (xs (i0 + 5)).toInt = z := ⟨_, rfl⟩
  have x5r := c_rng (xs (i0 + 5))
  rw [hx5] at x5r
  obtain ⟨x6, hx6⟩ : ∃ z, (xs (i0 + 6)).toInt = z := ⟨_, rfl⟩
  have x6r := c_rng (xs (i0 + 6))
  rw [hx6] at x6r
  obtain ⟨x7, hx7⟩ : ∃ z, (xs (i0 + 7)).toInt = z := ⟨_, rfl⟩
  have x7r := c_rng (xs (i0 + 7))
  rw [hx7] at x7r
  have hP := iv_P hI
  have hQ := iv_Q hI
  have hT := rl_t hR
  have hU := rl_u hR
  obtain ⟨n0, hn0⟩ : ∃ z, c P 0 = z := ⟨_, rfl⟩
  have hm0 : c 41 20 = n0 := (rl_nums hR).1.symm.trans hn0
  have hr0 := ir_p0_0 hI hP
  rw [hn0] at hr0
  obtain ⟨n1, hn1⟩ : ∃ z, c P 1 = z := ⟨_, rfl⟩
  have hm1 : c 41 21 = n1 := (rl_nums hR).2.1.symm.trans hn1
  have hr1 := ir_p0_1 hI hP
  rw [hn1] at hr1
  obtain ⟨n2, hn2⟩ : ∃ z, c P 2 = z := ⟨_, rfl⟩
  have hm2 : c 41 22 = n2 := (rl_nums hR).2.2.1.symm.trans hn2
  have hr2 := ir_p0_2 hI hP
  rw [hn2] at hr2
  obtain ⟨n3, hn3⟩ : ∃ z, c P 3 = z := ⟨_, rfl⟩
  have hm3 : c 41 23 = n3 := (rl_nums hR).2.2.2.symm.trans hn3
  have hr3 := ir_p0_3 hI hP
  rw [hn3] at hr3
  have hNimg := rl_img hR
  have hNwk := rl_wk hR
  have h_1 := ir_3_4 hI
  have hIw := rl_iw hR
  have hNplace := rl_place hR
  refine q_aload_n c_296_1155 rfl (q_aload_n c_296_1156 rfl (q_iload c_296_1157 rfl (q_iconst c_296_1159 (v_iadd (v := (i0 : Int) + 1) c_296_1160 rfl (v_scr (j := i0 + 1) c_296_1161 (by omega) (by omega) hL hx1 (q_aload_n c_296_1162 rfl (q_iload c_296_1163 rfl ?_)))))))
  refine q_iconst c_296_1165 (v_iadd (v := (i0 : Int) + 2) c_296_1166 rfl (v_scr (j := i0 + 2) c_296_1167 (by omega) (by omega) hL hx2 (q_aload_n c_296_1168 rfl (q_iload c_296_1169 rfl (q_iconst c_296_1171 (v_iadd (v := (i0 : Int) + 3) c_296_1172 rfl (v_scr (j := i0 + 3) c_296_1173 (by omega) (by omega) hL hx3 ?_)))))))
  refine q_aload_n c_296_1174 rfl (q_call c_296_1175 rfl rfl rfl (q_aload c_283_0 rfl (q_iconst c_283_2 (q_aload_n c_283_3 rfl (q_iload_n c_283_4 rfl (q_iload_n c_283_5 rfl (q_iload_n c_283_6 rfl ?_)))))))
  refine v_cv c_283_7 km_9_78 rfl rfl (Nat.le_of_ble_eq_true rfl) ⟨⟨rfl, rfl⟩, Nat.le_of_ble_eq_true rfl, rfl⟩ (Nat.le_of_ble_eq_true rfl) (Nat.le_of_ble_eq_true rfl) (s_136 (a1 := x1) (a2 := x2) (a3 := x3) hI (show (-2147483648) ≤ x1 ∧ x1 ≤ 2147483647 from ⟨by omega, by omega⟩) (show (-2147483648) ≤ x2 ∧ x2 ≤ 2147483647 from ⟨by omega, by omega⟩) (show (-2147483648) ≤ x3 ∧ x3 ≤ 2147483647 from ⟨by omega, by omega⟩) (fun c_2 hI_3 hF_4 => ?_) (fun c_5 y_8 hI_6 hF_7 hy_8 => ?_))
  · skip
    refine bk_thr (z := Int32.ofInt 1) rfl ⟨_, _, rfl⟩ rfl (bk_inl (q_istore c_296_1178 (Nat.le_of_ble_eq_true rfl) (q_aload_n c_296_1180 rfl (q_aload_n c_296_1181 rfl (q_iload c_296_1182 rfl (q_iconst c_296_1184 (v_iadd (v := (i0 : Int) + 1) c_296_1185 rfl ?_)))))))
    refine v_scr (j := i0 + 1) c_296_1186 (by omega) (by omega) hL hx1 (q_aload_n c_296_1187 rfl (q_iload c_296_1188 rfl (q_iconst c_296_1190 (v_iadd (v := (i0 : Int) + 2) c_296_1191 rfl (v_scr (j := i0 + 2) c_296_1192 (by omega) (by omega) hL hx2 (q_aload_n c_296_1193 rfl (q_iload c_296_1194 rfl ?_)))))))
    refine q_iconst c_296_1196 (v_iadd (v := (i0 : Int) + 3) c_296_1197 rfl (v_scr (j := i0 + 3) c_296_1198 (by omega) (by omega) hL hx3 (v_cv c_296_1199 km_9_206 rfl rfl (Nat.le_of_ble_eq_true rfl) ⟨⟨rfl, rfl⟩, Nat.le_of_ble_eq_true rfl, rfl⟩ (Nat.le_of_ble_eq_true rfl) (Nat.le_of_ble_eq_true rfl) (s_236 (a1 := x1) (a2 := x2) (a3 := x3) hI_3 (show (-2147483648) ≤ x1 ∧ x1 ≤ 2147483647 from ⟨by omega, by omega⟩) (show (-2147483648) ≤ x2 ∧ x2 ≤ 2147483647 from ⟨by omega, by omega⟩) (show (-2147483648) ≤ x3 ∧ x3 ≤ 2147483647 from ⟨by omega, by omega⟩) (fun c_9 y_12 hI_10 hF_11 hy_12 => (bk_inl (q_istore c_296_1202 (Nat.le_of_ble_eq_true rfl) (q_goto (t := 1816) c_296_1204 rfl (Wp_ls [(4, vi (i0 : Int)), (3, .ref 67), (2, .ref 41), (1, .ref 0), (0, .ref a_SC)] (lsub_cons rfl (lsub_cons rfl (lsub_cons rfl (lsub_cons rfl (lsub_cons rfl lsub_nil))))) ?_)))))))))
    have h_13 := ir_1_3 hI
    have kn_14 : Hid (c_2 1 3 = c 1 3) := hF_4 1 3 (fun h => absurd h.1 (nn rfl))
    have kn_15 : Hid (c_9 1 3 = c 1 3) := (hF_11 1 3 (fun q => q.elim (fun h => absurd h.1 (nn rfl)) (fun h => absurd h (nn rfl)))).trans (hid kn_14)
    have h_16 : c_9 1 3 = c 1 3 := (hid kn_15)
    have h_17 := ir_41_2 hI
    have kn_18 : Hid (c_2 41 2 = c 41 2) := hF_4 41 2 (fun h => absurd h.1 (nn rfl))
    have kn_19 : Hid (c_9 41 2 = c 41 2) := (hF_11 41 2 (fun q => q.elim (fun h => absurd h.2 (ni rfl)) (fun h => absurd h (nn rfl)))).trans (hid kn_18)
    have h_20 : c_9 41 2 = c 41 2 := (hid kn_19)
    have kn_21 : Hid (c_2 P 0 = n0) := (hF_4 P 0 (fun h => absurd h.1 (np0 hP rfl))).trans (hn0)
    have kn_22 : Hid (c_9 P 0 = n0) := (hF_11 P 0 (qn_753ab1e1a hP)).trans (hid kn_21)
    have h_23 : c_9 P 0 = n0 := (hid kn_22)
    have kn_24 : Hid (c_2 41 20 = n0) := (hF_4 41 20 (fun h => absurd h.1 (nn rfl))).trans (hm0)
    have kn_25 : Hid (c_9 41 20 = n0) := (hF_11 41 20 (fun q => q.elim (fun h => absurd h.2 (ni rfl)) (fun h => absurd h (nn rfl)))).trans (hid kn_24)
    have h_26 : c_9 41 20 = n0 := (hid kn_25)
    have kn_27 : Hid (c_2 P 1 = n1) := (hF_4 P 1 (fun h => absurd h.1 (np0 hP rfl))).trans (hn1)
    have kn_28 : Hid (c_9 P 1 = n1) := (hF_11 P 1 (qn_753ab1e1a hP)).trans (hid kn_27)
    have h_29 : c_9 P 1 = n1 := (hid kn_28)
    have kn_30 : Hid (c_2 41 21 = n1) := (hF_4 41 21 (fun h => absurd h.1 (nn rfl))).trans (hm1)
    have kn_31 : Hid (c_9 41 21 = n1) := (hF_11 41 21 (fun q => q.elim (fun h => absurd h.2 (ni rfl)) (fun h => absurd h (nn rfl)))).trans (hid kn_30)
    have h_32 : c_9 41 21 = n1 := (hid kn_31)
    have kn_33 : Hid (c_2 P 2 = n2) := (hF_4 P 2 (fun h => absurd h.1 (np0 hP rfl))).trans (hn2)
    have kn_34 : Hid (c_9 P 2 = n2) := (hF_11 P 2 (qn_753ab1e1a hP)).trans (hid kn_33)
    have h_35 : c_9 P 2 = n2 := (hid kn_34)
    have kn_36 : Hid (c_2 41 22 = n2) := (hF_4 41 22 (fun h => absurd h.1 (nn rfl))).trans (hm2)
    have kn_37 : Hid (c_9 41 22 = n2) := (hF_11 41 22 (fun q => q.elim (fun h => absurd h.2 (ni rfl)) (fun h => absurd h (nn rfl)))).trans (hid kn_36)
    have h_38 : c_9 41 22 = n2 := (hid kn_37)
    have kn_39 : Hid (c_2 P 3 = n3) := (hF_4 P 3 (fun h => absurd h.1 (np0 hP rfl))).trans (hn3)
    have kn_40 : Hid (c_9 P 3 = n3) := (hF_11 P 3 (qn_753ab1e1a hP)).trans (hid kn_39)
    have h_41 : c_9 P 3 = n3 := (hid kn_40)
    have kn_42 : Hid (c_2 41 23 = n3) := (hF_4 41 23 (fun h => absurd h.1 (nn rfl))).trans (hm3)
    have kn_43 : Hid (c_9 41 23 = n3) := (hF_11 41 23 (fun q => q.elim (fun h => absurd h.2 (ni rfl)) (fun h => absurd h (nn rfl)))).trans (hid kn_42)
    have h_44 : c_9 41 23 = n3 := (hid kn_43)
    have kn_45 : Hid (c_2 3 4 = c 3 4) := hF_4 3 4 (fun h => absurd h.1 (nn rfl))
    have kn_46 : Hid (c_9 3 4 = c 3 4) := (hF_11 3 4 (fun q => q.elim (fun h => absurd h.1 (nn rfl)) (fun h => absurd h (nn rfl)))).trans (hid kn_45)
    have h_47 : c_9 3 4 = c 3 4 := (hid kn_46)
    have h_48 := ir_41_52 hI
    have kn_49 : Hid (c_2 41 52 = c 41 52) := hF_4 41 52 (fun h => absurd h.1 (nn rfl))
    have kn_50 : Hid (c_9 41 52 = c 41 52) := (hF_11 41 52 (fun q => q.elim (fun h => absurd h.2 (ni rfl)) (fun h => absurd h (nn rfl)))).trans (hid kn_49)
    have h_51 : c_9 41 52 = c 41 52 := (hid kn_50)
    have h_52 := ir_3_3 hI
    have kn_53 : Hid (c_2 3 3 = c 3 3) := hF_4 3 3 (fun h => absurd h.1 (nn rfl))
    have kn_54 : Hid (c_9 3 3 = c 3 3) := (hF_11 3 3 (fun q => q.elim (fun h => absurd h.1 (nn rfl)) (fun h => absurd h (nn rfl)))).trans (hid kn_53)
    have h_55 : c_9 3 3 = c 3 3 := (hid kn_54)
    have h_56 := ir_41_35 hI
    have kn_57 : Hid (c_2 41 35 = c 41 35) := hF_4 41 35 (fun h => absurd h.1 (nn rfl))
    have kn_58 : Hid (c_9 41 35 = c 41 35) := (hF_11 41 35 (fun q => q.elim (fun h => absurd h.2 (ni rfl)) (fun h => absurd h (nn rfl)))).trans (hid kn_57)
    have h_59 : c_9 41 35 = c 41 35 := (hid kn_58)
    have h_60 : c_9 3 4 = c 3 4 := (hid kn_46)
    have h_61 := ir_1_5 hI
    have kn_62 : Hid (c_2 1 5 = c 1 5) := hF_4 1 5 (fun h => absurd h.1 (nn rfl))
    have kn_63 : Hid (c_9 1 5 = c 1 5) := (hF_11 1 5 (fun q => q.elim (fun h => absurd h.1 (nn rfl)) (fun h => absurd h (nn rfl)))).trans (hid kn_62)
    have h_64 : c_9 1 5 = c 1 5 := (hid kn_63)
    have h_65 := ir_41_8 hI
    have kn_66 : Hid (c_2 41 8 = c 41 8) := hF_4 41 8 (fun h => absurd h.1 (nn rfl))
    have kn_67 : Hid (c_9 41 8 = c 41 8) := (hF_11 41 8 (fun q => q.elim (fun h => absurd h.2 (ni rfl)) (fun h => absurd h (nn rfl)))).trans (hid kn_66)
    have h_68 : c_9 41 8 = c 41 8 := (hid kn_67)
    exact K P Q c_9 1 (by decide) hI_10 ⟨by omega, ub_fr hU (fun j => (hF_11 2 j (fun q => q.elim (fun h => absurd h.1 (nn rfl)) (fun h => absurd h (nn rfl)))).trans (hF_4 2 j (fun h => absurd h.1 (nn rfl)))) (fun j => (hF_11 43 j (fun q => q.elim (fun h => absurd h.1 (nn rfl)) (fun h => absurd h (nn rfl)))).trans (hF_4 43 j (fun h => absurd h.1 (nn rfl)))), ⟨by omega, by omega, by omega, by omega⟩, by omega, by omega, iw_fr2 hIw (by omega) (fun j => (hF_11 6 j (fun q => q.elim (fun h => absurd h.1 (nn rfl)) (fun h => absurd h (nn rfl)))).trans (hF_4 6 j (fun h => absurd h.1 (nn rfl)))) (fun j => (hF_11 66 j (fun q => q.elim (fun h => absurd h.1 (nn rfl)) (fun h => absurd h (nn rfl)))).trans (hF_4 66 j (fun h => absurd h.1 (nn rfl)))), by omega⟩
  refine bk_inl (v_i2l c_283_10 (by omega) (v_ls c_283_11 rfl (by decide) (by decide) (by decide) (q_goto (t := 19) c_283_12 rfl (q_iconst c_283_19 (q_iret c_283_20 rfl (bk_inl (q_istore c_296_1178 (Nat.le_of_ble_eq_true rfl) ?_)))))))
  refine q_aload_n c_296_1180 rfl (q_aload_n c_296_1181 rfl (q_iload c_296_1182 rfl (q_iconst c_296_1184 (v_iadd (v := (i0 : Int) + 1) c_296_1185 rfl (v_scr (j := i0 + 1) c_296_1186 (by omega) (by omega) hL hx1 (q_aload_n c_296_1187 rfl (q_iload c_296_1188 rfl ?_)))))))
  refine q_iconst c_296_1190 (v_iadd (v := (i0 : Int) + 2) c_296_1191 rfl (v_scr (j := i0 + 2) c_296_1192 (by omega) (by omega) hL hx2 (q_aload_n c_296_1193 rfl (q_iload c_296_1194 rfl (q_iconst c_296_1196 (v_iadd (v := (i0 : Int) + 3) c_296_1197 rfl (v_scr (j := i0 + 3) c_296_1198 (by omega) (by omega) hL hx3 ?_)))))))
  have hI_69 := iw_lx (a := 67) (j := 0) (v := y_8) hI_6 (by omega)
  refine v_cv c_296_1199 km_9_206 rfl rfl (Nat.le_of_ble_eq_true rfl) ⟨⟨rfl, rfl⟩, Nat.le_of_ble_eq_true rfl, rfl⟩ (Nat.le_of_ble_eq_true rfl) (Nat.le_of_ble_eq_true rfl) (s_236 (a1 := x1) (a2 := x2) (a3 := x3) hI_69 (show (-2147483648) ≤ x1 ∧ x1 ≤ 2147483647 from ⟨by omega, by omega⟩) (show (-2147483648) ≤ x2 ∧ x2 ≤ 2147483647 from ⟨by omega, by omega⟩) (show (-2147483648) ≤ x3 ∧ x3 ≤ 2147483647 from ⟨by omega, by omega⟩) (fun c_70 y_73 hI_71 hF_72 hy_73 => (bk_inl (q_istore c_296_1202 (Nat.le_of_ble_eq_true rfl) (q_goto (t := 1816) c_296_1204 rfl (Wp_ls [(4, vi (i0 : Int)), (3, .ref 67), (2, .ref 41), (1, .ref 0), (0, .ref a_SC)] (lsub_cons rfl (lsub_cons rfl (lsub_cons rfl (lsub_cons rfl (lsub_cons rfl lsub_nil))))) ?_))))))
  have h_74 := ir_1_3 hI
  have kn_75 : Hid (c_5 1 3 = c 1 3) := hF_7 1 3 (fun h => absurd h.1 (nn rfl))
  have kn_76 : Hid (c_70 1 3 = c 1 3) := (hF_72 1 3 (fun q => q.elim (fun h => absurd h.1 (nn rfl)) (fun h => absurd h (nn rfl)))).trans ((up_c (nn rfl)).trans (hid kn_75))
  have h_77 : c_70 1 3 = c 1 3 := (hid kn_76)
  have h_78 := ir_41_2 hI
  have kn_79 : Hid (c_5 41 2 = c 41 2) := hF_7 41 2 (fun h => absurd h.1 (nn rfl))
  have kn_80 : Hid (c_70 41 2 = c 41 2) := (hF_72 41 2 (fun q => q.elim (fun h => absurd h.2 (ni rfl)) (fun h => absurd h (nn rfl)))).trans ((up_c (nn rfl)).trans (hid kn_79))
  have h_81 : c_70 41 2 = c 41 2 := (hid kn_80)
  have kn_82 : Hid (c_5 P 0 = n0) := (hF_7 P 0 (fun h => absurd h.1 (np0 hP rfl))).trans (hn0)
  have kn_83 : Hid (c_70 P 0 = n0) := (hF_72 P 0 (qn_753ab1e1a hP)).trans ((up_c (np0 hP rfl)).trans (hid kn_82))
  have h_84 : c_70 P 0 = n0 := (hid kn_83)
  have kn_85 : Hid (c_5 41 20 = n0) := (hF_7 41 20 (fun h => absurd h.1 (nn rfl))).trans (hm0)
  have kn_86 : Hid (c_70 41 20 = n0) := (hF_72 41 20 (fun q => q.elim (fun h => absurd h.2 (ni rfl)) (fun h => absurd h (nn rfl)))).trans ((up_c (nn rfl)).trans (hid kn_85))
  have h_87 : c_70 41 20 = n0 := (hid kn_86)
  have kn_88 : Hid (c_5 P 1 = n1) := (hF_7 P 1 (fun h => absurd h.1 (np0 hP rfl))).trans (hn1)
  have kn_89 : Hid (c_70 P 1 = n1) := (hF_72 P 1 (qn_753ab1e1a hP)).trans ((up_c (np0 hP rfl)).trans (hid kn_88))
  have h_90 : c_70 P 1 = n1 := (hid kn_89)
  have kn_91 : Hid (c_5 41 21 = n1) := (hF_7 41 21 (fun h => absurd h.1 (nn rfl))).trans (hm1)
  have kn_92 : Hid (c_70 41 21 = n1) := (hF_72 41 21 (fun q => q.elim (fun h => absurd h.2 (ni rfl)) (fun h => absurd h (nn rfl)))).trans ((up_c (nn rfl)).trans (hid kn_91))
  have h_93 : c_70 41 21 = n1 := (hid kn_92)
  have kn_94 : Hid (c_5 P 2 = n2) := (hF_7 P 2 (fun h => absurd h.1 (np0 hP rfl))).trans (hn2)
  have kn_95 : Hid (c_70 P 2 = n2) := (hF_72 P 2 (qn_753ab1e1a hP)).trans ((up_c (np0 hP rfl)).trans (hid kn_94))
  have h_96 : c_70 P 2 = n2 := (hid kn_95)
  have kn_97 : Hid (c_5 41 22 = n2) := (hF_7 41 22 (fun h => absurd h.1 (nn rfl))).trans (hm2)
  have kn_98 : Hid (c_70 41 22 = n2) := (hF_72 41 22 (fun q => q.elim (fun h => absurd h.2 (ni rfl)) (fun h => absurd h (nn rfl)))).trans ((up_c (nn rfl)).trans (hid kn_97))
  have h_99 : c_70 41 22 = n2 := (hid kn_98)
  have kn_100 : Hid (c_5 P 3 = n3) := (hF_7 P 3 (fun h => absurd h.1 (np0 hP rfl))).trans (hn3)
  have kn_101 : Hid (c_70 P 3 = n3) := (hF_72 P 3 (qn_753ab1e1a hP)).trans ((up_c (np0 hP rfl)).trans (hid kn_100))
  have h_102 : c_70 P 3 = n3 := (hid kn_101)
  have kn_103 : Hid (c_5 41 23 = n3) := (hF_7 41 23 (fun h => absurd h.1 (nn rfl))).trans (hm3)
  have kn_104 : Hid (c_70 41 23 = n3) := (hF_72 41 23 (fun q => q.elim (fun h => absurd h.2 (ni rfl)) (fun h => absurd h (nn rfl)))).trans ((up_c (nn rfl)).trans (hid kn_103))
  have h_105 : c_70 41 23 = n3 := (hid kn_104)
  have kn_106 : Hid (c_5 3 4 = c 3 4) := hF_7 3 4 (fun h => absurd h.1 (nn rfl))
  have kn_107 : Hid (c_70 3 4 = c 3 4) := (hF_72 3 4 (fun q => q.elim (fun h => absurd h.1 (nn rfl)) (fun h => absurd h (nn rfl)))).trans ((up_c (nn rfl)).trans (hid kn_106))
  have h_108 : c_70 3 4 = c 3 4 := (hid kn_107)
  have h_109 := ir_41_52 hI
  have kn_110 : Hid (c_5 41 52 = c 41 52) := hF_7 41 52 (fun h => absurd h.1 (nn rfl))
  have kn_111 : Hid (c_70 41 52 = c 41 52) := (hF_72 41 52 (fun q => q.elim (fun h => absurd h.2 (ni rfl)) (fun h => absurd h (nn rfl)))).trans ((up_c (nn rfl)).trans (hid kn_110))
  have h_112 : c_70 41 52 = c 41 52 := (hid kn_111)
  have h_113 := ir_3_3 hI
  have kn_114 : Hid (c_5 3 3 = c 3 3) := hF_7 3 3 (fun h => absurd h.1 (nn rfl))
  have kn_115 : Hid (c_70 3 3 = c 3 3) := (hF_72 3 3 (fun q => q.elim (fun h => absurd h.1 (nn rfl)) (fun h => absurd h (nn rfl)))).trans ((up_c (nn rfl)).trans (hid kn_114))
  have h_116 : c_70 3 3 = c 3 3 := (hid kn_115)
  have h_117 := ir_41_35 hI
  have kn_118 : Hid (c_5 41 35 = c 41 35) := hF_7 41 35 (fun h => absurd h.1 (nn rfl))
  have kn_119 : Hid (c_70 41 35 = c 41 35) := (hF_72 41 35 (fun q => q.elim (fun h => absurd h.2 (ni rfl)) (fun h => absurd h (nn rfl)))).trans ((up_c (nn rfl)).trans (hid kn_118))
  have h_120 : c_70 41 35 = c 41 35 := (hid kn_119)
  have h_121 : c_70 3 4 = c 3 4 := (hid kn_107)
  have h_122 := ir_1_5 hI
  have kn_123 : Hid (c_5 1 5 = c 1 5) := hF_7 1 5 (fun h => absurd h.1 (nn rfl))
  have kn_124 : Hid (c_70 1 5 = c 1 5) := (hF_72 1 5 (fun q => q.elim (fun h => absurd h.1 (nn rfl)) (fun h => absurd h (nn rfl)))).trans ((up_c (nn rfl)).trans (hid kn_123))
  have h_125 : c_70 1 5 = c 1 5 := (hid kn_124)
  have h_126 := ir_41_8 hI
  have kn_127 : Hid (c_5 41 8 = c 41 8) := hF_7 41 8 (fun h => absurd h.1 (nn rfl))
  have kn_128 : Hid (c_70 41 8 = c 41 8) := (hF_72 41 8 (fun q => q.elim (fun h => absurd h.2 (ni rfl)) (fun h => absurd h (nn rfl)))).trans ((up_c (nn rfl)).trans (hid kn_127))
  have h_129 : c_70 41 8 = c 41 8 := (hid kn_128)
  exact K P Q c_70 0 (by decide) hI_71 ⟨by omega, ub_fr hU (fun j => (hF_72 2 j (fun q => q.elim (fun h => absurd h.1 (nn rfl)) (fun h => absurd h (nn rfl)))).trans ((up_c (nn rfl)).trans (hF_7 2 j (fun h => absurd h.1 (nn rfl))))) (fun j => (hF_72 43 j (fun q => q.elim (fun h => absurd h.1 (nn rfl)) (fun h => absurd h (nn rfl)))).trans ((up_c (nn rfl)).trans (hF_7 43 j (fun h => absurd h.1 (nn rfl))))), ⟨by omega, by omega, by omega, by omega⟩, by omega, by omega, iw_fr2 hIw (by omega) (fun j => (hF_72 6 j (fun q => q.elim (fun h => absurd h.1 (nn rfl)) (fun h => absurd h (nn rfl)))).trans ((up_c (nn rfl)).trans (hF_7 6 j (fun h => absurd h.1 (nn rfl))))) (fun j => (hF_72 66 j (fun q => q.elim (fun h => absurd h.1 (nn rfl)) (fun h => absurd h (nn rfl)))).trans ((up_c (nn rfl)).trans (hF_7 66 j (fun h => absurd h.1 (nn rfl))))), by omega⟩

set_option maxRecDepth 100000 in
set_option maxHeartbeats 4000000 in
theorem o_24 {xs : Nat → Int32} {L i0 d nc ns P Q : Nat} {c : ME} {Z : AR → Prop} (hi : i0 + 8 ≤ L) (hL : L ≤ 100000) (hI : Iv 0 (-1) P Q c) (hR : Rq P c) (K : ∀ (P2 Q2 : Nat) (c2 : ME) (e : Nat), e ≤ 1 → Iv 0 (-1) P2 Q2 c2 → (Rq P2 c2) → Wp (a_scr L xs) (d + 90) 296 1816 [(4, vi (i0 : Int)), (3, .ref 67), (2, .ref 41), (1, .ref 0), (0, .ref a_SC)] [] (Wd P2 Q2 P2 P2 c2) (nc + e) (ns + 6 * e) Z) : Wp (a_scr L xs) (d + 90) 296 1207 [(4, vi (i0 : Int)), (3, .ref 67), (2, .ref 41), (1, .ref 0), (0, .ref a_SC)] [] (Wd P Q P P c) nc ns Z := by
  obtain ⟨x1, hx1⟩ : ∃ z, (xs (i0 + 1)).toInt = z := ⟨_, rfl⟩
  have x1r := c_rng (xs (i0 + 1))
  rw [hx1] at x1r
  obtain ⟨x2, hx2⟩ : ∃ z, (xs (i0 + 2)).toInt = z := ⟨_, rfl⟩
  have x2r := c_rng (xs (i0 + 2))
  rw [hx2] at x2r
  obtain ⟨x3, hx3⟩ : ∃ z, (xs (i0 + 3)).toInt = z := ⟨_, rfl⟩
  have x3r := c_rng (xs (i0 + 3))
  rw [hx3] at x3r
  obtain ⟨x4, hx4⟩ : ∃ z, (xs (i0 + 4)).toInt = z := ⟨_, rfl⟩
  have x4r := c_rng (xs (i0 + 4))
  rw [hx4] at x4r
  obtain ⟨x5, hx5⟩ : ∃ z, (xs (i0 + 5)).toInt = z := ⟨_, rfl⟩
  have x5r := c_rng (xs (i0 + 5))
  rw [hx5] at x5r
  obtain ⟨x6, hx6⟩ : ∃ z, (xs (i0 + 6)).toInt = z := ⟨_, rfl⟩
  have x6r := c_rng (xs (i0 + 6))
  rw [hx6] at x6r
  obtain ⟨x7, hx7⟩ : ∃ z, (xs (i0 + 7)).toInt = z := ⟨_, rfl⟩
  have x7r := c_rng (xs (i0 + 7))
  rw [hx7] at x7r
  have hP := iv_P hI
  have hQ := iv_Q hI
  have hT := rl_t hR
  have hU := rl_u hR
  obtain ⟨n0, hn0⟩ : ∃ z, c P 0 = z := ⟨_, rfl⟩
  have hm0 : c 41 20 = n0 := (rl_nums hR).1.symm.trans hn0
  have hr0 := ir_p0_0 hI hP
  rw [hn0] at hr0
  obtain ⟨n1, hn1⟩ : ∃ z, c P 1 = z := ⟨_, rfl⟩
  have hm1 : c 41 21 = n1 := (rl_nums hR).2.1.symm.trans hn1
  have hr1 := ir_p0_1 hI hP
  rw [hn1] at hr1
  obtain ⟨n2, hn2⟩ : ∃ z, c P 2 = z := ⟨_, rfl⟩
  have hm2 : c 41 22 = n2 := (rl_nums hR).2.2.1.symm.trans hn2
  have hr2 := ir_p0_2 hI hP
  rw [hn2] at hr2
  obtain ⟨n3, hn3⟩ : ∃ z, c P 3 = z := ⟨_, rfl⟩
  have hm3 : c 41 23 = n3 := (rl_nums hR).2.2.2.symm.trans hn3
  have hr3 := ir_p0_3 hI hP
  rw [hn3] at hr3
  have hNimg := rl_img hR
  have hNwk := rl_wk hR
  have h_1 := ir_3_4 hI
  have hIw := rl_iw hR
  have hNplace := rl_place hR
  refine q_aload_n c_296_1207 rfl (q_aload_n c_296_1208 rfl (q_iload c_296_1209 rfl (q_iconst c_296_1211 (v_iadd (v := (i0 : Int) + 1) c_296_1212 rfl (v_scr (j := i0 + 1) c_296_1213 (by omega) (by omega) hL hx1 (q_aload_n c_296_1214 rfl (q_iload c_296_1215 rfl ?_)))))))
  refine q_iconst c_296_1217 (v_iadd (v := (i0 : Int) + 2) c_296_1218 rfl (v_scr (j := i0 + 2) c_296_1219 (by omega) (by omega) hL hx2 (q_aload_n c_296_1220 rfl (q_iload c_296_1221 rfl (q_iconst c_296_1223 (v_iadd (v := (i0 : Int) + 3) c_296_1224 rfl (v_scr (j := i0 + 3) c_296_1225 (by omega) (by omega) hL hx3 ?_)))))))
  refine q_aload_n c_296_1226 rfl (q_call c_296_1227 rfl rfl rfl (q_aload c_284_0 rfl (q_iconst c_284_2 (q_aload_n c_284_3 rfl (q_iload_n c_284_4 rfl (q_iload_n c_284_5 rfl (q_iload_n c_284_6 rfl ?_)))))))
  refine v_cv c_284_7 km_9_81 rfl rfl (Nat.le_of_ble_eq_true rfl) ⟨⟨rfl, rfl⟩, Nat.le_of_ble_eq_true rfl, rfl⟩ (Nat.le_of_ble_eq_true rfl) (Nat.le_of_ble_eq_true rfl) (s_125 (a1 := x1) (a2 := x2) (a3 := x3) hI (show (-2147483648) ≤ x1 ∧ x1 ≤ 2147483647 from ⟨by omega, by omega⟩) (show (-2147483648) ≤ x2 ∧ x2 ≤ 2147483647 from ⟨by omega, by omega⟩) (show (-2147483648) ≤ x3 ∧ x3 ≤ 2147483647 from ⟨by omega, by omega⟩) (fun c_2 hI_3 hF_4 => ?_) (fun c_5 hI_6 hF_7 => ?_) (fun c_8 y_11 hI_9 hF_10 hy_11 => ?_))
  · skip
    refine bk_thr (z := Int32.ofInt 1) rfl ⟨_, _, rfl⟩ rfl (bk_inl (q_istore c_296_1230 (Nat.le_of_ble_eq_true rfl) (q_aload_n c_296_1232 rfl (q_aload_n c_296_1233 rfl (q_iload c_296_1234 rfl (q_iconst c_296_1236 (v_iadd (v := (i0 : Int) + 1) c_296_1237 rfl ?_)))))))
    refine v_scr (j := i0 + 1) c_296_1238 (by omega) (by omega) hL hx1 (q_aload_n c_296_1239 rfl (q_iload c_296_1240 rfl (q_iconst c_296_1242 (v_iadd (v := (i0 : Int) + 2) c_296_1243 rfl (v_scr (j := i0 + 2) c_296_1244 (by omega) (by omega) hL hx2 (q_aload_n c_296_1245 rfl (q_iload c_296_1246 rfl ?_)))))))
    refine q_iconst c_296_1248 (v_iadd (v := (i0 : Int) + 3) c_296_1249 rfl (v_scr (j := i0 + 3) c_296_1250 (by omega) (by omega) hL hx3 (v_cv c_296_1251 km_9_209 rfl rfl (Nat.le_of_ble_eq_true rfl) ⟨⟨rfl, rfl⟩, Nat.le_of_ble_eq_true rfl, rfl⟩ (Nat.le_of_ble_eq_true rfl) (Nat.le_of_ble_eq_true rfl) (s_239 (a1 := x1) (a2 := x2) (a3 := x3) hI_3 (show (-2147483648) ≤ x1 ∧ x1 ≤ 2147483647 from ⟨by omega, by omega⟩) (show (-2147483648) ≤ x2 ∧ x2 ≤ 2147483647 from ⟨by omega, by omega⟩) (show (-2147483648) ≤ x3 ∧ x3 ≤ 2147483647 from ⟨by omega, by omega⟩) (fun c_12 y_15 hI_13 hF_14 hy_15 => (bk_inl (q_istore c_296_1254 (Nat.le_of_ble_eq_true rfl) (q_goto (t := 1816) c_296_1256 rfl (Wp_ls [(4, vi (i0 : Int)), (3, .ref 67), (2, .ref 41), (1, .ref 0), (0, .ref a_SC)] (lsub_cons rfl (lsub_cons rfl (lsub_cons rfl (lsub_cons rfl (lsub_cons rfl lsub_nil))))) ?_)))))))))
    have h_16 := ir_1_3 hI
    have kn_17 : Hid (c_2 1 3 = c 1 3) := hF_4 1 3 (fun q => q.elim (fun h => absurd h.1 (nn rfl)) (fun h => absurd h.1 (nn rfl)))
    have kn_18 : Hid (c_12 1 3 = c 1 3) := (hF_14 1 3 qn_39cd18c3e).trans (hid kn_17)
    have h_19 : c_12 1 3 = c 1 3 := (hid kn_18)
    have h_20 := ir_41_2 hI
    have kn_21 : Hid (c_2 41 2 = c 41 2) := hF_4 41 2 (fun q => q.elim (fun h => absurd h.1 (nn rfl)) (fun h => absurd h.1 (nn rfl)))
    have kn_22 : Hid (c_12 41 2 = c 41 2) := (hF_14 41 2 qn_53bdb2099).trans (hid kn_21)
    have h_23 : c_12 41 2 = c 41 2 := (hid kn_22)
    have kn_24 : Hid (c_2 P 0 = n0) := (hF_4 P 0 (qn_7ba88e57e hP)).trans (hn0)
    have kn_25 : Hid (c_12 P 0 = n0) := (hF_14 P 0 (qn_857752076 hP)).trans (hid kn_24)
    have h_26 : c_12 P 0 = n0 := (hid kn_25)
    have kn_27 : Hid (c_2 41 20 = n0) := (hF_4 41 20 (fun q => q.elim (fun h => absurd h.1 (nn rfl)) (fun h => absurd h.1 (nn rfl)))).trans (hm0)
    have kn_28 : Hid (c_12 41 20 = n0) := (hF_14 41 20 qn_110b29ed6).trans (hid kn_27)
    have h_29 : c_12 41 20 = n0 := (hid kn_28)
    have kn_30 : Hid (c_2 P 1 = n1) := (hF_4 P 1 (qn_7ba88e57e hP)).trans (hn1)
    have kn_31 : Hid (c_12 P 1 = n1) := (hF_14 P 1 (qn_857752076 hP)).trans (hid kn_30)
    have h_32 : c_12 P 1 = n1 := (hid kn_31)
    have kn_33 : Hid (c_2 41 21 = n1) := (hF_4 41 21 (fun q => q.elim (fun h => absurd h.1 (nn rfl)) (fun h => absurd h.1 (nn rfl)))).trans (hm1)
    have kn_34 : Hid (c_12 41 21 = n1) := (hF_14 41 21 qn_561064c41).trans (hid kn_33)
    have h_35 : c_12 41 21 = n1 := (hid kn_34)
    have kn_36 : Hid (c_2 P 2 = n2) := (hF_4 P 2 (qn_7ba88e57e hP)).trans (hn2)
    have kn_37 : Hid (c_12 P 2 = n2) := (hF_14 P 2 (qn_857752076 hP)).trans (hid kn_36)
    have h_38 : c_12 P 2 = n2 := (hid kn_37)
    have kn_39 : Hid (c_2 41 22 = n2) := (hF_4 41 22 (fun q => q.elim (fun h => absurd h.1 (nn rfl)) (fun h => absurd h.1 (nn rfl)))).trans (hm2)
    have kn_40 : Hid (c_12 41 22 = n2) := (hF_14 41 22 qn_1a460b46b).trans (hid kn_39)
    have h_41 : c_12 41 22 = n2 := (hid kn_40)
    have kn_42 : Hid (c_2 P 3 = n3) := (hF_4 P 3 (qn_7ba88e57e hP)).trans (hn3)
    have kn_43 : Hid (c_12 P 3 = n3) := (hF_14 P 3 (qn_857752076 hP)).trans (hid kn_42)
    have h_44 : c_12 P 3 = n3 := (hid kn_43)
    have kn_45 : Hid (c_2 41 23 = n3) := (hF_4 41 23 (fun q => q.elim (fun h => absurd h.1 (nn rfl)) (fun h => absurd h.1 (nn rfl)))).trans (hm3)
    have kn_46 : Hid (c_12 41 23 = n3) := (hF_14 41 23 qn_b79f282cd).trans (hid kn_45)
    have h_47 : c_12 41 23 = n3 := (hid kn_46)
    have kn_48 : Hid (c_2 3 4 = c 3 4) := hF_4 3 4 (fun q => q.elim (fun h => absurd h.1 (nn rfl)) (fun h => absurd h.1 (nn rfl)))
    have kn_49 : Hid (c_12 3 4 = c 3 4) := (hF_14 3 4 qn_bf2303cc8).trans (hid kn_48)
    have h_50 : c_12 3 4 = c 3 4 := (hid kn_49)
    have h_51 := ir_41_52 hI
    have kn_52 : Hid (c_2 41 52 = c 41 52) := hF_4 41 52 (fun q => q.elim (fun h => absurd h.1 (nn rfl)) (fun h => absurd h.1 (nn rfl)))
    have kn_53 : Hid (c_12 41 52 = c 41 52) := (hF_14 41 52 qn_90835161a).trans (hid kn_52)
    have h_54 : c_12 41 52 = c 41 52 := (hid kn_53)
    have h_55 := ir_3_3 hI
    have kn_56 : Hid (c_2 3 3 = c 3 3) := hF_4 3 3 (fun q => q.elim (fun h => absurd h.1 (nn rfl)) (fun h => absurd h.1 (nn rfl)))
    have kn_57 : Hid (c_12 3 3 = c 3 3) := (hF_14 3 3 qn_bf2303cc8).trans (hid kn_56)
    have h_58 : c_12 3 3 = c 3 3 := (hid kn_57)
    have h_59 := ir_41_35 hI
    have kn_60 : Hid (c_2 41 35 = c 41 35) := hF_4 41 35 (fun q => q.elim (fun h => absurd h.1 (nn rfl)) (fun h => absurd h.1 (nn rfl)))
    have kn_61 : Hid (c_12 41 35 = c 41 35) := (hF_14 41 35 qn_732a91ea5).trans (hid kn_60)
    have h_62 : c_12 41 35 = c 41 35 := (hid kn_61)
    have h_63 : c_12 3 4 = c 3 4 := (hid kn_49)
    have h_64 := ir_1_5 hI
    have kn_65 : Hid (c_2 1 5 = c 1 5) := hF_4 1 5 (fun q => q.elim (fun h => absurd h.1 (nn rfl)) (fun h => absurd h.1 (nn rfl)))
    have kn_66 : Hid (c_12 1 5 = c 1 5) := (hF_14 1 5 qn_39cd18c3e).trans (hid kn_65)
    have h_67 : c_12 1 5 = c 1 5 := (hid kn_66)
    have h_68 := ir_41_8 hI
    have kn_69 : Hid (c_2 41 8 = c 41 8) := hF_4 41 8 (fun q => q.elim (fun h => absurd h.1 (nn rfl)) (fun h => absurd h.1 (nn rfl)))
    have kn_70 : Hid (c_12 41 8 = c 41 8) := (hF_14 41 8 qn_b601a9968).trans (hid kn_69)
    have h_71 : c_12 41 8 = c 41 8 := (hid kn_70)
    exact K P Q c_12 1 (by decide) hI_13 ⟨by omega, ub_fr hU (fun j => (hF_14 2 j qn_2ad67e194).trans (hF_4 2 j (fun q => q.elim (fun h => absurd h.1 (nn rfl)) (fun h => absurd h.1 (nn rfl))))) (fun j => (hF_14 43 j qn_1520ff5e3).trans (hF_4 43 j (fun q => q.elim (fun h => absurd h.1 (nn rfl)) (fun h => absurd h.1 (nn rfl))))), ⟨by omega, by omega, by omega, by omega⟩, by omega, by omega, iw_fr2 hIw (by omega) (fun j => (hF_14 6 j qn_e1050858a).trans (hF_4 6 j (fun q => q.elim (fun h => absurd h.1 (nn rfl)) (fun h => absurd h.1 (nn rfl))))) (fun j => (hF_14 66 j qn_5616dd9ce).trans (hF_4 66 j (fun q => q.elim (fun h => absurd h.1 (nn rfl)) (fun h => absurd h.1 (nn rfl))))), by omega⟩
  · skip
    refine bk_thr (z := Int32.ofInt 2) rfl ⟨_, _, rfl⟩ rfl (bk_inl (q_istore c_296_1230 (Nat.le_of_ble_eq_true rfl) (q_aload_n c_296_1232 rfl (q_aload_n c_296_1233 rfl (q_iload c_296_1234 rfl (q_iconst c_296_1236 (v_iadd (v := (i0 : Int) + 1) c_296_1237 rfl ?_)))))))
    refine v_scr (j := i0 + 1) c_296_1238 (by omega) (by omega) hL hx1 (q_aload_n c_296_1239 rfl (q_iload c_296_1240 rfl (q_iconst c_296_1242 (v_iadd (v := (i0 : Int) + 2) c_296_1243 rfl (v_scr (j := i0 + 2) c_296_1244 (by omega) (by omega) hL hx2 (q_aload_n c_296_1245 rfl (q_iload c_296_1246 rfl ?_)))))))
    refine q_iconst c_296_1248 (v_iadd (v := (i0 : Int) + 3) c_296_1249 rfl (v_scr (j := i0 + 3) c_296_1250 (by omega) (by omega) hL hx3 (v_cv c_296_1251 km_9_209 rfl rfl (Nat.le_of_ble_eq_true rfl) ⟨⟨rfl, rfl⟩, Nat.le_of_ble_eq_true rfl, rfl⟩ (Nat.le_of_ble_eq_true rfl) (Nat.le_of_ble_eq_true rfl) (s_239 (a1 := x1) (a2 := x2) (a3 := x3) hI_6 (show (-2147483648) ≤ x1 ∧ x1 ≤ 2147483647 from ⟨by omega, by omega⟩) (show (-2147483648) ≤ x2 ∧ x2 ≤ 2147483647 from ⟨by omega, by omega⟩) (show (-2147483648) ≤ x3 ∧ x3 ≤ 2147483647 from ⟨by omega, by omega⟩) (fun c_72 y_75 hI_73 hF_74 hy_75 => (bk_inl (q_istore c_296_1254 (Nat.le_of_ble_eq_true rfl) (q_goto (t := 1816) c_296_1256 rfl (Wp_ls [(4, vi (i0 : Int)), (3, .ref 67), (2, .ref 41), (1, .ref 0), (0, .ref a_SC)] (lsub_cons rfl (lsub_cons rfl (lsub_cons rfl (lsub_cons rfl (lsub_cons rfl lsub_nil))))) ?_)))))))))
    have h_76 := ir_1_3 hI
    have kn_77 : Hid (c_5 1 3 = c 1 3) := hF_7 1 3 (fun q => q.elim (fun h => absurd h.1 (nn rfl)) (fun h => absurd h.1 (nn rfl)))
    have kn_78 : Hid (c_72 1 3 = c 1 3) := (hF_74 1 3 qn_39cd18c3e).trans (hid kn_77)
    have h_79 : c_72 1 3 = c 1 3 := (hid kn_78)
    have h_80 := ir_41_2 hI
    have kn_81 : Hid (c_5 41 2 = c 41 2) := hF_7 41 2 (fun q => q.elim (fun h => absurd h.1 (nn rfl)) (fun h => absurd h.1 (nn rfl)))
    have kn_82 : Hid (c_72 41 2 = c 41 2) := (hF_74 41 2 qn_53bdb2099).trans (hid kn_81)
    have h_83 : c_72 41 2 = c 41 2 := (hid kn_82)
    have kn_84 : Hid (c_5 P 0 = n0) := (hF_7 P 0 (qn_7ba88e57e hP)).trans (hn0)
    have kn_85 : Hid (c_72 P 0 = n0) := (hF_74 P 0 (qn_857752076 hP)).trans (hid kn_84)
    have h_86 : c_72 P 0 = n0 := (hid kn_85)
    have kn_87 : Hid (c_5 41 20 = n0) := (hF_7 41 20 (fun q => q.elim (fun h => absurd h.1 (nn rfl)) (fun h => absurd h.1 (nn rfl)))).trans (hm0)
    have kn_88 : Hid (c_72 41 20 = n0) := (hF_74 41 20 qn_110b29ed6).trans (hid kn_87)
    have h_89 : c_72 41 20 = n0 := (hid kn_88)
    have kn_90 : Hid (c_5 P 1 = n1) := (hF_7 P 1 (qn_7ba88e57e hP)).trans (hn1)
    have kn_91 : Hid (c_72 P 1 = n1) := (hF_74 P 1 (qn_857752076 hP)).trans (hid kn_90)
    have h_92 : c_72 P 1 = n1 := (hid kn_91)
    have kn_93 : Hid (c_5 41 21 = n1) := (hF_7 41 21 (fun q => q.elim (fun h => absurd h.1 (nn rfl)) (fun h => absurd h.1 (nn rfl)))).trans (hm1)
    have kn_94 : Hid (c_72 41 21 = n1) := (hF_74 41 21 qn_561064c41).trans (hid kn_93)
    have h_95 : c_72 41 21 = n1 := (hid kn_94)
    have kn_96 : Hid (c_5 P 2 = n2) := (hF_7 P 2 (qn_7ba88e57e hP)).trans (hn2)
    have kn_97 : Hid (c_72 P 2 = n2) := (hF_74 P 2 (qn_857752076 hP)).trans (hid kn_96)
    have h_98 : c_72 P 2 = n2 := (hid kn_97)
    have kn_99 : Hid (c_5 41 22 = n2) := (hF_7 41 22 (fun q => q.elim (fun h => absurd h.1 (nn rfl)) (fun h => absurd h.1 (nn rfl)))).trans (hm2)
    have kn_100 : Hid (c_72 41 22 = n2) := (hF_74 41 22 qn_1a460b46b).trans (hid kn_99)
    have h_101 : c_72 41 22 = n2 := (hid kn_100)
    have kn_102 : Hid (c_5 P 3 = n3) := (hF_7 P 3 (qn_7ba88e57e hP)).trans (hn3)
    have kn_103 : Hid (c_72 P 3 = n3) := (hF_74 P 3 (qn_857752076 hP)).trans (hid kn_102)
    have h_104 : c_72 P 3 = n3 := (hid kn_103)
    have kn_105 : Hid (c_5 41 23 = n3) := (hF_7 41 23 (fun q => q.elim (fun h => absurd h.1 (nn rfl)) (fun h => absurd h.1 (nn rfl)))).trans (hm3)
    have kn_106 : Hid (c_72 41 23 = n3) := (hF_74 41 23 qn_b79f282cd).trans (hid kn_105)
    have h_107 : c_72 41 23 = n3 := (hid kn_106)
    have kn_108 : Hid (c_5 3 4 = c 3 4) := hF_7 3 4 (fun q => q.elim (fun h => absurd h.1 (nn rfl)) (fun h => absurd h.1 (nn rfl)))
    have kn_109 : Hid (c_72 3 4 = c 3 4) := (hF_74 3 4 qn_bf2303cc8).trans (hid kn_108)
    have h_110 : c_72 3 4 = c 3 4 := (hid kn_109)
    have h_111 := ir_41_52 hI
    have kn_112 : Hid (c_5 41 52 = c 41 52) := hF_7 41 52 (fun q => q.elim (fun h => absurd h.1 (nn rfl)) (fun h => absurd h.1 (nn rfl)))
    have kn_113 : Hid (c_72 41 52 = c 41 52) := (hF_74 41 52 qn_90835161a).trans (hid kn_112)
    have h_114 : c_72 41 52 = c 41 52 := (hid kn_113)
    have h_115 := ir_3_3 hI
    have kn_116 : Hid (c_5 3 3 = c 3 3) := hF_7 3 3 (fun q => q.elim (fun h => absurd h.1 (nn rfl)) (fun h => absurd h.1 (nn rfl)))
    have kn_117 : Hid (c_72 3 3 = c 3 3) := (hF_74 3 3 qn_bf2303cc8).trans (hid kn_116)
    have h_118 : c_72 3 3 = c 3 3 := (hid kn_117)
    have h_119 := ir_41_35 hI
    have kn_120 : Hid (c_5 41 35 = c 41 35) := hF_7 41 35 (fun q => q.elim (fun h => absurd h.1 (nn rfl)) (fun h => absurd h.1 (nn rfl)))
    have kn_121 : Hid (c_72 41 35 = c 41 35) := (hF_74 41 35 qn_732a91ea5).trans (hid kn_120)
    have h_122 : c_72 41 35 = c 41 35 := (hid kn_121)
    have h_123 : c_72 3 4 = c 3 4 := (hid kn_109)
    have h_124 := ir_1_5 hI
    have kn_125 : Hid (c_5 1 5 = c 1 5) := hF_7 1 5 (fun q => q.elim (fun h => absurd h.1 (nn rfl)) (fun h => absurd h.1 (nn rfl)))
    have kn_126 : Hid (c_72 1 5 = c 1 5) := (hF_74 1 5 qn_39cd18c3e).trans (hid kn_125)
    have h_127 : c_72 1 5 = c 1 5 := (hid kn_126)
    have h_128 := ir_41_8 hI
    have kn_129 : Hid (c_5 41 8 = c 41 8) := hF_7 41 8 (fun q => q.elim (fun h => absurd h.1 (nn rfl)) (fun h => absurd h.1 (nn rfl)))
    have kn_130 : Hid (c_72 41 8 = c 41 8) := (hF_74 41 8 qn_b601a9968).trans (hid kn_129)
    have h_131 : c_72 41 8 = c 41 8 := (hid kn_130)
    exact K P Q c_72 1 (by decide) hI_73 ⟨by omega, ub_fr hU (fun j => (hF_74 2 j qn_2ad67e194).trans (hF_7 2 j (fun q => q.elim (fun h => absurd h.1 (nn rfl)) (fun h => absurd h.1 (nn rfl))))) (fun j => (hF_74 43 j qn_1520ff5e3).trans (hF_7 43 j (fun q => q.elim (fun h => absurd h.1 (nn rfl)) (fun h => absurd h.1 (nn rfl))))), ⟨by omega, by omega, by omega, by omega⟩, by omega, by omega, iw_fr2 hIw (by omega) (fun j => (hF_74 6 j qn_e1050858a).trans (hF_7 6 j (fun q => q.elim (fun h => absurd h.1 (nn rfl)) (fun h => absurd h.1 (nn rfl))))) (fun j => (hF_74 66 j qn_5616dd9ce).trans (hF_7 66 j (fun q => q.elim (fun h => absurd h.1 (nn rfl)) (fun h => absurd h.1 (nn rfl))))), by omega⟩
  refine bk_inl (v_i2l c_284_10 (by omega) (v_ls c_284_11 rfl (by decide) (by decide) (by decide) (q_goto (t := 23) c_284_12 rfl (q_iconst c_284_23 (q_iret c_284_24 rfl (bk_inl (q_istore c_296_1230 (Nat.le_of_ble_eq_true rfl) ?_)))))))
  refine q_aload_n c_296_1232 rfl (q_aload_n c_296_1233 rfl (q_iload c_296_1234 rfl (q_iconst c_296_1236 (v_iadd (v := (i0 : Int) + 1) c_296_1237 rfl (v_scr (j := i0 + 1) c_296_1238 (by omega) (by omega) hL hx1 (q_aload_n c_296_1239 rfl (q_iload c_296_1240 rfl ?_)))))))
  refine q_iconst c_296_1242 (v_iadd (v := (i0 : Int) + 2) c_296_1243 rfl (v_scr (j := i0 + 2) c_296_1244 (by omega) (by omega) hL hx2 (q_aload_n c_296_1245 rfl (q_iload c_296_1246 rfl (q_iconst c_296_1248 (v_iadd (v := (i0 : Int) + 3) c_296_1249 rfl (v_scr (j := i0 + 3) c_296_1250 (by omega) (by omega) hL hx3 ?_)))))))
  have hI_132 := iw_lx (a := 67) (j := 0) (v := y_11) hI_9 (by omega)
  refine v_cv c_296_1251 km_9_209 rfl rfl (Nat.le_of_ble_eq_true rfl) ⟨⟨rfl, rfl⟩, Nat.le_of_ble_eq_true rfl, rfl⟩ (Nat.le_of_ble_eq_true rfl) (Nat.le_of_ble_eq_true rfl) (s_239 (a1 := x1) (a2 := x2) (a3 := x3) hI_132 (show (-2147483648) ≤ x1 ∧ x1 ≤ 2147483647 from ⟨by omega, by omega⟩) (show (-2147483648) ≤ x2 ∧ x2 ≤ 2147483647 from ⟨by omega, by omega⟩) (show (-2147483648) ≤ x3 ∧ x3 ≤ 2147483647 from ⟨by omega, by omega⟩) (fun c_133 y_136 hI_134 hF_135 hy_136 => (bk_inl (q_istore c_296_1254 (Nat.le_of_ble_eq_true rfl) (q_goto (t := 1816) c_296_1256 rfl (Wp_ls [(4, vi (i0 : Int)), (3, .ref 67), (2, .ref 41), (1, .ref 0), (0, .ref a_SC)] (lsub_cons rfl (lsub_cons rfl (lsub_cons rfl (lsub_cons rfl (lsub_cons rfl lsub_nil))))) ?_))))))
  have h_137 := ir_1_3 hI
  have kn_138 : Hid (c_8 1 3 = c 1 3) := hF_10 1 3 (fun q => q.elim (fun h => absurd h.1 (nn rfl)) (fun h => absurd h.1 (nn rfl)))
  have kn_139 : Hid (c_133 1 3 = c 1 3) := (hF_135 1 3 qn_39cd18c3e).trans ((up_c (nn rfl)).trans (hid kn_138))
  have h_140 : c_133 1 3 = c 1 3 := (hid kn_139)
  have h_141 := ir_41_2 hI
  have kn_142 : Hid (c_8 41 2 = c 41 2) := hF_10 41 2 (fun q => q.elim (fun h => absurd h.1 (nn rfl)) (fun h => absurd h.1 (nn rfl)))
  have kn_143 : Hid (c_133 41 2 = c 41 2) := (hF_135 41 2 qn_53bdb2099).trans ((up_c (nn rfl)).trans (hid kn_142))
  have h_144 : c_133 41 2 = c 41 2 := (hid kn_143)
  have kn_145 : Hid (c_8 P 0 = n0) := (hF_10 P 0 (qn_7ba88e57e hP)).trans (hn0)
  have kn_146 : Hid (c_133 P 0 = n0) := (hF_135 P 0 (qn_857752076 hP)).trans ((up_c (np0 hP rfl)).trans (hid kn_145))
  have h_147 : c_133 P 0 = n0 := (hid kn_146)
  have kn_148 : Hid (c_8 41 20 = n0) := (hF_10 41 20 (fun q => q.elim (fun h => absurd h.1 (nn rfl)) (fun h => absurd h.1 (nn rfl)))).trans (hm0)
  have kn_149 : Hid (c_133 41 20 = n0) := (hF_135 41 20 qn_110b29ed6).trans ((up_c (nn rfl)).trans (hid kn_148))
  have h_150 : c_133 41 20 = n0 := (hid kn_149)
  have kn_151 : Hid (c_8 P 1 = n1) := (hF_10 P 1 (qn_7ba88e57e hP)).trans (hn1)
  have kn_152 : Hid (c_133 P 1 = n1) := (hF_135 P 1 (qn_857752076 hP)).trans ((up_c (np0 hP rfl)).trans (hid kn_151))
  have h_153 : c_133 P 1 = n1 := (hid kn_152)
  have kn_154 : Hid (c_8 41 21 = n1) := (hF_10 41 21 (fun q => q.elim (fun h => absurd h.1 (nn rfl)) (fun h => absurd h.1 (nn rfl)))).trans (hm1)
  have kn_155 : Hid (c_133 41 21 = n1) := (hF_135 41 21 qn_561064c41).trans ((up_c (nn rfl)).trans (hid kn_154))
  have h_156 : c_133 41 21 = n1 := (hid kn_155)
  have kn_157 : Hid (c_8 P 2 = n2) := (hF_10 P 2 (qn_7ba88e57e hP)).trans (hn2)
  have kn_158 : Hid (c_133 P 2 = n2) := (hF_135 P 2 (qn_857752076 hP)).trans ((up_c (np0 hP rfl)).trans (hid kn_157))
  have h_159 : c_133 P 2 = n2 := (hid kn_158)
  have kn_160 : Hid (c_8 41 22 = n2) := (hF_10 41 22 (fun q => q.elim (fun h => absurd h.1 (nn rfl)) (fun h => absurd h.1 (nn rfl)))).trans (hm2)
  have kn_161 : Hid (c_133 41 22 = n2) := (hF_135 41 22 qn_1a460b46b).trans ((up_c (nn rfl)).trans (hid kn_160))
  have h_162 : c_133 41 22 = n2 := (hid kn_161)
  have kn_163 : Hid (c_8 P 3 = n3) := (hF_10 P 3 (qn_7ba88e57e hP)).trans (hn3)
  have kn_164 : Hid (c_133 P 3 = n3) := (hF_135 P 3 (qn_857752076 hP)).trans ((up_c (np0 hP rfl)).trans (hid kn_163))
  have h_165 : c_133 P 3 = n3 := (hid kn_164)
  have kn_166 : Hid (c_8 41 23 = n3) := (hF_10 41 23 (fun q => q.elim (fun h => absurd h.1 (nn rfl)) (fun h => absurd h.1 (nn rfl)))).trans (hm3)
  have kn_167 : Hid (c_133 41 23 = n3) := (hF_135 41 23 qn_b79f282cd).trans ((up_c (nn rfl)).trans (hid kn_166))
  have h_168 : c_133 41 23 = n3 := (hid kn_167)
  have kn_169 : Hid (c_8 3 4 = c 3 4) := hF_10 3 4 (fun q => q.elim (fun h => absurd h.1 (nn rfl)) (fun h => absurd h.1 (nn rfl)))
  have kn_170 : Hid (c_133 3 4 = c 3 4) := (hF_135 3 4 qn_bf2303cc8).trans ((up_c (nn rfl)).trans (hid kn_169))
  have h_171 : c_133 3 4 = c 3 4 := (hid kn_170)
  have h_172 := ir_41_52 hI
  have kn_173 : Hid (c_8 41 52 = c 41 52) := hF_10 41 52 (fun q => q.elim (fun h => absurd h.1 (nn rfl)) (fun h => absurd h.1 (nn rfl)))
  have kn_174 : Hid (c_133 41 52 = c 41 52) := (hF_135 41 52 qn_90835161a).trans ((up_c (nn rfl)).trans (hid kn_173))
  have h_175 : c_133 41 52 = c 41 52 := (hid kn_174)
  have h_176 := ir_3_3 hI
  have kn_177 : Hid (c_8 3 3 = c 3 3) := hF_10 3 3 (fun q => q.elim (fun h => absurd h.1 (nn rfl)) (fun h => absurd h.1 (nn rfl)))
  have kn_178 : Hid (c_133 3 3 = c 3 3) := (hF_135 3 3 qn_bf2303cc8).trans ((up_c (nn rfl)).trans (hid kn_177))
  have h_179 : c_133 3 3 = c 3 3 := (hid kn_178)
  have h_180 := ir_41_35 hI
  have kn_181 : Hid (c_8 41 35 = c 41 35) := hF_10 41 35 (fun q => q.elim (fun h => absurd h.1 (nn rfl)) (fun h => absurd h.1 (nn rfl)))
  have kn_182 : Hid (c_133 41 35 = c 41 35) := (hF_135 41 35 qn_732a91ea5).trans ((up_c (nn rfl)).trans (hid kn_181))
  have h_183 : c_133 41 35 = c 41 35 := (hid kn_182)
  have h_184 : c_133 3 4 = c 3 4 := (hid kn_170)
  have h_185 := ir_1_5 hI
  have kn_186 : Hid (c_8 1 5 = c 1 5) := hF_10 1 5 (fun q => q.elim (fun h => absurd h.1 (nn rfl)) (fun h => absurd h.1 (nn rfl)))
  have kn_187 : Hid (c_133 1 5 = c 1 5) := (hF_135 1 5 qn_39cd18c3e).trans ((up_c (nn rfl)).trans (hid kn_186))
  have h_188 : c_133 1 5 = c 1 5 := (hid kn_187)
  have h_189 := ir_41_8 hI
  have kn_190 : Hid (c_8 41 8 = c 41 8) := hF_10 41 8 (fun q => q.elim (fun h => absurd h.1 (nn rfl)) (fun h => absurd h.1 (nn rfl)))
  have kn_191 : Hid (c_133 41 8 = c 41 8) := (hF_135 41 8 qn_b601a9968).trans ((up_c (nn rfl)).trans (hid kn_190))
  have h_192 : c_133 41 8 = c 41 8 := (hid kn_191)
  exact K P Q c_133 0 (by decide) hI_134 ⟨by omega, ub_fr hU (fun j => (hF_135 2 j qn_2ad67e194).trans ((up_c (nn rfl)).trans (hF_10 2 j (fun q => q.elim (fun h => absurd h.1 (nn rfl)) (fun h => absurd h.1 (nn rfl)))))) (fun j => (hF_135 43 j qn_1520ff5e3).trans ((up_c (nn rfl)).trans (hF_10 43 j (fun q => q.elim (fun h => absurd h.1 (nn rfl)) (fun h => absurd h.1 (nn rfl)))))), ⟨by omega, by omega, by omega, by omega⟩, by omega, by omega, iw_fr2 hIw (by omega) (fun j => (hF_135 6 j qn_e1050858a).trans ((up_c (nn rfl)).trans (hF_10 6 j (fun q => q.elim (fun h => absurd h.1 (nn rfl)) (fun h => absurd h.1 (nn rfl)))))) (fun j => (hF_135 66 j qn_5616dd9ce).trans ((up_c (nn rfl)).trans (hF_10 66 j (fun q => q.elim (fun h => absurd h.1 (nn rfl)) (fun h => absurd h.1 (nn rfl)))))), by omega⟩

set_option maxRecDepth 100000 in
set_option maxHeartbeats 4000000 in
theorem o_25 {xs : Nat → Int32} {L i0 d nc ns P Q : Nat} {c : ME} {Z : AR → Prop} (hi : i0 + 8 ≤ L) (hL : L ≤ 100000) (hI : Iv 0 (-1) P Q c) (hR : Rq P c) (K : ∀ (P2 Q2 : Nat) (c2 : ME) (e : Nat), e ≤ 1 → Iv 0 (-1) P2 Q2 c2 → (Rq P2 c2) → Wp (a_scr L xs) (d + 90) 296 1816 [(4, vi (i0 : Int)), (3, .ref 67), (2, .ref 41), (1, .ref 0), (0, .ref a_SC)] [] (Wd P2 Q2 P2 P2 c2) (nc + e) (ns + 6 * e) Z) : Wp (a_scr L xs) (d + 90) 296 1259 [(4, vi (i0 : Int)), (3, .ref 67), (2, .ref 41), (1, .ref 0), (0, .ref a_SC)] [] (Wd P Q P P c) nc ns Z := by
  obtain ⟨x1, hx1⟩ : ∃ z, (xs (i0 + 1)).toInt = z := ⟨_, rfl⟩
  have x1r := c_rng (xs (i0 + 1))
  rw [hx1] at x1r
  obtain ⟨x2, hx2⟩ : ∃ z, (xs (i0 + 2)).toInt = z := ⟨_, rfl⟩
  have x2r := c_rng (xs (i0 + 2))
  rw [hx2] at x2r
  obtain ⟨x3, hx3⟩ : ∃ z, (xs (i0 + 3)).toInt = z := ⟨_, rfl⟩
  have x3r := c_rng (xs (i0 + 3))
  rw [hx3] at x3r
  obtain ⟨x4, hx4⟩ : ∃ z, (xs (i0 + 4)).toInt = z := ⟨_, rfl⟩
  have x4r := c_rng (xs (i0 + 4))
  rw [hx4] at x4r
  obtain ⟨x5, hx5⟩ : ∃ z, (xs (i0 + 5)).toInt = z := ⟨_, rfl⟩
  have x5r := c_rng (xs (i0 + 5))
  rw [hx5] at x5r
  obtain ⟨x6, hx6⟩ : ∃ z, (xs (i0 + 6)).toInt = z := ⟨_, rfl⟩
  have x6r := c_rng (xs (i0 + 6))
  rw [hx6] at x6r
  obtain ⟨x7, hx7⟩ : ∃ z, (xs (i0 + 7)).toInt = z := ⟨_, rfl⟩
  have x7r := c_rng (xs (i0 + 7))
  rw [hx7] at x7r
  have hP := iv_P hI
  have hQ := iv_Q hI
  have hT := rl_t hR
  have hU := rl_u hR
  obtain ⟨n0, hn0⟩ : ∃ z, c P 0 = z := ⟨_, rfl⟩
  have hm0 : c 41 20 = n0 := (rl_nums hR).1.symm.trans hn0
  have hr0 := ir_p0_0 hI hP
  rw [hn0] at hr0
  obtain ⟨n1, hn1⟩ : ∃ z, c P 1 = z := ⟨_, rfl⟩
  have hm1 : c 41 21 = n1 := (rl_nums hR).2.1.symm.trans hn1
  have hr1 := ir_p0_1 hI hP
  rw [hn1] at hr1
  obtain ⟨n2, hn2⟩ : ∃ z, c P 2 = z := ⟨_, rfl⟩
  have hm2 : c 41 22 = n2 := (rl_nums hR).2.2.1.symm.trans hn2
  have hr2 := ir_p0_2 hI hP
  rw [hn2] at hr2
  obtain ⟨n3, hn3⟩ : ∃ z, c P 3 = z := ⟨_, rfl⟩
  have hm3 : c 41 23 = n3 := (rl_nums hR).2.2.2.symm.trans hn3
  have hr3 := ir_p0_3 hI hP
  rw [hn3] at hr3
  have hNimg := rl_img hR
  have hNwk := rl_wk hR
  have h_1 := ir_3_4 hI
  have hIw := rl_iw hR
  have hNplace := rl_place hR
  refine q_aload_n c_296_1259 rfl (q_aload_n c_296_1260 rfl (q_iload c_296_1261 rfl (q_iconst c_296_1263 (v_iadd (v := (i0 : Int) + 1) c_296_1264 rfl (v_scr (j := i0 + 1) c_296_1265 (by omega) (by omega) hL hx1 (q_aload_n c_296_1266 rfl (q_call c_296_1267 rfl rfl rfl ?_)))))))
  refine q_aload_n c_285_0 rfl (q_iconst c_285_1 (q_aload_n c_285_2 rfl (q_iload_n c_285_3 rfl ?_)))
  refine v_cv c_285_4 km_9_84 rfl rfl (Nat.le_of_ble_eq_true rfl) ⟨⟨rfl, rfl⟩, Nat.le_of_ble_eq_true rfl, rfl⟩ (Nat.le_of_ble_eq_true rfl) (Nat.le_of_ble_eq_true rfl) (s_105 (a1 := x1) hI (show (-2147483648) ≤ x1 ∧ x1 ≤ 2147483647 from ⟨by omega, by omega⟩) (fun c_2 hI_3 hF_4 => ?_) (fun c_5 y_8 hI_6 hF_7 hy_8 => ?_))
  · skip
    refine bk_thr (z := Int32.ofInt 1) rfl ⟨_, _, rfl⟩ rfl (bk_inl (q_istore c_296_1270 (Nat.le_of_ble_eq_true rfl) (q_aload_n c_296_1272 rfl (q_aload_n c_296_1273 rfl (q_iload c_296_1274 rfl (q_iconst c_296_1276 (v_iadd (v := (i0 : Int) + 1) c_296_1277 rfl ?_)))))))
    refine v_scr (j := i0 + 1) c_296_1278 (by omega) (by omega) hL hx1 (v_cv c_296_1279 km_9_212 rfl rfl (Nat.le_of_ble_eq_true rfl) ⟨⟨rfl, rfl⟩, Nat.le_of_ble_eq_true rfl, rfl⟩ (Nat.le_of_ble_eq_true rfl) (Nat.le_of_ble_eq_true rfl) (s_240 (a1 := x1) hI_3 (show (-2147483648) ≤ x1 ∧ x1 ≤ 2147483647 from ⟨by omega, by omega⟩) (fun c_9 y_12 hI_10 hF_11 hy_12 => (bk_inl (q_istore c_296_1282 (Nat.le_of_ble_eq_true rfl) (q_goto (t := 1816) c_296_1284 rfl (Wp_ls [(4, vi (i0 : Int)), (3, .ref 67), (2, .ref 41), (1, .ref 0), (0, .ref a_SC)] (lsub_cons rfl (lsub_cons rfl (lsub_cons rfl (lsub_cons rfl (lsub_cons rfl lsub_nil))))) ?_)))))))
    have h_13 := ir_1_3 hI
    have kn_14 : Hid (c_2 1 3 = c 1 3) := hF_4 1 3 (qn_573365727 hP)
    have kn_15 : Hid (c_9 1 3 = c 1 3) := (hF_11 1 3 qn_44683f5fa).trans (hid kn_14)
    have h_16 : c_9 1 3 = c 1 3 := (hid kn_15)
    have h_17 := ir_41_2 hI
    have kn_18 : Hid (c_2 41 2 = c 41 2) := hF_4 41 2 (qn_69be8c781 hP)
    have kn_19 : Hid (c_9 41 2 = c 41 2) := (hF_11 41 2 qn_7a112a690).trans (hid kn_18)
    have h_20 : c_9 41 2 = c 41 2 := (hid kn_19)
    have kn_21 : Hid (c_2 P 0 = n0) := (hF_4 P 0 (qn_ab81a8ac9 hP)).trans (hn0)
    have kn_22 : Hid (c_9 P 0 = n0) := (hF_11 P 0 (qn_70fec742f hP)).trans (hid kn_21)
    have h_23 : c_9 P 0 = n0 := (hid kn_22)
    have kn_24 : Hid (c_2 41 20 = n0) := (hF_4 41 20 (qn_69be8c781 hP)).trans (hm0)
    have kn_25 : Hid (c_9 41 20 = n0) := (hF_11 41 20 qn_d0753a96c).trans (hid kn_24)
    have h_26 : c_9 41 20 = n0 := (hid kn_25)
    have kn_27 : Hid (c_2 P 1 = n1) := (hF_4 P 1 (qn_ab81a8ac9 hP)).trans (hn1)
    have kn_28 : Hid (c_9 P 1 = n1) := (hF_11 P 1 (qn_70fec742f hP)).trans (hid kn_27)
    have h_29 : c_9 P 1 = n1 := (hid kn_28)
    have kn_30 : Hid (c_2 41 21 = n1) := (hF_4 41 21 (qn_69be8c781 hP)).trans (hm1)
    have kn_31 : Hid (c_9 41 21 = n1) := (hF_11 41 21 qn_2dba34809).trans (hid kn_30)
    have h_32 : c_9 41 21 = n1 := (hid kn_31)
    have kn_33 : Hid (c_2 P 2 = n2) := (hF_4 P 2 (qn_ab81a8ac9 hP)).trans (hn2)
    have kn_34 : Hid (c_9 P 2 = n2) := (hF_11 P 2 (qn_70fec742f hP)).trans (hid kn_33)
    have h_35 : c_9 P 2 = n2 := (hid kn_34)
    have kn_36 : Hid (c_2 41 22 = n2) := (hF_4 41 22 (qn_69be8c781 hP)).trans (hm2)
    have kn_37 : Hid (c_9 41 22 = n2) := (hF_11 41 22 qn_0d1137165).trans (hid kn_36)
    have h_38 : c_9 41 22 = n2 := (hid kn_37)
    have kn_39 : Hid (c_2 P 3 = n3) := (hF_4 P 3 (qn_ab81a8ac9 hP)).trans (hn3)
    have kn_40 : Hid (c_9 P 3 = n3) := (hF_11 P 3 (qn_70fec742f hP)).trans (hid kn_39)
    have h_41 : c_9 P 3 = n3 := (hid kn_40)
    have kn_42 : Hid (c_2 41 23 = n3) := (hF_4 41 23 (qn_69be8c781 hP)).trans (hm3)
    have kn_43 : Hid (c_9 41 23 = n3) := (hF_11 41 23 qn_ca1c2b99e).trans (hid kn_42)
    have h_44 : c_9 41 23 = n3 := (hid kn_43)
    have kn_45 : Hid (c_2 3 4 = c 3 4) := hF_4 3 4 (qn_9e88b668d hP)
    have kn_46 : Hid (c_9 3 4 = c 3 4) := (hF_11 3 4 qn_85f7f5516).trans (hid kn_45)
    have h_47 : c_9 3 4 = c 3 4 := (hid kn_46)
    have h_48 := ir_41_52 hI
    have kn_49 : Hid (c_2 41 52 = c 41 52) := hF_4 41 52 (qn_69be8c781 hP)
    have kn_50 : Hid (c_9 41 52 = c 41 52) := (hF_11 41 52 qn_23bb338dd).trans (hid kn_49)
    have h_51 : c_9 41 52 = c 41 52 := (hid kn_50)
    have h_52 := ir_3_3 hI
    have kn_53 : Hid (c_2 3 3 = c 3 3) := hF_4 3 3 (qn_9e88b668d hP)
    have kn_54 : Hid (c_9 3 3 = c 3 3) := (hF_11 3 3 qn_85f7f5516).trans (hid kn_53)
    have h_55 : c_9 3 3 = c 3 3 := (hid kn_54)
    have h_56 := ir_41_35 hI
    have kn_57 : Hid (c_2 41 35 = c 41 35) := hF_4 41 35 (qn_69be8c781 hP)
    have kn_58 : Hid (c_9 41 35 = c 41 35) := (hF_11 41 35 qn_8b6342d8f).trans (hid kn_57)
    have h_59 : c_9 41 35 = c 41 35 := (hid kn_58)
    have h_60 : c_9 3 4 = c 3 4 := (hid kn_46)
    have h_61 := ir_1_5 hI
    have kn_62 : Hid (c_2 1 5 = c 1 5) := hF_4 1 5 (qn_573365727 hP)
    have kn_63 : Hid (c_9 1 5 = c 1 5) := (hF_11 1 5 qn_44683f5fa).trans (hid kn_62)
    have h_64 : c_9 1 5 = c 1 5 := (hid kn_63)
    have h_65 := ir_41_8 hI
    have kn_66 : Hid (c_2 41 8 = c 41 8) := hF_4 41 8 (qn_69be8c781 hP)
    have kn_67 : Hid (c_9 41 8 = c 41 8) := (hF_11 41 8 qn_fa94fa4d3).trans (hid kn_66)
    have h_68 : c_9 41 8 = c 41 8 := (hid kn_67)
    exact K P Q c_9 1 (by decide) hI_10 ⟨by omega, ub_fr hU (fun j => (hF_11 2 j qn_d0e66b3bf).trans (hF_4 2 j (qn_aaebe4308 hP))) (fun j => (hF_11 43 j qn_5a77d9750).trans (hF_4 43 j (qn_3e58b8819 hP))), ⟨by omega, by omega, by omega, by omega⟩, by omega, by omega, iw_fr2 hIw (by omega) (fun j => (hF_11 6 j qn_1f8406493).trans (hF_4 6 j (qn_11fbaf786 hP))) (fun j => (hF_11 66 j qn_02ce421cc).trans (hF_4 66 j (qn_1388626d2 hP))), by omega⟩
  refine bk_inl (v_i2l c_285_7 (by omega) (v_ls c_285_8 rfl (by decide) (by decide) (by decide) (q_goto (t := 15) c_285_9 rfl (q_iconst c_285_15 (q_iret c_285_16 rfl (bk_inl (q_istore c_296_1270 (Nat.le_of_ble_eq_true rfl) ?_)))))))
  refine q_aload_n c_296_1272 rfl (q_aload_n c_296_1273 rfl (q_iload c_296_1274 rfl (q_iconst c_296_1276 (v_iadd (v := (i0 : Int) + 1) c_296_1277 rfl (v_scr (j := i0 + 1) c_296_1278 (by omega) (by omega) hL hx1 ?_)))))
  have hI_69 := iw_lx (a := 67) (j := 0) (v := y_8) hI_6 (by omega)
  refine v_cv c_296_1279 km_9_212 rfl rfl (Nat.le_of_ble_eq_true rfl) ⟨⟨rfl, rfl⟩, Nat.le_of_ble_eq_true rfl, rfl⟩ (Nat.le_of_ble_eq_true rfl) (Nat.le_of_ble_eq_true rfl) (s_240 (a1 := x1) hI_69 (show (-2147483648) ≤ x1 ∧ x1 ≤ 2147483647 from ⟨by omega, by omega⟩) (fun c_70 y_73 hI_71 hF_72 hy_73 => (bk_inl (q_istore c_296_1282 (Nat.le_of_ble_eq_true rfl) (q_goto (t := 1816) c_296_1284 rfl (Wp_ls [(4, vi (i0 : Int)), (3, .ref 67), (2, .ref 41), (1, .ref 0), (0, .ref a_SC)] (lsub_cons rfl (lsub_cons rfl (lsub_cons rfl (lsub_cons rfl (lsub_cons rfl lsub_nil))))) ?_))))))
  have h_74 := ir_1_3 hI
  have kn_75 : Hid (c_5 1 3 = c 1 3) := hF_7 1 3 (qn_573365727 hP)
  have kn_76 : Hid (c_70 1 3 = c 1 3) := (hF_72 1 3 qn_44683f5fa).trans ((up_c (nn rfl)).trans (hid kn_75))
  have h_77 : c_70 1 3 = c 1 3 := (hid kn_76)
  have h_78 := ir_41_2 hI
  have kn_79 : Hid (c_5 41 2 = c 41 2) := hF_7 41 2 (qn_69be8c781 hP)
  have kn_80 : Hid (c_70 41 2 = c 41 2) := (hF_72 41 2 qn_7a112a690).trans ((up_c (nn rfl)).trans (hid kn_79))
  have h_81 : c_70 41 2 = c 41 2 := (hid kn_80)
  have kn_82 : Hid (c_5 P 0 = n0) := (hF_7 P 0 (qn_ab81a8ac9 hP)).trans (hn0)
  have kn_83 : Hid (c_70 P 0 = n0) := (hF_72 P 0 (qn_70fec742f hP)).trans ((up_c (np0 hP rfl)).trans (hid kn_82))
  have h_84 : c_70 P 0 = n0 := (hid kn_83)
  have kn_85 : Hid (c_5 41 20 = n0) := (hF_7 41 20 (qn_69be8c781 hP)).trans (hm0)
  have kn_86 : Hid (c_70 41 20 = n0) := (hF_72 41 20 qn_d0753a96c).trans ((up_c (nn rfl)).trans (hid kn_85))
  have h_87 : c_70 41 20 = n0 := (hid kn_86)
  have kn_88 : Hid (c_5 P 1 = n1) := (hF_7 P 1 (qn_ab81a8ac9 hP)).trans (hn1)
  have kn_89 : Hid (c_70 P 1 = n1) := (hF_72 P 1 (qn_70fec742f hP)).trans ((up_c (np0 hP rfl)).trans (hid kn_88))
  have h_90 : c_70 P 1 = n1 := (hid kn_89)
  have kn_91 : Hid (c_5 41 21 = n1) := (hF_7 41 21 (qn_69be8c781 hP)).trans (hm1)
  have kn_92 : Hid (c_70 41 21 = n1) := (hF_72 41 21 qn_2dba34809).trans ((up_c (nn rfl)).trans (hid kn_91))
  have h_93 : c_70 41 21 = n1 := (hid kn_92)
  have kn_94 : Hid (c_5 P 2 = n2) := (hF_7 P 2 (qn_ab81a8ac9 hP)).trans (hn2)
  have kn_95 : Hid (c_70 P 2 = n2) := (hF_72 P 2 (qn_70fec742f hP)).trans ((up_c (np0 hP rfl)).trans (hid kn_94))
  have h_96 : c_70 P 2 = n2 := (hid kn_95)
  have kn_97 : Hid (c_5 41 22 = n2) := (hF_7 41 22 (qn_69be8c781 hP)).trans (hm2)
  have kn_98 : Hid (c_70 41 22 = n2) := (hF_72 41 22 qn_0d1137165).trans ((up_c (nn rfl)).trans (hid kn_97))
  have h_99 : c_70 41 22 = n2 := (hid kn_98)
  have kn_100 : Hid (c_5 P 3 = n3) := (hF_7 P 3 (qn_ab81a8ac9 hP)).trans (hn3)
  have kn_101 : Hid (c_70 P 3 = n3) := (hF_72 P 3 (qn_70fec742f hP)).trans ((up_c (np0 hP rfl)).trans (hid kn_100))
  have h_102 : c_70 P 3 = n3 := (hid kn_101)
  have kn_103 : Hid (c_5 41 23 = n3) := (hF_7 41 23 (qn_69be8c781 hP)).trans (hm3)
  have kn_104 : Hid (c_70 41 23 = n3) := (hF_72 41 23 qn_ca1c2b99e).trans ((up_c (nn rfl)).trans (hid kn_103))
  have h_105 : c_70 41 23 = n3 := (hid kn_104)
  have kn_106 : Hid (c_5 3 4 = c 3 4) := hF_7 3 4 (qn_9e88b668d hP)
  have kn_107 : Hid (c_70 3 4 = c 3 4) := (hF_72 3 4 qn_85f7f5516).trans ((up_c (nn rfl)).trans (hid kn_106))
  have h_108 : c_70 3 4 = c 3 4 := (hid kn_107)
  have h_109 := ir_41_52 hI
  have kn_110 : Hid (c_5 41 52 = c 41 52) := hF_7 41 52 (qn_69be8c781 hP)
  have kn_111 : Hid (c_70 41 52 = c 41 52) := (hF_72 41 52 qn_23bb338dd).trans ((up_c (nn rfl)).trans (hid kn_110))
  have h_112 : c_70 41 52 = c 41 52 := (hid kn_111)
  have h_113 := ir_3_3 hI
  have kn_114 : Hid (c_5 3 3 = c 3 3) := hF_7 3 3 (qn_9e88b668d hP)
  have kn_115 : Hid (c_70 3 3 = c 3 3) := (hF_72 3 3 qn_85f7f5516).trans ((up_c (nn rfl)).trans (hid kn_114))
  have h_116 : c_70 3 3 = c 3 3 := (hid kn_115)
  have h_117 := ir_41_35 hI
  have kn_118 : Hid (c_5 41 35 = c 41 35) := hF_7 41 35 (qn_69be8c781 hP)
  have kn_119 : Hid (c_70 41 35 = c 41 35) := (hF_72 41 35 qn_8b6342d8f).trans ((up_c (nn rfl)).trans (hid kn_118))
  have h_120 : c_70 41 35 = c 41 35 := (hid kn_119)
  have h_121 : c_70 3 4 = c 3 4 := (hid kn_107)
  have h_122 := ir_1_5 hI
  have kn_123 : Hid (c_5 1 5 = c 1 5) := hF_7 1 5 (qn_573365727 hP)
  have kn_124 : Hid (c_70 1 5 = c 1 5) := (hF_72 1 5 qn_44683f5fa).trans ((up_c (nn rfl)).trans (hid kn_123))
  have h_125 : c_70 1 5 = c 1 5 := (hid kn_124)
  have h_126 := ir_41_8 hI
  have kn_127 : Hid (c_5 41 8 = c 41 8) := hF_7 41 8 (qn_69be8c781 hP)
  have kn_128 : Hid (c_70 41 8 = c 41 8) := (hF_72 41 8 qn_fa94fa4d3).trans ((up_c (nn rfl)).trans (hid kn_127))
  have h_129 : c_70 41 8 = c 41 8 := (hid kn_128)
  exact K P Q c_70 0 (by decide) hI_71 ⟨by omega, ub_fr hU (fun j => (hF_72 2 j qn_d0e66b3bf).trans ((up_c (nn rfl)).trans (hF_7 2 j (qn_aaebe4308 hP)))) (fun j => (hF_72 43 j qn_5a77d9750).trans ((up_c (nn rfl)).trans (hF_7 43 j (qn_3e58b8819 hP)))), ⟨by omega, by omega, by omega, by omega⟩, by omega, by omega, iw_fr2 hIw (by omega) (fun j => (hF_72 6 j qn_1f8406493).trans ((up_c (nn rfl)).trans (hF_7 6 j (qn_11fbaf786 hP)))) (fun j => (hF_72 66 j qn_02ce421cc).trans ((up_c (nn rfl)).trans (hF_7 66 j (qn_1388626d2 hP)))), by omega⟩

set_option maxRecDepth 100000 in
set_option maxHeartbeats 4000000 in
theorem o_26 {xs : Nat → Int32} {L i0 d nc ns P Q : Nat} {c : ME} {Z : AR → Prop} (hi : i0 + 8 ≤ L) (hL : L ≤ 100000) (hI : Iv 0 (-1) P Q c) (hR : Rq P c) (K : ∀ (P2 Q2 : Nat) (c2 : ME) (e : Nat), e ≤ 1 → Iv 0 (-1) P2 Q2 c2 → (Rq P2 c2) → Wp (a_scr L xs) (d + 90) 296 1816 [(4, vi (i0 : Int)), (3, .ref 67), (2, .ref 41), (1, .ref 0), (0, .ref a_SC)] [] (Wd P2 Q2 P2 P2 c2) (nc + e) (ns + 6 * e) Z) : Wp (a_scr L xs) (d + 90) 296 1287 [(4, vi (i0 : Int)), (3, .ref 67), (2, .ref 41), (1, .ref 0), (0, .ref a_SC)] [] (Wd P Q P P c) nc ns Z := by
  obtain ⟨x1, hx1⟩ : ∃ z, (xs (i0 + 1)).toInt = z := ⟨_, rfl⟩
  have x1r := c_rng (xs (i0 + 1))
  rw [hx1] at x1r
  obtain ⟨x2, hx2⟩ : ∃ z, (xs (i0 + 2)).toInt = z := ⟨_, rfl⟩
  have x2r := c_rng (xs (i0 + 2))
  rw [hx2] at x2r
  obtain ⟨x3, hx3⟩ : ∃ z, (xs (i0 + 3)).toInt = z := ⟨_, rfl⟩
  have x3r := c_rng (xs (i0 + 3))
  rw [hx3] at x3r
  obtain ⟨x4, hx4⟩ : ∃ z, (xs (i0 + 4)).toInt = z := ⟨_, rfl⟩
  have x4r := c_rng (xs (i0 + 4))
  rw [hx4] at x4r
  obtain ⟨x5, hx5⟩ : ∃ z, (xs (i0 + 5)).toInt = z := ⟨_, rfl⟩
  have x5r := c_rng (xs (i0 + 5))
  rw [hx5] at x5r
  obtain ⟨x6, hx6⟩ : ∃ z, (xs (i0 + 6)).toInt = z := ⟨_, rfl⟩
  have x6r := c_rng (xs (i0 + 6))
  rw [hx6] at x6r
  obtain ⟨x7, hx7⟩ : ∃ z, (xs (i0 + 7)).toInt = z := ⟨_, rfl⟩
  have x7r := c_rng (xs (i0 + 7))
  rw [hx7] at x7r
  have hP := iv_P hI
  have hQ := iv_Q hI
  have hT := rl_t hR
  have hU := rl_u hR
  obtain ⟨n0, hn0⟩ : ∃ z, c P 0 = z := ⟨_, rfl⟩
  have hm0 : c 41 20 = n0 := (rl_nums hR).1.symm.trans hn0
  have hr0 := ir_p0_0 hI hP
  rw [hn0] at hr0
  obtain ⟨n1, hn1⟩ : ∃ z, c P 1 = z := ⟨_, rfl⟩
  have hm1 : c 41 21 = n1 := (rl_nums hR).2.1.symm.trans hn1
  have hr1 := ir_p0_1 hI hP
  rw [hn1] at hr1
  obtain ⟨n2, hn2⟩ : ∃ z, c P 2 = z := ⟨_, rfl⟩
  have hm2 : c 41 22 = n2 := (rl_nums hR).2.2.1.symm.trans hn2
  have hr2 := ir_p0_2 hI hP
  rw [hn2] at hr2
  obtain ⟨n3, hn3⟩ : ∃ z, c P 3 = z := ⟨_, rfl⟩
  have hm3 : c 41 23 = n3 := (rl_nums hR).2.2.2.symm.trans hn3
  have hr3 := ir_p0_3 hI hP
  rw [hn3] at hr3
  have hNimg := rl_img hR
  have hNwk := rl_wk hR
  have h_1 := ir_3_4 hI
  have hIw := rl_iw hR
  have hNplace := rl_place hR
  refine q_aload_n c_296_1287 rfl (v_cv c_296_1288 km_9_213 rfl rfl (Nat.le_of_ble_eq_true rfl) ⟨⟨rfl, rfl⟩, Nat.le_of_ble_eq_true rfl, rfl⟩ (Nat.le_of_ble_eq_true rfl) (Nat.le_of_ble_eq_true rfl) (s_106 hI (fun c_2 y_5 hI_3 hF_4 hy_5 => (bk_inl (q_pop c_296_1291 rfl (q_aload_n c_296_1292 rfl (v_cv c_296_1293 km_9_216 rfl rfl (Nat.le_of_ble_eq_true rfl) ⟨⟨rfl, rfl⟩, Nat.le_of_ble_eq_true rfl, rfl⟩ (Nat.le_of_ble_eq_true rfl) (Nat.le_of_ble_eq_true rfl) (s_241 hI_3 (fun c_6 y_9 hI_7 hF_8 hy_9 => (bk_inl (q_pop c_296_1296 rfl ?_)))))))))))
  refine q_goto (t := 1816) c_296_1297 rfl (Wp_ls [(4, vi (i0 : Int)), (3, .ref 67), (2, .ref 41), (1, .ref 0), (0, .ref a_SC)] (lsub_cons rfl (lsub_cons rfl (lsub_cons rfl (lsub_cons rfl (lsub_cons rfl lsub_nil))))) ?_)
  have h_10 := ir_1_3 hI
  have kn_11 : Hid (c_2 1 3 = c 1 3) := hF_4 1 3 (qn_db0fa2040 hP)
  have kn_12 : Hid (c_6 1 3 = c 1 3) := (hF_8 1 3 qn_965711e77).trans (hid kn_11)
  have h_13 : c_6 1 3 = c 1 3 := (hid kn_12)
  have h_14 := ir_41_2 hI
  have kn_15 : Hid (c_2 41 2 = c 41 2) := hF_4 41 2 (qn_4d24c7afb hP)
  have kn_16 : Hid (c_6 41 2 = c 41 2) := (hF_8 41 2 qn_dd6cb5371).trans (hid kn_15)
  have h_17 : c_6 41 2 = c 41 2 := (hid kn_16)
  have kn_18 : Hid (c_2 P 0 = n0) := (hF_4 P 0 (fun q => q.elim (fun h => absurd h (p0p rfl)) (fun h => absurd h (p0p rfl)))).trans (hn0)
  have kn_19 : Hid (c_6 P 0 = n0) := (hF_8 P 0 (qn_82f5c699c hP)).trans (hid kn_18)
  have h_20 : c_6 P 0 = n0 := (hid kn_19)
  have kn_21 : Hid (c_2 41 20 = n0) := (hF_4 41 20 (qn_4d24c7afb hP)).trans (hm0)
  have kn_22 : Hid (c_6 41 20 = n0) := (hF_8 41 20 qn_4a675523d).trans (hid kn_21)
  have h_23 : c_6 41 20 = n0 := (hid kn_22)
  have kn_24 : Hid (c_2 P 1 = n1) := (hF_4 P 1 (fun q => q.elim (fun h => absurd h (p0p rfl)) (fun h => absurd h (p0p rfl)))).trans (hn1)
  have kn_25 : Hid (c_6 P 1 = n1) := (hF_8 P 1 (qn_82f5c699c hP)).trans (hid kn_24)
  have h_26 : c_6 P 1 = n1 := (hid kn_25)
  have kn_27 : Hid (c_2 41 21 = n1) := (hF_4 41 21 (qn_4d24c7afb hP)).trans (hm1)
  have kn_28 : Hid (c_6 41 21 = n1) := (hF_8 41 21 qn_b8c7ae319).trans (hid kn_27)
  have h_29 : c_6 41 21 = n1 := (hid kn_28)
  have kn_30 : Hid (c_2 P 2 = n2) := (hF_4 P 2 (fun q => q.elim (fun h => absurd h (p0p rfl)) (fun h => absurd h (p0p rfl)))).trans (hn2)
  have kn_31 : Hid (c_6 P 2 = n2) := (hF_8 P 2 (qn_82f5c699c hP)).trans (hid kn_30)
  have h_32 : c_6 P 2 = n2 := (hid kn_31)
  have kn_33 : Hid (c_2 41 22 = n2) := (hF_4 41 22 (qn_4d24c7afb hP)).trans (hm2)
  have kn_34 : Hid (c_6 41 22 = n2) := (hF_8 41 22 qn_6845dc871).trans (hid kn_33)
  have h_35 : c_6 41 22 = n2 := (hid kn_34)
  have kn_36 : Hid (c_2 P 3 = n3) := (hF_4 P 3 (fun q => q.elim (fun h => absurd h (p0p rfl)) (fun h => absurd h (p0p rfl)))).trans (hn3)
  have kn_37 : Hid (c_6 P 3 = n3) := (hF_8 P 3 (qn_82f5c699c hP)).trans (hid kn_36)
  have h_38 : c_6 P 3 = n3 := (hid kn_37)
  have kn_39 : Hid (c_2 41 23 = n3) := (hF_4 41 23 (qn_4d24c7afb hP)).trans (hm3)
  have kn_40 : Hid (c_6 41 23 = n3) := (hF_8 41 23 qn_d7f907dd2).trans (hid kn_39)
  have h_41 : c_6 41 23 = n3 := (hid kn_40)
  have kn_42 : Hid (c_2 3 4 = c 3 4) := hF_4 3 4 (qn_e1cff7f51 hP)
  have kn_43 : Hid (c_6 3 4 = c 3 4) := (hF_8 3 4 qn_9184c3c35).trans (hid kn_42)
  have h_44 : c_6 3 4 = c 3 4 := (hid kn_43)
  have h_45 := ir_41_52 hI
  have kn_46 : Hid (c_2 41 52 = c 41 52) := hF_4 41 52 (qn_4d24c7afb hP)
  have kn_47 : Hid (c_6 41 52 = c 41 52) := (hF_8 41 52 qn_fe8d01f7a).trans (hid kn_46)
  have h_48 : c_6 41 52 = c 41 52 := (hid kn_47)
  have h_49 := ir_3_3 hI
  have kn_50 : Hid (c_2 3 3 = c 3 3) := hF_4 3 3 (qn_e1cff7f51 hP)
  have kn_51 : Hid (c_6 3 3 = c 3 3) := (hF_8 3 3 qn_9184c3c35).trans (hid kn_50)
  have h_52 : c_6 3 3 = c 3 3 := (hid kn_51)
  have h_53 := ir_41_35 hI
  have kn_54 : Hid (c_2 41 35 = c 41 35) := hF_4 41 35 (qn_4d24c7afb hP)
  have kn_55 : Hid (c_6 41 35 = c 41 35) := (hF_8 41 35 qn_300bb1d4d).trans (hid kn_54)
  have h_56 : c_6 41 35 = c 41 35 := (hid kn_55)
  have h_57 : c_6 3 4 = c 3 4 := (hid kn_43)
  have h_58 := ir_1_5 hI
  have kn_59 : Hid (c_2 1 5 = c 1 5) := hF_4 1 5 (qn_db0fa2040 hP)
  have kn_60 : Hid (c_6 1 5 = c 1 5) := (hF_8 1 5 qn_965711e77).trans (hid kn_59)
  have h_61 : c_6 1 5 = c 1 5 := (hid kn_60)
  have h_62 := ir_41_8 hI
  have kn_63 : Hid (c_2 41 8 = c 41 8) := hF_4 41 8 (qn_4d24c7afb hP)
  have kn_64 : Hid (c_6 41 8 = c 41 8) := (hF_8 41 8 qn_040892555).trans (hid kn_63)
  have h_65 : c_6 41 8 = c 41 8 := (hid kn_64)
  exact K P Q c_6 0 (by decide) hI_7 ⟨by omega, ub_fr hU (fun j => (hF_8 2 j qn_7bbf03f40).trans (hF_4 2 j (qn_389d7b966 hP))) (fun j => (hF_8 43 j qn_da8a66655).trans (hF_4 43 j (qn_afbd556c9 hP))), ⟨by omega, by omega, by omega, by omega⟩, by omega, by omega, iw_fr2 hIw (by omega) (fun j => (hF_8 6 j qn_aea755759).trans (hF_4 6 j (qn_4b8057cf3 hP))) (fun j => (hF_8 66 j qn_7c789e383).trans (hF_4 66 j (qn_6dde8fd4f hP))), by omega⟩

