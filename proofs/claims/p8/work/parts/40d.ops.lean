/-! ===== the calls of the law 4 ===== -/
theorem qn_bcb6129a7 {P : Nat} {j : Int} (hP : P = 13 ∨ P = 25) : ¬ (((1 : Nat) = 0 ∧ j = 12) ∨ (1 : Nat) = (P + 10) ∨ (1 : Nat) = (P + 11) ∨ (1 : Nat) = 40) := (fun q => q.elim (fun h => absurd h.1 (nn rfl)) (fun q => q.elim (fun h => absurd h (pn hP rfl rfl)) (fun q => q.elim (fun h => absurd h (pn hP rfl rfl)) (fun h => absurd h (nn rfl)))))
theorem qn_c1b212892 {P : Nat} {j : Int} (hP : P = 13 ∨ P = 25) : ¬ (((41 : Nat) = 0 ∧ j = 12) ∨ (41 : Nat) = (P + 10) ∨ (41 : Nat) = (P + 11) ∨ (41 : Nat) = 40) := (fun q => q.elim (fun h => absurd h.1 (nn rfl)) (fun q => q.elim (fun h => absurd h (pn hP rfl rfl)) (fun q => q.elim (fun h => absurd h (pn hP rfl rfl)) (fun h => absurd h (nn rfl)))))
theorem qn_f8aa6ac5f {P : Nat} {j : Int} (hP : P = 13 ∨ P = 25) : ¬ ((P = 0 ∧ j = 12) ∨ P = (P + 10) ∨ P = (P + 11) ∨ P = 40) := (fun q => q.elim (fun h => absurd h.1 (np0 hP rfl)) (fun q => q.elim (fun h => absurd h (p0p rfl)) (fun q => q.elim (fun h => absurd h (p0p rfl)) (fun h => absurd h (np0 hP rfl)))))
theorem qn_116ab97cc {P : Nat} {j : Int} (hP : P = 13 ∨ P = 25) : ¬ (((3 : Nat) = 0 ∧ j = 12) ∨ (3 : Nat) = (P + 10) ∨ (3 : Nat) = (P + 11) ∨ (3 : Nat) = 40) := (fun q => q.elim (fun h => absurd h.1 (nn rfl)) (fun q => q.elim (fun h => absurd h (pn hP rfl rfl)) (fun q => q.elim (fun h => absurd h (pn hP rfl rfl)) (fun h => absurd h (nn rfl)))))
theorem qn_c44a51550 {P : Nat} {j : Int} (hP : P = 13 ∨ P = 25) : ¬ (((2 : Nat) = 0 ∧ j = 12) ∨ (2 : Nat) = (P + 10) ∨ (2 : Nat) = (P + 11) ∨ (2 : Nat) = 40) := (fun q => q.elim (fun h => absurd h.1 (nn rfl)) (fun q => q.elim (fun h => absurd h (pn hP rfl rfl)) (fun q => q.elim (fun h => absurd h (pn hP rfl rfl)) (fun h => absurd h (nn rfl)))))
theorem qn_2e57cdabe {P : Nat} {j : Int} (hP : P = 13 ∨ P = 25) : ¬ (((43 : Nat) = 0 ∧ j = 12) ∨ (43 : Nat) = (P + 10) ∨ (43 : Nat) = (P + 11) ∨ (43 : Nat) = 40) := (fun q => q.elim (fun h => absurd h.1 (nn rfl)) (fun q => q.elim (fun h => absurd h (pn hP rfl rfl)) (fun q => q.elim (fun h => absurd h (pn hP rfl rfl)) (fun h => absurd h (nn rfl)))))
theorem qn_5ecb26ba6 {P : Nat} {j : Int} (hP : P = 13 ∨ P = 25) : ¬ (((6 : Nat) = 0 ∧ j = 12) ∨ (6 : Nat) = (P + 10) ∨ (6 : Nat) = (P + 11) ∨ (6 : Nat) = 40) := (fun q => q.elim (fun h => absurd h.1 (nn rfl)) (fun q => q.elim (fun h => absurd h (pn hP rfl rfl)) (fun q => q.elim (fun h => absurd h (pn hP rfl rfl)) (fun h => absurd h (nn rfl)))))
theorem qn_7018f8751 {P : Nat} {j : Int} (hP : P = 13 ∨ P = 25) : ¬ (((66 : Nat) = 0 ∧ j = 12) ∨ (66 : Nat) = (P + 10) ∨ (66 : Nat) = (P + 11) ∨ (66 : Nat) = 40) := (fun q => q.elim (fun h => absurd h.1 (nn rfl)) (fun q => q.elim (fun h => absurd h (pn hP rfl rfl)) (fun q => q.elim (fun h => absurd h (pn hP rfl rfl)) (fun h => absurd h (nn rfl)))))
theorem qn_f78771b97 {P : Nat} {j : Int} (hP : P = 13 ∨ P = 25) : ¬ ((P = 41 ∧ j = 0) ∨ P = 59) := (fun q => q.elim (fun h => absurd h.1 (np0 hP rfl)) (fun h => absurd h (np0 hP rfl)))
theorem qn_cc1064621 {P : Nat} {j : Int} (hP : P = 13 ∨ P = 25) : ¬ (((1 : Nat) = 0 ∧ j = 13) ∨ (1 : Nat) = (P + 10) ∨ (1 : Nat) = (P + 11) ∨ ((1 : Nat) = 9 ∧ j = 0) ∨ (1 : Nat) = 40) := (fun q => q.elim (fun h => absurd h.1 (nn rfl)) (fun q => q.elim (fun h => absurd h (pn hP rfl rfl)) (fun q => q.elim (fun h => absurd h (pn hP rfl rfl)) (fun q => q.elim (fun h => absurd h.1 (nn rfl)) (fun h => absurd h (nn rfl))))))
theorem qn_9d94bd60f {j : Int} : ¬ (((1 : Nat) = 41 ∧ j = 0) ∨ (1 : Nat) = 42 ∨ ((1 : Nat) = 41 ∧ j = 50) ∨ (1 : Nat) = 59 ∨ (1 : Nat) = 54 ∨ (1 : Nat) = 55) := (fun q => q.elim (fun h => absurd h.1 (nn rfl)) (fun q => q.elim (fun h => absurd h (nn rfl)) (fun q => q.elim (fun h => absurd h.1 (nn rfl)) (fun q => q.elim (fun h => absurd h (nn rfl)) (fun q => q.elim (fun h => absurd h (nn rfl)) (fun h => absurd h (nn rfl)))))))
theorem qn_55346d250 {P : Nat} {j : Int} (hP : P = 13 ∨ P = 25) : ¬ (((41 : Nat) = 0 ∧ j = 13) ∨ (41 : Nat) = (P + 10) ∨ (41 : Nat) = (P + 11) ∨ ((41 : Nat) = 9 ∧ j = 0) ∨ (41 : Nat) = 40) := (fun q => q.elim (fun h => absurd h.1 (nn rfl)) (fun q => q.elim (fun h => absurd h (pn hP rfl rfl)) (fun q => q.elim (fun h => absurd h (pn hP rfl rfl)) (fun q => q.elim (fun h => absurd h.1 (nn rfl)) (fun h => absurd h (nn rfl))))))
theorem qn_9f4d5821f : ¬ (((41 : Nat) = 41 ∧ (2 : Int) = 0) ∨ (41 : Nat) = 42 ∨ ((41 : Nat) = 41 ∧ (2 : Int) = 50) ∨ (41 : Nat) = 59 ∨ (41 : Nat) = 54 ∨ (41 : Nat) = 55) := (fun q => q.elim (fun h => absurd h.2 (ni rfl)) (fun q => q.elim (fun h => absurd h (nn rfl)) (fun q => q.elim (fun h => absurd h.2 (ni rfl)) (fun q => q.elim (fun h => absurd h (nn rfl)) (fun q => q.elim (fun h => absurd h (nn rfl)) (fun h => absurd h (nn rfl)))))))
theorem qn_1a125c37c {P : Nat} {j : Int} (hP : P = 13 ∨ P = 25) : ¬ ((P = 0 ∧ j = 13) ∨ P = (P + 10) ∨ P = (P + 11) ∨ (P = 9 ∧ j = 0) ∨ P = 40) := (fun q => q.elim (fun h => absurd h.1 (np0 hP rfl)) (fun q => q.elim (fun h => absurd h (p0p rfl)) (fun q => q.elim (fun h => absurd h (p0p rfl)) (fun q => q.elim (fun h => absurd h.1 (np0 hP rfl)) (fun h => absurd h (np0 hP rfl))))))
theorem qn_3dda11c13 {P : Nat} {j : Int} (hP : P = 13 ∨ P = 25) : ¬ ((P = 41 ∧ j = 0) ∨ P = 42 ∨ (P = 41 ∧ j = 50) ∨ P = 59 ∨ P = 54 ∨ P = 55) := (fun q => q.elim (fun h => absurd h.1 (np0 hP rfl)) (fun q => q.elim (fun h => absurd h (np0 hP rfl)) (fun q => q.elim (fun h => absurd h.1 (np0 hP rfl)) (fun q => q.elim (fun h => absurd h (np0 hP rfl)) (fun q => q.elim (fun h => absurd h (np0 hP rfl)) (fun h => absurd h (np0 hP rfl)))))))
theorem qn_de1d671ad : ¬ (((41 : Nat) = 41 ∧ (20 : Int) = 0) ∨ (41 : Nat) = 42 ∨ ((41 : Nat) = 41 ∧ (20 : Int) = 50) ∨ (41 : Nat) = 59 ∨ (41 : Nat) = 54 ∨ (41 : Nat) = 55) := (fun q => q.elim (fun h => absurd h.2 (ni rfl)) (fun q => q.elim (fun h => absurd h (nn rfl)) (fun q => q.elim (fun h => absurd h.2 (ni rfl)) (fun q => q.elim (fun h => absurd h (nn rfl)) (fun q => q.elim (fun h => absurd h (nn rfl)) (fun h => absurd h (nn rfl)))))))
theorem qn_b0c4591b1 : ¬ (((41 : Nat) = 41 ∧ (21 : Int) = 0) ∨ (41 : Nat) = 42 ∨ ((41 : Nat) = 41 ∧ (21 : Int) = 50) ∨ (41 : Nat) = 59 ∨ (41 : Nat) = 54 ∨ (41 : Nat) = 55) := (fun q => q.elim (fun h => absurd h.2 (ni rfl)) (fun q => q.elim (fun h => absurd h (nn rfl)) (fun q => q.elim (fun h => absurd h.2 (ni rfl)) (fun q => q.elim (fun h => absurd h (nn rfl)) (fun q => q.elim (fun h => absurd h (nn rfl)) (fun h => absurd h (nn rfl)))))))
theorem qn_00a455246 : ¬ (((41 : Nat) = 41 ∧ (22 : Int) = 0) ∨ (41 : Nat) = 42 ∨ ((41 : Nat) = 41 ∧ (22 : Int) = 50) ∨ (41 : Nat) = 59 ∨ (41 : Nat) = 54 ∨ (41 : Nat) = 55) := (fun q => q.elim (fun h => absurd h.2 (ni rfl)) (fun q => q.elim (fun h => absurd h (nn rfl)) (fun q => q.elim (fun h => absurd h.2 (ni rfl)) (fun q => q.elim (fun h => absurd h (nn rfl)) (fun q => q.elim (fun h => absurd h (nn rfl)) (fun h => absurd h (nn rfl)))))))
theorem qn_375070522 : ¬ (((41 : Nat) = 41 ∧ (23 : Int) = 0) ∨ (41 : Nat) = 42 ∨ ((41 : Nat) = 41 ∧ (23 : Int) = 50) ∨ (41 : Nat) = 59 ∨ (41 : Nat) = 54 ∨ (41 : Nat) = 55) := (fun q => q.elim (fun h => absurd h.2 (ni rfl)) (fun q => q.elim (fun h => absurd h (nn rfl)) (fun q => q.elim (fun h => absurd h.2 (ni rfl)) (fun q => q.elim (fun h => absurd h (nn rfl)) (fun q => q.elim (fun h => absurd h (nn rfl)) (fun h => absurd h (nn rfl)))))))
theorem qn_8703343bc {P : Nat} {j : Int} (hP : P = 13 ∨ P = 25) : ¬ (((3 : Nat) = 0 ∧ j = 13) ∨ (3 : Nat) = (P + 10) ∨ (3 : Nat) = (P + 11) ∨ ((3 : Nat) = 9 ∧ j = 0) ∨ (3 : Nat) = 40) := (fun q => q.elim (fun h => absurd h.1 (nn rfl)) (fun q => q.elim (fun h => absurd h (pn hP rfl rfl)) (fun q => q.elim (fun h => absurd h (pn hP rfl rfl)) (fun q => q.elim (fun h => absurd h.1 (nn rfl)) (fun h => absurd h (nn rfl))))))
theorem qn_51e0e9667 {j : Int} : ¬ (((3 : Nat) = 41 ∧ j = 0) ∨ (3 : Nat) = 42 ∨ ((3 : Nat) = 41 ∧ j = 50) ∨ (3 : Nat) = 59 ∨ (3 : Nat) = 54 ∨ (3 : Nat) = 55) := (fun q => q.elim (fun h => absurd h.1 (nn rfl)) (fun q => q.elim (fun h => absurd h (nn rfl)) (fun q => q.elim (fun h => absurd h.1 (nn rfl)) (fun q => q.elim (fun h => absurd h (nn rfl)) (fun q => q.elim (fun h => absurd h (nn rfl)) (fun h => absurd h (nn rfl)))))))
theorem qn_5c50dd497 : ¬ (((41 : Nat) = 41 ∧ (52 : Int) = 0) ∨ (41 : Nat) = 42 ∨ ((41 : Nat) = 41 ∧ (52 : Int) = 50) ∨ (41 : Nat) = 59 ∨ (41 : Nat) = 54 ∨ (41 : Nat) = 55) := (fun q => q.elim (fun h => absurd h.2 (ni rfl)) (fun q => q.elim (fun h => absurd h (nn rfl)) (fun q => q.elim (fun h => absurd h.2 (ni rfl)) (fun q => q.elim (fun h => absurd h (nn rfl)) (fun q => q.elim (fun h => absurd h (nn rfl)) (fun h => absurd h (nn rfl)))))))
theorem qn_e74909efc : ¬ (((41 : Nat) = 41 ∧ (35 : Int) = 0) ∨ (41 : Nat) = 42 ∨ ((41 : Nat) = 41 ∧ (35 : Int) = 50) ∨ (41 : Nat) = 59 ∨ (41 : Nat) = 54 ∨ (41 : Nat) = 55) := (fun q => q.elim (fun h => absurd h.2 (ni rfl)) (fun q => q.elim (fun h => absurd h (nn rfl)) (fun q => q.elim (fun h => absurd h.2 (ni rfl)) (fun q => q.elim (fun h => absurd h (nn rfl)) (fun q => q.elim (fun h => absurd h (nn rfl)) (fun h => absurd h (nn rfl)))))))
theorem qn_304856459 : ¬ (((41 : Nat) = 41 ∧ (8 : Int) = 0) ∨ (41 : Nat) = 42 ∨ ((41 : Nat) = 41 ∧ (8 : Int) = 50) ∨ (41 : Nat) = 59 ∨ (41 : Nat) = 54 ∨ (41 : Nat) = 55) := (fun q => q.elim (fun h => absurd h.2 (ni rfl)) (fun q => q.elim (fun h => absurd h (nn rfl)) (fun q => q.elim (fun h => absurd h.2 (ni rfl)) (fun q => q.elim (fun h => absurd h (nn rfl)) (fun q => q.elim (fun h => absurd h (nn rfl)) (fun h => absurd h (nn rfl)))))))
theorem qn_ea1d8203a {j : Int} : ¬ (((2 : Nat) = 41 ∧ j = 0) ∨ (2 : Nat) = 42 ∨ ((2 : Nat) = 41 ∧ j = 50) ∨ (2 : Nat) = 59 ∨ (2 : Nat) = 54 ∨ (2 : Nat) = 55) := (fun q => q.elim (fun h => absurd h.1 (nn rfl)) (fun q => q.elim (fun h => absurd h (nn rfl)) (fun q => q.elim (fun h => absurd h.1 (nn rfl)) (fun q => q.elim (fun h => absurd h (nn rfl)) (fun q => q.elim (fun h => absurd h (nn rfl)) (fun h => absurd h (nn rfl)))))))
theorem qn_11c530ba0 {P : Nat} {j : Int} (hP : P = 13 ∨ P = 25) : ¬ (((2 : Nat) = 0 ∧ j = 13) ∨ (2 : Nat) = (P + 10) ∨ (2 : Nat) = (P + 11) ∨ ((2 : Nat) = 9 ∧ j = 0) ∨ (2 : Nat) = 40) := (fun q => q.elim (fun h => absurd h.1 (nn rfl)) (fun q => q.elim (fun h => absurd h (pn hP rfl rfl)) (fun q => q.elim (fun h => absurd h (pn hP rfl rfl)) (fun q => q.elim (fun h => absurd h.1 (nn rfl)) (fun h => absurd h (nn rfl))))))
theorem qn_921fc31f7 {j : Int} : ¬ (((43 : Nat) = 41 ∧ j = 0) ∨ (43 : Nat) = 42 ∨ ((43 : Nat) = 41 ∧ j = 50) ∨ (43 : Nat) = 59 ∨ (43 : Nat) = 54 ∨ (43 : Nat) = 55) := (fun q => q.elim (fun h => absurd h.1 (nn rfl)) (fun q => q.elim (fun h => absurd h (nn rfl)) (fun q => q.elim (fun h => absurd h.1 (nn rfl)) (fun q => q.elim (fun h => absurd h (nn rfl)) (fun q => q.elim (fun h => absurd h (nn rfl)) (fun h => absurd h (nn rfl)))))))
theorem qn_ce891e06c {P : Nat} {j : Int} (hP : P = 13 ∨ P = 25) : ¬ (((43 : Nat) = 0 ∧ j = 13) ∨ (43 : Nat) = (P + 10) ∨ (43 : Nat) = (P + 11) ∨ ((43 : Nat) = 9 ∧ j = 0) ∨ (43 : Nat) = 40) := (fun q => q.elim (fun h => absurd h.1 (nn rfl)) (fun q => q.elim (fun h => absurd h (pn hP rfl rfl)) (fun q => q.elim (fun h => absurd h (pn hP rfl rfl)) (fun q => q.elim (fun h => absurd h.1 (nn rfl)) (fun h => absurd h (nn rfl))))))
theorem qn_9f1fcb8f5 {j : Int} : ¬ (((6 : Nat) = 41 ∧ j = 0) ∨ (6 : Nat) = 42 ∨ ((6 : Nat) = 41 ∧ j = 50) ∨ (6 : Nat) = 59 ∨ (6 : Nat) = 54 ∨ (6 : Nat) = 55) := (fun q => q.elim (fun h => absurd h.1 (nn rfl)) (fun q => q.elim (fun h => absurd h (nn rfl)) (fun q => q.elim (fun h => absurd h.1 (nn rfl)) (fun q => q.elim (fun h => absurd h (nn rfl)) (fun q => q.elim (fun h => absurd h (nn rfl)) (fun h => absurd h (nn rfl)))))))
theorem qn_33622cbee {P : Nat} {j : Int} (hP : P = 13 ∨ P = 25) : ¬ (((6 : Nat) = 0 ∧ j = 13) ∨ (6 : Nat) = (P + 10) ∨ (6 : Nat) = (P + 11) ∨ ((6 : Nat) = 9 ∧ j = 0) ∨ (6 : Nat) = 40) := (fun q => q.elim (fun h => absurd h.1 (nn rfl)) (fun q => q.elim (fun h => absurd h (pn hP rfl rfl)) (fun q => q.elim (fun h => absurd h (pn hP rfl rfl)) (fun q => q.elim (fun h => absurd h.1 (nn rfl)) (fun h => absurd h (nn rfl))))))
theorem qn_819b02093 {j : Int} : ¬ (((66 : Nat) = 41 ∧ j = 0) ∨ (66 : Nat) = 42 ∨ ((66 : Nat) = 41 ∧ j = 50) ∨ (66 : Nat) = 59 ∨ (66 : Nat) = 54 ∨ (66 : Nat) = 55) := (fun q => q.elim (fun h => absurd h.1 (nn rfl)) (fun q => q.elim (fun h => absurd h (nn rfl)) (fun q => q.elim (fun h => absurd h.1 (nn rfl)) (fun q => q.elim (fun h => absurd h (nn rfl)) (fun q => q.elim (fun h => absurd h (nn rfl)) (fun h => absurd h (nn rfl)))))))
theorem qn_7036d22af {P : Nat} {j : Int} (hP : P = 13 ∨ P = 25) : ¬ (((66 : Nat) = 0 ∧ j = 13) ∨ (66 : Nat) = (P + 10) ∨ (66 : Nat) = (P + 11) ∨ ((66 : Nat) = 9 ∧ j = 0) ∨ (66 : Nat) = 40) := (fun q => q.elim (fun h => absurd h.1 (nn rfl)) (fun q => q.elim (fun h => absurd h (pn hP rfl rfl)) (fun q => q.elim (fun h => absurd h (pn hP rfl rfl)) (fun q => q.elim (fun h => absurd h.1 (nn rfl)) (fun h => absurd h (nn rfl))))))
theorem c_296_1300 : mLk 296 1300 = some (.aload_n 1, 1) := rfl
theorem c_296_1301 : mLk 296 1301 = some (.aload_n 0, 1) := rfl
theorem c_296_1302 : mLk 296 1302 = some (.iload 4, 2) := rfl
theorem c_296_1304 : mLk 296 1304 = some (.iconst 1, 1) := rfl
theorem c_296_1305 : mLk 296 1305 = some (.iadd, 1) := rfl
theorem c_296_1306 : mLk 296 1306 = some (.iaload, 1) := rfl
theorem c_296_1307 : mLk 296 1307 = some (.aload_n 0, 1) := rfl
theorem c_296_1308 : mLk 296 1308 = some (.iload 4, 2) := rfl
theorem c_296_1310 : mLk 296 1310 = some (.iconst 2, 1) := rfl
theorem c_296_1311 : mLk 296 1311 = some (.iadd, 1) := rfl
theorem c_296_1312 : mLk 296 1312 = some (.iaload, 1) := rfl
theorem c_296_1313 : mLk 296 1313 = some (.aload_n 3, 1) := rfl
theorem c_296_1314 : mLk 296 1314 = some (.invokestatic 217, 3) := rfl
theorem c_286_0 : mLk 286 0 = some (.aload_n 3, 1) := rfl
theorem c_286_1 : mLk 286 1 = some (.iconst 0, 1) := rfl
theorem c_286_2 : mLk 286 2 = some (.aload_n 0, 1) := rfl
theorem c_286_3 : mLk 286 3 = some (.iload_n 1, 1) := rfl
theorem c_286_4 : mLk 286 4 = some (.iload_n 2, 1) := rfl
theorem c_286_5 : mLk 286 5 = some (.invokevirtual 87, 3) := rfl
theorem c_296_1317 : mLk 296 1317 = some (.istore 5, 2) := rfl
theorem c_296_1319 : mLk 296 1319 = some (.aload_n 2, 1) := rfl
theorem c_296_1320 : mLk 296 1320 = some (.aload_n 0, 1) := rfl
theorem c_296_1321 : mLk 296 1321 = some (.iload 4, 2) := rfl
theorem c_296_1323 : mLk 296 1323 = some (.iconst 1, 1) := rfl
theorem c_296_1324 : mLk 296 1324 = some (.iadd, 1) := rfl
theorem c_296_1325 : mLk 296 1325 = some (.iaload, 1) := rfl
theorem c_296_1326 : mLk 296 1326 = some (.aload_n 0, 1) := rfl
theorem c_296_1327 : mLk 296 1327 = some (.iload 4, 2) := rfl
theorem c_296_1329 : mLk 296 1329 = some (.iconst 2, 1) := rfl
theorem c_296_1330 : mLk 296 1330 = some (.iadd, 1) := rfl
theorem c_296_1331 : mLk 296 1331 = some (.iaload, 1) := rfl
theorem c_296_1332 : mLk 296 1332 = some (.invokevirtual 219, 3) := rfl
theorem c_296_1335 : mLk 296 1335 = some (.istore 6, 2) := rfl
theorem c_296_1337 : mLk 296 1337 = some (.goto 479, 3) := rfl
theorem c_286_8 : mLk 286 8 = some (.i2l, 1) := rfl
theorem c_286_9 : mLk 286 9 = some (.lastore, 1) := rfl
theorem c_286_10 : mLk 286 10 = some (.goto 7, 3) := rfl
theorem c_286_17 : mLk 286 17 = some (.iconst 0, 1) := rfl
theorem c_286_18 : mLk 286 18 = some (.ireturn, 1) := rfl
theorem c_296_1340 : mLk 296 1340 = some (.aload_n 1, 1) := rfl
theorem c_296_1341 : mLk 296 1341 = some (.invokevirtual 220, 3) := rfl
theorem c_296_1344 : mLk 296 1344 = some (.pop, 1) := rfl
theorem c_296_1345 : mLk 296 1345 = some (.aload_n 2, 1) := rfl
theorem c_296_1346 : mLk 296 1346 = some (.invokevirtual 223, 3) := rfl
theorem c_296_1349 : mLk 296 1349 = some (.pop, 1) := rfl
theorem c_296_1350 : mLk 296 1350 = some (.goto 466, 3) := rfl
theorem c_296_1353 : mLk 296 1353 = some (.aload_n 1, 1) := rfl
theorem c_296_1354 : mLk 296 1354 = some (.aload_n 0, 1) := rfl
theorem c_296_1355 : mLk 296 1355 = some (.iload 4, 2) := rfl
theorem c_296_1357 : mLk 296 1357 = some (.iconst 1, 1) := rfl
theorem c_296_1358 : mLk 296 1358 = some (.iadd, 1) := rfl
theorem c_296_1359 : mLk 296 1359 = some (.iaload, 1) := rfl
theorem c_296_1360 : mLk 296 1360 = some (.aload_n 3, 1) := rfl
theorem c_296_1361 : mLk 296 1361 = some (.invokestatic 224, 3) := rfl
theorem c_287_0 : mLk 287 0 = some (.aload_n 2, 1) := rfl
theorem c_287_1 : mLk 287 1 = some (.iconst 0, 1) := rfl
theorem c_287_2 : mLk 287 2 = some (.aload_n 0, 1) := rfl
theorem c_287_3 : mLk 287 3 = some (.iload_n 1, 1) := rfl
theorem c_287_4 : mLk 287 4 = some (.invokevirtual 90, 3) := rfl
theorem c_296_1364 : mLk 296 1364 = some (.istore 5, 2) := rfl
theorem c_296_1366 : mLk 296 1366 = some (.aload_n 2, 1) := rfl
theorem c_296_1367 : mLk 296 1367 = some (.aload_n 0, 1) := rfl
theorem c_296_1368 : mLk 296 1368 = some (.iload 4, 2) := rfl
theorem c_296_1370 : mLk 296 1370 = some (.iconst 1, 1) := rfl
theorem c_296_1371 : mLk 296 1371 = some (.iadd, 1) := rfl
theorem c_296_1372 : mLk 296 1372 = some (.iaload, 1) := rfl
theorem c_296_1373 : mLk 296 1373 = some (.invokevirtual 226, 3) := rfl
theorem c_296_1376 : mLk 296 1376 = some (.istore 6, 2) := rfl
theorem c_296_1378 : mLk 296 1378 = some (.goto 438, 3) := rfl
theorem c_287_7 : mLk 287 7 = some (.i2l, 1) := rfl
theorem c_287_8 : mLk 287 8 = some (.lastore, 1) := rfl
theorem c_287_9 : mLk 287 9 = some (.goto 6, 3) := rfl
theorem c_287_15 : mLk 287 15 = some (.iconst 0, 1) := rfl
theorem c_287_16 : mLk 287 16 = some (.ireturn, 1) := rfl
theorem c_296_1381 : mLk 296 1381 = some (.aload_n 1, 1) := rfl
theorem c_296_1382 : mLk 296 1382 = some (.aload_n 0, 1) := rfl
theorem c_296_1383 : mLk 296 1383 = some (.iload 4, 2) := rfl
theorem c_296_1385 : mLk 296 1385 = some (.iconst 1, 1) := rfl
theorem c_296_1386 : mLk 296 1386 = some (.iadd, 1) := rfl
theorem c_296_1387 : mLk 296 1387 = some (.iaload, 1) := rfl
theorem c_296_1388 : mLk 296 1388 = some (.aload_n 3, 1) := rfl
theorem c_296_1389 : mLk 296 1389 = some (.invokestatic 227, 3) := rfl
theorem c_288_0 : mLk 288 0 = some (.aload_n 2, 1) := rfl
theorem c_288_1 : mLk 288 1 = some (.iconst 0, 1) := rfl
theorem c_288_2 : mLk 288 2 = some (.aload_n 0, 1) := rfl
theorem c_288_3 : mLk 288 3 = some (.iload_n 1, 1) := rfl
theorem c_288_4 : mLk 288 4 = some (.invokevirtual 93, 3) := rfl
theorem c_296_1392 : mLk 296 1392 = some (.istore 5, 2) := rfl
theorem c_296_1394 : mLk 296 1394 = some (.aload_n 2, 1) := rfl
theorem c_296_1395 : mLk 296 1395 = some (.aload_n 0, 1) := rfl
theorem c_296_1396 : mLk 296 1396 = some (.iload 4, 2) := rfl
theorem c_296_1398 : mLk 296 1398 = some (.iconst 1, 1) := rfl
theorem c_296_1399 : mLk 296 1399 = some (.iadd, 1) := rfl
theorem c_296_1400 : mLk 296 1400 = some (.iaload, 1) := rfl
theorem c_296_1401 : mLk 296 1401 = some (.invokevirtual 229, 3) := rfl
theorem c_296_1404 : mLk 296 1404 = some (.istore 6, 2) := rfl
theorem c_296_1406 : mLk 296 1406 = some (.goto 410, 3) := rfl
theorem c_288_7 : mLk 288 7 = some (.i2l, 1) := rfl
theorem c_288_8 : mLk 288 8 = some (.lastore, 1) := rfl
theorem c_288_9 : mLk 288 9 = some (.goto 6, 3) := rfl
theorem c_288_15 : mLk 288 15 = some (.iconst 0, 1) := rfl
theorem c_288_16 : mLk 288 16 = some (.ireturn, 1) := rfl
theorem c_296_1409 : mLk 296 1409 = some (.aload_n 1, 1) := rfl
theorem c_296_1410 : mLk 296 1410 = some (.aload_n 0, 1) := rfl
theorem c_296_1411 : mLk 296 1411 = some (.iload 4, 2) := rfl
theorem c_296_1413 : mLk 296 1413 = some (.iconst 1, 1) := rfl
theorem c_296_1414 : mLk 296 1414 = some (.iadd, 1) := rfl
theorem c_296_1415 : mLk 296 1415 = some (.iaload, 1) := rfl
theorem c_296_1416 : mLk 296 1416 = some (.aload_n 3, 1) := rfl
theorem c_296_1417 : mLk 296 1417 = some (.invokestatic 230, 3) := rfl
theorem c_289_0 : mLk 289 0 = some (.aload_n 2, 1) := rfl
theorem c_289_1 : mLk 289 1 = some (.iconst 0, 1) := rfl
theorem c_289_2 : mLk 289 2 = some (.aload_n 0, 1) := rfl
theorem c_289_3 : mLk 289 3 = some (.iload_n 1, 1) := rfl
theorem c_289_4 : mLk 289 4 = some (.invokevirtual 96, 3) := rfl
theorem c_296_1420 : mLk 296 1420 = some (.istore 5, 2) := rfl
theorem c_296_1422 : mLk 296 1422 = some (.aload_n 2, 1) := rfl
theorem c_296_1423 : mLk 296 1423 = some (.aload_n 0, 1) := rfl
theorem c_296_1424 : mLk 296 1424 = some (.iload 4, 2) := rfl
theorem c_296_1426 : mLk 296 1426 = some (.iconst 1, 1) := rfl
theorem c_296_1427 : mLk 296 1427 = some (.iadd, 1) := rfl
theorem c_296_1428 : mLk 296 1428 = some (.iaload, 1) := rfl
theorem c_296_1429 : mLk 296 1429 = some (.invokevirtual 232, 3) := rfl
theorem c_296_1432 : mLk 296 1432 = some (.istore 6, 2) := rfl
theorem c_296_1434 : mLk 296 1434 = some (.goto 382, 3) := rfl
theorem c_289_7 : mLk 289 7 = some (.i2l, 1) := rfl
theorem c_289_8 : mLk 289 8 = some (.lastore, 1) := rfl
theorem c_289_9 : mLk 289 9 = some (.goto 6, 3) := rfl
theorem c_289_15 : mLk 289 15 = some (.iconst 0, 1) := rfl
theorem c_289_16 : mLk 289 16 = some (.ireturn, 1) := rfl
theorem c_296_1437 : mLk 296 1437 = some (.aload_n 1, 1) := rfl
theorem c_296_1438 : mLk 296 1438 = some (.aload_n 0, 1) := rfl
theorem c_296_1439 : mLk 296 1439 = some (.iload 4, 2) := rfl
theorem c_296_1441 : mLk 296 1441 = some (.iconst 1, 1) := rfl
theorem c_296_1442 : mLk 296 1442 = some (.iadd, 1) := rfl
theorem c_296_1443 : mLk 296 1443 = some (.iaload, 1) := rfl
theorem c_296_1444 : mLk 296 1444 = some (.aload_n 3, 1) := rfl
theorem c_296_1445 : mLk 296 1445 = some (.invokestatic 233, 3) := rfl
theorem c_290_0 : mLk 290 0 = some (.aload_n 2, 1) := rfl
theorem c_290_1 : mLk 290 1 = some (.iconst 0, 1) := rfl
theorem c_290_2 : mLk 290 2 = some (.aload_n 0, 1) := rfl
theorem c_290_3 : mLk 290 3 = some (.iload_n 1, 1) := rfl
theorem c_290_4 : mLk 290 4 = some (.invokevirtual 99, 3) := rfl
theorem c_296_1448 : mLk 296 1448 = some (.istore 5, 2) := rfl
theorem c_296_1450 : mLk 296 1450 = some (.aload_n 2, 1) := rfl
theorem c_296_1451 : mLk 296 1451 = some (.aload_n 0, 1) := rfl
theorem c_296_1452 : mLk 296 1452 = some (.iload 4, 2) := rfl
theorem c_296_1454 : mLk 296 1454 = some (.iconst 1, 1) := rfl
theorem c_296_1455 : mLk 296 1455 = some (.iadd, 1) := rfl
theorem c_296_1456 : mLk 296 1456 = some (.iaload, 1) := rfl
theorem c_296_1457 : mLk 296 1457 = some (.invokevirtual 235, 3) := rfl
theorem c_296_1460 : mLk 296 1460 = some (.istore 6, 2) := rfl
theorem c_296_1462 : mLk 296 1462 = some (.goto 354, 3) := rfl
theorem c_290_7 : mLk 290 7 = some (.i2l, 1) := rfl
theorem c_290_8 : mLk 290 8 = some (.lastore, 1) := rfl
theorem c_290_9 : mLk 290 9 = some (.goto 6, 3) := rfl
theorem c_290_15 : mLk 290 15 = some (.iconst 0, 1) := rfl
theorem c_290_16 : mLk 290 16 = some (.ireturn, 1) := rfl
theorem c_296_1465 : mLk 296 1465 = some (.aload_n 1, 1) := rfl
theorem c_296_1466 : mLk 296 1466 = some (.aload_n 0, 1) := rfl
theorem c_296_1467 : mLk 296 1467 = some (.iload 4, 2) := rfl
theorem c_296_1469 : mLk 296 1469 = some (.iconst 1, 1) := rfl
theorem c_296_1470 : mLk 296 1470 = some (.iadd, 1) := rfl
theorem c_296_1471 : mLk 296 1471 = some (.iaload, 1) := rfl
theorem c_296_1472 : mLk 296 1472 = some (.aload_n 0, 1) := rfl
theorem c_296_1473 : mLk 296 1473 = some (.iload 4, 2) := rfl
theorem c_296_1475 : mLk 296 1475 = some (.iconst 2, 1) := rfl
theorem c_296_1476 : mLk 296 1476 = some (.iadd, 1) := rfl
theorem c_296_1477 : mLk 296 1477 = some (.iaload, 1) := rfl
theorem c_296_1478 : mLk 296 1478 = some (.aload_n 3, 1) := rfl
theorem c_296_1479 : mLk 296 1479 = some (.invokestatic 236, 3) := rfl
theorem c_291_0 : mLk 291 0 = some (.aload_n 3, 1) := rfl
theorem c_291_1 : mLk 291 1 = some (.iconst 0, 1) := rfl
theorem c_291_2 : mLk 291 2 = some (.aload_n 0, 1) := rfl
theorem c_291_3 : mLk 291 3 = some (.iload_n 1, 1) := rfl
theorem c_291_4 : mLk 291 4 = some (.iload_n 2, 1) := rfl
theorem c_291_5 : mLk 291 5 = some (.invokevirtual 102, 3) := rfl
theorem c_296_1482 : mLk 296 1482 = some (.istore 5, 2) := rfl
theorem c_296_1484 : mLk 296 1484 = some (.aload_n 2, 1) := rfl
theorem c_296_1485 : mLk 296 1485 = some (.aload_n 0, 1) := rfl
theorem c_296_1486 : mLk 296 1486 = some (.iload 4, 2) := rfl
theorem c_296_1488 : mLk 296 1488 = some (.iconst 1, 1) := rfl
theorem c_296_1489 : mLk 296 1489 = some (.iadd, 1) := rfl
theorem c_296_1490 : mLk 296 1490 = some (.iaload, 1) := rfl
theorem c_296_1491 : mLk 296 1491 = some (.aload_n 0, 1) := rfl
theorem c_296_1492 : mLk 296 1492 = some (.iload 4, 2) := rfl
theorem c_296_1494 : mLk 296 1494 = some (.iconst 2, 1) := rfl
theorem c_296_1495 : mLk 296 1495 = some (.iadd, 1) := rfl
theorem c_296_1496 : mLk 296 1496 = some (.iaload, 1) := rfl
theorem c_296_1497 : mLk 296 1497 = some (.invokevirtual 238, 3) := rfl
theorem c_296_1500 : mLk 296 1500 = some (.istore 6, 2) := rfl
theorem c_296_1502 : mLk 296 1502 = some (.goto 314, 3) := rfl
theorem c_291_8 : mLk 291 8 = some (.i2l, 1) := rfl
theorem c_291_9 : mLk 291 9 = some (.lastore, 1) := rfl
theorem c_291_10 : mLk 291 10 = some (.goto 7, 3) := rfl
theorem c_291_17 : mLk 291 17 = some (.iconst 0, 1) := rfl
theorem c_291_18 : mLk 291 18 = some (.ireturn, 1) := rfl
theorem c_296_1505 : mLk 296 1505 = some (.aload_n 1, 1) := rfl
theorem c_296_1506 : mLk 296 1506 = some (.invokevirtual 239, 3) := rfl
theorem c_296_1509 : mLk 296 1509 = some (.pop, 1) := rfl
theorem c_296_1510 : mLk 296 1510 = some (.aload_n 2, 1) := rfl
theorem c_296_1511 : mLk 296 1511 = some (.invokevirtual 242, 3) := rfl
theorem c_296_1514 : mLk 296 1514 = some (.pop, 1) := rfl
theorem c_296_1515 : mLk 296 1515 = some (.goto 301, 3) := rfl
theorem c_296_1518 : mLk 296 1518 = some (.aload_n 1, 1) := rfl
theorem c_296_1519 : mLk 296 1519 = some (.aload_n 0, 1) := rfl
theorem c_296_1520 : mLk 296 1520 = some (.iload 4, 2) := rfl
theorem c_296_1522 : mLk 296 1522 = some (.iconst 1, 1) := rfl
theorem c_296_1523 : mLk 296 1523 = some (.iadd, 1) := rfl
theorem c_296_1524 : mLk 296 1524 = some (.iaload, 1) := rfl
theorem c_296_1525 : mLk 296 1525 = some (.aload_n 3, 1) := rfl
theorem c_296_1526 : mLk 296 1526 = some (.invokestatic 243, 3) := rfl
theorem c_292_0 : mLk 292 0 = some (.aload_n 2, 1) := rfl
theorem c_292_1 : mLk 292 1 = some (.iconst 0, 1) := rfl
theorem c_292_2 : mLk 292 2 = some (.aload_n 0, 1) := rfl
theorem c_292_3 : mLk 292 3 = some (.iload_n 1, 1) := rfl
theorem c_292_4 : mLk 292 4 = some (.invokevirtual 105, 3) := rfl
theorem c_296_1529 : mLk 296 1529 = some (.istore 5, 2) := rfl
theorem c_296_1531 : mLk 296 1531 = some (.aload_n 2, 1) := rfl
theorem c_296_1532 : mLk 296 1532 = some (.aload_n 0, 1) := rfl
theorem c_296_1533 : mLk 296 1533 = some (.iload 4, 2) := rfl
theorem c_296_1535 : mLk 296 1535 = some (.iconst 1, 1) := rfl
theorem c_296_1536 : mLk 296 1536 = some (.iadd, 1) := rfl
theorem c_296_1537 : mLk 296 1537 = some (.iaload, 1) := rfl
theorem c_296_1538 : mLk 296 1538 = some (.invokevirtual 245, 3) := rfl
theorem c_296_1541 : mLk 296 1541 = some (.istore 6, 2) := rfl
theorem c_296_1543 : mLk 296 1543 = some (.goto 273, 3) := rfl
theorem c_292_7 : mLk 292 7 = some (.i2l, 1) := rfl
theorem c_292_8 : mLk 292 8 = some (.lastore, 1) := rfl
theorem c_292_9 : mLk 292 9 = some (.goto 6, 3) := rfl
theorem c_292_15 : mLk 292 15 = some (.iconst 0, 1) := rfl
theorem c_292_16 : mLk 292 16 = some (.ireturn, 1) := rfl
theorem c_296_1546 : mLk 296 1546 = some (.aload_n 1, 1) := rfl
theorem c_296_1547 : mLk 296 1547 = some (.aload_n 0, 1) := rfl
theorem c_296_1548 : mLk 296 1548 = some (.iload 4, 2) := rfl
theorem c_296_1550 : mLk 296 1550 = some (.iconst 1, 1) := rfl
theorem c_296_1551 : mLk 296 1551 = some (.iadd, 1) := rfl
theorem c_296_1552 : mLk 296 1552 = some (.iaload, 1) := rfl
theorem c_296_1553 : mLk 296 1553 = some (.aload_n 0, 1) := rfl
theorem c_296_1554 : mLk 296 1554 = some (.iload 4, 2) := rfl
theorem c_296_1556 : mLk 296 1556 = some (.iconst 2, 1) := rfl
theorem c_296_1557 : mLk 296 1557 = some (.iadd, 1) := rfl
theorem c_296_1558 : mLk 296 1558 = some (.iaload, 1) := rfl
theorem c_296_1559 : mLk 296 1559 = some (.aload_n 3, 1) := rfl
theorem c_296_1560 : mLk 296 1560 = some (.invokestatic 246, 3) := rfl
theorem c_293_0 : mLk 293 0 = some (.aload_n 3, 1) := rfl
theorem c_293_1 : mLk 293 1 = some (.iconst 0, 1) := rfl
theorem c_293_2 : mLk 293 2 = some (.aload_n 0, 1) := rfl
theorem c_293_3 : mLk 293 3 = some (.iload_n 1, 1) := rfl
theorem c_293_4 : mLk 293 4 = some (.iload_n 2, 1) := rfl
theorem c_293_5 : mLk 293 5 = some (.invokevirtual 108, 3) := rfl
theorem c_296_1563 : mLk 296 1563 = some (.istore 5, 2) := rfl
theorem c_296_1565 : mLk 296 1565 = some (.aload_n 2, 1) := rfl
theorem c_296_1566 : mLk 296 1566 = some (.aload_n 0, 1) := rfl
theorem c_296_1567 : mLk 296 1567 = some (.iload 4, 2) := rfl
theorem c_296_1569 : mLk 296 1569 = some (.iconst 1, 1) := rfl
theorem c_296_1570 : mLk 296 1570 = some (.iadd, 1) := rfl
theorem c_296_1571 : mLk 296 1571 = some (.iaload, 1) := rfl
theorem c_296_1572 : mLk 296 1572 = some (.aload_n 0, 1) := rfl
theorem c_296_1573 : mLk 296 1573 = some (.iload 4, 2) := rfl
theorem c_296_1575 : mLk 296 1575 = some (.iconst 2, 1) := rfl
theorem c_296_1576 : mLk 296 1576 = some (.iadd, 1) := rfl
theorem c_296_1577 : mLk 296 1577 = some (.iaload, 1) := rfl
theorem c_296_1578 : mLk 296 1578 = some (.invokevirtual 248, 3) := rfl
theorem c_296_1581 : mLk 296 1581 = some (.istore 6, 2) := rfl
theorem c_296_1583 : mLk 296 1583 = some (.goto 233, 3) := rfl
theorem c_293_8 : mLk 293 8 = some (.i2l, 1) := rfl
theorem c_293_9 : mLk 293 9 = some (.lastore, 1) := rfl
theorem c_293_10 : mLk 293 10 = some (.goto 11, 3) := rfl
theorem c_293_21 : mLk 293 21 = some (.iconst 0, 1) := rfl
theorem c_293_22 : mLk 293 22 = some (.ireturn, 1) := rfl
theorem c_296_1586 : mLk 296 1586 = some (.aload_n 1, 1) := rfl
theorem c_296_1587 : mLk 296 1587 = some (.aload_n 0, 1) := rfl
theorem c_296_1588 : mLk 296 1588 = some (.iload 4, 2) := rfl
theorem c_296_1590 : mLk 296 1590 = some (.iconst 1, 1) := rfl
theorem c_296_1591 : mLk 296 1591 = some (.iadd, 1) := rfl
theorem c_296_1592 : mLk 296 1592 = some (.iaload, 1) := rfl
theorem c_296_1593 : mLk 296 1593 = some (.aload_n 0, 1) := rfl
theorem c_296_1594 : mLk 296 1594 = some (.iload 4, 2) := rfl
theorem c_296_1596 : mLk 296 1596 = some (.iconst 2, 1) := rfl
theorem c_296_1597 : mLk 296 1597 = some (.iadd, 1) := rfl
theorem c_296_1598 : mLk 296 1598 = some (.iaload, 1) := rfl
theorem c_296_1599 : mLk 296 1599 = some (.aload_n 0, 1) := rfl
theorem c_296_1600 : mLk 296 1600 = some (.iload 4, 2) := rfl
theorem c_296_1602 : mLk 296 1602 = some (.iconst 3, 1) := rfl
theorem c_296_1603 : mLk 296 1603 = some (.iadd, 1) := rfl
theorem c_296_1604 : mLk 296 1604 = some (.iaload, 1) := rfl
theorem c_296_1605 : mLk 296 1605 = some (.aload_n 0, 1) := rfl
theorem c_296_1606 : mLk 296 1606 = some (.iload 4, 2) := rfl
theorem c_296_1608 : mLk 296 1608 = some (.iconst 4, 1) := rfl
theorem c_296_1609 : mLk 296 1609 = some (.iadd, 1) := rfl
theorem c_296_1610 : mLk 296 1610 = some (.iaload, 1) := rfl
theorem c_296_1611 : mLk 296 1611 = some (.aload_n 3, 1) := rfl
theorem c_296_1612 : mLk 296 1612 = some (.invokestatic 249, 3) := rfl
theorem c_294_0 : mLk 294 0 = some (.aload 5, 2) := rfl
theorem c_294_2 : mLk 294 2 = some (.iconst 0, 1) := rfl
theorem c_294_3 : mLk 294 3 = some (.aload_n 0, 1) := rfl
theorem c_294_4 : mLk 294 4 = some (.iload_n 1, 1) := rfl
theorem c_294_5 : mLk 294 5 = some (.iload_n 2, 1) := rfl
theorem c_294_6 : mLk 294 6 = some (.iload_n 3, 1) := rfl
theorem c_294_7 : mLk 294 7 = some (.iload 4, 2) := rfl
theorem c_294_9 : mLk 294 9 = some (.invokevirtual 111, 3) := rfl
theorem c_296_1615 : mLk 296 1615 = some (.istore 5, 2) := rfl
theorem c_296_1617 : mLk 296 1617 = some (.aload_n 2, 1) := rfl
theorem c_296_1618 : mLk 296 1618 = some (.aload_n 0, 1) := rfl
theorem c_296_1619 : mLk 296 1619 = some (.iload 4, 2) := rfl
theorem c_296_1621 : mLk 296 1621 = some (.iconst 1, 1) := rfl
theorem c_296_1622 : mLk 296 1622 = some (.iadd, 1) := rfl
theorem c_296_1623 : mLk 296 1623 = some (.iaload, 1) := rfl
theorem c_296_1624 : mLk 296 1624 = some (.aload_n 0, 1) := rfl
theorem c_296_1625 : mLk 296 1625 = some (.iload 4, 2) := rfl
theorem c_296_1627 : mLk 296 1627 = some (.iconst 2, 1) := rfl
theorem c_296_1628 : mLk 296 1628 = some (.iadd, 1) := rfl
theorem c_296_1629 : mLk 296 1629 = some (.iaload, 1) := rfl
theorem c_296_1630 : mLk 296 1630 = some (.aload_n 0, 1) := rfl
theorem c_296_1631 : mLk 296 1631 = some (.iload 4, 2) := rfl
theorem c_296_1633 : mLk 296 1633 = some (.iconst 3, 1) := rfl
theorem c_296_1634 : mLk 296 1634 = some (.iadd, 1) := rfl
theorem c_296_1635 : mLk 296 1635 = some (.iaload, 1) := rfl
theorem c_296_1636 : mLk 296 1636 = some (.aload_n 0, 1) := rfl
theorem c_296_1637 : mLk 296 1637 = some (.iload 4, 2) := rfl
theorem c_296_1639 : mLk 296 1639 = some (.iconst 4, 1) := rfl
theorem c_296_1640 : mLk 296 1640 = some (.iadd, 1) := rfl
theorem c_296_1641 : mLk 296 1641 = some (.iaload, 1) := rfl
theorem c_296_1642 : mLk 296 1642 = some (.invokevirtual 251, 3) := rfl
theorem c_296_1645 : mLk 296 1645 = some (.istore 6, 2) := rfl
theorem c_296_1647 : mLk 296 1647 = some (.goto 169, 3) := rfl
theorem c_294_12 : mLk 294 12 = some (.i2l, 1) := rfl
theorem c_294_13 : mLk 294 13 = some (.lastore, 1) := rfl
theorem c_294_14 : mLk 294 14 = some (.goto 7, 3) := rfl
theorem c_294_21 : mLk 294 21 = some (.iconst 0, 1) := rfl
theorem c_294_22 : mLk 294 22 = some (.ireturn, 1) := rfl
theorem km_9_102 : a_lk (kM 9) 102 = some (0, 100) := rfl
theorem km_9_105 : a_lk (kM 9) 105 = some (0, 102) := rfl
theorem km_9_108 : a_lk (kM 9) 108 = some (0, 116) := rfl
theorem km_9_111 : a_lk (kM 9) 111 = some (0, 137) := rfl
theorem km_9_219 : a_lk (kM 9) 219 = some (0, 242) := rfl
theorem km_9_220 : a_lk (kM 9) 220 = some (0, 101) := rfl
theorem km_9_223 : a_lk (kM 9) 223 = some (0, 243) := rfl
theorem km_9_226 : a_lk (kM 9) 226 = some (0, 244) := rfl
theorem km_9_229 : a_lk (kM 9) 229 = some (0, 245) := rfl
theorem km_9_232 : a_lk (kM 9) 232 = some (0, 246) := rfl
theorem km_9_235 : a_lk (kM 9) 235 = some (0, 247) := rfl
theorem km_9_238 : a_lk (kM 9) 238 = some (0, 248) := rfl
theorem km_9_239 : a_lk (kM 9) 239 = some (0, 107) := rfl
theorem km_9_242 : a_lk (kM 9) 242 = some (0, 249) := rfl
theorem km_9_245 : a_lk (kM 9) 245 = some (0, 250) := rfl
theorem km_9_248 : a_lk (kM 9) 248 = some (0, 251) := rfl
theorem km_9_251 : a_lk (kM 9) 251 = some (0, 255) := rfl
theorem km_9_87 : a_lk (kM 9) 87 = some (0, 108) := rfl
theorem km_9_90 : a_lk (kM 9) 90 = some (0, 109) := rfl
theorem km_9_93 : a_lk (kM 9) 93 = some (0, 98) := rfl
theorem km_9_96 : a_lk (kM 9) 96 = some (0, 99) := rfl
theorem km_9_99 : a_lk (kM 9) 99 = some (0, 115) := rfl
set_option maxRecDepth 100000 in
set_option maxHeartbeats 4000000 in
theorem o_27 {xs : Nat → Int32} {L i0 d nc ns P Q : Nat} {c : ME} {Z : AR → Prop} (hi : i0 + 8 ≤ L) (hL : L ≤ 100000) (hI : Iv 0 (-1) P Q c) (hR : Rq P c) (K : ∀ (P2 Q2 : Nat) (c2 : ME) (e : Nat), e ≤ 1 → Iv 0 (-1) P2 Q2 c2 → (Rq P2 c2) → Wp (a_scr L xs) (d + 90) 296 1816 [(4, vi (i0 : Int)), (3, .ref 67), (2, .ref 41), (1, .ref 0), (0, .ref a_SC)] [] (Wd P2 Q2 P2 P2 c2) (nc + e) (ns + 6 * e) Z) : Wp (a_scr L xs) (d + 90) 296 1300 [(4, vi (i0 : Int)), (3, .ref 67), (2, .ref 41), (1, .ref 0), (0, .ref a_SC)] [] (Wd P Q P P c) nc ns Z := by
  obtain ⟨x1, hx1⟩ : ∃ z, (xs (i0 + 1)).toInt = z := ⟨_, rfl⟩
  have x1r := c_rng (xs (i0 + 1))
  rw [hx1] at x1r
  obtain ⟨x2, hx2⟩ : ∃ z, (xs (i0 + 2)).toInt = z := ⟨_, rfl⟩
  have x2r := c_rng (xs (i0 + 2))
  rw [hx2] at x2r
  obtain ⟨x3, hx3⟩ : ∃ z, (xs (i0 + 3)).toInt = z := ⟨_, rfl⟩
  have x3r := c_rng (xs (i0 + 3))
  rw [hx3] at x3r
  obtain ⟨x4, hx4⟩ : ∃ z, (xs (i0 + 4)).toInt = z := ⟨_, rfl⟩
  have x4r := c_rng (xs (i0 + 4))
  rw [hx4] at x4r
  obtain ⟨x5, hx5⟩ : ∃ z, (xs (i0 + 5)).toInt = z := ⟨_, rfl⟩
  have x5r := c_rng (xs (i0 + 5))
  rw [hx5] at x5r
  obtain ⟨x6, hx6⟩ : ∃ z, (xs (i0 + 6)).toInt = z := ⟨_, rfl⟩
  have x6r := c_rng (xs (i0 + 6))
  rw [hx6] at x6r
  obtain ⟨x7, hx7⟩ : ∃ z, (xs (i0 + 7)).toInt = z := ⟨_, rfl⟩
  have x7r := c_rng (xs (i0 + 7))
  rw [hx7] at x7r
  have hP := iv_P hI
  have hQ := iv_Q hI
  have hT := rl_t hR
  have hU := rl_u hR
  obtain ⟨n0, hn0⟩ : ∃ z, c P 0 = z := ⟨_, rfl⟩
  have hm0 : c 41 20 = n0 := (rl_nums hR).1.symm.trans hn0
  have hr0 := ir_p0_0 hI hP
  rw [hn0] at hr0
  obtain ⟨n1, hn1⟩ : ∃ z, c P 1 = z := ⟨_, rfl⟩
  have hm1 : c 41 21 = n1 := (rl_nums hR).2.1.symm.trans hn1
  have hr1 := ir_p0_1 hI hP
  rw [hn1] at hr1
  obtain ⟨n2, hn2⟩ : ∃ z, c P 2 = z := ⟨_, rfl⟩
  have hm2 : c 41 22 = n2 := (rl_nums hR).2.2.1.symm.trans hn2
  have hr2 := ir_p0_2 hI hP
  rw [hn2] at hr2
  obtain ⟨n3, hn3⟩ : ∃ z, c P 3 = z := ⟨_, rfl⟩
  have hm3 : c 41 23 = n3 := (rl_nums hR).2.2.2.symm.trans hn3
  have hr3 := ir_p0_3 hI hP
  rw [hn3] at hr3
  have hNimg := rl_img hR
  have hNwk := rl_wk hR
  have h_1 := ir_3_4 hI
  have hIw := rl_iw hR
  have hNplace := rl_place hR
  refine q_aload_n c_296_1300 rfl (q_aload_n c_296_1301 rfl (q_iload c_296_1302 rfl (q_iconst c_296_1304 (v_iadd (v := (i0 : Int) + 1) c_296_1305 rfl (v_scr (j := i0 + 1) c_296_1306 (by omega) (by omega) hL hx1 (q_aload_n c_296_1307 rfl (q_iload c_296_1308 rfl ?_)))))))
  refine q_iconst c_296_1310 (v_iadd (v := (i0 : Int) + 2) c_296_1311 rfl (v_scr (j := i0 + 2) c_296_1312 (by omega) (by omega) hL hx2 (q_aload_n c_296_1313 rfl (q_call c_296_1314 rfl rfl rfl (q_aload_n c_286_0 rfl (q_iconst c_286_1 (q_aload_n c_286_2 rfl ?_)))))))
  refine q_iload_n c_286_3 rfl (q_iload_n c_286_4 rfl ?_)
  refine v_cv c_286_5 km_9_87 rfl rfl (Nat.le_of_ble_eq_true rfl) ⟨⟨rfl, rfl⟩, Nat.le_of_ble_eq_true rfl, rfl⟩ (Nat.le_of_ble_eq_true rfl) (Nat.le_of_ble_eq_true rfl) (s_108 (a1 := x1) (a2 := x2) hI (show (-2147483648) ≤ x1 ∧ x1 ≤ 2147483647 from ⟨by omega, by omega⟩) (show (-2147483648) ≤ x2 ∧ x2 ≤ 2147483647 from ⟨by omega, by omega⟩) (fun c_2 hI_3 hF_4 => ?_) (fun c_5 y_8 hI_6 hF_7 hy_8 => ?_))
  · skip
    refine bk_thr (z := Int32.ofInt 1) rfl ⟨_, _, rfl⟩ rfl (bk_inl (q_istore c_296_1317 (Nat.le_of_ble_eq_true rfl) (q_aload_n c_296_1319 rfl (q_aload_n c_296_1320 rfl (q_iload c_296_1321 rfl (q_iconst c_296_1323 (v_iadd (v := (i0 : Int) + 1) c_296_1324 rfl ?_)))))))
    refine v_scr (j := i0 + 1) c_296_1325 (by omega) (by omega) hL hx1 (q_aload_n c_296_1326 rfl (q_iload c_296_1327 rfl (q_iconst c_296_1329 (v_iadd (v := (i0 : Int) + 2) c_296_1330 rfl (v_scr (j := i0 + 2) c_296_1331 (by omega) (by omega) hL hx2 (v_cv c_296_1332 km_9_219 rfl rfl (Nat.le_of_ble_eq_true rfl) ⟨⟨rfl, rfl⟩, Nat.le_of_ble_eq_true rfl, rfl⟩ (Nat.le_of_ble_eq_true rfl) (Nat.le_of_ble_eq_true rfl) (s_242 (a1 := x1) (a2 := x2) hI_3 (show (-2147483648) ≤ x1 ∧ x1 ≤ 2147483647 from ⟨by omega, by omega⟩) (show (-2147483648) ≤ x2 ∧ x2 ≤ 2147483647 from ⟨by omega, by omega⟩) (fun c_9 y_12 hI_10 hF_11 hy_12 => (bk_inl ?_)))))))))
    refine q_istore c_296_1335 (Nat.le_of_ble_eq_true rfl) (q_goto (t := 1816) c_296_1337 rfl (Wp_ls [(4, vi (i0 : Int)), (3, .ref 67), (2, .ref 41), (1, .ref 0), (0, .ref a_SC)] (lsub_cons rfl (lsub_cons rfl (lsub_cons rfl (lsub_cons rfl (lsub_cons rfl lsub_nil))))) ?_))
    have h_13 := ir_1_3 hI
    have kn_14 : Hid (c_2 1 3 = c 1 3) := hF_4 1 3 (qn_bcb6129a7 hP)
    have kn_15 : Hid (c_9 1 3 = c 1 3) := (hF_11 1 3 qn_44683f5fa).trans (hid kn_14)
    have h_16 : c_9 1 3 = c 1 3 := (hid kn_15)
    have h_17 := ir_41_2 hI
    have kn_18 : Hid (c_2 41 2 = c 41 2) := hF_4 41 2 (qn_c1b212892 hP)
    have kn_19 : Hid (c_9 41 2 = c 41 2) := (hF_11 41 2 qn_7a112a690).trans (hid kn_18)
    have h_20 : c_9 41 2 = c 41 2 := (hid kn_19)
    have kn_21 : Hid (c_2 P 0 = n0) := (hF_4 P 0 (qn_f8aa6ac5f hP)).trans (hn0)
    have kn_22 : Hid (c_9 P 0 = n0) := (hF_11 P 0 (qn_70fec742f hP)).trans (hid kn_21)
    have h_23 : c_9 P 0 = n0 := (hid kn_22)
    have kn_24 : Hid (c_2 41 20 = n0) := (hF_4 41 20 (qn_c1b212892 hP)).trans (hm0)
    have kn_25 : Hid (c_9 41 20 = n0) := (hF_11 41 20 qn_d0753a96c).trans (hid kn_24)
    have h_26 : c_9 41 20 = n0 := (hid kn_25)
    have kn_27 : Hid (c_2 P 1 = n1) := (hF_4 P 1 (qn_f8aa6ac5f hP)).trans (hn1)
    have kn_28 : Hid (c_9 P 1 = n1) := (hF_11 P 1 (qn_70fec742f hP)).trans (hid kn_27)
    have h_29 : c_9 P 1 = n1 := (hid kn_28)
    have kn_30 : Hid (c_2 41 21 = n1) := (hF_4 41 21 (qn_c1b212892 hP)).trans (hm1)
    have kn_31 : Hid (c_9 41 21 = n1) := (hF_11 41 21 qn_2dba34809).trans (hid kn_30)
    have h_32 : c_9 41 21 = n1 := (hid kn_31)
    have kn_33 : Hid (c_2 P 2 = n2) := (hF_4 P 2 (qn_f8aa6ac5f hP)).trans (hn2)
    have kn_34 : Hid (c_9 P 2 = n2) := (hF_11 P 2 (qn_70fec742f hP)).trans (hid kn_33)
    have h_35 : c_9 P 2 = n2 := (hid kn_34)
    have kn_36 : Hid (c_2 41 22 = n2) := (hF_4 41 22 (qn_c1b212892 hP)).trans (hm2)
    have kn_37 : Hid (c_9 41 22 = n2) := (hF_11 41 22 qn_0d1137165).trans (hid kn_36)
    have h_38 : c_9 41 22 = n2 := (hid kn_37)
    have kn_39 : Hid (c_2 P 3 = n3) := (hF_4 P 3 (qn_f8aa6ac5f hP)).trans (hn3)
    have kn_40 : Hid (c_9 P 3 = n3) := (hF_11 P 3 (qn_70fec742f hP)).trans (hid kn_39)
    have h_41 : c_9 P 3 = n3 := (hid kn_40)
    have kn_42 : Hid (c_2 41 23 = n3) := (hF_4 41 23 (qn_c1b212892 hP)).trans (hm3)
    have kn_43 : Hid (c_9 41 23 = n3) := (hF_11 41 23 qn_ca1c2b99e).trans (hid kn_42)
    have h_44 : c_9 41 23 = n3 := (hid kn_43)
    have kn_45 : Hid (c_2 3 4 = c 3 4) := hF_4 3 4 (qn_116ab97cc hP)
    have kn_46 : Hid (c_9 3 4 = c 3 4) := (hF_11 3 4 qn_85f7f5516).trans (hid kn_45)
    have h_47 : c_9 3 4 = c 3 4 := (hid kn_46)
    have h_48 := ir_41_52 hI
    have kn_49 : Hid (c_2 41 52 = c 41 52) := hF_4 41 52 (qn_c1b212892 hP)
    have kn_50 : Hid (c_9 41 52 = c 41 52) := (hF_11 41 52 qn_23bb338dd).trans (hid kn_49)
    have h_51 : c_9 41 52 = c 41 52 := (hid kn_50)
    have h_52 := ir_3_3 hI
    have kn_53 : Hid (c_2 3 3 = c 3 3) := hF_4 3 3 (qn_116ab97cc hP)
    have kn_54 : Hid (c_9 3 3 = c 3 3) := (hF_11 3 3 qn_85f7f5516).trans (hid kn_53)
    have h_55 : c_9 3 3 = c 3 3 := (hid kn_54)
    have h_56 := ir_41_35 hI
    have kn_57 : Hid (c_2 41 35 = c 41 35) := hF_4 41 35 (qn_c1b212892 hP)
    have kn_58 : Hid (c_9 41 35 = c 41 35) := (hF_11 41 35 qn_8b6342d8f).trans (hid kn_57)
    have h_59 : c_9 41 35 = c 41 35 := (hid kn_58)
    have h_60 : c_9 3 4 = c 3 4 := (hid kn_46)
    have h_61 := ir_1_5 hI
    have kn_62 : Hid (c_2 1 5 = c 1 5) := hF_4 1 5 (qn_bcb6129a7 hP)
    have kn_63 : Hid (c_9 1 5 = c 1 5) := (hF_11 1 5 qn_44683f5fa).trans (hid kn_62)
    have h_64 : c_9 1 5 = c 1 5 := (hid kn_63)
    have h_65 := ir_41_8 hI
    have kn_66 : Hid (c_2 41 8 = c 41 8) := hF_4 41 8 (qn_c1b212892 hP)
    have kn_67 : Hid (c_9 41 8 = c 41 8) := (hF_11 41 8 qn_fa94fa4d3).trans (hid kn_66)
    have h_68 : c_9 41 8 = c 41 8 := (hid kn_67)
    exact K P Q c_9 1 (by decide) hI_10 ⟨by omega, ub_fr hU (fun j => (hF_11 2 j qn_d0e66b3bf).trans (hF_4 2 j (qn_c44a51550 hP))) (fun j => (hF_11 43 j qn_5a77d9750).trans (hF_4 43 j (qn_2e57cdabe hP))), ⟨by omega, by omega, by omega, by omega⟩, by omega, by omega, iw_fr2 hIw (by omega) (fun j => (hF_11 6 j qn_1f8406493).trans (hF_4 6 j (qn_5ecb26ba6 hP))) (fun j => (hF_11 66 j qn_02ce421cc).trans (hF_4 66 j (qn_7018f8751 hP))), by omega⟩
  refine bk_inl (v_i2l c_286_8 (by omega) (v_ls c_286_9 rfl (by decide) (by decide) (by decide) (q_goto (t := 17) c_286_10 rfl (q_iconst c_286_17 (q_iret c_286_18 rfl (bk_inl (q_istore c_296_1317 (Nat.le_of_ble_eq_true rfl) ?_)))))))
  refine q_aload_n c_296_1319 rfl (q_aload_n c_296_1320 rfl (q_iload c_296_1321 rfl (q_iconst c_296_1323 (v_iadd (v := (i0 : Int) + 1) c_296_1324 rfl (v_scr (j := i0 + 1) c_296_1325 (by omega) (by omega) hL hx1 (q_aload_n c_296_1326 rfl (q_iload c_296_1327 rfl ?_)))))))
  refine q_iconst c_296_1329 (v_iadd (v := (i0 : Int) + 2) c_296_1330 rfl (v_scr (j := i0 + 2) c_296_1331 (by omega) (by omega) hL hx2 ?_))
  have hI_69 := iw_lx (a := 67) (j := 0) (v := y_8) hI_6 (by omega)
  refine v_cv c_296_1332 km_9_219 rfl rfl (Nat.le_of_ble_eq_true rfl) ⟨⟨rfl, rfl⟩, Nat.le_of_ble_eq_true rfl, rfl⟩ (Nat.le_of_ble_eq_true rfl) (Nat.le_of_ble_eq_true rfl) (s_242 (a1 := x1) (a2 := x2) hI_69 (show (-2147483648) ≤ x1 ∧ x1 ≤ 2147483647 from ⟨by omega, by omega⟩) (show (-2147483648) ≤ x2 ∧ x2 ≤ 2147483647 from ⟨by omega, by omega⟩) (fun c_70 y_73 hI_71 hF_72 hy_73 => (bk_inl (q_istore c_296_1335 (Nat.le_of_ble_eq_true rfl) (q_goto (t := 1816) c_296_1337 rfl (Wp_ls [(4, vi (i0 : Int)), (3, .ref 67), (2, .ref 41), (1, .ref 0), (0, .ref a_SC)] (lsub_cons rfl (lsub_cons rfl (lsub_cons rfl (lsub_cons rfl (lsub_cons rfl lsub_nil))))) ?_))))))
  have h_74 := ir_1_3 hI
  have kn_75 : Hid (c_5 1 3 = c 1 3) := hF_7 1 3 (qn_bcb6129a7 hP)
  have kn_76 : Hid (c_70 1 3 = c 1 3) := (hF_72 1 3 qn_44683f5fa).trans ((up_c (nn rfl)).trans (hid kn_75))
  have h_77 : c_70 1 3 = c 1 3 := (hid kn_76)
  have h_78 := ir_41_2 hI
  have kn_79 : Hid (c_5 41 2 = c 41 2) := hF_7 41 2 (qn_c1b212892 hP)
  have kn_80 : Hid (c_70 41 2 = c 41 2) := (hF_72 41 2 qn_7a112a690).trans ((up_c (nn rfl)).trans (hid kn_79))
  have h_81 : c_70 41 2 = c 41 2 := (hid kn_80)
  have kn_82 : Hid (c_5 P 0 = n0) := (hF_7 P 0 (qn_f8aa6ac5f hP)).trans (hn0)
  have kn_83 : Hid (c_70 P 0 = n0) := (hF_72 P 0 (qn_70fec742f hP)).trans ((up_c (np0 hP rfl)).trans (hid kn_82))
  have h_84 : c_70 P 0 = n0 := (hid kn_83)
  have kn_85 : Hid (c_5 41 20 = n0) := (hF_7 41 20 (qn_c1b212892 hP)).trans (hm0)
  have kn_86 : Hid (c_70 41 20 = n0) := (hF_72 41 20 qn_d0753a96c).trans ((up_c (nn rfl)).trans (hid kn_85))
  have h_87 : c_70 41 20 = n0 := (hid kn_86)
  have kn_88 : Hid (c_5 P 1 = n1) := (hF_7 P 1 (qn_f8aa6ac5f hP)).trans (hn1)
  have kn_89 : Hid (c_70 P 1 = n1) := (hF_72 P 1 (qn_70fec742f hP)).trans ((up_c (np0 hP rfl)).trans (hid kn_88))
  have h_90 : c_70 P 1 = n1 := (hid kn_89)
  have kn_91 : Hid (c_5 41 21 = n1) := (hF_7 41 21 (qn_c1b212892 hP)).trans (hm1)
  have kn_92 : Hid (c_70 41 21 = n1) := (hF_72 41 21 qn_2dba34809).trans ((up_c (nn rfl)).trans (hid kn_91))
  have h_93 : c_70 41 21 = n1 := (hid kn_92)
  have kn_94 : Hid (c_5 P 2 = n2) := (hF_7 P 2 (qn_f8aa6ac5f hP)).trans (hn2)
  have kn_95 : Hid (c_70 P 2 = n2) := (hF_72 P 2 (qn_70fec742f hP)).trans ((up_c (np0 hP rfl)).trans (hid kn_94))
  have h_96 : c_70 P 2 = n2 := (hid kn_95)
  have kn_97 : Hid (c_5 41 22 = n2) := (hF_7 41 22 (qn_c1b212892 hP)).trans (hm2)
  have kn_98 : Hid (c_70 41 22 = n2) := (hF_72 41 22 qn_0d1137165).trans ((up_c (nn rfl)).trans (hid kn_97))
  have h_99 : c_70 41 22 = n2 := (hid kn_98)
  have kn_100 : Hid (c_5 P 3 = n3) := (hF_7 P 3 (qn_f8aa6ac5f hP)).trans (hn3)
  have kn_101 : Hid (c_70 P 3 = n3) := (hF_72 P 3 (qn_70fec742f hP)).trans ((up_c (np0 hP rfl)).trans (hid kn_100))
  have h_102 : c_70 P 3 = n3 := (hid kn_101)
  have kn_103 : Hid (c_5 41 23 = n3) := (hF_7 41 23 (qn_c1b212892 hP)).trans (hm3)
  have kn_104 : Hid (c_70 41 23 = n3) := (hF_72 41 23 qn_ca1c2b99e).trans ((up_c (nn rfl)).trans (hid kn_103))
  have h_105 : c_70 41 23 = n3 := (hid kn_104)
  have kn_106 : Hid (c_5 3 4 = c 3 4) := hF_7 3 4 (qn_116ab97cc hP)
  have kn_107 : Hid (c_70 3 4 = c 3 4) := (hF_72 3 4 qn_85f7f5516).trans ((up_c (nn rfl)).trans (hid kn_106))
  have h_108 : c_70 3 4 = c 3 4 := (hid kn_107)
  have h_109 := ir_41_52 hI
  have kn_110 : Hid (c_5 41 52 = c 41 52) := hF_7 41 52 (qn_c1b212892 hP)
  have kn_111 : Hid (c_70 41 52 = c 41 52) := (hF_72 41 52 qn_23bb338dd).trans ((up_c (nn rfl)).trans (hid kn_110))
  have h_112 : c_70 41 52 = c 41 52 := (hid kn_111)
  have h_113 := ir_3_3 hI
  have kn_114 : Hid (c_5 3 3 = c 3 3) := hF_7 3 3 (qn_116ab97cc hP)
  have kn_115 : Hid (c_70 3 3 = c 3 3) := (hF_72 3 3 qn_85f7f5516).trans ((up_c (nn rfl)).trans (hid kn_114))
  have h_116 : c_70 3 3 = c 3 3 := (hid kn_115)
  have h_117 := ir_41_35 hI
  have kn_118 : Hid (c_5 41 35 = c 41 35) := hF_7 41 35 (qn_c1b212892 hP)
  have kn_119 : Hid (c_70 41 35 = c 41 35) := (hF_72 41 35 qn_8b6342d8f).trans ((up_c (nn rfl)).trans (hid kn_118))
  have h_120 : c_70 41 35 = c 41 35 := (hid kn_119)
  have h_121 : c_70 3 4 = c 3 4 := (hid kn_107)
  have h_122 := ir_1_5 hI
  have kn_123 : Hid (c_5 1 5 = c 1 5) := hF_7 1 5 (qn_bcb6129a7 hP)
  have kn_124 : Hid (c_70 1 5 = c 1 5) := (hF_72 1 5 qn_44683f5fa).trans ((up_c (nn rfl)).trans (hid kn_123))
  have h_125 : c_70 1 5 = c 1 5 := (hid kn_124)
  have h_126 := ir_41_8 hI
  have kn_127 : Hid (c_5 41 8 = c 41 8) := hF_7 41 8 (qn_c1b212892 hP)
  have kn_128 : Hid (c_70 41 8 = c 41 8) := (hF_72 41 8 qn_fa94fa4d3).trans ((up_c (nn rfl)).trans (hid kn_127))
  have h_129 : c_70 41 8 = c 41 8 := (hid kn_128)
  exact K P Q c_70 0 (by decide) hI_71 ⟨by omega, ub_fr hU (fun j => (hF_72 2 j qn_d0e66b3bf).trans ((up_c (nn rfl)).trans (hF_7 2 j (qn_c44a51550 hP)))) (fun j => (hF_72 43 j qn_5a77d9750).trans ((up_c (nn rfl)).trans (hF_7 43 j (qn_2e57cdabe hP)))), ⟨by omega, by omega, by omega, by omega⟩, by omega, by omega, iw_fr2 hIw (by omega) (fun j => (hF_72 6 j qn_1f8406493).trans ((up_c (nn rfl)).trans (hF_7 6 j (qn_5ecb26ba6 hP)))) (fun j => (hF_72 66 j qn_02ce421cc).trans ((up_c (nn rfl)).trans (hF_7 66 j (qn_7018f8751 hP)))), by omega⟩

set_option maxRecDepth 100000 in
set_option maxHeartbeats 4000000 in
theorem o_28 {xs : Nat → Int32} {L i0 d nc ns P Q : Nat} {c : ME} {Z : AR → Prop} (hi : i0 + 8 ≤ L) (hL : L ≤ 100000) (hI : Iv 0 (-1) P Q c) (hR : Rq P c) (K : ∀ (P2 Q2 : Nat) (c2 : ME) (e : Nat), e ≤ 1 → Iv 0 (-1) P2 Q2 c2 → (Rq P2 c2) → Wp (a_scr L xs) (d + 90) 296 1816 [(4, vi (i0 : Int)), (3, .ref 67), (2, .ref 41), (1, .ref 0), (0, .ref a_SC)] [] (Wd P2 Q2 P2 P2 c2) (nc + e) (ns + 6 * e) Z) : Wp (a_scr L xs) (d + 90) 296 1340 [(4, vi (i0 : Int)), (3, .ref 67), (2, .ref 41), (1, .ref 0), (0, .ref a_SC)] [] (Wd P Q P P c) nc ns Z := by
  obtain ⟨x1, hx1⟩ : ∃ z, (xs (i0 + 1)).toInt = z := ⟨_, rfl⟩
  have x1r := c_rng (xs (i0 + 1))
  rw [hx1] at x1r
  obtain ⟨x2, hx2⟩ : ∃ z, (xs (i0 + 2)).toInt = z := ⟨_, rfl⟩
  have x2r := c_rng (xs (i0 + 2))
  rw [hx2] at x2r
  obtain ⟨x3, hx3⟩ : ∃ z, (xs (i0 + 3)).toInt = z := ⟨_, rfl⟩
  have x3r := c_rng (xs (i0 + 3))
  rw [hx3] at x3r
  obtain ⟨x4, hx4⟩ : ∃ z, (xs (i0 + 4)).toInt = z := ⟨_, rfl⟩
  have x4r := c_rng (xs (i0 + 4))
  rw [hx4] at x4r
  obtain ⟨x5, hx5⟩ : ∃ z, (xs (i0 + 5)).toInt = z := ⟨_, rfl⟩
  have x5r := c_rng (xs (i0 + 5))
  rw [hx5] at x5r
  obtain ⟨x6, hx6⟩ : ∃ z, (xs (i0 + 6)).toInt = z := ⟨_, rfl⟩
  have x6r := c_rng (xs (i0 + 6))
  rw [hx6] at x6r
  obtain ⟨x7, hx7⟩ : ∃ z, (xs (i0 + 7)).toInt = z := ⟨_, rfl⟩
  have x7r := c_rng (xs (i0 + 7))
  rw [hx7] at x7r
  have hP := iv_P hI
  have hQ := iv_Q hI
  have hT := rl_t hR
  have hU := rl_u hR
  obtain ⟨n0, hn0⟩ : ∃ z, c P 0 = z := ⟨_, rfl⟩
  have hm0 : c 41 20 = n0 := (rl_nums hR).1.symm.trans hn0
  have hr0 := ir_p0_0 hI hP
  rw [hn0] at hr0
  obtain ⟨n1, hn1⟩ : ∃ z, c P 1 = z := ⟨_, rfl⟩
  have hm1 : c 41 21 = n1 := (rl_nums hR).2.1.symm.trans hn1
  have hr1 := ir_p0_1 hI hP
  rw [hn1] at hr1
  obtain ⟨n2, hn2⟩ : ∃ z, c P 2 = z := ⟨_, rfl⟩
  have hm2 : c 41 22 = n2 := (rl_nums hR).2.2.1.symm.trans hn2
  have hr2 := ir_p0_2 hI hP
  rw [hn2] at hr2
  obtain ⟨n3, hn3⟩ : ∃ z, c P 3 = z := ⟨_, rfl⟩
  have hm3 : c 41 23 = n3 := (rl_nums hR).2.2.2.symm.trans hn3
  have hr3 := ir_p0_3 hI hP
  rw [hn3] at hr3
  have hNimg := rl_img hR
  have hNwk := rl_wk hR
  have h_1 := ir_3_4 hI
  have hIw := rl_iw hR
  have hNplace := rl_place hR
  refine q_aload_n c_296_1340 rfl (v_cv c_296_1341 km_9_220 rfl rfl (Nat.le_of_ble_eq_true rfl) ⟨⟨rfl, rfl⟩, Nat.le_of_ble_eq_true rfl, rfl⟩ (Nat.le_of_ble_eq_true rfl) (Nat.le_of_ble_eq_true rfl) (s_101 hI (fun y_2 hy_2 => (bk_inl (q_pop c_296_1344 rfl (q_aload_n c_296_1345 rfl (v_cv c_296_1346 km_9_223 rfl rfl (Nat.le_of_ble_eq_true rfl) ⟨⟨rfl, rfl⟩, Nat.le_of_ble_eq_true rfl, rfl⟩ (Nat.le_of_ble_eq_true rfl) (Nat.le_of_ble_eq_true rfl) (s_243 hI (fun c_3 y_6 hI_4 hF_5 hy_6 => (bk_inl (q_pop c_296_1349 rfl ?_)))))))))))
  refine q_goto (t := 1816) c_296_1350 rfl (Wp_ls [(4, vi (i0 : Int)), (3, .ref 67), (2, .ref 41), (1, .ref 0), (0, .ref a_SC)] (lsub_cons rfl (lsub_cons rfl (lsub_cons rfl (lsub_cons rfl (lsub_cons rfl lsub_nil))))) ?_)
  have h_7 := ir_1_3 hI
  have kn_8 : Hid (c_3 1 3 = c 1 3) := hF_5 1 3 (fun q => q.elim (fun h => absurd h.1 (nn rfl)) (fun h => absurd h (nn rfl)))
  have h_9 : c_3 1 3 = c 1 3 := (hid kn_8)
  have h_10 := ir_41_2 hI
  have kn_11 : Hid (c_3 41 2 = c 41 2) := hF_5 41 2 (fun q => q.elim (fun h => absurd h.2 (ni rfl)) (fun h => absurd h (nn rfl)))
  have h_12 : c_3 41 2 = c 41 2 := (hid kn_11)
  have kn_13 : Hid (c_3 P 0 = n0) := (hF_5 P 0 (qn_f78771b97 hP)).trans (hn0)
  have h_14 : c_3 P 0 = n0 := (hid kn_13)
  have kn_15 : Hid (c_3 41 20 = n0) := (hF_5 41 20 (fun q => q.elim (fun h => absurd h.2 (ni rfl)) (fun h => absurd h (nn rfl)))).trans (hm0)
  have h_16 : c_3 41 20 = n0 := (hid kn_15)
  have kn_17 : Hid (c_3 P 1 = n1) := (hF_5 P 1 (qn_f78771b97 hP)).trans (hn1)
  have h_18 : c_3 P 1 = n1 := (hid kn_17)
  have kn_19 : Hid (c_3 41 21 = n1) := (hF_5 41 21 (fun q => q.elim (fun h => absurd h.2 (ni rfl)) (fun h => absurd h (nn rfl)))).trans (hm1)
  have h_20 : c_3 41 21 = n1 := (hid kn_19)
  have kn_21 : Hid (c_3 P 2 = n2) := (hF_5 P 2 (qn_f78771b97 hP)).trans (hn2)
  have h_22 : c_3 P 2 = n2 := (hid kn_21)
  have kn_23 : Hid (c_3 41 22 = n2) := (hF_5 41 22 (fun q => q.elim (fun h => absurd h.2 (ni rfl)) (fun h => absurd h (nn rfl)))).trans (hm2)
  have h_24 : c_3 41 22 = n2 := (hid kn_23)
  have kn_25 : Hid (c_3 P 3 = n3) := (hF_5 P 3 (qn_f78771b97 hP)).trans (hn3)
  have h_26 : c_3 P 3 = n3 := (hid kn_25)
  have kn_27 : Hid (c_3 41 23 = n3) := (hF_5 41 23 (fun q => q.elim (fun h => absurd h.2 (ni rfl)) (fun h => absurd h (nn rfl)))).trans (hm3)
  have h_28 : c_3 41 23 = n3 := (hid kn_27)
  have kn_29 : Hid (c_3 3 4 = c 3 4) := hF_5 3 4 (fun q => q.elim (fun h => absurd h.1 (nn rfl)) (fun h => absurd h (nn rfl)))
  have h_30 : c_3 3 4 = c 3 4 := (hid kn_29)
  have h_31 := ir_41_52 hI
  have kn_32 : Hid (c_3 41 52 = c 41 52) := hF_5 41 52 (fun q => q.elim (fun h => absurd h.2 (ni rfl)) (fun h => absurd h (nn rfl)))
  have h_33 : c_3 41 52 = c 41 52 := (hid kn_32)
  have h_34 := ir_3_3 hI
  have kn_35 : Hid (c_3 3 3 = c 3 3) := hF_5 3 3 (fun q => q.elim (fun h => absurd h.1 (nn rfl)) (fun h => absurd h (nn rfl)))
  have h_36 : c_3 3 3 = c 3 3 := (hid kn_35)
  have h_37 := ir_41_35 hI
  have kn_38 : Hid (c_3 41 35 = c 41 35) := hF_5 41 35 (fun q => q.elim (fun h => absurd h.2 (ni rfl)) (fun h => absurd h (nn rfl)))
  have h_39 : c_3 41 35 = c 41 35 := (hid kn_38)
  have h_40 : c_3 3 4 = c 3 4 := (hid kn_29)
  have h_41 := ir_1_5 hI
  have kn_42 : Hid (c_3 1 5 = c 1 5) := hF_5 1 5 (fun q => q.elim (fun h => absurd h.1 (nn rfl)) (fun h => absurd h (nn rfl)))
  have h_43 : c_3 1 5 = c 1 5 := (hid kn_42)
  have h_44 := ir_41_8 hI
  have kn_45 : Hid (c_3 41 8 = c 41 8) := hF_5 41 8 (fun q => q.elim (fun h => absurd h.2 (ni rfl)) (fun h => absurd h (nn rfl)))
  have h_46 : c_3 41 8 = c 41 8 := (hid kn_45)
  exact K P Q c_3 0 (by decide) hI_4 ⟨by omega, ub_fr hU (fun j => hF_5 2 j (fun q => q.elim (fun h => absurd h.1 (nn rfl)) (fun h => absurd h (nn rfl)))) (fun j => hF_5 43 j (fun q => q.elim (fun h => absurd h.1 (nn rfl)) (fun h => absurd h (nn rfl)))), ⟨by omega, by omega, by omega, by omega⟩, by omega, by omega, iw_fr2 hIw (by omega) (fun j => hF_5 6 j (fun q => q.elim (fun h => absurd h.1 (nn rfl)) (fun h => absurd h (nn rfl)))) (fun j => hF_5 66 j (fun q => q.elim (fun h => absurd h.1 (nn rfl)) (fun h => absurd h (nn rfl)))), by omega⟩

set_option maxRecDepth 100000 in
set_option maxHeartbeats 4000000 in
theorem o_29 {xs : Nat → Int32} {L i0 d nc ns P Q : Nat} {c : ME} {Z : AR → Prop} (hi : i0 + 8 ≤ L) (hL : L ≤ 100000) (hI : Iv 0 (-1) P Q c) (hR : Rq P c) (K : ∀ (P2 Q2 : Nat) (c2 : ME) (e : Nat), e ≤ 1 → Iv 0 (-1) P2 Q2 c2 → (Rq P2 c2) → Wp (a_scr L xs) (d + 90) 296 1816 [(4, vi (i0 : Int)), (3, .ref 67), (2, .ref 41), (1, .ref 0), (0, .ref a_SC)] [] (Wd P2 Q2 P2 P2 c2) (nc + e) (ns + 6 * e) Z) : Wp (a_scr L xs) (d + 90) 296 1353 [(4, vi (i0 : Int)), (3, .ref 67), (2, .ref 41), (1, .ref 0), (0, .ref a_SC)] [] (Wd P Q P P c) nc ns Z := by
  obtain ⟨x1, hx1⟩ : ∃ z, (xs (i0 + 1)).toInt = z := ⟨_, rfl⟩
  have x1r := c_rng (xs (i0 + 1))
  rw [hx1] at x1r
  obtain ⟨x2, hx2⟩ : ∃ z, (xs (i0 + 2)).toInt = z := ⟨_, rfl⟩
  have x2r := c_rng (xs (i0 + 2))
  rw [hx2] at x2r
  obtain ⟨x3, hx3⟩ : ∃ z, (xs (i0 + 3)).toInt = z := ⟨_, rfl⟩
  have x3r := c_rng (xs (i0 + 3))
  rw [hx3] at x3r
  obtain ⟨x4, hx4⟩ : ∃ z, (xs (i0 + 4)).toInt = z := ⟨_, rfl⟩
  have x4r := c_rng (xs (i0 + 4))
  rw [hx4] at x4r
  obtain ⟨x5, hx5⟩ : ∃ z, (xs (i0 + 5)).toInt = z := ⟨_, rfl⟩
  have x5r := c_rng (xs (i0 + 5))
  rw [hx5] at x5r
  obtain ⟨x6, hx6⟩ : ∃ z, (xs (i0 + 6)).toInt = z := ⟨_, rfl⟩
  have x6r := c_rng (xs (i0 + 6))
  rw [hx6] at x6r
  obtain ⟨x7, hx7⟩ : ∃ z, (xs (i0 + 7)).toInt = z := ⟨_, rfl⟩
  have x7r := c_rng (xs (i0 + 7))
  rw [hx7] at x7r
  have hP := iv_P hI
  have hQ := iv_Q hI
  have hT := rl_t hR
  have hU := rl_u hR
  obtain ⟨n0, hn0⟩ : ∃ z, c P 0 = z := ⟨_, rfl⟩
  have hm0 : c 41 20 = n0 := (rl_nums hR).1.symm.trans hn0
  have hr0 := ir_p0_0 hI hP
  rw [hn0] at hr0
  obtain ⟨n1, hn1⟩ : ∃ z, c P 1 = z := ⟨_, rfl⟩
  have hm1 : c 41 21 = n1 := (rl_nums hR).2.1.symm.trans hn1
  have hr1 := ir_p0_1 hI hP
  rw [hn1] at hr1
  obtain ⟨n2, hn2⟩ : ∃ z, c P 2 = z := ⟨_, rfl⟩
  have hm2 : c 41 22 = n2 := (rl_nums hR).2.2.1.symm.trans hn2
  have hr2 := ir_p0_2 hI hP
  rw [hn2] at hr2
  obtain ⟨n3, hn3⟩ : ∃ z, c P 3 = z := ⟨_, rfl⟩
  have hm3 : c 41 23 = n3 := (rl_nums hR).2.2.2.symm.trans hn3
  have hr3 := ir_p0_3 hI hP
  rw [hn3] at hr3
  have hNimg := rl_img hR
  have hNwk := rl_wk hR
  have h_1 := ir_3_4 hI
  have hIw := rl_iw hR
  have hNplace := rl_place hR
  refine q_aload_n c_296_1353 rfl (q_aload_n c_296_1354 rfl (q_iload c_296_1355 rfl (q_iconst c_296_1357 (v_iadd (v := (i0 : Int) + 1) c_296_1358 rfl (v_scr (j := i0 + 1) c_296_1359 (by omega) (by omega) hL hx1 (q_aload_n c_296_1360 rfl (q_call c_296_1361 rfl rfl rfl ?_)))))))
  refine q_aload_n c_287_0 rfl (q_iconst c_287_1 (q_aload_n c_287_2 rfl (q_iload_n c_287_3 rfl ?_)))
  refine v_cv c_287_4 km_9_90 rfl rfl (Nat.le_of_ble_eq_true rfl) ⟨⟨rfl, rfl⟩, Nat.le_of_ble_eq_true rfl, rfl⟩ (Nat.le_of_ble_eq_true rfl) (Nat.le_of_ble_eq_true rfl) (s_109 (a1 := x1) hI (show (-2147483648) ≤ x1 ∧ x1 ≤ 2147483647 from ⟨by omega, by omega⟩) (fun c_2 hI_3 hF_4 => ?_) (fun c_5 y_8 hI_6 hF_7 hy_8 => ?_))
  · skip
    refine bk_thr (z := Int32.ofInt 1) rfl ⟨_, _, rfl⟩ rfl (bk_inl (q_istore c_296_1364 (Nat.le_of_ble_eq_true rfl) (q_aload_n c_296_1366 rfl (q_aload_n c_296_1367 rfl (q_iload c_296_1368 rfl (q_iconst c_296_1370 (v_iadd (v := (i0 : Int) + 1) c_296_1371 rfl ?_)))))))
    refine v_scr (j := i0 + 1) c_296_1372 (by omega) (by omega) hL hx1 (v_cv c_296_1373 km_9_226 rfl rfl (Nat.le_of_ble_eq_true rfl) ⟨⟨rfl, rfl⟩, Nat.le_of_ble_eq_true rfl, rfl⟩ (Nat.le_of_ble_eq_true rfl) (Nat.le_of_ble_eq_true rfl) (s_244 (a1 := x1) hI_3 (show (-2147483648) ≤ x1 ∧ x1 ≤ 2147483647 from ⟨by omega, by omega⟩) (fun c_9 y_12 hI_10 hF_11 hy_12 => (bk_inl (q_istore c_296_1376 (Nat.le_of_ble_eq_true rfl) (q_goto (t := 1816) c_296_1378 rfl (Wp_ls [(4, vi (i0 : Int)), (3, .ref 67), (2, .ref 41), (1, .ref 0), (0, .ref a_SC)] (lsub_cons rfl (lsub_cons rfl (lsub_cons rfl (lsub_cons rfl (lsub_cons rfl lsub_nil))))) ?_)))))))
    have h_13 := ir_1_3 hI
    have kn_14 : Hid (c_2 1 3 = c 1 3) := hF_4 1 3 (qn_bcb6129a7 hP)
    have kn_15 : Hid (c_9 1 3 = c 1 3) := (hF_11 1 3 qn_44683f5fa).trans (hid kn_14)
    have h_16 : c_9 1 3 = c 1 3 := (hid kn_15)
    have h_17 := ir_41_2 hI
    have kn_18 : Hid (c_2 41 2 = c 41 2) := hF_4 41 2 (qn_c1b212892 hP)
    have kn_19 : Hid (c_9 41 2 = c 41 2) := (hF_11 41 2 qn_7a112a690).trans (hid kn_18)
    have h_20 : c_9 41 2 = c 41 2 := (hid kn_19)
    have kn_21 : Hid (c_2 P 0 = n0) := (hF_4 P 0 (qn_f8aa6ac5f hP)).trans (hn0)
    have kn_22 : Hid (c_9 P 0 = n0) := (hF_11 P 0 (qn_70fec742f hP)).trans (hid kn_21)
    have h_23 : c_9 P 0 = n0 := (hid kn_22)
    have kn_24 : Hid (c_2 41 20 = n0) := (hF_4 41 20 (qn_c1b212892 hP)).trans (hm0)
    have kn_25 : Hid (c_9 41 20 = n0) := (hF_11 41 20 qn_d0753a96c).trans (hid kn_24)
    have h_26 : c_9 41 20 = n0 := (hid kn_25)
    have kn_27 : Hid (c_2 P 1 = n1) := (hF_4 P 1 (qn_f8aa6ac5f hP)).trans (hn1)
    have kn_28 : Hid (c_9 P 1 = n1) := (hF_11 P 1 (qn_70fec742f hP)).trans (hid kn_27)
    have h_29 : c_9 P 1 = n1 := (hid kn_28)
    have kn_30 : Hid (c_2 41 21 = n1) := (hF_4 41 21 (qn_c1b212892 hP)).trans (hm1)
    have kn_31 : Hid (c_9 41 21 = n1) := (hF_11 41 21 qn_2dba34809).trans (hid kn_30)
    have h_32 : c_9 41 21 = n1 := (hid kn_31)
    have kn_33 : Hid (c_2 P 2 = n2) := (hF_4 P 2 (qn_f8aa6ac5f hP)).trans (hn2)
    have kn_34 : Hid (c_9 P 2 = n2) := (hF_11 P 2 (qn_70fec742f hP)).trans (hid kn_33)
    have h_35 : c_9 P 2 = n2 := (hid kn_34)
    have kn_36 : Hid (c_2 41 22 = n2) := (hF_4 41 22 (qn_c1b212892 hP)).trans (hm2)
    have kn_37 : Hid (c_9 41 22 = n2) := (hF_11 41 22 qn_0d1137165).trans (hid kn_36)
    have h_38 : c_9 41 22 = n2 := (hid kn_37)
    have kn_39 : Hid (c_2 P 3 = n3) := (hF_4 P 3 (qn_f8aa6ac5f hP)).trans (hn3)
    have kn_40 : Hid (c_9 P 3 = n3) := (hF_11 P 3 (qn_70fec742f hP)).trans (hid kn_39)
    have h_41 : c_9 P 3 = n3 := (hid kn_40)
    have kn_42 : Hid (c_2 41 23 = n3) := (hF_4 41 23 (qn_c1b212892 hP)).trans (hm3)
    have kn_43 : Hid (c_9 41 23 = n3) := (hF_11 41 23 qn_ca1c2b99e).trans (hid kn_42)
    have h_44 : c_9 41 23 = n3 := (hid kn_43)
    have kn_45 : Hid (c_2 3 4 = c 3 4) := hF_4 3 4 (qn_116ab97cc hP)
    have kn_46 : Hid (c_9 3 4 = c 3 4) := (hF_11 3 4 qn_85f7f5516).trans (hid kn_45)
    have h_47 : c_9 3 4 = c 3 4 := (hid kn_46)
    have h_48 := ir_41_52 hI
    have kn_49 : Hid (c_2 41 52 = c 41 52) := hF_4 41 52 (qn_c1b212892 hP)
    have kn_50 : Hid (c_9 41 52 = c 41 52) := (hF_11 41 52 qn_23bb338dd).trans (hid kn_49)
    have h_51 : c_9 41 52 = c 41 52 := (hid kn_50)
    have h_52 := ir_3_3 hI
    have kn_53 : Hid (c_2 3 3 = c 3 3) := hF_4 3 3 (qn_116ab97cc hP)
    have kn_54 : Hid (c_9 3 3 = c 3 3) := (hF_11 3 3 qn_85f7f5516).trans (hid kn_53)
    have h_55 : c_9 3 3 = c 3 3 := (hid kn_54)
    have h_56 := ir_41_35 hI
    have kn_57 : Hid (c_2 41 35 = c 41 35) := hF_4 41 35 (qn_c1b212892 hP)
    have kn_58 : Hid (c_9 41 35 = c 41 35) := (hF_11 41 35 qn_8b6342d8f).trans (hid kn_57)
    have h_59 : c_9 41 35 = c 41 35 := (hid kn_58)
    have h_60 : c_9 3 4 = c 3 4 := (hid kn_46)
    have h_61 := ir_1_5 hI
    have kn_62 : Hid (c_2 1 5 = c 1 5) := hF_4 1 5 (qn_bcb6129a7 hP)
    have kn_63 : Hid (c_9 1 5 = c 1 5) := (hF_11 1 5 qn_44683f5fa).trans (hid kn_62)
    have h_64 : c_9 1 5 = c 1 5 := (hid kn_63)
    have h_65 := ir_41_8 hI
    have kn_66 : Hid (c_2 41 8 = c 41 8) := hF_4 41 8 (qn_c1b212892 hP)
    have kn_67 : Hid (c_9 41 8 = c 41 8) := (hF_11 41 8 qn_fa94fa4d3).trans (hid kn_66)
    have h_68 : c_9 41 8 = c 41 8 := (hid kn_67)
    exact K P Q c_9 1 (by decide) hI_10 ⟨by omega, ub_fr hU (fun j => (hF_11 2 j qn_d0e66b3bf).trans (hF_4 2 j (qn_c44a51550 hP))) (fun j => (hF_11 43 j qn_5a77d9750).trans (hF_4 43 j (qn_2e57cdabe hP))), ⟨by omega, by omega, by omega, by omega⟩, by omega, by omega, iw_fr2 hIw (by omega) (fun j => (hF_11 6 j qn_1f8406493).trans (hF_4 6 j (qn_5ecb26ba6 hP))) (fun j => (hF_11 66 j qn_02ce421cc).trans (hF_4 66 j (qn_7018f8751 hP))), by omega⟩
  refine bk_inl (v_i2l c_287_7 (by omega) (v_ls c_287_8 rfl (by decide) (by decide) (by decide) (q_goto (t := 15) c_287_9 rfl (q_iconst c_287_15 (q_iret c_287_16 rfl (bk_inl (q_istore c_296_1364 (Nat.le_of_ble_eq_true rfl) ?_)))))))
  refine q_aload_n c_296_1366 rfl (q_aload_n c_296_1367 rfl (q_iload c_296_1368 rfl (q_iconst c_296_1370 (v_iadd (v := (i0 : Int) + 1) c_296_1371 rfl (v_scr (j := i0 + 1) c_296_1372 (by omega) (by omega) hL hx1 ?_)))))
  have hI_69 := iw_lx (a := 67) (j := 0) (v := y_8) hI_6 (by omega)
  refine v_cv c_296_1373 km_9_226 rfl rfl (Nat.le_of_ble_eq_true rfl) ⟨⟨rfl, rfl⟩, Nat.le_of_ble_eq_true rfl, rfl⟩ (Nat.le_of_ble_eq_true rfl) (Nat.le_of_ble_eq_true rfl) (s_244 (a1 := x1) hI_69 (show (-2147483648) ≤ x1 ∧ x1 ≤ 2147483647 from ⟨by omega, by omega⟩) (fun c_70 y_73 hI_71 hF_72 hy_73 => (bk_inl (q_istore c_296_1376 (Nat.le_of_ble_eq_true rfl) (q_goto (t := 1816) c_296_1378 rfl (Wp_ls [(4, vi (i0 : Int)), (3, .ref 67), (2, .ref 41), (1, .ref 0), (0, .ref a_SC)] (lsub_cons rfl (lsub_cons rfl (lsub_cons rfl (lsub_cons rfl (lsub_cons rfl lsub_nil))))) ?_))))))
  have h_74 := ir_1_3 hI
  have kn_75 : Hid (c_5 1 3 = c 1 3) := hF_7 1 3 (qn_bcb6129a7 hP)
  have kn_76 : Hid (c_70 1 3 = c 1 3) := (hF_72 1 3 qn_44683f5fa).trans ((up_c (nn rfl)).trans (hid kn_75))
  have h_77 : c_70 1 3 = c 1 3 := (hid kn_76)
  have h_78 := ir_41_2 hI
  have kn_79 : Hid (c_5 41 2 = c 41 2) := hF_7 41 2 (qn_c1b212892 hP)
  have kn_80 : Hid (c_70 41 2 = c 41 2) := (hF_72 41 2 qn_7a112a690).trans ((up_c (nn rfl)).trans (hid kn_79))
  have h_81 : c_70 41 2 = c 41 2 := (hid kn_80)
  have kn_82 : Hid (c_5 P 0 = n0) := (hF_7 P 0 (qn_f8aa6ac5f hP)).trans (hn0)
  have kn_83 : Hid (c_70 P 0 = n0) := (hF_72 P 0 (qn_70fec742f hP)).trans ((up_c (np0 hP rfl)).trans (hid kn_82))
  have h_84 : c_70 P 0 = n0 := (hid kn_83)
  have kn_85 : Hid (c_5 41 20 = n0) := (hF_7 41 20 (qn_c1b212892 hP)).trans (hm0)
  have kn_86 : Hid (c_70 41 20 = n0) := (hF_72 41 20 qn_d0753a96c).trans ((up_c (nn rfl)).trans (hid kn_85))
  have h_87 : c_70 41 20 = n0 := (hid kn_86)
  have kn_88 : Hid (c_5 P 1 = n1) := (hF_7 P 1 (qn_f8aa6ac5f hP)).trans (hn1)
  have kn_89 : Hid (c_70 P 1 = n1) := (hF_72 P 1 (qn_70fec742f hP)).trans ((up_c (np0 hP rfl)).trans (hid kn_88))
  have h_90 : c_70 P 1 = n1 := (hid kn_89)
  have kn_91 : Hid (c_5 41 21 = n1) := (hF_7 41 21 (qn_c1b212892 hP)).trans (hm1)
  have kn_92 : Hid (c_70 41 21 = n1) := (hF_72 41 21 qn_2dba34809).trans ((up_c (nn rfl)).trans (hid kn_91))
  have h_93 : c_70 41 21 = n1 := (hid kn_92)
  have kn_94 : Hid (c_5 P 2 = n2) := (hF_7 P 2 (qn_f8aa6ac5f hP)).trans (hn2)
  have kn_95 : Hid (c_70 P 2 = n2) := (hF_72 P 2 (qn_70fec742f hP)).trans ((up_c (np0 hP rfl)).trans (hid kn_94))
  have h_96 : c_70 P 2 = n2 := (hid kn_95)
  have kn_97 : Hid (c_5 41 22 = n2) := (hF_7 41 22 (qn_c1b212892 hP)).trans (hm2)
  have kn_98 : Hid (c_70 41 22 = n2) := (hF_72 41 22 qn_0d1137165).trans ((up_c (nn rfl)).trans (hid kn_97))
  have h_99 : c_70 41 22 = n2 := (hid kn_98)
  have kn_100 : Hid (c_5 P 3 = n3) := (hF_7 P 3 (qn_f8aa6ac5f hP)).trans (hn3)
  have kn_101 : Hid (c_70 P 3 = n3) := (hF_72 P 3 (qn_70fec742f hP)).trans ((up_c (np0 hP rfl)).trans (hid kn_100))
  have h_102 : c_70 P 3 = n3 := (hid kn_101)
  have kn_103 : Hid (c_5 41 23 = n3) := (hF_7 41 23 (qn_c1b212892 hP)).trans (hm3)
  have kn_104 : Hid (c_70 41 23 = n3) := (hF_72 41 23 qn_ca1c2b99e).trans ((up_c (nn rfl)).trans (hid kn_103))
  have h_105 : c_70 41 23 = n3 := (hid kn_104)
  have kn_106 : Hid (c_5 3 4 = c 3 4) := hF_7 3 4 (qn_116ab97cc hP)
  have kn_107 : Hid (c_70 3 4 = c 3 4) := (hF_72 3 4 qn_85f7f5516).trans ((up_c (nn rfl)).trans (hid kn_106))
  have h_108 : c_70 3 4 = c 3 4 := (hid kn_107)
  have h_109 := ir_41_52 hI
  have kn_110 : Hid (c_5 41 52 = c 41 52) := hF_7 41 52 (qn_c1b212892 hP)
  have kn_111 : Hid (c_70 41 52 = c 41 52) := (hF_72 41 52 qn_23bb338dd).trans ((up_c (nn rfl)).trans (hid kn_110))
  have h_112 : c_70 41 52 = c 41 52 := (hid kn_111)
  have h_113 := ir_3_3 hI
  have kn_114 : Hid (c_5 3 3 = c 3 3) := hF_7 3 3 (qn_116ab97cc hP)
  have kn_115 : Hid (c_70 3 3 = c 3 3) := (hF_72 3 3 qn_85f7f5516).trans ((up_c (nn rfl)).trans (hid kn_114))
  have h_116 : c_70 3 3 = c 3 3 := (hid kn_115)
  have h_117 := ir_41_35 hI
  have kn_118 : Hid (c_5 41 35 = c 41 35) := hF_7 41 35 (qn_c1b212892 hP)
  have kn_119 : Hid (c_70 41 35 = c 41 35) := (hF_72 41 35 qn_8b6342d8f).trans ((up_c (nn rfl)).trans (hid kn_118))
  have h_120 : c_70 41 35 = c 41 35 := (hid kn_119)
  have h_121 : c_70 3 4 = c 3 4 := (hid kn_107)
  have h_122 := ir_1_5 hI
  have kn_123 : Hid (c_5 1 5 = c 1 5) := hF_7 1 5 (qn_bcb6129a7 hP)
  have kn_124 : Hid (c_70 1 5 = c 1 5) := (hF_72 1 5 qn_44683f5fa).trans ((up_c (nn rfl)).trans (hid kn_123))
  have h_125 : c_70 1 5 = c 1 5 := (hid kn_124)
  have h_126 := ir_41_8 hI
  have kn_127 : Hid (c_5 41 8 = c 41 8) := hF_7 41 8 (qn_c1b212892 hP)
  have kn_128 : Hid (c_70 41 8 = c 41 8) := (hF_72 41 8 qn_fa94fa4d3).trans ((up_c (nn rfl)).trans (hid kn_127))
  have h_129 : c_70 41 8 = c 41 8 := (hid kn_128)
  exact K P Q c_70 0 (by decide) hI_71 ⟨by omega, ub_fr hU (fun j => (hF_72 2 j qn_d0e66b3bf).trans ((up_c (nn rfl)).trans (hF_7 2 j (qn_c44a51550 hP)))) (fun j => (hF_72 43 j qn_5a77d9750).trans ((up_c (nn rfl)).trans (hF_7 43 j (qn_2e57cdabe hP)))), ⟨by omega, by omega, by omega, by omega⟩, by omega, by omega, iw_fr2 hIw (by omega) (fun j => (hF_72 6 j qn_1f8406493).trans ((up_c (nn rfl)).trans (hF_7 6 j (qn_5ecb26ba6 hP)))) (fun j => (hF_72 66 j qn_02ce421cc).trans ((up_c (nn rfl)).trans (hF_7 66 j (qn_7018f8751 hP)))), by omega⟩

set_option maxRecDepth 100000 in
set_option maxHeartbeats 4000000 in
theorem o_30 {xs : Nat → Int32} {L i0 d nc ns P Q : Nat} {c : ME} {Z : AR → Prop} (hi : i0 + 8 ≤ L) (hL : L ≤ 100000) (hI : Iv 0 (-1) P Q c) (hR : Rq P c) (K : ∀ (P2 Q2 : Nat) (c2 : ME) (e : Nat), e ≤ 1 → Iv 0 (-1) P2 Q2 c2 → (Rq P2 c2) → Wp (a_scr L xs) (d + 90) 296 1816 [(4, vi (i0 : Int)), (3, .ref 67), (2, .ref 41), (1, .ref 0), (0, .ref a_SC)] [] (Wd P2 Q2 P2 P2 c2) (nc + e) (ns + 6 * e) Z) : Wp (a_scr L xs) (d + 90) 296 1381 [(4, vi (i0 : Int)), (3, .ref 67), (2, .ref 41), (1, .ref 0), (0, .ref a_SC)] [] (Wd P Q P P c) nc ns Z := by
  obtain ⟨x1, hx1⟩ : ∃ z, (xs (i0 + 1)).toInt = z := ⟨_, rfl⟩
  have x1r := c_rng (xs (i0 + 1))
  rw [hx1] at x1r
  obtain ⟨x2, hx2⟩ : ∃ z, (xs (i0 + 2)).toInt = z := ⟨_, rfl⟩
  have x2r := c_rng (xs (i0 + 2))
  rw [hx2] at x2r
  obtain ⟨x3, hx3⟩ : ∃ z, (xs (i0 + 3)).toInt = z := ⟨_, rfl⟩
  have x3r := c_rng (xs (i0 + 3))
  rw [hx3] at x3r
  obtain ⟨x4, hx4⟩ : ∃ z, (xs (i0 + 4)).toInt = z := ⟨_, rfl⟩
  have x4r := c_rng (xs (i0 + 4))
  rw [hx4] at x4r
  obtain ⟨x5, hx5⟩ : ∃ z, (xs (i0 + 5)).toInt = z := ⟨_, rfl⟩
  have x5r := c_rng (xs (i0 + 5))
  rw [hx5] at x5r
  obtain ⟨x6, hx6⟩ : ∃ z, (xs (i0 + 6)).toInt = z := ⟨_, rfl⟩
  have x6r := c_rng (xs (i0 + 6))
  rw [hx6] at x6r
  obtain ⟨x7, hx7⟩ : ∃ z, (xs (i0 + 7)).toInt = z := ⟨_, rfl⟩
  have x7r := c_rng (xs (i0 + 7))
  rw [hx7] at x7r
  have hP := iv_P hI
  have hQ := iv_Q hI
  have hT := rl_t hR
  have hU := rl_u hR
  obtain ⟨n0, hn0⟩ : ∃ z, c P 0 = z := ⟨_, rfl⟩
  have hm0 : c 41 20 = n0 := (rl_nums hR).1.symm.trans hn0
  have hr0 := ir_p0_0 hI hP
  rw [hn0] at hr0
  obtain ⟨n1, hn1⟩ : ∃ z, c P 1 = z := ⟨_, rfl⟩
  have hm1 : c 41 21 = n1 := (rl_nums hR).2.1.symm.trans hn1
  have hr1 := ir_p0_1 hI hP
  rw [hn1] at hr1
  obtain ⟨n2, hn2⟩ : ∃ z, c P 2 = z := ⟨_, rfl⟩
  have hm2 : c 41 22 = n2 := (rl_nums hR).2.2.1.symm.trans hn2
  have hr2 := ir_p0_2 hI hP
  rw [hn2] at hr2
  obtain ⟨n3, hn3⟩ : ∃ z, c P 3 = z := ⟨_, rfl⟩
  have hm3 : c 41 23 = n3 := (rl_nums hR).2.2.2.symm.trans hn3
  have hr3 := ir_p0_3 hI hP
  rw [hn3] at hr3
  have hNimg := rl_img hR
  have hNwk := rl_wk hR
  have h_1 := ir_3_4 hI
  have hIw := rl_iw hR
  have hNplace := rl_place hR
  refine q_aload_n c_296_1381 rfl (q_aload_n c_296_1382 rfl (q_iload c_296_1383 rfl (q_iconst c_296_1385 (v_iadd (v := (i0 : Int) + 1) c_296_1386 rfl (v_scr (j := i0 + 1) c_296_1387 (by omega) (by omega) hL hx1 (q_aload_n c_296_1388 rfl (q_call c_296_1389 rfl rfl rfl ?_)))))))
  refine q_aload_n c_288_0 rfl (q_iconst c_288_1 (q_aload_n c_288_2 rfl (q_iload_n c_288_3 rfl ?_)))
  refine v_cv c_288_4 km_9_93 rfl rfl (Nat.le_of_ble_eq_true rfl) ⟨⟨rfl, rfl⟩, Nat.le_of_ble_eq_true rfl, rfl⟩ (Nat.le_of_ble_eq_true rfl) (Nat.le_of_ble_eq_true rfl) (s_98 (a1 := x1) hI (show (-2147483648) ≤ x1 ∧ x1 ≤ 2147483647 from ⟨by omega, by omega⟩) (fun c_2 hI_3 hF_4 => ?_) (fun c_5 y_8 hI_6 hF_7 hy_8 => ?_))
  · skip
    refine bk_thr (z := Int32.ofInt 1) rfl ⟨_, _, rfl⟩ rfl (bk_inl (q_istore c_296_1392 (Nat.le_of_ble_eq_true rfl) (q_aload_n c_296_1394 rfl (q_aload_n c_296_1395 rfl (q_iload c_296_1396 rfl (q_iconst c_296_1398 (v_iadd (v := (i0 : Int) + 1) c_296_1399 rfl ?_)))))))
    refine v_scr (j := i0 + 1) c_296_1400 (by omega) (by omega) hL hx1 (v_cv c_296_1401 km_9_229 rfl rfl (Nat.le_of_ble_eq_true rfl) ⟨⟨rfl, rfl⟩, Nat.le_of_ble_eq_true rfl, rfl⟩ (Nat.le_of_ble_eq_true rfl) (Nat.le_of_ble_eq_true rfl) (s_245 (a1 := x1) hI_3 (show (-2147483648) ≤ x1 ∧ x1 ≤ 2147483647 from ⟨by omega, by omega⟩) (fun c_9 y_12 hI_10 hF_11 hy_12 => (bk_inl (q_istore c_296_1404 (Nat.le_of_ble_eq_true rfl) (q_goto (t := 1816) c_296_1406 rfl (Wp_ls [(4, vi (i0 : Int)), (3, .ref 67), (2, .ref 41), (1, .ref 0), (0, .ref a_SC)] (lsub_cons rfl (lsub_cons rfl (lsub_cons rfl (lsub_cons rfl (lsub_cons rfl lsub_nil))))) ?_)))))))
    have h_13 := ir_1_3 hI
    have kn_14 : Hid (c_2 1 3 = c 1 3) := hF_4 1 3 (fun h => absurd h.1 (nn rfl))
    have kn_15 : Hid (c_9 1 3 = c 1 3) := (hF_11 1 3 qn_39cd18c3e).trans (hid kn_14)
    have h_16 : c_9 1 3 = c 1 3 := (hid kn_15)
    have h_17 := ir_41_2 hI
    have kn_18 : Hid (c_2 41 2 = c 41 2) := hF_4 41 2 (fun h => absurd h.1 (nn rfl))
    have kn_19 : Hid (c_9 41 2 = c 41 2) := (hF_11 41 2 qn_53bdb2099).trans (hid kn_18)
    have h_20 : c_9 41 2 = c 41 2 := (hid kn_19)
    have kn_21 : Hid (c_2 P 0 = n0) := (hF_4 P 0 (fun h => absurd h.1 (np0 hP rfl))).trans (hn0)
    have kn_22 : Hid (c_9 P 0 = n0) := (hF_11 P 0 (qn_857752076 hP)).trans (hid kn_21)
    have h_23 : c_9 P 0 = n0 := (hid kn_22)
    have kn_24 : Hid (c_2 41 20 = n0) := (hF_4 41 20 (fun h => absurd h.1 (nn rfl))).trans (hm0)
    have kn_25 : Hid (c_9 41 20 = n0) := (hF_11 41 20 qn_110b29ed6).trans (hid kn_24)
    have h_26 : c_9 41 20 = n0 := (hid kn_25)
    have kn_27 : Hid (c_2 P 1 = n1) := (hF_4 P 1 (fun h => absurd h.1 (np0 hP rfl))).trans (hn1)
    have kn_28 : Hid (c_9 P 1 = n1) := (hF_11 P 1 (qn_857752076 hP)).trans (hid kn_27)
    have h_29 : c_9 P 1 = n1 := (hid kn_28)
    have kn_30 : Hid (c_2 41 21 = n1) := (hF_4 41 21 (fun h => absurd h.1 (nn rfl))).trans (hm1)
    have kn_31 : Hid (c_9 41 21 = n1) := (hF_11 41 21 qn_561064c41).trans (hid kn_30)
    have h_32 : c_9 41 21 = n1 := (hid kn_31)
    have kn_33 : Hid (c_2 P 2 = n2) := (hF_4 P 2 (fun h => absurd h.1 (np0 hP rfl))).trans (hn2)
    have kn_34 : Hid (c_9 P 2 = n2) := (hF_11 P 2 (qn_857752076 hP)).trans (hid kn_33)
    have h_35 : c_9 P 2 = n2 := (hid kn_34)
    have kn_36 : Hid (c_2 41 22 = n2) := (hF_4 41 22 (fun h => absurd h.1 (nn rfl))).trans (hm2)
    have kn_37 : Hid (c_9 41 22 = n2) := (hF_11 41 22 qn_1a460b46b).trans (hid kn_36)
    have h_38 : c_9 41 22 = n2 := (hid kn_37)
    have kn_39 : Hid (c_2 P 3 = n3) := (hF_4 P 3 (fun h => absurd h.1 (np0 hP rfl))).trans (hn3)
    have kn_40 : Hid (c_9 P 3 = n3) := (hF_11 P 3 (qn_857752076 hP)).trans (hid kn_39)
    have h_41 : c_9 P 3 = n3 := (hid kn_40)
    have kn_42 : Hid (c_2 41 23 = n3) := (hF_4 41 23 (fun h => absurd h.1 (nn rfl))).trans (hm3)
    have kn_43 : Hid (c_9 41 23 = n3) := (hF_11 41 23 qn_b79f282cd).trans (hid kn_42)
    have h_44 : c_9 41 23 = n3 := (hid kn_43)
    have kn_45 : Hid (c_2 3 4 = c 3 4) := hF_4 3 4 (fun h => absurd h.1 (nn rfl))
    have kn_46 : Hid (c_9 3 4 = c 3 4) := (hF_11 3 4 qn_bf2303cc8).trans (hid kn_45)
    have h_47 : c_9 3 4 = c 3 4 := (hid kn_46)
    have h_48 := ir_41_52 hI
    have kn_49 : Hid (c_2 41 52 = c 41 52) := hF_4 41 52 (fun h => absurd h.1 (nn rfl))
    have kn_50 : Hid (c_9 41 52 = c 41 52) := (hF_11 41 52 qn_90835161a).trans (hid kn_49)
    have h_51 : c_9 41 52 = c 41 52 := (hid kn_50)
    have h_52 := ir_3_3 hI
    have kn_53 : Hid (c_2 3 3 = c 3 3) := hF_4 3 3 (fun h => absurd h.1 (nn rfl))
    have kn_54 : Hid (c_9 3 3 = c 3 3) := (hF_11 3 3 qn_bf2303cc8).trans (hid kn_53)
    have h_55 : c_9 3 3 = c 3 3 := (hid kn_54)
    have h_56 := ir_41_35 hI
    have kn_57 : Hid (c_2 41 35 = c 41 35) := hF_4 41 35 (fun h => absurd h.1 (nn rfl))
    have kn_58 : Hid (c_9 41 35 = c 41 35) := (hF_11 41 35 qn_732a91ea5).trans (hid kn_57)
    have h_59 : c_9 41 35 = c 41 35 := (hid kn_58)
    have h_60 : c_9 3 4 = c 3 4 := (hid kn_46)
    have h_61 := ir_1_5 hI
    have kn_62 : Hid (c_2 1 5 = c 1 5) := hF_4 1 5 (fun h => absurd h.1 (nn rfl))
    have kn_63 : Hid (c_9 1 5 = c 1 5) := (hF_11 1 5 qn_39cd18c3e).trans (hid kn_62)
    have h_64 : c_9 1 5 = c 1 5 := (hid kn_63)
    have h_65 := ir_41_8 hI
    have kn_66 : Hid (c_2 41 8 = c 41 8) := hF_4 41 8 (fun h => absurd h.1 (nn rfl))
    have kn_67 : Hid (c_9 41 8 = c 41 8) := (hF_11 41 8 qn_b601a9968).trans (hid kn_66)
    have h_68 : c_9 41 8 = c 41 8 := (hid kn_67)
    exact K P Q c_9 1 (by decide) hI_10 ⟨by omega, ub_fr hU (fun j => (hF_11 2 j qn_2ad67e194).trans (hF_4 2 j (fun h => absurd h.1 (nn rfl)))) (fun j => (hF_11 43 j qn_1520ff5e3).trans (hF_4 43 j (fun h => absurd h.1 (nn rfl)))), ⟨by omega, by omega, by omega, by omega⟩, by omega, by omega, iw_fr2 hIw (by omega) (fun j => (hF_11 6 j qn_e1050858a).trans (hF_4 6 j (fun h => absurd h.1 (nn rfl)))) (fun j => (hF_11 66 j qn_5616dd9ce).trans (hF_4 66 j (fun h => absurd h.1 (nn rfl)))), by omega⟩
  refine bk_inl (v_i2l c_288_7 (by omega) (v_ls c_288_8 rfl (by decide) (by decide) (by decide) (q_goto (t := 15) c_288_9 rfl (q_iconst c_288_15 (q_iret c_288_16 rfl (bk_inl (q_istore c_296_1392 (Nat.le_of_ble_eq_true rfl) ?_)))))))
  refine q_aload_n c_296_1394 rfl (q_aload_n c_296_1395 rfl (q_iload c_296_1396 rfl (q_iconst c_296_1398 (v_iadd (v := (i0 : Int) + 1) c_296_1399 rfl (v_scr (j := i0 + 1) c_296_1400 (by omega) (by omega) hL hx1 ?_)))))
  have hI_69 := iw_lx (a := 67) (j := 0) (v := y_8) hI_6 (by omega)
  refine v_cv c_296_1401 km_9_229 rfl rfl (Nat.le_of_ble_eq_true rfl) ⟨⟨rfl, rfl⟩, Nat.le_of_ble_eq_true rfl, rfl⟩ (Nat.le_of_ble_eq_true rfl) (Nat.le_of_ble_eq_true rfl) (s_245 (a1 := x1) hI_69 (show (-2147483648) ≤ x1 ∧ x1 ≤ 2147483647 from ⟨by omega, by omega⟩) (fun c_70 y_73 hI_71 hF_72 hy_73 => (bk_inl (q_istore c_296_1404 (Nat.le_of_ble_eq_true rfl) (q_goto (t := 1816) c_296_1406 rfl (Wp_ls [(4, vi (i0 : Int)), (3, .ref 67), (2, .ref 41), (1, .ref 0), (0, .ref a_SC)] (lsub_cons rfl (lsub_cons rfl (lsub_cons rfl (lsub_cons rfl (lsub_cons rfl lsub_nil))))) ?_))))))
  have h_74 := ir_1_3 hI
  have kn_75 : Hid (c_5 1 3 = c 1 3) := hF_7 1 3 (fun h => absurd h.1 (nn rfl))
  have kn_76 : Hid (c_70 1 3 = c 1 3) := (hF_72 1 3 qn_39cd18c3e).trans ((up_c (nn rfl)).trans (hid kn_75))
  have h_77 : c_70 1 3 = c 1 3 := (hid kn_76)
  have h_78 := ir_41_2 hI
  have kn_79 : Hid (c_5 41 2 = c 41 2) := hF_7 41 2 (fun h => absurd h.1 (nn rfl))
  have kn_80 : Hid (c_70 41 2 = c 41 2) := (hF_72 41 2 qn_53bdb2099).trans ((up_c (nn rfl)).trans (hid kn_79))
  have h_81 : c_70 41 2 = c 41 2 := (hid kn_80)
  have kn_82 : Hid (c_5 P 0 = n0) := (hF_7 P 0 (fun h => absurd h.1 (np0 hP rfl))).trans (hn0)
  have kn_83 : Hid (c_70 P 0 = n0) := (hF_72 P 0 (qn_857752076 hP)).trans ((up_c (np0 hP rfl)).trans (hid kn_82))
  have h_84 : c_70 P 0 = n0 := (hid kn_83)
  have kn_85 : Hid (c_5 41 20 = n0) := (hF_7 41 20 (fun h => absurd h.1 (nn rfl))).trans (hm0)
  have kn_86 : Hid (c_70 41 20 = n0) := (hF_72 41 20 qn_110b29ed6).trans ((up_c (nn rfl)).trans (hid kn_85))
  have h_87 : c_70 41 20 = n0 := (hid kn_86)
  have kn_88 : Hid (c_5 P 1 = n1) := (hF_7 P 1 (fun h => absurd h.1 (np0 hP rfl))).trans (hn1)
  have kn_89 : Hid (c_70 P 1 = n1) := (hF_72 P 1 (qn_857752076 hP)).trans ((up_c (np0 hP rfl)).trans (hid kn_88))
  have h_90 : c_70 P 1 = n1 := (hid kn_89)
  have kn_91 : Hid (c_5 41 21 = n1) := (hF_7 41 21 (fun h => absurd h.1 (nn rfl))).trans (hm1)
  have kn_92 : Hid (c_70 41 21 = n1) := (hF_72 41 21 qn_561064c41).trans ((up_c (nn rfl)).trans (hid kn_91))
  have h_93 : c_70 41 21 = n1 := (hid kn_92)
  have kn_94 : Hid (c_5 P 2 = n2) := (hF_7 P 2 (fun h => absurd h.1 (np0 hP rfl))).trans (hn2)
  have kn_95 : Hid (c_70 P 2 = n2) := (hF_72 P 2 (qn_857752076 hP)).trans ((up_c (np0 hP rfl)).trans (hid kn_94))
  have h_96 : c_70 P 2 = n2 := (hid kn_95)
  have kn_97 : Hid (c_5 41 22 = n2) := (hF_7 41 22 (fun h => absurd h.1 (nn rfl))).trans (hm2)
  have kn_98 : Hid (c_70 41 22 = n2) := (hF_72 41 22 qn_1a460b46b).trans ((up_c (nn rfl)).trans (hid kn_97))
  have h_99 : c_70 41 22 = n2 := (hid kn_98)
  have kn_100 : Hid (c_5 P 3 = n3) := (hF_7 P 3 (fun h => absurd h.1 (np0 hP rfl))).trans (hn3)
  have kn_101 : Hid (c_70 P 3 = n3) := (hF_72 P 3 (qn_857752076 hP)).trans ((up_c (np0 hP rfl)).trans (hid kn_100))
  have h_102 : c_70 P 3 = n3 := (hid kn_101)
  have kn_103 : Hid (c_5 41 23 = n3) := (hF_7 41 23 (fun h => absurd h.1 (nn rfl))).trans (hm3)
  have kn_104 : Hid (c_70 41 23 = n3) := (hF_72 41 23 qn_b79f282cd).trans ((up_c (nn rfl)).trans (hid kn_103))
  have h_105 : c_70 41 23 = n3 := (hid kn_104)
  have kn_106 : Hid (c_5 3 4 = c 3 4) := hF_7 3 4 (fun h => absurd h.1 (nn rfl))
  have kn_107 : Hid (c_70 3 4 = c 3 4) := (hF_72 3 4 qn_bf2303cc8).trans ((up_c (nn rfl)).trans (hid kn_106))
  have h_108 : c_70 3 4 = c 3 4 := (hid kn_107)
  have h_109 := ir_41_52 hI
  have kn_110 : Hid (c_5 41 52 = c 41 52) := hF_7 41 52 (fun h => absurd h.1 (nn rfl))
  have kn_111 : Hid (c_70 41 52 = c 41 52) := (hF_72 41 52 qn_90835161a).trans ((up_c (nn rfl)).trans (hid kn_110))
  have h_112 : c_70 41 52 = c 41 52 := (hid kn_111)
  have h_113 := ir_3_3 hI
  have kn_114 : Hid (c_5 3 3 = c 3 3) := hF_7 3 3 (fun h => absurd h.1 (nn rfl))
  have kn_115 : Hid (c_70 3 3 = c 3 3) := (hF_72 3 3 qn_bf2303cc8).trans ((up_c (nn rfl)).trans (hid kn_114))
  have h_116 : c_70 3 3 = c 3 3 := (hid kn_115)
  have h_117 := ir_41_35 hI
  have kn_118 : Hid (c_5 41 35 = c 41 35) := hF_7 41 35 (fun h => absurd h.1 (nn rfl))
  have kn_119 : Hid (c_70 41 35 = c 41 35) := (hF_72 41 35 qn_732a91ea5).trans ((up_c (nn rfl)).trans (hid kn_118))
  have h_120 : c_70 41 35 = c 41 35 := (hid kn_119)
  have h_121 : c_70 3 4 = c 3 4 := (hid kn_107)
  have h_122 := ir_1_5 hI
  have kn_123 : Hid (c_5 1 5 = c 1 5) := hF_7 1 5 (fun h => absurd h.1 (nn rfl))
  have kn_124 : Hid (c_70 1 5 = c 1 5) := (hF_72 1 5 qn_39cd18c3e).trans ((up_c (nn rfl)).trans (hid kn_123))
  have h_125 : c_70 1 5 = c 1 5 := (hid kn_124)
  have h_126 := ir_41_8 hI
  have kn_127 : Hid (c_5 41 8 = c 41 8) := hF_7 41 8 (fun h => absurd h.1 (nn rfl))
  have kn_128 : Hid (c_70 41 8 = c 41 8) := (hF_72 41 8 qn_b601a9968).trans ((up_c (nn rfl)).trans (hid kn_127))
  have h_129 : c_70 41 8 = c 41 8 := (hid kn_128)
  exact K P Q c_70 0 (by decide) hI_71 ⟨by omega, ub_fr hU (fun j => (hF_72 2 j qn_2ad67e194).trans ((up_c (nn rfl)).trans (hF_7 2 j (fun h => absurd h.1 (nn rfl))))) (fun j => (hF_72 43 j qn_1520ff5e3).trans ((up_c (nn rfl)).trans (hF_7 43 j (fun h => absurd h.1 (nn rfl))))), ⟨by omega, by omega, by omega, by omega⟩, by omega, by omega, iw_fr2 hIw (by omega) (fun j => (hF_72 6 j qn_e1050858a).trans ((up_c (nn rfl)).trans (hF_7 6 j (fun h => absurd h.1 (nn rfl))))) (fun j => (hF_72 66 j qn_5616dd9ce).trans ((up_c (nn rfl)).trans (hF_7 66 j (fun h => absurd h.1 (nn rfl))))), by omega⟩

set_option maxRecDepth 100000 in
set_option maxHeartbeats 4000000 in
theorem o_31 {xs : Nat → Int32} {L i0 d nc ns P Q : Nat} {c : ME} {Z : AR → Prop} (hi : i0 + 8 ≤ L) (hL : L ≤ 100000) (hI : Iv 0 (-1) P Q c) (hR : Rq P c) (K : ∀ (P2 Q2 : Nat) (c2 : ME) (e : Nat), e ≤ 1 → Iv 0 (-1) P2 Q2 c2 → (Rq P2 c2) → Wp (a_scr L xs) (d + 90) 296 1816 [(4, vi (i0 : Int)), (3, .ref 67), (2, .ref 41), (1, .ref 0), (0, .ref a_SC)] [] (Wd P2 Q2 P2 P2 c2) (nc + e) (ns + 6 * e) Z) : Wp (a_scr L xs) (d + 90) 296 1409 [(4, vi (i0 : Int)), (3, .ref 67), (2, .ref 41), (1, .ref 0), (0, .ref a_SC)] [] (Wd P Q P P c) nc ns Z := by
  obtain ⟨x1, hx1⟩ : ∃ z, (xs (i0 + 1)).toInt = z := ⟨_, rfl⟩
  have x1r := c_rng (xs (i0 + 1))
  rw [hx1] at x1r
  obtain ⟨x2, hx2⟩ : ∃ z, (xs (i0 + 2)).toInt = z := ⟨_, rfl⟩
  have x2r := c_rng (xs (i0 + 2))
  rw [hx2] at x2r
  obtain ⟨x3, hx3⟩ : ∃ z, (xs (i0 + 3)).toInt = z := ⟨_, rfl⟩
  have x3r := c_rng (xs (i0 + 3))
  rw [hx3] at x3r
  obtain ⟨x4, hx4⟩ : ∃ z, (xs (i0 + 4)).toInt = z := ⟨_, rfl⟩
  have x4r := c_rng (xs (i0 + 4))
  rw [hx4] at x4r
  obtain ⟨x5, hx5⟩ : ∃ z, (xs (i0 + 5)).toInt = z := ⟨_, rfl⟩
  have x5r := c_rng (xs (i0 + 5))
  rw [hx5] at x5r
  obtain ⟨x6, hx6⟩ : ∃ z, (xs (i0 + 6)).toInt = z := ⟨_, rfl⟩
  have x6r := c_rng (xs (i0 + 6))
  rw [hx6] at x6r
  obtain ⟨x7, hx7⟩ : ∃ z, (xs (i0 + 7)).toInt = z := ⟨_, rfl⟩
  have x7r := c_rng (xs (i0 + 7))
  rw [hx7] at x7r
  have hP := iv_P hI
  have hQ := iv_Q hI
  have hT := rl_t hR
  have hU := rl_u hR
  obtain ⟨n0, hn0⟩ : ∃ z, c P 0 = z := ⟨_, rfl⟩
  have hm0 : c 41 20 = n0 := (rl_nums hR).1.symm.trans hn0
  have hr0 := ir_p0_0 hI hP
  rw [hn0] at hr0
  obtain ⟨n1, hn1⟩ : ∃ z, c P 1 = z := ⟨_, rfl⟩
  have hm1 : c 41 21 = n1 := (rl_nums hR).2.1.symm.trans hn1
  have hr1 := ir_p0_1 hI hP
  rw [hn1] at hr1
  obtain ⟨n2, hn2⟩ : ∃ z, c P 2 = z := ⟨_, rfl⟩
  have hm2 : c 41 22 = n2 := (rl_nums hR).2.2.1.symm.trans hn2
  have hr2 := ir_p0_2 hI hP
  rw [hn2] at hr2
  obtain ⟨n3, hn3⟩ : ∃ z, c P 3 = z := ⟨_, rfl⟩
  have hm3 : c 41 23 = n3 := (rl_nums hR).2.2.2.symm.trans hn3
  have hr3 := ir_p0_3 hI hP
  rw [hn3] at hr3
  have hNimg := rl_img hR
  have hNwk := rl_wk hR
  have h_1 := ir_3_4 hI
  have hIw := rl_iw hR
  have hNplace := rl_place hR
  refine q_aload_n c_296_1409 rfl (q_aload_n c_296_1410 rfl (q_iload c_296_1411 rfl (q_iconst c_296_1413 (v_iadd (v := (i0 : Int) + 1) c_296_1414 rfl (v_scr (j := i0 + 1) c_296_1415 (by omega) (by omega) hL hx1 (q_aload_n c_296_1416 rfl (q_call c_296_1417 rfl rfl rfl ?_)))))))
  refine q_aload_n c_289_0 rfl (q_iconst c_289_1 (q_aload_n c_289_2 rfl (q_iload_n c_289_3 rfl ?_)))
  refine v_cv c_289_4 km_9_96 rfl rfl (Nat.le_of_ble_eq_true rfl) ⟨⟨rfl, rfl⟩, Nat.le_of_ble_eq_true rfl, rfl⟩ (Nat.le_of_ble_eq_true rfl) (Nat.le_of_ble_eq_true rfl) (s_99 (a1 := x1) hI (show (-2147483648) ≤ x1 ∧ x1 ≤ 2147483647 from ⟨by omega, by omega⟩) (fun c_2 hI_3 hF_4 => ?_) (fun c_5 y_8 hI_6 hF_7 hy_8 => ?_))
  · skip
    refine bk_thr (z := Int32.ofInt 1) rfl ⟨_, _, rfl⟩ rfl (bk_inl (q_istore c_296_1420 (Nat.le_of_ble_eq_true rfl) (q_aload_n c_296_1422 rfl (q_aload_n c_296_1423 rfl (q_iload c_296_1424 rfl (q_iconst c_296_1426 (v_iadd (v := (i0 : Int) + 1) c_296_1427 rfl ?_)))))))
    refine v_scr (j := i0 + 1) c_296_1428 (by omega) (by omega) hL hx1 (v_cv c_296_1429 km_9_232 rfl rfl (Nat.le_of_ble_eq_true rfl) ⟨⟨rfl, rfl⟩, Nat.le_of_ble_eq_true rfl, rfl⟩ (Nat.le_of_ble_eq_true rfl) (Nat.le_of_ble_eq_true rfl) (s_246 (a1 := x1) hI_3 (show (-2147483648) ≤ x1 ∧ x1 ≤ 2147483647 from ⟨by omega, by omega⟩) (fun c_9 y_12 hI_10 hF_11 hy_12 => (bk_inl (q_istore c_296_1432 (Nat.le_of_ble_eq_true rfl) (q_goto (t := 1816) c_296_1434 rfl (Wp_ls [(4, vi (i0 : Int)), (3, .ref 67), (2, .ref 41), (1, .ref 0), (0, .ref a_SC)] (lsub_cons rfl (lsub_cons rfl (lsub_cons rfl (lsub_cons rfl (lsub_cons rfl lsub_nil))))) ?_)))))))
    have h_13 := ir_1_3 hI
    have kn_14 : Hid (c_2 1 3 = c 1 3) := hF_4 1 3 (fun h => absurd h.1 (nn rfl))
    have kn_15 : Hid (c_9 1 3 = c 1 3) := (hF_11 1 3 qn_39cd18c3e).trans (hid kn_14)
    have h_16 : c_9 1 3 = c 1 3 := (hid kn_15)
    have h_17 := ir_41_2 hI
    have kn_18 : Hid (c_2 41 2 = c 41 2) := hF_4 41 2 (fun h => absurd h.1 (nn rfl))
    have kn_19 : Hid (c_9 41 2 = c 41 2) := (hF_11 41 2 qn_53bdb2099).trans (hid kn_18)
    have h_20 : c_9 41 2 = c 41 2 := (hid kn_19)
    have kn_21 : Hid (c_2 P 0 = n0) := (hF_4 P 0 (fun h => absurd h.1 (np0 hP rfl))).trans (hn0)
    have kn_22 : Hid (c_9 P 0 = n0) := (hF_11 P 0 (qn_857752076 hP)).trans (hid kn_21)
    have h_23 : c_9 P 0 = n0 := (hid kn_22)
    have kn_24 : Hid (c_2 41 20 = n0) := (hF_4 41 20 (fun h => absurd h.1 (nn rfl))).trans (hm0)
    have kn_25 : Hid (c_9 41 20 = n0) := (hF_11 41 20 qn_110b29ed6).trans (hid kn_24)
    have h_26 : c_9 41 20 = n0 := (hid kn_25)
    have kn_27 : Hid (c_2 P 1 = n1) := (hF_4 P 1 (fun h => absurd h.1 (np0 hP rfl))).trans (hn1)
    have kn_28 : Hid (c_9 P 1 = n1) := (hF_11 P 1 (qn_857752076 hP)).trans (hid kn_27)
    have h_29 : c_9 P 1 = n1 := (hid kn_28)
    have kn_30 : Hid (c_2 41 21 = n1) := (hF_4 41 21 (fun h => absurd h.1 (nn rfl))).trans (hm1)
    have kn_31 : Hid (c_9 41 21 = n1) := (hF_11 41 21 qn_561064c41).trans (hid kn_30)
    have h_32 : c_9 41 21 = n1 := (hid kn_31)
    have kn_33 : Hid (c_2 P 2 = n2) := (hF_4 P 2 (fun h => absurd h.1 (np0 hP rfl))).trans (hn2)
    have kn_34 : Hid (c_9 P 2 = n2) := (hF_11 P 2 (qn_857752076 hP)).trans (hid kn_33)
    have h_35 : c_9 P 2 = n2 := (hid kn_34)
    have kn_36 : Hid (c_2 41 22 = n2) := (hF_4 41 22 (fun h => absurd h.1 (nn rfl))).trans (hm2)
    have kn_37 : Hid (c_9 41 22 = n2) := (hF_11 41 22 qn_1a460b46b).trans (hid kn_36)
    have h_38 : c_9 41 22 = n2 := (hid kn_37)
    have kn_39 : Hid (c_2 P 3 = n3) := (hF_4 P 3 (fun h => absurd h.1 (np0 hP rfl))).trans (hn3)
    have kn_40 : Hid (c_9 P 3 = n3) := (hF_11 P 3 (qn_857752076 hP)).trans (hid kn_39)
    have h_41 : c_9 P 3 = n3 := (hid kn_40)
    have kn_42 : Hid (c_2 41 23 = n3) := (hF_4 41 23 (fun h => absurd h.1 (nn rfl))).trans (hm3)
    have kn_43 : Hid (c_9 41 23 = n3) := (hF_11 41 23 qn_b79f282cd).trans (hid kn_42)
    have h_44 : c_9 41 23 = n3 := (hid kn_43)
    have kn_45 : Hid (c_2 3 4 = c 3 4) := hF_4 3 4 (fun h => absurd h.1 (nn rfl))
    have kn_46 : Hid (c_9 3 4 = c 3 4) := (hF_11 3 4 qn_bf2303cc8).trans (hid kn_45)
    have h_47 : c_9 3 4 = c 3 4 := (hid kn_46)
    have h_48 := ir_41_52 hI
    have kn_49 : Hid (c_2 41 52 = c 41 52) := hF_4 41 52 (fun h => absurd h.1 (nn rfl))
    have kn_50 : Hid (c_9 41 52 = c 41 52) := (hF_11 41 52 qn_90835161a).trans (hid kn_49)
    have h_51 : c_9 41 52 = c 41 52 := (hid kn_50)
    have h_52 := ir_3_3 hI
    have kn_53 : Hid (c_2 3 3 = c 3 3) := hF_4 3 3 (fun h => absurd h.1 (nn rfl))
    have kn_54 : Hid (c_9 3 3 = c 3 3) := (hF_11 3 3 qn_bf2303cc8).trans (hid kn_53)
    have h_55 : c_9 3 3 = c 3 3 := (hid kn_54)
    have h_56 := ir_41_35 hI
    have kn_57 : Hid (c_2 41 35 = c 41 35) := hF_4 41 35 (fun h => absurd h.1 (nn rfl))
    have kn_58 : Hid (c_9 41 35 = c 41 35) := (hF_11 41 35 qn_732a91ea5).trans (hid kn_57)
    have h_59 : c_9 41 35 = c 41 35 := (hid kn_58)
    have h_60 : c_9 3 4 = c 3 4 := (hid kn_46)
    have h_61 := ir_1_5 hI
    have kn_62 : Hid (c_2 1 5 = c 1 5) := hF_4 1 5 (fun h => absurd h.1 (nn rfl))
    have kn_63 : Hid (c_9 1 5 = c 1 5) := (hF_11 1 5 qn_39cd18c3e).trans (hid kn_62)
    have h_64 : c_9 1 5 = c 1 5 := (hid kn_63)
    have h_65 := ir_41_8 hI
    have kn_66 : Hid (c_2 41 8 = c 41 8) := hF_4 41 8 (fun h => absurd h.1 (nn rfl))
    have kn_67 : Hid (c_9 41 8 = c 41 8) := (hF_11 41 8 qn_b601a9968).trans (hid kn_66)
    have h_68 : c_9 41 8 = c 41 8 := (hid kn_67)
    exact K P Q c_9 1 (by decide) hI_10 ⟨by omega, ub_fr hU (fun j => (hF_11 2 j qn_2ad67e194).trans (hF_4 2 j (fun h => absurd h.1 (nn rfl)))) (fun j => (hF_11 43 j qn_1520ff5e3).trans (hF_4 43 j (fun h => absurd h.1 (nn rfl)))), ⟨by omega, by omega, by omega, by omega⟩, by omega, by omega, iw_fr2 hIw (by omega) (fun j => (hF_11 6 j qn_e1050858a).trans (hF_4 6 j (fun h => absurd h.1 (nn rfl)))) (fun j => (hF_11 66 j qn_5616dd9ce).trans (hF_4 66 j (fun h => absurd h.1 (nn rfl)))), by omega⟩
  refine bk_inl (v_i2l c_289_7 (by omega) (v_ls c_289_8 rfl (by decide) (by decide) (by decide) (q_goto (t := 15) c_289_9 rfl (q_iconst c_289_15 (q_iret c_289_16 rfl (bk_inl (q_istore c_296_1420 (Nat.le_of_ble_eq_true rfl) ?_)))))))
  refine q_aload_n c_296_1422 rfl (q_aload_n c_296_1423 rfl (q_iload c_296_1424 rfl (q_iconst c_296_1426 (v_iadd (v := (i0 : Int) + 1) c_296_1427 rfl (v_scr (j := i0 + 1) c_296_1428 (by omega) (by omega) hL hx1 ?_)))))
  have hI_69 := iw_lx (a := 67) (j := 0) (v := y_8) hI_6 (by omega)
  refine v_cv c_296_1429 km_9_232 rfl rfl (Nat.le_of_ble_eq_true rfl) ⟨⟨rfl, rfl⟩, Nat.le_of_ble_eq_true rfl, rfl⟩ (Nat.le_of_ble_eq_true rfl) (Nat.le_of_ble_eq_true rfl) (s_246 (a1 := x1) hI_69 (show (-2147483648) ≤ x1 ∧ x1 ≤ 2147483647 from ⟨by omega, by omega⟩) (fun c_70 y_73 hI_71 hF_72 hy_73 => (bk_inl (q_istore c_296_1432 (Nat.le_of_ble_eq_true rfl) (q_goto (t := 1816) c_296_1434 rfl (Wp_ls [(4, vi (i0 : Int)), (3, .ref 67), (2, .ref 41), (1, .ref 0), (0, .ref a_SC)] (lsub_cons rfl (lsub_cons rfl (lsub_cons rfl (lsub_cons rfl (lsub_cons rfl lsub_nil))))) ?_))))))
  have h_74 := ir_1_3 hI
  have kn_75 : Hid (c_5 1 3 = c 1 3) := hF_7 1 3 (fun h => absurd h.1 (nn rfl))
  have kn_76 : Hid (c_70 1 3 = c 1 3) := (hF_72 1 3 qn_39cd18c3e).trans ((up_c (nn rfl)).trans (hid kn_75))
  have h_77 : c_70 1 3 = c 1 3 := (hid kn_76)
  have h_78 := ir_41_2 hI
  have kn_79 : Hid (c_5 41 2 = c 41 2) := hF_7 41 2 (fun h => absurd h.1 (nn rfl))
  have kn_80 : Hid (c_70 41 2 = c 41 2) := (hF_72 41 2 qn_53bdb2099).trans ((up_c (nn rfl)).trans (hid kn_79))
  have h_81 : c_70 41 2 = c 41 2 := (hid kn_80)
  have kn_82 : Hid (c_5 P 0 = n0) := (hF_7 P 0 (fun h => absurd h.1 (np0 hP rfl))).trans (hn0)
  have kn_83 : Hid (c_70 P 0 = n0) := (hF_72 P 0 (qn_857752076 hP)).trans ((up_c (np0 hP rfl)).trans (hid kn_82))
  have h_84 : c_70 P 0 = n0 := (hid kn_83)
  have kn_85 : Hid (c_5 41 20 = n0) := (hF_7 41 20 (fun h => absurd h.1 (nn rfl))).trans (hm0)
  have kn_86 : Hid (c_70 41 20 = n0) := (hF_72 41 20 qn_110b29ed6).trans ((up_c (nn rfl)).trans (hid kn_85))
  have h_87 : c_70 41 20 = n0 := (hid kn_86)
  have kn_88 : Hid (c_5 P 1 = n1) := (hF_7 P 1 (fun h => absurd h.1 (np0 hP rfl))).trans (hn1)
  have kn_89 : Hid (c_70 P 1 = n1) := (hF_72 P 1 (qn_857752076 hP)).trans ((up_c (np0 hP rfl)).trans (hid kn_88))
  have h_90 : c_70 P 1 = n1 := (hid kn_89)
  have kn_91 : Hid (c_5 41 21 = n1) := (hF_7 41 21 (fun h => absurd h.1 (nn rfl))).trans (hm1)
  have kn_92 : Hid (c_70 41 21 = n1) := (hF_72 41 21 qn_561064c41).trans ((up_c (nn rfl)).trans (hid kn_91))
  have h_93 : c_70 41 21 = n1 := (hid kn_92)
  have kn_94 : Hid (c_5 P 2 = n2) := (hF_7 P 2 (fun h => absurd h.1 (np0 hP rfl))).trans (hn2)
  have kn_95 : Hid (c_70 P 2 = n2) := (hF_72 P 2 (qn_857752076 hP)).trans ((up_c (np0 hP rfl)).trans (hid kn_94))
  have h_96 : c_70 P 2 = n2 := (hid kn_95)
  have kn_97 : Hid (c_5 41 22 = n2) := (hF_7 41 22 (fun h => absurd h.1 (nn rfl))).trans (hm2)
  have kn_98 : Hid (c_70 41 22 = n2) := (hF_72 41 22 qn_1a460b46b).trans ((up_c (nn rfl)).trans (hid kn_97))
  have h_99 : c_70 41 22 = n2 := (hid kn_98)
  have kn_100 : Hid (c_5 P 3 = n3) := (hF_7 P 3 (fun h => absurd h.1 (np0 hP rfl))).trans (hn3)
  have kn_101 : Hid (c_70 P 3 = n3) := (hF_72 P 3 (qn_857752076 hP)).trans ((up_c (np0 hP rfl)).trans (hid kn_100))
  have h_102 : c_70 P 3 = n3 := (hid kn_101)
  have kn_103 : Hid (c_5 41 23 = n3) := (hF_7 41 23 (fun h => absurd h.1 (nn rfl))).trans (hm3)
  have kn_104 : Hid (c_70 41 23 = n3) := (hF_72 41 23 qn_b79f282cd).trans ((up_c (nn rfl)).trans (hid kn_103))
  have h_105 : c_70 41 23 = n3 := (hid kn_104)
  have kn_106 : Hid (c_5 3 4 = c 3 4) := hF_7 3 4 (fun h => absurd h.1 (nn rfl))
  have kn_107 : Hid (c_70 3 4 = c 3 4) := (hF_72 3 4 qn_bf2303cc8).trans ((up_c (nn rfl)).trans (hid kn_106))
  have h_108 : c_70 3 4 = c 3 4 := (hid kn_107)
  have h_109 := ir_41_52 hI
  have kn_110 : Hid (c_5 41 52 = c 41 52) := hF_7 41 52 (fun h => absurd h.1 (nn rfl))
  have kn_111 : Hid (c_70 41 52 = c 41 52) := (hF_72 41 52 qn_90835161a).trans ((up_c (nn rfl)).trans (hid kn_110))
  have h_112 : c_70 41 52 = c 41 52 := (hid kn_111)
  have h_113 := ir_3_3 hI
  have kn_114 : Hid (c_5 3 3 = c 3 3) := hF_7 3 3 (fun h => absurd h.1 (nn rfl))
  have kn_115 : Hid (c_70 3 3 = c 3 3) := (hF_72 3 3 qn_bf2303cc8).trans ((up_c (nn rfl)).trans (hid kn_114))
  have h_116 : c_70 3 3 = c 3 3 := (hid kn_115)
  have h_117 := ir_41_35 hI
  have kn_118 : Hid (c_5 41 35 = c 41 35) := hF_7 41 35 (fun h => absurd h.1 (nn rfl))
  have kn_119 : Hid (c_70 41 35 = c 41 35) := (hF_72 41 35 qn_732a91ea5).trans ((up_c (nn rfl)).trans (hid kn_118))
  have h_120 : c_70 41 35 = c 41 35 := (hid kn_119)
  have h_121 : c_70 3 4 = c 3 4 := (hid kn_107)
  have h_122 := ir_1_5 hI
  have kn_123 : Hid (c_5 1 5 = c 1 5) := hF_7 1 5 (fun h => absurd h.1 (nn rfl))
  have kn_124 : Hid (c_70 1 5 = c 1 5) := (hF_72 1 5 qn_39cd18c3e).trans ((up_c (nn rfl)).trans (hid kn_123))
  have h_125 : c_70 1 5 = c 1 5 := (hid kn_124)
  have h_126 := ir_41_8 hI
  have kn_127 : Hid (c_5 41 8 = c 41 8) := hF_7 41 8 (fun h => absurd h.1 (nn rfl))
  have kn_128 : Hid (c_70 41 8 = c 41 8) := (hF_72 41 8 qn_b601a9968).trans ((up_c (nn rfl)).trans (hid kn_127))
  have h_129 : c_70 41 8 = c 41 8 := (hid kn_128)
  exact K P Q c_70 0 (by decide) hI_71 ⟨by omega, ub_fr hU (fun j => (hF_72 2 j qn_2ad67e194).trans ((up_c (nn rfl)).trans (hF_7 2 j (fun h => absurd h.1 (nn rfl))))) (fun j => (hF_72 43 j qn_1520ff5e3).trans ((up_c (nn rfl)).trans (hF_7 43 j (fun h => absurd h.1 (nn rfl))))), ⟨by omega, by omega, by omega, by omega⟩, by omega, by omega, iw_fr2 hIw (by omega) (fun j => (hF_72 6 j qn_e1050858a).trans ((up_c (nn rfl)).trans (hF_7 6 j (fun h => absurd h.1 (nn rfl))))) (fun j => (hF_72 66 j qn_5616dd9ce).trans ((up_c (nn rfl)).trans (hF_7 66 j (fun h => absurd h.1 (nn rfl))))), by omega⟩

set_option maxRecDepth 100000 in
set_option maxHeartbeats 4000000 in
theorem o_32 {xs : Nat → Int32} {L i0 d nc ns P Q : Nat} {c : ME} {Z : AR → Prop} (hi : i0 + 8 ≤ L) (hL : L ≤ 100000) (hI : Iv 0 (-1) P Q c) (hR : Rq P c) (K : ∀ (P2 Q2 : Nat) (c2 : ME) (e : Nat), e ≤ 1 → Iv 0 (-1) P2 Q2 c2 → (Rq P2 c2) → Wp (a_scr L xs) (d + 90) 296 1816 [(4, vi (i0 : Int)), (3, .ref 67), (2, .ref 41), (1, .ref 0), (0, .ref a_SC)] [] (Wd P2 Q2 P2 P2 c2) (nc + e) (ns + 6 * e) Z) : Wp (a_scr L xs) (d + 90) 296 1437 [(4, vi (i0 : Int)), (3, .ref 67), (2, .ref 41), (1, .ref 0), (0, .ref a_SC)] [] (Wd P Q P P c) nc ns Z := by
  obtain ⟨x1, hx1⟩ : ∃ z, (xs (i0 + 1)).toInt = z := ⟨_, rfl⟩
  have x1r := c_rng (xs (i0 + 1))
  rw [hx1] at x1r
  obtain ⟨x2, hx2⟩ : ∃ z, (xs (i0 + 2)).toInt = z := ⟨_, rfl⟩
  have x2r := c_rng (xs (i0 + 2))
  rw [hx2] at x2r
  obtain ⟨x3, hx3⟩ : ∃ z, (xs (i0 + 3)).toInt = z := ⟨_, rfl⟩
  have x3r := c_rng (xs (i0 + 3))
  rw [hx3] at x3r
  obtain ⟨x4, hx4⟩ : ∃ z, (xs (i0 + 4)).toInt = z := ⟨_, rfl⟩
  have x4r := c_rng (xs (i0 + 4))
  rw [hx4] at x4r
  obtain ⟨x5, hx5⟩ : ∃ z, (xs (i0 + 5)).toInt = z := ⟨_, rfl⟩
  have x5r := c_rng (xs (i0 + 5))
  rw [hx5] at x5r
  obtain ⟨x6, hx6⟩ : ∃ z, (xs (i0 + 6)).toInt = z := ⟨_, rfl⟩
  have x6r := c_rng (xs (i0 + 6))
  rw [hx6] at x6r
  obtain ⟨x7, hx7⟩ : ∃ z, (xs (i0 + 7)).toInt = z := ⟨_, rfl⟩
  have x7r := c_rng (xs (i0 + 7))
  rw [hx7] at x7r
  have hP := iv_P hI
  have hQ := iv_Q hI
  have hT := rl_t hR
  have hU := rl_u hR
  obtain ⟨n0, hn0⟩ : ∃ z, c P 0 = z := ⟨_, rfl⟩
  have hm0 : c 41 20 = n0 := (rl_nums hR).1.symm.trans hn0
  have hr0 := ir_p0_0 hI hP
  rw [hn0] at hr0
  obtain ⟨n1, hn1⟩ : ∃ z, c P 1 = z := ⟨_, rfl⟩
  have hm1 : c 41 21 = n1 := (rl_nums hR).2.1.symm.trans hn1
  have hr1 := ir_p0_1 hI hP
  rw [hn1] at hr1
  obtain ⟨n2, hn2⟩ : ∃ z, c P 2 = z := ⟨_, rfl⟩
  have hm2 : c 41 22 = n2 := (rl_nums hR).2.2.1.symm.trans hn2
  have hr2 := ir_p0_2 hI hP
  rw [hn2] at hr2
  obtain ⟨n3, hn3⟩ : ∃ z, c P 3 = z := ⟨_, rfl⟩
  have hm3 : c 41 23 = n3 := (rl_nums hR).2.2.2.symm.trans hn3
  have hr3 := ir_p0_3 hI hP
  rw [hn3] at hr3
  have hNimg := rl_img hR
  have hNwk := rl_wk hR
  have h_1 := ir_3_4 hI
  have hIw := rl_iw hR
  have hNplace := rl_place hR
  refine q_aload_n c_296_1437 rfl (q_aload_n c_296_1438 rfl (q_iload c_296_1439 rfl (q_iconst c_296_1441 (v_iadd (v := (i0 : Int) + 1) c_296_1442 rfl (v_scr (j := i0 + 1) c_296_1443 (by omega) (by omega) hL hx1 (q_aload_n c_296_1444 rfl (q_call c_296_1445 rfl rfl rfl ?_)))))))
  refine q_aload_n c_290_0 rfl (q_iconst c_290_1 (q_aload_n c_290_2 rfl (q_iload_n c_290_3 rfl ?_)))
  refine v_cv c_290_4 km_9_99 rfl rfl (Nat.le_of_ble_eq_true rfl) ⟨⟨rfl, rfl⟩, Nat.le_of_ble_eq_true rfl, rfl⟩ (Nat.le_of_ble_eq_true rfl) (Nat.le_of_ble_eq_true rfl) (s_115 (a1 := x1) hI (show (-2147483648) ≤ x1 ∧ x1 ≤ 2147483647 from ⟨by omega, by omega⟩) (fun c_2 hI_3 hF_4 => ?_) (fun c_5 y_8 hI_6 hF_7 hy_8 => ?_))
  · skip
    refine bk_thr (z := Int32.ofInt 1) rfl ⟨_, _, rfl⟩ rfl (bk_inl (q_istore c_296_1448 (Nat.le_of_ble_eq_true rfl) (q_aload_n c_296_1450 rfl (q_aload_n c_296_1451 rfl (q_iload c_296_1452 rfl (q_iconst c_296_1454 (v_iadd (v := (i0 : Int) + 1) c_296_1455 rfl ?_)))))))
    refine v_scr (j := i0 + 1) c_296_1456 (by omega) (by omega) hL hx1 (v_cv c_296_1457 km_9_235 rfl rfl (Nat.le_of_ble_eq_true rfl) ⟨⟨rfl, rfl⟩, Nat.le_of_ble_eq_true rfl, rfl⟩ (Nat.le_of_ble_eq_true rfl) (Nat.le_of_ble_eq_true rfl) (s_247 (a1 := x1) hI_3 (show (-2147483648) ≤ x1 ∧ x1 ≤ 2147483647 from ⟨by omega, by omega⟩) (fun c_9 y_12 hI_10 hF_11 hy_12 => (bk_inl (q_istore c_296_1460 (Nat.le_of_ble_eq_true rfl) (q_goto (t := 1816) c_296_1462 rfl (Wp_ls [(4, vi (i0 : Int)), (3, .ref 67), (2, .ref 41), (1, .ref 0), (0, .ref a_SC)] (lsub_cons rfl (lsub_cons rfl (lsub_cons rfl (lsub_cons rfl (lsub_cons rfl lsub_nil))))) ?_)))))))
    have h_13 := ir_1_3 hI
    have kn_14 : Hid (c_2 1 3 = c 1 3) := hF_4 1 3 (fun h => absurd h.1 (nn rfl))
    have kn_15 : Hid (c_9 1 3 = c 1 3) := (hF_11 1 3 qn_39cd18c3e).trans (hid kn_14)
    have h_16 : c_9 1 3 = c 1 3 := (hid kn_15)
    have h_17 := ir_41_2 hI
    have kn_18 : Hid (c_2 41 2 = c 41 2) := hF_4 41 2 (fun h => absurd h.1 (nn rfl))
    have kn_19 : Hid (c_9 41 2 = c 41 2) := (hF_11 41 2 qn_53bdb2099).trans (hid kn_18)
    have h_20 : c_9 41 2 = c 41 2 := (hid kn_19)
    have kn_21 : Hid (c_2 P 0 = n0) := (hF_4 P 0 (fun h => absurd h.1 (np0 hP rfl))).trans (hn0)
    have kn_22 : Hid (c_9 P 0 = n0) := (hF_11 P 0 (qn_857752076 hP)).trans (hid kn_21)
    have h_23 : c_9 P 0 = n0 := (hid kn_22)
    have kn_24 : Hid (c_2 41 20 = n0) := (hF_4 41 20 (fun h => absurd h.1 (nn rfl))).trans (hm0)
    have kn_25 : Hid (c_9 41 20 = n0) := (hF_11 41 20 qn_110b29ed6).trans (hid kn_24)
    have h_26 : c_9 41 20 = n0 := (hid kn_25)
    have kn_27 : Hid (c_2 P 1 = n1) := (hF_4 P 1 (fun h => absurd h.1 (np0 hP rfl))).trans (hn1)
    have kn_28 : Hid (c_9 P 1 = n1) := (hF_11 P 1 (qn_857752076 hP)).trans (hid kn_27)
    have h_29 : c_9 P 1 = n1 := (hid kn_28)
    have kn_30 : Hid (c_2 41 21 = n1) := (hF_4 41 21 (fun h => absurd h.1 (nn rfl))).trans (hm1)
    have kn_31 : Hid (c_9 41 21 = n1) := (hF_11 41 21 qn_561064c41).trans (hid kn_30)
    have h_32 : c_9 41 21 = n1 := (hid kn_31)
    have kn_33 : Hid (c_2 P 2 = n2) := (hF_4 P 2 (fun h => absurd h.1 (np0 hP rfl))).trans (hn2)
    have kn_34 : Hid (c_9 P 2 = n2) := (hF_11 P 2 (qn_857752076 hP)).trans (hid kn_33)
    have h_35 : c_9 P 2 = n2 := (hid kn_34)
    have kn_36 : Hid (c_2 41 22 = n2) := (hF_4 41 22 (fun h => absurd h.1 (nn rfl))).trans (hm2)
    have kn_37 : Hid (c_9 41 22 = n2) := (hF_11 41 22 qn_1a460b46b).trans (hid kn_36)
    have h_38 : c_9 41 22 = n2 := (hid kn_37)
    have kn_39 : Hid (c_2 P 3 = n3) := (hF_4 P 3 (fun h => absurd h.1 (np0 hP rfl))).trans (hn3)
    have kn_40 : Hid (c_9 P 3 = n3) := (hF_11 P 3 (qn_857752076 hP)).trans (hid kn_39)
    have h_41 : c_9 P 3 = n3 := (hid kn_40)
    have kn_42 : Hid (c_2 41 23 = n3) := (hF_4 41 23 (fun h => absurd h.1 (nn rfl))).trans (hm3)
    have kn_43 : Hid (c_9 41 23 = n3) := (hF_11 41 23 qn_b79f282cd).trans (hid kn_42)
    have h_44 : c_9 41 23 = n3 := (hid kn_43)
    have kn_45 : Hid (c_2 3 4 = c 3 4) := hF_4 3 4 (fun h => absurd h.1 (nn rfl))
    have kn_46 : Hid (c_9 3 4 = c 3 4) := (hF_11 3 4 qn_bf2303cc8).trans (hid kn_45)
    have h_47 : c_9 3 4 = c 3 4 := (hid kn_46)
    have h_48 := ir_41_52 hI
    have kn_49 : Hid (c_2 41 52 = c 41 52) := hF_4 41 52 (fun h => absurd h.1 (nn rfl))
    have kn_50 : Hid (c_9 41 52 = c 41 52) := (hF_11 41 52 qn_90835161a).trans (hid kn_49)
    have h_51 : c_9 41 52 = c 41 52 := (hid kn_50)
    have h_52 := ir_3_3 hI
    have kn_53 : Hid (c_2 3 3 = c 3 3) := hF_4 3 3 (fun h => absurd h.1 (nn rfl))
    have kn_54 : Hid (c_9 3 3 = c 3 3) := (hF_11 3 3 qn_bf2303cc8).trans (hid kn_53)
    have h_55 : c_9 3 3 = c 3 3 := (hid kn_54)
    have h_56 := ir_41_35 hI
    have kn_57 : Hid (c_2 41 35 = c 41 35) := hF_4 41 35 (fun h => absurd h.1 (nn rfl))
    have kn_58 : Hid (c_9 41 35 = c 41 35) := (hF_11 41 35 qn_732a91ea5).trans (hid kn_57)
    have h_59 : c_9 41 35 = c 41 35 := (hid kn_58)
    have h_60 : c_9 3 4 = c 3 4 := (hid kn_46)
    have h_61 := ir_1_5 hI
    have kn_62 : Hid (c_2 1 5 = c 1 5) := hF_4 1 5 (fun h => absurd h.1 (nn rfl))
    have kn_63 : Hid (c_9 1 5 = c 1 5) := (hF_11 1 5 qn_39cd18c3e).trans (hid kn_62)
    have h_64 : c_9 1 5 = c 1 5 := (hid kn_63)
    have h_65 := ir_41_8 hI
    have kn_66 : Hid (c_2 41 8 = c 41 8) := hF_4 41 8 (fun h => absurd h.1 (nn rfl))
    have kn_67 : Hid (c_9 41 8 = c 41 8) := (hF_11 41 8 qn_b601a9968).trans (hid kn_66)
    have h_68 : c_9 41 8 = c 41 8 := (hid kn_67)
    exact K P Q c_9 1 (by decide) hI_10 ⟨by omega, ub_fr hU (fun j => (hF_11 2 j qn_2ad67e194).trans (hF_4 2 j (fun h => absurd h.1 (nn rfl)))) (fun j => (hF_11 43 j qn_1520ff5e3).trans (hF_4 43 j (fun h => absurd h.1 (nn rfl)))), ⟨by omega, by omega, by omega, by omega⟩, by omega, by omega, iw_fr2 hIw (by omega) (fun j => (hF_11 6 j qn_e1050858a).trans (hF_4 6 j (fun h => absurd h.1 (nn rfl)))) (fun j => (hF_11 66 j qn_5616dd9ce).trans (hF_4 66 j (fun h => absurd h.1 (nn rfl)))), by omega⟩
  refine bk_inl (v_i2l c_290_7 (by omega) (v_ls c_290_8 rfl (by decide) (by decide) (by decide) (q_goto (t := 15) c_290_9 rfl (q_iconst c_290_15 (q_iret c_290_16 rfl (bk_inl (q_istore c_296_1448 (Nat.le_of_ble_eq_true rfl) ?_)))))))
  refine q_aload_n c_296_1450 rfl (q_aload_n c_296_1451 rfl (q_iload c_296_1452 rfl (q_iconst c_296_1454 (v_iadd (v := (i0 : Int) + 1) c_296_1455 rfl (v_scr (j := i0 + 1) c_296_1456 (by omega) (by omega) hL hx1 ?_)))))
  have hI_69 := iw_lx (a := 67) (j := 0) (v := y_8) hI_6 (by omega)
  refine v_cv c_296_1457 km_9_235 rfl rfl (Nat.le_of_ble_eq_true rfl) ⟨⟨rfl, rfl⟩, Nat.le_of_ble_eq_true rfl, rfl⟩ (Nat.le_of_ble_eq_true rfl) (Nat.le_of_ble_eq_true rfl) (s_247 (a1 := x1) hI_69 (show (-2147483648) ≤ x1 ∧ x1 ≤ 2147483647 from ⟨by omega, by omega⟩) (fun c_70 y_73 hI_71 hF_72 hy_73 => (bk_inl (q_istore c_296_1460 (Nat.le_of_ble_eq_true rfl) (q_goto (t := 1816) c_296_1462 rfl (Wp_ls [(4, vi (i0 : Int)), (3, .ref 67), (2, .ref 41), (1, .ref 0), (0, .ref a_SC)] (lsub_cons rfl (lsub_cons rfl (lsub_cons rfl (lsub_cons rfl (lsub_cons rfl lsub_nil))))) ?_))))))
  have h_74 := ir_1_3 hI
  have kn_75 : Hid (c_5 1 3 = c 1 3) := hF_7 1 3 (fun h => absurd h.1 (nn rfl))
  have kn_76 : Hid (c_70 1 3 = c 1 3) := (hF_72 1 3 qn_39cd18c3e).trans ((up_c (nn rfl)).trans (hid kn_75))
  have h_77 : c_70 1 3 = c 1 3 := (hid kn_76)
  have h_78 := ir_41_2 hI
  have kn_79 : Hid (c_5 41 2 = c 41 2) := hF_7 41 2 (fun h => absurd h.1 (nn rfl))
  have kn_80 : Hid (c_70 41 2 = c 41 2) := (hF_72 41 2 qn_53bdb2099).trans ((up_c (nn rfl)).trans (hid kn_79))
  have h_81 : c_70 41 2 = c 41 2 := (hid kn_80)
  have kn_82 : Hid (c_5 P 0 = n0) := (hF_7 P 0 (fun h => absurd h.1 (np0 hP rfl))).trans (hn0)
  have kn_83 : Hid (c_70 P 0 = n0) := (hF_72 P 0 (qn_857752076 hP)).trans ((up_c (np0 hP rfl)).trans (hid kn_82))
  have h_84 : c_70 P 0 = n0 := (hid kn_83)
  have kn_85 : Hid (c_5 41 20 = n0) := (hF_7 41 20 (fun h => absurd h.1 (nn rfl))).trans (hm0)
  have kn_86 : Hid (c_70 41 20 = n0) := (hF_72 41 20 qn_110b29ed6).trans ((up_c (nn rfl)).trans (hid kn_85))
  have h_87 : c_70 41 20 = n0 := (hid kn_86)
  have kn_88 : Hid (c_5 P 1 = n1) := (hF_7 P 1 (fun h => absurd h.1 (np0 hP rfl))).trans (hn1)
  have kn_89 : Hid (c_70 P 1 = n1) := (hF_72 P 1 (qn_857752076 hP)).trans ((up_c (np0 hP rfl)).trans (hid kn_88))
  have h_90 : c_70 P 1 = n1 := (hid kn_89)
  have kn_91 : Hid (c_5 41 21 = n1) := (hF_7 41 21 (fun h => absurd h.1 (nn rfl))).trans (hm1)
  have kn_92 : Hid (c_70 41 21 = n1) := (hF_72 41 21 qn_561064c41).trans ((up_c (nn rfl)).trans (hid kn_91))
  have h_93 : c_70 41 21 = n1 := (hid kn_92)
  have kn_94 : Hid (c_5 P 2 = n2) := (hF_7 P 2 (fun h => absurd h.1 (np0 hP rfl))).trans (hn2)
  have kn_95 : Hid (c_70 P 2 = n2) := (hF_72 P 2 (qn_857752076 hP)).trans ((up_c (np0 hP rfl)).trans (hid kn_94))
  have h_96 : c_70 P 2 = n2 := (hid kn_95)
  have kn_97 : Hid (c_5 41 22 = n2) := (hF_7 41 22 (fun h => absurd h.1 (nn rfl))).trans (hm2)
  have kn_98 : Hid (c_70 41 22 = n2) := (hF_72 41 22 qn_1a460b46b).trans ((up_c (nn rfl)).trans (hid kn_97))
  have h_99 : c_70 41 22 = n2 := (hid kn_98)
  have kn_100 : Hid (c_5 P 3 = n3) := (hF_7 P 3 (fun h => absurd h.1 (np0 hP rfl))).trans (hn3)
  have kn_101 : Hid (c_70 P 3 = n3) := (hF_72 P 3 (qn_857752076 hP)).trans ((up_c (np0 hP rfl)).trans (hid kn_100))
  have h_102 : c_70 P 3 = n3 := (hid kn_101)
  have kn_103 : Hid (c_5 41 23 = n3) := (hF_7 41 23 (fun h => absurd h.1 (nn rfl))).trans (hm3)
  have kn_104 : Hid (c_70 41 23 = n3) := (hF_72 41 23 qn_b79f282cd).trans ((up_c (nn rfl)).trans (hid kn_103))
  have h_105 : c_70 41 23 = n3 := (hid kn_104)
  have kn_106 : Hid (c_5 3 4 = c 3 4) := hF_7 3 4 (fun h => absurd h.1 (nn rfl))
  have kn_107 : Hid (c_70 3 4 = c 3 4) := (hF_72 3 4 qn_bf2303cc8).trans ((up_c (nn rfl)).trans (hid kn_106))
  have h_108 : c_70 3 4 = c 3 4 := (hid kn_107)
  have h_109 := ir_41_52 hI
  have kn_110 : Hid (c_5 41 52 = c 41 52) := hF_7 41 52 (fun h => absurd h.1 (nn rfl))
  have kn_111 : Hid (c_70 41 52 = c 41 52) := (hF_72 41 52 qn_90835161a).trans ((up_c (nn rfl)).trans (hid kn_110))
  have h_112 : c_70 41 52 = c 41 52 := (hid kn_111)
  have h_113 := ir_3_3 hI
  have kn_114 : Hid (c_5 3 3 = c 3 3) := hF_7 3 3 (fun h => absurd h.1 (nn rfl))
  have kn_115 : Hid (c_70 3 3 = c 3 3) := (hF_72 3 3 qn_bf2303cc8).trans ((up_c (nn rfl)).trans (hid kn_114))
  have h_116 : c_70 3 3 = c 3 3 := (hid kn_115)
  have h_117 := ir_41_35 hI
  have kn_118 : Hid (c_5 41 35 = c 41 35) := hF_7 41 35 (fun h => absurd h.1 (nn rfl))
  have kn_119 : Hid (c_70 41 35 = c 41 35) := (hF_72 41 35 qn_732a91ea5).trans ((up_c (nn rfl)).trans (hid kn_118))
  have h_120 : c_70 41 35 = c 41 35 := (hid kn_119)
  have h_121 : c_70 3 4 = c 3 4 := (hid kn_107)
  have h_122 := ir_1_5 hI
  have kn_123 : Hid (c_5 1 5 = c 1 5) := hF_7 1 5 (fun h => absurd h.1 (nn rfl))
  have kn_124 : Hid (c_70 1 5 = c 1 5) := (hF_72 1 5 qn_39cd18c3e).trans ((up_c (nn rfl)).trans (hid kn_123))
  have h_125 : c_70 1 5 = c 1 5 := (hid kn_124)
  have h_126 := ir_41_8 hI
  have kn_127 : Hid (c_5 41 8 = c 41 8) := hF_7 41 8 (fun h => absurd h.1 (nn rfl))
  have kn_128 : Hid (c_70 41 8 = c 41 8) := (hF_72 41 8 qn_b601a9968).trans ((up_c (nn rfl)).trans (hid kn_127))
  have h_129 : c_70 41 8 = c 41 8 := (hid kn_128)
  exact K P Q c_70 0 (by decide) hI_71 ⟨by omega, ub_fr hU (fun j => (hF_72 2 j qn_2ad67e194).trans ((up_c (nn rfl)).trans (hF_7 2 j (fun h => absurd h.1 (nn rfl))))) (fun j => (hF_72 43 j qn_1520ff5e3).trans ((up_c (nn rfl)).trans (hF_7 43 j (fun h => absurd h.1 (nn rfl))))), ⟨by omega, by omega, by omega, by omega⟩, by omega, by omega, iw_fr2 hIw (by omega) (fun j => (hF_72 6 j qn_e1050858a).trans ((up_c (nn rfl)).trans (hF_7 6 j (fun h => absurd h.1 (nn rfl))))) (fun j => (hF_72 66 j qn_5616dd9ce).trans ((up_c (nn rfl)).trans (hF_7 66 j (fun h => absurd h.1 (nn rfl))))), by omega⟩

set_option maxRecDepth 100000 in
set_option maxHeartbeats 4000000 in
theorem o_33 {xs : Nat → Int32} {L i0 d nc ns P Q : Nat} {c : ME} {Z : AR → Prop} (hi : i0 + 8 ≤ L) (hL : L ≤ 100000) (hI : Iv 0 (-1) P Q c) (hR : Rq P c) (K : ∀ (P2 Q2 : Nat) (c2 : ME) (e : Nat), e ≤ 1 → Iv 0 (-1) P2 Q2 c2 → (Rq P2 c2) → Wp (a_scr L xs) (d + 90) 296 1816 [(4, vi (i0 : Int)), (3, .ref 67), (2, .ref 41), (1, .ref 0), (0, .ref a_SC)] [] (Wd P2 Q2 P2 P2 c2) (nc + e) (ns + 6 * e) Z) : Wp (a_scr L xs) (d + 90) 296 1465 [(4, vi (i0 : Int)), (3, .ref 67), (2, .ref 41), (1, .ref 0), (0, .ref a_SC)] [] (Wd P Q P P c) nc ns Z := by
  obtain ⟨x1, hx1⟩ : ∃ z, (xs (i0 + 1)).toInt = z := ⟨_, rfl⟩
  have x1r := c_rng (xs (i0 + 1))
  rw [hx1] at x1r
  obtain ⟨x2, hx2⟩ : ∃ z, (xs (i0 + 2)).toInt = z := ⟨_, rfl⟩
  have x2r := c_rng (xs (i0 + 2))
  rw [hx2] at x2r
  obtain ⟨x3, hx3⟩ : ∃ z, (xs (i0 + 3)).toInt = z := ⟨_, rfl⟩
  have x3r := c_rng (xs (i0 + 3))
  rw [hx3] at x3r
  obtain ⟨x4, hx4⟩ : ∃ z, (xs (i0 + 4)).toInt = z := ⟨_, rfl⟩
  have x4r := c_rng (xs (i0 + 4))
  rw [hx4] at x4r
  obtain ⟨x5, hx5⟩ : ∃ z, (xs (i0 + 5)).toInt = z := ⟨_, rfl⟩
  have x5r := c_rng (xs (i0 + 5))
  rw [hx5] at x5r
  obtain ⟨x6, hx6⟩ : ∃ z, (xs (i0 + 6)).toInt = z := ⟨_, rfl⟩
  have x6r := c_rng (xs (i0 + 6))
  rw [hx6] at x6r
  obtain ⟨x7, hx7⟩ : ∃ z, (xs (i0 + 7)).toInt = z := ⟨_, rfl⟩
  have x7r := c_rng (xs (i0 + 7))
  rw [hx7] at x7r
  have hP := iv_P hI
  have hQ := iv_Q hI
  have hT := rl_t hR
  have hU := rl_u hR
  obtain ⟨n0, hn0⟩ : ∃ z, c P 0 = z := ⟨_, rfl⟩
  have hm0 : c 41 20 = n0 := (rl_nums hR).1.symm.trans hn0
  have hr0 := ir_p0_0 hI hP
  rw [hn0] at hr0
  obtain ⟨n1, hn1⟩ : ∃ z, c P 1 = z := ⟨_, rfl⟩
  have hm1 : c 41 21 = n1 := (rl_nums hR).2.1.symm.trans hn1
  have hr1 := ir_p0_1 hI hP
  rw [hn1] at hr1
  obtain ⟨n2, hn2⟩ : ∃ z, c P 2 = z := ⟨_, rfl⟩
  have hm2 : c 41 22 = n2 := (rl_nums hR).2.2.1.symm.trans hn2
  have hr2 := ir_p0_2 hI hP
  rw [hn2] at hr2
  obtain ⟨n3, hn3⟩ : ∃ z, c P 3 = z := ⟨_, rfl⟩
  have hm3 : c 41 23 = n3 := (rl_nums hR).2.2.2.symm.trans hn3
  have hr3 := ir_p0_3 hI hP
  rw [hn3] at hr3
  have hNimg := rl_img hR
  have hNwk := rl_wk hR
  have h_1 := ir_3_4 hI
  have hIw := rl_iw hR
  have hNplace := rl_place hR
  refine q_aload_n c_296_1465 rfl (q_aload_n c_296_1466 rfl (q_iload c_296_1467 rfl (q_iconst c_296_1469 (v_iadd (v := (i0 : Int) + 1) c_296_1470 rfl (v_scr (j := i0 + 1) c_296_1471 (by omega) (by omega) hL hx1 (q_aload_n c_296_1472 rfl (q_iload c_296_1473 rfl ?_)))))))
  refine q_iconst c_296_1475 (v_iadd (v := (i0 : Int) + 2) c_296_1476 rfl (v_scr (j := i0 + 2) c_296_1477 (by omega) (by omega) hL hx2 (q_aload_n c_296_1478 rfl (q_call c_296_1479 rfl rfl rfl (q_aload_n c_291_0 rfl (q_iconst c_291_1 (q_aload_n c_291_2 rfl ?_)))))))
  refine q_iload_n c_291_3 rfl (q_iload_n c_291_4 rfl ?_)
  refine v_cv c_291_5 km_9_102 rfl rfl (Nat.le_of_ble_eq_true rfl) ⟨⟨rfl, rfl⟩, Nat.le_of_ble_eq_true rfl, rfl⟩ (Nat.le_of_ble_eq_true rfl) (Nat.le_of_ble_eq_true rfl) (s_100 (a1 := x1) (a2 := x2) hI (show (-2147483648) ≤ x1 ∧ x1 ≤ 2147483647 from ⟨by omega, by omega⟩) (show (-2147483648) ≤ x2 ∧ x2 ≤ 2147483647 from ⟨by omega, by omega⟩) (fun c_2 hI_3 hF_4 => ?_) (fun c_5 y_8 hI_6 hF_7 hy_8 => ?_))
  · skip
    refine bk_thr (z := Int32.ofInt 1) rfl ⟨_, _, rfl⟩ rfl (bk_inl (q_istore c_296_1482 (Nat.le_of_ble_eq_true rfl) (q_aload_n c_296_1484 rfl (q_aload_n c_296_1485 rfl (q_iload c_296_1486 rfl (q_iconst c_296_1488 (v_iadd (v := (i0 : Int) + 1) c_296_1489 rfl ?_)))))))
    refine v_scr (j := i0 + 1) c_296_1490 (by omega) (by omega) hL hx1 (q_aload_n c_296_1491 rfl (q_iload c_296_1492 rfl (q_iconst c_296_1494 (v_iadd (v := (i0 : Int) + 2) c_296_1495 rfl (v_scr (j := i0 + 2) c_296_1496 (by omega) (by omega) hL hx2 (v_cv c_296_1497 km_9_238 rfl rfl (Nat.le_of_ble_eq_true rfl) ⟨⟨rfl, rfl⟩, Nat.le_of_ble_eq_true rfl, rfl⟩ (Nat.le_of_ble_eq_true rfl) (Nat.le_of_ble_eq_true rfl) (s_248 (a1 := x1) (a2 := x2) hI_3 (show (-2147483648) ≤ x1 ∧ x1 ≤ 2147483647 from ⟨by omega, by omega⟩) (show (-2147483648) ≤ x2 ∧ x2 ≤ 2147483647 from ⟨by omega, by omega⟩) (fun c_9 y_12 hI_10 hF_11 hy_12 => (bk_inl ?_)))))))))
    refine q_istore c_296_1500 (Nat.le_of_ble_eq_true rfl) (q_goto (t := 1816) c_296_1502 rfl (Wp_ls [(4, vi (i0 : Int)), (3, .ref 67), (2, .ref 41), (1, .ref 0), (0, .ref a_SC)] (lsub_cons rfl (lsub_cons rfl (lsub_cons rfl (lsub_cons rfl (lsub_cons rfl lsub_nil))))) ?_))
    have h_13 := ir_1_3 hI
    have kn_14 : Hid (c_2 1 3 = c 1 3) := hF_4 1 3 (fun h => absurd h.1 (nn rfl))
    have kn_15 : Hid (c_9 1 3 = c 1 3) := (hF_11 1 3 (fun q => q.elim (fun h => absurd h.1 (nn rfl)) (fun h => absurd h (nn rfl)))).trans (hid kn_14)
    have h_16 : c_9 1 3 = c 1 3 := (hid kn_15)
    have h_17 := ir_41_2 hI
    have kn_18 : Hid (c_2 41 2 = c 41 2) := hF_4 41 2 (fun h => absurd h.1 (nn rfl))
    have kn_19 : Hid (c_9 41 2 = c 41 2) := (hF_11 41 2 (fun q => q.elim (fun h => absurd h.2 (ni rfl)) (fun h => absurd h (nn rfl)))).trans (hid kn_18)
    have h_20 : c_9 41 2 = c 41 2 := (hid kn_19)
    have kn_21 : Hid (c_2 P 0 = n0) := (hF_4 P 0 (fun h => absurd h.1 (np0 hP rfl))).trans (hn0)
    have kn_22 : Hid (c_9 P 0 = n0) := (hF_11 P 0 (qn_753ab1e1a hP)).trans (hid kn_21)
    have h_23 : c_9 P 0 = n0 := (hid kn_22)
    have kn_24 : Hid (c_2 41 20 = n0) := (hF_4 41 20 (fun h => absurd h.1 (nn rfl))).trans (hm0)
    have kn_25 : Hid (c_9 41 20 = n0) := (hF_11 41 20 (fun q => q.elim (fun h => absurd h.2 (ni rfl)) (fun h => absurd h (nn rfl)))).trans (hid kn_24)
    have h_26 : c_9 41 20 = n0 := (hid kn_25)
    have kn_27 : Hid (c_2 P 1 = n1) := (hF_4 P 1 (fun h => absurd h.1 (np0 hP rfl))).trans (hn1)
    have kn_28 : Hid (c_9 P 1 = n1) := (hF_11 P 1 (qn_753ab1e1a hP)).trans (hid kn_27)
    have h_29 : c_9 P 1 = n1 := (hid kn_28)
    have kn_30 : Hid (c_2 41 21 = n1) := (hF_4 41 21 (fun h => absurd h.1 (nn rfl))).trans (hm1)
    have kn_31 : Hid (c_9 41 21 = n1) := (hF_11 41 21 (fun q => q.elim (fun h => absurd h.2 (ni rfl)) (fun h => absurd h (nn rfl)))).trans (hid kn_30)
    have h_32 : c_9 41 21 = n1 := (hid kn_31)
    have kn_33 : Hid (c_2 P 2 = n2) := (hF_4 P 2 (fun h => absurd h.1 (np0 hP rfl))).trans (hn2)
    have kn_34 : Hid (c_9 P 2 = n2) := (hF_11 P 2 (qn_753ab1e1a hP)).trans (hid kn_33)
    have h_35 : c_9 P 2 = n2 := (hid kn_34)
    have kn_36 : Hid (c_2 41 22 = n2) := (hF_4 41 22 (fun h => absurd h.1 (nn rfl))).trans (hm2)
    have kn_37 : Hid (c_9 41 22 = n2) := (hF_11 41 22 (fun q => q.elim (fun h => absurd h.2 (ni rfl)) (fun h => absurd h (nn rfl)))).trans (hid kn_36)
    have h_38 : c_9 41 22 = n2 := (hid kn_37)
    have kn_39 : Hid (c_2 P 3 = n3) := (hF_4 P 3 (fun h => absurd h.1 (np0 hP rfl))).trans (hn3)
    have kn_40 : Hid (c_9 P 3 = n3) := (hF_11 P 3 (qn_753ab1e1a hP)).trans (hid kn_39)
    have h_41 : c_9 P 3 = n3 := (hid kn_40)
    have kn_42 : Hid (c_2 41 23 = n3) := (hF_4 41 23 (fun h => absurd h.1 (nn rfl))).trans (hm3)
    have kn_43 : Hid (c_9 41 23 = n3) := (hF_11 41 23 (fun q => q.elim (fun h => absurd h.2 (ni rfl)) (fun h => absurd h (nn rfl)))).trans (hid kn_42)
    have h_44 : c_9 41 23 = n3 := (hid kn_43)
    have kn_45 : Hid (c_2 3 4 = c 3 4) := hF_4 3 4 (fun h => absurd h.1 (nn rfl))
    have kn_46 : Hid (c_9 3 4 = c 3 4) := (hF_11 3 4 (fun q => q.elim (fun h => absurd h.1 (nn rfl)) (fun h => absurd h (nn rfl)))).trans (hid kn_45)
    have h_47 : c_9 3 4 = c 3 4 := (hid kn_46)
    have h_48 := ir_41_52 hI
    have kn_49 : Hid (c_2 41 52 = c 41 52) := hF_4 41 52 (fun h => absurd h.1 (nn rfl))
    have kn_50 : Hid (c_9 41 52 = c 41 52) := (hF_11 41 52 (fun q => q.elim (fun h => absurd h.2 (ni rfl)) (fun h => absurd h (nn rfl)))).trans (hid kn_49)
    have h_51 : c_9 41 52 = c 41 52 := (hid kn_50)
    have h_52 := ir_3_3 hI
    have kn_53 : Hid (c_2 3 3 = c 3 3) := hF_4 3 3 (fun h => absurd h.1 (nn rfl))
    have kn_54 : Hid (c_9 3 3 = c 3 3) := (hF_11 3 3 (fun q => q.elim (fun h => absurd h.1 (nn rfl)) (fun h => absurd h (nn rfl)))).trans (hid kn_53)
    have h_55 : c_9 3 3 = c 3 3 := (hid kn_54)
    have h_56 := ir_41_35 hI
    have kn_57 : Hid (c_2 41 35 = c 41 35) := hF_4 41 35 (fun h => absurd h.1 (nn rfl))
    have kn_58 : Hid (c_9 41 35 = c 41 35) := (hF_11 41 35 (fun q => q.elim (fun h => absurd h.2 (ni rfl)) (fun h => absurd h (nn rfl)))).trans (hid kn_57)
    have h_59 : c_9 41 35 = c 41 35 := (hid kn_58)
    have h_60 : c_9 3 4 = c 3 4 := (hid kn_46)
    have h_61 := ir_1_5 hI
    have kn_62 : Hid (c_2 1 5 = c 1 5) := hF_4 1 5 (fun h => absurd h.1 (nn rfl))
    have kn_63 : Hid (c_9 1 5 = c 1 5) := (hF_11 1 5 (fun q => q.elim (fun h => absurd h.1 (nn rfl)) (fun h => absurd h (nn rfl)))).trans (hid kn_62)
    have h_64 : c_9 1 5 = c 1 5 := (hid kn_63)
    have h_65 := ir_41_8 hI
    have kn_66 : Hid (c_2 41 8 = c 41 8) := hF_4 41 8 (fun h => absurd h.1 (nn rfl))
    have kn_67 : Hid (c_9 41 8 = c 41 8) := (hF_11 41 8 (fun q => q.elim (fun h => absurd h.2 (ni rfl)) (fun h => absurd h (nn rfl)))).trans (hid kn_66)
    have h_68 : c_9 41 8 = c 41 8 := (hid kn_67)
    exact K P Q c_9 1 (by decide) hI_10 ⟨by omega, ub_fr hU (fun j => (hF_11 2 j (fun q => q.elim (fun h => absurd h.1 (nn rfl)) (fun h => absurd h (nn rfl)))).trans (hF_4 2 j (fun h => absurd h.1 (nn rfl)))) (fun j => (hF_11 43 j (fun q => q.elim (fun h => absurd h.1 (nn rfl)) (fun h => absurd h (nn rfl)))).trans (hF_4 43 j (fun h => absurd h.1 (nn rfl)))), ⟨by omega, by omega, by omega, by omega⟩, by omega, by omega, iw_fr2 hIw (by omega) (fun j => (hF_11 6 j (fun q => q.elim (fun h => absurd h.1 (nn rfl)) (fun h => absurd h (nn rfl)))).trans (hF_4 6 j (fun h => absurd h.1 (nn rfl)))) (fun j => (hF_11 66 j (fun q => q.elim (fun h => absurd h.1 (nn rfl)) (fun h => absurd h (nn rfl)))).trans (hF_4 66 j (fun h => absurd h.1 (nn rfl)))), by omega⟩
  refine bk_inl (v_i2l c_291_8 (by omega) (v_ls c_291_9 rfl (by decide) (by decide) (by decide) (q_goto (t := 17) c_291_10 rfl (q_iconst c_291_17 (q_iret c_291_18 rfl (bk_inl (q_istore c_296_1482 (Nat.le_of_ble_eq_true rfl) ?_)))))))
  refine q_aload_n c_296_1484 rfl (q_aload_n c_296_1485 rfl (q_iload c_296_1486 rfl (q_iconst c_296_1488 (v_iadd (v := (i0 : Int) + 1) c_296_1489 rfl (v_scr (j := i0 + 1) c_296_1490 (by omega) (by omega) hL hx1 (q_aload_n c_296_1491 rfl (q_iload c_296_1492 rfl ?_)))))))
  refine q_iconst c_296_1494 (v_iadd (v := (i0 : Int) + 2) c_296_1495 rfl (v_scr (j := i0 + 2) c_296_1496 (by omega) (by omega) hL hx2 ?_))
  have hI_69 := iw_lx (a := 67) (j := 0) (v := y_8) hI_6 (by omega)
  refine v_cv c_296_1497 km_9_238 rfl rfl (Nat.le_of_ble_eq_true rfl) ⟨⟨rfl, rfl⟩, Nat.le_of_ble_eq_true rfl, rfl⟩ (Nat.le_of_ble_eq_true rfl) (Nat.le_of_ble_eq_true rfl) (s_248 (a1 := x1) (a2 := x2) hI_69 (show (-2147483648) ≤ x1 ∧ x1 ≤ 2147483647 from ⟨by omega, by omega⟩) (show (-2147483648) ≤ x2 ∧ x2 ≤ 2147483647 from ⟨by omega, by omega⟩) (fun c_70 y_73 hI_71 hF_72 hy_73 => (bk_inl (q_istore c_296_1500 (Nat.le_of_ble_eq_true rfl) (q_goto (t := 1816) c_296_1502 rfl (Wp_ls [(4, vi (i0 : Int)), (3, .ref 67), (2, .ref 41), (1, .ref 0), (0, .ref a_SC)] (lsub_cons rfl (lsub_cons rfl (lsub_cons rfl (lsub_cons rfl (lsub_cons rfl lsub_nil))))) ?_))))))
  have h_74 := ir_1_3 hI
  have kn_75 : Hid (c_5 1 3 = c 1 3) := hF_7 1 3 (fun h => absurd h.1 (nn rfl))
  have kn_76 : Hid (c_70 1 3 = c 1 3) := (hF_72 1 3 (fun q => q.elim (fun h => absurd h.1 (nn rfl)) (fun h => absurd h (nn rfl)))).trans ((up_c (nn rfl)).trans (hid kn_75))
  have h_77 : c_70 1 3 = c 1 3 := (hid kn_76)
  have h_78 := ir_41_2 hI
  have kn_79 : Hid (c_5 41 2 = c 41 2) := hF_7 41 2 (fun h => absurd h.1 (nn rfl))
  have kn_80 : Hid (c_70 41 2 = c 41 2) := (hF_72 41 2 (fun q => q.elim (fun h => absurd h.2 (ni rfl)) (fun h => absurd h (nn rfl)))).trans ((up_c (nn rfl)).trans (hid kn_79))
  have h_81 : c_70 41 2 = c 41 2 := (hid kn_80)
  have kn_82 : Hid (c_5 P 0 = n0) := (hF_7 P 0 (fun h => absurd h.1 (np0 hP rfl))).trans (hn0)
  have kn_83 : Hid (c_70 P 0 = n0) := (hF_72 P 0 (qn_753ab1e1a hP)).trans ((up_c (np0 hP rfl)).trans (hid kn_82))
  have h_84 : c_70 P 0 = n0 := (hid kn_83)
  have kn_85 : Hid (c_5 41 20 = n0) := (hF_7 41 20 (fun h => absurd h.1 (nn rfl))).trans (hm0)
  have kn_86 : Hid (c_70 41 20 = n0) := (hF_72 41 20 (fun q => q.elim (fun h => absurd h.2 (ni rfl)) (fun h => absurd h (nn rfl)))).trans ((up_c (nn rfl)).trans (hid kn_85))
  have h_87 : c_70 41 20 = n0 := (hid kn_86)
  have kn_88 : Hid (c_5 P 1 = n1) := (hF_7 P 1 (fun h => absurd h.1 (np0 hP rfl))).trans (hn1)
  have kn_89 : Hid (c_70 P 1 = n1) := (hF_72 P 1 (qn_753ab1e1a hP)).trans ((up_c (np0 hP rfl)).trans (hid kn_88))
  have h_90 : c_70 P 1 = n1 := (hid kn_89)
  have kn_91 : Hid (c_5 41 21 = n1) := (hF_7 41 21 (fun h => absurd h.1 (nn rfl))).trans (hm1)
  have kn_92 : Hid (c_70 41 21 = n1) := (hF_72 41 21 (fun q => q.elim (fun h => absurd h.2 (ni rfl)) (fun h => absurd h (nn rfl)))).trans ((up_c (nn rfl)).trans (hid kn_91))
  have h_93 : c_70 41 21 = n1 := (hid kn_92)
  have kn_94 : Hid (c_5 P 2 = n2) := (hF_7 P 2 (fun h => absurd h.1 (np0 hP rfl))).trans (hn2)
  have kn_95 : Hid (c_70 P 2 = n2) := (hF_72 P 2 (qn_753ab1e1a hP)).trans ((up_c (np0 hP rfl)).trans (hid kn_94))
  have h_96 : c_70 P 2 = n2 := (hid kn_95)
  have kn_97 : Hid (c_5 41 22 = n2) := (hF_7 41 22 (fun h => absurd h.1 (nn rfl))).trans (hm2)
  have kn_98 : Hid (c_70 41 22 = n2) := (hF_72 41 22 (fun q => q.elim (fun h => absurd h.2 (ni rfl)) (fun h => absurd h (nn rfl)))).trans ((up_c (nn rfl)).trans (hid kn_97))
  have h_99 : c_70 41 22 = n2 := (hid kn_98)
  have kn_100 : Hid (c_5 P 3 = n3) := (hF_7 P 3 (fun h => absurd h.1 (np0 hP rfl))).trans (hn3)
  have kn_101 : Hid (c_70 P 3 = n3) := (hF_72 P 3 (qn_753ab1e1a hP)).trans ((up_c (np0 hP rfl)).trans (hid kn_100))
  have h_102 : c_70 P 3 = n3 := (hid kn_101)
  have kn_103 : Hid (c_5 41 23 = n3) := (hF_7 41 23 (fun h => absurd h.1 (nn rfl))).trans (hm3)
  have kn_104 : Hid (c_70 41 23 = n3) := (hF_72 41 23 (fun q => q.elim (fun h => absurd h.2 (ni rfl)) (fun h => absurd h (nn rfl)))).trans ((up_c (nn rfl)).trans (hid kn_103))
  have h_105 : c_70 41 23 = n3 := (hid kn_104)
  have kn_106 : Hid (c_5 3 4 = c 3 4) := hF_7 3 4 (fun h => absurd h.1 (nn rfl))
  have kn_107 : Hid (c_70 3 4 = c 3 4) := (hF_72 3 4 (fun q => q.elim (fun h => absurd h.1 (nn rfl)) (fun h => absurd h (nn rfl)))).trans ((up_c (nn rfl)).trans (hid kn_106))
  have h_108 : c_70 3 4 = c 3 4 := (hid kn_107)
  have h_109 := ir_41_52 hI
  have kn_110 : Hid (c_5 41 52 = c 41 52) := hF_7 41 52 (fun h => absurd h.1 (nn rfl))
  have kn_111 : Hid (c_70 41 52 = c 41 52) := (hF_72 41 52 (fun q => q.elim (fun h => absurd h.2 (ni rfl)) (fun h => absurd h (nn rfl)))).trans ((up_c (nn rfl)).trans (hid kn_110))
  have h_112 : c_70 41 52 = c 41 52 := (hid kn_111)
  have h_113 := ir_3_3 hI
  have kn_114 : Hid (c_5 3 3 = c 3 3) := hF_7 3 3 (fun h => absurd h.1 (nn rfl))
  have kn_115 : Hid (c_70 3 3 = c 3 3) := (hF_72 3 3 (fun q => q.elim (fun h => absurd h.1 (nn rfl)) (fun h => absurd h (nn rfl)))).trans ((up_c (nn rfl)).trans (hid kn_114))
  have h_116 : c_70 3 3 = c 3 3 := (hid kn_115)
  have h_117 := ir_41_35 hI
  have kn_118 : Hid (c_5 41 35 = c 41 35) := hF_7 41 35 (fun h => absurd h.1 (nn rfl))
  have kn_119 : Hid (c_70 41 35 = c 41 35) := (hF_72 41 35 (fun q => q.elim (fun h => absurd h.2 (ni rfl)) (fun h => absurd h (nn rfl)))).trans ((up_c (nn rfl)).trans (hid kn_118))
  have h_120 : c_70 41 35 = c 41 35 := (hid kn_119)
  have h_121 : c_70 3 4 = c 3 4 := (hid kn_107)
  have h_122 := ir_1_5 hI
  have kn_123 : Hid (c_5 1 5 = c 1 5) := hF_7 1 5 (fun h => absurd h.1 (nn rfl))
  have kn_124 : Hid (c_70 1 5 = c 1 5) := (hF_72 1 5 (fun q => q.elim (fun h => absurd h.1 (nn rfl)) (fun h => absurd h (nn rfl)))).trans ((up_c (nn rfl)).trans (hid kn_123))
  have h_125 : c_70 1 5 = c 1 5 := (hid kn_124)
  have h_126 := ir_41_8 hI
  have kn_127 : Hid (c_5 41 8 = c 41 8) := hF_7 41 8 (fun h => absurd h.1 (nn rfl))
  have kn_128 : Hid (c_70 41 8 = c 41 8) := (hF_72 41 8 (fun q => q.elim (fun h => absurd h.2 (ni rfl)) (fun h => absurd h (nn rfl)))).trans ((up_c (nn rfl)).trans (hid kn_127))
  have h_129 : c_70 41 8 = c 41 8 := (hid kn_128)
  exact K P Q c_70 0 (by decide) hI_71 ⟨by omega, ub_fr hU (fun j => (hF_72 2 j (fun q => q.elim (fun h => absurd h.1 (nn rfl)) (fun h => absurd h (nn rfl)))).trans ((up_c (nn rfl)).trans (hF_7 2 j (fun h => absurd h.1 (nn rfl))))) (fun j => (hF_72 43 j (fun q => q.elim (fun h => absurd h.1 (nn rfl)) (fun h => absurd h (nn rfl)))).trans ((up_c (nn rfl)).trans (hF_7 43 j (fun h => absurd h.1 (nn rfl))))), ⟨by omega, by omega, by omega, by omega⟩, by omega, by omega, iw_fr2 hIw (by omega) (fun j => (hF_72 6 j (fun q => q.elim (fun h => absurd h.1 (nn rfl)) (fun h => absurd h (nn rfl)))).trans ((up_c (nn rfl)).trans (hF_7 6 j (fun h => absurd h.1 (nn rfl))))) (fun j => (hF_72 66 j (fun q => q.elim (fun h => absurd h.1 (nn rfl)) (fun h => absurd h (nn rfl)))).trans ((up_c (nn rfl)).trans (hF_7 66 j (fun h => absurd h.1 (nn rfl))))), by omega⟩

set_option maxRecDepth 100000 in
set_option maxHeartbeats 4000000 in
theorem o_34 {xs : Nat → Int32} {L i0 d nc ns P Q : Nat} {c : ME} {Z : AR → Prop} (hi : i0 + 8 ≤ L) (hL : L ≤ 100000) (hI : Iv 0 (-1) P Q c) (hR : Rq P c) (K : ∀ (P2 Q2 : Nat) (c2 : ME) (e : Nat), e ≤ 1 → Iv 0 (-1) P2 Q2 c2 → (Rq P2 c2) → Wp (a_scr L xs) (d + 90) 296 1816 [(4, vi (i0 : Int)), (3, .ref 67), (2, .ref 41), (1, .ref 0), (0, .ref a_SC)] [] (Wd P2 Q2 P2 P2 c2) (nc + e) (ns + 6 * e) Z) : Wp (a_scr L xs) (d + 90) 296 1505 [(4, vi (i0 : Int)), (3, .ref 67), (2, .ref 41), (1, .ref 0), (0, .ref a_SC)] [] (Wd P Q P P c) nc ns Z := by
  obtain ⟨x1, hx1⟩ : ∃ z, (xs (i0 + 1)).toInt = z := ⟨_, rfl⟩
  have x1r := c_rng (xs (i0 + 1))
  rw [hx1] at x1r
  obtain ⟨x2, hx2⟩ : ∃ z, (xs (i0 + 2)).toInt = z := ⟨_, rfl⟩
  have x2r := c_rng (xs (i0 + 2))
  rw [hx2] at x2r
  obtain ⟨x3, hx3⟩ : ∃ z, (xs (i0 + 3)).toInt = z := ⟨_, rfl⟩
  have x3r := c_rng (xs (i0 + 3))
  rw [hx3] at x3r
  obtain ⟨x4, hx4⟩ : ∃ z, (xs (i0 + 4)).toInt = z := ⟨_, rfl⟩
  have x4r := c_rng (xs (i0 + 4))
  rw [hx4] at x4r
  obtain ⟨x5, hx5⟩ : ∃ z, (xs (i0 + 5)).toInt = z := ⟨_, rfl⟩
  have x5r := c_rng (xs (i0 + 5))
  rw [hx5] at x5r
  obtain ⟨x6, hx6⟩ : ∃ z, (xs (i0 + 6)).toInt = z := ⟨_, rfl⟩
  have x6r := c_rng (xs (i0 + 6))
  rw [hx6] at x6r
  obtain ⟨x7, hx7⟩ : ∃ z, (xs (i0 + 7)).toInt = z := ⟨_, rfl⟩
  have x7r := c_rng (xs (i0 + 7))
  rw [hx7] at x7r
  have hP := iv_P hI
  have hQ := iv_Q hI
  have hT := rl_t hR
  have hU := rl_u hR
  obtain ⟨n0, hn0⟩ : ∃ z, c P 0 = z := ⟨_, rfl⟩
  have hm0 : c 41 20 = n0 := (rl_nums hR).1.symm.trans hn0
  have hr0 := ir_p0_0 hI hP
  rw [hn0] at hr0
  obtain ⟨n1, hn1⟩ : ∃ z, c P 1 = z := ⟨_, rfl⟩
  have hm1 : c 41 21 = n1 := (rl_nums hR).2.1.symm.trans hn1
  have hr1 := ir_p0_1 hI hP
  rw [hn1] at hr1
  obtain ⟨n2, hn2⟩ : ∃ z, c P 2 = z := ⟨_, rfl⟩
  have hm2 : c 41 22 = n2 := (rl_nums hR).2.2.1.symm.trans hn2
  have hr2 := ir_p0_2 hI hP
  rw [hn2] at hr2
  obtain ⟨n3, hn3⟩ : ∃ z, c P 3 = z := ⟨_, rfl⟩
  have hm3 : c 41 23 = n3 := (rl_nums hR).2.2.2.symm.trans hn3
  have hr3 := ir_p0_3 hI hP
  rw [hn3] at hr3
  have hNimg := rl_img hR
  have hNwk := rl_wk hR
  have h_1 := ir_3_4 hI
  have hIw := rl_iw hR
  have hNplace := rl_place hR
  refine q_aload_n c_296_1505 rfl (v_cv c_296_1506 km_9_239 rfl rfl (Nat.le_of_ble_eq_true rfl) ⟨⟨rfl, rfl⟩, Nat.le_of_ble_eq_true rfl, rfl⟩ (Nat.le_of_ble_eq_true rfl) (Nat.le_of_ble_eq_true rfl) (s_107 hI (fun c_2 y_5 hI_3 hF_4 hy_5 => (bk_inl (q_pop c_296_1509 rfl (q_aload_n c_296_1510 rfl (v_cv c_296_1511 km_9_242 rfl rfl (Nat.le_of_ble_eq_true rfl) ⟨⟨rfl, rfl⟩, Nat.le_of_ble_eq_true rfl, rfl⟩ (Nat.le_of_ble_eq_true rfl) (Nat.le_of_ble_eq_true rfl) (s_249 hI_3 (fun c_6 y_9 hI_7 hF_8 hy_9 => (bk_inl (q_pop c_296_1514 rfl ?_)))))))))))
  refine q_goto (t := 1816) c_296_1515 rfl (Wp_ls [(4, vi (i0 : Int)), (3, .ref 67), (2, .ref 41), (1, .ref 0), (0, .ref a_SC)] (lsub_cons rfl (lsub_cons rfl (lsub_cons rfl (lsub_cons rfl (lsub_cons rfl lsub_nil))))) ?_)
  have h_10 := ir_1_3 hI
  have kn_11 : Hid (c_2 1 3 = c 1 3) := hF_4 1 3 (qn_db0fa2040 hP)
  have kn_12 : Hid (c_6 1 3 = c 1 3) := (hF_8 1 3 qn_965711e77).trans (hid kn_11)
  have h_13 : c_6 1 3 = c 1 3 := (hid kn_12)
  have h_14 := ir_41_2 hI
  have kn_15 : Hid (c_2 41 2 = c 41 2) := hF_4 41 2 (qn_4d24c7afb hP)
  have kn_16 : Hid (c_6 41 2 = c 41 2) := (hF_8 41 2 qn_dd6cb5371).trans (hid kn_15)
  have h_17 : c_6 41 2 = c 41 2 := (hid kn_16)
  have kn_18 : Hid (c_2 P 0 = n0) := (hF_4 P 0 (fun q => q.elim (fun h => absurd h (p0p rfl)) (fun h => absurd h (p0p rfl)))).trans (hn0)
  have kn_19 : Hid (c_6 P 0 = n0) := (hF_8 P 0 (qn_82f5c699c hP)).trans (hid kn_18)
  have h_20 : c_6 P 0 = n0 := (hid kn_19)
  have kn_21 : Hid (c_2 41 20 = n0) := (hF_4 41 20 (qn_4d24c7afb hP)).trans (hm0)
  have kn_22 : Hid (c_6 41 20 = n0) := (hF_8 41 20 qn_4a675523d).trans (hid kn_21)
  have h_23 : c_6 41 20 = n0 := (hid kn_22)
  have kn_24 : Hid (c_2 P 1 = n1) := (hF_4 P 1 (fun q => q.elim (fun h => absurd h (p0p rfl)) (fun h => absurd h (p0p rfl)))).trans (hn1)
  have kn_25 : Hid (c_6 P 1 = n1) := (hF_8 P 1 (qn_82f5c699c hP)).trans (hid kn_24)
  have h_26 : c_6 P 1 = n1 := (hid kn_25)
  have kn_27 : Hid (c_2 41 21 = n1) := (hF_4 41 21 (qn_4d24c7afb hP)).trans (hm1)
  have kn_28 : Hid (c_6 41 21 = n1) := (hF_8 41 21 qn_b8c7ae319).trans (hid kn_27)
  have h_29 : c_6 41 21 = n1 := (hid kn_28)
  have kn_30 : Hid (c_2 P 2 = n2) := (hF_4 P 2 (fun q => q.elim (fun h => absurd h (p0p rfl)) (fun h => absurd h (p0p rfl)))).trans (hn2)
  have kn_31 : Hid (c_6 P 2 = n2) := (hF_8 P 2 (qn_82f5c699c hP)).trans (hid kn_30)
  have h_32 : c_6 P 2 = n2 := (hid kn_31)
  have kn_33 : Hid (c_2 41 22 = n2) := (hF_4 41 22 (qn_4d24c7afb hP)).trans (hm2)
  have kn_34 : Hid (c_6 41 22 = n2) := (hF_8 41 22 qn_6845dc871).trans (hid kn_33)
  have h_35 : c_6 41 22 = n2 := (hid kn_34)
  have kn_36 : Hid (c_2 P 3 = n3) := (hF_4 P 3 (fun q => q.elim (fun h => absurd h (p0p rfl)) (fun h => absurd h (p0p rfl)))).trans (hn3)
  have kn_37 : Hid (c_6 P 3 = n3) := (hF_8 P 3 (qn_82f5c699c hP)).trans (hid kn_36)
  have h_38 : c_6 P 3 = n3 := (hid kn_37)
  have kn_39 : Hid (c_2 41 23 = n3) := (hF_4 41 23 (qn_4d24c7afb hP)).trans (hm3)
  have kn_40 : Hid (c_6 41 23 = n3) := (hF_8 41 23 qn_d7f907dd2).trans (hid kn_39)
  have h_41 : c_6 41 23 = n3 := (hid kn_40)
  have kn_42 : Hid (c_2 3 4 = c 3 4) := hF_4 3 4 (qn_e1cff7f51 hP)
  have kn_43 : Hid (c_6 3 4 = c 3 4) := (hF_8 3 4 qn_9184c3c35).trans (hid kn_42)
  have h_44 : c_6 3 4 = c 3 4 := (hid kn_43)
  have h_45 := ir_41_52 hI
  have kn_46 : Hid (c_2 41 52 = c 41 52) := hF_4 41 52 (qn_4d24c7afb hP)
  have kn_47 : Hid (c_6 41 52 = c 41 52) := (hF_8 41 52 qn_fe8d01f7a).trans (hid kn_46)
  have h_48 : c_6 41 52 = c 41 52 := (hid kn_47)
  have h_49 := ir_3_3 hI
  have kn_50 : Hid (c_2 3 3 = c 3 3) := hF_4 3 3 (qn_e1cff7f51 hP)
  have kn_51 : Hid (c_6 3 3 = c 3 3) := (hF_8 3 3 qn_9184c3c35).trans (hid kn_50)
  have h_52 : c_6 3 3 = c 3 3 := (hid kn_51)
  have h_53 := ir_41_35 hI
  have kn_54 : Hid (c_2 41 35 = c 41 35) := hF_4 41 35 (qn_4d24c7afb hP)
  have kn_55 : Hid (c_6 41 35 = c 41 35) := (hF_8 41 35 qn_300bb1d4d).trans (hid kn_54)
  have h_56 : c_6 41 35 = c 41 35 := (hid kn_55)
  have h_57 : c_6 3 4 = c 3 4 := (hid kn_43)
  have h_58 := ir_1_5 hI
  have kn_59 : Hid (c_2 1 5 = c 1 5) := hF_4 1 5 (qn_db0fa2040 hP)
  have kn_60 : Hid (c_6 1 5 = c 1 5) := (hF_8 1 5 qn_965711e77).trans (hid kn_59)
  have h_61 : c_6 1 5 = c 1 5 := (hid kn_60)
  have h_62 := ir_41_8 hI
  have kn_63 : Hid (c_2 41 8 = c 41 8) := hF_4 41 8 (qn_4d24c7afb hP)
  have kn_64 : Hid (c_6 41 8 = c 41 8) := (hF_8 41 8 qn_040892555).trans (hid kn_63)
  have h_65 : c_6 41 8 = c 41 8 := (hid kn_64)
  exact K P Q c_6 0 (by decide) hI_7 ⟨by omega, ub_fr hU (fun j => (hF_8 2 j qn_7bbf03f40).trans (hF_4 2 j (qn_389d7b966 hP))) (fun j => (hF_8 43 j qn_da8a66655).trans (hF_4 43 j (qn_afbd556c9 hP))), ⟨by omega, by omega, by omega, by omega⟩, by omega, by omega, iw_fr2 hIw (by omega) (fun j => (hF_8 6 j qn_aea755759).trans (hF_4 6 j (qn_4b8057cf3 hP))) (fun j => (hF_8 66 j qn_7c789e383).trans (hF_4 66 j (qn_6dde8fd4f hP))), by omega⟩

set_option maxRecDepth 100000 in
set_option maxHeartbeats 4000000 in
theorem o_35 {xs : Nat → Int32} {L i0 d nc ns P Q : Nat} {c : ME} {Z : AR → Prop} (hi : i0 + 8 ≤ L) (hL : L ≤ 100000) (hI : Iv 0 (-1) P Q c) (hR : Rq P c) (K : ∀ (P2 Q2 : Nat) (c2 : ME) (e : Nat), e ≤ 1 → Iv 0 (-1) P2 Q2 c2 → (Rq P2 c2) → Wp (a_scr L xs) (d + 90) 296 1816 [(4, vi (i0 : Int)), (3, .ref 67), (2, .ref 41), (1, .ref 0), (0, .ref a_SC)] [] (Wd P2 Q2 P2 P2 c2) (nc + e) (ns + 6 * e) Z) : Wp (a_scr L xs) (d + 90) 296 1518 [(4, vi (i0 : Int)), (3, .ref 67), (2, .ref 41), (1, .ref 0), (0, .ref a_SC)] [] (Wd P Q P P c) nc ns Z := by
  obtain ⟨x1, hx1⟩ : ∃ z, (xs (i0 + 1)).toInt = z := ⟨_, rfl⟩
  have x1r := c_rng (xs (i0 + 1))
  rw [hx1] at x1r
  obtain ⟨x2, hx2⟩ : ∃ z, (xs (i0 + 2)).toInt = z := ⟨_, rfl⟩
  have x2r := c_rng (xs (i0 + 2))
  rw [hx2] at x2r
  obtain ⟨x3, hx3⟩ : ∃ z, (xs (i0 + 3)).toInt = z := ⟨_, rfl⟩
  have x3r := c_rng (xs (i0 + 3))
  rw [hx3] at x3r
  obtain ⟨x4, hx4⟩ : ∃ z, (xs (i0 + 4)).toInt = z := ⟨_, rfl⟩
  have x4r := c_rng (xs (i0 + 4))
  rw [hx4] at x4r
  obtain ⟨x5, hx5⟩ : ∃ z, (xs (i0 + 5)).toInt = z := ⟨_, rfl⟩
  have x5r := c_rng (xs (i0 + 5))
  rw [hx5] at x5r
  obtain ⟨x6, hx6⟩ : ∃ z, (xs (i0 + 6)).toInt = z := ⟨_, rfl⟩
  have x6r := c_rng (xs (i0 + 6))
  rw [hx6] at x6r
  obtain ⟨x7, hx7⟩ : ∃ z, (xs (i0 + 7)).toInt = z := ⟨_, rfl⟩
  have x7r := c_rng (xs (i0 + 7))
  rw [hx7] at x7r
  have hP := iv_P hI
  have hQ := iv_Q hI
  have hT := rl_t hR
  have hU := rl_u hR
  obtain ⟨n0, hn0⟩ : ∃ z, c P 0 = z := ⟨_, rfl⟩
  have hm0 : c 41 20 = n0 := (rl_nums hR).1.symm.trans hn0
  have hr0 := ir_p0_0 hI hP
  rw [hn0] at hr0
  obtain ⟨n1, hn1⟩ : ∃ z, c P 1 = z := ⟨_, rfl⟩
  have hm1 : c 41 21 = n1 := (rl_nums hR).2.1.symm.trans hn1
  have hr1 := ir_p0_1 hI hP
  rw [hn1] at hr1
  obtain ⟨n2, hn2⟩ : ∃ z, c P 2 = z := ⟨_, rfl⟩
  have hm2 : c 41 22 = n2 := (rl_nums hR).2.2.1.symm.trans hn2
  have hr2 := ir_p0_2 hI hP
  rw [hn2] at hr2
  obtain ⟨n3, hn3⟩ : ∃ z, c P 3 = z := ⟨_, rfl⟩
  have hm3 : c 41 23 = n3 := (rl_nums hR).2.2.2.symm.trans hn3
  have hr3 := ir_p0_3 hI hP
  rw [hn3] at hr3
  have hNimg := rl_img hR
  have hNwk := rl_wk hR
  have h_1 := ir_3_4 hI
  have hIw := rl_iw hR
  have hNplace := rl_place hR
  refine q_aload_n c_296_1518 rfl (q_aload_n c_296_1519 rfl (q_iload c_296_1520 rfl (q_iconst c_296_1522 (v_iadd (v := (i0 : Int) + 1) c_296_1523 rfl (v_scr (j := i0 + 1) c_296_1524 (by omega) (by omega) hL hx1 (q_aload_n c_296_1525 rfl (q_call c_296_1526 rfl rfl rfl ?_)))))))
  refine q_aload_n c_292_0 rfl (q_iconst c_292_1 (q_aload_n c_292_2 rfl (q_iload_n c_292_3 rfl ?_)))
  refine v_cv c_292_4 km_9_105 rfl rfl (Nat.le_of_ble_eq_true rfl) ⟨⟨rfl, rfl⟩, Nat.le_of_ble_eq_true rfl, rfl⟩ (Nat.le_of_ble_eq_true rfl) (Nat.le_of_ble_eq_true rfl) (s_102 (a1 := x1) hI (show (-2147483648) ≤ x1 ∧ x1 ≤ 2147483647 from ⟨by omega, by omega⟩) (fun c_2 hI_3 hF_4 => ?_) (fun c_5 y_8 hI_6 hF_7 hy_8 => ?_))
  · skip
    refine bk_thr (z := Int32.ofInt 1) rfl ⟨_, _, rfl⟩ rfl (bk_inl (q_istore c_296_1529 (Nat.le_of_ble_eq_true rfl) (q_aload_n c_296_1531 rfl (q_aload_n c_296_1532 rfl (q_iload c_296_1533 rfl (q_iconst c_296_1535 (v_iadd (v := (i0 : Int) + 1) c_296_1536 rfl ?_)))))))
    refine v_scr (j := i0 + 1) c_296_1537 (by omega) (by omega) hL hx1 (v_cv c_296_1538 km_9_245 rfl rfl (Nat.le_of_ble_eq_true rfl) ⟨⟨rfl, rfl⟩, Nat.le_of_ble_eq_true rfl, rfl⟩ (Nat.le_of_ble_eq_true rfl) (Nat.le_of_ble_eq_true rfl) (s_250 (a1 := x1) hI_3 (show (-2147483648) ≤ x1 ∧ x1 ≤ 2147483647 from ⟨by omega, by omega⟩) (fun c_9 y_12 hI_10 hF_11 hy_12 => (bk_inl (q_istore c_296_1541 (Nat.le_of_ble_eq_true rfl) (q_goto (t := 1816) c_296_1543 rfl (Wp_ls [(4, vi (i0 : Int)), (3, .ref 67), (2, .ref 41), (1, .ref 0), (0, .ref a_SC)] (lsub_cons rfl (lsub_cons rfl (lsub_cons rfl (lsub_cons rfl (lsub_cons rfl lsub_nil))))) ?_)))))))
    have h_13 := ir_1_3 hI
    have kn_14 : Hid (c_2 1 3 = c 1 3) := hF_4 1 3 (fun h => absurd h.1 (nn rfl))
    have kn_15 : Hid (c_9 1 3 = c 1 3) := (hF_11 1 3 qn_39cd18c3e).trans (hid kn_14)
    have h_16 : c_9 1 3 = c 1 3 := (hid kn_15)
    have h_17 := ir_41_2 hI
    have kn_18 : Hid (c_2 41 2 = c 41 2) := hF_4 41 2 (fun h => absurd h.1 (nn rfl))
    have kn_19 : Hid (c_9 41 2 = c 41 2) := (hF_11 41 2 qn_53bdb2099).trans (hid kn_18)
    have h_20 : c_9 41 2 = c 41 2 := (hid kn_19)
    have kn_21 : Hid (c_2 P 0 = n0) := (hF_4 P 0 (fun h => absurd h.1 (np0 hP rfl))).trans (hn0)
    have kn_22 : Hid (c_9 P 0 = n0) := (hF_11 P 0 (qn_857752076 hP)).trans (hid kn_21)
    have h_23 : c_9 P 0 = n0 := (hid kn_22)
    have kn_24 : Hid (c_2 41 20 = n0) := (hF_4 41 20 (fun h => absurd h.1 (nn rfl))).trans (hm0)
    have kn_25 : Hid (c_9 41 20 = n0) := (hF_11 41 20 qn_110b29ed6).trans (hid kn_24)
    have h_26 : c_9 41 20 = n0 := (hid kn_25)
    have kn_27 : Hid (c_2 P 1 = n1) := (hF_4 P 1 (fun h => absurd h.1 (np0 hP rfl))).trans (hn1)
    have kn_28 : Hid (c_9 P 1 = n1) := (hF_11 P 1 (qn_857752076 hP)).trans (hid kn_27)
    have h_29 : c_9 P 1 = n1 := (hid kn_28)
    have kn_30 : Hid (c_2 41 21 = n1) := (hF_4 41 21 (fun h => absurd h.1 (nn rfl))).trans (hm1)
    have kn_31 : Hid (c_9 41 21 = n1) := (hF_11 41 21 qn_561064c41).trans (hid kn_30)
    have h_32 : c_9 41 21 = n1 := (hid kn_31)
    have kn_33 : Hid (c_2 P 2 = n2) := (hF_4 P 2 (fun h => absurd h.1 (np0 hP rfl))).trans (hn2)
    have kn_34 : Hid (c_9 P 2 = n2) := (hF_11 P 2 (qn_857752076 hP)).trans (hid kn_33)
    have h_35 : c_9 P 2 = n2 := (hid kn_34)
    have kn_36 : Hid (c_2 41 22 = n2) := (hF_4 41 22 (fun h => absurd h.1 (nn rfl))).trans (hm2)
    have kn_37 : Hid (c_9 41 22 = n2) := (hF_11 41 22 qn_1a460b46b).trans (hid kn_36)
    have h_38 : c_9 41 22 = n2 := (hid kn_37)
    have kn_39 : Hid (c_2 P 3 = n3) := (hF_4 P 3 (fun h => absurd h.1 (np0 hP rfl))).trans (hn3)
    have kn_40 : Hid (c_9 P 3 = n3) := (hF_11 P 3 (qn_857752076 hP)).trans (hid kn_39)
    have h_41 : c_9 P 3 = n3 := (hid kn_40)
    have kn_42 : Hid (c_2 41 23 = n3) := (hF_4 41 23 (fun h => absurd h.1 (nn rfl))).trans (hm3)
    have kn_43 : Hid (c_9 41 23 = n3) := (hF_11 41 23 qn_b79f282cd).trans (hid kn_42)
    have h_44 : c_9 41 23 = n3 := (hid kn_43)
    have kn_45 : Hid (c_2 3 4 = c 3 4) := hF_4 3 4 (fun h => absurd h.1 (nn rfl))
    have kn_46 : Hid (c_9 3 4 = c 3 4) := (hF_11 3 4 qn_bf2303cc8).trans (hid kn_45)
    have h_47 : c_9 3 4 = c 3 4 := (hid kn_46)
    have h_48 := ir_41_52 hI
    have kn_49 : Hid (c_2 41 52 = c 41 52) := hF_4 41 52 (fun h => absurd h.1 (nn rfl))
    have kn_50 : Hid (c_9 41 52 = c 41 52) := (hF_11 41 52 qn_90835161a).trans (hid kn_49)
    have h_51 : c_9 41 52 = c 41 52 := (hid kn_50)
    have h_52 := ir_3_3 hI
    have kn_53 : Hid (c_2 3 3 = c 3 3) := hF_4 3 3 (fun h => absurd h.1 (nn rfl))
    have kn_54 : Hid (c_9 3 3 = c 3 3) := (hF_11 3 3 qn_bf2303cc8).trans (hid kn_53)
    have h_55 : c_9 3 3 = c 3 3 := (hid kn_54)
    have h_56 := ir_41_35 hI
    have kn_57 : Hid (c_2 41 35 = c 41 35) := hF_4 41 35 (fun h => absurd h.1 (nn rfl))
    have kn_58 : Hid (c_9 41 35 = c 41 35) := (hF_11 41 35 qn_732a91ea5).trans (hid kn_57)
    have h_59 : c_9 41 35 = c 41 35 := (hid kn_58)
    have h_60 : c_9 3 4 = c 3 4 := (hid kn_46)
    have h_61 := ir_1_5 hI
    have kn_62 : Hid (c_2 1 5 = c 1 5) := hF_4 1 5 (fun h => absurd h.1 (nn rfl))
    have kn_63 : Hid (c_9 1 5 = c 1 5) := (hF_11 1 5 qn_39cd18c3e).trans (hid kn_62)
    have h_64 : c_9 1 5 = c 1 5 := (hid kn_63)
    have h_65 := ir_41_8 hI
    have kn_66 : Hid (c_2 41 8 = c 41 8) := hF_4 41 8 (fun h => absurd h.1 (nn rfl))
    have kn_67 : Hid (c_9 41 8 = c 41 8) := (hF_11 41 8 qn_b601a9968).trans (hid kn_66)
    have h_68 : c_9 41 8 = c 41 8 := (hid kn_67)
    exact K P Q c_9 1 (by decide) hI_10 ⟨by omega, ub_fr hU (fun j => (hF_11 2 j qn_2ad67e194).trans (hF_4 2 j (fun h => absurd h.1 (nn rfl)))) (fun j => (hF_11 43 j qn_1520ff5e3).trans (hF_4 43 j (fun h => absurd h.1 (nn rfl)))), ⟨by omega, by omega, by omega, by omega⟩, by omega, by omega, iw_fr2 hIw (by omega) (fun j => (hF_11 6 j qn_e1050858a).trans (hF_4 6 j (fun h => absurd h.1 (nn rfl)))) (fun j => (hF_11 66 j qn_5616dd9ce).trans (hF_4 66 j (fun h => absurd h.1 (nn rfl)))), by omega⟩
  refine bk_inl (v_i2l c_292_7 (by omega) (v_ls c_292_8 rfl (by decide) (by decide) (by decide) (q_goto (t := 15) c_292_9 rfl (q_iconst c_292_15 (q_iret c_292_16 rfl (bk_inl (q_istore c_296_1529 (Nat.le_of_ble_eq_true rfl) ?_)))))))
  refine q_aload_n c_296_1531 rfl (q_aload_n c_296_1532 rfl (q_iload c_296_1533 rfl (q_iconst c_296_1535 (v_iadd (v := (i0 : Int) + 1) c_296_1536 rfl (v_scr (j := i0 + 1) c_296_1537 (by omega) (by omega) hL hx1 ?_)))))
  have hI_69 := iw_lx (a := 67) (j := 0) (v := y_8) hI_6 (by omega)
  refine v_cv c_296_1538 km_9_245 rfl rfl (Nat.le_of_ble_eq_true rfl) ⟨⟨rfl, rfl⟩, Nat.le_of_ble_eq_true rfl, rfl⟩ (Nat.le_of_ble_eq_true rfl) (Nat.le_of_ble_eq_true rfl) (s_250 (a1 := x1) hI_69 (show (-2147483648) ≤ x1 ∧ x1 ≤ 2147483647 from ⟨by omega, by omega⟩) (fun c_70 y_73 hI_71 hF_72 hy_73 => (bk_inl (q_istore c_296_1541 (Nat.le_of_ble_eq_true rfl) (q_goto (t := 1816) c_296_1543 rfl (Wp_ls [(4, vi (i0 : Int)), (3, .ref 67), (2, .ref 41), (1, .ref 0), (0, .ref a_SC)] (lsub_cons rfl (lsub_cons rfl (lsub_cons rfl (lsub_cons rfl (lsub_cons rfl lsub_nil))))) ?_))))))
  have h_74 := ir_1_3 hI
  have kn_75 : Hid (c_5 1 3 = c 1 3) := hF_7 1 3 (fun h => absurd h.1 (nn rfl))
  have kn_76 : Hid (c_70 1 3 = c 1 3) := (hF_72 1 3 qn_39cd18c3e).trans ((up_c (nn rfl)).trans (hid kn_75))
  have h_77 : c_70 1 3 = c 1 3 := (hid kn_76)
  have h_78 := ir_41_2 hI
  have kn_79 : Hid (c_5 41 2 = c 41 2) := hF_7 41 2 (fun h => absurd h.1 (nn rfl))
  have kn_80 : Hid (c_70 41 2 = c 41 2) := (hF_72 41 2 qn_53bdb2099).trans ((up_c (nn rfl)).trans (hid kn_79))
  have h_81 : c_70 41 2 = c 41 2 := (hid kn_80)
  have kn_82 : Hid (c_5 P 0 = n0) := (hF_7 P 0 (fun h => absurd h.1 (np0 hP rfl))).trans (hn0)
  have kn_83 : Hid (c_70 P 0 = n0) := (hF_72 P 0 (qn_857752076 hP)).trans ((up_c (np0 hP rfl)).trans (hid kn_82))
  have h_84 : c_70 P 0 = n0 := (hid kn_83)
  have kn_85 : Hid (c_5 41 20 = n0) := (hF_7 41 20 (fun h => absurd h.1 (nn rfl))).trans (hm0)
  have kn_86 : Hid (c_70 41 20 = n0) := (hF_72 41 20 qn_110b29ed6).trans ((up_c (nn rfl)).trans (hid kn_85))
  have h_87 : c_70 41 20 = n0 := (hid kn_86)
  have kn_88 : Hid (c_5 P 1 = n1) := (hF_7 P 1 (fun h => absurd h.1 (np0 hP rfl))).trans (hn1)
  have kn_89 : Hid (c_70 P 1 = n1) := (hF_72 P 1 (qn_857752076 hP)).trans ((up_c (np0 hP rfl)).trans (hid kn_88))
  have h_90 : c_70 P 1 = n1 := (hid kn_89)
  have kn_91 : Hid (c_5 41 21 = n1) := (hF_7 41 21 (fun h => absurd h.1 (nn rfl))).trans (hm1)
  have kn_92 : Hid (c_70 41 21 = n1) := (hF_72 41 21 qn_561064c41).trans ((up_c (nn rfl)).trans (hid kn_91))
  have h_93 : c_70 41 21 = n1 := (hid kn_92)
  have kn_94 : Hid (c_5 P 2 = n2) := (hF_7 P 2 (fun h => absurd h.1 (np0 hP rfl))).trans (hn2)
  have kn_95 : Hid (c_70 P 2 = n2) := (hF_72 P 2 (qn_857752076 hP)).trans ((up_c (np0 hP rfl)).trans (hid kn_94))
  have h_96 : c_70 P 2 = n2 := (hid kn_95)
  have kn_97 : Hid (c_5 41 22 = n2) := (hF_7 41 22 (fun h => absurd h.1 (nn rfl))).trans (hm2)
  have kn_98 : Hid (c_70 41 22 = n2) := (hF_72 41 22 qn_1a460b46b).trans ((up_c (nn rfl)).trans (hid kn_97))
  have h_99 : c_70 41 22 = n2 := (hid kn_98)
  have kn_100 : Hid (c_5 P 3 = n3) := (hF_7 P 3 (fun h => absurd h.1 (np0 hP rfl))).trans (hn3)
  have kn_101 : Hid (c_70 P 3 = n3) := (hF_72 P 3 (qn_857752076 hP)).trans ((up_c (np0 hP rfl)).trans (hid kn_100))
  have h_102 : c_70 P 3 = n3 := (hid kn_101)
  have kn_103 : Hid (c_5 41 23 = n3) := (hF_7 41 23 (fun h => absurd h.1 (nn rfl))).trans (hm3)
  have kn_104 : Hid (c_70 41 23 = n3) := (hF_72 41 23 qn_b79f282cd).trans ((up_c (nn rfl)).trans (hid kn_103))
  have h_105 : c_70 41 23 = n3 := (hid kn_104)
  have kn_106 : Hid (c_5 3 4 = c 3 4) := hF_7 3 4 (fun h => absurd h.1 (nn rfl))
  have kn_107 : Hid (c_70 3 4 = c 3 4) := (hF_72 3 4 qn_bf2303cc8).trans ((up_c (nn rfl)).trans (hid kn_106))
  have h_108 : c_70 3 4 = c 3 4 := (hid kn_107)
  have h_109 := ir_41_52 hI
  have kn_110 : Hid (c_5 41 52 = c 41 52) := hF_7 41 52 (fun h => absurd h.1 (nn rfl))
  have kn_111 : Hid (c_70 41 52 = c 41 52) := (hF_72 41 52 qn_90835161a).trans ((up_c (nn rfl)).trans (hid kn_110))
  have h_112 : c_70 41 52 = c 41 52 := (hid kn_111)
  have h_113 := ir_3_3 hI
  have kn_114 : Hid (c_5 3 3 = c 3 3) := hF_7 3 3 (fun h => absurd h.1 (nn rfl))
  have kn_115 : Hid (c_70 3 3 = c 3 3) := (hF_72 3 3 qn_bf2303cc8).trans ((up_c (nn rfl)).trans (hid kn_114))
  have h_116 : c_70 3 3 = c 3 3 := (hid kn_115)
  have h_117 := ir_41_35 hI
  have kn_118 : Hid (c_5 41 35 = c 41 35) := hF_7 41 35 (fun h => absurd h.1 (nn rfl))
  have kn_119 : Hid (c_70 41 35 = c 41 35) := (hF_72 41 35 qn_732a91ea5).trans ((up_c (nn rfl)).trans (hid kn_118))
  have h_120 : c_70 41 35 = c 41 35 := (hid kn_119)
  have h_121 : c_70 3 4 = c 3 4 := (hid kn_107)
  have h_122 := ir_1_5 hI
  have kn_123 : Hid (c_5 1 5 = c 1 5) := hF_7 1 5 (fun h => absurd h.1 (nn rfl))
  have kn_124 : Hid (c_70 1 5 = c 1 5) := (hF_72 1 5 qn_39cd18c3e).trans ((up_c (nn rfl)).trans (hid kn_123))
  have h_125 : c_70 1 5 = c 1 5 := (hid kn_124)
  have h_126 := ir_41_8 hI
  have kn_127 : Hid (c_5 41 8 = c 41 8) := hF_7 41 8 (fun h => absurd h.1 (nn rfl))
  have kn_128 : Hid (c_70 41 8 = c 41 8) := (hF_72 41 8 qn_b601a9968).trans ((up_c (nn rfl)).trans (hid kn_127))
  have h_129 : c_70 41 8 = c 41 8 := (hid kn_128)
  exact K P Q c_70 0 (by decide) hI_71 ⟨by omega, ub_fr hU (fun j => (hF_72 2 j qn_2ad67e194).trans ((up_c (nn rfl)).trans (hF_7 2 j (fun h => absurd h.1 (nn rfl))))) (fun j => (hF_72 43 j qn_1520ff5e3).trans ((up_c (nn rfl)).trans (hF_7 43 j (fun h => absurd h.1 (nn rfl))))), ⟨by omega, by omega, by omega, by omega⟩, by omega, by omega, iw_fr2 hIw (by omega) (fun j => (hF_72 6 j qn_e1050858a).trans ((up_c (nn rfl)).trans (hF_7 6 j (fun h => absurd h.1 (nn rfl))))) (fun j => (hF_72 66 j qn_5616dd9ce).trans ((up_c (nn rfl)).trans (hF_7 66 j (fun h => absurd h.1 (nn rfl))))), by omega⟩

set_option maxRecDepth 100000 in
set_option maxHeartbeats 4000000 in
theorem o_36 {xs : Nat → Int32} {L i0 d nc ns P Q : Nat} {c : ME} {Z : AR → Prop} (hi : i0 + 8 ≤ L) (hL : L ≤ 100000) (hI : Iv 0 (-1) P Q c) (hR : Rq P c) (K : ∀ (P2 Q2 : Nat) (c2 : ME) (e : Nat), e ≤ 1 → Iv 0 (-1) P2 Q2 c2 → (Rq P2 c2) → Wp (a_scr L xs) (d + 90) 296 1816 [(4, vi (i0 : Int)), (3, .ref 67), (2, .ref 41), (1, .ref 0), (0, .ref a_SC)] [] (Wd P2 Q2 P2 P2 c2) (nc + e) (ns + 6 * e) Z) : Wp (a_scr L xs) (d + 90) 296 1546 [(4, vi (i0 : Int)), (3, .ref 67), (2, .ref 41), (1, .ref 0), (0, .ref a_SC)] [] (Wd P Q P P c) nc ns Z := by
  obtain ⟨x1, hx1⟩ : ∃ z, (xs (i0 + 1)).toInt = z := ⟨_, rfl⟩
  have x1r := c_rng (xs (i0 + 1))
  rw [hx1] at x1r
  obtain ⟨x2, hx2⟩ : ∃ z, (xs (i0 + 2)).toInt = z := ⟨_, rfl⟩
  have x2r := c_rng (xs (i0 + 2))
  rw [hx2] at x2r
  obtain ⟨x3, hx3⟩ : ∃ z, (xs (i0 + 3)).toInt = z := ⟨_, rfl⟩
  have x3r := c_rng (xs (i0 + 3))
  rw [hx3] at x3r
  obtain ⟨x4, hx4⟩ : ∃ z, (xs (i0 + 4)).toInt = z := ⟨_, rfl⟩
  have x4r := c_rng (xs (i0 + 4))
  rw [hx4] at x4r
  obtain ⟨x5, hx5⟩ : ∃ z, (xs (i0 + 5)).toInt = z := ⟨_, rfl⟩
  have x5r := c_rng (xs (i0 + 5))
  rw [hx5] at x5r
  obtain ⟨x6, hx6⟩ : ∃ z, (xs (i0 + 6)).toInt = z := ⟨_, rfl⟩
  have x6r := c_rng (xs (i0 + 6))
  rw [hx6] at x6r
  obtain ⟨x7, hx7⟩ : ∃ z, (xs (i0 + 7)).toInt = z := ⟨_, rfl⟩
  have x7r := c_rng (xs (i0 + 7))
  rw [hx7] at x7r
  have hP := iv_P hI
  have hQ := iv_Q hI
  have hT := rl_t hR
  have hU := rl_u hR
  obtain ⟨n0, hn0⟩ : ∃ z, c P 0 = z := ⟨_, rfl⟩
  have hm0 : c 41 20 = n0 := (rl_nums hR).1.symm.trans hn0
  have hr0 := ir_p0_0 hI hP
  rw [hn0] at hr0
  obtain ⟨n1, hn1⟩ : ∃ z, c P 1 = z := ⟨_, rfl⟩
  have hm1 : c 41 21 = n1 := (rl_nums hR).2.1.symm.trans hn1
  have hr1 := ir_p0_1 hI hP
  rw [hn1] at hr1
  obtain ⟨n2, hn2⟩ : ∃ z, c P 2 = z := ⟨_, rfl⟩
  have hm2 : c 41 22 = n2 := (rl_nums hR).2.2.1.symm.trans hn2
  have hr2 := ir_p0_2 hI hP
  rw [hn2] at hr2
  obtain ⟨n3, hn3⟩ : ∃ z, c P 3 = z := ⟨_, rfl⟩
  have hm3 : c 41 23 = n3 := (rl_nums hR).2.2.2.symm.trans hn3
  have hr3 := ir_p0_3 hI hP
  rw [hn3] at hr3
  have hNimg := rl_img hR
  have hNwk := rl_wk hR
  have h_1 := ir_3_4 hI
  have hIw := rl_iw hR
  have hNplace := rl_place hR
  refine q_aload_n c_296_1546 rfl (q_aload_n c_296_1547 rfl (q_iload c_296_1548 rfl (q_iconst c_296_1550 (v_iadd (v := (i0 : Int) + 1) c_296_1551 rfl (v_scr (j := i0 + 1) c_296_1552 (by omega) (by omega) hL hx1 (q_aload_n c_296_1553 rfl (q_iload c_296_1554 rfl ?_)))))))
  refine q_iconst c_296_1556 (v_iadd (v := (i0 : Int) + 2) c_296_1557 rfl (v_scr (j := i0 + 2) c_296_1558 (by omega) (by omega) hL hx2 (q_aload_n c_296_1559 rfl (q_call c_296_1560 rfl rfl rfl (q_aload_n c_293_0 rfl (q_iconst c_293_1 (q_aload_n c_293_2 rfl ?_)))))))
  refine q_iload_n c_293_3 rfl (q_iload_n c_293_4 rfl ?_)
  refine v_cv c_293_5 km_9_108 rfl rfl (Nat.le_of_ble_eq_true rfl) ⟨⟨rfl, rfl⟩, Nat.le_of_ble_eq_true rfl, rfl⟩ (Nat.le_of_ble_eq_true rfl) (Nat.le_of_ble_eq_true rfl) (s_116 (a1 := x1) (a2 := x2) hI (show (-2147483648) ≤ x1 ∧ x1 ≤ 2147483647 from ⟨by omega, by omega⟩) (show (-2147483648) ≤ x2 ∧ x2 ≤ 2147483647 from ⟨by omega, by omega⟩) (fun c_2 hI_3 hF_4 => ?_) (fun c_5 hI_6 hF_7 => ?_) (fun c_8 y_11 hI_9 hF_10 hy_11 => ?_))
  · skip
    refine bk_thr (z := Int32.ofInt 1) rfl ⟨_, _, rfl⟩ rfl (bk_inl (q_istore c_296_1563 (Nat.le_of_ble_eq_true rfl) (q_aload_n c_296_1565 rfl (q_aload_n c_296_1566 rfl (q_iload c_296_1567 rfl (q_iconst c_296_1569 (v_iadd (v := (i0 : Int) + 1) c_296_1570 rfl ?_)))))))
    refine v_scr (j := i0 + 1) c_296_1571 (by omega) (by omega) hL hx1 (q_aload_n c_296_1572 rfl (q_iload c_296_1573 rfl (q_iconst c_296_1575 (v_iadd (v := (i0 : Int) + 2) c_296_1576 rfl (v_scr (j := i0 + 2) c_296_1577 (by omega) (by omega) hL hx2 (v_cv c_296_1578 km_9_248 rfl rfl (Nat.le_of_ble_eq_true rfl) ⟨⟨rfl, rfl⟩, Nat.le_of_ble_eq_true rfl, rfl⟩ (Nat.le_of_ble_eq_true rfl) (Nat.le_of_ble_eq_true rfl) (s_251 (a1 := x1) (a2 := x2) hI_3 (show (-2147483648) ≤ x1 ∧ x1 ≤ 2147483647 from ⟨by omega, by omega⟩) (show (-2147483648) ≤ x2 ∧ x2 ≤ 2147483647 from ⟨by omega, by omega⟩) (fun c_12 y_15 hI_13 hF_14 hy_15 => (bk_inl ?_)))))))))
    refine q_istore c_296_1581 (Nat.le_of_ble_eq_true rfl) (q_goto (t := 1816) c_296_1583 rfl (Wp_ls [(4, vi (i0 : Int)), (3, .ref 67), (2, .ref 41), (1, .ref 0), (0, .ref a_SC)] (lsub_cons rfl (lsub_cons rfl (lsub_cons rfl (lsub_cons rfl (lsub_cons rfl lsub_nil))))) ?_))
    have h_16 := ir_1_3 hI
    have kn_17 : Hid (c_2 1 3 = c 1 3) := hF_4 1 3 (fun q => q.elim (fun h => absurd h.1 (nn rfl)) (fun h => absurd h.1 (nn rfl)))
    have kn_18 : Hid (c_12 1 3 = c 1 3) := (hF_14 1 3 qn_39cd18c3e).trans (hid kn_17)
    have h_19 : c_12 1 3 = c 1 3 := (hid kn_18)
    have h_20 := ir_41_2 hI
    have kn_21 : Hid (c_2 41 2 = c 41 2) := hF_4 41 2 (fun q => q.elim (fun h => absurd h.1 (nn rfl)) (fun h => absurd h.1 (nn rfl)))
    have kn_22 : Hid (c_12 41 2 = c 41 2) := (hF_14 41 2 qn_53bdb2099).trans (hid kn_21)
    have h_23 : c_12 41 2 = c 41 2 := (hid kn_22)
    have kn_24 : Hid (c_2 P 0 = n0) := (hF_4 P 0 (qn_7ba88e57e hP)).trans (hn0)
    have kn_25 : Hid (c_12 P 0 = n0) := (hF_14 P 0 (qn_857752076 hP)).trans (hid kn_24)
    have h_26 : c_12 P 0 = n0 := (hid kn_25)
    have kn_27 : Hid (c_2 41 20 = n0) := (hF_4 41 20 (fun q => q.elim (fun h => absurd h.1 (nn rfl)) (fun h => absurd h.1 (nn rfl)))).trans (hm0)
    have kn_28 : Hid (c_12 41 20 = n0) := (hF_14 41 20 qn_110b29ed6).trans (hid kn_27)
    have h_29 : c_12 41 20 = n0 := (hid kn_28)
    have kn_30 : Hid (c_2 P 1 = n1) := (hF_4 P 1 (qn_7ba88e57e hP)).trans (hn1)
    have kn_31 : Hid (c_12 P 1 = n1) := (hF_14 P 1 (qn_857752076 hP)).trans (hid kn_30)
    have h_32 : c_12 P 1 = n1 := (hid kn_31)
    have kn_33 : Hid (c_2 41 21 = n1) := (hF_4 41 21 (fun q => q.elim (fun h => absurd h.1 (nn rfl)) (fun h => absurd h.1 (nn rfl)))).trans (hm1)
    have kn_34 : Hid (c_12 41 21 = n1) := (hF_14 41 21 qn_561064c41).trans (hid kn_33)
    have h_35 : c_12 41 21 = n1 := (hid kn_34)
    have kn_36 : Hid (c_2 P 2 = n2) := (hF_4 P 2 (qn_7ba88e57e hP)).trans (hn2)
    have kn_37 : Hid (c_12 P 2 = n2) := (hF_14 P 2 (qn_857752076 hP)).trans (hid kn_36)
    have h_38 : c_12 P 2 = n2 := (hid kn_37)
    have kn_39 : Hid (c_2 41 22 = n2) := (hF_4 41 22 (fun q => q.elim (fun h => absurd h.1 (nn rfl)) (fun h => absurd h.1 (nn rfl)))).trans (hm2)
    have kn_40 : Hid (c_12 41 22 = n2) := (hF_14 41 22 qn_1a460b46b).trans (hid kn_39)
    have h_41 : c_12 41 22 = n2 := (hid kn_40)
    have kn_42 : Hid (c_2 P 3 = n3) := (hF_4 P 3 (qn_7ba88e57e hP)).trans (hn3)
    have kn_43 : Hid (c_12 P 3 = n3) := (hF_14 P 3 (qn_857752076 hP)).trans (hid kn_42)
    have h_44 : c_12 P 3 = n3 := (hid kn_43)
    have kn_45 : Hid (c_2 41 23 = n3) := (hF_4 41 23 (fun q => q.elim (fun h => absurd h.1 (nn rfl)) (fun h => absurd h.1 (nn rfl)))).trans (hm3)
    have kn_46 : Hid (c_12 41 23 = n3) := (hF_14 41 23 qn_b79f282cd).trans (hid kn_45)
    have h_47 : c_12 41 23 = n3 := (hid kn_46)
    have kn_48 : Hid (c_2 3 4 = c 3 4) := hF_4 3 4 (fun q => q.elim (fun h => absurd h.1 (nn rfl)) (fun h => absurd h.1 (nn rfl)))
    have kn_49 : Hid (c_12 3 4 = c 3 4) := (hF_14 3 4 qn_bf2303cc8).trans (hid kn_48)
    have h_50 : c_12 3 4 = c 3 4 := (hid kn_49)
    have h_51 := ir_41_52 hI
    have kn_52 : Hid (c_2 41 52 = c 41 52) := hF_4 41 52 (fun q => q.elim (fun h => absurd h.1 (nn rfl)) (fun h => absurd h.1 (nn rfl)))
    have kn_53 : Hid (c_12 41 52 = c 41 52) := (hF_14 41 52 qn_90835161a).trans (hid kn_52)
    have h_54 : c_12 41 52 = c 41 52 := (hid kn_53)
    have h_55 := ir_3_3 hI
    have kn_56 : Hid (c_2 3 3 = c 3 3) := hF_4 3 3 (fun q => q.elim (fun h => absurd h.1 (nn rfl)) (fun h => absurd h.1 (nn rfl)))
    have kn_57 : Hid (c_12 3 3 = c 3 3) := (hF_14 3 3 qn_bf2303cc8).trans (hid kn_56)
    have h_58 : c_12 3 3 = c 3 3 := (hid kn_57)
    have h_59 := ir_41_35 hI
    have kn_60 : Hid (c_2 41 35 = c 41 35) := hF_4 41 35 (fun q => q.elim (fun h => absurd h.1 (nn rfl)) (fun h => absurd h.1 (nn rfl)))
    have kn_61 : Hid (c_12 41 35 = c 41 35) := (hF_14 41 35 qn_732a91ea5).trans (hid kn_60)
    have h_62 : c_12 41 35 = c 41 35 := (hid kn_61)
    have h_63 : c_12 3 4 = c 3 4 := (hid kn_49)
    have h_64 := ir_1_5 hI
    have kn_65 : Hid (c_2 1 5 = c 1 5) := hF_4 1 5 (fun q => q.elim (fun h => absurd h.1 (nn rfl)) (fun h => absurd h.1 (nn rfl)))
    have kn_66 : Hid (c_12 1 5 = c 1 5) := (hF_14 1 5 qn_39cd18c3e).trans (hid kn_65)
    have h_67 : c_12 1 5 = c 1 5 := (hid kn_66)
    have h_68 := ir_41_8 hI
    have kn_69 : Hid (c_2 41 8 = c 41 8) := hF_4 41 8 (fun q => q.elim (fun h => absurd h.1 (nn rfl)) (fun h => absurd h.1 (nn rfl)))
    have kn_70 : Hid (c_12 41 8 = c 41 8) := (hF_14 41 8 qn_b601a9968).trans (hid kn_69)
    have h_71 : c_12 41 8 = c 41 8 := (hid kn_70)
    exact K P Q c_12 1 (by decide) hI_13 ⟨by omega, ub_fr hU (fun j => (hF_14 2 j qn_2ad67e194).trans (hF_4 2 j (fun q => q.elim (fun h => absurd h.1 (nn rfl)) (fun h => absurd h.1 (nn rfl))))) (fun j => (hF_14 43 j qn_1520ff5e3).trans (hF_4 43 j (fun q => q.elim (fun h => absurd h.1 (nn rfl)) (fun h => absurd h.1 (nn rfl))))), ⟨by omega, by omega, by omega, by omega⟩, by omega, by omega, iw_fr2 hIw (by omega) (fun j => (hF_14 6 j qn_e1050858a).trans (hF_4 6 j (fun q => q.elim (fun h => absurd h.1 (nn rfl)) (fun h => absurd h.1 (nn rfl))))) (fun j => (hF_14 66 j qn_5616dd9ce).trans (hF_4 66 j (fun q => q.elim (fun h => absurd h.1 (nn rfl)) (fun h => absurd h.1 (nn rfl))))), by omega⟩
  · skip
    refine bk_thr (z := Int32.ofInt 2) rfl ⟨_, _, rfl⟩ rfl (bk_inl (q_istore c_296_1563 (Nat.le_of_ble_eq_true rfl) (q_aload_n c_296_1565 rfl (q_aload_n c_296_1566 rfl (q_iload c_296_1567 rfl (q_iconst c_296_1569 (v_iadd (v := (i0 : Int) + 1) c_296_1570 rfl ?_)))))))
    refine v_scr (j := i0 + 1) c_296_1571 (by omega) (by omega) hL hx1 (q_aload_n c_296_1572 rfl (q_iload c_296_1573 rfl (q_iconst c_296_1575 (v_iadd (v := (i0 : Int) + 2) c_296_1576 rfl (v_scr (j := i0 + 2) c_296_1577 (by omega) (by omega) hL hx2 (v_cv c_296_1578 km_9_248 rfl rfl (Nat.le_of_ble_eq_true rfl) ⟨⟨rfl, rfl⟩, Nat.le_of_ble_eq_true rfl, rfl⟩ (Nat.le_of_ble_eq_true rfl) (Nat.le_of_ble_eq_true rfl) (s_251 (a1 := x1) (a2 := x2) hI_6 (show (-2147483648) ≤ x1 ∧ x1 ≤ 2147483647 from ⟨by omega, by omega⟩) (show (-2147483648) ≤ x2 ∧ x2 ≤ 2147483647 from ⟨by omega, by omega⟩) (fun c_72 y_75 hI_73 hF_74 hy_75 => (bk_inl ?_)))))))))
    refine q_istore c_296_1581 (Nat.le_of_ble_eq_true rfl) (q_goto (t := 1816) c_296_1583 rfl (Wp_ls [(4, vi (i0 : Int)), (3, .ref 67), (2, .ref 41), (1, .ref 0), (0, .ref a_SC)] (lsub_cons rfl (lsub_cons rfl (lsub_cons rfl (lsub_cons rfl (lsub_cons rfl lsub_nil))))) ?_))
    have h_76 := ir_1_3 hI
    have kn_77 : Hid (c_5 1 3 = c 1 3) := hF_7 1 3 (fun q => q.elim (fun h => absurd h.1 (nn rfl)) (fun h => absurd h.1 (nn rfl)))
    have kn_78 : Hid (c_72 1 3 = c 1 3) := (hF_74 1 3 qn_39cd18c3e).trans (hid kn_77)
    have h_79 : c_72 1 3 = c 1 3 := (hid kn_78)
    have h_80 := ir_41_2 hI
    have kn_81 : Hid (c_5 41 2 = c 41 2) := hF_7 41 2 (fun q => q.elim (fun h => absurd h.1 (nn rfl)) (fun h => absurd h.1 (nn rfl)))
    have kn_82 : Hid (c_72 41 2 = c 41 2) := (hF_74 41 2 qn_53bdb2099).trans (hid kn_81)
    have h_83 : c_72 41 2 = c 41 2 := (hid kn_82)
    have kn_84 : Hid (c_5 P 0 = n0) := (hF_7 P 0 (qn_7ba88e57e hP)).trans (hn0)
    have kn_85 : Hid (c_72 P 0 = n0) := (hF_74 P 0 (qn_857752076 hP)).trans (hid kn_84)
    have h_86 : c_72 P 0 = n0 := (hid kn_85)
    have kn_87 : Hid (c_5 41 20 = n0) := (hF_7 41 20 (fun q => q.elim (fun h => absurd h.1 (nn rfl)) (fun h => absurd h.1 (nn rfl)))).trans (hm0)
    have kn_88 : Hid (c_72 41 20 = n0) := (hF_74 41 20 qn_110b29ed6).trans (hid kn_87)
    have h_89 : c_72 41 20 = n0 := (hid kn_88)
    have kn_90 : Hid (c_5 P 1 = n1) := (hF_7 P 1 (qn_7ba88e57e hP)).trans (hn1)
    have kn_91 : Hid (c_72 P 1 = n1) := (hF_74 P 1 (qn_857752076 hP)).trans (hid kn_90)
    have h_92 : c_72 P 1 = n1 := (hid kn_91)
    have kn_93 : Hid (c_5 41 21 = n1) := (hF_7 41 21 (fun q => q.elim (fun h => absurd h.1 (nn rfl)) (fun h => absurd h.1 (nn rfl)))).trans (hm1)
    have kn_94 : Hid (c_72 41 21 = n1) := (hF_74 41 21 qn_561064c41).trans (hid kn_93)
    have h_95 : c_72 41 21 = n1 := (hid kn_94)
    have kn_96 : Hid (c_5 P 2 = n2) := (hF_7 P 2 (qn_7ba88e57e hP)).trans (hn2)
    have kn_97 : Hid (c_72 P 2 = n2) := (hF_74 P 2 (qn_857752076 hP)).trans (hid kn_96)
    have h_98 : c_72 P 2 = n2 := (hid kn_97)
    have kn_99 : Hid (c_5 41 22 = n2) := (hF_7 41 22 (fun q => q.elim (fun h => absurd h.1 (nn rfl)) (fun h => absurd h.1 (nn rfl)))).trans (hm2)
    have kn_100 : Hid (c_72 41 22 = n2) := (hF_74 41 22 qn_1a460b46b).trans (hid kn_99)
    have h_101 : c_72 41 22 = n2 := (hid kn_100)
    have kn_102 : Hid (c_5 P 3 = n3) := (hF_7 P 3 (qn_7ba88e57e hP)).trans (hn3)
    have kn_103 : Hid (c_72 P 3 = n3) := (hF_74 P 3 (qn_857752076 hP)).trans (hid kn_102)
    have h_104 : c_72 P 3 = n3 := (hid kn_103)
    have kn_105 : Hid (c_5 41 23 = n3) := (hF_7 41 23 (fun q => q.elim (fun h => absurd h.1 (nn rfl)) (fun h => absurd h.1 (nn rfl)))).trans (hm3)
    have kn_106 : Hid (c_72 41 23 = n3) := (hF_74 41 23 qn_b79f282cd).trans (hid kn_105)
    have h_107 : c_72 41 23 = n3 := (hid kn_106)
    have kn_108 : Hid (c_5 3 4 = c 3 4) := hF_7 3 4 (fun q => q.elim (fun h => absurd h.1 (nn rfl)) (fun h => absurd h.1 (nn rfl)))
    have kn_109 : Hid (c_72 3 4 = c 3 4) := (hF_74 3 4 qn_bf2303cc8).trans (hid kn_108)
    have h_110 : c_72 3 4 = c 3 4 := (hid kn_109)
    have h_111 := ir_41_52 hI
    have kn_112 : Hid (c_5 41 52 = c 41 52) := hF_7 41 52 (fun q => q.elim (fun h => absurd h.1 (nn rfl)) (fun h => absurd h.1 (nn rfl)))
    have kn_113 : Hid (c_72 41 52 = c 41 52) := (hF_74 41 52 qn_90835161a).trans (hid kn_112)
    have h_114 : c_72 41 52 = c 41 52 := (hid kn_113)
    have h_115 := ir_3_3 hI
    have kn_116 : Hid (c_5 3 3 = c 3 3) := hF_7 3 3 (fun q => q.elim (fun h => absurd h.1 (nn rfl)) (fun h => absurd h.1 (nn rfl)))
    have kn_117 : Hid (c_72 3 3 = c 3 3) := (hF_74 3 3 qn_bf2303cc8).trans (hid kn_116)
    have h_118 : c_72 3 3 = c 3 3 := (hid kn_117)
    have h_119 := ir_41_35 hI
    have kn_120 : Hid (c_5 41 35 = c 41 35) := hF_7 41 35 (fun q => q.elim (fun h => absurd h.1 (nn rfl)) (fun h => absurd h.1 (nn rfl)))
    have kn_121 : Hid (c_72 41 35 = c 41 35) := (hF_74 41 35 qn_732a91ea5).trans (hid kn_120)
    have h_122 : c_72 41 35 = c 41 35 := (hid kn_121)
    have h_123 : c_72 3 4 = c 3 4 := (hid kn_109)
    have h_124 := ir_1_5 hI
    have kn_125 : Hid (c_5 1 5 = c 1 5) := hF_7 1 5 (fun q => q.elim (fun h => absurd h.1 (nn rfl)) (fun h => absurd h.1 (nn rfl)))
    have kn_126 : Hid (c_72 1 5 = c 1 5) := (hF_74 1 5 qn_39cd18c3e).trans (hid kn_125)
    have h_127 : c_72 1 5 = c 1 5 := (hid kn_126)
    have h_128 := ir_41_8 hI
    have kn_129 : Hid (c_5 41 8 = c 41 8) := hF_7 41 8 (fun q => q.elim (fun h => absurd h.1 (nn rfl)) (fun h => absurd h.1 (nn rfl)))
    have kn_130 : Hid (c_72 41 8 = c 41 8) := (hF_74 41 8 qn_b601a9968).trans (hid kn_129)
    have h_131 : c_72 41 8 = c 41 8 := (hid kn_130)
    exact K P Q c_72 1 (by decide) hI_73 ⟨by omega, ub_fr hU (fun j => (hF_74 2 j qn_2ad67e194).trans (hF_7 2 j (fun q => q.elim (fun h => absurd h.1 (nn rfl)) (fun h => absurd h.1 (nn rfl))))) (fun j => (hF_74 43 j qn_1520ff5e3).trans (hF_7 43 j (fun q => q.elim (fun h => absurd h.1 (nn rfl)) (fun h => absurd h.1 (nn rfl))))), ⟨by omega, by omega, by omega, by omega⟩, by omega, by omega, iw_fr2 hIw (by omega) (fun j => (hF_74 6 j qn_e1050858a).trans (hF_7 6 j (fun q => q.elim (fun h => absurd h.1 (nn rfl)) (fun h => absurd h.1 (nn rfl))))) (fun j => (hF_74 66 j qn_5616dd9ce).trans (hF_7 66 j (fun q => q.elim (fun h => absurd h.1 (nn rfl)) (fun h => absurd h.1 (nn rfl))))), by omega⟩
  refine bk_inl (v_i2l c_293_8 (by omega) (v_ls c_293_9 rfl (by decide) (by decide) (by decide) (q_goto (t := 21) c_293_10 rfl (q_iconst c_293_21 (q_iret c_293_22 rfl (bk_inl (q_istore c_296_1563 (Nat.le_of_ble_eq_true rfl) ?_)))))))
  refine q_aload_n c_296_1565 rfl (q_aload_n c_296_1566 rfl (q_iload c_296_1567 rfl (q_iconst c_296_1569 (v_iadd (v := (i0 : Int) + 1) c_296_1570 rfl (v_scr (j := i0 + 1) c_296_1571 (by omega) (by omega) hL hx1 (q_aload_n c_296_1572 rfl (q_iload c_296_1573 rfl ?_)))))))
  refine q_iconst c_296_1575 (v_iadd (v := (i0 : Int) + 2) c_296_1576 rfl (v_scr (j := i0 + 2) c_296_1577 (by omega) (by omega) hL hx2 ?_))
  have hI_132 := iw_lx (a := 67) (j := 0) (v := y_11) hI_9 (by omega)
  refine v_cv c_296_1578 km_9_248 rfl rfl (Nat.le_of_ble_eq_true rfl) ⟨⟨rfl, rfl⟩, Nat.le_of_ble_eq_true rfl, rfl⟩ (Nat.le_of_ble_eq_true rfl) (Nat.le_of_ble_eq_true rfl) (s_251 (a1 := x1) (a2 := x2) hI_132 (show (-2147483648) ≤ x1 ∧ x1 ≤ 2147483647 from ⟨by omega, by omega⟩) (show (-2147483648) ≤ x2 ∧ x2 ≤ 2147483647 from ⟨by omega, by omega⟩) (fun c_133 y_136 hI_134 hF_135 hy_136 => (bk_inl (q_istore c_296_1581 (Nat.le_of_ble_eq_true rfl) (q_goto (t := 1816) c_296_1583 rfl (Wp_ls [(4, vi (i0 : Int)), (3, .ref 67), (2, .ref 41), (1, .ref 0), (0, .ref a_SC)] (lsub_cons rfl (lsub_cons rfl (lsub_cons rfl (lsub_cons rfl (lsub_cons rfl lsub_nil))))) ?_))))))
  have h_137 := ir_1_3 hI
  have kn_138 : Hid (c_8 1 3 = c 1 3) := hF_10 1 3 (fun q => q.elim (fun h => absurd h.1 (nn rfl)) (fun h => absurd h.1 (nn rfl)))
  have kn_139 : Hid (c_133 1 3 = c 1 3) := (hF_135 1 3 qn_39cd18c3e).trans ((up_c (nn rfl)).trans (hid kn_138))
  have h_140 : c_133 1 3 = c 1 3 := (hid kn_139)
  have h_141 := ir_41_2 hI
  have kn_142 : Hid (c_8 41 2 = c 41 2) := hF_10 41 2 (fun q => q.elim (fun h => absurd h.1 (nn rfl)) (fun h => absurd h.1 (nn rfl)))
  have kn_143 : Hid (c_133 41 2 = c 41 2) := (hF_135 41 2 qn_53bdb2099).trans ((up_c (nn rfl)).trans (hid kn_142))
  have h_144 : c_133 41 2 = c 41 2 := (hid kn_143)
  have kn_145 : Hid (c_8 P 0 = n0) := (hF_10 P 0 (qn_7ba88e57e hP)).trans (hn0)
  have kn_146 : Hid (c_133 P 0 = n0) := (hF_135 P 0 (qn_857752076 hP)).trans ((up_c (np0 hP rfl)).trans (hid kn_145))
  have h_147 : c_133 P 0 = n0 := (hid kn_146)
  have kn_148 : Hid (c_8 41 20 = n0) := (hF_10 41 20 (fun q => q.elim (fun h => absurd h.1 (nn rfl)) (fun h => absurd h.1 (nn rfl)))).trans (hm0)
  have kn_149 : Hid (c_133 41 20 = n0) := (hF_135 41 20 qn_110b29ed6).trans ((up_c (nn rfl)).trans (hid kn_148))
  have h_150 : c_133 41 20 = n0 := (hid kn_149)
  have kn_151 : Hid (c_8 P 1 = n1) := (hF_10 P 1 (qn_7ba88e57e hP)).trans (hn1)
  have kn_152 : Hid (c_133 P 1 = n1) := (hF_135 P 1 (qn_857752076 hP)).trans ((up_c (np0 hP rfl)).trans (hid kn_151))
  have h_153 : c_133 P 1 = n1 := (hid kn_152)
  have kn_154 : Hid (c_8 41 21 = n1) := (hF_10 41 21 (fun q => q.elim (fun h => absurd h.1 (nn rfl)) (fun h => absurd h.1 (nn rfl)))).trans (hm1)
  have kn_155 : Hid (c_133 41 21 = n1) := (hF_135 41 21 qn_561064c41).trans ((up_c (nn rfl)).trans (hid kn_154))
  have h_156 : c_133 41 21 = n1 := (hid kn_155)
  have kn_157 : Hid (c_8 P 2 = n2) := (hF_10 P 2 (qn_7ba88e57e hP)).trans (hn2)
  have kn_158 : Hid (c_133 P 2 = n2) := (hF_135 P 2 (qn_857752076 hP)).trans ((up_c (np0 hP rfl)).trans (hid kn_157))
  have h_159 : c_133 P 2 = n2 := (hid kn_158)
  have kn_160 : Hid (c_8 41 22 = n2) := (hF_10 41 22 (fun q => q.elim (fun h => absurd h.1 (nn rfl)) (fun h => absurd h.1 (nn rfl)))).trans (hm2)
  have kn_161 : Hid (c_133 41 22 = n2) := (hF_135 41 22 qn_1a460b46b).trans ((up_c (nn rfl)).trans (hid kn_160))
  have h_162 : c_133 41 22 = n2 := (hid kn_161)
  have kn_163 : Hid (c_8 P 3 = n3) := (hF_10 P 3 (qn_7ba88e57e hP)).trans (hn3)
  have kn_164 : Hid (c_133 P 3 = n3) := (hF_135 P 3 (qn_857752076 hP)).trans ((up_c (np0 hP rfl)).trans (hid kn_163))
  have h_165 : c_133 P 3 = n3 := (hid kn_164)
  have kn_166 : Hid (c_8 41 23 = n3) := (hF_10 41 23 (fun q => q.elim (fun h => absurd h.1 (nn rfl)) (fun h => absurd h.1 (nn rfl)))).trans (hm3)
  have kn_167 : Hid (c_133 41 23 = n3) := (hF_135 41 23 qn_b79f282cd).trans ((up_c (nn rfl)).trans (hid kn_166))
  have h_168 : c_133 41 23 = n3 := (hid kn_167)
  have kn_169 : Hid (c_8 3 4 = c 3 4) := hF_10 3 4 (fun q => q.elim (fun h => absurd h.1 (nn rfl)) (fun h => absurd h.1 (nn rfl)))
  have kn_170 : Hid (c_133 3 4 = c 3 4) := (hF_135 3 4 qn_bf2303cc8).trans ((up_c (nn rfl)).trans (hid kn_169))
  have h_171 : c_133 3 4 = c 3 4 := (hid kn_170)
  have h_172 := ir_41_52 hI
  have kn_173 : Hid (c_8 41 52 = c 41 52) := hF_10 41 52 (fun q => q.elim (fun h => absurd h.1 (nn rfl)) (fun h => absurd h.1 (nn rfl)))
  have kn_174 : Hid (c_133 41 52 = c 41 52) := (hF_135 41 52 qn_90835161a).trans ((up_c (nn rfl)).trans (hid kn_173))
  have h_175 : c_133 41 52 = c 41 52 := (hid kn_174)
  have h_176 := ir_3_3 hI
  have kn_177 : Hid (c_8 3 3 = c 3 3) := hF_10 3 3 (fun q => q.elim (fun h => absurd h.1 (nn rfl)) (fun h => absurd h.1 (nn rfl)))
  have kn_178 : Hid (c_133 3 3 = c 3 3) := (hF_135 3 3 qn_bf2303cc8).trans ((up_c (nn rfl)).trans (hid kn_177))
  have h_179 : c_133 3 3 = c 3 3 := (hid kn_178)
  have h_180 := ir_41_35 hI
  have kn_181 : Hid (c_8 41 35 = c 41 35) := hF_10 41 35 (fun q => q.elim (fun h => absurd h.1 (nn rfl)) (fun h => absurd h.1 (nn rfl)))
  have kn_182 : Hid (c_133 41 35 = c 41 35) := (hF_135 41 35 qn_732a91ea5).trans ((up_c (nn rfl)).trans (hid kn_181))
  have h_183 : c_133 41 35 = c 41 35 := (hid kn_182)
  have h_184 : c_133 3 4 = c 3 4 := (hid kn_170)
  have h_185 := ir_1_5 hI
  have kn_186 : Hid (c_8 1 5 = c 1 5) := hF_10 1 5 (fun q => q.elim (fun h => absurd h.1 (nn rfl)) (fun h => absurd h.1 (nn rfl)))
  have kn_187 : Hid (c_133 1 5 = c 1 5) := (hF_135 1 5 qn_39cd18c3e).trans ((up_c (nn rfl)).trans (hid kn_186))
  have h_188 : c_133 1 5 = c 1 5 := (hid kn_187)
  have h_189 := ir_41_8 hI
  have kn_190 : Hid (c_8 41 8 = c 41 8) := hF_10 41 8 (fun q => q.elim (fun h => absurd h.1 (nn rfl)) (fun h => absurd h.1 (nn rfl)))
  have kn_191 : Hid (c_133 41 8 = c 41 8) := (hF_135 41 8 qn_b601a9968).trans ((up_c (nn rfl)).trans (hid kn_190))
  have h_192 : c_133 41 8 = c 41 8 := (hid kn_191)
  exact K P Q c_133 0 (by decide) hI_134 ⟨by omega, ub_fr hU (fun j => (hF_135 2 j qn_2ad67e194).trans ((up_c (nn rfl)).trans (hF_10 2 j (fun q => q.elim (fun h => absurd h.1 (nn rfl)) (fun h => absurd h.1 (nn rfl)))))) (fun j => (hF_135 43 j qn_1520ff5e3).trans ((up_c (nn rfl)).trans (hF_10 43 j (fun q => q.elim (fun h => absurd h.1 (nn rfl)) (fun h => absurd h.1 (nn rfl)))))), ⟨by omega, by omega, by omega, by omega⟩, by omega, by omega, iw_fr2 hIw (by omega) (fun j => (hF_135 6 j qn_e1050858a).trans ((up_c (nn rfl)).trans (hF_10 6 j (fun q => q.elim (fun h => absurd h.1 (nn rfl)) (fun h => absurd h.1 (nn rfl)))))) (fun j => (hF_135 66 j qn_5616dd9ce).trans ((up_c (nn rfl)).trans (hF_10 66 j (fun q => q.elim (fun h => absurd h.1 (nn rfl)) (fun h => absurd h.1 (nn rfl)))))), by omega⟩

set_option maxRecDepth 100000 in
set_option maxHeartbeats 4000000 in
theorem o_37 {xs : Nat → Int32} {L i0 d nc ns P Q : Nat} {c : ME} {Z : AR → Prop} (hi : i0 + 8 ≤ L) (hL : L ≤ 100000) (hI : Iv 0 (-1) P Q c) (hR : Rq P c) (K : ∀ (P2 Q2 : Nat) (c2 : ME) (e : Nat), e ≤ 1 → Iv 0 (-1) P2 Q2 c2 → (Rq P2 c2) → Wp (a_scr L xs) (d + 90) 296 1816 [(4, vi (i0 : Int)), (3, .ref 67), (2, .ref 41), (1, .ref 0), (0, .ref a_SC)] [] (Wd P2 Q2 P2 P2 c2) (nc + e) (ns + 6 * e) Z) : Wp (a_scr L xs) (d + 90) 296 1586 [(4, vi (i0 : Int)), (3, .ref 67), (2, .ref 41), (1, .ref 0), (0, .ref a_SC)] [] (Wd P Q P P c) nc ns Z := by
  obtain ⟨x1, hx1⟩ : ∃ z, (xs (i0 + 1)).toInt = z := ⟨_, rfl⟩
  have x1r := c_rng (xs (i0 + 1))
  rw [hx1] at x1r
  obtain ⟨x2, hx2⟩ : ∃ z, (xs (i0 + 2)).toInt = z := ⟨_, rfl⟩
  have x2r := c_rng (xs (i0 + 2))
  rw [hx2] at x2r
  obtain ⟨x3, hx3⟩ : ∃ z, (xs (i0 + 3)).toInt = z := ⟨_, rfl⟩
  have x3r := c_rng (xs (i0 + 3))
  rw [hx3] at x3r
  obtain ⟨x4, hx4⟩ : ∃ z, (xs (i0 + 4)).toInt = z := ⟨_, rfl⟩
  have x4r := c_rng (xs (i0 + 4))
  rw [hx4] at x4r
  obtain ⟨x5, hx5⟩ : ∃ z, (xs (i0 + 5)).toInt = z := ⟨_, rfl⟩
  have x5r := c_rng (xs (i0 + 5))
  rw [hx5] at x5r
  obtain ⟨x6, hx6⟩ : ∃ z, (xs (i0 + 6)).toInt = z := ⟨_, rfl⟩
  have x6r := c_rng (xs (i0 + 6))
  rw [hx6] at x6r
  obtain ⟨x7, hx7⟩ : ∃ z, (xs (i0 + 7)).toInt = z := ⟨_, rfl⟩
  have x7r := c_rng (xs (i0 + 7))
  rw [hx7] at x7r
  have hP := iv_P hI
  have hQ := iv_Q hI
  have hT := rl_t hR
  have hU := rl_u hR
  obtain ⟨n0, hn0⟩ : ∃ z, c P 0 = z := ⟨_, rfl⟩
  have hm0 : c 41 20 = n0 := (rl_nums hR).1.symm.trans hn0
  have hr0 := ir_p0_0 hI hP
  rw [hn0] at hr0
  obtain ⟨n1, hn1⟩ : ∃ z, c P 1 = z := ⟨_, rfl⟩
  have hm1 : c 41 21 = n1 := (rl_nums hR).2.1.symm.trans hn1
  have hr1 := ir_p0_1 hI hP
  rw [hn1] at hr1
  obtain ⟨n2, hn2⟩ : ∃ z, c P 2 = z := ⟨_, rfl⟩
  have hm2 : c 41 22 = n2 := (rl_nums hR).2.2.1.symm.trans hn2
  have hr2 := ir_p0_2 hI hP
  rw [hn2] at hr2
  obtain ⟨n3, hn3⟩ : ∃ z, c P 3 = z := ⟨_, rfl⟩
  have hm3 : c 41 23 = n3 := (rl_nums hR).2.2.2.symm.trans hn3
  have hr3 := ir_p0_3 hI hP
  rw [hn3] at hr3
  have hNimg := rl_img hR
  have hNwk := rl_wk hR
  have h_1 := ir_3_4 hI
  have hIw := rl_iw hR
  have hNplace := rl_place hR
  refine q_aload_n c_296_1586 rfl (q_aload_n c_296_1587 rfl (q_iload c_296_1588 rfl (q_iconst c_296_1590 (v_iadd (v := (i0 : Int) + 1) c_296_1591 rfl (v_scr (j := i0 + 1) c_296_1592 (by omega) (by omega) hL hx1 (q_aload_n c_296_1593 rfl (q_iload c_296_1594 rfl ?_)))))))
  refine q_iconst c_296_1596 (v_iadd (v := (i0 : Int) + 2) c_296_1597 rfl (v_scr (j := i0 + 2) c_296_1598 (by omega) (by omega) hL hx2 (q_aload_n c_296_1599 rfl (q_iload c_296_1600 rfl (q_iconst c_296_1602 (v_iadd (v := (i0 : Int) + 3) c_296_1603 rfl (v_scr (j := i0 + 3) c_296_1604 (by omega) (by omega) hL hx3 ?_)))))))
  refine q_aload_n c_296_1605 rfl (q_iload c_296_1606 rfl (q_iconst c_296_1608 (v_iadd (v := (i0 : Int) + 4) c_296_1609 rfl (v_scr (j := i0 + 4) c_296_1610 (by omega) (by omega) hL hx4 (q_aload_n c_296_1611 rfl (q_call c_296_1612 rfl rfl rfl (q_aload c_294_0 rfl ?_)))))))
  refine q_iconst c_294_2 (q_aload_n c_294_3 rfl (q_iload_n c_294_4 rfl (q_iload_n c_294_5 rfl (q_iload_n c_294_6 rfl (q_iload c_294_7 rfl ?_)))))
  refine v_cv c_294_9 km_9_111 rfl rfl (Nat.le_of_ble_eq_true rfl) ⟨⟨rfl, rfl⟩, Nat.le_of_ble_eq_true rfl, rfl⟩ (Nat.le_of_ble_eq_true rfl) (Nat.le_of_ble_eq_true rfl) (s_137 (a1 := x1) (a2 := x2) (a3 := x3) (a4 := x4) hI (show (-2147483648) ≤ x1 ∧ x1 ≤ 2147483647 from ⟨by omega, by omega⟩) (show (-2147483648) ≤ x2 ∧ x2 ≤ 2147483647 from ⟨by omega, by omega⟩) (show (-2147483648) ≤ x3 ∧ x3 ≤ 2147483647 from ⟨by omega, by omega⟩) (show (-2147483648) ≤ x4 ∧ x4 ≤ 2147483647 from ⟨by omega, by omega⟩) (fun c_2 hI_3 hF_4 => ?_) (fun c_5 y_8 hI_6 hF_7 hy_8 => ?_))
  · skip
    refine bk_thr (z := Int32.ofInt 1) rfl ⟨_, _, rfl⟩ rfl (bk_inl (q_istore c_296_1615 (Nat.le_of_ble_eq_true rfl) (q_aload_n c_296_1617 rfl (q_aload_n c_296_1618 rfl (q_iload c_296_1619 rfl (q_iconst c_296_1621 (v_iadd (v := (i0 : Int) + 1) c_296_1622 rfl ?_)))))))
    refine v_scr (j := i0 + 1) c_296_1623 (by omega) (by omega) hL hx1 (q_aload_n c_296_1624 rfl (q_iload c_296_1625 rfl (q_iconst c_296_1627 (v_iadd (v := (i0 : Int) + 2) c_296_1628 rfl (v_scr (j := i0 + 2) c_296_1629 (by omega) (by omega) hL hx2 (q_aload_n c_296_1630 rfl (q_iload c_296_1631 rfl ?_)))))))
    refine q_iconst c_296_1633 (v_iadd (v := (i0 : Int) + 3) c_296_1634 rfl (v_scr (j := i0 + 3) c_296_1635 (by omega) (by omega) hL hx3 (q_aload_n c_296_1636 rfl (q_iload c_296_1637 rfl (q_iconst c_296_1639 (v_iadd (v := (i0 : Int) + 4) c_296_1640 rfl (v_scr (j := i0 + 4) c_296_1641 (by omega) (by omega) hL hx4 ?_)))))))
    refine v_cv c_296_1642 km_9_251 rfl rfl (Nat.le_of_ble_eq_true rfl) ⟨⟨rfl, rfl⟩, Nat.le_of_ble_eq_true rfl, rfl⟩ (Nat.le_of_ble_eq_true rfl) (Nat.le_of_ble_eq_true rfl) (s_255 (a1 := x1) (a2 := x2) (a3 := x3) (a4 := x4) hI_3 (show (-2147483648) ≤ x1 ∧ x1 ≤ 2147483647 from ⟨by omega, by omega⟩) (show (-2147483648) ≤ x2 ∧ x2 ≤ 2147483647 from ⟨by omega, by omega⟩) (show (-2147483648) ≤ x3 ∧ x3 ≤ 2147483647 from ⟨by omega, by omega⟩) (show (-2147483648) ≤ x4 ∧ x4 ≤ 2147483647 from ⟨by omega, by omega⟩) (fun c_9 y_12 hI_10 hF_11 hy_12 => (bk_inl (q_istore c_296_1645 (Nat.le_of_ble_eq_true rfl) (q_goto (t := 1816) c_296_1647 rfl (Wp_ls [(4, vi (i0 : Int)), (3, .ref 67), (2, .ref 41), (1, .ref 0), (0, .ref a_SC)] (lsub_cons rfl (lsub_cons rfl (lsub_cons rfl (lsub_cons rfl (lsub_cons rfl lsub_nil))))) ?_))))))
    have h_13 := ir_1_3 hI
    have kn_14 : Hid (c_2 1 3 = c 1 3) := hF_4 1 3 (qn_cc1064621 hP)
    have kn_15 : Hid (c_9 1 3 = c 1 3) := (hF_11 1 3 qn_9d94bd60f).trans (hid kn_14)
    have h_16 : c_9 1 3 = c 1 3 := (hid kn_15)
    have h_17 := ir_41_2 hI
    have kn_18 : Hid (c_2 41 2 = c 41 2) := hF_4 41 2 (qn_55346d250 hP)
    have kn_19 : Hid (c_9 41 2 = c 41 2) := (hF_11 41 2 qn_9f4d5821f).trans (hid kn_18)
    have h_20 : c_9 41 2 = c 41 2 := (hid kn_19)
    have kn_21 : Hid (c_2 P 0 = n0) := (hF_4 P 0 (qn_1a125c37c hP)).trans (hn0)
    have kn_22 : Hid (c_9 P 0 = n0) := (hF_11 P 0 (qn_3dda11c13 hP)).trans (hid kn_21)
    have h_23 : c_9 P 0 = n0 := (hid kn_22)
    have kn_24 : Hid (c_2 41 20 = n0) := (hF_4 41 20 (qn_55346d250 hP)).trans (hm0)
    have kn_25 : Hid (c_9 41 20 = n0) := (hF_11 41 20 qn_de1d671ad).trans (hid kn_24)
    have h_26 : c_9 41 20 = n0 := (hid kn_25)
    have kn_27 : Hid (c_2 P 1 = n1) := (hF_4 P 1 (qn_1a125c37c hP)).trans (hn1)
    have kn_28 : Hid (c_9 P 1 = n1) := (hF_11 P 1 (qn_3dda11c13 hP)).trans (hid kn_27)
    have h_29 : c_9 P 1 = n1 := (hid kn_28)
    have kn_30 : Hid (c_2 41 21 = n1) := (hF_4 41 21 (qn_55346d250 hP)).trans (hm1)
    have kn_31 : Hid (c_9 41 21 = n1) := (hF_11 41 21 qn_b0c4591b1).trans (hid kn_30)
    have h_32 : c_9 41 21 = n1 := (hid kn_31)
    have kn_33 : Hid (c_2 P 2 = n2) := (hF_4 P 2 (qn_1a125c37c hP)).trans (hn2)
    have kn_34 : Hid (c_9 P 2 = n2) := (hF_11 P 2 (qn_3dda11c13 hP)).trans (hid kn_33)
    have h_35 : c_9 P 2 = n2 := (hid kn_34)
    have kn_36 : Hid (c_2 41 22 = n2) := (hF_4 41 22 (qn_55346d250 hP)).trans (hm2)
    have kn_37 : Hid (c_9 41 22 = n2) := (hF_11 41 22 qn_00a455246).trans (hid kn_36)
    have h_38 : c_9 41 22 = n2 := (hid kn_37)
    have kn_39 : Hid (c_2 P 3 = n3) := (hF_4 P 3 (qn_1a125c37c hP)).trans (hn3)
    have kn_40 : Hid (c_9 P 3 = n3) := (hF_11 P 3 (qn_3dda11c13 hP)).trans (hid kn_39)
    have h_41 : c_9 P 3 = n3 := (hid kn_40)
    have kn_42 : Hid (c_2 41 23 = n3) := (hF_4 41 23 (qn_55346d250 hP)).trans (hm3)
    have kn_43 : Hid (c_9 41 23 = n3) := (hF_11 41 23 qn_375070522).trans (hid kn_42)
    have h_44 : c_9 41 23 = n3 := (hid kn_43)
    have kn_45 : Hid (c_2 3 4 = c 3 4) := hF_4 3 4 (qn_8703343bc hP)
    have kn_46 : Hid (c_9 3 4 = c 3 4) := (hF_11 3 4 qn_51e0e9667).trans (hid kn_45)
    have h_47 : c_9 3 4 = c 3 4 := (hid kn_46)
    have h_48 := ir_41_52 hI
    have kn_49 : Hid (c_2 41 52 = c 41 52) := hF_4 41 52 (qn_55346d250 hP)
    have kn_50 : Hid (c_9 41 52 = c 41 52) := (hF_11 41 52 qn_5c50dd497).trans (hid kn_49)
    have h_51 : c_9 41 52 = c 41 52 := (hid kn_50)
    have h_52 := ir_3_3 hI
    have kn_53 : Hid (c_2 3 3 = c 3 3) := hF_4 3 3 (qn_8703343bc hP)
    have kn_54 : Hid (c_9 3 3 = c 3 3) := (hF_11 3 3 qn_51e0e9667).trans (hid kn_53)
    have h_55 : c_9 3 3 = c 3 3 := (hid kn_54)
    have h_56 := ir_41_35 hI
    have kn_57 : Hid (c_2 41 35 = c 41 35) := hF_4 41 35 (qn_55346d250 hP)
    have kn_58 : Hid (c_9 41 35 = c 41 35) := (hF_11 41 35 qn_e74909efc).trans (hid kn_57)
    have h_59 : c_9 41 35 = c 41 35 := (hid kn_58)
    have h_60 : c_9 3 4 = c 3 4 := (hid kn_46)
    have h_61 := ir_1_5 hI
    have kn_62 : Hid (c_2 1 5 = c 1 5) := hF_4 1 5 (qn_cc1064621 hP)
    have kn_63 : Hid (c_9 1 5 = c 1 5) := (hF_11 1 5 qn_9d94bd60f).trans (hid kn_62)
    have h_64 : c_9 1 5 = c 1 5 := (hid kn_63)
    have h_65 := ir_41_8 hI
    have kn_66 : Hid (c_2 41 8 = c 41 8) := hF_4 41 8 (qn_55346d250 hP)
    have kn_67 : Hid (c_9 41 8 = c 41 8) := (hF_11 41 8 qn_304856459).trans (hid kn_66)
    have h_68 : c_9 41 8 = c 41 8 := (hid kn_67)
    exact K P Q c_9 1 (by decide) hI_10 ⟨by omega, ub_fr hU (fun j => (hF_11 2 j qn_ea1d8203a).trans (hF_4 2 j (qn_11c530ba0 hP))) (fun j => (hF_11 43 j qn_921fc31f7).trans (hF_4 43 j (qn_ce891e06c hP))), ⟨by omega, by omega, by omega, by omega⟩, by omega, by omega, iw_fr2 hIw (by omega) (fun j => (hF_11 6 j qn_9f1fcb8f5).trans (hF_4 6 j (qn_33622cbee hP))) (fun j => (hF_11 66 j qn_819b02093).trans (hF_4 66 j (qn_7036d22af hP))), by omega⟩
  refine bk_inl (v_i2l c_294_12 (by omega) (v_ls c_294_13 rfl (by decide) (by decide) (by decide) (q_goto (t := 21) c_294_14 rfl (q_iconst c_294_21 (q_iret c_294_22 rfl (bk_inl (q_istore c_296_1615 (Nat.le_of_ble_eq_true rfl) ?_)))))))
  refine q_aload_n c_296_1617 rfl (q_aload_n c_296_1618 rfl (q_iload c_296_1619 rfl (q_iconst c_296_1621 (v_iadd (v := (i0 : Int) + 1) c_296_1622 rfl (v_scr (j := i0 + 1) c_296_1623 (by omega) (by omega) hL hx1 (q_aload_n c_296_1624 rfl (q_iload c_296_1625 rfl ?_)))))))
  refine q_iconst c_296_1627 (v_iadd (v := (i0 : Int) + 2) c_296_1628 rfl (v_scr (j := i0 + 2) c_296_1629 (by omega) (by omega) hL hx2 (q_aload_n c_296_1630 rfl (q_iload c_296_1631 rfl (q_iconst c_296_1633 (v_iadd (v := (i0 : Int) + 3) c_296_1634 rfl (v_scr (j := i0 + 3) c_296_1635 (by omega) (by omega) hL hx3 ?_)))))))
  refine q_aload_n c_296_1636 rfl (q_iload c_296_1637 rfl (q_iconst c_296_1639 (v_iadd (v := (i0 : Int) + 4) c_296_1640 rfl (v_scr (j := i0 + 4) c_296_1641 (by omega) (by omega) hL hx4 ?_))))
  have hI_69 := iw_lx (a := 67) (j := 0) (v := y_8) hI_6 (by omega)
  refine v_cv c_296_1642 km_9_251 rfl rfl (Nat.le_of_ble_eq_true rfl) ⟨⟨rfl, rfl⟩, Nat.le_of_ble_eq_true rfl, rfl⟩ (Nat.le_of_ble_eq_true rfl) (Nat.le_of_ble_eq_true rfl) (s_255 (a1 := x1) (a2 := x2) (a3 := x3) (a4 := x4) hI_69 (show (-2147483648) ≤ x1 ∧ x1 ≤ 2147483647 from ⟨by omega, by omega⟩) (show (-2147483648) ≤ x2 ∧ x2 ≤ 2147483647 from ⟨by omega, by omega⟩) (show (-2147483648) ≤ x3 ∧ x3 ≤ 2147483647 from ⟨by omega, by omega⟩) (show (-2147483648) ≤ x4 ∧ x4 ≤ 2147483647 from ⟨by omega, by omega⟩) (fun c_70 y_73 hI_71 hF_72 hy_73 => (bk_inl (q_istore c_296_1645 (Nat.le_of_ble_eq_true rfl) (q_goto (t := 1816) c_296_1647 rfl (Wp_ls [(4, vi (i0 : Int)), (3, .ref 67), (2, .ref 41), (1, .ref 0), (0, .ref a_SC)] (lsub_cons rfl (lsub_cons rfl (lsub_cons rfl (lsub_cons rfl (lsub_cons rfl lsub_nil))))) ?_))))))
  have h_74 := ir_1_3 hI
  have kn_75 : Hid (c_5 1 3 = c 1 3) := hF_7 1 3 (qn_cc1064621 hP)
  have kn_76 : Hid (c_70 1 3 = c 1 3) := (hF_72 1 3 qn_9d94bd60f).trans ((up_c (nn rfl)).trans (hid kn_75))
  have h_77 : c_70 1 3 = c 1 3 := (hid kn_76)
  have h_78 := ir_41_2 hI
  have kn_79 : Hid (c_5 41 2 = c 41 2) := hF_7 41 2 (qn_55346d250 hP)
  have kn_80 : Hid (c_70 41 2 = c 41 2) := (hF_72 41 2 qn_9f4d5821f).trans ((up_c (nn rfl)).trans (hid kn_79))
  have h_81 : c_70 41 2 = c 41 2 := (hid kn_80)
  have kn_82 : Hid (c_5 P 0 = n0) := (hF_7 P 0 (qn_1a125c37c hP)).trans (hn0)
  have kn_83 : Hid (c_70 P 0 = n0) := (hF_72 P 0 (qn_3dda11c13 hP)).trans ((up_c (np0 hP rfl)).trans (hid kn_82))
  have h_84 : c_70 P 0 = n0 := (hid kn_83)
  have kn_85 : Hid (c_5 41 20 = n0) := (hF_7 41 20 (qn_55346d250 hP)).trans (hm0)
  have kn_86 : Hid (c_70 41 20 = n0) := (hF_72 41 20 qn_de1d671ad).trans ((up_c (nn rfl)).trans (hid kn_85))
  have h_87 : c_70 41 20 = n0 := (hid kn_86)
  have kn_88 : Hid (c_5 P 1 = n1) := (hF_7 P 1 (qn_1a125c37c hP)).trans (hn1)
  have kn_89 : Hid (c_70 P 1 = n1) := (hF_72 P 1 (qn_3dda11c13 hP)).trans ((up_c (np0 hP rfl)).trans (hid kn_88))
  have h_90 : c_70 P 1 = n1 := (hid kn_89)
  have kn_91 : Hid (c_5 41 21 = n1) := (hF_7 41 21 (qn_55346d250 hP)).trans (hm1)
  have kn_92 : Hid (c_70 41 21 = n1) := (hF_72 41 21 qn_b0c4591b1).trans ((up_c (nn rfl)).trans (hid kn_91))
  have h_93 : c_70 41 21 = n1 := (hid kn_92)
  have kn_94 : Hid (c_5 P 2 = n2) := (hF_7 P 2 (qn_1a125c37c hP)).trans (hn2)
  have kn_95 : Hid (c_70 P 2 = n2) := (hF_72 P 2 (qn_3dda11c13 hP)).trans ((up_c (np0 hP rfl)).trans (hid kn_94))
  have h_96 : c_70 P 2 = n2 := (hid kn_95)
  have kn_97 : Hid (c_5 41 22 = n2) := (hF_7 41 22 (qn_55346d250 hP)).trans (hm2)
  have kn_98 : Hid (c_70 41 22 = n2) := (hF_72 41 22 qn_00a455246).trans ((up_c (nn rfl)).trans (hid kn_97))
  have h_99 : c_70 41 22 = n2 := (hid kn_98)
  have kn_100 : Hid (c_5 P 3 = n3) := (hF_7 P 3 (qn_1a125c37c hP)).trans (hn3)
  have kn_101 : Hid (c_70 P 3 = n3) := (hF_72 P 3 (qn_3dda11c13 hP)).trans ((up_c (np0 hP rfl)).trans (hid kn_100))
  have h_102 : c_70 P 3 = n3 := (hid kn_101)
  have kn_103 : Hid (c_5 41 23 = n3) := (hF_7 41 23 (qn_55346d250 hP)).trans (hm3)
  have kn_104 : Hid (c_70 41 23 = n3) := (hF_72 41 23 qn_375070522).trans ((up_c (nn rfl)).trans (hid kn_103))
  have h_105 : c_70 41 23 = n3 := (hid kn_104)
  have kn_106 : Hid (c_5 3 4 = c 3 4) := hF_7 3 4 (qn_8703343bc hP)
  have kn_107 : Hid (c_70 3 4 = c 3 4) := (hF_72 3 4 qn_51e0e9667).trans ((up_c (nn rfl)).trans (hid kn_106))
  have h_108 : c_70 3 4 = c 3 4 := (hid kn_107)
  have h_109 := ir_41_52 hI
  have kn_110 : Hid (c_5 41 52 = c 41 52) := hF_7 41 52 (qn_55346d250 hP)
  have kn_111 : Hid (c_70 41 52 = c 41 52) := (hF_72 41 52 qn_5c50dd497).trans ((up_c (nn rfl)).trans (hid kn_110))
  have h_112 : c_70 41 52 = c 41 52 := (hid kn_111)
  have h_113 := ir_3_3 hI
  have kn_114 : Hid (c_5 3 3 = c 3 3) := hF_7 3 3 (qn_8703343bc hP)
  have kn_115 : Hid (c_70 3 3 = c 3 3) := (hF_72 3 3 qn_51e0e9667).trans ((up_c (nn rfl)).trans (hid kn_114))
  have h_116 : c_70 3 3 = c 3 3 := (hid kn_115)
  have h_117 := ir_41_35 hI
  have kn_118 : Hid (c_5 41 35 = c 41 35) := hF_7 41 35 (qn_55346d250 hP)
  have kn_119 : Hid (c_70 41 35 = c 41 35) := (hF_72 41 35 qn_e74909efc).trans ((up_c (nn rfl)).trans (hid kn_118))
  have h_120 : c_70 41 35 = c 41 35 := (hid kn_119)
  have h_121 : c_70 3 4 = c 3 4 := (hid kn_107)
  have h_122 := ir_1_5 hI
  have kn_123 : Hid (c_5 1 5 = c 1 5) := hF_7 1 5 (qn_cc1064621 hP)
  have kn_124 : Hid (c_70 1 5 = c 1 5) := (hF_72 1 5 qn_9d94bd60f).trans ((up_c (nn rfl)).trans (hid kn_123))
  have h_125 : c_70 1 5 = c 1 5 := (hid kn_124)
  have h_126 := ir_41_8 hI
  have kn_127 : Hid (c_5 41 8 = c 41 8) := hF_7 41 8 (qn_55346d250 hP)
  have kn_128 : Hid (c_70 41 8 = c 41 8) := (hF_72 41 8 qn_304856459).trans ((up_c (nn rfl)).trans (hid kn_127))
  have h_129 : c_70 41 8 = c 41 8 := (hid kn_128)
  exact K P Q c_70 0 (by decide) hI_71 ⟨by omega, ub_fr hU (fun j => (hF_72 2 j qn_ea1d8203a).trans ((up_c (nn rfl)).trans (hF_7 2 j (qn_11c530ba0 hP)))) (fun j => (hF_72 43 j qn_921fc31f7).trans ((up_c (nn rfl)).trans (hF_7 43 j (qn_ce891e06c hP)))), ⟨by omega, by omega, by omega, by omega⟩, by omega, by omega, iw_fr2 hIw (by omega) (fun j => (hF_72 6 j qn_9f1fcb8f5).trans ((up_c (nn rfl)).trans (hF_7 6 j (qn_33622cbee hP)))) (fun j => (hF_72 66 j qn_819b02093).trans ((up_c (nn rfl)).trans (hF_7 66 j (qn_7036d22af hP)))), by omega⟩

