/-! ===== class and reference side by side 2 ===== -/
theorem qn_875db4d3f {A : Nat} (hA : A = 13 ∨ A = 25) : ¬ (((1 : Nat) = 1 ∧ (1 : Int) = 2) ∨ ((1 : Nat) = 1 ∧ (1 : Int) = 4) ∨ ((1 : Nat) = 1 ∧ (1 : Int) = 5) ∨ ((1 : Nat) = A ∧ (1 : Int) = 0) ∨ ((1 : Nat) = A ∧ (1 : Int) = 1) ∨ ((1 : Nat) = A ∧ (1 : Int) = 2) ∨ ((1 : Nat) = A ∧ (1 : Int) = 3) ∨ (1 : Nat) = (A + 1) ∨ (1 : Nat) = (A + 2) ∨ (1 : Nat) = (A + 3) ∨ ((1 : Nat) = A ∧ (1 : Int) = 4) ∨ ((1 : Nat) = A ∧ (1 : Int) = 5) ∨ (1 : Nat) = (A + 6) ∨ ((1 : Nat) = (A + 7) ∧ (1 : Int) = 4)) := (fun q => q.elim (fun h => absurd h.2 (ni rfl)) (fun q => q.elim (fun h => absurd h.2 (ni rfl)) (fun q => q.elim (fun h => absurd h.2 (ni rfl)) (fun q => q.elim (fun h => absurd h.1 (pn0 hA rfl)) (fun q => q.elim (fun h => absurd h.1 (pn0 hA rfl)) (fun q => q.elim (fun h => absurd h.1 (pn0 hA rfl)) (fun q => q.elim (fun h => absurd h.1 (pn0 hA rfl)) (fun q => q.elim (fun h => absurd h (pn hA rfl rfl)) (fun q => q.elim (fun h => absurd h (pn hA rfl rfl)) (fun q => q.elim (fun h => absurd h (pn hA rfl rfl)) (fun q => q.elim (fun h => absurd h.1 (pn0 hA rfl)) (fun q => q.elim (fun h => absurd h.1 (pn0 hA rfl)) (fun q => q.elim (fun h => absurd h (pn hA rfl rfl)) (fun h => absurd h.1 (pn hA rfl rfl)))))))))))))))
theorem qn_64622c99c {A : Nat} {j : Int} (hA : A = 13 ∨ A = 25) : ¬ (((2 : Nat) = 1 ∧ j = 2) ∨ ((2 : Nat) = 1 ∧ j = 4) ∨ ((2 : Nat) = 1 ∧ j = 5) ∨ ((2 : Nat) = A ∧ j = 0) ∨ ((2 : Nat) = A ∧ j = 1) ∨ ((2 : Nat) = A ∧ j = 2) ∨ ((2 : Nat) = A ∧ j = 3) ∨ (2 : Nat) = (A + 1) ∨ (2 : Nat) = (A + 2) ∨ (2 : Nat) = (A + 3) ∨ ((2 : Nat) = A ∧ j = 4) ∨ ((2 : Nat) = A ∧ j = 5) ∨ (2 : Nat) = (A + 6) ∨ ((2 : Nat) = (A + 7) ∧ j = 4)) := (fun q => q.elim (fun h => absurd h.1 (nn rfl)) (fun q => q.elim (fun h => absurd h.1 (nn rfl)) (fun q => q.elim (fun h => absurd h.1 (nn rfl)) (fun q => q.elim (fun h => absurd h.1 (pn0 hA rfl)) (fun q => q.elim (fun h => absurd h.1 (pn0 hA rfl)) (fun q => q.elim (fun h => absurd h.1 (pn0 hA rfl)) (fun q => q.elim (fun h => absurd h.1 (pn0 hA rfl)) (fun q => q.elim (fun h => absurd h (pn hA rfl rfl)) (fun q => q.elim (fun h => absurd h (pn hA rfl rfl)) (fun q => q.elim (fun h => absurd h (pn hA rfl rfl)) (fun q => q.elim (fun h => absurd h.1 (pn0 hA rfl)) (fun q => q.elim (fun h => absurd h.1 (pn0 hA rfl)) (fun q => q.elim (fun h => absurd h (pn hA rfl rfl)) (fun h => absurd h.1 (pn hA rfl rfl)))))))))))))))
theorem q_3eee304b2 {x0 x1 x2 x3 : Int} (f0 : 0 ≤ x0 ∧ x0 ≤ 600) (f1 : x1 ≤ x2 ∧ (x2 ≤ x3 ∨ x2 = x1)) (f2 : 0 ≤ x1 ∧ x1 ≤ 600) (f3 : x0 = x3) : x2 ≤ 2147483647 := by omega
theorem q_378c2316e {x0 x1 x2 : Int} (f0 : x0 ≤ x1 ∧ (x1 ≤ x2 ∨ x1 = x0)) (f1 : 0 ≤ x0 ∧ x0 ≤ 600) : (-2147483648) ≤ x1 := by omega
theorem qn_8f9b78528 {j : Int} : ¬ (((43 : Nat) = 41 ∧ j = 4) ∨ ((43 : Nat) = 41 ∧ j = 5) ∨ ((43 : Nat) = 41 ∧ j = 6) ∨ ((43 : Nat) = 41 ∧ j = 16) ∨ ((43 : Nat) = 41 ∧ j = 17) ∨ ((43 : Nat) = 41 ∧ j = 18) ∨ ((43 : Nat) = 41 ∧ j = 19) ∨ (43 : Nat) = 44 ∨ (43 : Nat) = 45 ∨ (43 : Nat) = 46) := (fun q => q.elim (fun h => absurd h.1 (nn rfl)) (fun q => q.elim (fun h => absurd h.1 (nn rfl)) (fun q => q.elim (fun h => absurd h.1 (nn rfl)) (fun q => q.elim (fun h => absurd h.1 (nn rfl)) (fun q => q.elim (fun h => absurd h.1 (nn rfl)) (fun q => q.elim (fun h => absurd h.1 (nn rfl)) (fun q => q.elim (fun h => absurd h.1 (nn rfl)) (fun q => q.elim (fun h => absurd h (nn rfl)) (fun q => q.elim (fun h => absurd h (nn rfl)) (fun h => absurd h (nn rfl)))))))))))
theorem q_b1e7f72d7 {x0 x1 x2 : Int} (f0 : x0 ≤ x1 ∨ ¬ x2 = 32) (f1 : ¬ (x1 ≥ x0)) : ¬ x2 = 32 := by omega
theorem q_f47c0b92d {x0 x1 x2 : Int} (f0 : 0 ≤ x0 ∧ x0 ≤ 600) (f1 : ¬ (x1 ≥ x2)) (f2 : x0 = x2) : x1 ≤ 2147483647 := by omega
theorem q_a7eda21a5 {x0 x1 x2 : Int} (f0 : x0 ≤ x1 ∧ (x1 ≤ x2 ∨ x1 = x0)) (f1 : 0 ≤ x0 ∧ x0 ≤ 600) : 0 ≤ x1 := by omega
theorem q_296ae6bb2 {x0 x1 x2 x3 : Int} (f0 : 0 ≤ x0 ∧ x0 ≤ 600) (f1 : x1 ≤ x2 ∧ x2 ≤ x3) (f2 : x0 = x3) : x2 ≤ 600 := by omega
theorem q_7bcc067ca {x0 x1 x2 x3 : Int} (f0 : x0 = x1) (f1 : x2 ≤ x1 ∧ (x1 ≤ x3 ∨ x1 = x2)) (f2 : 0 ≤ x2 ∧ x2 ≤ 600) : 0 ≤ x0 := by omega
theorem q_87d10e022 {x0 : Int} (f0 : (x0 ≥ 0 ∧ x0 ≤ 3)) : ¬ x0 = (-1) := by omega
theorem q_153985e45 {x0 : Int} (f0 : (x0 ≥ 0 ∧ x0 ≤ 3)) : (-2147483648) ≤ x0 := by omega
theorem q_1c71586fa {x0 : Int} (f0 : (x0 ≥ 0 ∧ x0 ≤ 3)) : x0 ≤ 2147483647 := by omega
theorem q_4be623d9b {x0 : Int} (f0 : x0 = 60) : 60 < x0 + 1 := by omega
theorem q_9531afe7c {x0 x1 x2 : Int} (f0 : x0 ≤ x1 ∧ (x1 ≤ x2 ∨ x1 = x0)) (f1 : 0 ≤ x0 ∧ x0 ≤ 600) : (-1) ≤ x1 := by omega
theorem q_db1b60104 {x0 x1 x2 x3 : Int} (f0 : x0 ≤ x1 ∧ (x1 ≤ x2 ∨ x1 = x0)) (f1 : x1 ≤ x3 ∧ x3 ≤ x2) (f2 : 0 ≤ x0 ∧ x0 ≤ 600) : (-2147483648) ≤ x3 := by omega
theorem q_285f5cce7 {x0 x1 x2 x3 : Int} (f0 : 0 ≤ x0 ∧ x0 ≤ 600) (f1 : x1 ≤ x2 ∧ x2 ≤ x3) (f2 : x0 = x3) : x2 ≤ 2147483647 := by omega
theorem q_93d3e60a8 {x0 x1 : Int} (f0 : 0 ≤ x0 ∧ x0 ≤ 600) (f1 : x0 = x1) : x1 ≤ 600 := by omega
theorem q_7b7264bad {x0 : Int} (f0 : x0 = 60) (f1 : 0 ≤ x0 ∧ x0 ≤ 60) : x0 = 60 := by omega
theorem q_1f202bb18 {x0 x1 x2 : Int} (f0 : x0 ≤ x1 ∧ (x1 ≤ x2 ∨ x1 = x0)) (f1 : 0 ≤ x0 ∧ x0 ≤ 600) : ¬ x1 = (-1) := by omega
theorem q_fcb6ff4be {x0 : Int} (f0 : x0 = 3) : 1 ≤ x0 := by omega
theorem q_0a27ce016 {x0 x1 x2 x3 : Int} (f0 : x0 ≤ x1 ∧ (x1 ≤ x2 ∨ x1 = x0)) (f1 : x3 = x1) (f2 : 0 ≤ x0 ∧ x0 ≤ 600) : 0 ≤ x3 := by omega
theorem q_bff6e6fd4 {x0 : Int} (f0 : 0 ≤ x0 ∧ x0 ≤ 3) (f1 : x0 = 3) : 3 = x0 := by omega
theorem q_33afb0047 {x0 : Int} (f0 : x0 = 3) : 0 < x0 := by omega
theorem q_0dbd48150 {x0 : Int} (f0 : x0 ≠ 6) (f1 : 0 ≤ x0 ∧ x0 ≤ 6) : x0 ≤ 5 := by omega
theorem q_18f17732a {x0 x1 x2 : Int} (f0 : x0 ≤ x1 ∧ x1 ≤ x2) : x0 ≤ x1 := by omega
theorem q_333b14bc4 {x0 : Int} (f0 : (x0 ≥ 0 ∧ x0 ≤ 3)) (f1 : x0 = 0) : x0 = 0 := by omega
theorem q_1a677bcda {x0 : Int} (f0 : x0 = 10290) : x0 = 10290 := by omega
theorem q_ed39b118e {x0 : Int} (f0 : ¬ (x0 = 60)) (f1 : 0 ≤ x0 ∧ x0 ≤ 60) : ¬ x0 = 60 := by omega
theorem q_418321cfe {x0 : Int} (f0 : x0 ≠ 6) (f1 : 0 ≤ x0 ∧ x0 ≤ 6) : ¬ x0 = 6 := by omega
theorem qn_68bac1c70 {A : Nat} (hA : A = 13 ∨ A = 25) : ¬ (((1 : Nat) = 1 ∧ (1 : Int) = 2) ∨ ((1 : Nat) = 1 ∧ (1 : Int) = 4) ∨ ((1 : Nat) = 1 ∧ (1 : Int) = 5) ∨ ((1 : Nat) = A ∧ (1 : Int) = 0) ∨ ((1 : Nat) = A ∧ (1 : Int) = 1) ∨ ((1 : Nat) = A ∧ (1 : Int) = 2) ∨ ((1 : Nat) = A ∧ (1 : Int) = 3) ∨ (1 : Nat) = (A + 1) ∨ (1 : Nat) = (A + 2) ∨ (1 : Nat) = (A + 3)) := (fun q => q.elim (fun h => absurd h.2 (ni rfl)) (fun q => q.elim (fun h => absurd h.2 (ni rfl)) (fun q => q.elim (fun h => absurd h.2 (ni rfl)) (fun q => q.elim (fun h => absurd h.1 (pn0 hA rfl)) (fun q => q.elim (fun h => absurd h.1 (pn0 hA rfl)) (fun q => q.elim (fun h => absurd h.1 (pn0 hA rfl)) (fun q => q.elim (fun h => absurd h.1 (pn0 hA rfl)) (fun q => q.elim (fun h => absurd h (pn hA rfl rfl)) (fun q => q.elim (fun h => absurd h (pn hA rfl rfl)) (fun h => absurd h (pn hA rfl rfl)))))))))))
theorem qn_2292ef66f {A : Nat} {j : Int} (hA : A = 13 ∨ A = 25) : ¬ (((2 : Nat) = 1 ∧ j = 2) ∨ ((2 : Nat) = 1 ∧ j = 4) ∨ ((2 : Nat) = 1 ∧ j = 5) ∨ ((2 : Nat) = A ∧ j = 0) ∨ ((2 : Nat) = A ∧ j = 1) ∨ ((2 : Nat) = A ∧ j = 2) ∨ ((2 : Nat) = A ∧ j = 3) ∨ (2 : Nat) = (A + 1) ∨ (2 : Nat) = (A + 2) ∨ (2 : Nat) = (A + 3)) := (fun q => q.elim (fun h => absurd h.1 (nn rfl)) (fun q => q.elim (fun h => absurd h.1 (nn rfl)) (fun q => q.elim (fun h => absurd h.1 (nn rfl)) (fun q => q.elim (fun h => absurd h.1 (pn0 hA rfl)) (fun q => q.elim (fun h => absurd h.1 (pn0 hA rfl)) (fun q => q.elim (fun h => absurd h.1 (pn0 hA rfl)) (fun q => q.elim (fun h => absurd h.1 (pn0 hA rfl)) (fun q => q.elim (fun h => absurd h (pn hA rfl rfl)) (fun q => q.elim (fun h => absurd h (pn hA rfl rfl)) (fun h => absurd h (pn hA rfl rfl)))))))))))
theorem q_f91efb75c {x0 x1 : Int} (f0 : (x0 = x1)) : x1 ≤ x0 := by omega
theorem q_f85ce3c92 {x0 x1 : Int} (f0 : (x0 = x1)) : x0 ≤ x1 := by omega
theorem q_10f95419d {x0 x1 x2 x3 x4 : Int} (f0 : x0 = 0 ∧ x1 = -1 ∧ x2 = x3 ∧ x4 = -1) : x4 ≤ (-1) := by omega
theorem q_3d8b3e7e9 {x0 : Int} (f0 : (-1) ≤ x0 ∧ x0 ≤ 600) : (-1) ≤ x0 := by omega
theorem q_106d90f3b {x0 : Int} (f0 : 0 ≤ x0 ∧ x0 ≤ 3) (f1 : ¬ (x0 = 0)) : ¬ x0 = 0 := by omega
theorem q_f7b7d720f {x0 x1 x2 x3 : Int} (f0 : (1 ≤ x0 ∧ x0 ≤ 3) ∧ x1 = x2 ∧ 0 ≤ x2 ∧ x3 = x0) : ¬ x0 = 0 := by omega
theorem q_c4ab36c8d {x0 x1 x2 x3 x4 : Int} (f0 : x0 = x1) (f1 : (1 ≤ x1 ∧ x1 ≤ 3) ∧ x2 = x3 ∧ 0 ≤ x3 ∧ x4 = x1) : 1 ≤ x0 := by omega
theorem q_374cd1df9 {x0 x1 x2 x3 x4 : Int} (f0 : x0 = x1) (f1 : (1 ≤ x1 ∧ x1 ≤ 3) ∧ x2 = x3 ∧ 0 ≤ x3 ∧ x4 = x1) : 0 < x0 := by omega
theorem q_315ec9623 {x0 : Int} (f0 : ¬ (x0 ≠ 6)) (f1 : 0 ≤ x0 ∧ x0 ≤ 6) : x0 = 6 := by omega
theorem q_c0de63303 {x0 : Int} (f0 : x0 ≠ 4) (f1 : 0 ≤ x0 ∧ x0 ≤ 4) : x0 ≤ 3 := by omega
theorem q_8a190cb31 {x0 : Int} (f0 : x0 = 20594117) : ¬ x0 = 10290 := by omega
theorem q_912add97b {x0 : Int} (f0 : x0 = 20594117) : x0 = 20594117 := by omega
theorem q_12b330444 {x0 : Int} (f0 : x0 ≠ 4) (f1 : 0 ≤ x0 ∧ x0 ≤ 4) : ¬ x0 = 4 := by omega
theorem q_1fd48870b {x0 : Int} (f0 : ¬ (x0 ≠ 4)) (f1 : 0 ≤ x0 ∧ x0 ≤ 4) : x0 = 4 := by omega
theorem q_074216cb3 {x0 : Int} (f0 : x0 = 2) : x0 = 2 := by omega
theorem q_1142c8c92 {x0 : Int} (f0 : x0 = 20223685) : ¬ x0 = 10290 := by omega
theorem q_8febf952f {x0 : Int} (f0 : x0 = 20223685) : ¬ x0 = 20594117 := by omega
theorem q_21cfe5701 {x0 : Int} (f0 : x0 = 20223685) : x0 = 20223685 := by omega
theorem q_ade4332b2 {x0 : Int} (f0 : (x0 ≥ 0 ∧ x0 ≤ 3)) (f1 : ¬ (x0 = 0)) (f2 : ¬ (x0 = 1)) (f3 : ¬ (x0 = 2)) : x0 = 3 := by omega
theorem q_73f908bd4 {x0 : Int} (f0 : x0 = 153204) : ¬ x0 = 10290 := by omega
theorem q_c2c9e75ac {x0 : Int} (f0 : x0 = 153204) : ¬ x0 = 20594117 := by omega
theorem q_0a861b656 {x0 : Int} (f0 : x0 = 153204) : ¬ x0 = 20223685 := by omega
theorem q_02c8ae61a {x0 : Int} (f0 : x0 = 153204) : x0 = 153204 := by omega
theorem qn_11fd6d22b {A : Nat} {j : Int} (hA : A = 13 ∨ A = 25) : ¬ (((1 : Nat) = A ∧ j = 0) ∨ ((1 : Nat) = A ∧ j = 1) ∨ ((1 : Nat) = A ∧ j = 2) ∨ ((1 : Nat) = A ∧ j = 3) ∨ ((1 : Nat) = A ∧ j = 4) ∨ ((1 : Nat) = A ∧ j = 5) ∨ (1 : Nat) = (A + 6) ∨ ((1 : Nat) = (A + 7) ∧ j = 4)) := (fun q => q.elim (fun h => absurd h.1 (pn0 hA rfl)) (fun q => q.elim (fun h => absurd h.1 (pn0 hA rfl)) (fun q => q.elim (fun h => absurd h.1 (pn0 hA rfl)) (fun q => q.elim (fun h => absurd h.1 (pn0 hA rfl)) (fun q => q.elim (fun h => absurd h.1 (pn0 hA rfl)) (fun q => q.elim (fun h => absurd h.1 (pn0 hA rfl)) (fun q => q.elim (fun h => absurd h (pn hA rfl rfl)) (fun h => absurd h.1 (pn hA rfl rfl)))))))))
theorem q_2cabce820 {x0 x1 : Int} (f0 : 0 ≤ x0 ∧ x0 ≤ 3) (f1 : x0 = x1) (f2 : (x1 = 0)) : x0 = 0 := by omega
theorem q_f0beed051 {x0 : Int} (f0 : 0 ≤ x0 ∧ x0 ≤ 600) : 0 ≤ x0 := by omega
theorem q_6db6d1d79 {x0 x1 x2 x3 x4 x5 x6 : Int} (f0 : (x0 = 0 ∧ x1 = 0 ∧ x2 = 0 ∧ x3 = 5 ∧ x4 = 0 ∧ x5 = 0)) (f1 : 0 ≤ x0 ∧ x0 ≤ 6) (f2 : (x6 = 0)) : x6 = x0 := by omega
theorem q_87dfdabce {x0 x1 x2 x3 x4 x5 x6 : Int} (f0 : (x0 = 0 ∧ x1 = 0 ∧ x2 = 0 ∧ x3 = 5 ∧ x4 = 0 ∧ x5 = 0)) (f1 : 0 ≤ x1 ∧ x1 ≤ 4) (f2 : (x6 = 0)) : x6 = x1 := by omega
theorem q_0739f42ac {x0 x1 x2 x3 x4 x5 x6 : Int} (f0 : (x0 = 0 ∧ x1 = 0 ∧ x2 = 0 ∧ x3 = 5 ∧ x4 = 0 ∧ x5 = 0)) (f1 : 0 ≤ x2 ∧ x2 ≤ 4) (f2 : (x6 = 0)) : x6 = x2 := by omega
theorem q_19b73cb17 {x0 x1 x2 x3 x4 x5 x6 : Int} (f0 : (x0 = 0 ∧ x1 = 0 ∧ x2 = 0 ∧ x3 = 5 ∧ x4 = 0 ∧ x5 = 0)) (f1 : (x6 = 5)) : x6 = x3 := by omega
theorem q_8241eb4bd {x0 x1 : Int} (f0 : (x0 ≥ 0 ∧ x0 ≤ x1 ∧ x0 ≤ 600)) : 0 ≤ x0 := by omega
theorem q_f1a9820a9 {x0 x1 : Int} (f0 : (x0 ≥ 0 ∧ x0 ≤ x1 ∧ x0 ≤ 600)) : x0 ≤ x1 := by omega
theorem qn_73b48ea2f {Q : Nat} {j : Int} (hQ : Q = 13 ∨ Q = 25) : ¬ (((3 : Nat) = 1 ∧ j = 2) ∨ ((3 : Nat) = 1 ∧ j = 4) ∨ ((3 : Nat) = 1 ∧ j = 5) ∨ ((3 : Nat) = Q ∧ j = 0) ∨ ((3 : Nat) = Q ∧ j = 1) ∨ ((3 : Nat) = Q ∧ j = 2) ∨ ((3 : Nat) = Q ∧ j = 3) ∨ (3 : Nat) = (Q + 1) ∨ (3 : Nat) = (Q + 2) ∨ (3 : Nat) = (Q + 3) ∨ ((3 : Nat) = Q ∧ j = 4) ∨ ((3 : Nat) = Q ∧ j = 5) ∨ (3 : Nat) = (Q + 6) ∨ ((3 : Nat) = (Q + 7) ∧ j = 4)) := (fun q => q.elim (fun h => absurd h.1 (nn rfl)) (fun q => q.elim (fun h => absurd h.1 (nn rfl)) (fun q => q.elim (fun h => absurd h.1 (nn rfl)) (fun q => q.elim (fun h => absurd h.1 (pn0 hQ rfl)) (fun q => q.elim (fun h => absurd h.1 (pn0 hQ rfl)) (fun q => q.elim (fun h => absurd h.1 (pn0 hQ rfl)) (fun q => q.elim (fun h => absurd h.1 (pn0 hQ rfl)) (fun q => q.elim (fun h => absurd h (pn hQ rfl rfl)) (fun q => q.elim (fun h => absurd h (pn hQ rfl rfl)) (fun q => q.elim (fun h => absurd h (pn hQ rfl rfl)) (fun q => q.elim (fun h => absurd h.1 (pn0 hQ rfl)) (fun q => q.elim (fun h => absurd h.1 (pn0 hQ rfl)) (fun q => q.elim (fun h => absurd h (pn hQ rfl rfl)) (fun h => absurd h.1 (pn hQ rfl rfl)))))))))))))))
theorem q_366480dfc {x0 x1 : Int} (f0 : (x0 ≥ 0 ∧ x0 ≤ x1 ∧ x0 ≤ 600)) : x0 ≤ 600 := by omega
theorem qn_de2c377ca : ¬ (((41 : Nat) = 41 ∧ (3 : Int) = 16) ∨ ((41 : Nat) = 41 ∧ (3 : Int) = 17) ∨ ((41 : Nat) = 41 ∧ (3 : Int) = 18) ∨ ((41 : Nat) = 41 ∧ (3 : Int) = 19)) := (fun q => q.elim (fun h => absurd h.2 (ni rfl)) (fun q => q.elim (fun h => absurd h.2 (ni rfl)) (fun q => q.elim (fun h => absurd h.2 (ni rfl)) (fun h => absurd h.2 (ni rfl)))))
theorem qn_910516fcd : ¬ (((41 : Nat) = 41 ∧ (5 : Int) = 16) ∨ ((41 : Nat) = 41 ∧ (5 : Int) = 17) ∨ ((41 : Nat) = 41 ∧ (5 : Int) = 18) ∨ ((41 : Nat) = 41 ∧ (5 : Int) = 19)) := (fun q => q.elim (fun h => absurd h.2 (ni rfl)) (fun q => q.elim (fun h => absurd h.2 (ni rfl)) (fun q => q.elim (fun h => absurd h.2 (ni rfl)) (fun h => absurd h.2 (ni rfl)))))
theorem qn_eb0d473e8 : ¬ (((41 : Nat) = 41 ∧ (6 : Int) = 2) ∨ ((41 : Nat) = 41 ∧ (6 : Int) = 3) ∨ ((41 : Nat) = 41 ∧ (6 : Int) = 4) ∨ ((41 : Nat) = 41 ∧ (6 : Int) = 5) ∨ ((41 : Nat) = 41 ∧ (6 : Int) = 7) ∨ ((41 : Nat) = 41 ∧ (6 : Int) = 8)) := (fun q => q.elim (fun h => absurd h.2 (ni rfl)) (fun q => q.elim (fun h => absurd h.2 (ni rfl)) (fun q => q.elim (fun h => absurd h.2 (ni rfl)) (fun q => q.elim (fun h => absurd h.2 (ni rfl)) (fun q => q.elim (fun h => absurd h.2 (ni rfl)) (fun h => absurd h.2 (ni rfl)))))))
theorem qn_f359bb820 : ¬ (((41 : Nat) = 41 ∧ (6 : Int) = 16) ∨ ((41 : Nat) = 41 ∧ (6 : Int) = 17) ∨ ((41 : Nat) = 41 ∧ (6 : Int) = 18) ∨ ((41 : Nat) = 41 ∧ (6 : Int) = 19)) := (fun q => q.elim (fun h => absurd h.2 (ni rfl)) (fun q => q.elim (fun h => absurd h.2 (ni rfl)) (fun q => q.elim (fun h => absurd h.2 (ni rfl)) (fun h => absurd h.2 (ni rfl)))))
theorem q_ef9b3060e {x0 x1 x2 x3 : Int} (f0 : (x0 = 0 ∧ x1 = 0 ∧ x2 = 0 ∧ x3 = 5)) (f1 : 0 ≤ x0 ∧ x0 ≤ 6) : (x0) = 0 := by omega
theorem q_b557f8ccc {x0 x1 x2 x3 : Int} (f0 : (x0 = 0 ∧ x1 = 0 ∧ x2 = 0 ∧ x3 = 5)) (f1 : 0 ≤ x1 ∧ x1 ≤ 4) : (x1) = 0 := by omega
theorem q_663c66ce4 {x0 x1 x2 x3 : Int} (f0 : (x0 = 0 ∧ x1 = 0 ∧ x2 = 0 ∧ x3 = 5)) (f1 : 0 ≤ x2 ∧ x2 ≤ 4) : (x2) = 0 := by omega
theorem q_3d4c19553 {x0 x1 x2 x3 : Int} (f0 : (x0 = 0 ∧ x1 = 0 ∧ x2 = 0 ∧ x3 = 5)) : (x3) = 5 := by omega
theorem qn_1d27fc2bc {j : Int} : ¬ (((43 : Nat) = 41 ∧ j = 16) ∨ ((43 : Nat) = 41 ∧ j = 17) ∨ ((43 : Nat) = 41 ∧ j = 18) ∨ ((43 : Nat) = 41 ∧ j = 19)) := (fun q => q.elim (fun h => absurd h.1 (nn rfl)) (fun q => q.elim (fun h => absurd h.1 (nn rfl)) (fun q => q.elim (fun h => absurd h.1 (nn rfl)) (fun h => absurd h.1 (nn rfl)))))
theorem qn_78d42cb5c {j : Int} : ¬ (((43 : Nat) = 41 ∧ j = 2) ∨ ((43 : Nat) = 41 ∧ j = 3) ∨ ((43 : Nat) = 41 ∧ j = 4) ∨ ((43 : Nat) = 41 ∧ j = 5) ∨ ((43 : Nat) = 41 ∧ j = 7) ∨ ((43 : Nat) = 41 ∧ j = 8)) := (fun q => q.elim (fun h => absurd h.1 (nn rfl)) (fun q => q.elim (fun h => absurd h.1 (nn rfl)) (fun q => q.elim (fun h => absurd h.1 (nn rfl)) (fun q => q.elim (fun h => absurd h.1 (nn rfl)) (fun q => q.elim (fun h => absurd h.1 (nn rfl)) (fun h => absurd h.1 (nn rfl)))))))
theorem q_a7ddc6b3b {x0 x1 x2 x3 x4 x5 : Int} (f0 : (x0 = x1 ∧ x2 = 0 ∧ x3 = (-1) ∧ x4 = 0 ∧ x5 = 0)) (f1 : 0 ≤ x2 ∧ x2 ≤ 605) : x2 = 0 := by omega
theorem qn_18af663b8 : ¬ (((41 : Nat) = 41 ∧ (0 : Int) = 2) ∨ ((41 : Nat) = 41 ∧ (0 : Int) = 3) ∨ ((41 : Nat) = 41 ∧ (0 : Int) = 4) ∨ ((41 : Nat) = 41 ∧ (0 : Int) = 5) ∨ ((41 : Nat) = 41 ∧ (0 : Int) = 7) ∨ ((41 : Nat) = 41 ∧ (0 : Int) = 8)) := (fun q => q.elim (fun h => absurd h.2 (ni rfl)) (fun q => q.elim (fun h => absurd h.2 (ni rfl)) (fun q => q.elim (fun h => absurd h.2 (ni rfl)) (fun q => q.elim (fun h => absurd h.2 (ni rfl)) (fun q => q.elim (fun h => absurd h.2 (ni rfl)) (fun h => absurd h.2 (ni rfl)))))))
theorem qn_75150763a : ¬ (((41 : Nat) = 41 ∧ (0 : Int) = 16) ∨ ((41 : Nat) = 41 ∧ (0 : Int) = 17) ∨ ((41 : Nat) = 41 ∧ (0 : Int) = 18) ∨ ((41 : Nat) = 41 ∧ (0 : Int) = 19)) := (fun q => q.elim (fun h => absurd h.2 (ni rfl)) (fun q => q.elim (fun h => absurd h.2 (ni rfl)) (fun q => q.elim (fun h => absurd h.2 (ni rfl)) (fun h => absurd h.2 (ni rfl)))))
theorem qn_77f099881 : ¬ (((41 : Nat) = 41 ∧ (0 : Int) = 4) ∨ ((41 : Nat) = 41 ∧ (0 : Int) = 5) ∨ ((41 : Nat) = 41 ∧ (0 : Int) = 6) ∨ ((41 : Nat) = 41 ∧ (0 : Int) = 16) ∨ ((41 : Nat) = 41 ∧ (0 : Int) = 17) ∨ ((41 : Nat) = 41 ∧ (0 : Int) = 18) ∨ ((41 : Nat) = 41 ∧ (0 : Int) = 19) ∨ (41 : Nat) = 44 ∨ (41 : Nat) = 45 ∨ (41 : Nat) = 46) := (fun q => q.elim (fun h => absurd h.2 (ni rfl)) (fun q => q.elim (fun h => absurd h.2 (ni rfl)) (fun q => q.elim (fun h => absurd h.2 (ni rfl)) (fun q => q.elim (fun h => absurd h.2 (ni rfl)) (fun q => q.elim (fun h => absurd h.2 (ni rfl)) (fun q => q.elim (fun h => absurd h.2 (ni rfl)) (fun q => q.elim (fun h => absurd h.2 (ni rfl)) (fun q => q.elim (fun h => absurd h (nn rfl)) (fun q => q.elim (fun h => absurd h (nn rfl)) (fun h => absurd h (nn rfl)))))))))))
theorem qn_7452710ff : ¬ (((41 : Nat) = 41 ∧ (20 : Int) = 2) ∨ ((41 : Nat) = 41 ∧ (20 : Int) = 3) ∨ ((41 : Nat) = 41 ∧ (20 : Int) = 4) ∨ ((41 : Nat) = 41 ∧ (20 : Int) = 5) ∨ ((41 : Nat) = 41 ∧ (20 : Int) = 7) ∨ ((41 : Nat) = 41 ∧ (20 : Int) = 8)) := (fun q => q.elim (fun h => absurd h.2 (ni rfl)) (fun q => q.elim (fun h => absurd h.2 (ni rfl)) (fun q => q.elim (fun h => absurd h.2 (ni rfl)) (fun q => q.elim (fun h => absurd h.2 (ni rfl)) (fun q => q.elim (fun h => absurd h.2 (ni rfl)) (fun h => absurd h.2 (ni rfl)))))))
theorem qn_48ec56b4a : ¬ (((41 : Nat) = 41 ∧ (20 : Int) = 16) ∨ ((41 : Nat) = 41 ∧ (20 : Int) = 17) ∨ ((41 : Nat) = 41 ∧ (20 : Int) = 18) ∨ ((41 : Nat) = 41 ∧ (20 : Int) = 19)) := (fun q => q.elim (fun h => absurd h.2 (ni rfl)) (fun q => q.elim (fun h => absurd h.2 (ni rfl)) (fun q => q.elim (fun h => absurd h.2 (ni rfl)) (fun h => absurd h.2 (ni rfl)))))
theorem qn_282feb47b : ¬ (((41 : Nat) = 41 ∧ (20 : Int) = 4) ∨ ((41 : Nat) = 41 ∧ (20 : Int) = 5) ∨ ((41 : Nat) = 41 ∧ (20 : Int) = 6) ∨ ((41 : Nat) = 41 ∧ (20 : Int) = 16) ∨ ((41 : Nat) = 41 ∧ (20 : Int) = 17) ∨ ((41 : Nat) = 41 ∧ (20 : Int) = 18) ∨ ((41 : Nat) = 41 ∧ (20 : Int) = 19) ∨ (41 : Nat) = 44 ∨ (41 : Nat) = 45 ∨ (41 : Nat) = 46) := (fun q => q.elim (fun h => absurd h.2 (ni rfl)) (fun q => q.elim (fun h => absurd h.2 (ni rfl)) (fun q => q.elim (fun h => absurd h.2 (ni rfl)) (fun q => q.elim (fun h => absurd h.2 (ni rfl)) (fun q => q.elim (fun h => absurd h.2 (ni rfl)) (fun q => q.elim (fun h => absurd h.2 (ni rfl)) (fun q => q.elim (fun h => absurd h.2 (ni rfl)) (fun q => q.elim (fun h => absurd h (nn rfl)) (fun q => q.elim (fun h => absurd h (nn rfl)) (fun h => absurd h (nn rfl)))))))))))
theorem qn_b78d71421 : ¬ (((41 : Nat) = 41 ∧ (21 : Int) = 2) ∨ ((41 : Nat) = 41 ∧ (21 : Int) = 3) ∨ ((41 : Nat) = 41 ∧ (21 : Int) = 4) ∨ ((41 : Nat) = 41 ∧ (21 : Int) = 5) ∨ ((41 : Nat) = 41 ∧ (21 : Int) = 7) ∨ ((41 : Nat) = 41 ∧ (21 : Int) = 8)) := (fun q => q.elim (fun h => absurd h.2 (ni rfl)) (fun q => q.elim (fun h => absurd h.2 (ni rfl)) (fun q => q.elim (fun h => absurd h.2 (ni rfl)) (fun q => q.elim (fun h => absurd h.2 (ni rfl)) (fun q => q.elim (fun h => absurd h.2 (ni rfl)) (fun h => absurd h.2 (ni rfl)))))))
theorem qn_a544b0d39 : ¬ (((41 : Nat) = 41 ∧ (21 : Int) = 16) ∨ ((41 : Nat) = 41 ∧ (21 : Int) = 17) ∨ ((41 : Nat) = 41 ∧ (21 : Int) = 18) ∨ ((41 : Nat) = 41 ∧ (21 : Int) = 19)) := (fun q => q.elim (fun h => absurd h.2 (ni rfl)) (fun q => q.elim (fun h => absurd h.2 (ni rfl)) (fun q => q.elim (fun h => absurd h.2 (ni rfl)) (fun h => absurd h.2 (ni rfl)))))
theorem qn_0dc73d421 : ¬ (((41 : Nat) = 41 ∧ (21 : Int) = 4) ∨ ((41 : Nat) = 41 ∧ (21 : Int) = 5) ∨ ((41 : Nat) = 41 ∧ (21 : Int) = 6) ∨ ((41 : Nat) = 41 ∧ (21 : Int) = 16) ∨ ((41 : Nat) = 41 ∧ (21 : Int) = 17) ∨ ((41 : Nat) = 41 ∧ (21 : Int) = 18) ∨ ((41 : Nat) = 41 ∧ (21 : Int) = 19) ∨ (41 : Nat) = 44 ∨ (41 : Nat) = 45 ∨ (41 : Nat) = 46) := (fun q => q.elim (fun h => absurd h.2 (ni rfl)) (fun q => q.elim (fun h => absurd h.2 (ni rfl)) (fun q => q.elim (fun h => absurd h.2 (ni rfl)) (fun q => q.elim (fun h => absurd h.2 (ni rfl)) (fun q => q.elim (fun h => absurd h.2 (ni rfl)) (fun q => q.elim (fun h => absurd h.2 (ni rfl)) (fun q => q.elim (fun h => absurd h.2 (ni rfl)) (fun q => q.elim (fun h => absurd h (nn rfl)) (fun q => q.elim (fun h => absurd h (nn rfl)) (fun h => absurd h (nn rfl)))))))))))
theorem qn_702f7a732 : ¬ (((41 : Nat) = 41 ∧ (22 : Int) = 2) ∨ ((41 : Nat) = 41 ∧ (22 : Int) = 3) ∨ ((41 : Nat) = 41 ∧ (22 : Int) = 4) ∨ ((41 : Nat) = 41 ∧ (22 : Int) = 5) ∨ ((41 : Nat) = 41 ∧ (22 : Int) = 7) ∨ ((41 : Nat) = 41 ∧ (22 : Int) = 8)) := (fun q => q.elim (fun h => absurd h.2 (ni rfl)) (fun q => q.elim (fun h => absurd h.2 (ni rfl)) (fun q => q.elim (fun h => absurd h.2 (ni rfl)) (fun q => q.elim (fun h => absurd h.2 (ni rfl)) (fun q => q.elim (fun h => absurd h.2 (ni rfl)) (fun h => absurd h.2 (ni rfl)))))))
theorem qn_51a55d310 : ¬ (((41 : Nat) = 41 ∧ (22 : Int) = 16) ∨ ((41 : Nat) = 41 ∧ (22 : Int) = 17) ∨ ((41 : Nat) = 41 ∧ (22 : Int) = 18) ∨ ((41 : Nat) = 41 ∧ (22 : Int) = 19)) := (fun q => q.elim (fun h => absurd h.2 (ni rfl)) (fun q => q.elim (fun h => absurd h.2 (ni rfl)) (fun q => q.elim (fun h => absurd h.2 (ni rfl)) (fun h => absurd h.2 (ni rfl)))))
theorem qn_22b56e317 : ¬ (((41 : Nat) = 41 ∧ (22 : Int) = 4) ∨ ((41 : Nat) = 41 ∧ (22 : Int) = 5) ∨ ((41 : Nat) = 41 ∧ (22 : Int) = 6) ∨ ((41 : Nat) = 41 ∧ (22 : Int) = 16) ∨ ((41 : Nat) = 41 ∧ (22 : Int) = 17) ∨ ((41 : Nat) = 41 ∧ (22 : Int) = 18) ∨ ((41 : Nat) = 41 ∧ (22 : Int) = 19) ∨ (41 : Nat) = 44 ∨ (41 : Nat) = 45 ∨ (41 : Nat) = 46) := (fun q => q.elim (fun h => absurd h.2 (ni rfl)) (fun q => q.elim (fun h => absurd h.2 (ni rfl)) (fun q => q.elim (fun h => absurd h.2 (ni rfl)) (fun q => q.elim (fun h => absurd h.2 (ni rfl)) (fun q => q.elim (fun h => absurd h.2 (ni rfl)) (fun q => q.elim (fun h => absurd h.2 (ni rfl)) (fun q => q.elim (fun h => absurd h.2 (ni rfl)) (fun q => q.elim (fun h => absurd h (nn rfl)) (fun q => q.elim (fun h => absurd h (nn rfl)) (fun h => absurd h (nn rfl)))))))))))
theorem qn_b97c6324d : ¬ (((41 : Nat) = 41 ∧ (23 : Int) = 2) ∨ ((41 : Nat) = 41 ∧ (23 : Int) = 3) ∨ ((41 : Nat) = 41 ∧ (23 : Int) = 4) ∨ ((41 : Nat) = 41 ∧ (23 : Int) = 5) ∨ ((41 : Nat) = 41 ∧ (23 : Int) = 7) ∨ ((41 : Nat) = 41 ∧ (23 : Int) = 8)) := (fun q => q.elim (fun h => absurd h.2 (ni rfl)) (fun q => q.elim (fun h => absurd h.2 (ni rfl)) (fun q => q.elim (fun h => absurd h.2 (ni rfl)) (fun q => q.elim (fun h => absurd h.2 (ni rfl)) (fun q => q.elim (fun h => absurd h.2 (ni rfl)) (fun h => absurd h.2 (ni rfl)))))))
theorem qn_d7064651c : ¬ (((41 : Nat) = 41 ∧ (23 : Int) = 16) ∨ ((41 : Nat) = 41 ∧ (23 : Int) = 17) ∨ ((41 : Nat) = 41 ∧ (23 : Int) = 18) ∨ ((41 : Nat) = 41 ∧ (23 : Int) = 19)) := (fun q => q.elim (fun h => absurd h.2 (ni rfl)) (fun q => q.elim (fun h => absurd h.2 (ni rfl)) (fun q => q.elim (fun h => absurd h.2 (ni rfl)) (fun h => absurd h.2 (ni rfl)))))
theorem qn_ea8766bb1 : ¬ (((41 : Nat) = 41 ∧ (23 : Int) = 4) ∨ ((41 : Nat) = 41 ∧ (23 : Int) = 5) ∨ ((41 : Nat) = 41 ∧ (23 : Int) = 6) ∨ ((41 : Nat) = 41 ∧ (23 : Int) = 16) ∨ ((41 : Nat) = 41 ∧ (23 : Int) = 17) ∨ ((41 : Nat) = 41 ∧ (23 : Int) = 18) ∨ ((41 : Nat) = 41 ∧ (23 : Int) = 19) ∨ (41 : Nat) = 44 ∨ (41 : Nat) = 45 ∨ (41 : Nat) = 46) := (fun q => q.elim (fun h => absurd h.2 (ni rfl)) (fun q => q.elim (fun h => absurd h.2 (ni rfl)) (fun q => q.elim (fun h => absurd h.2 (ni rfl)) (fun q => q.elim (fun h => absurd h.2 (ni rfl)) (fun q => q.elim (fun h => absurd h.2 (ni rfl)) (fun q => q.elim (fun h => absurd h.2 (ni rfl)) (fun q => q.elim (fun h => absurd h.2 (ni rfl)) (fun q => q.elim (fun h => absurd h (nn rfl)) (fun q => q.elim (fun h => absurd h (nn rfl)) (fun h => absurd h (nn rfl)))))))))))
theorem qn_29189991c : ¬ (((41 : Nat) = 41 ∧ (52 : Int) = 2) ∨ ((41 : Nat) = 41 ∧ (52 : Int) = 3) ∨ ((41 : Nat) = 41 ∧ (52 : Int) = 4) ∨ ((41 : Nat) = 41 ∧ (52 : Int) = 5) ∨ ((41 : Nat) = 41 ∧ (52 : Int) = 7) ∨ ((41 : Nat) = 41 ∧ (52 : Int) = 8)) := (fun q => q.elim (fun h => absurd h.2 (ni rfl)) (fun q => q.elim (fun h => absurd h.2 (ni rfl)) (fun q => q.elim (fun h => absurd h.2 (ni rfl)) (fun q => q.elim (fun h => absurd h.2 (ni rfl)) (fun q => q.elim (fun h => absurd h.2 (ni rfl)) (fun h => absurd h.2 (ni rfl)))))))
theorem qn_f295bbde9 : ¬ (((41 : Nat) = 41 ∧ (52 : Int) = 16) ∨ ((41 : Nat) = 41 ∧ (52 : Int) = 17) ∨ ((41 : Nat) = 41 ∧ (52 : Int) = 18) ∨ ((41 : Nat) = 41 ∧ (52 : Int) = 19)) := (fun q => q.elim (fun h => absurd h.2 (ni rfl)) (fun q => q.elim (fun h => absurd h.2 (ni rfl)) (fun q => q.elim (fun h => absurd h.2 (ni rfl)) (fun h => absurd h.2 (ni rfl)))))
theorem qn_a9de43c1c : ¬ (((41 : Nat) = 41 ∧ (52 : Int) = 4) ∨ ((41 : Nat) = 41 ∧ (52 : Int) = 5) ∨ ((41 : Nat) = 41 ∧ (52 : Int) = 6) ∨ ((41 : Nat) = 41 ∧ (52 : Int) = 16) ∨ ((41 : Nat) = 41 ∧ (52 : Int) = 17) ∨ ((41 : Nat) = 41 ∧ (52 : Int) = 18) ∨ ((41 : Nat) = 41 ∧ (52 : Int) = 19) ∨ (41 : Nat) = 44 ∨ (41 : Nat) = 45 ∨ (41 : Nat) = 46) := (fun q => q.elim (fun h => absurd h.2 (ni rfl)) (fun q => q.elim (fun h => absurd h.2 (ni rfl)) (fun q => q.elim (fun h => absurd h.2 (ni rfl)) (fun q => q.elim (fun h => absurd h.2 (ni rfl)) (fun q => q.elim (fun h => absurd h.2 (ni rfl)) (fun q => q.elim (fun h => absurd h.2 (ni rfl)) (fun q => q.elim (fun h => absurd h.2 (ni rfl)) (fun q => q.elim (fun h => absurd h (nn rfl)) (fun q => q.elim (fun h => absurd h (nn rfl)) (fun h => absurd h (nn rfl)))))))))))
theorem qn_83d1451ee : ¬ (((41 : Nat) = 41 ∧ (35 : Int) = 16) ∨ ((41 : Nat) = 41 ∧ (35 : Int) = 17) ∨ ((41 : Nat) = 41 ∧ (35 : Int) = 18) ∨ ((41 : Nat) = 41 ∧ (35 : Int) = 19)) := (fun q => q.elim (fun h => absurd h.2 (ni rfl)) (fun q => q.elim (fun h => absurd h.2 (ni rfl)) (fun q => q.elim (fun h => absurd h.2 (ni rfl)) (fun h => absurd h.2 (ni rfl)))))
theorem qn_d8396dee5 : ¬ (((41 : Nat) = 41 ∧ (35 : Int) = 4) ∨ ((41 : Nat) = 41 ∧ (35 : Int) = 5) ∨ ((41 : Nat) = 41 ∧ (35 : Int) = 6) ∨ ((41 : Nat) = 41 ∧ (35 : Int) = 16) ∨ ((41 : Nat) = 41 ∧ (35 : Int) = 17) ∨ ((41 : Nat) = 41 ∧ (35 : Int) = 18) ∨ ((41 : Nat) = 41 ∧ (35 : Int) = 19) ∨ (41 : Nat) = 44 ∨ (41 : Nat) = 45 ∨ (41 : Nat) = 46) := (fun q => q.elim (fun h => absurd h.2 (ni rfl)) (fun q => q.elim (fun h => absurd h.2 (ni rfl)) (fun q => q.elim (fun h => absurd h.2 (ni rfl)) (fun q => q.elim (fun h => absurd h.2 (ni rfl)) (fun q => q.elim (fun h => absurd h.2 (ni rfl)) (fun q => q.elim (fun h => absurd h.2 (ni rfl)) (fun q => q.elim (fun h => absurd h.2 (ni rfl)) (fun q => q.elim (fun h => absurd h (nn rfl)) (fun q => q.elim (fun h => absurd h (nn rfl)) (fun h => absurd h (nn rfl)))))))))))
theorem q_e5f29e5a1 {x0 x1 : Int} (f0 : x0 = x1 - 10) : x1 - 10 = x0 := by omega
theorem qn_1d8f8ed06 {j : Int} : ¬ ((1 : Nat) = 38 ∨ (1 : Nat) = 40 ∨ ((1 : Nat) = 3 ∧ j = 3) ∨ ((1 : Nat) = 3 ∧ j = 4) ∨ ((1 : Nat) = 0 ∧ j = 11)) := (fun q => q.elim (fun h => absurd h (nn rfl)) (fun q => q.elim (fun h => absurd h (nn rfl)) (fun q => q.elim (fun h => absurd h.1 (nn rfl)) (fun q => q.elim (fun h => absurd h.1 (nn rfl)) (fun h => absurd h.1 (nn rfl))))))
theorem q_a93a79546 {x0 : Int} (f0 : (-1) ≤ x0 ∧ x0 ≤ 600) : (-2147483648) ≤ x0 := by omega
theorem q_64fbdbf81 {x0 : Int} (f0 : (-1) ≤ x0 ∧ x0 ≤ 600) : x0 ≤ 2147483647 := by omega
theorem qn_60d8a0f85 {Q : Nat} {j : Int} (hQ : Q = 13 ∨ Q = 25) : ¬ (Q = 38 ∨ Q = 40 ∨ (Q = 3 ∧ j = 3) ∨ (Q = 3 ∧ j = 4) ∨ (Q = 0 ∧ j = 11)) := (fun q => q.elim (fun h => absurd h (np0 hQ rfl)) (fun q => q.elim (fun h => absurd h (np0 hQ rfl)) (fun q => q.elim (fun h => absurd h.1 (np0 hQ rfl)) (fun q => q.elim (fun h => absurd h.1 (np0 hQ rfl)) (fun h => absurd h.1 (np0 hQ rfl))))))
theorem qn_bd6eb8e87 : ¬ (((41 : Nat) = 41 ∧ (8 : Int) = 20) ∨ ((41 : Nat) = 41 ∧ (8 : Int) = 21) ∨ ((41 : Nat) = 41 ∧ (8 : Int) = 22) ∨ ((41 : Nat) = 41 ∧ (8 : Int) = 23) ∨ ((41 : Nat) = 41 ∧ (8 : Int) = 30) ∨ ((41 : Nat) = 41 ∧ (8 : Int) = 35) ∨ ((41 : Nat) = 41 ∧ (8 : Int) = 36) ∨ ((41 : Nat) = 41 ∧ (8 : Int) = 47) ∨ ((41 : Nat) = 41 ∧ (8 : Int) = 48) ∨ ((41 : Nat) = 41 ∧ (8 : Int) = 52) ∨ (41 : Nat) = 47 ∨ (41 : Nat) = 48 ∨ (41 : Nat) = 49 ∨ (41 : Nat) = 58 ∨ (41 : Nat) = 64) := (fun q => q.elim (fun h => absurd h.2 (ni rfl)) (fun q => q.elim (fun h => absurd h.2 (ni rfl)) (fun q => q.elim (fun h => absurd h.2 (ni rfl)) (fun q => q.elim (fun h => absurd h.2 (ni rfl)) (fun q => q.elim (fun h => absurd h.2 (ni rfl)) (fun q => q.elim (fun h => absurd h.2 (ni rfl)) (fun q => q.elim (fun h => absurd h.2 (ni rfl)) (fun q => q.elim (fun h => absurd h.2 (ni rfl)) (fun q => q.elim (fun h => absurd h.2 (ni rfl)) (fun q => q.elim (fun h => absurd h.2 (ni rfl)) (fun q => q.elim (fun h => absurd h (nn rfl)) (fun q => q.elim (fun h => absurd h (nn rfl)) (fun q => q.elim (fun h => absurd h (nn rfl)) (fun q => q.elim (fun h => absurd h (nn rfl)) (fun h => absurd h (nn rfl))))))))))))))))
theorem qn_0f8f6c114 : ¬ (((41 : Nat) = 41 ∧ (0 : Int) = 20) ∨ ((41 : Nat) = 41 ∧ (0 : Int) = 21) ∨ ((41 : Nat) = 41 ∧ (0 : Int) = 22) ∨ ((41 : Nat) = 41 ∧ (0 : Int) = 23) ∨ ((41 : Nat) = 41 ∧ (0 : Int) = 30) ∨ ((41 : Nat) = 41 ∧ (0 : Int) = 35) ∨ ((41 : Nat) = 41 ∧ (0 : Int) = 36) ∨ ((41 : Nat) = 41 ∧ (0 : Int) = 47) ∨ ((41 : Nat) = 41 ∧ (0 : Int) = 48) ∨ ((41 : Nat) = 41 ∧ (0 : Int) = 52) ∨ (41 : Nat) = 47 ∨ (41 : Nat) = 48 ∨ (41 : Nat) = 49 ∨ (41 : Nat) = 58 ∨ (41 : Nat) = 64) := (fun q => q.elim (fun h => absurd h.2 (ni rfl)) (fun q => q.elim (fun h => absurd h.2 (ni rfl)) (fun q => q.elim (fun h => absurd h.2 (ni rfl)) (fun q => q.elim (fun h => absurd h.2 (ni rfl)) (fun q => q.elim (fun h => absurd h.2 (ni rfl)) (fun q => q.elim (fun h => absurd h.2 (ni rfl)) (fun q => q.elim (fun h => absurd h.2 (ni rfl)) (fun q => q.elim (fun h => absurd h.2 (ni rfl)) (fun q => q.elim (fun h => absurd h.2 (ni rfl)) (fun q => q.elim (fun h => absurd h.2 (ni rfl)) (fun q => q.elim (fun h => absurd h (nn rfl)) (fun q => q.elim (fun h => absurd h (nn rfl)) (fun q => q.elim (fun h => absurd h (nn rfl)) (fun q => q.elim (fun h => absurd h (nn rfl)) (fun h => absurd h (nn rfl))))))))))))))))
theorem q_019e65e0c {x0 x1 x2 x3 x4 x5 : Int} (f0 : (-1) ≤ x0 ∧ x0 ≤ 600) (f1 : x0 = x1) (f2 : x2 = 0 ∧ x3 = -1 ∧ x4 = x5 ∧ x1 = -1) : (-1) = x0 := by omega
set_option maxRecDepth 100000 in
set_option maxHeartbeats 4000000 in
theorem L_34_l {sc : List Int32} {e eg : Int} {d dh u ug P Q P2 Q2 A : Nat} {c m m9 : ME} {a1 e1 f0 g0 z0 z1 z2 z3 : Int} {F H : Int → Int} {Z : AR → Prop} (hI : Iv u e P2 Q2 c) (hJ : Iv ug eg P Q m) (hJ9 : Iv ug eg P Q m9) (hA : A = 13 ∨ A = 25) (ha1 : (-2147483648) ≤ a1 ∧ a1 ≤ 2147483647) (hq0 : (f0 = 0)) (hq1 : (g0 = (-1))) (hq2 : (z0 = 0)) (hq3 : (z1 = 0)) (hq4 : (z2 = 0)) (hq5 : (z3 = 5)) (hg_e1 : m 1 1 = e1) (hr_e1 : c 41 3 = e1) (hg_f0 : m 1 4 = f0) (hg_g0 : m 1 5 = g0) (hr_z0 : c 41 16 = z0) (hr_z1 : c 41 17 = z1) (hr_z2 : c 41 18 = z2) (hr_z3 : c 41 19 = z3) (hF : ∀ j : Int, m 2 j = F j) (hH : ∀ j : Int, c 43 j = H j) (hU : Ub F H) (hRt : Rt m c) (K : ∀ (c2 : ME), Iv u e P2 Q2 c2 → (∀ (a : Nat) (j : Int), ¬ ((a = 41 ∧ j = 4) ∨ (a = 41 ∧ j = 5) ∨ (a = 41 ∧ j = 6) ∨ (a = 41 ∧ j = 16) ∨ (a = 41 ∧ j = 17) ∨ (a = 41 ∧ j = 18) ∨ (a = 41 ∧ j = 19) ∨ a = 44 ∨ a = 45 ∨ a = 46) → c2 a j = c a j) → (Rt m9 c2) → ((m9 1 4 < 0) ∨ (m9 1 4 > 0) ∨ (m9 A 0 = c2 41 16 ∧ m9 A 1 = c2 41 17 ∧ m9 A 2 = c2 41 18 ∧ m9 A 3 = c2 41 19)) → Wp sc (d + 22) 169 136 [(0, .ref 41), (1, vi a1)] [] (Wd P2 Q2 P2 P2 c2) 0 0 Z) : ∀ n : Nat, (∀ (c2 m2 : ME) (v : Int) (a : Int) (jr : Int) (st : Int) (si : Int) (du : Int), Iv u e P2 Q2 c2 → (∀ (a : Nat) (j : Int), ¬ ((a = 41 ∧ j = 4) ∨ (a = 41 ∧ j = 5) ∨ (a = 41 ∧ j = 6) ∨ (a = 41 ∧ j = 16) ∨ (a = 41 ∧ j = 17) ∨ (a = 41 ∧ j = 18) ∨ (a = 41 ∧ j = 19) ∨ a = 44 ∨ a = 45 ∨ a = 46) → c2 a j = c a j) → Iv ug eg P Q m2 → (∀ (a : Nat) (j : Int), ¬ ((a = 1 ∧ j = 2) ∨ (a = 1 ∧ j = 4) ∨ (a = 1 ∧ j = 5) ∨ (a = A ∧ j = 0) ∨ (a = A ∧ j = 1) ∨ (a = A ∧ j = 2) ∨ (a = A ∧ j = 3) ∨ a = (A + 1) ∨ a = (A + 2) ∨ a = (A + 3) ∨ (a = A ∧ j = 4) ∨ (a = A ∧ j = 5) ∨ a = (A + 6) ∨ (a = (A + 7) ∧ j = 4)) → m2 a j = m a j) → 0 ≤ v ∧ v ≤ 60 → 0 ≤ a ∧ a ≤ 600 → 0 ≤ jr ∧ jr ≤ 6 → 0 ≤ st ∧ st ≤ 4 → 0 ≤ si ∧ si ≤ 4 → 0 ≤ du ∧ du ≤ 50 → m2 1 2 = a → c2 41 4 = a → m2 A 0 = jr → c2 41 16 = jr → m2 A 1 = st → c2 41 17 = st → m2 A 2 = si → c2 41 18 = si → m2 A 3 = du → c2 41 19 = du → m2 1 4 = 0 → c2 41 5 = (-1) → m2 1 5 = (-1) → Wp sc (dh + 30) 34 6 [(0, .ref A), (1, .ref 1), (2, vi v)] [] (Wd P Q P P m2) 0 0 (fun q => q = (.inl (none), Wd P Q P P m9, 0, 0)) → 61 - v < (n : Int) → Wp sc (d + 22) 169 44 [(0, .ref 41), (1, vi a1), (2, vi v)] [] (Wd P2 Q2 P2 P2 c2) 0 0 Z)
  | 0 => by intro c2 m2 v a jr st si du hI2 hFc hJ2 hFm hv ha hjr hst hsi hdu hg_a hr_a hg_jr hr_jr hg_st hr_st hg_si hr_si hg_du hr_du hc_0 hc_1 hc_2 hG2 hm9; exfalso; omega
  | n + 1 => by
    have hP := iv_P hJ
    have hQ := iv_Q hJ
    have ih := L_34_l (sc := sc) (d := d) (dh := dh) hI hJ hJ9 hA ha1 hq0 hq1 hq2 hq3 hq4 hq5 hg_e1 hr_e1 hg_f0 hg_g0 hr_z0 hr_z1 hr_z2 hr_z3 hF hH hU hRt K n
    intro c2 m2 v a jr st si du hI2 hFc hJ2 hFm hv ha hjr hst hsi hdu hg_a hr_a hg_jr hr_jr hg_st hr_st hg_si hr_si hg_du hr_du hc_0 hc_1 hc_2 hG2 hm9
    have h_1 := ir_1_1 hJ
    have h_2 := ir_41_3 hI
    have h_3 := ir_1_4 hJ
    have h_4 := ir_1_5 hJ
    have h_5 := ir_41_16 hI
    have h_6 := ir_41_17 hI
    have h_7 := ir_41_18 hI
    have h_8 := ir_41_19 hI
    have h_9 := ir_1_2 hJ2
    have h_10 := ir_41_4 hI2
    have h_11 := ir_p0_0 hJ2 hA
    have h_12 := ir_41_16 hI2
    have h_13 := ir_p0_1 hJ2 hA
    have h_14 := ir_41_17 hI2
    have h_15 := ir_p0_2 hJ2 hA
    have h_16 := ir_41_18 hI2
    have h_17 := ir_p0_3 hJ2 hA
    have h_18 := ir_41_19 hI2
    have h_19 := ir_1_4 hJ2
    have h_20 := ir_41_5 hI2
    have h_21 := ir_1_5 hJ2
    refine gh hG2 (q_iload_n c_34_6 rfl (v_bip c_34_7 (by decide) (v_ic_gt_f (t := 85) c_34_9 rfl ⟨(Int.le_trans (by decide) hv.1), (Int.le_trans hv.2 (by decide)), by decide⟩ (q_aload_n c_34_12 rfl (v_cv c_34_13 km_2_44 rfl rfl (Nat.le_of_ble_eq_true rfl) ⟨⟨rfl, rfl⟩, Nat.le_of_ble_eq_true rfl, rfl⟩ (Nat.le_of_ble_eq_true rfl) (Nat.le_of_ble_eq_true rfl) (q_aload_n c_15_0 rfl (v_cv c_15_1 km_5_45 rfl rfl (Nat.le_of_ble_eq_true rfl) ⟨⟨rfl, rfl⟩, Nat.le_of_ble_eq_true rfl, rfl⟩ (Nat.le_of_ble_eq_true rfl) (Nat.le_of_ble_eq_true rfl) ?_)))))))
    refine q_aload_n c_2_0 rfl (v_gi (z := 4) (v := 0) c_2_1 kf_5_38 rfl (Nat.le_of_ble_eq_true rfl) rfl rfl (hc_0) (v_if_ne_f (t := 11) c_2_4 rfl (by decide) (q_iconst c_2_7 (q_goto (t := 12) c_2_8 rfl (v_zret c_2_12 rfl (by decide) (bk_inl (v_if_eq_f (t := 22) c_15_4 rfl (by decide) ?_)))))))
    refine q_aload_n c_15_7 rfl ?_
    have kn_22 : Hid (m2 1 1 = e1) := (hFm 1 1 (qn_875db4d3f hA)).trans (hg_e1)
    have h_23 : -2147483648 ≤ (F a) ∧ (F a) ≤ 2147483647 := by rw [← hF a]; exact ir_2 hJ a
    have h_24 := nx_bd (b := F) (e := e1) (a := a)
    have h_25 : -2147483648 ≤ (F (nx F e1 a)) ∧ (F (nx F e1 a)) ≤ 2147483647 := by rw [← hF (nx F e1 a)]; exact ir_2 hJ (nx F e1 a)
    have h_26 := nx_n (b := F) (e := e1) (a := a)
    refine v_cv c_15_8 km_5_41 rfl rfl (Nat.le_of_ble_eq_true rfl) ⟨⟨rfl, rfl⟩, Nat.le_of_ble_eq_true rfl, rfl⟩ (Nat.le_of_ble_eq_true rfl) (Nat.le_of_ble_eq_true rfl) (f_3 (e1 := e1) (a9 := a) (B := F) (r8 := (nx F e1 a)) hJ2 ((hid kn_22)) ((hg_a)) (fun j => (hFm 2 j (qn_64622c99c hA)).trans (hF j)) rfl (fun c_27 hI_28 hF_29 hz_30 => (bk_inl (q_aload_n c_15_11 rfl ?_))))
    have kn_31 : Hid (c_27 1 1 = e1) := (hF_29 1 1 (fun h => absurd h.2 (ni rfl))).trans (hid kn_22)
    refine v_gi (z := 1) (v := e1) c_15_12 kf_5_32 rfl (Nat.le_of_ble_eq_true rfl) rfl rfl (hid kn_31) ?_
    by_cases h_32 : (nx F e1 a) ≥ e1
    · refine v_ic_ge_t (t := 22) c_15_15 rfl ⟨(Int.le_trans (by decide) (rg_eq hg_e1 h_1).1), h_32, by first | exact q_3eee304b2 h_2 h_24 ha hr_e1 | omega⟩ (q_iconst c_15_22 (v_zret c_15_23 rfl (by decide) (bk_inl (v_if_eq_t (t := 85) c_34_16 rfl (by decide) (q_vret rfl rfl ?_)))))
      intro hE_33
      have hW : Wd P Q P P c_27 = Wd P Q P P m9 := (Prod.mk.inj (Prod.mk.inj hE_33).2).1
      have kn_34 : Hid (c_27 1 4 = 0) := (hF_29 1 4 (fun h => absurd h.2 (ni rfl))).trans (hc_0)
      have h_35 := ir_1_4 hJ9
      have h_36 : m9 1 4 = 0 := wd_fv (z := 4) 4 rfl hW rfl rfl rfl rfl (by decide) (hid kn_34) ⟨by decide, by decide⟩ ⟨(Int.le_trans (by decide) h_35.1), (Int.le_trans h_35.2 (by decide))⟩
      have h_37 := ir_1_2 hJ9
      have h_38 : m9 1 2 = (nx F e1 a) := wd_fv (z := 2) 2 rfl hW rfl rfl rfl rfl (by decide) (hz_30) ⟨by first | exact q_378c2316e h_24 ha | omega, by first | exact q_3eee304b2 h_2 h_24 ha hr_e1 | omega⟩ ⟨(Int.le_trans (by decide) h_37.1), (Int.le_trans h_37.2 (by decide))⟩
      have kn_39 : Hid (c_27 1 5 = (-1)) := (hF_29 1 5 (fun h => absurd h.2 (ni rfl))).trans (hc_2)
      have h_40 := ir_1_5 hJ9
      have h_41 : m9 1 5 = (-1) := wd_fv (z := 5) 5 rfl hW rfl rfl rfl rfl (by decide) (hid kn_39) ⟨by decide, by decide⟩ ⟨(Int.le_trans (by decide) h_40.1), (Int.le_trans h_40.2 (by decide))⟩
      have kn_42 : Hid (c_27 A 0 = jr) := (hF_29 A 0 (fun h => absurd h.1 (np0 hA rfl))).trans (hg_jr)
      have h_43 := ir_p0_0 hJ9 hA
      have h_44 : m9 A 0 = jr := wd_fv (z := 0) 0 rfl hW (ck_p0 hA) (ck_p0 hA) rfl rfl (a68z hA) (hid kn_42) ⟨(Int.le_trans (by decide) hjr.1), (Int.le_trans hjr.2 (by decide))⟩ ⟨(Int.le_trans (by decide) h_43.1), (Int.le_trans h_43.2 (by decide))⟩
      have kn_45 : Hid (c_27 A 1 = st) := (hF_29 A 1 (fun h => absurd h.1 (np0 hA rfl))).trans (hg_st)
      have h_46 := ir_p0_1 hJ9 hA
      have h_47 : m9 A 1 = st := wd_fv (z := 1) 1 rfl hW (ck_p0 hA) (ck_p0 hA) rfl rfl (a68z hA) (hid kn_45) ⟨(Int.le_trans (by decide) hst.1), (Int.le_trans hst.2 (by decide))⟩ ⟨(Int.le_trans (by decide) h_46.1), (Int.le_trans h_46.2 (by decide))⟩
      have kn_48 : Hid (c_27 A 2 = si) := (hF_29 A 2 (fun h => absurd h.1 (np0 hA rfl))).trans (hg_si)
      have h_49 := ir_p0_2 hJ9 hA
      have h_50 : m9 A 2 = si := wd_fv (z := 2) 2 rfl hW (ck_p0 hA) (ck_p0 hA) rfl rfl (a68z hA) (hid kn_48) ⟨(Int.le_trans (by decide) hsi.1), (Int.le_trans hsi.2 (by decide))⟩ ⟨(Int.le_trans (by decide) h_49.1), (Int.le_trans h_49.2 (by decide))⟩
      have kn_51 : Hid (c_27 A 3 = du) := (hF_29 A 3 (fun h => absurd h.1 (np0 hA rfl))).trans (hg_du)
      have h_52 := ir_p0_3 hJ9 hA
      have h_53 : m9 A 3 = du := wd_fv (z := 3) 3 rfl hW (ck_p0 hA) (ck_p0 hA) rfl rfl (a68z hA) (hid kn_51) ⟨(Int.le_trans (by decide) hdu.1), (Int.le_trans hdu.2 (by decide))⟩ ⟨(Int.le_trans (by decide) h_52.1), (Int.le_trans h_52.2 (by decide))⟩
      refine q_aload_n c_169_44 rfl (v_cv c_169_45 km_8_131 rfl rfl (Nat.le_of_ble_eq_true rfl) ⟨⟨rfl, rfl⟩, Nat.le_of_ble_eq_true rfl, rfl⟩ (Nat.le_of_ble_eq_true rfl) (Nat.le_of_ble_eq_true rfl) (q_aload_n c_152_0 rfl (v_gi (z := 5) (v := (-1)) c_152_1 kf_8_102 rfl (Nat.le_of_ble_eq_true rfl) rfl rfl (hc_1) (q_iconst c_152_4 (v_ic_ne_f (t := 12) c_152_5 rfl (by decide) (q_iconst c_152_8 (q_goto (t := 13) c_152_9 rfl ?_)))))))
      refine v_zret c_152_13 rfl (by decide) (bk_inl (v_if_eq_f (t := 136) c_169_48 rfl (by decide) (q_aload_n c_169_51 rfl (v_cv c_169_52 km_8_211 rfl rfl (Nat.le_of_ble_eq_true rfl) ⟨⟨rfl, rfl⟩, Nat.le_of_ble_eq_true rfl, rfl⟩ (Nat.le_of_ble_eq_true rfl) (Nat.le_of_ble_eq_true rfl) (q_aload_n c_162_0 rfl ?_)))))
      have kn_54 : Hid (c2 41 3 = e1) := (hFc 41 3 qn_b860ee9cc).trans (hr_e1)
      have h_55 : -2147483648 ≤ (H (nx F e1 a)) ∧ (H (nx F e1 a)) ≤ 2147483647 := by rw [← hH (nx F e1 a)]; exact ir_43 hI (nx F e1 a)
      have h_56 : (nx F e1 a) < 600 → (H (nx F e1 a)) = (F (nx F e1 a)) % 256 ∧ -128 ≤ (F (nx F e1 a)) ∧ (F (nx F e1 a)) ≤ 127 := fun q => hU (nx F e1 a) (by omega) q
      have h_57 := hb_or (b := H) (e := e1) (r := (nx F e1 a))
      have h_58 := hb_bd (b := H) (e := e1) (r := (nx F e1 a)) (lo := -2147483648) (hi := 2147483647) h_55 (by decide)
      refine v_cv c_162_1 km_8_114 rfl rfl (Nat.le_of_ble_eq_true rfl) ⟨⟨rfl, rfl⟩, Nat.le_of_ble_eq_true rfl, rfl⟩ (Nat.le_of_ble_eq_true rfl) (Nat.le_of_ble_eq_true rfl) (f_154 (e1 := e1) (a9 := a) (B := H) (r8 := (nx F e1 a)) (r := (hb H e1 (nx F e1 a))) hI2 ((hid kn_54)) ((hr_a)) (fun j => (hFc 43 j qn_8f9b78528).trans (hH j)) ((nx_tr hU (ha.1) ((rg_eq hg_e1 h_1).2)).trans (rfl)) rfl (fun c_59 hI_60 hF_61 h_62 => (bk_inl (q_pop c_162_4 rfl (q_aload_n c_162_5 rfl (v_gi (z := 4) (v := (nx F e1 a)) c_162_6 kf_8_108 rfl (Nat.le_of_ble_eq_true rfl) rfl rfl (h_62) (q_aload_n c_162_9 rfl ?_)))))))
      have kn_63 : Hid (c_59 41 3 = e1) := (hF_61 41 3 (fun h => absurd h.2 (ni rfl))).trans (hid kn_54)
      refine v_gi (z := 3) (v := e1) c_162_10 kf_8_111 rfl (Nat.le_of_ble_eq_true rfl) rfl rfl (hid kn_63) (v_ic_ge_t (t := 20) c_162_13 rfl ⟨(Int.le_trans (by decide) (rg_eq hg_e1 h_1).1), by first | exact q_a29fbb6d7 h_32 | omega, by first | exact q_757c304f4 h_37 h_38 | omega⟩ (q_iconst c_162_20 (v_zret c_162_21 rfl (by decide) (bk_inl (v_if_eq_t (t := 136) c_169_55 rfl (by decide) (Wp_ls [(0, .ref 41), (1, vi a1)] (lsub_cons rfl (lsub_cons rfl lsub_nil)) ?_))))))
      have kn_64 : Hid (c_59 41 5 = (-1)) := (hF_61 41 5 (fun h => absurd h.2 (ni rfl))).trans (hc_1)
      have h_65 : c_59 41 5 = (-1) := (hid kn_64)
      have h_66 : c_59 41 4 = (nx F e1 a) := (h_62)
      have h_67 := ir_41_6 hI2
      have kn_68 : Hid (c_59 41 6 = c2 41 6) := hF_61 41 6 (fun h => absurd h.2 (ni rfl))
      have h_69 : c_59 41 6 = c2 41 6 := (hid kn_68)
      have kn_70 : Hid (c_59 41 16 = jr) := (hF_61 41 16 (fun h => absurd h.2 (ni rfl))).trans (hr_jr)
      have h_71 : c_59 41 16 = jr := (hid kn_70)
      have kn_72 : Hid (c_59 41 17 = st) := (hF_61 41 17 (fun h => absurd h.2 (ni rfl))).trans (hr_st)
      have h_73 : c_59 41 17 = st := (hid kn_72)
      have kn_74 : Hid (c_59 41 18 = si) := (hF_61 41 18 (fun h => absurd h.2 (ni rfl))).trans (hr_si)
      have h_75 : c_59 41 18 = si := (hid kn_74)
      have kn_76 : Hid (c_59 41 19 = du) := (hF_61 41 19 (fun h => absurd h.2 (ni rfl))).trans (hr_du)
      have h_77 : c_59 41 19 = du := (hid kn_76)
      exact K c_59  hI_60 (fun a j hm => (hF_61 a j (fun h => hm (Or.inl h))).trans (hFc a j hm)) (rt_i1 ⟨by first | exact q_f6b658f58 h_35 h_36 | omega, by first | assumption | omega, by first | exact q_88dc5fb99 h_38 | omega, by first | exact q_f39655ca6 h_40 h_41 | omega⟩) (Or.inr (Or.inr ⟨by first | exact q_d8da297ae h_44 | omega, by first | exact q_d8da297ae h_47 | omega, by first | exact q_d8da297ae h_50 | omega, by first | exact q_d8da297ae h_53 | omega⟩))
    · refine v_ic_ge_f (t := 22) c_15_15 rfl ⟨by first | exact q_378c2316e h_24 ha | omega, (Int.not_le.mp h_32), (Int.le_trans (rg_eq hg_e1 h_1).2 (by decide))⟩ (q_iconst c_15_18 (q_goto (t := 23) c_15_19 rfl (v_zret c_15_23 rfl (by decide) (bk_inl (v_if_eq_f (t := 85) c_34_16 rfl (by decide) (q_aload_n c_34_19 rfl (v_cv c_34_20 km_2_50 rfl rfl (Nat.le_of_ble_eq_true rfl) ⟨⟨rfl, rfl⟩, Nat.le_of_ble_eq_true rfl, rfl⟩ (Nat.le_of_ble_eq_true rfl) (Nat.le_of_ble_eq_true rfl) (f_3 (e1 := e1) (a9 := (nx F e1 a)) (B := F) (r8 := (nx F e1 a)) hI_28 ((hid kn_31)) ((hz_30)) (fun j => ((hF_29 2 j (fun h => absurd h.1 (nn rfl))).trans (hFm 2 j (qn_64622c99c hA))).trans (hF j)) (nx_z (Or.inr (by first | exact q_b1e7f72d7 h_26 h_32 | omega))) (fun c_78 hI_79 hF_80 hz_81 => ?_)))))))))
      refine bk_inl (q_istore_n c_34_23 (Nat.le_of_ble_eq_true rfl) (q_aload_n c_34_24 rfl (q_ldc_s c_34_25 rfl rfl (by decide) ?_)))
      have kn_82 : Hid (c_78 1 1 = e1) := (hF_80 1 1 (fun h => absurd h.2 (ni rfl))).trans (hid kn_31)
      have kn_83 : Hid (c_27 1 4 = 0) := (hF_29 1 4 (fun h => absurd h.2 (ni rfl))).trans (hc_0)
      have kn_84 : Hid (c_78 1 4 = 0) := (hF_80 1 4 (fun h => absurd h.2 (ni rfl))).trans (hid kn_83)
      have kn_85 : Hid (c_27 1 5 = (-1)) := (hF_29 1 5 (fun h => absurd h.2 (ni rfl))).trans (hc_2)
      have kn_86 : Hid (c_78 1 5 = (-1)) := (hF_80 1 5 (fun h => absurd h.2 (ni rfl))).trans (hid kn_85)
      have h_87 := ln_be (b := F) (e := e1) (a := (nx F e1 a)) (by first | exact q_5fcb01701 h_32 | omega)
      refine v_cv c_34_27 km_2_56 rfl rfl (Nat.le_of_ble_eq_true rfl) ⟨⟨rfl, rfl⟩, Nat.le_of_ble_eq_true rfl, rfl⟩ (Nat.le_of_ble_eq_true rfl) (Nat.le_of_ble_eq_true rfl) (f_10_8 (e1 := e1) (a9 := (nx F e1 a)) (f9 := 0) (p9 := (-1)) (B := F) (r8 := (nx F e1 a)) (L8 := (ln F e1 (nx F e1 a))) (W8 := (wd8_0 F (nx F e1 a) (ln F e1 (nx F e1 a)))) hI_79 ((hid kn_82)) ((hz_81)) ((hid kn_84)) ((hid kn_86)) (fun j => ((hF_80 2 j (fun h => absurd h.1 (nn rfl))).trans ((hF_29 2 j (fun h => absurd h.1 (nn rfl))).trans (hFm 2 j (qn_64622c99c hA)))).trans (hF j)) (nx_z (Or.inr (by first | exact q_b1e7f72d7 h_26 h_32 | omega))) rfl rfl (fun c_88 hI_89 hF_90 h_91 hz_92 hz_93 hz_94 => by exfalso; first | (clear ha1 hq0 hq1 hq2 hq3 hq4 hq5 hv ha hjr hst hsi hdu h_1 hg_e1 h_2 hr_e1 h_3 hg_f0 h_4 hg_g0 h_5 hr_z0 h_6 hr_z1 h_7 hr_z2 h_8 hr_z3 h_9 hg_a h_10 hr_a h_11 hg_jr h_12 hr_jr h_13 hg_st h_14 hr_st h_15 hg_si h_16 hr_si h_17 hg_du h_18 hr_du h_19 hc_0 h_20 hc_1 h_21 hc_2 h_23 h_24 h_25 h_32 h_87 h_26; omega) | omega) (fun c_95 hI_96 hF_97 h_98 h_99 hz_100 hz_101 hz_102 => ?_) (fun c_103 hI_104 hF_105 h_106 h_107 hz_108 hz_109 hz_110 => ?_))
      · as_aux_lemma =>
          skip
          refine bk_inl (q_istore c_34_30 (Nat.le_of_ble_eq_true rfl) (q_iload c_34_32 rfl (q_iconst c_34_34 (v_ic_eq_t (t := 59) c_34_35 rfl (by decide) (q_aload_n c_34_59 rfl (v_cv c_34_60 km_2_68 rfl rfl (Nat.le_of_ble_eq_true rfl) ⟨⟨rfl, rfl⟩, Nat.le_of_ble_eq_true rfl, rfl⟩ (Nat.le_of_ble_eq_true rfl) (Nat.le_of_ble_eq_true rfl) (q_aload_n c_2_0 rfl ?_)))))))
          refine v_gi (z := 4) (v := 1) c_2_1 kf_5_38 rfl (Nat.le_of_ble_eq_true rfl) rfl rfl (hz_101) (v_if_ne_t (t := 11) c_2_4 rfl (by decide) (q_iconst c_2_11 (v_zret c_2_12 rfl (by decide) (bk_inl (v_if_eq_t (t := 73) c_34_63 rfl (by decide) (q_aload_n c_34_73 rfl (q_ldc_s c_34_74 rfl rfl (by decide) ?_)))))))
          refine v_cv c_34_76 km_2_77 rfl rfl (Nat.le_of_ble_eq_true rfl) ⟨⟨rfl, rfl⟩, Nat.le_of_ble_eq_true rfl, rfl⟩ (Nat.le_of_ble_eq_true rfl) (Nat.le_of_ble_eq_true rfl) (q_aload_n c_11_0 rfl (v_cv c_11_1 km_5_45 rfl rfl (Nat.le_of_ble_eq_true rfl) ⟨⟨rfl, rfl⟩, Nat.le_of_ble_eq_true rfl, rfl⟩ (Nat.le_of_ble_eq_true rfl) (Nat.le_of_ble_eq_true rfl) (q_aload_n c_2_0 rfl (v_gi (z := 4) (v := 1) c_2_1 kf_5_38 rfl (Nat.le_of_ble_eq_true rfl) rfl rfl (hz_101) (v_if_ne_t (t := 11) c_2_4 rfl (by decide) (q_iconst c_2_11 (v_zret c_2_12 rfl (by decide) ?_)))))))
          refine bk_inl (v_if_eq_t (t := 25) c_11_4 rfl (by decide) (q_vret rfl rfl (bk_inl (v_iinc (v := v + 1) c_34_79 rfl (Nat.le_of_ble_eq_true rfl) rfl (q_goto (t := 6) c_34_82 rfl (q_iload_n c_34_6 rfl (v_bip c_34_7 (by decide) ?_)))))))
          by_cases h_111 : v + 1 > 60
          · refine v_ic_gt_t (t := 85) c_34_9 rfl ⟨by decide, h_111, by first | exact rgp_h hv.2 (by decide) | omega⟩ (q_vret rfl rfl ?_)
            intro hE_112
            have hW : Wd P Q P P c_95 = Wd P Q P P m9 := (Prod.mk.inj (Prod.mk.inj hE_112).2).1
            have h_113 := ir_1_4 hJ9
            have h_114 : m9 1 4 = 1 := wd_fv (z := 4) 4 rfl hW rfl rfl rfl rfl (by decide) (hz_101) ⟨by decide, by decide⟩ ⟨(Int.le_trans (by decide) h_113.1), (Int.le_trans h_113.2 (by decide))⟩
            have h_115 := ir_1_2 hJ9
            have h_116 : m9 1 2 = (nx F e1 a) := wd_fv (z := 2) 2 rfl hW rfl rfl rfl rfl (by decide) (hz_100) ⟨by first | exact q_378c2316e h_24 ha | omega, by first | exact q_f47c0b92d h_2 h_32 hr_e1 | omega⟩ ⟨(Int.le_trans (by decide) h_115.1), (Int.le_trans h_115.2 (by decide))⟩
            have h_117 := ir_1_5 hJ9
            have h_118 : m9 1 5 = (nx F e1 a) := wd_fv (z := 5) 5 rfl hW rfl rfl rfl rfl (by decide) (hz_102) ⟨by first | exact q_17990f574 h_115 h_116 | omega, by first | exact q_757c304f4 h_115 h_116 | omega⟩ ⟨(Int.le_trans (by decide) h_117.1), (Int.le_trans h_117.2 (by decide))⟩
            have kn_119 : Hid (c_27 A 0 = jr) := (hF_29 A 0 (fun h => absurd h.1 (np0 hA rfl))).trans (hg_jr)
            have kn_120 : Hid (c_78 A 0 = jr) := (hF_80 A 0 (fun h => absurd h.1 (np0 hA rfl))).trans (hid kn_119)
            have kn_121 : Hid (c_95 A 0 = jr) := (hF_97 A 0 (qn_014d425e1 hA)).trans (hid kn_120)
            have h_122 := ir_p0_0 hJ9 hA
            have h_123 : m9 A 0 = jr := wd_fv (z := 0) 0 rfl hW (ck_p0 hA) (ck_p0 hA) rfl rfl (a68z hA) (hid kn_121) ⟨(Int.le_trans (by decide) hjr.1), (Int.le_trans hjr.2 (by decide))⟩ ⟨(Int.le_trans (by decide) h_122.1), (Int.le_trans h_122.2 (by decide))⟩
            have kn_124 : Hid (c_27 A 1 = st) := (hF_29 A 1 (fun h => absurd h.1 (np0 hA rfl))).trans (hg_st)
            have kn_125 : Hid (c_78 A 1 = st) := (hF_80 A 1 (fun h => absurd h.1 (np0 hA rfl))).trans (hid kn_124)
            have kn_126 : Hid (c_95 A 1 = st) := (hF_97 A 1 (qn_014d425e1 hA)).trans (hid kn_125)
            have h_127 := ir_p0_1 hJ9 hA
            have h_128 : m9 A 1 = st := wd_fv (z := 1) 1 rfl hW (ck_p0 hA) (ck_p0 hA) rfl rfl (a68z hA) (hid kn_126) ⟨(Int.le_trans (by decide) hst.1), (Int.le_trans hst.2 (by decide))⟩ ⟨(Int.le_trans (by decide) h_127.1), (Int.le_trans h_127.2 (by decide))⟩
            have kn_129 : Hid (c_27 A 2 = si) := (hF_29 A 2 (fun h => absurd h.1 (np0 hA rfl))).trans (hg_si)
            have kn_130 : Hid (c_78 A 2 = si) := (hF_80 A 2 (fun h => absurd h.1 (np0 hA rfl))).trans (hid kn_129)
            have kn_131 : Hid (c_95 A 2 = si) := (hF_97 A 2 (qn_014d425e1 hA)).trans (hid kn_130)
            have h_132 := ir_p0_2 hJ9 hA
            have h_133 : m9 A 2 = si := wd_fv (z := 2) 2 rfl hW (ck_p0 hA) (ck_p0 hA) rfl rfl (a68z hA) (hid kn_131) ⟨(Int.le_trans (by decide) hsi.1), (Int.le_trans hsi.2 (by decide))⟩ ⟨(Int.le_trans (by decide) h_132.1), (Int.le_trans h_132.2 (by decide))⟩
            have kn_134 : Hid (c_27 A 3 = du) := (hF_29 A 3 (fun h => absurd h.1 (np0 hA rfl))).trans (hg_du)
            have kn_135 : Hid (c_78 A 3 = du) := (hF_80 A 3 (fun h => absurd h.1 (np0 hA rfl))).trans (hid kn_134)
            have kn_136 : Hid (c_95 A 3 = du) := (hF_97 A 3 (qn_014d425e1 hA)).trans (hid kn_135)
            have h_137 := ir_p0_3 hJ9 hA
            have h_138 : m9 A 3 = du := wd_fv (z := 3) 3 rfl hW (ck_p0 hA) (ck_p0 hA) rfl rfl (a68z hA) (hid kn_136) ⟨(Int.le_trans (by decide) hdu.1), (Int.le_trans hdu.2 (by decide))⟩ ⟨(Int.le_trans (by decide) h_137.1), (Int.le_trans h_137.2 (by decide))⟩
            refine q_aload_n c_169_44 rfl (v_cv c_169_45 km_8_131 rfl rfl (Nat.le_of_ble_eq_true rfl) ⟨⟨rfl, rfl⟩, Nat.le_of_ble_eq_true rfl, rfl⟩ (Nat.le_of_ble_eq_true rfl) (Nat.le_of_ble_eq_true rfl) (q_aload_n c_152_0 rfl (v_gi (z := 5) (v := (-1)) c_152_1 kf_8_102 rfl (Nat.le_of_ble_eq_true rfl) rfl rfl (hc_1) (q_iconst c_152_4 (v_ic_ne_f (t := 12) c_152_5 rfl (by decide) (q_iconst c_152_8 (q_goto (t := 13) c_152_9 rfl ?_)))))))
            refine v_zret c_152_13 rfl (by decide) (bk_inl (v_if_eq_f (t := 136) c_169_48 rfl (by decide) (q_aload_n c_169_51 rfl (v_cv c_169_52 km_8_211 rfl rfl (Nat.le_of_ble_eq_true rfl) ⟨⟨rfl, rfl⟩, Nat.le_of_ble_eq_true rfl, rfl⟩ (Nat.le_of_ble_eq_true rfl) (Nat.le_of_ble_eq_true rfl) (q_aload_n c_162_0 rfl ?_)))))
            have kn_139 : Hid (c2 41 3 = e1) := (hFc 41 3 qn_b860ee9cc).trans (hr_e1)
            have h_140 : -2147483648 ≤ (H (nx F e1 a)) ∧ (H (nx F e1 a)) ≤ 2147483647 := by rw [← hH (nx F e1 a)]; exact ir_43 hI (nx F e1 a)
            have h_141 := hU (nx F e1 a) (by first | exact q_a7eda21a5 h_24 ha | omega) (by first | exact q_6c5402073 h_1 h_32 hg_e1 | omega)
            have h_142 := hb_or (b := H) (e := e1) (r := (nx F e1 a))
            have h_143 := hb_bd (b := H) (e := e1) (r := (nx F e1 a)) (lo := -2147483648) (hi := 2147483647) h_140 (by decide)
            refine v_cv c_162_1 km_8_114 rfl rfl (Nat.le_of_ble_eq_true rfl) ⟨⟨rfl, rfl⟩, Nat.le_of_ble_eq_true rfl, rfl⟩ (Nat.le_of_ble_eq_true rfl) (Nat.le_of_ble_eq_true rfl) (f_154 (e1 := e1) (a9 := a) (B := H) (r8 := (nx F e1 a)) (r := (hb H e1 (nx F e1 a))) hI2 ((hid kn_139)) ((hr_a)) (fun j => (hFc 43 j qn_8f9b78528).trans (hH j)) ((nx_tr hU (ha.1) ((rg_eq hg_e1 h_1).2)).trans (rfl)) rfl (fun c_144 hI_145 hF_146 h_147 => (bk_inl (q_pop c_162_4 rfl (q_aload_n c_162_5 rfl (v_gi (z := 4) (v := (nx F e1 a)) c_162_6 kf_8_108 rfl (Nat.le_of_ble_eq_true rfl) rfl rfl (h_147) (q_aload_n c_162_9 rfl ?_)))))))
            have kn_148 : Hid (c_144 41 3 = e1) := (hF_146 41 3 (fun h => absurd h.2 (ni rfl))).trans (hid kn_139)
            refine v_gi (z := 3) (v := e1) c_162_10 kf_8_111 rfl (Nat.le_of_ble_eq_true rfl) rfl rfl (hid kn_148) (v_ic_ge_f (t := 20) c_162_13 rfl ⟨by first | exact q_17990f574 h_115 h_116 | omega, by first | exact q_d17d18138 h_32 | omega, (Int.le_trans (rg_eq hg_e1 h_1).2 (by decide))⟩ (q_iconst c_162_16 (q_goto (t := 21) c_162_17 rfl (v_zret c_162_21 rfl (by decide) (bk_inl (v_if_eq_f (t := 136) c_169_55 rfl (by decide) (q_aload_n c_169_58 rfl ?_)))))))
            have h_149 := wv_bd (b := F) (r := (nx F e1 a)) (l := (ln F e1 (nx F e1 a))) (fun j h1 h2 => ⟨(ln_in (e := e1) (a := (nx F e1 a)) h1 h2).1, (ln_in (e := e1) (a := (nx F e1 a)) h1 h2).2.1⟩)
            have hw_150 : Hid (¬ wv F (nx F e1 a) (ln F e1 (nx F e1 a)) = 10290 ∧ ¬ wv F (nx F e1 a) (ln F e1 (nx F e1 a)) = 20594117 ∧ ¬ wv F (nx F e1 a) (ln F e1 (nx F e1 a)) = 20223685 ∧ ¬ wv F (nx F e1 a) (ln F e1 (nx F e1 a)) = 153204) := wr8_4 (b := F) (r := (nx F e1 a)) (l := (ln F e1 (nx F e1 a))) (by omega) (fun j h1 h2 => ⟨(ln_in (e := e1) (a := (nx F e1 a)) h1 h2).1, (ln_in (e := e1) (a := (nx F e1 a)) h1 h2).2.1⟩) (by omega)
            refine v_cv c_169_59 km_8_214 rfl rfl (Nat.le_of_ble_eq_true rfl) ⟨⟨rfl, rfl⟩, Nat.le_of_ble_eq_true rfl, rfl⟩ (Nat.le_of_ble_eq_true rfl) (Nat.le_of_ble_eq_true rfl) (f_157 (e1 := e1) (a9 := (nx F e1 a)) (B := H) (r8 := (nx F e1 a)) (L8 := (ln F e1 (nx F e1 a))) (W8 := (wv F (nx F e1 a) (ln F e1 (nx F e1 a)))) hI_145 ((hid kn_148)) ((h_147)) (fun j => ((hF_146 43 j (fun h => absurd h.1 (nn rfl))).trans (hFc 43 j qn_8f9b78528)).trans (hH j)) ((nx_tr hU (by first | exact q_a7eda21a5 h_24 ha | omega) ((rg_eq hg_e1 h_1).2)).trans ((nx_z (Or.inr (by first | exact q_b1e7f72d7 h_26 h_32 | omega))))) ((ln_tr hU (by first | exact q_a7eda21a5 h_24 ha | omega) ((rg_eq hg_e1 h_1).2)).trans (rfl)) ((wv_tr hU (by first | exact q_a7eda21a5 h_24 ha | omega) (by first | exact q_296ae6bb2 h_2 h_87 hr_e1 | omega) (fun j h1 h2 => ⟨(ln_in (e := e1) (a := (nx F e1 a)) h1 h2).1, (ln_in (e := e1) (a := (nx F e1 a)) h1 h2).2.1⟩)).trans (rfl)) (fun c_151 hI_152 hF_153 hz_154 => (bk_inl (q_istore_n c_169_62 (Nat.le_of_ble_eq_true rfl) (q_iload_n c_169_63 rfl (q_call c_169_64 rfl rfl rfl (q_iload_n c_166_0 rfl (q_ldc_s c_166_1 rfl rfl (by decide) (q_call c_166_3 rfl rfl rfl (s_158_16 ?_))))))))))
            refine bk_inl (v_ic_eq_f (t := 36) c_166_6 rfl ⟨(hid hw_150).1, ⟨(Int.le_trans (by decide) h_149.1), (Int.le_trans h_149.2 (by decide))⟩, by decide, by decide⟩ (q_iload_n c_166_9 rfl (q_ldc_s c_166_10 rfl rfl (by decide) (q_call c_166_12 rfl rfl rfl (s_158_17 (bk_inl (v_ic_eq_f (t := 36) c_166_15 rfl ⟨(hid hw_150).2.1, ⟨(Int.le_trans (by decide) h_149.1), (Int.le_trans h_149.2 (by decide))⟩, by decide, by decide⟩ (q_iload_n c_166_18 rfl ?_))))))))
            refine q_ldc_s c_166_19 rfl rfl (by decide) (q_call c_166_21 rfl rfl rfl (s_158_18 (bk_inl (v_ic_eq_f (t := 36) c_166_24 rfl ⟨(hid hw_150).2.2.1, ⟨(Int.le_trans (by decide) h_149.1), (Int.le_trans h_149.2 (by decide))⟩, by decide, by decide⟩ (q_iload_n c_166_27 rfl (q_ldc_s c_166_28 rfl rfl (by decide) (q_call c_166_30 rfl rfl rfl (s_158_19 (bk_inl ?_)))))))))
            refine v_ic_ne_t (t := 40) c_166_33 rfl ⟨(hid hw_150).2.2.2, ⟨(Int.le_trans (by decide) h_149.1), (Int.le_trans h_149.2 (by decide))⟩, by decide, by decide⟩ (q_iconst c_166_40 (v_zret c_166_41 rfl (by decide) (bk_inl (v_if_ne_f (t := 82) c_169_67 rfl (by decide) (q_aload_n c_169_70 rfl (q_iconst c_169_71 (q_aload_n c_169_72 rfl ?_)))))))
            refine v_gi (z := 4) (v := (nx F e1 a)) c_169_73 kf_8_108 rfl (Nat.le_of_ble_eq_true rfl) rfl rfl (hz_154) (v_cv c_169_76 km_8_138 rfl rfl (Nat.le_of_ble_eq_true rfl) ⟨⟨rfl, rfl⟩, Nat.le_of_ble_eq_true rfl, rfl⟩ (Nat.le_of_ble_eq_true rfl) (Nat.le_of_ble_eq_true rfl) (q_aload_n c_153_0 rfl ?_))
            have kn_155 : Hid (c_144 41 5 = (-1)) := (hF_146 41 5 (fun h => absurd h.2 (ni rfl))).trans (hc_1)
            have kn_156 : Hid (c_151 41 5 = (-1)) := (hF_153 41 5 (fun h => absurd h.2 (ni rfl))).trans (hid kn_155)
            refine v_gi (z := 5) (v := (-1)) c_153_1 kf_8_102 rfl (Nat.le_of_ble_eq_true rfl) rfl rfl (hid kn_156) (q_iconst c_153_4 (v_ic_eq_t (t := 9) c_153_5 rfl (by decide) (q_aload_n c_153_9 rfl (q_iload_n c_153_10 rfl (v_pi (z := 5) c_153_11 kf_8_102 rfl (Nat.le_of_ble_eq_true rfl) rfl rfl rfl (by decide) (q_aload_n c_153_14 rfl (q_iload_n c_153_15 rfl ?_)))))))
            refine v_pi (z := 6) c_153_16 kf_8_105 rfl (Nat.le_of_ble_eq_true rfl) rfl rfl rfl (by decide) (q_vret rfl rfl (bk_inl (q_goto (t := 105) c_169_79 rfl (q_aload_n c_169_105 rfl (v_cv c_169_106 km_8_131 rfl rfl (Nat.le_of_ble_eq_true rfl) ⟨⟨rfl, rfl⟩, Nat.le_of_ble_eq_true rfl, rfl⟩ (Nat.le_of_ble_eq_true rfl) (Nat.le_of_ble_eq_true rfl) (q_aload_n c_152_0 rfl (v_gi (z := 5) (v := (nx F e1 a)) c_152_1 kf_8_102 rfl (Nat.le_of_ble_eq_true rfl) rfl rfl ((up_n (by decide)).trans (up_e rfl)) ?_)))))))
            refine q_iconst c_152_4 (v_ic_ne_t (t := 12) c_152_5 rfl ⟨by first | exact q_90762221b h_115 h_116 | omega, ⟨by first | exact q_17990f574 h_115 h_116 | omega, by first | exact q_757c304f4 h_115 h_116 | omega⟩, by decide, by decide⟩ (q_iconst c_152_12 (v_zret c_152_13 rfl (by decide) (bk_inl (v_if_ne_f (t := 115) c_169_109 rfl (by decide) (q_goto (t := 136) c_169_112 rfl (Wp_ls [(0, .ref 41), (1, vi a1)] (lsub_cons rfl (lsub_cons rfl lsub_nil)) ?_)))))))
            have hI_157 := iw_41_5 (v := (nx F e1 a)) hI_152 ⟨by first | exact q_5ce231cbd h_115 h_116 | omega, by first | exact q_6094bb0fa h_117 h_118 | omega⟩
            have hI_158 := iw_41_6 (v := 1) hI_157 ⟨by decide, by decide⟩
            have h_159 : (up (up c_151 41 5 (nx F e1 a)) 41 6 1) 41 5 = (nx F e1 a) := ((up_n (by decide)).trans (up_e rfl))
            have h_160 : (up (up c_151 41 5 (nx F e1 a)) 41 6 1) 41 4 = (nx F e1 a) := ((up_n (by decide)).trans ((up_n (by decide)).trans (hz_154)))
            have h_161 : (up (up c_151 41 5 (nx F e1 a)) 41 6 1) 41 6 = 1 := (up_e rfl)
            have kn_162 : Hid (c_144 41 16 = jr) := (hF_146 41 16 (fun h => absurd h.2 (ni rfl))).trans (hr_jr)
            have kn_163 : Hid (c_151 41 16 = jr) := (hF_153 41 16 (fun h => absurd h.2 (ni rfl))).trans (hid kn_162)
            have h_164 : (up (up c_151 41 5 (nx F e1 a)) 41 6 1) 41 16 = jr := ((up_n (by decide)).trans ((up_n (by decide)).trans (hid kn_163)))
            have kn_165 : Hid (c_144 41 17 = st) := (hF_146 41 17 (fun h => absurd h.2 (ni rfl))).trans (hr_st)
            have kn_166 : Hid (c_151 41 17 = st) := (hF_153 41 17 (fun h => absurd h.2 (ni rfl))).trans (hid kn_165)
            have h_167 : (up (up c_151 41 5 (nx F e1 a)) 41 6 1) 41 17 = st := ((up_n (by decide)).trans ((up_n (by decide)).trans (hid kn_166)))
            have kn_168 : Hid (c_144 41 18 = si) := (hF_146 41 18 (fun h => absurd h.2 (ni rfl))).trans (hr_si)
            have kn_169 : Hid (c_151 41 18 = si) := (hF_153 41 18 (fun h => absurd h.2 (ni rfl))).trans (hid kn_168)
            have h_170 : (up (up c_151 41 5 (nx F e1 a)) 41 6 1) 41 18 = si := ((up_n (by decide)).trans ((up_n (by decide)).trans (hid kn_169)))
            have kn_171 : Hid (c_144 41 19 = du) := (hF_146 41 19 (fun h => absurd h.2 (ni rfl))).trans (hr_du)
            have kn_172 : Hid (c_151 41 19 = du) := (hF_153 41 19 (fun h => absurd h.2 (ni rfl))).trans (hid kn_171)
            have h_173 : (up (up c_151 41 5 (nx F e1 a)) 41 6 1) 41 19 = du := ((up_n (by decide)).trans ((up_n (by decide)).trans (hid kn_172)))
            exact K (up (up c_151 41 5 (nx F e1 a)) 41 6 1)  hI_158 (fun a j hm => (up_b (Decidable.or_iff_not_imp_left.mpr (fun h1 h2 => hm (Or.inr (Or.inr (Or.inl ⟨Decidable.not_not.mp h1, h2⟩)))))).trans ((up_b (Decidable.or_iff_not_imp_left.mpr (fun h1 h2 => hm (Or.inr (Or.inl ⟨Decidable.not_not.mp h1, h2⟩))))).trans ((hF_153 a j (fun h => hm (Or.inl h))).trans ((hF_146 a j (fun h => hm (Or.inl h))).trans (hFc a j hm))))) (rt_i2 ⟨⟨by first | exact q_5935f82f1 h_114 | omega, by first | exact q_63461c6bf h_114 | omega⟩, by first | exact q_88dc5fb99 h_118 | omega, by first | exact q_7bcc067ca h_118 h_24 ha | omega, by first | exact q_69efb464e h_114 | omega⟩) (Or.inr (Or.inl (by first | exact q_e2d2b4ae2 h_114 | omega)))
          · refine v_ic_gt_f (t := 85) c_34_9 rfl ⟨by first | exact rgp_l hv.1 (by decide) | omega, (Int.not_lt.mp h_111), by decide⟩ (q_aload_n c_34_12 rfl (v_cv c_34_13 km_2_44 rfl rfl (Nat.le_of_ble_eq_true rfl) ⟨⟨rfl, rfl⟩, Nat.le_of_ble_eq_true rfl, rfl⟩ (Nat.le_of_ble_eq_true rfl) (Nat.le_of_ble_eq_true rfl) (q_aload_n c_15_0 rfl (v_cv c_15_1 km_5_45 rfl rfl (Nat.le_of_ble_eq_true rfl) ⟨⟨rfl, rfl⟩, Nat.le_of_ble_eq_true rfl, rfl⟩ (Nat.le_of_ble_eq_true rfl) (Nat.le_of_ble_eq_true rfl) (q_aload_n c_2_0 rfl (v_gi (z := 4) (v := 1) c_2_1 kf_5_38 rfl (Nat.le_of_ble_eq_true rfl) rfl rfl (hz_101) (v_if_ne_t (t := 11) c_2_4 rfl (by decide) ?_)))))))
            refine q_iconst c_2_11 (v_zret c_2_12 rfl (by decide) (bk_inl (v_if_eq_t (t := 22) c_15_4 rfl (by decide) (q_iconst c_15_22 (v_zret c_15_23 rfl (by decide) (bk_inl (v_if_eq_t (t := 85) c_34_16 rfl (by decide) ?_)))))))
            refine q_vret rfl rfl ?_
            intro hE_174
            have hW : Wd P Q P P c_95 = Wd P Q P P m9 := (Prod.mk.inj (Prod.mk.inj hE_174).2).1
            have h_175 := ir_1_4 hJ9
            have h_176 : m9 1 4 = 1 := wd_fv (z := 4) 4 rfl hW rfl rfl rfl rfl (by decide) (hz_101) ⟨by decide, by decide⟩ ⟨(Int.le_trans (by decide) h_175.1), (Int.le_trans h_175.2 (by decide))⟩
            have h_177 := ir_1_2 hJ9
            have h_178 : m9 1 2 = (nx F e1 a) := wd_fv (z := 2) 2 rfl hW rfl rfl rfl rfl (by decide) (hz_100) ⟨by first | exact q_378c2316e h_24 ha | omega, by first | exact q_f47c0b92d h_2 h_32 hr_e1 | omega⟩ ⟨(Int.le_trans (by decide) h_177.1), (Int.le_trans h_177.2 (by decide))⟩
            have h_179 := ir_1_5 hJ9
            have h_180 : m9 1 5 = (nx F e1 a) := wd_fv (z := 5) 5 rfl hW rfl rfl rfl rfl (by decide) (hz_102) ⟨by first | exact q_17990f574 h_177 h_178 | omega, by first | exact q_757c304f4 h_177 h_178 | omega⟩ ⟨(Int.le_trans (by decide) h_179.1), (Int.le_trans h_179.2 (by decide))⟩
            have kn_181 : Hid (c_27 A 0 = jr) := (hF_29 A 0 (fun h => absurd h.1 (np0 hA rfl))).trans (hg_jr)
            have kn_182 : Hid (c_78 A 0 = jr) := (hF_80 A 0 (fun h => absurd h.1 (np0 hA rfl))).trans (hid kn_181)
            have kn_183 : Hid (c_95 A 0 = jr) := (hF_97 A 0 (qn_014d425e1 hA)).trans (hid kn_182)
            have h_184 := ir_p0_0 hJ9 hA
            have h_185 : m9 A 0 = jr := wd_fv (z := 0) 0 rfl hW (ck_p0 hA) (ck_p0 hA) rfl rfl (a68z hA) (hid kn_183) ⟨(Int.le_trans (by decide) hjr.1), (Int.le_trans hjr.2 (by decide))⟩ ⟨(Int.le_trans (by decide) h_184.1), (Int.le_trans h_184.2 (by decide))⟩
            have kn_186 : Hid (c_27 A 1 = st) := (hF_29 A 1 (fun h => absurd h.1 (np0 hA rfl))).trans (hg_st)
            have kn_187 : Hid (c_78 A 1 = st) := (hF_80 A 1 (fun h => absurd h.1 (np0 hA rfl))).trans (hid kn_186)
            have kn_188 : Hid (c_95 A 1 = st) := (hF_97 A 1 (qn_014d425e1 hA)).trans (hid kn_187)
            have h_189 := ir_p0_1 hJ9 hA
            have h_190 : m9 A 1 = st := wd_fv (z := 1) 1 rfl hW (ck_p0 hA) (ck_p0 hA) rfl rfl (a68z hA) (hid kn_188) ⟨(Int.le_trans (by decide) hst.1), (Int.le_trans hst.2 (by decide))⟩ ⟨(Int.le_trans (by decide) h_189.1), (Int.le_trans h_189.2 (by decide))⟩
            have kn_191 : Hid (c_27 A 2 = si) := (hF_29 A 2 (fun h => absurd h.1 (np0 hA rfl))).trans (hg_si)
            have kn_192 : Hid (c_78 A 2 = si) := (hF_80 A 2 (fun h => absurd h.1 (np0 hA rfl))).trans (hid kn_191)
            have kn_193 : Hid (c_95 A 2 = si) := (hF_97 A 2 (qn_014d425e1 hA)).trans (hid kn_192)
            have h_194 := ir_p0_2 hJ9 hA
            have h_195 : m9 A 2 = si := wd_fv (z := 2) 2 rfl hW (ck_p0 hA) (ck_p0 hA) rfl rfl (a68z hA) (hid kn_193) ⟨(Int.le_trans (by decide) hsi.1), (Int.le_trans hsi.2 (by decide))⟩ ⟨(Int.le_trans (by decide) h_194.1), (Int.le_trans h_194.2 (by decide))⟩
            have kn_196 : Hid (c_27 A 3 = du) := (hF_29 A 3 (fun h => absurd h.1 (np0 hA rfl))).trans (hg_du)
            have kn_197 : Hid (c_78 A 3 = du) := (hF_80 A 3 (fun h => absurd h.1 (np0 hA rfl))).trans (hid kn_196)
            have kn_198 : Hid (c_95 A 3 = du) := (hF_97 A 3 (qn_014d425e1 hA)).trans (hid kn_197)
            have h_199 := ir_p0_3 hJ9 hA
            have h_200 : m9 A 3 = du := wd_fv (z := 3) 3 rfl hW (ck_p0 hA) (ck_p0 hA) rfl rfl (a68z hA) (hid kn_198) ⟨(Int.le_trans (by decide) hdu.1), (Int.le_trans hdu.2 (by decide))⟩ ⟨(Int.le_trans (by decide) h_199.1), (Int.le_trans h_199.2 (by decide))⟩
            refine q_aload_n c_169_44 rfl (v_cv c_169_45 km_8_131 rfl rfl (Nat.le_of_ble_eq_true rfl) ⟨⟨rfl, rfl⟩, Nat.le_of_ble_eq_true rfl, rfl⟩ (Nat.le_of_ble_eq_true rfl) (Nat.le_of_ble_eq_true rfl) (q_aload_n c_152_0 rfl (v_gi (z := 5) (v := (-1)) c_152_1 kf_8_102 rfl (Nat.le_of_ble_eq_true rfl) rfl rfl (hc_1) (q_iconst c_152_4 (v_ic_ne_f (t := 12) c_152_5 rfl (by decide) (q_iconst c_152_8 (q_goto (t := 13) c_152_9 rfl ?_)))))))
            refine v_zret c_152_13 rfl (by decide) (bk_inl (v_if_eq_f (t := 136) c_169_48 rfl (by decide) (q_aload_n c_169_51 rfl (v_cv c_169_52 km_8_211 rfl rfl (Nat.le_of_ble_eq_true rfl) ⟨⟨rfl, rfl⟩, Nat.le_of_ble_eq_true rfl, rfl⟩ (Nat.le_of_ble_eq_true rfl) (Nat.le_of_ble_eq_true rfl) (q_aload_n c_162_0 rfl ?_)))))
            have kn_201 : Hid (c2 41 3 = e1) := (hFc 41 3 qn_b860ee9cc).trans (hr_e1)
            have h_202 : -2147483648 ≤ (H (nx F e1 a)) ∧ (H (nx F e1 a)) ≤ 2147483647 := by rw [← hH (nx F e1 a)]; exact ir_43 hI (nx F e1 a)
            have h_203 := hU (nx F e1 a) (by first | exact q_a7eda21a5 h_24 ha | omega) (by first | exact q_6c5402073 h_1 h_32 hg_e1 | omega)
            have h_204 := hb_or (b := H) (e := e1) (r := (nx F e1 a))
            have h_205 := hb_bd (b := H) (e := e1) (r := (nx F e1 a)) (lo := -2147483648) (hi := 2147483647) h_202 (by decide)
            refine v_cv c_162_1 km_8_114 rfl rfl (Nat.le_of_ble_eq_true rfl) ⟨⟨rfl, rfl⟩, Nat.le_of_ble_eq_true rfl, rfl⟩ (Nat.le_of_ble_eq_true rfl) (Nat.le_of_ble_eq_true rfl) (f_154 (e1 := e1) (a9 := a) (B := H) (r8 := (nx F e1 a)) (r := (hb H e1 (nx F e1 a))) hI2 ((hid kn_201)) ((hr_a)) (fun j => (hFc 43 j qn_8f9b78528).trans (hH j)) ((nx_tr hU (ha.1) ((rg_eq hg_e1 h_1).2)).trans (rfl)) rfl (fun c_206 hI_207 hF_208 h_209 => (bk_inl (q_pop c_162_4 rfl (q_aload_n c_162_5 rfl (v_gi (z := 4) (v := (nx F e1 a)) c_162_6 kf_8_108 rfl (Nat.le_of_ble_eq_true rfl) rfl rfl (h_209) (q_aload_n c_162_9 rfl ?_)))))))
            have kn_210 : Hid (c_206 41 3 = e1) := (hF_208 41 3 (fun h => absurd h.2 (ni rfl))).trans (hid kn_201)
            refine v_gi (z := 3) (v := e1) c_162_10 kf_8_111 rfl (Nat.le_of_ble_eq_true rfl) rfl rfl (hid kn_210) (v_ic_ge_f (t := 20) c_162_13 rfl ⟨by first | exact q_17990f574 h_177 h_178 | omega, by first | exact q_d17d18138 h_32 | omega, (Int.le_trans (rg_eq hg_e1 h_1).2 (by decide))⟩ (q_iconst c_162_16 (q_goto (t := 21) c_162_17 rfl (v_zret c_162_21 rfl (by decide) (bk_inl (v_if_eq_f (t := 136) c_169_55 rfl (by decide) (q_aload_n c_169_58 rfl ?_)))))))
            have h_211 := wv_bd (b := F) (r := (nx F e1 a)) (l := (ln F e1 (nx F e1 a))) (fun j h1 h2 => ⟨(ln_in (e := e1) (a := (nx F e1 a)) h1 h2).1, (ln_in (e := e1) (a := (nx F e1 a)) h1 h2).2.1⟩)
            have hw_212 : Hid (¬ wv F (nx F e1 a) (ln F e1 (nx F e1 a)) = 10290 ∧ ¬ wv F (nx F e1 a) (ln F e1 (nx F e1 a)) = 20594117 ∧ ¬ wv F (nx F e1 a) (ln F e1 (nx F e1 a)) = 20223685 ∧ ¬ wv F (nx F e1 a) (ln F e1 (nx F e1 a)) = 153204) := wr8_4 (b := F) (r := (nx F e1 a)) (l := (ln F e1 (nx F e1 a))) (by omega) (fun j h1 h2 => ⟨(ln_in (e := e1) (a := (nx F e1 a)) h1 h2).1, (ln_in (e := e1) (a := (nx F e1 a)) h1 h2).2.1⟩) (by omega)
            refine v_cv c_169_59 km_8_214 rfl rfl (Nat.le_of_ble_eq_true rfl) ⟨⟨rfl, rfl⟩, Nat.le_of_ble_eq_true rfl, rfl⟩ (Nat.le_of_ble_eq_true rfl) (Nat.le_of_ble_eq_true rfl) (f_157 (e1 := e1) (a9 := (nx F e1 a)) (B := H) (r8 := (nx F e1 a)) (L8 := (ln F e1 (nx F e1 a))) (W8 := (wv F (nx F e1 a) (ln F e1 (nx F e1 a)))) hI_207 ((hid kn_210)) ((h_209)) (fun j => ((hF_208 43 j (fun h => absurd h.1 (nn rfl))).trans (hFc 43 j qn_8f9b78528)).trans (hH j)) ((nx_tr hU (by first | exact q_a7eda21a5 h_24 ha | omega) ((rg_eq hg_e1 h_1).2)).trans ((nx_z (Or.inr (by first | exact q_b1e7f72d7 h_26 h_32 | omega))))) ((ln_tr hU (by first | exact q_a7eda21a5 h_24 ha | omega) ((rg_eq hg_e1 h_1).2)).trans (rfl)) ((wv_tr hU (by first | exact q_a7eda21a5 h_24 ha | omega) (by first | exact q_296ae6bb2 h_2 h_87 hr_e1 | omega) (fun j h1 h2 => ⟨(ln_in (e := e1) (a := (nx F e1 a)) h1 h2).1, (ln_in (e := e1) (a := (nx F e1 a)) h1 h2).2.1⟩)).trans (rfl)) (fun c_213 hI_214 hF_215 hz_216 => (bk_inl (q_istore_n c_169_62 (Nat.le_of_ble_eq_true rfl) (q_iload_n c_169_63 rfl (q_call c_169_64 rfl rfl rfl (q_iload_n c_166_0 rfl (q_ldc_s c_166_1 rfl rfl (by decide) (q_call c_166_3 rfl rfl rfl (s_158_16 ?_))))))))))
            refine bk_inl (v_ic_eq_f (t := 36) c_166_6 rfl ⟨(hid hw_212).1, ⟨(Int.le_trans (by decide) h_211.1), (Int.le_trans h_211.2 (by decide))⟩, by decide, by decide⟩ (q_iload_n c_166_9 rfl (q_ldc_s c_166_10 rfl rfl (by decide) (q_call c_166_12 rfl rfl rfl (s_158_17 (bk_inl (v_ic_eq_f (t := 36) c_166_15 rfl ⟨(hid hw_212).2.1, ⟨(Int.le_trans (by decide) h_211.1), (Int.le_trans h_211.2 (by decide))⟩, by decide, by decide⟩ (q_iload_n c_166_18 rfl ?_))))))))
            refine q_ldc_s c_166_19 rfl rfl (by decide) (q_call c_166_21 rfl rfl rfl (s_158_18 (bk_inl (v_ic_eq_f (t := 36) c_166_24 rfl ⟨(hid hw_212).2.2.1, ⟨(Int.le_trans (by decide) h_211.1), (Int.le_trans h_211.2 (by decide))⟩, by decide, by decide⟩ (q_iload_n c_166_27 rfl (q_ldc_s c_166_28 rfl rfl (by decide) (q_call c_166_30 rfl rfl rfl (s_158_19 (bk_inl ?_)))))))))
            refine v_ic_ne_t (t := 40) c_166_33 rfl ⟨(hid hw_212).2.2.2, ⟨(Int.le_trans (by decide) h_211.1), (Int.le_trans h_211.2 (by decide))⟩, by decide, by decide⟩ (q_iconst c_166_40 (v_zret c_166_41 rfl (by decide) (bk_inl (v_if_ne_f (t := 82) c_169_67 rfl (by decide) (q_aload_n c_169_70 rfl (q_iconst c_169_71 (q_aload_n c_169_72 rfl ?_)))))))
            refine v_gi (z := 4) (v := (nx F e1 a)) c_169_73 kf_8_108 rfl (Nat.le_of_ble_eq_true rfl) rfl rfl (hz_216) (v_cv c_169_76 km_8_138 rfl rfl (Nat.le_of_ble_eq_true rfl) ⟨⟨rfl, rfl⟩, Nat.le_of_ble_eq_true rfl, rfl⟩ (Nat.le_of_ble_eq_true rfl) (Nat.le_of_ble_eq_true rfl) (q_aload_n c_153_0 rfl ?_))
            have kn_217 : Hid (c_206 41 5 = (-1)) := (hF_208 41 5 (fun h => absurd h.2 (ni rfl))).trans (hc_1)
            have kn_218 : Hid (c_213 41 5 = (-1)) := (hF_215 41 5 (fun h => absurd h.2 (ni rfl))).trans (hid kn_217)
            refine v_gi (z := 5) (v := (-1)) c_153_1 kf_8_102 rfl (Nat.le_of_ble_eq_true rfl) rfl rfl (hid kn_218) (q_iconst c_153_4 (v_ic_eq_t (t := 9) c_153_5 rfl (by decide) (q_aload_n c_153_9 rfl (q_iload_n c_153_10 rfl (v_pi (z := 5) c_153_11 kf_8_102 rfl (Nat.le_of_ble_eq_true rfl) rfl rfl rfl (by decide) (q_aload_n c_153_14 rfl (q_iload_n c_153_15 rfl ?_)))))))
            refine v_pi (z := 6) c_153_16 kf_8_105 rfl (Nat.le_of_ble_eq_true rfl) rfl rfl rfl (by decide) (q_vret rfl rfl (bk_inl (q_goto (t := 105) c_169_79 rfl (q_aload_n c_169_105 rfl (v_cv c_169_106 km_8_131 rfl rfl (Nat.le_of_ble_eq_true rfl) ⟨⟨rfl, rfl⟩, Nat.le_of_ble_eq_true rfl, rfl⟩ (Nat.le_of_ble_eq_true rfl) (Nat.le_of_ble_eq_true rfl) (q_aload_n c_152_0 rfl (v_gi (z := 5) (v := (nx F e1 a)) c_152_1 kf_8_102 rfl (Nat.le_of_ble_eq_true rfl) rfl rfl ((up_n (by decide)).trans (up_e rfl)) ?_)))))))
            refine q_iconst c_152_4 (v_ic_ne_t (t := 12) c_152_5 rfl ⟨by first | exact q_90762221b h_177 h_178 | omega, ⟨by first | exact q_17990f574 h_177 h_178 | omega, by first | exact q_757c304f4 h_177 h_178 | omega⟩, by decide, by decide⟩ (q_iconst c_152_12 (v_zret c_152_13 rfl (by decide) (bk_inl (v_if_ne_f (t := 115) c_169_109 rfl (by decide) (q_goto (t := 136) c_169_112 rfl (Wp_ls [(0, .ref 41), (1, vi a1)] (lsub_cons rfl (lsub_cons rfl lsub_nil)) ?_)))))))
            have hI_219 := iw_41_5 (v := (nx F e1 a)) hI_214 ⟨by first | exact q_5ce231cbd h_177 h_178 | omega, by first | exact q_6094bb0fa h_179 h_180 | omega⟩
            have hI_220 := iw_41_6 (v := 1) hI_219 ⟨by decide, by decide⟩
            have h_221 : (up (up c_213 41 5 (nx F e1 a)) 41 6 1) 41 5 = (nx F e1 a) := ((up_n (by decide)).trans (up_e rfl))
            have h_222 : (up (up c_213 41 5 (nx F e1 a)) 41 6 1) 41 4 = (nx F e1 a) := ((up_n (by decide)).trans ((up_n (by decide)).trans (hz_216)))
            have h_223 : (up (up c_213 41 5 (nx F e1 a)) 41 6 1) 41 6 = 1 := (up_e rfl)
            have kn_224 : Hid (c_206 41 16 = jr) := (hF_208 41 16 (fun h => absurd h.2 (ni rfl))).trans (hr_jr)
            have kn_225 : Hid (c_213 41 16 = jr) := (hF_215 41 16 (fun h => absurd h.2 (ni rfl))).trans (hid kn_224)
            have h_226 : (up (up c_213 41 5 (nx F e1 a)) 41 6 1) 41 16 = jr := ((up_n (by decide)).trans ((up_n (by decide)).trans (hid kn_225)))
            have kn_227 : Hid (c_206 41 17 = st) := (hF_208 41 17 (fun h => absurd h.2 (ni rfl))).trans (hr_st)
            have kn_228 : Hid (c_213 41 17 = st) := (hF_215 41 17 (fun h => absurd h.2 (ni rfl))).trans (hid kn_227)
            have h_229 : (up (up c_213 41 5 (nx F e1 a)) 41 6 1) 41 17 = st := ((up_n (by decide)).trans ((up_n (by decide)).trans (hid kn_228)))
            have kn_230 : Hid (c_206 41 18 = si) := (hF_208 41 18 (fun h => absurd h.2 (ni rfl))).trans (hr_si)
            have kn_231 : Hid (c_213 41 18 = si) := (hF_215 41 18 (fun h => absurd h.2 (ni rfl))).trans (hid kn_230)
            have h_232 : (up (up c_213 41 5 (nx F e1 a)) 41 6 1) 41 18 = si := ((up_n (by decide)).trans ((up_n (by decide)).trans (hid kn_231)))
            have kn_233 : Hid (c_206 41 19 = du) := (hF_208 41 19 (fun h => absurd h.2 (ni rfl))).trans (hr_du)
            have kn_234 : Hid (c_213 41 19 = du) := (hF_215 41 19 (fun h => absurd h.2 (ni rfl))).trans (hid kn_233)
            have h_235 : (up (up c_213 41 5 (nx F e1 a)) 41 6 1) 41 19 = du := ((up_n (by decide)).trans ((up_n (by decide)).trans (hid kn_234)))
            exact K (up (up c_213 41 5 (nx F e1 a)) 41 6 1)  hI_220 (fun a j hm => (up_b (Decidable.or_iff_not_imp_left.mpr (fun h1 h2 => hm (Or.inr (Or.inr (Or.inl ⟨Decidable.not_not.mp h1, h2⟩)))))).trans ((up_b (Decidable.or_iff_not_imp_left.mpr (fun h1 h2 => hm (Or.inr (Or.inl ⟨Decidable.not_not.mp h1, h2⟩))))).trans ((hF_215 a j (fun h => hm (Or.inl h))).trans ((hF_208 a j (fun h => hm (Or.inl h))).trans (hFc a j hm))))) (rt_i2 ⟨⟨by first | exact q_5935f82f1 h_176 | omega, by first | exact q_63461c6bf h_176 | omega⟩, by first | exact q_88dc5fb99 h_180 | omega, by first | exact q_7bcc067ca h_180 h_24 ha | omega, by first | exact q_69efb464e h_176 | omega⟩) (Or.inr (Or.inl (by first | exact q_e2d2b4ae2 h_176 | omega)))
      · skip
        refine bk_inl (q_istore c_34_30 (Nat.le_of_ble_eq_true rfl) (q_iload c_34_32 rfl (q_iconst c_34_34 (v_ic_eq_f (t := 59) c_34_35 rfl ⟨by first | exact q_87d10e022 h_107 | omega, ⟨by first | exact q_153985e45 h_107 | omega, by first | exact q_1c71586fa h_107 | omega⟩, by decide, by decide⟩ (q_iload_n c_34_38 rfl (v_bip c_34_39 (by decide) ?_))))))
        by_cases h_236 : v = 60
        · as_aux_lemma =>
            refine v_ic_eq_t (t := 53) c_34_41 rfl h_236 (q_aload_n c_34_53 rfl (q_iconst c_34_54 (q_iload_n c_34_55 rfl (v_cv c_34_56 km_2_64 rfl rfl (Nat.le_of_ble_eq_true rfl) ⟨⟨rfl, rfl⟩, Nat.le_of_ble_eq_true rfl, rfl⟩ (Nat.le_of_ble_eq_true rfl) (Nat.le_of_ble_eq_true rfl) (q_aload_n c_7_0 rfl (v_gi (z := 4) (v := 0) c_7_1 kf_5_38 rfl (Nat.le_of_ble_eq_true rfl) rfl rfl (hz_109) (v_if_ne_f (t := 17) c_7_4 rfl (by decide) ?_)))))))
            refine q_aload_n c_7_7 rfl (q_iload_n c_7_8 rfl (v_pi (z := 4) c_7_9 kf_5_38 rfl (Nat.le_of_ble_eq_true rfl) rfl rfl rfl (by decide) (q_aload_n c_7_12 rfl (q_iload_n c_7_13 rfl (v_pi (z := 5) c_7_14 kf_5_15 rfl (Nat.le_of_ble_eq_true rfl) rfl rfl rfl (by decide) (q_vret rfl rfl (bk_inl ?_)))))))
            refine q_aload_n c_34_59 rfl (v_cv c_34_60 km_2_68 rfl rfl (Nat.le_of_ble_eq_true rfl) ⟨⟨rfl, rfl⟩, Nat.le_of_ble_eq_true rfl, rfl⟩ (Nat.le_of_ble_eq_true rfl) (Nat.le_of_ble_eq_true rfl) (q_aload_n c_2_0 rfl (v_gi (z := 4) (v := 3) c_2_1 kf_5_38 rfl (Nat.le_of_ble_eq_true rfl) rfl rfl ((up_n (by decide)).trans (up_e rfl)) (v_if_ne_t (t := 11) c_2_4 rfl (by decide) (q_iconst c_2_11 (v_zret c_2_12 rfl (by decide) (bk_inl ?_)))))))
            refine v_if_eq_t (t := 73) c_34_63 rfl (by decide) (q_aload_n c_34_73 rfl (q_ldc_s c_34_74 rfl rfl (by decide) (v_cv c_34_76 km_2_77 rfl rfl (Nat.le_of_ble_eq_true rfl) ⟨⟨rfl, rfl⟩, Nat.le_of_ble_eq_true rfl, rfl⟩ (Nat.le_of_ble_eq_true rfl) (Nat.le_of_ble_eq_true rfl) (q_aload_n c_11_0 rfl (v_cv c_11_1 km_5_45 rfl rfl (Nat.le_of_ble_eq_true rfl) ⟨⟨rfl, rfl⟩, Nat.le_of_ble_eq_true rfl, rfl⟩ (Nat.le_of_ble_eq_true rfl) (Nat.le_of_ble_eq_true rfl) (q_aload_n c_2_0 rfl (v_gi (z := 4) (v := 3) c_2_1 kf_5_38 rfl (Nat.le_of_ble_eq_true rfl) rfl rfl ((up_n (by decide)).trans (up_e rfl)) ?_)))))))
            refine v_if_ne_t (t := 11) c_2_4 rfl (by decide) (q_iconst c_2_11 (v_zret c_2_12 rfl (by decide) (bk_inl (v_if_eq_t (t := 25) c_11_4 rfl (by decide) (q_vret rfl rfl (bk_inl (v_iinc (v := v + 1) c_34_79 rfl (Nat.le_of_ble_eq_true rfl) rfl ?_)))))))
            refine q_goto (t := 6) c_34_82 rfl (q_iload_n c_34_6 rfl (v_bip c_34_7 (by decide) (v_ic_gt_t (t := 85) c_34_9 rfl ⟨by decide, by first | exact q_4be623d9b h_236 | omega, by first | exact rgp_h hv.2 (by decide) | omega⟩ (q_vret rfl rfl ?_))))
            have hI_237 := iw_1_4 (v := 3) hI_104 ⟨by decide, by decide⟩
            have hI_238 := iw_1_5 (v := (nx F e1 a)) hI_237 ⟨by first | exact q_9531afe7c h_24 ha | omega, by first | exact q_8ee92dabb h_2 h_32 hr_e1 | omega⟩
            intro hE_239
            have hW : Wd P Q P P (up (up c_103 1 4 3) 1 5 (nx F e1 a)) = Wd P Q P P m9 := (Prod.mk.inj (Prod.mk.inj hE_239).2).1
            have h_240 := ir_1_4 hJ9
            have h_241 : m9 1 4 = 3 := wd_fv (z := 4) 4 rfl hW rfl rfl rfl rfl (by decide) ((up_n (by decide)).trans (up_e rfl)) ⟨by decide, by decide⟩ ⟨(Int.le_trans (by decide) h_240.1), (Int.le_trans h_240.2 (by decide))⟩
            have h_242 := ir_1_2 hJ9
            have h_243 : m9 1 2 = (ln F e1 (nx F e1 a)) := wd_fv (z := 2) 2 rfl hW rfl rfl rfl rfl (by decide) ((up_n (by decide)).trans ((up_n (by decide)).trans (hz_108))) ⟨by first | exact q_db1b60104 h_24 h_87 ha | omega, by first | exact q_285f5cce7 h_2 h_87 hr_e1 | omega⟩ ⟨(Int.le_trans (by decide) h_242.1), (Int.le_trans h_242.2 (by decide))⟩
            have h_244 := ir_1_5 hJ9
            have h_245 : m9 1 5 = (nx F e1 a) := wd_fv (z := 5) 5 rfl hW rfl rfl rfl rfl (by decide) (up_e rfl) ⟨by first | exact q_378c2316e h_24 ha | omega, by first | exact q_f47c0b92d h_1 h_32 hg_e1 | omega⟩ ⟨(Int.le_trans (by decide) h_244.1), (Int.le_trans h_244.2 (by decide))⟩
            have kn_246 : Hid (c_27 A 0 = jr) := (hF_29 A 0 (fun h => absurd h.1 (np0 hA rfl))).trans (hg_jr)
            have kn_247 : Hid (c_78 A 0 = jr) := (hF_80 A 0 (fun h => absurd h.1 (np0 hA rfl))).trans (hid kn_246)
            have kn_248 : Hid (c_103 A 0 = jr) := (hF_105 A 0 (qn_014d425e1 hA)).trans (hid kn_247)
            have h_249 := ir_p0_0 hJ9 hA
            have h_250 : m9 A 0 = jr := wd_fv (z := 0) 0 rfl hW (ck_p0 hA) (ck_p0 hA) rfl rfl (a68z hA) ((up_c (np0 hA rfl)).trans ((up_c (np0 hA rfl)).trans (hid kn_248))) ⟨(Int.le_trans (by decide) hjr.1), (Int.le_trans hjr.2 (by decide))⟩ ⟨(Int.le_trans (by decide) h_249.1), (Int.le_trans h_249.2 (by decide))⟩
            have kn_251 : Hid (c_27 A 1 = st) := (hF_29 A 1 (fun h => absurd h.1 (np0 hA rfl))).trans (hg_st)
            have kn_252 : Hid (c_78 A 1 = st) := (hF_80 A 1 (fun h => absurd h.1 (np0 hA rfl))).trans (hid kn_251)
            have kn_253 : Hid (c_103 A 1 = st) := (hF_105 A 1 (qn_014d425e1 hA)).trans (hid kn_252)
            have h_254 := ir_p0_1 hJ9 hA
            have h_255 : m9 A 1 = st := wd_fv (z := 1) 1 rfl hW (ck_p0 hA) (ck_p0 hA) rfl rfl (a68z hA) ((up_c (np0 hA rfl)).trans ((up_c (np0 hA rfl)).trans (hid kn_253))) ⟨(Int.le_trans (by decide) hst.1), (Int.le_trans hst.2 (by decide))⟩ ⟨(Int.le_trans (by decide) h_254.1), (Int.le_trans h_254.2 (by decide))⟩
            have kn_256 : Hid (c_27 A 2 = si) := (hF_29 A 2 (fun h => absurd h.1 (np0 hA rfl))).trans (hg_si)
            have kn_257 : Hid (c_78 A 2 = si) := (hF_80 A 2 (fun h => absurd h.1 (np0 hA rfl))).trans (hid kn_256)
            have kn_258 : Hid (c_103 A 2 = si) := (hF_105 A 2 (qn_014d425e1 hA)).trans (hid kn_257)
            have h_259 := ir_p0_2 hJ9 hA
            have h_260 : m9 A 2 = si := wd_fv (z := 2) 2 rfl hW (ck_p0 hA) (ck_p0 hA) rfl rfl (a68z hA) ((up_c (np0 hA rfl)).trans ((up_c (np0 hA rfl)).trans (hid kn_258))) ⟨(Int.le_trans (by decide) hsi.1), (Int.le_trans hsi.2 (by decide))⟩ ⟨(Int.le_trans (by decide) h_259.1), (Int.le_trans h_259.2 (by decide))⟩
            have kn_261 : Hid (c_27 A 3 = du) := (hF_29 A 3 (fun h => absurd h.1 (np0 hA rfl))).trans (hg_du)
            have kn_262 : Hid (c_78 A 3 = du) := (hF_80 A 3 (fun h => absurd h.1 (np0 hA rfl))).trans (hid kn_261)
            have kn_263 : Hid (c_103 A 3 = du) := (hF_105 A 3 (qn_014d425e1 hA)).trans (hid kn_262)
            have h_264 := ir_p0_3 hJ9 hA
            have h_265 : m9 A 3 = du := wd_fv (z := 3) 3 rfl hW (ck_p0 hA) (ck_p0 hA) rfl rfl (a68z hA) ((up_c (np0 hA rfl)).trans ((up_c (np0 hA rfl)).trans (hid kn_263))) ⟨(Int.le_trans (by decide) hdu.1), (Int.le_trans hdu.2 (by decide))⟩ ⟨(Int.le_trans (by decide) h_264.1), (Int.le_trans h_264.2 (by decide))⟩
            refine q_aload_n c_169_44 rfl (v_cv c_169_45 km_8_131 rfl rfl (Nat.le_of_ble_eq_true rfl) ⟨⟨rfl, rfl⟩, Nat.le_of_ble_eq_true rfl, rfl⟩ (Nat.le_of_ble_eq_true rfl) (Nat.le_of_ble_eq_true rfl) (q_aload_n c_152_0 rfl (v_gi (z := 5) (v := (-1)) c_152_1 kf_8_102 rfl (Nat.le_of_ble_eq_true rfl) rfl rfl (hc_1) (q_iconst c_152_4 (v_ic_ne_f (t := 12) c_152_5 rfl (by decide) (q_iconst c_152_8 (q_goto (t := 13) c_152_9 rfl ?_)))))))
            refine v_zret c_152_13 rfl (by decide) (bk_inl (v_if_eq_f (t := 136) c_169_48 rfl (by decide) (q_aload_n c_169_51 rfl (v_cv c_169_52 km_8_211 rfl rfl (Nat.le_of_ble_eq_true rfl) ⟨⟨rfl, rfl⟩, Nat.le_of_ble_eq_true rfl, rfl⟩ (Nat.le_of_ble_eq_true rfl) (Nat.le_of_ble_eq_true rfl) (q_aload_n c_162_0 rfl ?_)))))
            have kn_266 : Hid (c2 41 3 = e1) := (hFc 41 3 qn_b860ee9cc).trans (hr_e1)
            have h_267 : -2147483648 ≤ (H (nx F e1 a)) ∧ (H (nx F e1 a)) ≤ 2147483647 := by rw [← hH (nx F e1 a)]; exact ir_43 hI (nx F e1 a)
            have h_268 := hU (nx F e1 a) (by first | exact q_a7eda21a5 h_24 ha | omega) (by first | exact q_6c5402073 h_1 h_32 hg_e1 | omega)
            have h_269 := hb_or (b := H) (e := e1) (r := (nx F e1 a))
            have h_270 := hb_bd (b := H) (e := e1) (r := (nx F e1 a)) (lo := -2147483648) (hi := 2147483647) h_267 (by decide)
            refine v_cv c_162_1 km_8_114 rfl rfl (Nat.le_of_ble_eq_true rfl) ⟨⟨rfl, rfl⟩, Nat.le_of_ble_eq_true rfl, rfl⟩ (Nat.le_of_ble_eq_true rfl) (Nat.le_of_ble_eq_true rfl) (f_154 (e1 := e1) (a9 := a) (B := H) (r8 := (nx F e1 a)) (r := (hb H e1 (nx F e1 a))) hI2 ((hid kn_266)) ((hr_a)) (fun j => (hFc 43 j qn_8f9b78528).trans (hH j)) ((nx_tr hU (ha.1) ((rg_eq hg_e1 h_1).2)).trans (rfl)) rfl (fun c_271 hI_272 hF_273 h_274 => (bk_inl (q_pop c_162_4 rfl (q_aload_n c_162_5 rfl (v_gi (z := 4) (v := (nx F e1 a)) c_162_6 kf_8_108 rfl (Nat.le_of_ble_eq_true rfl) rfl rfl (h_274) (q_aload_n c_162_9 rfl ?_)))))))
            have kn_275 : Hid (c_271 41 3 = e1) := (hF_273 41 3 (fun h => absurd h.2 (ni rfl))).trans (hid kn_266)
            refine v_gi (z := 3) (v := e1) c_162_10 kf_8_111 rfl (Nat.le_of_ble_eq_true rfl) rfl rfl (hid kn_275) (v_ic_ge_f (t := 20) c_162_13 rfl ⟨by first | exact q_378c2316e h_24 ha | omega, by first | exact q_d17d18138 h_32 | omega, (Int.le_trans (rg_eq hg_e1 h_1).2 (by decide))⟩ (q_iconst c_162_16 (q_goto (t := 21) c_162_17 rfl (v_zret c_162_21 rfl (by decide) (bk_inl (v_if_eq_f (t := 136) c_169_55 rfl (by decide) (q_aload_n c_169_58 rfl ?_)))))))
            have h_276 := wv_bd (b := F) (r := (nx F e1 a)) (l := (ln F e1 (nx F e1 a))) (fun j h1 h2 => ⟨(ln_in (e := e1) (a := (nx F e1 a)) h1 h2).1, (ln_in (e := e1) (a := (nx F e1 a)) h1 h2).2.1⟩)
            have h_277 := wr8 (b := F) (r := (nx F e1 a)) (l := (ln F e1 (nx F e1 a))) (by omega) (fun j h1 h2 => ⟨(ln_in (e := e1) (a := (nx F e1 a)) h1 h2).1, (ln_in (e := e1) (a := (nx F e1 a)) h1 h2).2.1⟩)
            refine v_cv c_169_59 km_8_214 rfl rfl (Nat.le_of_ble_eq_true rfl) ⟨⟨rfl, rfl⟩, Nat.le_of_ble_eq_true rfl, rfl⟩ (Nat.le_of_ble_eq_true rfl) (Nat.le_of_ble_eq_true rfl) (f_157 (e1 := e1) (a9 := (nx F e1 a)) (B := H) (r8 := (nx F e1 a)) (L8 := (ln F e1 (nx F e1 a))) (W8 := (wv F (nx F e1 a) (ln F e1 (nx F e1 a)))) hI_272 ((hid kn_275)) ((h_274)) (fun j => ((hF_273 43 j (fun h => absurd h.1 (nn rfl))).trans (hFc 43 j qn_8f9b78528)).trans (hH j)) ((nx_tr hU (by first | exact q_a7eda21a5 h_24 ha | omega) ((rg_eq hg_e1 h_1).2)).trans ((nx_z (Or.inr (by first | exact q_b1e7f72d7 h_26 h_32 | omega))))) ((ln_tr hU (by first | exact q_a7eda21a5 h_24 ha | omega) ((rg_eq hg_e1 h_1).2)).trans (rfl)) ((wv_tr hU (by first | exact q_a7eda21a5 h_24 ha | omega) (by first | exact q_93d3e60a8 h_242 h_243 | omega) (fun j h1 h2 => ⟨(ln_in (e := e1) (a := (nx F e1 a)) h1 h2).1, (ln_in (e := e1) (a := (nx F e1 a)) h1 h2).2.1⟩)).trans (rfl)) (fun c_278 hI_279 hF_280 hz_281 => (bk_inl (q_istore_n c_169_62 (Nat.le_of_ble_eq_true rfl) (q_iload_n c_169_63 rfl (q_call c_169_64 rfl rfl rfl (q_iload_n c_166_0 rfl (q_ldc_s c_166_1 rfl rfl (by decide) (q_call c_166_3 rfl rfl rfl (s_158_16 ?_))))))))))
            refine bk_inl ?_
            by_cases h_282 : (wv F (nx F e1 a) (ln F e1 (nx F e1 a))) = 10290
            · refine v_ic_eq_t (t := 36) c_166_6 rfl h_282 (q_iconst c_166_36 (q_goto (t := 41) c_166_37 rfl (v_zret c_166_41 rfl (by decide) (bk_inl (v_if_ne_t (t := 82) c_169_67 rfl (by decide) (q_iload_n c_169_82 rfl (v_bip c_169_83 (by decide) ?_)))))))
              refine v_ic_eq_t (t := 96) c_169_85 rfl (by first | exact q_7b7264bad h_236 hv | omega) (q_aload_n c_169_96 rfl (q_iconst c_169_97 (q_aload_n c_169_98 rfl (v_gi (z := 4) (v := (nx F e1 a)) c_169_99 kf_8_108 rfl (Nat.le_of_ble_eq_true rfl) rfl rfl (hz_281) (v_cv c_169_102 km_8_138 rfl rfl (Nat.le_of_ble_eq_true rfl) ⟨⟨rfl, rfl⟩, Nat.le_of_ble_eq_true rfl, rfl⟩ (Nat.le_of_ble_eq_true rfl) (Nat.le_of_ble_eq_true rfl) (q_aload_n c_153_0 rfl ?_))))))
              have kn_283 : Hid (c_271 41 5 = (-1)) := (hF_273 41 5 (fun h => absurd h.2 (ni rfl))).trans (hc_1)
              have kn_284 : Hid (c_278 41 5 = (-1)) := (hF_280 41 5 (fun h => absurd h.2 (ni rfl))).trans (hid kn_283)
              refine v_gi (z := 5) (v := (-1)) c_153_1 kf_8_102 rfl (Nat.le_of_ble_eq_true rfl) rfl rfl (hid kn_284) (q_iconst c_153_4 (v_ic_eq_t (t := 9) c_153_5 rfl (by decide) (q_aload_n c_153_9 rfl (q_iload_n c_153_10 rfl (v_pi (z := 5) c_153_11 kf_8_102 rfl (Nat.le_of_ble_eq_true rfl) rfl rfl rfl (by decide) (q_aload_n c_153_14 rfl (q_iload_n c_153_15 rfl ?_)))))))
              refine v_pi (z := 6) c_153_16 kf_8_105 rfl (Nat.le_of_ble_eq_true rfl) rfl rfl rfl (by decide) (q_vret rfl rfl (bk_inl (q_aload_n c_169_105 rfl (v_cv c_169_106 km_8_131 rfl rfl (Nat.le_of_ble_eq_true rfl) ⟨⟨rfl, rfl⟩, Nat.le_of_ble_eq_true rfl, rfl⟩ (Nat.le_of_ble_eq_true rfl) (Nat.le_of_ble_eq_true rfl) (q_aload_n c_152_0 rfl (v_gi (z := 5) (v := (nx F e1 a)) c_152_1 kf_8_102 rfl (Nat.le_of_ble_eq_true rfl) rfl rfl ((up_n (by decide)).trans (up_e rfl)) (q_iconst c_152_4 ?_)))))))
              refine v_ic_ne_t (t := 12) c_152_5 rfl ⟨by first | exact q_1f202bb18 h_24 ha | omega, ⟨by first | exact q_378c2316e h_24 ha | omega, by first | exact q_783468581 h_244 h_245 | omega⟩, by decide, by decide⟩ (q_iconst c_152_12 (v_zret c_152_13 rfl (by decide) (bk_inl (v_if_ne_f (t := 115) c_169_109 rfl (by decide) (q_goto (t := 136) c_169_112 rfl (Wp_ls [(0, .ref 41), (1, vi a1)] (lsub_cons rfl (lsub_cons rfl lsub_nil)) ?_))))))
              have hI_285 := iw_41_5 (v := (nx F e1 a)) hI_279 ⟨by first | exact q_9531afe7c h_24 ha | omega, by first | exact q_6094bb0fa h_244 h_245 | omega⟩
              have hI_286 := iw_41_6 (v := 3) hI_285 ⟨by decide, by decide⟩
              have h_287 : (up (up c_278 41 5 (nx F e1 a)) 41 6 3) 41 5 = (nx F e1 a) := ((up_n (by decide)).trans (up_e rfl))
              have h_288 : (up (up c_278 41 5 (nx F e1 a)) 41 6 3) 41 4 = (nx F e1 a) := ((up_n (by decide)).trans ((up_n (by decide)).trans (hz_281)))
              have h_289 : (up (up c_278 41 5 (nx F e1 a)) 41 6 3) 41 6 = 3 := (up_e rfl)
              have kn_290 : Hid (c_271 41 16 = jr) := (hF_273 41 16 (fun h => absurd h.2 (ni rfl))).trans (hr_jr)
              have kn_291 : Hid (c_278 41 16 = jr) := (hF_280 41 16 (fun h => absurd h.2 (ni rfl))).trans (hid kn_290)
              have h_292 : (up (up c_278 41 5 (nx F e1 a)) 41 6 3) 41 16 = jr := ((up_n (by decide)).trans ((up_n (by decide)).trans (hid kn_291)))
              have kn_293 : Hid (c_271 41 17 = st) := (hF_273 41 17 (fun h => absurd h.2 (ni rfl))).trans (hr_st)
              have kn_294 : Hid (c_278 41 17 = st) := (hF_280 41 17 (fun h => absurd h.2 (ni rfl))).trans (hid kn_293)
              have h_295 : (up (up c_278 41 5 (nx F e1 a)) 41 6 3) 41 17 = st := ((up_n (by decide)).trans ((up_n (by decide)).trans (hid kn_294)))
              have kn_296 : Hid (c_271 41 18 = si) := (hF_273 41 18 (fun h => absurd h.2 (ni rfl))).trans (hr_si)
              have kn_297 : Hid (c_278 41 18 = si) := (hF_280 41 18 (fun h => absurd h.2 (ni rfl))).trans (hid kn_296)
              have h_298 : (up (up c_278 41 5 (nx F e1 a)) 41 6 3) 41 18 = si := ((up_n (by decide)).trans ((up_n (by decide)).trans (hid kn_297)))
              have kn_299 : Hid (c_271 41 19 = du) := (hF_273 41 19 (fun h => absurd h.2 (ni rfl))).trans (hr_du)
              have kn_300 : Hid (c_278 41 19 = du) := (hF_280 41 19 (fun h => absurd h.2 (ni rfl))).trans (hid kn_299)
              have h_301 : (up (up c_278 41 5 (nx F e1 a)) 41 6 3) 41 19 = du := ((up_n (by decide)).trans ((up_n (by decide)).trans (hid kn_300)))
              exact K (up (up c_278 41 5 (nx F e1 a)) 41 6 3)  hI_286 (fun a j hm => (up_b (Decidable.or_iff_not_imp_left.mpr (fun h1 h2 => hm (Or.inr (Or.inr (Or.inl ⟨Decidable.not_not.mp h1, h2⟩)))))).trans ((up_b (Decidable.or_iff_not_imp_left.mpr (fun h1 h2 => hm (Or.inr (Or.inl ⟨Decidable.not_not.mp h1, h2⟩))))).trans ((hF_280 a j (fun h => hm (Or.inl h))).trans ((hF_273 a j (fun h => hm (Or.inl h))).trans (hFc a j hm))))) (rt_i2 ⟨⟨by first | exact q_fcb6ff4be h_241 | omega, by first | exact q_c99d6ea93 h_240 | omega⟩, by first | exact q_88dc5fb99 h_245 | omega, by first | exact q_0a27ce016 h_24 h_245 ha | omega, by first | exact q_bff6e6fd4 h_240 h_241 | omega⟩) (Or.inr (Or.inl (by first | exact q_33afb0047 h_241 | omega)))
            · refine v_ic_eq_f (t := 36) c_166_6 rfl ⟨h_282, ⟨(Int.le_trans (by decide) h_276.1), (Int.le_trans h_276.2 (by decide))⟩, by decide, by decide⟩ (q_iload_n c_166_9 rfl (q_ldc_s c_166_10 rfl rfl (by decide) (q_call c_166_12 rfl rfl rfl (s_158_17 (bk_inl ?_)))))
              by_cases h_302 : (wv F (nx F e1 a) (ln F e1 (nx F e1 a))) = 20594117
              · refine v_ic_eq_t (t := 36) c_166_15 rfl h_302 (q_iconst c_166_36 (q_goto (t := 41) c_166_37 rfl (v_zret c_166_41 rfl (by decide) (bk_inl (v_if_ne_t (t := 82) c_169_67 rfl (by decide) (q_iload_n c_169_82 rfl (v_bip c_169_83 (by decide) ?_)))))))
                refine v_ic_eq_t (t := 96) c_169_85 rfl (by first | exact q_7b7264bad h_236 hv | omega) (q_aload_n c_169_96 rfl (q_iconst c_169_97 (q_aload_n c_169_98 rfl (v_gi (z := 4) (v := (nx F e1 a)) c_169_99 kf_8_108 rfl (Nat.le_of_ble_eq_true rfl) rfl rfl (hz_281) (v_cv c_169_102 km_8_138 rfl rfl (Nat.le_of_ble_eq_true rfl) ⟨⟨rfl, rfl⟩, Nat.le_of_ble_eq_true rfl, rfl⟩ (Nat.le_of_ble_eq_true rfl) (Nat.le_of_ble_eq_true rfl) (q_aload_n c_153_0 rfl ?_))))))
                have kn_303 : Hid (c_271 41 5 = (-1)) := (hF_273 41 5 (fun h => absurd h.2 (ni rfl))).trans (hc_1)
                have kn_304 : Hid (c_278 41 5 = (-1)) := (hF_280 41 5 (fun h => absurd h.2 (ni rfl))).trans (hid kn_303)
                refine v_gi (z := 5) (v := (-1)) c_153_1 kf_8_102 rfl (Nat.le_of_ble_eq_true rfl) rfl rfl (hid kn_304) (q_iconst c_153_4 (v_ic_eq_t (t := 9) c_153_5 rfl (by decide) (q_aload_n c_153_9 rfl (q_iload_n c_153_10 rfl (v_pi (z := 5) c_153_11 kf_8_102 rfl (Nat.le_of_ble_eq_true rfl) rfl rfl rfl (by decide) (q_aload_n c_153_14 rfl (q_iload_n c_153_15 rfl ?_)))))))
                refine v_pi (z := 6) c_153_16 kf_8_105 rfl (Nat.le_of_ble_eq_true rfl) rfl rfl rfl (by decide) (q_vret rfl rfl (bk_inl (q_aload_n c_169_105 rfl (v_cv c_169_106 km_8_131 rfl rfl (Nat.le_of_ble_eq_true rfl) ⟨⟨rfl, rfl⟩, Nat.le_of_ble_eq_true rfl, rfl⟩ (Nat.le_of_ble_eq_true rfl) (Nat.le_of_ble_eq_true rfl) (q_aload_n c_152_0 rfl (v_gi (z := 5) (v := (nx F e1 a)) c_152_1 kf_8_102 rfl (Nat.le_of_ble_eq_true rfl) rfl rfl ((up_n (by decide)).trans (up_e rfl)) (q_iconst c_152_4 ?_)))))))
                refine v_ic_ne_t (t := 12) c_152_5 rfl ⟨by first | exact q_1f202bb18 h_24 ha | omega, ⟨by first | exact q_378c2316e h_24 ha | omega, by first | exact q_783468581 h_244 h_245 | omega⟩, by decide, by decide⟩ (q_iconst c_152_12 (v_zret c_152_13 rfl (by decide) (bk_inl (v_if_ne_f (t := 115) c_169_109 rfl (by decide) (q_goto (t := 136) c_169_112 rfl (Wp_ls [(0, .ref 41), (1, vi a1)] (lsub_cons rfl (lsub_cons rfl lsub_nil)) ?_))))))
                have hI_305 := iw_41_5 (v := (nx F e1 a)) hI_279 ⟨by first | exact q_9531afe7c h_24 ha | omega, by first | exact q_6094bb0fa h_244 h_245 | omega⟩
                have hI_306 := iw_41_6 (v := 3) hI_305 ⟨by decide, by decide⟩
                have h_307 : (up (up c_278 41 5 (nx F e1 a)) 41 6 3) 41 5 = (nx F e1 a) := ((up_n (by decide)).trans (up_e rfl))
                have h_308 : (up (up c_278 41 5 (nx F e1 a)) 41 6 3) 41 4 = (nx F e1 a) := ((up_n (by decide)).trans ((up_n (by decide)).trans (hz_281)))
                have h_309 : (up (up c_278 41 5 (nx F e1 a)) 41 6 3) 41 6 = 3 := (up_e rfl)
                have kn_310 : Hid (c_271 41 16 = jr) := (hF_273 41 16 (fun h => absurd h.2 (ni rfl))).trans (hr_jr)
                have kn_311 : Hid (c_278 41 16 = jr) := (hF_280 41 16 (fun h => absurd h.2 (ni rfl))).trans (hid kn_310)
                have h_312 : (up (up c_278 41 5 (nx F e1 a)) 41 6 3) 41 16 = jr := ((up_n (by decide)).trans ((up_n (by decide)).trans (hid kn_311)))
                have kn_313 : Hid (c_271 41 17 = st) := (hF_273 41 17 (fun h => absurd h.2 (ni rfl))).trans (hr_st)
                have kn_314 : Hid (c_278 41 17 = st) := (hF_280 41 17 (fun h => absurd h.2 (ni rfl))).trans (hid kn_313)
                have h_315 : (up (up c_278 41 5 (nx F e1 a)) 41 6 3) 41 17 = st := ((up_n (by decide)).trans ((up_n (by decide)).trans (hid kn_314)))
                have kn_316 : Hid (c_271 41 18 = si) := (hF_273 41 18 (fun h => absurd h.2 (ni rfl))).trans (hr_si)
                have kn_317 : Hid (c_278 41 18 = si) := (hF_280 41 18 (fun h => absurd h.2 (ni rfl))).trans (hid kn_316)
                have h_318 : (up (up c_278 41 5 (nx F e1 a)) 41 6 3) 41 18 = si := ((up_n (by decide)).trans ((up_n (by decide)).trans (hid kn_317)))
                have kn_319 : Hid (c_271 41 19 = du) := (hF_273 41 19 (fun h => absurd h.2 (ni rfl))).trans (hr_du)
                have kn_320 : Hid (c_278 41 19 = du) := (hF_280 41 19 (fun h => absurd h.2 (ni rfl))).trans (hid kn_319)
                have h_321 : (up (up c_278 41 5 (nx F e1 a)) 41 6 3) 41 19 = du := ((up_n (by decide)).trans ((up_n (by decide)).trans (hid kn_320)))
                exact K (up (up c_278 41 5 (nx F e1 a)) 41 6 3)  hI_306 (fun a j hm => (up_b (Decidable.or_iff_not_imp_left.mpr (fun h1 h2 => hm (Or.inr (Or.inr (Or.inl ⟨Decidable.not_not.mp h1, h2⟩)))))).trans ((up_b (Decidable.or_iff_not_imp_left.mpr (fun h1 h2 => hm (Or.inr (Or.inl ⟨Decidable.not_not.mp h1, h2⟩))))).trans ((hF_280 a j (fun h => hm (Or.inl h))).trans ((hF_273 a j (fun h => hm (Or.inl h))).trans (hFc a j hm))))) (rt_i2 ⟨⟨by first | exact q_fcb6ff4be h_241 | omega, by first | exact q_c99d6ea93 h_240 | omega⟩, by first | exact q_88dc5fb99 h_245 | omega, by first | exact q_0a27ce016 h_24 h_245 ha | omega, by first | exact q_bff6e6fd4 h_240 h_241 | omega⟩) (Or.inr (Or.inl (by first | exact q_33afb0047 h_241 | omega)))
              · refine v_ic_eq_f (t := 36) c_166_15 rfl ⟨h_302, ⟨(Int.le_trans (by decide) h_276.1), (Int.le_trans h_276.2 (by decide))⟩, by decide, by decide⟩ (q_iload_n c_166_18 rfl (q_ldc_s c_166_19 rfl rfl (by decide) (q_call c_166_21 rfl rfl rfl (s_158_18 (bk_inl ?_)))))
                by_cases h_322 : (wv F (nx F e1 a) (ln F e1 (nx F e1 a))) = 20223685
                · refine v_ic_eq_t (t := 36) c_166_24 rfl h_322 (q_iconst c_166_36 (q_goto (t := 41) c_166_37 rfl (v_zret c_166_41 rfl (by decide) (bk_inl (v_if_ne_t (t := 82) c_169_67 rfl (by decide) (q_iload_n c_169_82 rfl (v_bip c_169_83 (by decide) ?_)))))))
                  refine v_ic_eq_t (t := 96) c_169_85 rfl (by first | exact q_7b7264bad h_236 hv | omega) (q_aload_n c_169_96 rfl (q_iconst c_169_97 (q_aload_n c_169_98 rfl (v_gi (z := 4) (v := (nx F e1 a)) c_169_99 kf_8_108 rfl (Nat.le_of_ble_eq_true rfl) rfl rfl (hz_281) (v_cv c_169_102 km_8_138 rfl rfl (Nat.le_of_ble_eq_true rfl) ⟨⟨rfl, rfl⟩, Nat.le_of_ble_eq_true rfl, rfl⟩ (Nat.le_of_ble_eq_true rfl) (Nat.le_of_ble_eq_true rfl) (q_aload_n c_153_0 rfl ?_))))))
                  have kn_323 : Hid (c_271 41 5 = (-1)) := (hF_273 41 5 (fun h => absurd h.2 (ni rfl))).trans (hc_1)
                  have kn_324 : Hid (c_278 41 5 = (-1)) := (hF_280 41 5 (fun h => absurd h.2 (ni rfl))).trans (hid kn_323)
                  refine v_gi (z := 5) (v := (-1)) c_153_1 kf_8_102 rfl (Nat.le_of_ble_eq_true rfl) rfl rfl (hid kn_324) (q_iconst c_153_4 (v_ic_eq_t (t := 9) c_153_5 rfl (by decide) (q_aload_n c_153_9 rfl (q_iload_n c_153_10 rfl (v_pi (z := 5) c_153_11 kf_8_102 rfl (Nat.le_of_ble_eq_true rfl) rfl rfl rfl (by decide) (q_aload_n c_153_14 rfl (q_iload_n c_153_15 rfl ?_)))))))
                  refine v_pi (z := 6) c_153_16 kf_8_105 rfl (Nat.le_of_ble_eq_true rfl) rfl rfl rfl (by decide) (q_vret rfl rfl (bk_inl (q_aload_n c_169_105 rfl (v_cv c_169_106 km_8_131 rfl rfl (Nat.le_of_ble_eq_true rfl) ⟨⟨rfl, rfl⟩, Nat.le_of_ble_eq_true rfl, rfl⟩ (Nat.le_of_ble_eq_true rfl) (Nat.le_of_ble_eq_true rfl) (q_aload_n c_152_0 rfl (v_gi (z := 5) (v := (nx F e1 a)) c_152_1 kf_8_102 rfl (Nat.le_of_ble_eq_true rfl) rfl rfl ((up_n (by decide)).trans (up_e rfl)) (q_iconst c_152_4 ?_)))))))
                  refine v_ic_ne_t (t := 12) c_152_5 rfl ⟨by first | exact q_1f202bb18 h_24 ha | omega, ⟨by first | exact q_378c2316e h_24 ha | omega, by first | exact q_783468581 h_244 h_245 | omega⟩, by decide, by decide⟩ (q_iconst c_152_12 (v_zret c_152_13 rfl (by decide) (bk_inl (v_if_ne_f (t := 115) c_169_109 rfl (by decide) (q_goto (t := 136) c_169_112 rfl (Wp_ls [(0, .ref 41), (1, vi a1)] (lsub_cons rfl (lsub_cons rfl lsub_nil)) ?_))))))
                  have hI_325 := iw_41_5 (v := (nx F e1 a)) hI_279 ⟨by first | exact q_9531afe7c h_24 ha | omega, by first | exact q_6094bb0fa h_244 h_245 | omega⟩
                  have hI_326 := iw_41_6 (v := 3) hI_325 ⟨by decide, by decide⟩
                  have h_327 : (up (up c_278 41 5 (nx F e1 a)) 41 6 3) 41 5 = (nx F e1 a) := ((up_n (by decide)).trans (up_e rfl))
                  have h_328 : (up (up c_278 41 5 (nx F e1 a)) 41 6 3) 41 4 = (nx F e1 a) := ((up_n (by decide)).trans ((up_n (by decide)).trans (hz_281)))
                  have h_329 : (up (up c_278 41 5 (nx F e1 a)) 41 6 3) 41 6 = 3 := (up_e rfl)
                  have kn_330 : Hid (c_271 41 16 = jr) := (hF_273 41 16 (fun h => absurd h.2 (ni rfl))).trans (hr_jr)
                  have kn_331 : Hid (c_278 41 16 = jr) := (hF_280 41 16 (fun h => absurd h.2 (ni rfl))).trans (hid kn_330)
                  have h_332 : (up (up c_278 41 5 (nx F e1 a)) 41 6 3) 41 16 = jr := ((up_n (by decide)).trans ((up_n (by decide)).trans (hid kn_331)))
                  have kn_333 : Hid (c_271 41 17 = st) := (hF_273 41 17 (fun h => absurd h.2 (ni rfl))).trans (hr_st)
                  have kn_334 : Hid (c_278 41 17 = st) := (hF_280 41 17 (fun h => absurd h.2 (ni rfl))).trans (hid kn_333)
                  have h_335 : (up (up c_278 41 5 (nx F e1 a)) 41 6 3) 41 17 = st := ((up_n (by decide)).trans ((up_n (by decide)).trans (hid kn_334)))
                  have kn_336 : Hid (c_271 41 18 = si) := (hF_273 41 18 (fun h => absurd h.2 (ni rfl))).trans (hr_si)
                  have kn_337 : Hid (c_278 41 18 = si) := (hF_280 41 18 (fun h => absurd h.2 (ni rfl))).trans (hid kn_336)
                  have h_338 : (up (up c_278 41 5 (nx F e1 a)) 41 6 3) 41 18 = si := ((up_n (by decide)).trans ((up_n (by decide)).trans (hid kn_337)))
                  have kn_339 : Hid (c_271 41 19 = du) := (hF_273 41 19 (fun h => absurd h.2 (ni rfl))).trans (hr_du)
                  have kn_340 : Hid (c_278 41 19 = du) := (hF_280 41 19 (fun h => absurd h.2 (ni rfl))).trans (hid kn_339)
                  have h_341 : (up (up c_278 41 5 (nx F e1 a)) 41 6 3) 41 19 = du := ((up_n (by decide)).trans ((up_n (by decide)).trans (hid kn_340)))
                  exact K (up (up c_278 41 5 (nx F e1 a)) 41 6 3)  hI_326 (fun a j hm => (up_b (Decidable.or_iff_not_imp_left.mpr (fun h1 h2 => hm (Or.inr (Or.inr (Or.inl ⟨Decidable.not_not.mp h1, h2⟩)))))).trans ((up_b (Decidable.or_iff_not_imp_left.mpr (fun h1 h2 => hm (Or.inr (Or.inl ⟨Decidable.not_not.mp h1, h2⟩))))).trans ((hF_280 a j (fun h => hm (Or.inl h))).trans ((hF_273 a j (fun h => hm (Or.inl h))).trans (hFc a j hm))))) (rt_i2 ⟨⟨by first | exact q_fcb6ff4be h_241 | omega, by first | exact q_c99d6ea93 h_240 | omega⟩, by first | exact q_88dc5fb99 h_245 | omega, by first | exact q_0a27ce016 h_24 h_245 ha | omega, by first | exact q_bff6e6fd4 h_240 h_241 | omega⟩) (Or.inr (Or.inl (by first | exact q_33afb0047 h_241 | omega)))
                · refine v_ic_eq_f (t := 36) c_166_24 rfl ⟨h_322, ⟨(Int.le_trans (by decide) h_276.1), (Int.le_trans h_276.2 (by decide))⟩, by decide, by decide⟩ (q_iload_n c_166_27 rfl (q_ldc_s c_166_28 rfl rfl (by decide) (q_call c_166_30 rfl rfl rfl (s_158_19 (bk_inl (v_ic_ne_f (t := 40) c_166_33 rfl (by first | (clear ha1 hq0 hq1 hq2 hq3 hq4 hq5 hv ha hjr hst hsi hdu h_1 hg_e1 h_2 hr_e1 h_3 hg_f0 h_4 hg_g0 h_5 hr_z0 h_6 hr_z1 h_7 hr_z2 h_8 hr_z3 h_9 hg_a h_10 hr_a h_11 hg_jr h_12 hr_jr h_13 hg_st h_14 hr_st h_15 hg_si h_16 hr_si h_17 hg_du h_18 hr_du h_19 hc_0 h_20 hc_1 h_21 hc_2 h_23 h_24 h_25 h_32 h_87 h_106 h_236 h_240 h_241 h_242 h_243 h_244 h_245 h_249 h_250 h_254 h_255 h_259 h_260 h_264 h_265 h_267 h_268 h_270 h_276 h_26 h_269; omega) | omega) (q_iconst c_166_36 (q_goto (t := 41) c_166_37 rfl ?_))))))))
                  refine v_zret c_166_41 rfl (by decide) (bk_inl (v_if_ne_t (t := 82) c_169_67 rfl (by decide) (q_iload_n c_169_82 rfl (v_bip c_169_83 (by decide) (v_ic_eq_t (t := 96) c_169_85 rfl (by first | exact q_7b7264bad h_236 hv | omega) (q_aload_n c_169_96 rfl (q_iconst c_169_97 ?_)))))))
                  refine q_aload_n c_169_98 rfl (v_gi (z := 4) (v := (nx F e1 a)) c_169_99 kf_8_108 rfl (Nat.le_of_ble_eq_true rfl) rfl rfl (hz_281) (v_cv c_169_102 km_8_138 rfl rfl (Nat.le_of_ble_eq_true rfl) ⟨⟨rfl, rfl⟩, Nat.le_of_ble_eq_true rfl, rfl⟩ (Nat.le_of_ble_eq_true rfl) (Nat.le_of_ble_eq_true rfl) (q_aload_n c_153_0 rfl ?_)))
                  have kn_342 : Hid (c_271 41 5 = (-1)) := (hF_273 41 5 (fun h => absurd h.2 (ni rfl))).trans (hc_1)
                  have kn_343 : Hid (c_278 41 5 = (-1)) := (hF_280 41 5 (fun h => absurd h.2 (ni rfl))).trans (hid kn_342)
                  refine v_gi (z := 5) (v := (-1)) c_153_1 kf_8_102 rfl (Nat.le_of_ble_eq_true rfl) rfl rfl (hid kn_343) (q_iconst c_153_4 (v_ic_eq_t (t := 9) c_153_5 rfl (by decide) (q_aload_n c_153_9 rfl (q_iload_n c_153_10 rfl (v_pi (z := 5) c_153_11 kf_8_102 rfl (Nat.le_of_ble_eq_true rfl) rfl rfl rfl (by decide) (q_aload_n c_153_14 rfl (q_iload_n c_153_15 rfl ?_)))))))
                  refine v_pi (z := 6) c_153_16 kf_8_105 rfl (Nat.le_of_ble_eq_true rfl) rfl rfl rfl (by decide) (q_vret rfl rfl (bk_inl (q_aload_n c_169_105 rfl (v_cv c_169_106 km_8_131 rfl rfl (Nat.le_of_ble_eq_true rfl) ⟨⟨rfl, rfl⟩, Nat.le_of_ble_eq_true rfl, rfl⟩ (Nat.le_of_ble_eq_true rfl) (Nat.le_of_ble_eq_true rfl) (q_aload_n c_152_0 rfl (v_gi (z := 5) (v := (nx F e1 a)) c_152_1 kf_8_102 rfl (Nat.le_of_ble_eq_true rfl) rfl rfl ((up_n (by decide)).trans (up_e rfl)) (q_iconst c_152_4 ?_)))))))
                  refine v_ic_ne_t (t := 12) c_152_5 rfl ⟨by first | exact q_1f202bb18 h_24 ha | omega, ⟨by first | exact q_378c2316e h_24 ha | omega, by first | exact q_783468581 h_244 h_245 | omega⟩, by decide, by decide⟩ (q_iconst c_152_12 (v_zret c_152_13 rfl (by decide) (bk_inl (v_if_ne_f (t := 115) c_169_109 rfl (by decide) (q_goto (t := 136) c_169_112 rfl (Wp_ls [(0, .ref 41), (1, vi a1)] (lsub_cons rfl (lsub_cons rfl lsub_nil)) ?_))))))
                  have hI_344 := iw_41_5 (v := (nx F e1 a)) hI_279 ⟨by first | exact q_9531afe7c h_24 ha | omega, by first | exact q_6094bb0fa h_244 h_245 | omega⟩
                  have hI_345 := iw_41_6 (v := 3) hI_344 ⟨by decide, by decide⟩
                  have h_346 : (up (up c_278 41 5 (nx F e1 a)) 41 6 3) 41 5 = (nx F e1 a) := ((up_n (by decide)).trans (up_e rfl))
                  have h_347 : (up (up c_278 41 5 (nx F e1 a)) 41 6 3) 41 4 = (nx F e1 a) := ((up_n (by decide)).trans ((up_n (by decide)).trans (hz_281)))
                  have h_348 : (up (up c_278 41 5 (nx F e1 a)) 41 6 3) 41 6 = 3 := (up_e rfl)
                  have kn_349 : Hid (c_271 41 16 = jr) := (hF_273 41 16 (fun h => absurd h.2 (ni rfl))).trans (hr_jr)
                  have kn_350 : Hid (c_278 41 16 = jr) := (hF_280 41 16 (fun h => absurd h.2 (ni rfl))).trans (hid kn_349)
                  have h_351 : (up (up c_278 41 5 (nx F e1 a)) 41 6 3) 41 16 = jr := ((up_n (by decide)).trans ((up_n (by decide)).trans (hid kn_350)))
                  have kn_352 : Hid (c_271 41 17 = st) := (hF_273 41 17 (fun h => absurd h.2 (ni rfl))).trans (hr_st)
                  have kn_353 : Hid (c_278 41 17 = st) := (hF_280 41 17 (fun h => absurd h.2 (ni rfl))).trans (hid kn_352)
                  have h_354 : (up (up c_278 41 5 (nx F e1 a)) 41 6 3) 41 17 = st := ((up_n (by decide)).trans ((up_n (by decide)).trans (hid kn_353)))
                  have kn_355 : Hid (c_271 41 18 = si) := (hF_273 41 18 (fun h => absurd h.2 (ni rfl))).trans (hr_si)
                  have kn_356 : Hid (c_278 41 18 = si) := (hF_280 41 18 (fun h => absurd h.2 (ni rfl))).trans (hid kn_355)
                  have h_357 : (up (up c_278 41 5 (nx F e1 a)) 41 6 3) 41 18 = si := ((up_n (by decide)).trans ((up_n (by decide)).trans (hid kn_356)))
                  have kn_358 : Hid (c_271 41 19 = du) := (hF_273 41 19 (fun h => absurd h.2 (ni rfl))).trans (hr_du)
                  have kn_359 : Hid (c_278 41 19 = du) := (hF_280 41 19 (fun h => absurd h.2 (ni rfl))).trans (hid kn_358)
                  have h_360 : (up (up c_278 41 5 (nx F e1 a)) 41 6 3) 41 19 = du := ((up_n (by decide)).trans ((up_n (by decide)).trans (hid kn_359)))
                  exact K (up (up c_278 41 5 (nx F e1 a)) 41 6 3)  hI_345 (fun a j hm => (up_b (Decidable.or_iff_not_imp_left.mpr (fun h1 h2 => hm (Or.inr (Or.inr (Or.inl ⟨Decidable.not_not.mp h1, h2⟩)))))).trans ((up_b (Decidable.or_iff_not_imp_left.mpr (fun h1 h2 => hm (Or.inr (Or.inl ⟨Decidable.not_not.mp h1, h2⟩))))).trans ((hF_280 a j (fun h => hm (Or.inl h))).trans ((hF_273 a j (fun h => hm (Or.inl h))).trans (hFc a j hm))))) (rt_i2 ⟨⟨by first | exact q_fcb6ff4be h_241 | omega, by first | exact q_c99d6ea93 h_240 | omega⟩, by first | exact q_88dc5fb99 h_245 | omega, by first | exact q_0a27ce016 h_24 h_245 ha | omega, by first | exact q_bff6e6fd4 h_240 h_241 | omega⟩) (Or.inr (Or.inl (by first | exact q_33afb0047 h_241 | omega)))
        · refine v_ic_eq_f (t := 53) c_34_41 rfl ⟨h_236, ⟨(Int.le_trans (by decide) hv.1), (Int.le_trans hv.2 (by decide))⟩, by decide, by decide⟩ (q_aload_n c_34_44 rfl (q_iload c_34_45 rfl (v_cv c_34_47 km_2_60 rfl (ck_p0 hA) (a68z hA) ⟨⟨rfl, rfl⟩, by decide, rfl⟩ (Nat.le_of_ble_eq_true rfl) (Nat.le_of_ble_eq_true rfl) (q_iload_n c_31_0 rfl ?_))))
          by_cases h_361 : (wd8_0 F (nx F e1 a) (ln F e1 (nx F e1 a))) = 0
          · as_aux_lemma =>
              skip
              refine v_tsw_i (t := 28) 0 c_31_1 (by omega) (by decide) rfl (by decide) (q_aload_n c_31_28 rfl ?_)
              have kn_362 : Hid (c_27 A 0 = jr) := (hF_29 A 0 (fun h => absurd h.1 (np0 hA rfl))).trans (hg_jr)
              have kn_363 : Hid (c_78 A 0 = jr) := (hF_80 A 0 (fun h => absurd h.1 (np0 hA rfl))).trans (hid kn_362)
              have kn_364 : Hid (c_103 A 0 = jr) := (hF_105 A 0 (qn_014d425e1 hA)).trans (hid kn_363)
              refine v_gi (z := 0) (v := jr) c_31_29 kf_2_81 (ck_p0 hA) (a68z hA) rfl rfl (hid kn_364) (v_bip c_31_32 (by decide) ?_)
              by_cases h_365 : jr ≠ 6
              · refine v_ic_ne_t (t := 41) c_31_34 rfl ⟨h_365, ⟨(Int.le_trans (by decide) hjr.1), (Int.le_trans hjr.2 (by decide))⟩, by decide, by decide⟩ (q_iconst c_31_41 (v_zret c_31_42 rfl (by decide) (bk_inl (v_if_eq_t (t := 59) c_34_50 rfl (by decide) (q_aload_n c_34_59 rfl (v_cv c_34_60 km_2_68 rfl rfl (Nat.le_of_ble_eq_true rfl) ⟨⟨rfl, rfl⟩, Nat.le_of_ble_eq_true rfl, rfl⟩ (Nat.le_of_ble_eq_true rfl) (Nat.le_of_ble_eq_true rfl) (q_aload_n c_2_0 rfl ?_)))))))
                refine v_gi (z := 4) (v := 0) c_2_1 kf_5_38 rfl (Nat.le_of_ble_eq_true rfl) rfl rfl (hz_109) (v_if_ne_f (t := 11) c_2_4 rfl (by decide) (q_iconst c_2_7 (q_goto (t := 12) c_2_8 rfl (v_zret c_2_12 rfl (by decide) (bk_inl (v_if_eq_f (t := 73) c_34_63 rfl (by decide) (q_aload_n c_34_66 rfl ?_)))))))
                refine q_aload_n c_34_67 rfl (q_iload c_34_68 rfl ?_)
                have hw_366 : (wd8_0 F (nx F e1 a) (ln F e1 (nx F e1 a))) = 0 := by omega
                rw [hw_366]
                have h_367 : c_103 A 0 = jr := (hid kn_364)
                have kn_368 : Hid (c_27 A 1 = st) := (hF_29 A 1 (fun h => absurd h.1 (np0 hA rfl))).trans (hg_st)
                have kn_369 : Hid (c_78 A 1 = st) := (hF_80 A 1 (fun h => absurd h.1 (np0 hA rfl))).trans (hid kn_368)
                have kn_370 : Hid (c_103 A 1 = st) := (hF_105 A 1 (qn_014d425e1 hA)).trans (hid kn_369)
                have h_371 : c_103 A 1 = st := (hid kn_370)
                have kn_372 : Hid (c_27 A 2 = si) := (hF_29 A 2 (fun h => absurd h.1 (np0 hA rfl))).trans (hg_si)
                have kn_373 : Hid (c_78 A 2 = si) := (hF_80 A 2 (fun h => absurd h.1 (np0 hA rfl))).trans (hid kn_372)
                have kn_374 : Hid (c_103 A 2 = si) := (hF_105 A 2 (qn_014d425e1 hA)).trans (hid kn_373)
                have h_375 : c_103 A 2 = si := (hid kn_374)
                refine v_cv c_34_70 km_2_71 rfl (ck_p0 hA) (a68z hA) ⟨⟨rfl, rfl⟩, by decide, rfl⟩ (Nat.le_of_ble_eq_true rfl) (Nat.le_of_ble_eq_true rfl) (fn_of (s_33 (a2 := 0) hI_104 hA (show 0 ≤ 0 ∧ 0 ≤ 100 from ⟨by decide, by decide⟩) (Or.inr (by first | exact q_0dbd48150 h_365 hjr | omega)) (Or.inl (by first | decide | omega)) (Or.inl (by first | decide | omega)) (fun c_376 hI_377 hF_378 => ?_)))
                intro hG_379
                refine bk_inl (q_aload_n c_34_73 rfl (q_ldc_s c_34_74 rfl rfl (by decide) ?_))
                have h_380 := ir_1_4 hI_377
                refine v_cv c_34_76 km_2_77 rfl rfl (Nat.le_of_ble_eq_true rfl) ⟨⟨rfl, rfl⟩, Nat.le_of_ble_eq_true rfl, rfl⟩ (Nat.le_of_ble_eq_true rfl) (Nat.le_of_ble_eq_true rfl) (fn_of (s_11 hI_377 (q := 9) (nt := 1) (by decide) (by decide) (by decide) (fun c_381 hI_382 hF_383 => ?_)))
                intro hG_384
                refine bk_inl (v_iinc (v := v + 1) c_34_79 rfl (Nat.le_of_ble_eq_true rfl) rfl (q_goto (t := 6) c_34_82 rfl ?_))
                have h_385 := ir_1_4 hI_382
                by_cases h_386 : c_381 1 4 = 0
                · skip
                  refine Wp_ls [(0, .ref A), (1, .ref 1), (2, vi (v + 1))] (lsub_cons rfl (lsub_cons rfl (lsub_cons rfl lsub_nil))) (gh_stop (s_34_l (sc := sc) (d := dh + 18) (c := c_381) (Z := fun _ => True) hI_382 hA (fun _ _ _ => trivial) 124 c_381 (v + 1) hI_382 (fun a j hm => rfl) ⟨by omega, by omega⟩ (by omega)) (fun hG_387 => (q_aload_n c_169_44 rfl (v_cv c_169_45 km_8_131 rfl rfl (Nat.le_of_ble_eq_true rfl) ⟨⟨rfl, rfl⟩, Nat.le_of_ble_eq_true rfl, rfl⟩ (Nat.le_of_ble_eq_true rfl) (Nat.le_of_ble_eq_true rfl) (q_aload_n c_152_0 rfl (v_gi (z := 5) (v := (-1)) c_152_1 kf_8_102 rfl (Nat.le_of_ble_eq_true rfl) rfl rfl (hc_1) (q_iconst c_152_4 (v_ic_ne_f (t := 12) c_152_5 rfl (by decide) ?_))))))))
                  refine q_iconst c_152_8 (q_goto (t := 13) c_152_9 rfl (v_zret c_152_13 rfl (by decide) (bk_inl (v_if_eq_f (t := 136) c_169_48 rfl (by decide) (q_aload_n c_169_51 rfl (v_cv c_169_52 km_8_211 rfl rfl (Nat.le_of_ble_eq_true rfl) ⟨⟨rfl, rfl⟩, Nat.le_of_ble_eq_true rfl, rfl⟩ (Nat.le_of_ble_eq_true rfl) (Nat.le_of_ble_eq_true rfl) (q_aload_n c_162_0 rfl ?_)))))))
                  have kn_388 : Hid (c2 41 3 = e1) := (hFc 41 3 qn_b860ee9cc).trans (hr_e1)
                  have h_389 : -2147483648 ≤ (H (nx F e1 a)) ∧ (H (nx F e1 a)) ≤ 2147483647 := by rw [← hH (nx F e1 a)]; exact ir_43 hI (nx F e1 a)
                  have h_390 := hU (nx F e1 a) (by first | exact q_a7eda21a5 h_24 ha | omega) (by first | exact q_6c5402073 h_2 h_32 hr_e1 | omega)
                  have h_391 := hb_or (b := H) (e := e1) (r := (nx F e1 a))
                  have h_392 := hb_bd (b := H) (e := e1) (r := (nx F e1 a)) (lo := -2147483648) (hi := 2147483647) h_389 (by decide)
                  refine v_cv c_162_1 km_8_114 rfl rfl (Nat.le_of_ble_eq_true rfl) ⟨⟨rfl, rfl⟩, Nat.le_of_ble_eq_true rfl, rfl⟩ (Nat.le_of_ble_eq_true rfl) (Nat.le_of_ble_eq_true rfl) (f_154 (e1 := e1) (a9 := a) (B := H) (r8 := (nx F e1 a)) (r := (hb H e1 (nx F e1 a))) hI2 ((hid kn_388)) ((hr_a)) (fun j => (hFc 43 j qn_8f9b78528).trans (hH j)) ((nx_tr hU (ha.1) ((rg_eq hg_e1 h_1).2)).trans (rfl)) rfl (fun c_393 hI_394 hF_395 h_396 => (bk_inl (q_pop c_162_4 rfl (q_aload_n c_162_5 rfl (v_gi (z := 4) (v := (nx F e1 a)) c_162_6 kf_8_108 rfl (Nat.le_of_ble_eq_true rfl) rfl rfl (h_396) (q_aload_n c_162_9 rfl ?_)))))))
                  have kn_397 : Hid (c_393 41 3 = e1) := (hF_395 41 3 (fun h => absurd h.2 (ni rfl))).trans (hid kn_388)
                  refine v_gi (z := 3) (v := e1) c_162_10 kf_8_111 rfl (Nat.le_of_ble_eq_true rfl) rfl rfl (hid kn_397) (v_ic_ge_f (t := 20) c_162_13 rfl ⟨by first | exact q_378c2316e h_24 ha | omega, by first | exact q_d17d18138 h_32 | omega, (Int.le_trans (rg_eq hg_e1 h_1).2 (by decide))⟩ (q_iconst c_162_16 (q_goto (t := 21) c_162_17 rfl (v_zret c_162_21 rfl (by decide) (bk_inl (v_if_eq_f (t := 136) c_169_55 rfl (by decide) (q_aload_n c_169_58 rfl ?_)))))))
                  have h_398 := wv_bd (b := F) (r := (nx F e1 a)) (l := (ln F e1 (nx F e1 a))) (fun j h1 h2 => ⟨(ln_in (e := e1) (a := (nx F e1 a)) h1 h2).1, (ln_in (e := e1) (a := (nx F e1 a)) h1 h2).2.1⟩)
                  have h_399 := wr8_0 (b := F) (r := (nx F e1 a)) (l := (ln F e1 (nx F e1 a))) (by first | exact q_18f17732a h_87 | omega) (fun j h1 h2 => ⟨(ln_in (e := e1) (a := (nx F e1 a)) h1 h2).1, (ln_in (e := e1) (a := (nx F e1 a)) h1 h2).2.1⟩) (by first | exact q_333b14bc4 h_107 h_361 | omega)
                  refine v_cv c_169_59 km_8_214 rfl rfl (Nat.le_of_ble_eq_true rfl) ⟨⟨rfl, rfl⟩, Nat.le_of_ble_eq_true rfl, rfl⟩ (Nat.le_of_ble_eq_true rfl) (Nat.le_of_ble_eq_true rfl) (f_157 (e1 := e1) (a9 := (nx F e1 a)) (B := H) (r8 := (nx F e1 a)) (L8 := (ln F e1 (nx F e1 a))) (W8 := (wv F (nx F e1 a) (ln F e1 (nx F e1 a)))) hI_394 ((hid kn_397)) ((h_396)) (fun j => ((hF_395 43 j (fun h => absurd h.1 (nn rfl))).trans (hFc 43 j qn_8f9b78528)).trans (hH j)) ((nx_tr hU (by first | exact q_a7eda21a5 h_24 ha | omega) ((rg_eq hg_e1 h_1).2)).trans ((nx_z (Or.inr (by first | exact q_b1e7f72d7 h_26 h_32 | omega))))) ((ln_tr hU (by first | exact q_a7eda21a5 h_24 ha | omega) ((rg_eq hg_e1 h_1).2)).trans (rfl)) ((wv_tr hU (by first | exact q_a7eda21a5 h_24 ha | omega) (by first | exact q_296ae6bb2 h_2 h_87 hr_e1 | omega) (fun j h1 h2 => ⟨(ln_in (e := e1) (a := (nx F e1 a)) h1 h2).1, (ln_in (e := e1) (a := (nx F e1 a)) h1 h2).2.1⟩)).trans (rfl)) (fun c_400 hI_401 hF_402 hz_403 => (bk_inl (q_istore_n c_169_62 (Nat.le_of_ble_eq_true rfl) (q_iload_n c_169_63 rfl (q_call c_169_64 rfl rfl rfl (q_iload_n c_166_0 rfl (q_ldc_s c_166_1 rfl rfl (by decide) (q_call c_166_3 rfl rfl rfl (s_158_16 ?_))))))))))
                  refine bk_inl (v_ic_eq_t (t := 36) c_166_6 rfl (by first | exact q_1a677bcda h_399 | omega) (q_iconst c_166_36 (q_goto (t := 41) c_166_37 rfl (v_zret c_166_41 rfl (by decide) (bk_inl (v_if_ne_t (t := 82) c_169_67 rfl (by decide) (q_iload_n c_169_82 rfl ?_)))))))
                  refine v_bip c_169_83 (by decide) (v_ic_eq_f (t := 96) c_169_85 rfl ⟨by first | exact q_ed39b118e h_236 hv | omega, ⟨(Int.le_trans (by decide) hv.1), (Int.le_trans hv.2 (by decide))⟩, by decide, by decide⟩ (q_aload_n c_169_88 rfl (q_iload_n c_169_89 rfl (v_cv c_169_90 km_8_220 rfl rfl (Nat.le_of_ble_eq_true rfl) ⟨⟨rfl, rfl⟩, Nat.le_of_ble_eq_true rfl, rfl⟩ (Nat.le_of_ble_eq_true rfl) (Nat.le_of_ble_eq_true rfl) (q_iload_n c_167_0 rfl (q_ldc_s c_167_1 rfl rfl (by decide) (q_call c_167_3 rfl rfl rfl (s_158_16 ?_))))))))
                  refine bk_inl (v_ic_ne_f (t := 26) c_167_6 rfl (by first | exact q_1a677bcda h_399 | omega) (q_aload_n c_167_9 rfl ?_))
                  have kn_404 : Hid (c_393 41 16 = jr) := (hF_395 41 16 (fun h => absurd h.2 (ni rfl))).trans (hr_jr)
                  have kn_405 : Hid (c_400 41 16 = jr) := (hF_402 41 16 (fun h => absurd h.2 (ni rfl))).trans (hid kn_404)
                  refine v_gi (z := 16) (v := jr) c_167_10 kf_8_145 rfl (Nat.le_of_ble_eq_true rfl) rfl rfl (hid kn_405) (v_bip c_167_13 (by decide) (v_ic_ne_t (t := 22) c_167_15 rfl ⟨by first | exact q_418321cfe h_365 hjr | omega, ⟨(Int.le_trans (by decide) hjr.1), (Int.le_trans hjr.2 (by decide))⟩, by decide, by decide⟩ (q_iconst c_167_22 (q_goto (t := 73) c_167_23 rfl (v_zret c_167_73 rfl (by decide) (bk_inl (v_if_eq_t (t := 105) c_169_93 rfl (by decide) ?_)))))))
                  refine q_aload_n c_169_105 rfl (v_cv c_169_106 km_8_131 rfl rfl (Nat.le_of_ble_eq_true rfl) ⟨⟨rfl, rfl⟩, Nat.le_of_ble_eq_true rfl, rfl⟩ (Nat.le_of_ble_eq_true rfl) (Nat.le_of_ble_eq_true rfl) (q_aload_n c_152_0 rfl ?_))
                  have kn_406 : Hid (c_393 41 5 = (-1)) := (hF_395 41 5 (fun h => absurd h.2 (ni rfl))).trans (hc_1)
                  have kn_407 : Hid (c_400 41 5 = (-1)) := (hF_402 41 5 (fun h => absurd h.2 (ni rfl))).trans (hid kn_406)
                  refine v_gi (z := 5) (v := (-1)) c_152_1 kf_8_102 rfl (Nat.le_of_ble_eq_true rfl) rfl rfl (hid kn_407) (q_iconst c_152_4 (v_ic_ne_f (t := 12) c_152_5 rfl (by decide) (q_iconst c_152_8 (q_goto (t := 13) c_152_9 rfl (v_zret c_152_13 rfl (by decide) (bk_inl (v_if_ne_t (t := 115) c_169_109 rfl (by decide) ?_)))))))
                  refine q_aload_n c_169_115 rfl ?_
                  have kn_408 : Hid (c_400 41 3 = e1) := (hF_402 41 3 (fun h => absurd h.2 (ni rfl))).trans (hid kn_397)
                  refine v_cv c_169_116 km_8_223 rfl rfl (Nat.le_of_ble_eq_true rfl) ⟨⟨rfl, rfl⟩, Nat.le_of_ble_eq_true rfl, rfl⟩ (Nat.le_of_ble_eq_true rfl) (Nat.le_of_ble_eq_true rfl) (f_159 (e1 := e1) (a9 := (nx F e1 a)) (B := H) (L8 := (ln F e1 (nx F e1 a))) hI_401 ((hid kn_408)) ((hz_403)) (fun j => ((hF_402 43 j (fun h => absurd h.1 (nn rfl))).trans ((hF_395 43 j (fun h => absurd h.1 (nn rfl))).trans (hFc 43 j qn_8f9b78528))).trans (hH j)) ((ln_tr hU (by first | exact q_a7eda21a5 h_24 ha | omega) ((rg_eq hg_e1 h_1).2)).trans (rfl)) (fun c_409 hI_410 hF_411 hz_412 => (bk_inl (q_aload_n c_169_119 rfl (q_iload_n c_169_120 rfl ?_)))))
                  have hw_413 : (wv F (nx F e1 a) (ln F e1 (nx F e1 a))) = 10290 := by omega
                  rw [hw_413]
                  have kn_414 : Hid (c_103 1 1 = e1) := (hF_105 1 1 qn_b782e6d88).trans (hid kn_82)
                  have kn_415 : Hid (c_409 41 3 = e1) := (hF_411 41 3 (fun h => absurd h.2 (ni rfl))).trans (hid kn_408)
                  have kn_416 : Hid (c_409 41 16 = jr) := (hF_411 41 16 (fun h => absurd h.2 (ni rfl))).trans (hid kn_405)
                  have kn_417 : Hid (c_393 41 17 = st) := (hF_395 41 17 (fun h => absurd h.2 (ni rfl))).trans (hr_st)
                  have kn_418 : Hid (c_400 41 17 = st) := (hF_402 41 17 (fun h => absurd h.2 (ni rfl))).trans (hid kn_417)
                  have kn_419 : Hid (c_409 41 17 = st) := (hF_411 41 17 (fun h => absurd h.2 (ni rfl))).trans (hid kn_418)
                  have kn_420 : Hid (c_393 41 18 = si) := (hF_395 41 18 (fun h => absurd h.2 (ni rfl))).trans (hr_si)
                  have kn_421 : Hid (c_400 41 18 = si) := (hF_402 41 18 (fun h => absurd h.2 (ni rfl))).trans (hid kn_420)
                  have kn_422 : Hid (c_409 41 18 = si) := (hF_411 41 18 (fun h => absurd h.2 (ni rfl))).trans (hid kn_421)
                  have kn_423 : Hid (c_27 A 3 = du) := (hF_29 A 3 (fun h => absurd h.1 (np0 hA rfl))).trans (hg_du)
                  have kn_424 : Hid (c_78 A 3 = du) := (hF_80 A 3 (fun h => absurd h.1 (np0 hA rfl))).trans (hid kn_423)
                  have kn_425 : Hid (c_103 A 3 = du) := (hF_105 A 3 (qn_014d425e1 hA)).trans (hid kn_424)
                  have kn_426 : Hid (c_393 41 19 = du) := (hF_395 41 19 (fun h => absurd h.2 (ni rfl))).trans (hr_du)
                  have kn_427 : Hid (c_400 41 19 = du) := (hF_402 41 19 (fun h => absurd h.2 (ni rfl))).trans (hid kn_426)
                  have kn_428 : Hid (c_409 41 19 = du) := (hF_411 41 19 (fun h => absurd h.2 (ni rfl))).trans (hid kn_427)
                  have h_429 : c_103 1 4 = 0 := (hz_109)
                  have h_430 : c_103 1 2 = (ln F e1 (nx F e1 a)) := (hz_108)
                  have h_431 : c_103 1 5 = (-1) := (hz_110)
                  have kn_432 : Hid (c_409 41 5 = (-1)) := (hF_411 41 5 (fun h => absurd h.2 (ni rfl))).trans (hid kn_407)
                  have h_433 : c_409 41 5 = (-1) := (hid kn_432)
                  have h_434 : c_409 41 4 = (ln F e1 (nx F e1 a)) := (hz_412)
                  have h_435 := ir_41_6 hI2
                  have kn_436 : Hid (c_393 41 6 = c2 41 6) := hF_395 41 6 (fun h => absurd h.2 (ni rfl))
                  have kn_437 : Hid (c_400 41 6 = c2 41 6) := (hF_402 41 6 (fun h => absurd h.2 (ni rfl))).trans (hid kn_436)
                  have kn_438 : Hid (c_409 41 6 = c2 41 6) := (hF_411 41 6 (fun h => absurd h.2 (ni rfl))).trans (hid kn_437)
                  have h_439 : c_409 41 6 = c2 41 6 := (hid kn_438)
                  refine v_cv c_169_121 km_8_226 rfl rfl (Nat.le_of_ble_eq_true rfl) ⟨⟨rfl, rfl⟩, Nat.le_of_ble_eq_true rfl, rfl⟩ (Nat.le_of_ble_eq_true rfl) (Nat.le_of_ble_eq_true rfl) (L_33_0 (m := c_103) (e1 := e1) (jr := jr) (st := st) (si := si) (du := du) (F := F) (H := H) hI_410 hI_104 hI_377 hA (by first | exact q_0dbd48150 h_365 hjr | omega) ((hid kn_414)) ((hid kn_415)) ((hid kn_364)) ((hid kn_416)) ((hid kn_370)) ((hid kn_419)) ((hid kn_374)) ((hid kn_422)) ((hid kn_425)) ((hid kn_428)) (fun j => ((hF_105 2 j qn_e2b123f84).trans ((hF_80 2 j (fun h => absurd h.1 (nn rfl))).trans ((hF_29 2 j (fun h => absurd h.1 (nn rfl))).trans (hFm 2 j (qn_64622c99c hA))))).trans (hF j)) (fun j => ((hF_411 43 j (fun h => absurd h.1 (nn rfl))).trans ((hF_402 43 j (fun h => absurd h.1 (nn rfl))).trans ((hF_395 43 j (fun h => absurd h.1 (nn rfl))).trans (hFc 43 j qn_8f9b78528)))).trans (hH j)) hU (rt_i1 ⟨by first | assumption | omega, by first | assumption | omega, by first | assumption | omega, by first | assumption | omega⟩) hG_379 (fun c_440 hI_441 hF_442 hR_444 h_445 h_446 h_447 h_448 => (bk_inl ?_)))
                  have h_449 := ir_41_16 hI_441
                  have h_450 := ir_p0_0 hI_377 hA
                  have h_451 := ir_41_17 hI_441
                  have h_452 := ir_p0_1 hI_377 hA
                  have h_453 := ir_41_18 hI_441
                  have h_454 := ir_p0_2 hI_377 hA
                  have h_455 := ir_41_19 hI_441
                  have h_456 := ir_p0_3 hI_377 hA
                  refine q_aload_n c_169_124 rfl (v_bip c_169_125 (by decide) ?_)
                  have kn_457 : Hid (c_376 1 1 = e1) := (hF_378 1 1 (qn_68bac1c70 hA)).trans (hid kn_414)
                  have kn_458 : Hid (c_440 41 3 = e1) := (hF_442 41 3 qn_b860ee9cc).trans (hid kn_415)
                  have h_459 := ir_1_2 hI_377
                  refine v_cv c_169_127 km_8_229 rfl rfl (Nat.le_of_ble_eq_true rfl) ⟨⟨rfl, rfl⟩, Nat.le_of_ble_eq_true rfl, rfl⟩ (Nat.le_of_ble_eq_true rfl) (Nat.le_of_ble_eq_true rfl) (L_11_9 (m := c_376) (e1 := e1) (a9 := c_376 1 2) (f0 := c_376 1 4) (F := F) (H := H) hI_441 hI_377 hI_382 ((hid kn_457)) ((hid kn_458)) (rfl) (rfl) (fun j => ((hF_378 2 j (qn_2292ef66f hA)).trans ((hF_105 2 j qn_e2b123f84).trans ((hF_80 2 j (fun h => absurd h.1 (nn rfl))).trans ((hF_29 2 j (fun h => absurd h.1 (nn rfl))).trans (hFm 2 j (qn_64622c99c hA)))))).trans (hF j)) (fun j => ((hF_442 43 j qn_8f9b78528).trans ((hF_411 43 j (fun h => absurd h.1 (nn rfl))).trans ((hF_402 43 j (fun h => absurd h.1 (nn rfl))).trans ((hF_395 43 j (fun h => absurd h.1 (nn rfl))).trans (hFc 43 j qn_8f9b78528))))).trans (hH j)) hU hR_444 hG_384 (fun c_460 hI_461 hF_462 hR_464 h_465 h_466 => (bk_inl ?_)))
                  have h_467 := ir_1_2 hI_382
                  refine v_iinc (v := v + 1) c_169_130 rfl (Nat.le_of_ble_eq_true rfl) rfl (q_goto (t := 44) c_169_133 rfl (Wp_ls [(0, .ref 41), (1, vi a1), (2, vi (v + 1))] (lsub_cons rfl (lsub_cons rfl (lsub_cons rfl lsub_nil))) ?_))
                  have h_468 := ir_41_4 hI_461
                  have h_469 := ir_1_5 hI_382
                  have h_470 := ir_41_5 hI_461
                  have h_471 := ir_41_6 hI_461
                  have h_472 := rt_ok hR_464 (by first | exact q_f6b658f58 h_385 h_386 | omega)
                  have hro_hR_464 := rt_ok hR_464 (by first | exact q_f6b658f58 h_385 h_386 | omega)
                  have kn_473 : Hid (c_381 A 0 = c_376 A 0) := hF_383 A 0 (qn_014d425e1 hA)
                  have kn_474 : Hid (c_460 41 16 = c_440 41 16) := hF_462 41 16 qn_e8809db5e
                  have kn_475 : Hid (c_381 A 1 = c_376 A 1) := hF_383 A 1 (qn_014d425e1 hA)
                  have kn_476 : Hid (c_460 41 17 = c_440 41 17) := hF_462 41 17 qn_a870196d2
                  have kn_477 : Hid (c_381 A 2 = c_376 A 2) := hF_383 A 2 (qn_014d425e1 hA)
                  have kn_478 : Hid (c_460 41 18 = c_440 41 18) := hF_462 41 18 qn_d8f940cfc
                  have kn_479 : Hid (c_381 A 3 = c_376 A 3) := hF_383 A 3 (qn_014d425e1 hA)
                  have kn_480 : Hid (c_460 41 19 = c_440 41 19) := hF_462 41 19 qn_f6eda7af3
                  exact ih c_460 c_381 (v + 1) (c_381 1 2) (c_376 A 0) (c_376 A 1) (c_376 A 2) (c_376 A 3) hI_461 (fun a j hm => (hF_462 a j (qv_e105a9b19 hm)).trans ((hF_442 a j hm).trans ((hF_411 a j (fun h => hm (Or.inl h))).trans ((hF_402 a j (fun h => hm (Or.inl h))).trans ((hF_395 a j (fun h => hm (Or.inl h))).trans (hFc a j hm)))))) hI_382 (fun a j hm => (hF_383 a j (qv_69188b0c2 hm)).trans ((hF_378 a j (qv_967ad9091 hm)).trans ((hF_105 a j (qv_69188b0c2 hm)).trans ((hF_80 a j (fun h => hm (Or.inl h))).trans ((hF_29 a j (fun h => hm (Or.inl h))).trans (hFm a j hm)))))) ⟨by first | exact rgp_l hv.1 (by decide) | omega, by first | exact q_a69d2ea54 h_236 hv | omega⟩ h_467 h_450 h_452 h_454 h_456 (rfl) (hro_hR_464.2.2.1) ((hid kn_473)) ((show _ = c_440 41 16 from (hid kn_474)).trans (by first | assumption | exact Int.le_antisymm (by first | exact q_f91efb75c h_445 | omega) (by first | exact q_f85ce3c92 h_445 | omega))) ((hid kn_475)) ((show _ = c_440 41 17 from (hid kn_476)).trans (by first | assumption | exact Int.le_antisymm (by first | exact q_f91efb75c h_446 | omega) (by first | exact q_f85ce3c92 h_446 | omega))) ((hid kn_477)) ((show _ = c_440 41 18 from (hid kn_478)).trans (by first | assumption | exact Int.le_antisymm (by first | exact q_f91efb75c h_447 | omega) (by first | exact q_f85ce3c92 h_447 | omega))) ((hid kn_479)) ((show _ = c_440 41 19 from (hid kn_480)).trans (by first | assumption | exact Int.le_antisymm (by first | exact q_f91efb75c h_448 | omega) (by first | exact q_f85ce3c92 h_448 | omega))) ((show _ = c_381 1 4 from rfl).trans (by first | assumption | exact Int.le_antisymm (by first | exact q_d1e538aa4 h_386 | omega) (by first | exact q_eb3a7ad7a h_385 | omega))) (hro_hR_464.2.1) ((show _ = c_381 1 5 from rfl).trans (by first | assumption | exact Int.le_antisymm (by first | exact q_10f95419d h_472 | omega) (by first | exact q_3d8b3e7e9 h_469 | omega))) hG_387 (by omega)
                · skip
                  refine q_iload_n c_34_6 rfl (v_bip c_34_7 (by decide) (v_ic_gt_f (t := 85) c_34_9 rfl ⟨by first | exact rgp_l hv.1 (by decide) | omega, by first | exact q_a69d2ea54 h_236 hv | omega, by decide⟩ (q_aload_n c_34_12 rfl (v_cv c_34_13 km_2_44 rfl rfl (Nat.le_of_ble_eq_true rfl) ⟨⟨rfl, rfl⟩, Nat.le_of_ble_eq_true rfl, rfl⟩ (Nat.le_of_ble_eq_true rfl) (Nat.le_of_ble_eq_true rfl) (q_aload_n c_15_0 rfl (v_cv c_15_1 km_5_45 rfl rfl (Nat.le_of_ble_eq_true rfl) ⟨⟨rfl, rfl⟩, Nat.le_of_ble_eq_true rfl, rfl⟩ (Nat.le_of_ble_eq_true rfl) (Nat.le_of_ble_eq_true rfl) (q_aload_n c_2_0 rfl ?_)))))))
                  refine v_gi (z := 4) (v := c_381 1 4) c_2_1 kf_5_38 rfl (Nat.le_of_ble_eq_true rfl) rfl rfl rfl (v_if_ne_t (t := 11) c_2_4 rfl ⟨by first | exact q_106d90f3b h_385 h_386 | omega, ⟨(Int.le_trans (by decide) h_385.1), (Int.le_trans h_385.2 (by decide))⟩, by decide, by decide⟩ (q_iconst c_2_11 (v_zret c_2_12 rfl (by decide) (bk_inl (v_if_eq_t (t := 22) c_15_4 rfl (by decide) (q_iconst c_15_22 (v_zret c_15_23 rfl (by decide) ?_)))))))
                  refine bk_inl (v_if_eq_t (t := 85) c_34_16 rfl (by decide) (q_vret rfl rfl ?_))
                  intro hE_481
                  have hW : Wd P Q P P c_381 = Wd P Q P P m9 := (Prod.mk.inj (Prod.mk.inj hE_481).2).1
                  have h_482 := ir_1_4 hJ9
                  have h_483 : m9 1 4 = c_381 1 4 := wd_fv (z := 4) 4 rfl hW rfl rfl rfl rfl (by decide) rfl ⟨(Int.le_trans (by decide) h_385.1), (Int.le_trans h_385.2 (by decide))⟩ ⟨(Int.le_trans (by decide) h_482.1), (Int.le_trans h_482.2 (by decide))⟩
                  have h_484 := ir_1_2 hI_382
                  have h_485 := ir_1_2 hJ9
                  have h_486 : m9 1 2 = c_381 1 2 := wd_fv (z := 2) 2 rfl hW rfl rfl rfl rfl (by decide) rfl ⟨(Int.le_trans (by decide) h_484.1), (Int.le_trans h_484.2 (by decide))⟩ ⟨(Int.le_trans (by decide) h_485.1), (Int.le_trans h_485.2 (by decide))⟩
                  have h_487 := ir_1_5 hI_382
                  have h_488 := ir_1_5 hJ9
                  have h_489 : m9 1 5 = c_381 1 5 := wd_fv (z := 5) 5 rfl hW rfl rfl rfl rfl (by decide) rfl ⟨(Int.le_trans (by decide) h_487.1), (Int.le_trans h_487.2 (by decide))⟩ ⟨(Int.le_trans (by decide) h_488.1), (Int.le_trans h_488.2 (by decide))⟩
                  have h_490 := ir_p0_0 hI_377 hA
                  have kn_491 : Hid (c_381 A 0 = c_376 A 0) := hF_383 A 0 (qn_014d425e1 hA)
                  have h_492 := ir_p0_0 hJ9 hA
                  have h_493 : m9 A 0 = c_376 A 0 := wd_fv (z := 0) 0 rfl hW (ck_p0 hA) (ck_p0 hA) rfl rfl (a68z hA) (hid kn_491) ⟨by first | exact q_730ab5169 h_490 | omega, by first | exact q_b289b7db2 h_490 | omega⟩ ⟨(Int.le_trans (by decide) h_492.1), (Int.le_trans h_492.2 (by decide))⟩
                  have h_494 := ir_p0_1 hI_377 hA
                  have kn_495 : Hid (c_381 A 1 = c_376 A 1) := hF_383 A 1 (qn_014d425e1 hA)
                  have h_496 := ir_p0_1 hJ9 hA
                  have h_497 : m9 A 1 = c_376 A 1 := wd_fv (z := 1) 1 rfl hW (ck_p0 hA) (ck_p0 hA) rfl rfl (a68z hA) (hid kn_495) ⟨by first | exact q_0bfe68f8e h_494 | omega, by first | exact q_82d4f69ff h_494 | omega⟩ ⟨(Int.le_trans (by decide) h_496.1), (Int.le_trans h_496.2 (by decide))⟩
                  have h_498 := ir_p0_2 hI_377 hA
                  have kn_499 : Hid (c_381 A 2 = c_376 A 2) := hF_383 A 2 (qn_014d425e1 hA)
                  have h_500 := ir_p0_2 hJ9 hA
                  have h_501 : m9 A 2 = c_376 A 2 := wd_fv (z := 2) 2 rfl hW (ck_p0 hA) (ck_p0 hA) rfl rfl (a68z hA) (hid kn_499) ⟨by first | exact q_0bfe68f8e h_498 | omega, by first | exact q_82d4f69ff h_498 | omega⟩ ⟨(Int.le_trans (by decide) h_500.1), (Int.le_trans h_500.2 (by decide))⟩
                  have h_502 := ir_p0_3 hI_377 hA
                  have kn_503 : Hid (c_381 A 3 = c_376 A 3) := hF_383 A 3 (qn_014d425e1 hA)
                  have h_504 := ir_p0_3 hJ9 hA
                  have h_505 : m9 A 3 = c_376 A 3 := wd_fv (z := 3) 3 rfl hW (ck_p0 hA) (ck_p0 hA) rfl rfl (a68z hA) (hid kn_503) ⟨by first | exact q_fe18d6d95 h_502 | omega, by first | exact q_5d4e5294a h_502 | omega⟩ ⟨(Int.le_trans (by decide) h_504.1), (Int.le_trans h_504.2 (by decide))⟩
                  refine q_aload_n c_169_44 rfl (v_cv c_169_45 km_8_131 rfl rfl (Nat.le_of_ble_eq_true rfl) ⟨⟨rfl, rfl⟩, Nat.le_of_ble_eq_true rfl, rfl⟩ (Nat.le_of_ble_eq_true rfl) (Nat.le_of_ble_eq_true rfl) (q_aload_n c_152_0 rfl (v_gi (z := 5) (v := (-1)) c_152_1 kf_8_102 rfl (Nat.le_of_ble_eq_true rfl) rfl rfl (hc_1) (q_iconst c_152_4 (v_ic_ne_f (t := 12) c_152_5 rfl (by decide) (q_iconst c_152_8 (q_goto (t := 13) c_152_9 rfl ?_)))))))
                  refine v_zret c_152_13 rfl (by decide) (bk_inl (v_if_eq_f (t := 136) c_169_48 rfl (by decide) (q_aload_n c_169_51 rfl (v_cv c_169_52 km_8_211 rfl rfl (Nat.le_of_ble_eq_true rfl) ⟨⟨rfl, rfl⟩, Nat.le_of_ble_eq_true rfl, rfl⟩ (Nat.le_of_ble_eq_true rfl) (Nat.le_of_ble_eq_true rfl) (q_aload_n c_162_0 rfl ?_)))))
                  have kn_506 : Hid (c2 41 3 = e1) := (hFc 41 3 qn_b860ee9cc).trans (hr_e1)
                  have h_507 : -2147483648 ≤ (H (nx F e1 a)) ∧ (H (nx F e1 a)) ≤ 2147483647 := by rw [← hH (nx F e1 a)]; exact ir_43 hI (nx F e1 a)
                  have h_508 := hU (nx F e1 a) (by first | exact q_a7eda21a5 h_24 ha | omega) (by first | exact q_6c5402073 h_1 h_32 hg_e1 | omega)
                  have h_509 := hb_or (b := H) (e := e1) (r := (nx F e1 a))
                  have h_510 := hb_bd (b := H) (e := e1) (r := (nx F e1 a)) (lo := -2147483648) (hi := 2147483647) h_507 (by decide)
                  refine v_cv c_162_1 km_8_114 rfl rfl (Nat.le_of_ble_eq_true rfl) ⟨⟨rfl, rfl⟩, Nat.le_of_ble_eq_true rfl, rfl⟩ (Nat.le_of_ble_eq_true rfl) (Nat.le_of_ble_eq_true rfl) (f_154 (e1 := e1) (a9 := a) (B := H) (r8 := (nx F e1 a)) (r := (hb H e1 (nx F e1 a))) hI2 ((hid kn_506)) ((hr_a)) (fun j => (hFc 43 j qn_8f9b78528).trans (hH j)) ((nx_tr hU (ha.1) ((rg_eq hg_e1 h_1).2)).trans (rfl)) rfl (fun c_511 hI_512 hF_513 h_514 => (bk_inl (q_pop c_162_4 rfl (q_aload_n c_162_5 rfl (v_gi (z := 4) (v := (nx F e1 a)) c_162_6 kf_8_108 rfl (Nat.le_of_ble_eq_true rfl) rfl rfl (h_514) (q_aload_n c_162_9 rfl ?_)))))))
                  have kn_515 : Hid (c_511 41 3 = e1) := (hF_513 41 3 (fun h => absurd h.2 (ni rfl))).trans (hid kn_506)
                  refine v_gi (z := 3) (v := e1) c_162_10 kf_8_111 rfl (Nat.le_of_ble_eq_true rfl) rfl rfl (hid kn_515) (v_ic_ge_f (t := 20) c_162_13 rfl ⟨by first | exact q_378c2316e h_24 ha | omega, by first | exact q_d17d18138 h_32 | omega, (Int.le_trans (rg_eq hg_e1 h_1).2 (by decide))⟩ (q_iconst c_162_16 (q_goto (t := 21) c_162_17 rfl (v_zret c_162_21 rfl (by decide) (bk_inl (v_if_eq_f (t := 136) c_169_55 rfl (by decide) (q_aload_n c_169_58 rfl ?_)))))))
                  have h_516 := wv_bd (b := F) (r := (nx F e1 a)) (l := (ln F e1 (nx F e1 a))) (fun j h1 h2 => ⟨(ln_in (e := e1) (a := (nx F e1 a)) h1 h2).1, (ln_in (e := e1) (a := (nx F e1 a)) h1 h2).2.1⟩)
                  have h_517 := wr8_0 (b := F) (r := (nx F e1 a)) (l := (ln F e1 (nx F e1 a))) (by first | exact q_18f17732a h_87 | omega) (fun j h1 h2 => ⟨(ln_in (e := e1) (a := (nx F e1 a)) h1 h2).1, (ln_in (e := e1) (a := (nx F e1 a)) h1 h2).2.1⟩) (by first | exact q_333b14bc4 h_107 h_361 | omega)
                  refine v_cv c_169_59 km_8_214 rfl rfl (Nat.le_of_ble_eq_true rfl) ⟨⟨rfl, rfl⟩, Nat.le_of_ble_eq_true rfl, rfl⟩ (Nat.le_of_ble_eq_true rfl) (Nat.le_of_ble_eq_true rfl) (f_157 (e1 := e1) (a9 := (nx F e1 a)) (B := H) (r8 := (nx F e1 a)) (L8 := (ln F e1 (nx F e1 a))) (W8 := (wv F (nx F e1 a) (ln F e1 (nx F e1 a)))) hI_512 ((hid kn_515)) ((h_514)) (fun j => ((hF_513 43 j (fun h => absurd h.1 (nn rfl))).trans (hFc 43 j qn_8f9b78528)).trans (hH j)) ((nx_tr hU (by first | exact q_a7eda21a5 h_24 ha | omega) ((rg_eq hg_e1 h_1).2)).trans ((nx_z (Or.inr (by first | exact q_b1e7f72d7 h_26 h_32 | omega))))) ((ln_tr hU (by first | exact q_a7eda21a5 h_24 ha | omega) ((rg_eq hg_e1 h_1).2)).trans (rfl)) ((wv_tr hU (by first | exact q_a7eda21a5 h_24 ha | omega) (by first | exact q_296ae6bb2 h_1 h_87 hg_e1 | omega) (fun j h1 h2 => ⟨(ln_in (e := e1) (a := (nx F e1 a)) h1 h2).1, (ln_in (e := e1) (a := (nx F e1 a)) h1 h2).2.1⟩)).trans (rfl)) (fun c_518 hI_519 hF_520 hz_521 => (bk_inl (q_istore_n c_169_62 (Nat.le_of_ble_eq_true rfl) (q_iload_n c_169_63 rfl (q_call c_169_64 rfl rfl rfl (q_iload_n c_166_0 rfl (q_ldc_s c_166_1 rfl rfl (by decide) (q_call c_166_3 rfl rfl rfl (s_158_16 ?_))))))))))
                  refine bk_inl (v_ic_eq_t (t := 36) c_166_6 rfl (by first | exact q_1a677bcda h_517 | omega) (q_iconst c_166_36 (q_goto (t := 41) c_166_37 rfl (v_zret c_166_41 rfl (by decide) (bk_inl (v_if_ne_t (t := 82) c_169_67 rfl (by decide) (q_iload_n c_169_82 rfl ?_)))))))
                  refine v_bip c_169_83 (by decide) (v_ic_eq_f (t := 96) c_169_85 rfl ⟨by first | exact q_ed39b118e h_236 hv | omega, ⟨(Int.le_trans (by decide) hv.1), (Int.le_trans hv.2 (by decide))⟩, by decide, by decide⟩ (q_aload_n c_169_88 rfl (q_iload_n c_169_89 rfl (v_cv c_169_90 km_8_220 rfl rfl (Nat.le_of_ble_eq_true rfl) ⟨⟨rfl, rfl⟩, Nat.le_of_ble_eq_true rfl, rfl⟩ (Nat.le_of_ble_eq_true rfl) (Nat.le_of_ble_eq_true rfl) (q_iload_n c_167_0 rfl (q_ldc_s c_167_1 rfl rfl (by decide) (q_call c_167_3 rfl rfl rfl (s_158_16 ?_))))))))
                  refine bk_inl (v_ic_ne_f (t := 26) c_167_6 rfl (by first | exact q_1a677bcda h_517 | omega) (q_aload_n c_167_9 rfl ?_))
                  have kn_522 : Hid (c_511 41 16 = jr) := (hF_513 41 16 (fun h => absurd h.2 (ni rfl))).trans (hr_jr)
                  have kn_523 : Hid (c_518 41 16 = jr) := (hF_520 41 16 (fun h => absurd h.2 (ni rfl))).trans (hid kn_522)
                  refine v_gi (z := 16) (v := jr) c_167_10 kf_8_145 rfl (Nat.le_of_ble_eq_true rfl) rfl rfl (hid kn_523) (v_bip c_167_13 (by decide) (v_ic_ne_t (t := 22) c_167_15 rfl ⟨by first | exact q_418321cfe h_365 hjr | omega, ⟨(Int.le_trans (by decide) hjr.1), (Int.le_trans hjr.2 (by decide))⟩, by decide, by decide⟩ (q_iconst c_167_22 (q_goto (t := 73) c_167_23 rfl (v_zret c_167_73 rfl (by decide) (bk_inl (v_if_eq_t (t := 105) c_169_93 rfl (by decide) ?_)))))))
                  refine q_aload_n c_169_105 rfl (v_cv c_169_106 km_8_131 rfl rfl (Nat.le_of_ble_eq_true rfl) ⟨⟨rfl, rfl⟩, Nat.le_of_ble_eq_true rfl, rfl⟩ (Nat.le_of_ble_eq_true rfl) (Nat.le_of_ble_eq_true rfl) (q_aload_n c_152_0 rfl ?_))
                  have kn_524 : Hid (c_511 41 5 = (-1)) := (hF_513 41 5 (fun h => absurd h.2 (ni rfl))).trans (hc_1)
                  have kn_525 : Hid (c_518 41 5 = (-1)) := (hF_520 41 5 (fun h => absurd h.2 (ni rfl))).trans (hid kn_524)
                  refine v_gi (z := 5) (v := (-1)) c_152_1 kf_8_102 rfl (Nat.le_of_ble_eq_true rfl) rfl rfl (hid kn_525) (q_iconst c_152_4 (v_ic_ne_f (t := 12) c_152_5 rfl (by decide) (q_iconst c_152_8 (q_goto (t := 13) c_152_9 rfl (v_zret c_152_13 rfl (by decide) (bk_inl (v_if_ne_t (t := 115) c_169_109 rfl (by decide) ?_)))))))
                  refine q_aload_n c_169_115 rfl ?_
                  have kn_526 : Hid (c_518 41 3 = e1) := (hF_520 41 3 (fun h => absurd h.2 (ni rfl))).trans (hid kn_515)
                  refine v_cv c_169_116 km_8_223 rfl rfl (Nat.le_of_ble_eq_true rfl) ⟨⟨rfl, rfl⟩, Nat.le_of_ble_eq_true rfl, rfl⟩ (Nat.le_of_ble_eq_true rfl) (Nat.le_of_ble_eq_true rfl) (f_159 (e1 := e1) (a9 := (nx F e1 a)) (B := H) (L8 := (ln F e1 (nx F e1 a))) hI_519 ((hid kn_526)) ((hz_521)) (fun j => ((hF_520 43 j (fun h => absurd h.1 (nn rfl))).trans ((hF_513 43 j (fun h => absurd h.1 (nn rfl))).trans (hFc 43 j qn_8f9b78528))).trans (hH j)) ((ln_tr hU (by first | exact q_a7eda21a5 h_24 ha | omega) ((rg_eq hg_e1 h_1).2)).trans (rfl)) (fun c_527 hI_528 hF_529 hz_530 => (bk_inl (q_aload_n c_169_119 rfl (q_iload_n c_169_120 rfl ?_)))))
                  have hw_531 : (wv F (nx F e1 a) (ln F e1 (nx F e1 a))) = 10290 := by omega
                  rw [hw_531]
                  have kn_532 : Hid (c_103 1 1 = e1) := (hF_105 1 1 qn_b782e6d88).trans (hid kn_82)
                  have kn_533 : Hid (c_527 41 3 = e1) := (hF_529 41 3 (fun h => absurd h.2 (ni rfl))).trans (hid kn_526)
                  have kn_534 : Hid (c_527 41 16 = jr) := (hF_529 41 16 (fun h => absurd h.2 (ni rfl))).trans (hid kn_523)
                  have kn_535 : Hid (c_511 41 17 = st) := (hF_513 41 17 (fun h => absurd h.2 (ni rfl))).trans (hr_st)
                  have kn_536 : Hid (c_518 41 17 = st) := (hF_520 41 17 (fun h => absurd h.2 (ni rfl))).trans (hid kn_535)
                  have kn_537 : Hid (c_527 41 17 = st) := (hF_529 41 17 (fun h => absurd h.2 (ni rfl))).trans (hid kn_536)
                  have kn_538 : Hid (c_511 41 18 = si) := (hF_513 41 18 (fun h => absurd h.2 (ni rfl))).trans (hr_si)
                  have kn_539 : Hid (c_518 41 18 = si) := (hF_520 41 18 (fun h => absurd h.2 (ni rfl))).trans (hid kn_538)
                  have kn_540 : Hid (c_527 41 18 = si) := (hF_529 41 18 (fun h => absurd h.2 (ni rfl))).trans (hid kn_539)
                  have kn_541 : Hid (c_27 A 3 = du) := (hF_29 A 3 (fun h => absurd h.1 (np0 hA rfl))).trans (hg_du)
                  have kn_542 : Hid (c_78 A 3 = du) := (hF_80 A 3 (fun h => absurd h.1 (np0 hA rfl))).trans (hid kn_541)
                  have kn_543 : Hid (c_103 A 3 = du) := (hF_105 A 3 (qn_014d425e1 hA)).trans (hid kn_542)
                  have kn_544 : Hid (c_511 41 19 = du) := (hF_513 41 19 (fun h => absurd h.2 (ni rfl))).trans (hr_du)
                  have kn_545 : Hid (c_518 41 19 = du) := (hF_520 41 19 (fun h => absurd h.2 (ni rfl))).trans (hid kn_544)
                  have kn_546 : Hid (c_527 41 19 = du) := (hF_529 41 19 (fun h => absurd h.2 (ni rfl))).trans (hid kn_545)
                  have h_547 : c_103 1 4 = 0 := (hz_109)
                  have h_548 : c_103 1 2 = (ln F e1 (nx F e1 a)) := (hz_108)
                  have h_549 : c_103 1 5 = (-1) := (hz_110)
                  have kn_550 : Hid (c_527 41 5 = (-1)) := (hF_529 41 5 (fun h => absurd h.2 (ni rfl))).trans (hid kn_525)
                  have h_551 : c_527 41 5 = (-1) := (hid kn_550)
                  have h_552 : c_527 41 4 = (ln F e1 (nx F e1 a)) := (hz_530)
                  have h_553 := ir_41_6 hI2
                  have kn_554 : Hid (c_511 41 6 = c2 41 6) := hF_513 41 6 (fun h => absurd h.2 (ni rfl))
                  have kn_555 : Hid (c_518 41 6 = c2 41 6) := (hF_520 41 6 (fun h => absurd h.2 (ni rfl))).trans (hid kn_554)
                  have kn_556 : Hid (c_527 41 6 = c2 41 6) := (hF_529 41 6 (fun h => absurd h.2 (ni rfl))).trans (hid kn_555)
                  have h_557 : c_527 41 6 = c2 41 6 := (hid kn_556)
                  refine v_cv c_169_121 km_8_226 rfl rfl (Nat.le_of_ble_eq_true rfl) ⟨⟨rfl, rfl⟩, Nat.le_of_ble_eq_true rfl, rfl⟩ (Nat.le_of_ble_eq_true rfl) (Nat.le_of_ble_eq_true rfl) (L_33_0 (m := c_103) (e1 := e1) (jr := jr) (st := st) (si := si) (du := du) (F := F) (H := H) hI_528 hI_104 hI_377 hA (by first | exact q_0dbd48150 h_365 hjr | omega) ((hid kn_532)) ((hid kn_533)) ((hid kn_364)) ((hid kn_534)) ((hid kn_370)) ((hid kn_537)) ((hid kn_374)) ((hid kn_540)) ((hid kn_543)) ((hid kn_546)) (fun j => ((hF_105 2 j qn_e2b123f84).trans ((hF_80 2 j (fun h => absurd h.1 (nn rfl))).trans ((hF_29 2 j (fun h => absurd h.1 (nn rfl))).trans (hFm 2 j (qn_64622c99c hA))))).trans (hF j)) (fun j => ((hF_529 43 j (fun h => absurd h.1 (nn rfl))).trans ((hF_520 43 j (fun h => absurd h.1 (nn rfl))).trans ((hF_513 43 j (fun h => absurd h.1 (nn rfl))).trans (hFc 43 j qn_8f9b78528)))).trans (hH j)) hU (rt_i1 ⟨by first | assumption | omega, by first | assumption | omega, by first | assumption | omega, by first | assumption | omega⟩) hG_379 (fun c_558 hI_559 hF_560 hR_562 h_563 h_564 h_565 h_566 => (bk_inl ?_)))
                  have h_567 := ir_41_16 hI_559
                  have h_568 := ir_41_17 hI_559
                  have h_569 := ir_41_18 hI_559
                  have h_570 := ir_41_19 hI_559
                  refine q_aload_n c_169_124 rfl (v_bip c_169_125 (by decide) ?_)
                  have kn_571 : Hid (c_376 1 1 = e1) := (hF_378 1 1 (qn_68bac1c70 hA)).trans (hid kn_532)
                  have kn_572 : Hid (c_558 41 3 = e1) := (hF_560 41 3 qn_b860ee9cc).trans (hid kn_533)
                  have h_573 := ir_1_2 hI_377
                  refine v_cv c_169_127 km_8_229 rfl rfl (Nat.le_of_ble_eq_true rfl) ⟨⟨rfl, rfl⟩, Nat.le_of_ble_eq_true rfl, rfl⟩ (Nat.le_of_ble_eq_true rfl) (Nat.le_of_ble_eq_true rfl) (L_11_9 (m := c_376) (e1 := e1) (a9 := c_376 1 2) (f0 := c_376 1 4) (F := F) (H := H) hI_559 hI_377 hI_382 ((hid kn_571)) ((hid kn_572)) (rfl) (rfl) (fun j => ((hF_378 2 j (qn_2292ef66f hA)).trans ((hF_105 2 j qn_e2b123f84).trans ((hF_80 2 j (fun h => absurd h.1 (nn rfl))).trans ((hF_29 2 j (fun h => absurd h.1 (nn rfl))).trans (hFm 2 j (qn_64622c99c hA)))))).trans (hF j)) (fun j => ((hF_560 43 j qn_8f9b78528).trans ((hF_529 43 j (fun h => absurd h.1 (nn rfl))).trans ((hF_520 43 j (fun h => absurd h.1 (nn rfl))).trans ((hF_513 43 j (fun h => absurd h.1 (nn rfl))).trans (hFc 43 j qn_8f9b78528))))).trans (hH j)) hU hR_562 hG_384 (fun c_574 hI_575 hF_576 hR_578 h_579 h_580 => (bk_inl (v_iinc (v := v + 1) c_169_130 rfl (Nat.le_of_ble_eq_true rfl) rfl (q_goto (t := 44) c_169_133 rfl (q_aload_n c_169_44 rfl (v_cv c_169_45 km_8_131 rfl rfl (Nat.le_of_ble_eq_true rfl) ⟨⟨rfl, rfl⟩, Nat.le_of_ble_eq_true rfl, rfl⟩ (Nat.le_of_ble_eq_true rfl) (Nat.le_of_ble_eq_true rfl) (q_aload_n c_152_0 rfl ?_))))))))
                  have h_581 := ir_41_5 hI_575
                  have h_582 := ir_41_4 hI_575
                  have h_583 := ir_41_6 hI_575
                  have h_584 := rt_bad hR_578 (by first | exact q_106d90f3b h_385 h_386 | omega)
                  have hrb_hR_578 := rt_bad hR_578 (by first | exact q_f7b7d720f h_584 | omega)
                  refine v_gi (z := 5) (v := c_381 1 5) c_152_1 kf_8_102 rfl (Nat.le_of_ble_eq_true rfl) rfl rfl hrb_hR_578.2.1 (q_iconst c_152_4 (v_ic_ne_t (t := 12) c_152_5 rfl ⟨by first | exact q_0f78863d3 h_584 | omega, ⟨(Int.le_trans (by decide) h_487.1), (Int.le_trans h_487.2 (by decide))⟩, by decide, by decide⟩ (q_iconst c_152_12 (v_zret c_152_13 rfl (by decide) (bk_inl (v_if_eq_t (t := 136) c_169_48 rfl (by decide) (Wp_ls [(0, .ref 41), (1, vi a1)] (lsub_cons rfl (lsub_cons rfl lsub_nil)) ?_)))))))
                  have h_585 : c_574 41 5 = c_381 1 5 := hrb_hR_578.2.1
                  have h_586 : c_574 41 6 = c_381 1 4 := hrb_hR_578.2.2.2
                  have kn_587 : Hid (c_574 41 16 = c_558 41 16) := hF_576 41 16 qn_e8809db5e
                  have h_588 : c_574 41 16 = c_558 41 16 := (hid kn_587)
                  have kn_589 : Hid (c_574 41 17 = c_558 41 17) := hF_576 41 17 qn_a870196d2
                  have h_590 : c_574 41 17 = c_558 41 17 := (hid kn_589)
                  have kn_591 : Hid (c_574 41 18 = c_558 41 18) := hF_576 41 18 qn_d8f940cfc
                  have h_592 : c_574 41 18 = c_558 41 18 := (hid kn_591)
                  have kn_593 : Hid (c_574 41 19 = c_558 41 19) := hF_576 41 19 qn_f6eda7af3
                  have h_594 : c_574 41 19 = c_558 41 19 := (hid kn_593)
                  exact K c_574  hI_575 (fun a j hm => (hF_576 a j (qv_e105a9b19 hm)).trans ((hF_560 a j hm).trans ((hF_529 a j (fun h => hm (Or.inl h))).trans ((hF_520 a j (fun h => hm (Or.inl h))).trans ((hF_513 a j (fun h => hm (Or.inl h))).trans (hFc a j hm)))))) (rt_i2 ⟨⟨by first | exact q_c4ab36c8d h_483 h_584 | omega, by first | exact q_c99d6ea93 h_482 | omega⟩, by first | exact q_88dc5fb99 h_489 | omega, by first | exact q_cb71117a2 h_489 h_584 | omega, by first | exact q_88dc5fb99 h_483 | omega⟩) (Or.inr (Or.inl (by first | exact q_374cd1df9 h_483 h_584 | omega)))
              · refine v_ic_ne_f (t := 41) c_31_34 rfl (Decidable.not_not.mp h_365) (q_iconst c_31_37 (q_goto (t := 42) c_31_38 rfl (v_zret c_31_42 rfl (by decide) (bk_inl (v_if_eq_f (t := 59) c_34_50 rfl (by decide) (q_aload_n c_34_53 rfl (q_iconst c_34_54 ?_)))))))
                refine q_iload_n c_34_55 rfl (v_cv c_34_56 km_2_64 rfl rfl (Nat.le_of_ble_eq_true rfl) ⟨⟨rfl, rfl⟩, Nat.le_of_ble_eq_true rfl, rfl⟩ (Nat.le_of_ble_eq_true rfl) (Nat.le_of_ble_eq_true rfl) (q_aload_n c_7_0 rfl (v_gi (z := 4) (v := 0) c_7_1 kf_5_38 rfl (Nat.le_of_ble_eq_true rfl) rfl rfl (hz_109) (v_if_ne_f (t := 17) c_7_4 rfl (by decide) (q_aload_n c_7_7 rfl (q_iload_n c_7_8 rfl (v_pi (z := 4) c_7_9 kf_5_38 rfl (Nat.le_of_ble_eq_true rfl) rfl rfl rfl (by decide) ?_)))))))
                refine q_aload_n c_7_12 rfl (q_iload_n c_7_13 rfl (v_pi (z := 5) c_7_14 kf_5_15 rfl (Nat.le_of_ble_eq_true rfl) rfl rfl rfl (by decide) (q_vret rfl rfl (bk_inl (q_aload_n c_34_59 rfl (v_cv c_34_60 km_2_68 rfl rfl (Nat.le_of_ble_eq_true rfl) ⟨⟨rfl, rfl⟩, Nat.le_of_ble_eq_true rfl, rfl⟩ (Nat.le_of_ble_eq_true rfl) (Nat.le_of_ble_eq_true rfl) (q_aload_n c_2_0 rfl ?_)))))))
                refine v_gi (z := 4) (v := 3) c_2_1 kf_5_38 rfl (Nat.le_of_ble_eq_true rfl) rfl rfl ((up_n (by decide)).trans (up_e rfl)) (v_if_ne_t (t := 11) c_2_4 rfl (by decide) (q_iconst c_2_11 (v_zret c_2_12 rfl (by decide) (bk_inl (v_if_eq_t (t := 73) c_34_63 rfl (by decide) (q_aload_n c_34_73 rfl (q_ldc_s c_34_74 rfl rfl (by decide) ?_)))))))
                refine v_cv c_34_76 km_2_77 rfl rfl (Nat.le_of_ble_eq_true rfl) ⟨⟨rfl, rfl⟩, Nat.le_of_ble_eq_true rfl, rfl⟩ (Nat.le_of_ble_eq_true rfl) (Nat.le_of_ble_eq_true rfl) (q_aload_n c_11_0 rfl (v_cv c_11_1 km_5_45 rfl rfl (Nat.le_of_ble_eq_true rfl) ⟨⟨rfl, rfl⟩, Nat.le_of_ble_eq_true rfl, rfl⟩ (Nat.le_of_ble_eq_true rfl) (Nat.le_of_ble_eq_true rfl) (q_aload_n c_2_0 rfl (v_gi (z := 4) (v := 3) c_2_1 kf_5_38 rfl (Nat.le_of_ble_eq_true rfl) rfl rfl ((up_n (by decide)).trans (up_e rfl)) (v_if_ne_t (t := 11) c_2_4 rfl (by decide) (q_iconst c_2_11 (v_zret c_2_12 rfl (by decide) ?_)))))))
                refine bk_inl (v_if_eq_t (t := 25) c_11_4 rfl (by decide) (q_vret rfl rfl (bk_inl (v_iinc (v := v + 1) c_34_79 rfl (Nat.le_of_ble_eq_true rfl) rfl (q_goto (t := 6) c_34_82 rfl (q_iload_n c_34_6 rfl (v_bip c_34_7 (by decide) ?_)))))))
                refine v_ic_gt_f (t := 85) c_34_9 rfl ⟨by first | exact rgp_l hv.1 (by decide) | omega, by first | exact q_a69d2ea54 h_236 hv | omega, by decide⟩ (q_aload_n c_34_12 rfl (v_cv c_34_13 km_2_44 rfl rfl (Nat.le_of_ble_eq_true rfl) ⟨⟨rfl, rfl⟩, Nat.le_of_ble_eq_true rfl, rfl⟩ (Nat.le_of_ble_eq_true rfl) (Nat.le_of_ble_eq_true rfl) (q_aload_n c_15_0 rfl (v_cv c_15_1 km_5_45 rfl rfl (Nat.le_of_ble_eq_true rfl) ⟨⟨rfl, rfl⟩, Nat.le_of_ble_eq_true rfl, rfl⟩ (Nat.le_of_ble_eq_true rfl) (Nat.le_of_ble_eq_true rfl) (q_aload_n c_2_0 rfl (v_gi (z := 4) (v := 3) c_2_1 kf_5_38 rfl (Nat.le_of_ble_eq_true rfl) rfl rfl ((up_n (by decide)).trans (up_e rfl)) (v_if_ne_t (t := 11) c_2_4 rfl (by decide) ?_)))))))
                refine q_iconst c_2_11 (v_zret c_2_12 rfl (by decide) (bk_inl (v_if_eq_t (t := 22) c_15_4 rfl (by decide) (q_iconst c_15_22 (v_zret c_15_23 rfl (by decide) (bk_inl (v_if_eq_t (t := 85) c_34_16 rfl (by decide) ?_)))))))
                refine q_vret rfl rfl ?_
                have hI_595 := iw_1_4 (v := 3) hI_104 ⟨by decide, by decide⟩
                have hI_596 := iw_1_5 (v := (nx F e1 a)) hI_595 ⟨by first | exact q_9531afe7c h_24 ha | omega, by first | exact q_8ee92dabb h_2 h_32 hr_e1 | omega⟩
                intro hE_597
                have hW : Wd P Q P P (up (up c_103 1 4 3) 1 5 (nx F e1 a)) = Wd P Q P P m9 := (Prod.mk.inj (Prod.mk.inj hE_597).2).1
                have h_598 := ir_1_4 hJ9
                have h_599 : m9 1 4 = 3 := wd_fv (z := 4) 4 rfl hW rfl rfl rfl rfl (by decide) ((up_n (by decide)).trans (up_e rfl)) ⟨by decide, by decide⟩ ⟨(Int.le_trans (by decide) h_598.1), (Int.le_trans h_598.2 (by decide))⟩
                have h_600 := ir_1_2 hJ9
                have h_601 : m9 1 2 = (ln F e1 (nx F e1 a)) := wd_fv (z := 2) 2 rfl hW rfl rfl rfl rfl (by decide) ((up_n (by decide)).trans ((up_n (by decide)).trans (hz_108))) ⟨by first | exact q_db1b60104 h_24 h_87 ha | omega, by first | exact q_285f5cce7 h_1 h_87 hg_e1 | omega⟩ ⟨(Int.le_trans (by decide) h_600.1), (Int.le_trans h_600.2 (by decide))⟩
                have h_602 := ir_1_5 hJ9
                have h_603 : m9 1 5 = (nx F e1 a) := wd_fv (z := 5) 5 rfl hW rfl rfl rfl rfl (by decide) (up_e rfl) ⟨by first | exact q_378c2316e h_24 ha | omega, by first | exact q_f47c0b92d h_1 h_32 hg_e1 | omega⟩ ⟨(Int.le_trans (by decide) h_602.1), (Int.le_trans h_602.2 (by decide))⟩
                have h_604 := ir_p0_0 hJ9 hA
                have h_605 : m9 A 0 = jr := wd_fv (z := 0) 0 rfl hW (ck_p0 hA) (ck_p0 hA) rfl rfl (a68z hA) ((up_c (np0 hA rfl)).trans ((up_c (np0 hA rfl)).trans (hid kn_364))) ⟨(Int.le_trans (by decide) hjr.1), (Int.le_trans hjr.2 (by decide))⟩ ⟨(Int.le_trans (by decide) h_604.1), (Int.le_trans h_604.2 (by decide))⟩
                have kn_606 : Hid (c_27 A 1 = st) := (hF_29 A 1 (fun h => absurd h.1 (np0 hA rfl))).trans (hg_st)
                have kn_607 : Hid (c_78 A 1 = st) := (hF_80 A 1 (fun h => absurd h.1 (np0 hA rfl))).trans (hid kn_606)
                have kn_608 : Hid (c_103 A 1 = st) := (hF_105 A 1 (qn_014d425e1 hA)).trans (hid kn_607)
                have h_609 := ir_p0_1 hJ9 hA
                have h_610 : m9 A 1 = st := wd_fv (z := 1) 1 rfl hW (ck_p0 hA) (ck_p0 hA) rfl rfl (a68z hA) ((up_c (np0 hA rfl)).trans ((up_c (np0 hA rfl)).trans (hid kn_608))) ⟨(Int.le_trans (by decide) hst.1), (Int.le_trans hst.2 (by decide))⟩ ⟨(Int.le_trans (by decide) h_609.1), (Int.le_trans h_609.2 (by decide))⟩
                have kn_611 : Hid (c_27 A 2 = si) := (hF_29 A 2 (fun h => absurd h.1 (np0 hA rfl))).trans (hg_si)
                have kn_612 : Hid (c_78 A 2 = si) := (hF_80 A 2 (fun h => absurd h.1 (np0 hA rfl))).trans (hid kn_611)
                have kn_613 : Hid (c_103 A 2 = si) := (hF_105 A 2 (qn_014d425e1 hA)).trans (hid kn_612)
                have h_614 := ir_p0_2 hJ9 hA
                have h_615 : m9 A 2 = si := wd_fv (z := 2) 2 rfl hW (ck_p0 hA) (ck_p0 hA) rfl rfl (a68z hA) ((up_c (np0 hA rfl)).trans ((up_c (np0 hA rfl)).trans (hid kn_613))) ⟨(Int.le_trans (by decide) hsi.1), (Int.le_trans hsi.2 (by decide))⟩ ⟨(Int.le_trans (by decide) h_614.1), (Int.le_trans h_614.2 (by decide))⟩
                have kn_616 : Hid (c_27 A 3 = du) := (hF_29 A 3 (fun h => absurd h.1 (np0 hA rfl))).trans (hg_du)
                have kn_617 : Hid (c_78 A 3 = du) := (hF_80 A 3 (fun h => absurd h.1 (np0 hA rfl))).trans (hid kn_616)
                have kn_618 : Hid (c_103 A 3 = du) := (hF_105 A 3 (qn_014d425e1 hA)).trans (hid kn_617)
                have h_619 := ir_p0_3 hJ9 hA
                have h_620 : m9 A 3 = du := wd_fv (z := 3) 3 rfl hW (ck_p0 hA) (ck_p0 hA) rfl rfl (a68z hA) ((up_c (np0 hA rfl)).trans ((up_c (np0 hA rfl)).trans (hid kn_618))) ⟨(Int.le_trans (by decide) hdu.1), (Int.le_trans hdu.2 (by decide))⟩ ⟨(Int.le_trans (by decide) h_619.1), (Int.le_trans h_619.2 (by decide))⟩
                refine q_aload_n c_169_44 rfl (v_cv c_169_45 km_8_131 rfl rfl (Nat.le_of_ble_eq_true rfl) ⟨⟨rfl, rfl⟩, Nat.le_of_ble_eq_true rfl, rfl⟩ (Nat.le_of_ble_eq_true rfl) (Nat.le_of_ble_eq_true rfl) (q_aload_n c_152_0 rfl (v_gi (z := 5) (v := (-1)) c_152_1 kf_8_102 rfl (Nat.le_of_ble_eq_true rfl) rfl rfl (hc_1) (q_iconst c_152_4 (v_ic_ne_f (t := 12) c_152_5 rfl (by decide) (q_iconst c_152_8 (q_goto (t := 13) c_152_9 rfl ?_)))))))
                refine v_zret c_152_13 rfl (by decide) (bk_inl (v_if_eq_f (t := 136) c_169_48 rfl (by decide) (q_aload_n c_169_51 rfl (v_cv c_169_52 km_8_211 rfl rfl (Nat.le_of_ble_eq_true rfl) ⟨⟨rfl, rfl⟩, Nat.le_of_ble_eq_true rfl, rfl⟩ (Nat.le_of_ble_eq_true rfl) (Nat.le_of_ble_eq_true rfl) (q_aload_n c_162_0 rfl ?_)))))
                have kn_621 : Hid (c2 41 3 = e1) := (hFc 41 3 qn_b860ee9cc).trans (hr_e1)
                have h_622 : -2147483648 ≤ (H (nx F e1 a)) ∧ (H (nx F e1 a)) ≤ 2147483647 := by rw [← hH (nx F e1 a)]; exact ir_43 hI (nx F e1 a)
                have h_623 := hU (nx F e1 a) (by first | exact q_a7eda21a5 h_24 ha | omega) (by first | exact q_6c5402073 h_1 h_32 hg_e1 | omega)
                have h_624 := hb_or (b := H) (e := e1) (r := (nx F e1 a))
                have h_625 := hb_bd (b := H) (e := e1) (r := (nx F e1 a)) (lo := -2147483648) (hi := 2147483647) h_622 (by decide)
                refine v_cv c_162_1 km_8_114 rfl rfl (Nat.le_of_ble_eq_true rfl) ⟨⟨rfl, rfl⟩, Nat.le_of_ble_eq_true rfl, rfl⟩ (Nat.le_of_ble_eq_true rfl) (Nat.le_of_ble_eq_true rfl) (f_154 (e1 := e1) (a9 := a) (B := H) (r8 := (nx F e1 a)) (r := (hb H e1 (nx F e1 a))) hI2 ((hid kn_621)) ((hr_a)) (fun j => (hFc 43 j qn_8f9b78528).trans (hH j)) ((nx_tr hU (ha.1) ((rg_eq hg_e1 h_1).2)).trans (rfl)) rfl (fun c_626 hI_627 hF_628 h_629 => (bk_inl (q_pop c_162_4 rfl (q_aload_n c_162_5 rfl (v_gi (z := 4) (v := (nx F e1 a)) c_162_6 kf_8_108 rfl (Nat.le_of_ble_eq_true rfl) rfl rfl (h_629) (q_aload_n c_162_9 rfl ?_)))))))
                have kn_630 : Hid (c_626 41 3 = e1) := (hF_628 41 3 (fun h => absurd h.2 (ni rfl))).trans (hid kn_621)
                refine v_gi (z := 3) (v := e1) c_162_10 kf_8_111 rfl (Nat.le_of_ble_eq_true rfl) rfl rfl (hid kn_630) (v_ic_ge_f (t := 20) c_162_13 rfl ⟨by first | exact q_378c2316e h_24 ha | omega, by first | exact q_d17d18138 h_32 | omega, (Int.le_trans (rg_eq hg_e1 h_1).2 (by decide))⟩ (q_iconst c_162_16 (q_goto (t := 21) c_162_17 rfl (v_zret c_162_21 rfl (by decide) (bk_inl (v_if_eq_f (t := 136) c_169_55 rfl (by decide) (q_aload_n c_169_58 rfl ?_)))))))
                have h_631 := wv_bd (b := F) (r := (nx F e1 a)) (l := (ln F e1 (nx F e1 a))) (fun j h1 h2 => ⟨(ln_in (e := e1) (a := (nx F e1 a)) h1 h2).1, (ln_in (e := e1) (a := (nx F e1 a)) h1 h2).2.1⟩)
                have h_632 := wr8_0 (b := F) (r := (nx F e1 a)) (l := (ln F e1 (nx F e1 a))) (by first | exact q_18f17732a h_87 | omega) (fun j h1 h2 => ⟨(ln_in (e := e1) (a := (nx F e1 a)) h1 h2).1, (ln_in (e := e1) (a := (nx F e1 a)) h1 h2).2.1⟩) (by first | exact q_333b14bc4 h_107 h_361 | omega)
                refine v_cv c_169_59 km_8_214 rfl rfl (Nat.le_of_ble_eq_true rfl) ⟨⟨rfl, rfl⟩, Nat.le_of_ble_eq_true rfl, rfl⟩ (Nat.le_of_ble_eq_true rfl) (Nat.le_of_ble_eq_true rfl) (f_157 (e1 := e1) (a9 := (nx F e1 a)) (B := H) (r8 := (nx F e1 a)) (L8 := (ln F e1 (nx F e1 a))) (W8 := (wv F (nx F e1 a) (ln F e1 (nx F e1 a)))) hI_627 ((hid kn_630)) ((h_629)) (fun j => ((hF_628 43 j (fun h => absurd h.1 (nn rfl))).trans (hFc 43 j qn_8f9b78528)).trans (hH j)) ((nx_tr hU (by first | exact q_a7eda21a5 h_24 ha | omega) ((rg_eq hg_e1 h_1).2)).trans ((nx_z (Or.inr (by first | exact q_b1e7f72d7 h_26 h_32 | omega))))) ((ln_tr hU (by first | exact q_a7eda21a5 h_24 ha | omega) ((rg_eq hg_e1 h_1).2)).trans (rfl)) ((wv_tr hU (by first | exact q_a7eda21a5 h_24 ha | omega) (by first | exact q_93d3e60a8 h_600 h_601 | omega) (fun j h1 h2 => ⟨(ln_in (e := e1) (a := (nx F e1 a)) h1 h2).1, (ln_in (e := e1) (a := (nx F e1 a)) h1 h2).2.1⟩)).trans (rfl)) (fun c_633 hI_634 hF_635 hz_636 => (bk_inl (q_istore_n c_169_62 (Nat.le_of_ble_eq_true rfl) (q_iload_n c_169_63 rfl (q_call c_169_64 rfl rfl rfl (q_iload_n c_166_0 rfl (q_ldc_s c_166_1 rfl rfl (by decide) (q_call c_166_3 rfl rfl rfl (s_158_16 ?_))))))))))
                refine bk_inl (v_ic_eq_t (t := 36) c_166_6 rfl (by first | exact q_1a677bcda h_632 | omega) (q_iconst c_166_36 (q_goto (t := 41) c_166_37 rfl (v_zret c_166_41 rfl (by decide) (bk_inl (v_if_ne_t (t := 82) c_169_67 rfl (by decide) (q_iload_n c_169_82 rfl ?_)))))))
                refine v_bip c_169_83 (by decide) (v_ic_eq_f (t := 96) c_169_85 rfl ⟨by first | exact q_ed39b118e h_236 hv | omega, ⟨(Int.le_trans (by decide) hv.1), (Int.le_trans hv.2 (by decide))⟩, by decide, by decide⟩ (q_aload_n c_169_88 rfl (q_iload_n c_169_89 rfl (v_cv c_169_90 km_8_220 rfl rfl (Nat.le_of_ble_eq_true rfl) ⟨⟨rfl, rfl⟩, Nat.le_of_ble_eq_true rfl, rfl⟩ (Nat.le_of_ble_eq_true rfl) (Nat.le_of_ble_eq_true rfl) (q_iload_n c_167_0 rfl (q_ldc_s c_167_1 rfl rfl (by decide) (q_call c_167_3 rfl rfl rfl (s_158_16 ?_))))))))
                refine bk_inl (v_ic_ne_f (t := 26) c_167_6 rfl (by first | exact q_1a677bcda h_632 | omega) (q_aload_n c_167_9 rfl ?_))
                have kn_637 : Hid (c_626 41 16 = jr) := (hF_628 41 16 (fun h => absurd h.2 (ni rfl))).trans (hr_jr)
                have kn_638 : Hid (c_633 41 16 = jr) := (hF_635 41 16 (fun h => absurd h.2 (ni rfl))).trans (hid kn_637)
                refine v_gi (z := 16) (v := jr) c_167_10 kf_8_145 rfl (Nat.le_of_ble_eq_true rfl) rfl rfl (hid kn_638) (v_bip c_167_13 (by decide) (v_ic_ne_f (t := 22) c_167_15 rfl (by first | exact q_315ec9623 h_365 hjr | omega) (q_iconst c_167_18 (q_goto (t := 73) c_167_19 rfl (v_zret c_167_73 rfl (by decide) (bk_inl (v_if_eq_f (t := 105) c_169_93 rfl (by decide) ?_)))))))
                refine q_aload_n c_169_96 rfl (q_iconst c_169_97 (q_aload_n c_169_98 rfl (v_gi (z := 4) (v := (nx F e1 a)) c_169_99 kf_8_108 rfl (Nat.le_of_ble_eq_true rfl) rfl rfl (hz_636) (v_cv c_169_102 km_8_138 rfl rfl (Nat.le_of_ble_eq_true rfl) ⟨⟨rfl, rfl⟩, Nat.le_of_ble_eq_true rfl, rfl⟩ (Nat.le_of_ble_eq_true rfl) (Nat.le_of_ble_eq_true rfl) (q_aload_n c_153_0 rfl ?_)))))
                have kn_639 : Hid (c_626 41 5 = (-1)) := (hF_628 41 5 (fun h => absurd h.2 (ni rfl))).trans (hc_1)
                have kn_640 : Hid (c_633 41 5 = (-1)) := (hF_635 41 5 (fun h => absurd h.2 (ni rfl))).trans (hid kn_639)
                refine v_gi (z := 5) (v := (-1)) c_153_1 kf_8_102 rfl (Nat.le_of_ble_eq_true rfl) rfl rfl (hid kn_640) (q_iconst c_153_4 (v_ic_eq_t (t := 9) c_153_5 rfl (by decide) (q_aload_n c_153_9 rfl (q_iload_n c_153_10 rfl (v_pi (z := 5) c_153_11 kf_8_102 rfl (Nat.le_of_ble_eq_true rfl) rfl rfl rfl (by decide) (q_aload_n c_153_14 rfl (q_iload_n c_153_15 rfl ?_)))))))
                refine v_pi (z := 6) c_153_16 kf_8_105 rfl (Nat.le_of_ble_eq_true rfl) rfl rfl rfl (by decide) (q_vret rfl rfl (bk_inl (q_aload_n c_169_105 rfl (v_cv c_169_106 km_8_131 rfl rfl (Nat.le_of_ble_eq_true rfl) ⟨⟨rfl, rfl⟩, Nat.le_of_ble_eq_true rfl, rfl⟩ (Nat.le_of_ble_eq_true rfl) (Nat.le_of_ble_eq_true rfl) (q_aload_n c_152_0 rfl (v_gi (z := 5) (v := (nx F e1 a)) c_152_1 kf_8_102 rfl (Nat.le_of_ble_eq_true rfl) rfl rfl ((up_n (by decide)).trans (up_e rfl)) (q_iconst c_152_4 ?_)))))))
                refine v_ic_ne_t (t := 12) c_152_5 rfl ⟨by first | exact q_1f202bb18 h_24 ha | omega, ⟨by first | exact q_378c2316e h_24 ha | omega, by first | exact q_783468581 h_602 h_603 | omega⟩, by decide, by decide⟩ (q_iconst c_152_12 (v_zret c_152_13 rfl (by decide) (bk_inl (v_if_ne_f (t := 115) c_169_109 rfl (by decide) (q_goto (t := 136) c_169_112 rfl (Wp_ls [(0, .ref 41), (1, vi a1)] (lsub_cons rfl (lsub_cons rfl lsub_nil)) ?_))))))
                have hI_641 := iw_41_5 (v := (nx F e1 a)) hI_634 ⟨by first | exact q_9531afe7c h_24 ha | omega, by first | exact q_6094bb0fa h_602 h_603 | omega⟩
                have hI_642 := iw_41_6 (v := 3) hI_641 ⟨by decide, by decide⟩
                have h_643 : (up (up c_633 41 5 (nx F e1 a)) 41 6 3) 41 5 = (nx F e1 a) := ((up_n (by decide)).trans (up_e rfl))
                have h_644 : (up (up c_633 41 5 (nx F e1 a)) 41 6 3) 41 4 = (nx F e1 a) := ((up_n (by decide)).trans ((up_n (by decide)).trans (hz_636)))
                have h_645 : (up (up c_633 41 5 (nx F e1 a)) 41 6 3) 41 6 = 3 := (up_e rfl)
                have h_646 : (up (up c_633 41 5 (nx F e1 a)) 41 6 3) 41 16 = jr := ((up_n (by decide)).trans ((up_n (by decide)).trans (hid kn_638)))
                have kn_647 : Hid (c_626 41 17 = st) := (hF_628 41 17 (fun h => absurd h.2 (ni rfl))).trans (hr_st)
                have kn_648 : Hid (c_633 41 17 = st) := (hF_635 41 17 (fun h => absurd h.2 (ni rfl))).trans (hid kn_647)
                have h_649 : (up (up c_633 41 5 (nx F e1 a)) 41 6 3) 41 17 = st := ((up_n (by decide)).trans ((up_n (by decide)).trans (hid kn_648)))
                have kn_650 : Hid (c_626 41 18 = si) := (hF_628 41 18 (fun h => absurd h.2 (ni rfl))).trans (hr_si)
                have kn_651 : Hid (c_633 41 18 = si) := (hF_635 41 18 (fun h => absurd h.2 (ni rfl))).trans (hid kn_650)
                have h_652 : (up (up c_633 41 5 (nx F e1 a)) 41 6 3) 41 18 = si := ((up_n (by decide)).trans ((up_n (by decide)).trans (hid kn_651)))
                have kn_653 : Hid (c_626 41 19 = du) := (hF_628 41 19 (fun h => absurd h.2 (ni rfl))).trans (hr_du)
                have kn_654 : Hid (c_633 41 19 = du) := (hF_635 41 19 (fun h => absurd h.2 (ni rfl))).trans (hid kn_653)
                have h_655 : (up (up c_633 41 5 (nx F e1 a)) 41 6 3) 41 19 = du := ((up_n (by decide)).trans ((up_n (by decide)).trans (hid kn_654)))
                exact K (up (up c_633 41 5 (nx F e1 a)) 41 6 3)  hI_642 (fun a j hm => (up_b (Decidable.or_iff_not_imp_left.mpr (fun h1 h2 => hm (Or.inr (Or.inr (Or.inl ⟨Decidable.not_not.mp h1, h2⟩)))))).trans ((up_b (Decidable.or_iff_not_imp_left.mpr (fun h1 h2 => hm (Or.inr (Or.inl ⟨Decidable.not_not.mp h1, h2⟩))))).trans ((hF_635 a j (fun h => hm (Or.inl h))).trans ((hF_628 a j (fun h => hm (Or.inl h))).trans (hFc a j hm))))) (rt_i2 ⟨⟨by first | exact q_fcb6ff4be h_599 | omega, by first | exact q_c99d6ea93 h_598 | omega⟩, by first | exact q_88dc5fb99 h_603 | omega, by first | exact q_0a27ce016 h_24 h_603 ha | omega, by first | exact q_bff6e6fd4 h_598 h_599 | omega⟩) (Or.inr (Or.inl (by first | exact q_33afb0047 h_599 | omega)))
          by_cases h_656 : (wd8_0 F (nx F e1 a) (ln F e1 (nx F e1 a))) = 1
          · as_aux_lemma =>
              skip
              refine v_tsw_i (t := 43) 1 rfl (by omega) (by decide) rfl (by decide) (q_aload_n c_31_43 rfl ?_)
              have kn_657 : Hid (c_27 A 1 = st) := (hF_29 A 1 (fun h => absurd h.1 (np0 hA rfl))).trans (hg_st)
              have kn_658 : Hid (c_78 A 1 = st) := (hF_80 A 1 (fun h => absurd h.1 (np0 hA rfl))).trans (hid kn_657)
              have kn_659 : Hid (c_103 A 1 = st) := (hF_105 A 1 (qn_014d425e1 hA)).trans (hid kn_658)
              refine v_gi (z := 1) (v := st) c_31_44 kf_2_84 (ck_p0 hA) (a68z hA) rfl rfl (hid kn_659) (q_iconst c_31_47 ?_)
              by_cases h_660 : st ≠ 4
              · refine v_ic_ne_t (t := 55) c_31_48 rfl ⟨h_660, ⟨(Int.le_trans (by decide) hst.1), (Int.le_trans hst.2 (by decide))⟩, by decide, by decide⟩ (q_iconst c_31_55 (v_zret c_31_56 rfl (by decide) (bk_inl (v_if_eq_t (t := 59) c_34_50 rfl (by decide) (q_aload_n c_34_59 rfl (v_cv c_34_60 km_2_68 rfl rfl (Nat.le_of_ble_eq_true rfl) ⟨⟨rfl, rfl⟩, Nat.le_of_ble_eq_true rfl, rfl⟩ (Nat.le_of_ble_eq_true rfl) (Nat.le_of_ble_eq_true rfl) (q_aload_n c_2_0 rfl ?_)))))))
                refine v_gi (z := 4) (v := 0) c_2_1 kf_5_38 rfl (Nat.le_of_ble_eq_true rfl) rfl rfl (hz_109) (v_if_ne_f (t := 11) c_2_4 rfl (by decide) (q_iconst c_2_7 (q_goto (t := 12) c_2_8 rfl (v_zret c_2_12 rfl (by decide) (bk_inl (v_if_eq_f (t := 73) c_34_63 rfl (by decide) (q_aload_n c_34_66 rfl ?_)))))))
                refine q_aload_n c_34_67 rfl (q_iload c_34_68 rfl ?_)
                have hw_661 : (wd8_0 F (nx F e1 a) (ln F e1 (nx F e1 a))) = 1 := by omega
                rw [hw_661]
                have kn_662 : Hid (c_27 A 0 = jr) := (hF_29 A 0 (fun h => absurd h.1 (np0 hA rfl))).trans (hg_jr)
                have kn_663 : Hid (c_78 A 0 = jr) := (hF_80 A 0 (fun h => absurd h.1 (np0 hA rfl))).trans (hid kn_662)
                have kn_664 : Hid (c_103 A 0 = jr) := (hF_105 A 0 (qn_014d425e1 hA)).trans (hid kn_663)
                have h_665 : c_103 A 0 = jr := (hid kn_664)
                have h_666 : c_103 A 1 = st := (hid kn_659)
                have kn_667 : Hid (c_27 A 2 = si) := (hF_29 A 2 (fun h => absurd h.1 (np0 hA rfl))).trans (hg_si)
                have kn_668 : Hid (c_78 A 2 = si) := (hF_80 A 2 (fun h => absurd h.1 (np0 hA rfl))).trans (hid kn_667)
                have kn_669 : Hid (c_103 A 2 = si) := (hF_105 A 2 (qn_014d425e1 hA)).trans (hid kn_668)
                have h_670 : c_103 A 2 = si := (hid kn_669)
                refine v_cv c_34_70 km_2_71 rfl (ck_p0 hA) (a68z hA) ⟨⟨rfl, rfl⟩, by decide, rfl⟩ (Nat.le_of_ble_eq_true rfl) (Nat.le_of_ble_eq_true rfl) (fn_of (s_33 (a2 := 1) hI_104 hA (show 0 ≤ 1 ∧ 1 ≤ 100 from ⟨by decide, by decide⟩) (Or.inl (by first | decide | omega)) (Or.inr (by first | exact q_c0de63303 h_660 hst | omega)) (Or.inl (by first | decide | omega)) (fun c_671 hI_672 hF_673 => ?_)))
                intro hG_674
                refine bk_inl (q_aload_n c_34_73 rfl (q_ldc_s c_34_74 rfl rfl (by decide) ?_))
                have h_675 := ir_1_4 hI_672
                refine v_cv c_34_76 km_2_77 rfl rfl (Nat.le_of_ble_eq_true rfl) ⟨⟨rfl, rfl⟩, Nat.le_of_ble_eq_true rfl, rfl⟩ (Nat.le_of_ble_eq_true rfl) (Nat.le_of_ble_eq_true rfl) (fn_of (s_11 hI_672 (q := 9) (nt := 1) (by decide) (by decide) (by decide) (fun c_676 hI_677 hF_678 => ?_)))
                intro hG_679
                refine bk_inl (v_iinc (v := v + 1) c_34_79 rfl (Nat.le_of_ble_eq_true rfl) rfl (q_goto (t := 6) c_34_82 rfl ?_))
                have h_680 := ir_1_4 hI_677
                by_cases h_681 : c_676 1 4 = 0
                · skip
                  refine Wp_ls [(0, .ref A), (1, .ref 1), (2, vi (v + 1))] (lsub_cons rfl (lsub_cons rfl (lsub_cons rfl lsub_nil))) (gh_stop (s_34_l (sc := sc) (d := dh + 18) (c := c_676) (Z := fun _ => True) hI_677 hA (fun _ _ _ => trivial) 124 c_676 (v + 1) hI_677 (fun a j hm => rfl) ⟨by omega, by omega⟩ (by omega)) (fun hG_682 => (q_aload_n c_169_44 rfl (v_cv c_169_45 km_8_131 rfl rfl (Nat.le_of_ble_eq_true rfl) ⟨⟨rfl, rfl⟩, Nat.le_of_ble_eq_true rfl, rfl⟩ (Nat.le_of_ble_eq_true rfl) (Nat.le_of_ble_eq_true rfl) (q_aload_n c_152_0 rfl (v_gi (z := 5) (v := (-1)) c_152_1 kf_8_102 rfl (Nat.le_of_ble_eq_true rfl) rfl rfl (hc_1) (q_iconst c_152_4 (v_ic_ne_f (t := 12) c_152_5 rfl (by decide) ?_))))))))
                  refine q_iconst c_152_8 (q_goto (t := 13) c_152_9 rfl (v_zret c_152_13 rfl (by decide) (bk_inl (v_if_eq_f (t := 136) c_169_48 rfl (by decide) (q_aload_n c_169_51 rfl (v_cv c_169_52 km_8_211 rfl rfl (Nat.le_of_ble_eq_true rfl) ⟨⟨rfl, rfl⟩, Nat.le_of_ble_eq_true rfl, rfl⟩ (Nat.le_of_ble_eq_true rfl) (Nat.le_of_ble_eq_true rfl) (q_aload_n c_162_0 rfl ?_)))))))
                  have kn_683 : Hid (c2 41 3 = e1) := (hFc 41 3 qn_b860ee9cc).trans (hr_e1)
                  have h_684 : -2147483648 ≤ (H (nx F e1 a)) ∧ (H (nx F e1 a)) ≤ 2147483647 := by rw [← hH (nx F e1 a)]; exact ir_43 hI (nx F e1 a)
                  have h_685 := hU (nx F e1 a) (by first | exact q_a7eda21a5 h_24 ha | omega) (by first | exact q_6c5402073 h_2 h_32 hr_e1 | omega)
                  have h_686 := hb_or (b := H) (e := e1) (r := (nx F e1 a))
                  have h_687 := hb_bd (b := H) (e := e1) (r := (nx F e1 a)) (lo := -2147483648) (hi := 2147483647) h_684 (by decide)
                  refine v_cv c_162_1 km_8_114 rfl rfl (Nat.le_of_ble_eq_true rfl) ⟨⟨rfl, rfl⟩, Nat.le_of_ble_eq_true rfl, rfl⟩ (Nat.le_of_ble_eq_true rfl) (Nat.le_of_ble_eq_true rfl) (f_154 (e1 := e1) (a9 := a) (B := H) (r8 := (nx F e1 a)) (r := (hb H e1 (nx F e1 a))) hI2 ((hid kn_683)) ((hr_a)) (fun j => (hFc 43 j qn_8f9b78528).trans (hH j)) ((nx_tr hU (ha.1) ((rg_eq hg_e1 h_1).2)).trans (rfl)) rfl (fun c_688 hI_689 hF_690 h_691 => (bk_inl (q_pop c_162_4 rfl (q_aload_n c_162_5 rfl (v_gi (z := 4) (v := (nx F e1 a)) c_162_6 kf_8_108 rfl (Nat.le_of_ble_eq_true rfl) rfl rfl (h_691) (q_aload_n c_162_9 rfl ?_)))))))
                  have kn_692 : Hid (c_688 41 3 = e1) := (hF_690 41 3 (fun h => absurd h.2 (ni rfl))).trans (hid kn_683)
                  refine v_gi (z := 3) (v := e1) c_162_10 kf_8_111 rfl (Nat.le_of_ble_eq_true rfl) rfl rfl (hid kn_692) (v_ic_ge_f (t := 20) c_162_13 rfl ⟨by first | exact q_378c2316e h_24 ha | omega, by first | exact q_d17d18138 h_32 | omega, (Int.le_trans (rg_eq hg_e1 h_1).2 (by decide))⟩ (q_iconst c_162_16 (q_goto (t := 21) c_162_17 rfl (v_zret c_162_21 rfl (by decide) (bk_inl (v_if_eq_f (t := 136) c_169_55 rfl (by decide) (q_aload_n c_169_58 rfl ?_)))))))
                  have h_693 := wv_bd (b := F) (r := (nx F e1 a)) (l := (ln F e1 (nx F e1 a))) (fun j h1 h2 => ⟨(ln_in (e := e1) (a := (nx F e1 a)) h1 h2).1, (ln_in (e := e1) (a := (nx F e1 a)) h1 h2).2.1⟩)
                  have h_694 := wr8_1 (b := F) (r := (nx F e1 a)) (l := (ln F e1 (nx F e1 a))) (by first | exact q_18f17732a h_87 | omega) (fun j h1 h2 => ⟨(ln_in (e := e1) (a := (nx F e1 a)) h1 h2).1, (ln_in (e := e1) (a := (nx F e1 a)) h1 h2).2.1⟩) (by first | exact q_e2571c9b4 h_656 | omega)
                  refine v_cv c_169_59 km_8_214 rfl rfl (Nat.le_of_ble_eq_true rfl) ⟨⟨rfl, rfl⟩, Nat.le_of_ble_eq_true rfl, rfl⟩ (Nat.le_of_ble_eq_true rfl) (Nat.le_of_ble_eq_true rfl) (f_157 (e1 := e1) (a9 := (nx F e1 a)) (B := H) (r8 := (nx F e1 a)) (L8 := (ln F e1 (nx F e1 a))) (W8 := (wv F (nx F e1 a) (ln F e1 (nx F e1 a)))) hI_689 ((hid kn_692)) ((h_691)) (fun j => ((hF_690 43 j (fun h => absurd h.1 (nn rfl))).trans (hFc 43 j qn_8f9b78528)).trans (hH j)) ((nx_tr hU (by first | exact q_a7eda21a5 h_24 ha | omega) ((rg_eq hg_e1 h_1).2)).trans ((nx_z (Or.inr (by first | exact q_b1e7f72d7 h_26 h_32 | omega))))) ((ln_tr hU (by first | exact q_a7eda21a5 h_24 ha | omega) ((rg_eq hg_e1 h_1).2)).trans (rfl)) ((wv_tr hU (by first | exact q_a7eda21a5 h_24 ha | omega) (by first | exact q_296ae6bb2 h_2 h_87 hr_e1 | omega) (fun j h1 h2 => ⟨(ln_in (e := e1) (a := (nx F e1 a)) h1 h2).1, (ln_in (e := e1) (a := (nx F e1 a)) h1 h2).2.1⟩)).trans (rfl)) (fun c_695 hI_696 hF_697 hz_698 => (bk_inl (q_istore_n c_169_62 (Nat.le_of_ble_eq_true rfl) (q_iload_n c_169_63 rfl (q_call c_169_64 rfl rfl rfl (q_iload_n c_166_0 rfl (q_ldc_s c_166_1 rfl rfl (by decide) (q_call c_166_3 rfl rfl rfl (s_158_16 ?_))))))))))
                  refine bk_inl (v_ic_eq_f (t := 36) c_166_6 rfl ⟨by first | exact q_8a190cb31 h_694 | omega, ⟨(Int.le_trans (by decide) h_693.1), (Int.le_trans h_693.2 (by decide))⟩, by decide, by decide⟩ (q_iload_n c_166_9 rfl (q_ldc_s c_166_10 rfl rfl (by decide) (q_call c_166_12 rfl rfl rfl (s_158_17 (bk_inl (v_ic_eq_t (t := 36) c_166_15 rfl (by first | exact q_912add97b h_694 | omega) (q_iconst c_166_36 ?_))))))))
                  refine q_goto (t := 41) c_166_37 rfl (v_zret c_166_41 rfl (by decide) (bk_inl (v_if_ne_t (t := 82) c_169_67 rfl (by decide) (q_iload_n c_169_82 rfl (v_bip c_169_83 (by decide) (v_ic_eq_f (t := 96) c_169_85 rfl ⟨by first | exact q_ed39b118e h_236 hv | omega, ⟨(Int.le_trans (by decide) hv.1), (Int.le_trans hv.2 (by decide))⟩, by decide, by decide⟩ (q_aload_n c_169_88 rfl ?_)))))))
                  refine q_iload_n c_169_89 rfl (v_cv c_169_90 km_8_220 rfl rfl (Nat.le_of_ble_eq_true rfl) ⟨⟨rfl, rfl⟩, Nat.le_of_ble_eq_true rfl, rfl⟩ (Nat.le_of_ble_eq_true rfl) (Nat.le_of_ble_eq_true rfl) (q_iload_n c_167_0 rfl (q_ldc_s c_167_1 rfl rfl (by decide) (q_call c_167_3 rfl rfl rfl (s_158_16 (bk_inl (v_ic_ne_t (t := 26) c_167_6 rfl ⟨by first | exact q_8a190cb31 h_694 | omega, ⟨(Int.le_trans (by decide) h_693.1), (Int.le_trans h_693.2 (by decide))⟩, by decide, by decide⟩ (q_iload_n c_167_26 rfl ?_))))))))
                  refine q_ldc_s c_167_27 rfl rfl (by decide) (q_call c_167_29 rfl rfl rfl (s_158_17 (bk_inl (v_ic_ne_f (t := 51) c_167_32 rfl (by first | exact q_912add97b h_694 | omega) (q_aload_n c_167_35 rfl ?_)))))
                  have kn_699 : Hid (c_688 41 17 = st) := (hF_690 41 17 (fun h => absurd h.2 (ni rfl))).trans (hr_st)
                  have kn_700 : Hid (c_695 41 17 = st) := (hF_697 41 17 (fun h => absurd h.2 (ni rfl))).trans (hid kn_699)
                  refine v_gi (z := 17) (v := st) c_167_36 kf_8_148 rfl (Nat.le_of_ble_eq_true rfl) rfl rfl (hid kn_700) (q_iconst c_167_39 (v_ic_ne_t (t := 47) c_167_40 rfl ⟨by first | exact q_12b330444 h_660 hst | omega, ⟨(Int.le_trans (by decide) hst.1), (Int.le_trans hst.2 (by decide))⟩, by decide, by decide⟩ (q_iconst c_167_47 (q_goto (t := 73) c_167_48 rfl (v_zret c_167_73 rfl (by decide) (bk_inl (v_if_eq_t (t := 105) c_169_93 rfl (by decide) ?_)))))))
                  refine q_aload_n c_169_105 rfl (v_cv c_169_106 km_8_131 rfl rfl (Nat.le_of_ble_eq_true rfl) ⟨⟨rfl, rfl⟩, Nat.le_of_ble_eq_true rfl, rfl⟩ (Nat.le_of_ble_eq_true rfl) (Nat.le_of_ble_eq_true rfl) (q_aload_n c_152_0 rfl ?_))
                  have kn_701 : Hid (c_688 41 5 = (-1)) := (hF_690 41 5 (fun h => absurd h.2 (ni rfl))).trans (hc_1)
                  have kn_702 : Hid (c_695 41 5 = (-1)) := (hF_697 41 5 (fun h => absurd h.2 (ni rfl))).trans (hid kn_701)
                  refine v_gi (z := 5) (v := (-1)) c_152_1 kf_8_102 rfl (Nat.le_of_ble_eq_true rfl) rfl rfl (hid kn_702) (q_iconst c_152_4 (v_ic_ne_f (t := 12) c_152_5 rfl (by decide) (q_iconst c_152_8 (q_goto (t := 13) c_152_9 rfl (v_zret c_152_13 rfl (by decide) (bk_inl (v_if_ne_t (t := 115) c_169_109 rfl (by decide) ?_)))))))
                  refine q_aload_n c_169_115 rfl ?_
                  have kn_703 : Hid (c_695 41 3 = e1) := (hF_697 41 3 (fun h => absurd h.2 (ni rfl))).trans (hid kn_692)
                  refine v_cv c_169_116 km_8_223 rfl rfl (Nat.le_of_ble_eq_true rfl) ⟨⟨rfl, rfl⟩, Nat.le_of_ble_eq_true rfl, rfl⟩ (Nat.le_of_ble_eq_true rfl) (Nat.le_of_ble_eq_true rfl) (f_159 (e1 := e1) (a9 := (nx F e1 a)) (B := H) (L8 := (ln F e1 (nx F e1 a))) hI_696 ((hid kn_703)) ((hz_698)) (fun j => ((hF_697 43 j (fun h => absurd h.1 (nn rfl))).trans ((hF_690 43 j (fun h => absurd h.1 (nn rfl))).trans (hFc 43 j qn_8f9b78528))).trans (hH j)) ((ln_tr hU (by first | exact q_a7eda21a5 h_24 ha | omega) ((rg_eq hg_e1 h_1).2)).trans (rfl)) (fun c_704 hI_705 hF_706 hz_707 => (bk_inl (q_aload_n c_169_119 rfl (q_iload_n c_169_120 rfl ?_)))))
                  have hw_708 : (wv F (nx F e1 a) (ln F e1 (nx F e1 a))) = 20594117 := by omega
                  rw [hw_708]
                  have kn_709 : Hid (c_103 1 1 = e1) := (hF_105 1 1 qn_b782e6d88).trans (hid kn_82)
                  have kn_710 : Hid (c_704 41 3 = e1) := (hF_706 41 3 (fun h => absurd h.2 (ni rfl))).trans (hid kn_703)
                  have kn_711 : Hid (c_688 41 16 = jr) := (hF_690 41 16 (fun h => absurd h.2 (ni rfl))).trans (hr_jr)
                  have kn_712 : Hid (c_695 41 16 = jr) := (hF_697 41 16 (fun h => absurd h.2 (ni rfl))).trans (hid kn_711)
                  have kn_713 : Hid (c_704 41 16 = jr) := (hF_706 41 16 (fun h => absurd h.2 (ni rfl))).trans (hid kn_712)
                  have kn_714 : Hid (c_704 41 17 = st) := (hF_706 41 17 (fun h => absurd h.2 (ni rfl))).trans (hid kn_700)
                  have kn_715 : Hid (c_688 41 18 = si) := (hF_690 41 18 (fun h => absurd h.2 (ni rfl))).trans (hr_si)
                  have kn_716 : Hid (c_695 41 18 = si) := (hF_697 41 18 (fun h => absurd h.2 (ni rfl))).trans (hid kn_715)
                  have kn_717 : Hid (c_704 41 18 = si) := (hF_706 41 18 (fun h => absurd h.2 (ni rfl))).trans (hid kn_716)
                  have kn_718 : Hid (c_27 A 3 = du) := (hF_29 A 3 (fun h => absurd h.1 (np0 hA rfl))).trans (hg_du)
                  have kn_719 : Hid (c_78 A 3 = du) := (hF_80 A 3 (fun h => absurd h.1 (np0 hA rfl))).trans (hid kn_718)
                  have kn_720 : Hid (c_103 A 3 = du) := (hF_105 A 3 (qn_014d425e1 hA)).trans (hid kn_719)
                  have kn_721 : Hid (c_688 41 19 = du) := (hF_690 41 19 (fun h => absurd h.2 (ni rfl))).trans (hr_du)
                  have kn_722 : Hid (c_695 41 19 = du) := (hF_697 41 19 (fun h => absurd h.2 (ni rfl))).trans (hid kn_721)
                  have kn_723 : Hid (c_704 41 19 = du) := (hF_706 41 19 (fun h => absurd h.2 (ni rfl))).trans (hid kn_722)
                  have h_724 : c_103 1 4 = 0 := (hz_109)
                  have h_725 : c_103 1 2 = (ln F e1 (nx F e1 a)) := (hz_108)
                  have h_726 : c_103 1 5 = (-1) := (hz_110)
                  have kn_727 : Hid (c_704 41 5 = (-1)) := (hF_706 41 5 (fun h => absurd h.2 (ni rfl))).trans (hid kn_702)
                  have h_728 : c_704 41 5 = (-1) := (hid kn_727)
                  have h_729 : c_704 41 4 = (ln F e1 (nx F e1 a)) := (hz_707)
                  have h_730 := ir_41_6 hI2
                  have kn_731 : Hid (c_688 41 6 = c2 41 6) := hF_690 41 6 (fun h => absurd h.2 (ni rfl))
                  have kn_732 : Hid (c_695 41 6 = c2 41 6) := (hF_697 41 6 (fun h => absurd h.2 (ni rfl))).trans (hid kn_731)
                  have kn_733 : Hid (c_704 41 6 = c2 41 6) := (hF_706 41 6 (fun h => absurd h.2 (ni rfl))).trans (hid kn_732)
                  have h_734 : c_704 41 6 = c2 41 6 := (hid kn_733)
                  refine v_cv c_169_121 km_8_226 rfl rfl (Nat.le_of_ble_eq_true rfl) ⟨⟨rfl, rfl⟩, Nat.le_of_ble_eq_true rfl, rfl⟩ (Nat.le_of_ble_eq_true rfl) (Nat.le_of_ble_eq_true rfl) (L_33_1 (m := c_103) (e1 := e1) (jr := jr) (st := st) (si := si) (du := du) (F := F) (H := H) hI_705 hI_104 hI_672 hA (by first | exact q_c0de63303 h_660 hst | omega) ((hid kn_709)) ((hid kn_710)) ((hid kn_664)) ((hid kn_713)) ((hid kn_659)) ((hid kn_714)) ((hid kn_669)) ((hid kn_717)) ((hid kn_720)) ((hid kn_723)) (fun j => ((hF_105 2 j qn_e2b123f84).trans ((hF_80 2 j (fun h => absurd h.1 (nn rfl))).trans ((hF_29 2 j (fun h => absurd h.1 (nn rfl))).trans (hFm 2 j (qn_64622c99c hA))))).trans (hF j)) (fun j => ((hF_706 43 j (fun h => absurd h.1 (nn rfl))).trans ((hF_697 43 j (fun h => absurd h.1 (nn rfl))).trans ((hF_690 43 j (fun h => absurd h.1 (nn rfl))).trans (hFc 43 j qn_8f9b78528)))).trans (hH j)) hU (rt_i1 ⟨by first | assumption | omega, by first | assumption | omega, by first | assumption | omega, by first | assumption | omega⟩) hG_674 (fun c_735 hI_736 hF_737 hR_739 h_740 h_741 h_742 h_743 => (bk_inl ?_)))
                  have h_744 := ir_41_16 hI_736
                  have h_745 := ir_p0_0 hI_672 hA
                  have h_746 := ir_41_17 hI_736
                  have h_747 := ir_p0_1 hI_672 hA
                  have h_748 := ir_41_18 hI_736
                  have h_749 := ir_p0_2 hI_672 hA
                  have h_750 := ir_41_19 hI_736
                  have h_751 := ir_p0_3 hI_672 hA
                  refine q_aload_n c_169_124 rfl (v_bip c_169_125 (by decide) ?_)
                  have kn_752 : Hid (c_671 1 1 = e1) := (hF_673 1 1 (qn_68bac1c70 hA)).trans (hid kn_709)
                  have kn_753 : Hid (c_735 41 3 = e1) := (hF_737 41 3 qn_b860ee9cc).trans (hid kn_710)
                  have h_754 := ir_1_2 hI_672
                  refine v_cv c_169_127 km_8_229 rfl rfl (Nat.le_of_ble_eq_true rfl) ⟨⟨rfl, rfl⟩, Nat.le_of_ble_eq_true rfl, rfl⟩ (Nat.le_of_ble_eq_true rfl) (Nat.le_of_ble_eq_true rfl) (L_11_9 (m := c_671) (e1 := e1) (a9 := c_671 1 2) (f0 := c_671 1 4) (F := F) (H := H) hI_736 hI_672 hI_677 ((hid kn_752)) ((hid kn_753)) (rfl) (rfl) (fun j => ((hF_673 2 j (qn_2292ef66f hA)).trans ((hF_105 2 j qn_e2b123f84).trans ((hF_80 2 j (fun h => absurd h.1 (nn rfl))).trans ((hF_29 2 j (fun h => absurd h.1 (nn rfl))).trans (hFm 2 j (qn_64622c99c hA)))))).trans (hF j)) (fun j => ((hF_737 43 j qn_8f9b78528).trans ((hF_706 43 j (fun h => absurd h.1 (nn rfl))).trans ((hF_697 43 j (fun h => absurd h.1 (nn rfl))).trans ((hF_690 43 j (fun h => absurd h.1 (nn rfl))).trans (hFc 43 j qn_8f9b78528))))).trans (hH j)) hU hR_739 hG_679 (fun c_755 hI_756 hF_757 hR_759 h_760 h_761 => (bk_inl ?_)))
                  have h_762 := ir_1_2 hI_677
                  refine v_iinc (v := v + 1) c_169_130 rfl (Nat.le_of_ble_eq_true rfl) rfl (q_goto (t := 44) c_169_133 rfl (Wp_ls [(0, .ref 41), (1, vi a1), (2, vi (v + 1))] (lsub_cons rfl (lsub_cons rfl (lsub_cons rfl lsub_nil))) ?_))
                  have h_763 := ir_41_4 hI_756
                  have h_764 := ir_1_5 hI_677
                  have h_765 := ir_41_5 hI_756
                  have h_766 := ir_41_6 hI_756
                  have h_767 := rt_ok hR_759 (by first | exact q_f6b658f58 h_680 h_681 | omega)
                  have hro_hR_759 := rt_ok hR_759 (by first | exact q_f6b658f58 h_680 h_681 | omega)
                  have kn_768 : Hid (c_676 A 0 = c_671 A 0) := hF_678 A 0 (qn_014d425e1 hA)
                  have kn_769 : Hid (c_755 41 16 = c_735 41 16) := hF_757 41 16 qn_e8809db5e
                  have kn_770 : Hid (c_676 A 1 = c_671 A 1) := hF_678 A 1 (qn_014d425e1 hA)
                  have kn_771 : Hid (c_755 41 17 = c_735 41 17) := hF_757 41 17 qn_a870196d2
                  have kn_772 : Hid (c_676 A 2 = c_671 A 2) := hF_678 A 2 (qn_014d425e1 hA)
                  have kn_773 : Hid (c_755 41 18 = c_735 41 18) := hF_757 41 18 qn_d8f940cfc
                  have kn_774 : Hid (c_676 A 3 = c_671 A 3) := hF_678 A 3 (qn_014d425e1 hA)
                  have kn_775 : Hid (c_755 41 19 = c_735 41 19) := hF_757 41 19 qn_f6eda7af3
                  exact ih c_755 c_676 (v + 1) (c_676 1 2) (c_671 A 0) (c_671 A 1) (c_671 A 2) (c_671 A 3) hI_756 (fun a j hm => (hF_757 a j (qv_e105a9b19 hm)).trans ((hF_737 a j hm).trans ((hF_706 a j (fun h => hm (Or.inl h))).trans ((hF_697 a j (fun h => hm (Or.inl h))).trans ((hF_690 a j (fun h => hm (Or.inl h))).trans (hFc a j hm)))))) hI_677 (fun a j hm => (hF_678 a j (qv_69188b0c2 hm)).trans ((hF_673 a j (qv_967ad9091 hm)).trans ((hF_105 a j (qv_69188b0c2 hm)).trans ((hF_80 a j (fun h => hm (Or.inl h))).trans ((hF_29 a j (fun h => hm (Or.inl h))).trans (hFm a j hm)))))) ⟨by first | exact rgp_l hv.1 (by decide) | omega, by first | exact q_a69d2ea54 h_236 hv | omega⟩ h_762 h_745 h_747 h_749 h_751 (rfl) (hro_hR_759.2.2.1) ((hid kn_768)) ((show _ = c_735 41 16 from (hid kn_769)).trans (by first | assumption | exact Int.le_antisymm (by first | exact q_f91efb75c h_740 | omega) (by first | exact q_f85ce3c92 h_740 | omega))) ((hid kn_770)) ((show _ = c_735 41 17 from (hid kn_771)).trans (by first | assumption | exact Int.le_antisymm (by first | exact q_f91efb75c h_741 | omega) (by first | exact q_f85ce3c92 h_741 | omega))) ((hid kn_772)) ((show _ = c_735 41 18 from (hid kn_773)).trans (by first | assumption | exact Int.le_antisymm (by first | exact q_f91efb75c h_742 | omega) (by first | exact q_f85ce3c92 h_742 | omega))) ((hid kn_774)) ((show _ = c_735 41 19 from (hid kn_775)).trans (by first | assumption | exact Int.le_antisymm (by first | exact q_f91efb75c h_743 | omega) (by first | exact q_f85ce3c92 h_743 | omega))) ((show _ = c_676 1 4 from rfl).trans (by first | assumption | exact Int.le_antisymm (by first | exact q_d1e538aa4 h_681 | omega) (by first | exact q_eb3a7ad7a h_680 | omega))) (hro_hR_759.2.1) ((show _ = c_676 1 5 from rfl).trans (by first | assumption | exact Int.le_antisymm (by first | exact q_10f95419d h_767 | omega) (by first | exact q_3d8b3e7e9 h_764 | omega))) hG_682 (by omega)
                · skip
                  refine q_iload_n c_34_6 rfl (v_bip c_34_7 (by decide) (v_ic_gt_f (t := 85) c_34_9 rfl ⟨by first | exact rgp_l hv.1 (by decide) | omega, by first | exact q_a69d2ea54 h_236 hv | omega, by decide⟩ (q_aload_n c_34_12 rfl (v_cv c_34_13 km_2_44 rfl rfl (Nat.le_of_ble_eq_true rfl) ⟨⟨rfl, rfl⟩, Nat.le_of_ble_eq_true rfl, rfl⟩ (Nat.le_of_ble_eq_true rfl) (Nat.le_of_ble_eq_true rfl) (q_aload_n c_15_0 rfl (v_cv c_15_1 km_5_45 rfl rfl (Nat.le_of_ble_eq_true rfl) ⟨⟨rfl, rfl⟩, Nat.le_of_ble_eq_true rfl, rfl⟩ (Nat.le_of_ble_eq_true rfl) (Nat.le_of_ble_eq_true rfl) (q_aload_n c_2_0 rfl ?_)))))))
                  refine v_gi (z := 4) (v := c_676 1 4) c_2_1 kf_5_38 rfl (Nat.le_of_ble_eq_true rfl) rfl rfl rfl (v_if_ne_t (t := 11) c_2_4 rfl ⟨by first | exact q_106d90f3b h_680 h_681 | omega, ⟨(Int.le_trans (by decide) h_680.1), (Int.le_trans h_680.2 (by decide))⟩, by decide, by decide⟩ (q_iconst c_2_11 (v_zret c_2_12 rfl (by decide) (bk_inl (v_if_eq_t (t := 22) c_15_4 rfl (by decide) (q_iconst c_15_22 (v_zret c_15_23 rfl (by decide) ?_)))))))
                  refine bk_inl (v_if_eq_t (t := 85) c_34_16 rfl (by decide) (q_vret rfl rfl ?_))
                  intro hE_776
                  have hW : Wd P Q P P c_676 = Wd P Q P P m9 := (Prod.mk.inj (Prod.mk.inj hE_776).2).1
                  have h_777 := ir_1_4 hJ9
                  have h_778 : m9 1 4 = c_676 1 4 := wd_fv (z := 4) 4 rfl hW rfl rfl rfl rfl (by decide) rfl ⟨(Int.le_trans (by decide) h_680.1), (Int.le_trans h_680.2 (by decide))⟩ ⟨(Int.le_trans (by decide) h_777.1), (Int.le_trans h_777.2 (by decide))⟩
                  have h_779 := ir_1_2 hI_677
                  have h_780 := ir_1_2 hJ9
                  have h_781 : m9 1 2 = c_676 1 2 := wd_fv (z := 2) 2 rfl hW rfl rfl rfl rfl (by decide) rfl ⟨(Int.le_trans (by decide) h_779.1), (Int.le_trans h_779.2 (by decide))⟩ ⟨(Int.le_trans (by decide) h_780.1), (Int.le_trans h_780.2 (by decide))⟩
                  have h_782 := ir_1_5 hI_677
                  have h_783 := ir_1_5 hJ9
                  have h_784 : m9 1 5 = c_676 1 5 := wd_fv (z := 5) 5 rfl hW rfl rfl rfl rfl (by decide) rfl ⟨(Int.le_trans (by decide) h_782.1), (Int.le_trans h_782.2 (by decide))⟩ ⟨(Int.le_trans (by decide) h_783.1), (Int.le_trans h_783.2 (by decide))⟩
                  have h_785 := ir_p0_0 hI_672 hA
                  have kn_786 : Hid (c_676 A 0 = c_671 A 0) := hF_678 A 0 (qn_014d425e1 hA)
                  have h_787 := ir_p0_0 hJ9 hA
                  have h_788 : m9 A 0 = c_671 A 0 := wd_fv (z := 0) 0 rfl hW (ck_p0 hA) (ck_p0 hA) rfl rfl (a68z hA) (hid kn_786) ⟨by first | exact q_730ab5169 h_785 | omega, by first | exact q_b289b7db2 h_785 | omega⟩ ⟨(Int.le_trans (by decide) h_787.1), (Int.le_trans h_787.2 (by decide))⟩
                  have h_789 := ir_p0_1 hI_672 hA
                  have kn_790 : Hid (c_676 A 1 = c_671 A 1) := hF_678 A 1 (qn_014d425e1 hA)
                  have h_791 := ir_p0_1 hJ9 hA
                  have h_792 : m9 A 1 = c_671 A 1 := wd_fv (z := 1) 1 rfl hW (ck_p0 hA) (ck_p0 hA) rfl rfl (a68z hA) (hid kn_790) ⟨by first | exact q_0bfe68f8e h_789 | omega, by first | exact q_82d4f69ff h_789 | omega⟩ ⟨(Int.le_trans (by decide) h_791.1), (Int.le_trans h_791.2 (by decide))⟩
                  have h_793 := ir_p0_2 hI_672 hA
                  have kn_794 : Hid (c_676 A 2 = c_671 A 2) := hF_678 A 2 (qn_014d425e1 hA)
                  have h_795 := ir_p0_2 hJ9 hA
                  have h_796 : m9 A 2 = c_671 A 2 := wd_fv (z := 2) 2 rfl hW (ck_p0 hA) (ck_p0 hA) rfl rfl (a68z hA) (hid kn_794) ⟨by first | exact q_0bfe68f8e h_793 | omega, by first | exact q_82d4f69ff h_793 | omega⟩ ⟨(Int.le_trans (by decide) h_795.1), (Int.le_trans h_795.2 (by decide))⟩
                  have h_797 := ir_p0_3 hI_672 hA
                  have kn_798 : Hid (c_676 A 3 = c_671 A 3) := hF_678 A 3 (qn_014d425e1 hA)
                  have h_799 := ir_p0_3 hJ9 hA
                  have h_800 : m9 A 3 = c_671 A 3 := wd_fv (z := 3) 3 rfl hW (ck_p0 hA) (ck_p0 hA) rfl rfl (a68z hA) (hid kn_798) ⟨by first | exact q_fe18d6d95 h_797 | omega, by first | exact q_5d4e5294a h_797 | omega⟩ ⟨(Int.le_trans (by decide) h_799.1), (Int.le_trans h_799.2 (by decide))⟩
                  refine q_aload_n c_169_44 rfl (v_cv c_169_45 km_8_131 rfl rfl (Nat.le_of_ble_eq_true rfl) ⟨⟨rfl, rfl⟩, Nat.le_of_ble_eq_true rfl, rfl⟩ (Nat.le_of_ble_eq_true rfl) (Nat.le_of_ble_eq_true rfl) (q_aload_n c_152_0 rfl (v_gi (z := 5) (v := (-1)) c_152_1 kf_8_102 rfl (Nat.le_of_ble_eq_true rfl) rfl rfl (hc_1) (q_iconst c_152_4 (v_ic_ne_f (t := 12) c_152_5 rfl (by decide) (q_iconst c_152_8 (q_goto (t := 13) c_152_9 rfl ?_)))))))
                  refine v_zret c_152_13 rfl (by decide) (bk_inl (v_if_eq_f (t := 136) c_169_48 rfl (by decide) (q_aload_n c_169_51 rfl (v_cv c_169_52 km_8_211 rfl rfl (Nat.le_of_ble_eq_true rfl) ⟨⟨rfl, rfl⟩, Nat.le_of_ble_eq_true rfl, rfl⟩ (Nat.le_of_ble_eq_true rfl) (Nat.le_of_ble_eq_true rfl) (q_aload_n c_162_0 rfl ?_)))))
                  have kn_801 : Hid (c2 41 3 = e1) := (hFc 41 3 qn_b860ee9cc).trans (hr_e1)
                  have h_802 : -2147483648 ≤ (H (nx F e1 a)) ∧ (H (nx F e1 a)) ≤ 2147483647 := by rw [← hH (nx F e1 a)]; exact ir_43 hI (nx F e1 a)
                  have h_803 := hU (nx F e1 a) (by first | exact q_a7eda21a5 h_24 ha | omega) (by first | exact q_6c5402073 h_1 h_32 hg_e1 | omega)
                  have h_804 := hb_or (b := H) (e := e1) (r := (nx F e1 a))
                  have h_805 := hb_bd (b := H) (e := e1) (r := (nx F e1 a)) (lo := -2147483648) (hi := 2147483647) h_802 (by decide)
                  refine v_cv c_162_1 km_8_114 rfl rfl (Nat.le_of_ble_eq_true rfl) ⟨⟨rfl, rfl⟩, Nat.le_of_ble_eq_true rfl, rfl⟩ (Nat.le_of_ble_eq_true rfl) (Nat.le_of_ble_eq_true rfl) (f_154 (e1 := e1) (a9 := a) (B := H) (r8 := (nx F e1 a)) (r := (hb H e1 (nx F e1 a))) hI2 ((hid kn_801)) ((hr_a)) (fun j => (hFc 43 j qn_8f9b78528).trans (hH j)) ((nx_tr hU (ha.1) ((rg_eq hg_e1 h_1).2)).trans (rfl)) rfl (fun c_806 hI_807 hF_808 h_809 => (bk_inl (q_pop c_162_4 rfl (q_aload_n c_162_5 rfl (v_gi (z := 4) (v := (nx F e1 a)) c_162_6 kf_8_108 rfl (Nat.le_of_ble_eq_true rfl) rfl rfl (h_809) (q_aload_n c_162_9 rfl ?_)))))))
                  have kn_810 : Hid (c_806 41 3 = e1) := (hF_808 41 3 (fun h => absurd h.2 (ni rfl))).trans (hid kn_801)
                  refine v_gi (z := 3) (v := e1) c_162_10 kf_8_111 rfl (Nat.le_of_ble_eq_true rfl) rfl rfl (hid kn_810) (v_ic_ge_f (t := 20) c_162_13 rfl ⟨by first | exact q_378c2316e h_24 ha | omega, by first | exact q_d17d18138 h_32 | omega, (Int.le_trans (rg_eq hg_e1 h_1).2 (by decide))⟩ (q_iconst c_162_16 (q_goto (t := 21) c_162_17 rfl (v_zret c_162_21 rfl (by decide) (bk_inl (v_if_eq_f (t := 136) c_169_55 rfl (by decide) (q_aload_n c_169_58 rfl ?_)))))))
                  have h_811 := wv_bd (b := F) (r := (nx F e1 a)) (l := (ln F e1 (nx F e1 a))) (fun j h1 h2 => ⟨(ln_in (e := e1) (a := (nx F e1 a)) h1 h2).1, (ln_in (e := e1) (a := (nx F e1 a)) h1 h2).2.1⟩)
                  have h_812 := wr8_1 (b := F) (r := (nx F e1 a)) (l := (ln F e1 (nx F e1 a))) (by first | exact q_18f17732a h_87 | omega) (fun j h1 h2 => ⟨(ln_in (e := e1) (a := (nx F e1 a)) h1 h2).1, (ln_in (e := e1) (a := (nx F e1 a)) h1 h2).2.1⟩) (by first | exact q_e2571c9b4 h_656 | omega)
                  refine v_cv c_169_59 km_8_214 rfl rfl (Nat.le_of_ble_eq_true rfl) ⟨⟨rfl, rfl⟩, Nat.le_of_ble_eq_true rfl, rfl⟩ (Nat.le_of_ble_eq_true rfl) (Nat.le_of_ble_eq_true rfl) (f_157 (e1 := e1) (a9 := (nx F e1 a)) (B := H) (r8 := (nx F e1 a)) (L8 := (ln F e1 (nx F e1 a))) (W8 := (wv F (nx F e1 a) (ln F e1 (nx F e1 a)))) hI_807 ((hid kn_810)) ((h_809)) (fun j => ((hF_808 43 j (fun h => absurd h.1 (nn rfl))).trans (hFc 43 j qn_8f9b78528)).trans (hH j)) ((nx_tr hU (by first | exact q_a7eda21a5 h_24 ha | omega) ((rg_eq hg_e1 h_1).2)).trans ((nx_z (Or.inr (by first | exact q_b1e7f72d7 h_26 h_32 | omega))))) ((ln_tr hU (by first | exact q_a7eda21a5 h_24 ha | omega) ((rg_eq hg_e1 h_1).2)).trans (rfl)) ((wv_tr hU (by first | exact q_a7eda21a5 h_24 ha | omega) (by first | exact q_296ae6bb2 h_1 h_87 hg_e1 | omega) (fun j h1 h2 => ⟨(ln_in (e := e1) (a := (nx F e1 a)) h1 h2).1, (ln_in (e := e1) (a := (nx F e1 a)) h1 h2).2.1⟩)).trans (rfl)) (fun c_813 hI_814 hF_815 hz_816 => (bk_inl (q_istore_n c_169_62 (Nat.le_of_ble_eq_true rfl) (q_iload_n c_169_63 rfl (q_call c_169_64 rfl rfl rfl (q_iload_n c_166_0 rfl (q_ldc_s c_166_1 rfl rfl (by decide) (q_call c_166_3 rfl rfl rfl (s_158_16 ?_))))))))))
                  refine bk_inl (v_ic_eq_f (t := 36) c_166_6 rfl ⟨by first | exact q_8a190cb31 h_812 | omega, ⟨(Int.le_trans (by decide) h_811.1), (Int.le_trans h_811.2 (by decide))⟩, by decide, by decide⟩ (q_iload_n c_166_9 rfl (q_ldc_s c_166_10 rfl rfl (by decide) (q_call c_166_12 rfl rfl rfl (s_158_17 (bk_inl (v_ic_eq_t (t := 36) c_166_15 rfl (by first | exact q_912add97b h_812 | omega) (q_iconst c_166_36 ?_))))))))
                  refine q_goto (t := 41) c_166_37 rfl (v_zret c_166_41 rfl (by decide) (bk_inl (v_if_ne_t (t := 82) c_169_67 rfl (by decide) (q_iload_n c_169_82 rfl (v_bip c_169_83 (by decide) (v_ic_eq_f (t := 96) c_169_85 rfl ⟨by first | exact q_ed39b118e h_236 hv | omega, ⟨(Int.le_trans (by decide) hv.1), (Int.le_trans hv.2 (by decide))⟩, by decide, by decide⟩ (q_aload_n c_169_88 rfl ?_)))))))
                  refine q_iload_n c_169_89 rfl (v_cv c_169_90 km_8_220 rfl rfl (Nat.le_of_ble_eq_true rfl) ⟨⟨rfl, rfl⟩, Nat.le_of_ble_eq_true rfl, rfl⟩ (Nat.le_of_ble_eq_true rfl) (Nat.le_of_ble_eq_true rfl) (q_iload_n c_167_0 rfl (q_ldc_s c_167_1 rfl rfl (by decide) (q_call c_167_3 rfl rfl rfl (s_158_16 (bk_inl (v_ic_ne_t (t := 26) c_167_6 rfl ⟨by first | exact q_8a190cb31 h_812 | omega, ⟨(Int.le_trans (by decide) h_811.1), (Int.le_trans h_811.2 (by decide))⟩, by decide, by decide⟩ (q_iload_n c_167_26 rfl ?_))))))))
                  refine q_ldc_s c_167_27 rfl rfl (by decide) (q_call c_167_29 rfl rfl rfl (s_158_17 (bk_inl (v_ic_ne_f (t := 51) c_167_32 rfl (by first | exact q_912add97b h_812 | omega) (q_aload_n c_167_35 rfl ?_)))))
                  have kn_817 : Hid (c_806 41 17 = st) := (hF_808 41 17 (fun h => absurd h.2 (ni rfl))).trans (hr_st)
                  have kn_818 : Hid (c_813 41 17 = st) := (hF_815 41 17 (fun h => absurd h.2 (ni rfl))).trans (hid kn_817)
                  refine v_gi (z := 17) (v := st) c_167_36 kf_8_148 rfl (Nat.le_of_ble_eq_true rfl) rfl rfl (hid kn_818) (q_iconst c_167_39 (v_ic_ne_t (t := 47) c_167_40 rfl ⟨by first | exact q_12b330444 h_660 hst | omega, ⟨(Int.le_trans (by decide) hst.1), (Int.le_trans hst.2 (by decide))⟩, by decide, by decide⟩ (q_iconst c_167_47 (q_goto (t := 73) c_167_48 rfl (v_zret c_167_73 rfl (by decide) (bk_inl (v_if_eq_t (t := 105) c_169_93 rfl (by decide) ?_)))))))
                  refine q_aload_n c_169_105 rfl (v_cv c_169_106 km_8_131 rfl rfl (Nat.le_of_ble_eq_true rfl) ⟨⟨rfl, rfl⟩, Nat.le_of_ble_eq_true rfl, rfl⟩ (Nat.le_of_ble_eq_true rfl) (Nat.le_of_ble_eq_true rfl) (q_aload_n c_152_0 rfl ?_))
                  have kn_819 : Hid (c_806 41 5 = (-1)) := (hF_808 41 5 (fun h => absurd h.2 (ni rfl))).trans (hc_1)
                  have kn_820 : Hid (c_813 41 5 = (-1)) := (hF_815 41 5 (fun h => absurd h.2 (ni rfl))).trans (hid kn_819)
                  refine v_gi (z := 5) (v := (-1)) c_152_1 kf_8_102 rfl (Nat.le_of_ble_eq_true rfl) rfl rfl (hid kn_820) (q_iconst c_152_4 (v_ic_ne_f (t := 12) c_152_5 rfl (by decide) (q_iconst c_152_8 (q_goto (t := 13) c_152_9 rfl (v_zret c_152_13 rfl (by decide) (bk_inl (v_if_ne_t (t := 115) c_169_109 rfl (by decide) ?_)))))))
                  refine q_aload_n c_169_115 rfl ?_
                  have kn_821 : Hid (c_813 41 3 = e1) := (hF_815 41 3 (fun h => absurd h.2 (ni rfl))).trans (hid kn_810)
                  refine v_cv c_169_116 km_8_223 rfl rfl (Nat.le_of_ble_eq_true rfl) ⟨⟨rfl, rfl⟩, Nat.le_of_ble_eq_true rfl, rfl⟩ (Nat.le_of_ble_eq_true rfl) (Nat.le_of_ble_eq_true rfl) (f_159 (e1 := e1) (a9 := (nx F e1 a)) (B := H) (L8 := (ln F e1 (nx F e1 a))) hI_814 ((hid kn_821)) ((hz_816)) (fun j => ((hF_815 43 j (fun h => absurd h.1 (nn rfl))).trans ((hF_808 43 j (fun h => absurd h.1 (nn rfl))).trans (hFc 43 j qn_8f9b78528))).trans (hH j)) ((ln_tr hU (by first | exact q_a7eda21a5 h_24 ha | omega) ((rg_eq hg_e1 h_1).2)).trans (rfl)) (fun c_822 hI_823 hF_824 hz_825 => (bk_inl (q_aload_n c_169_119 rfl (q_iload_n c_169_120 rfl ?_)))))
                  have hw_826 : (wv F (nx F e1 a) (ln F e1 (nx F e1 a))) = 20594117 := by omega
                  rw [hw_826]
                  have kn_827 : Hid (c_103 1 1 = e1) := (hF_105 1 1 qn_b782e6d88).trans (hid kn_82)
                  have kn_828 : Hid (c_822 41 3 = e1) := (hF_824 41 3 (fun h => absurd h.2 (ni rfl))).trans (hid kn_821)
                  have kn_829 : Hid (c_806 41 16 = jr) := (hF_808 41 16 (fun h => absurd h.2 (ni rfl))).trans (hr_jr)
                  have kn_830 : Hid (c_813 41 16 = jr) := (hF_815 41 16 (fun h => absurd h.2 (ni rfl))).trans (hid kn_829)
                  have kn_831 : Hid (c_822 41 16 = jr) := (hF_824 41 16 (fun h => absurd h.2 (ni rfl))).trans (hid kn_830)
                  have kn_832 : Hid (c_822 41 17 = st) := (hF_824 41 17 (fun h => absurd h.2 (ni rfl))).trans (hid kn_818)
                  have kn_833 : Hid (c_806 41 18 = si) := (hF_808 41 18 (fun h => absurd h.2 (ni rfl))).trans (hr_si)
                  have kn_834 : Hid (c_813 41 18 = si) := (hF_815 41 18 (fun h => absurd h.2 (ni rfl))).trans (hid kn_833)
                  have kn_835 : Hid (c_822 41 18 = si) := (hF_824 41 18 (fun h => absurd h.2 (ni rfl))).trans (hid kn_834)
                  have kn_836 : Hid (c_27 A 3 = du) := (hF_29 A 3 (fun h => absurd h.1 (np0 hA rfl))).trans (hg_du)
                  have kn_837 : Hid (c_78 A 3 = du) := (hF_80 A 3 (fun h => absurd h.1 (np0 hA rfl))).trans (hid kn_836)
                  have kn_838 : Hid (c_103 A 3 = du) := (hF_105 A 3 (qn_014d425e1 hA)).trans (hid kn_837)
                  have kn_839 : Hid (c_806 41 19 = du) := (hF_808 41 19 (fun h => absurd h.2 (ni rfl))).trans (hr_du)
                  have kn_840 : Hid (c_813 41 19 = du) := (hF_815 41 19 (fun h => absurd h.2 (ni rfl))).trans (hid kn_839)
                  have kn_841 : Hid (c_822 41 19 = du) := (hF_824 41 19 (fun h => absurd h.2 (ni rfl))).trans (hid kn_840)
                  have h_842 : c_103 1 4 = 0 := (hz_109)
                  have h_843 : c_103 1 2 = (ln F e1 (nx F e1 a)) := (hz_108)
                  have h_844 : c_103 1 5 = (-1) := (hz_110)
                  have kn_845 : Hid (c_822 41 5 = (-1)) := (hF_824 41 5 (fun h => absurd h.2 (ni rfl))).trans (hid kn_820)
                  have h_846 : c_822 41 5 = (-1) := (hid kn_845)
                  have h_847 : c_822 41 4 = (ln F e1 (nx F e1 a)) := (hz_825)
                  have h_848 := ir_41_6 hI2
                  have kn_849 : Hid (c_806 41 6 = c2 41 6) := hF_808 41 6 (fun h => absurd h.2 (ni rfl))
                  have kn_850 : Hid (c_813 41 6 = c2 41 6) := (hF_815 41 6 (fun h => absurd h.2 (ni rfl))).trans (hid kn_849)
                  have kn_851 : Hid (c_822 41 6 = c2 41 6) := (hF_824 41 6 (fun h => absurd h.2 (ni rfl))).trans (hid kn_850)
                  have h_852 : c_822 41 6 = c2 41 6 := (hid kn_851)
                  refine v_cv c_169_121 km_8_226 rfl rfl (Nat.le_of_ble_eq_true rfl) ⟨⟨rfl, rfl⟩, Nat.le_of_ble_eq_true rfl, rfl⟩ (Nat.le_of_ble_eq_true rfl) (Nat.le_of_ble_eq_true rfl) (L_33_1 (m := c_103) (e1 := e1) (jr := jr) (st := st) (si := si) (du := du) (F := F) (H := H) hI_823 hI_104 hI_672 hA (by first | exact q_c0de63303 h_660 hst | omega) ((hid kn_827)) ((hid kn_828)) ((hid kn_664)) ((hid kn_831)) ((hid kn_659)) ((hid kn_832)) ((hid kn_669)) ((hid kn_835)) ((hid kn_838)) ((hid kn_841)) (fun j => ((hF_105 2 j qn_e2b123f84).trans ((hF_80 2 j (fun h => absurd h.1 (nn rfl))).trans ((hF_29 2 j (fun h => absurd h.1 (nn rfl))).trans (hFm 2 j (qn_64622c99c hA))))).trans (hF j)) (fun j => ((hF_824 43 j (fun h => absurd h.1 (nn rfl))).trans ((hF_815 43 j (fun h => absurd h.1 (nn rfl))).trans ((hF_808 43 j (fun h => absurd h.1 (nn rfl))).trans (hFc 43 j qn_8f9b78528)))).trans (hH j)) hU (rt_i1 ⟨by first | assumption | omega, by first | assumption | omega, by first | assumption | omega, by first | assumption | omega⟩) hG_674 (fun c_853 hI_854 hF_855 hR_857 h_858 h_859 h_860 h_861 => (bk_inl ?_)))
                  have h_862 := ir_41_16 hI_854
                  have h_863 := ir_41_17 hI_854
                  have h_864 := ir_41_18 hI_854
                  have h_865 := ir_41_19 hI_854
                  refine q_aload_n c_169_124 rfl (v_bip c_169_125 (by decide) ?_)
                  have kn_866 : Hid (c_671 1 1 = e1) := (hF_673 1 1 (qn_68bac1c70 hA)).trans (hid kn_827)
                  have kn_867 : Hid (c_853 41 3 = e1) := (hF_855 41 3 qn_b860ee9cc).trans (hid kn_828)
                  have h_868 := ir_1_2 hI_672
                  refine v_cv c_169_127 km_8_229 rfl rfl (Nat.le_of_ble_eq_true rfl) ⟨⟨rfl, rfl⟩, Nat.le_of_ble_eq_true rfl, rfl⟩ (Nat.le_of_ble_eq_true rfl) (Nat.le_of_ble_eq_true rfl) (L_11_9 (m := c_671) (e1 := e1) (a9 := c_671 1 2) (f0 := c_671 1 4) (F := F) (H := H) hI_854 hI_672 hI_677 ((hid kn_866)) ((hid kn_867)) (rfl) (rfl) (fun j => ((hF_673 2 j (qn_2292ef66f hA)).trans ((hF_105 2 j qn_e2b123f84).trans ((hF_80 2 j (fun h => absurd h.1 (nn rfl))).trans ((hF_29 2 j (fun h => absurd h.1 (nn rfl))).trans (hFm 2 j (qn_64622c99c hA)))))).trans (hF j)) (fun j => ((hF_855 43 j qn_8f9b78528).trans ((hF_824 43 j (fun h => absurd h.1 (nn rfl))).trans ((hF_815 43 j (fun h => absurd h.1 (nn rfl))).trans ((hF_808 43 j (fun h => absurd h.1 (nn rfl))).trans (hFc 43 j qn_8f9b78528))))).trans (hH j)) hU hR_857 hG_679 (fun c_869 hI_870 hF_871 hR_873 h_874 h_875 => (bk_inl (v_iinc (v := v + 1) c_169_130 rfl (Nat.le_of_ble_eq_true rfl) rfl (q_goto (t := 44) c_169_133 rfl (q_aload_n c_169_44 rfl (v_cv c_169_45 km_8_131 rfl rfl (Nat.le_of_ble_eq_true rfl) ⟨⟨rfl, rfl⟩, Nat.le_of_ble_eq_true rfl, rfl⟩ (Nat.le_of_ble_eq_true rfl) (Nat.le_of_ble_eq_true rfl) (q_aload_n c_152_0 rfl ?_))))))))
                  have h_876 := ir_41_5 hI_870
                  have h_877 := ir_41_4 hI_870
                  have h_878 := ir_41_6 hI_870
                  have h_879 := rt_bad hR_873 (by first | exact q_106d90f3b h_680 h_681 | omega)
                  have hrb_hR_873 := rt_bad hR_873 (by first | exact q_f7b7d720f h_879 | omega)
                  refine v_gi (z := 5) (v := c_676 1 5) c_152_1 kf_8_102 rfl (Nat.le_of_ble_eq_true rfl) rfl rfl hrb_hR_873.2.1 (q_iconst c_152_4 (v_ic_ne_t (t := 12) c_152_5 rfl ⟨by first | exact q_0f78863d3 h_879 | omega, ⟨(Int.le_trans (by decide) h_782.1), (Int.le_trans h_782.2 (by decide))⟩, by decide, by decide⟩ (q_iconst c_152_12 (v_zret c_152_13 rfl (by decide) (bk_inl (v_if_eq_t (t := 136) c_169_48 rfl (by decide) (Wp_ls [(0, .ref 41), (1, vi a1)] (lsub_cons rfl (lsub_cons rfl lsub_nil)) ?_)))))))
                  have h_880 : c_869 41 5 = c_676 1 5 := hrb_hR_873.2.1
                  have h_881 : c_869 41 6 = c_676 1 4 := hrb_hR_873.2.2.2
                  have kn_882 : Hid (c_869 41 16 = c_853 41 16) := hF_871 41 16 qn_e8809db5e
                  have h_883 : c_869 41 16 = c_853 41 16 := (hid kn_882)
                  have kn_884 : Hid (c_869 41 17 = c_853 41 17) := hF_871 41 17 qn_a870196d2
                  have h_885 : c_869 41 17 = c_853 41 17 := (hid kn_884)
                  have kn_886 : Hid (c_869 41 18 = c_853 41 18) := hF_871 41 18 qn_d8f940cfc
                  have h_887 : c_869 41 18 = c_853 41 18 := (hid kn_886)
                  have kn_888 : Hid (c_869 41 19 = c_853 41 19) := hF_871 41 19 qn_f6eda7af3
                  have h_889 : c_869 41 19 = c_853 41 19 := (hid kn_888)
                  exact K c_869  hI_870 (fun a j hm => (hF_871 a j (qv_e105a9b19 hm)).trans ((hF_855 a j hm).trans ((hF_824 a j (fun h => hm (Or.inl h))).trans ((hF_815 a j (fun h => hm (Or.inl h))).trans ((hF_808 a j (fun h => hm (Or.inl h))).trans (hFc a j hm)))))) (rt_i2 ⟨⟨by first | exact q_c4ab36c8d h_778 h_879 | omega, by first | exact q_c99d6ea93 h_777 | omega⟩, by first | exact q_88dc5fb99 h_784 | omega, by first | exact q_cb71117a2 h_784 h_879 | omega, by first | exact q_88dc5fb99 h_778 | omega⟩) (Or.inr (Or.inl (by first | exact q_374cd1df9 h_778 h_879 | omega)))
              · refine v_ic_ne_f (t := 55) c_31_48 rfl (Decidable.not_not.mp h_660) (q_iconst c_31_51 (q_goto (t := 56) c_31_52 rfl (v_zret c_31_56 rfl (by decide) (bk_inl (v_if_eq_f (t := 59) c_34_50 rfl (by decide) (q_aload_n c_34_53 rfl (q_iconst c_34_54 ?_)))))))
                refine q_iload_n c_34_55 rfl (v_cv c_34_56 km_2_64 rfl rfl (Nat.le_of_ble_eq_true rfl) ⟨⟨rfl, rfl⟩, Nat.le_of_ble_eq_true rfl, rfl⟩ (Nat.le_of_ble_eq_true rfl) (Nat.le_of_ble_eq_true rfl) (q_aload_n c_7_0 rfl (v_gi (z := 4) (v := 0) c_7_1 kf_5_38 rfl (Nat.le_of_ble_eq_true rfl) rfl rfl (hz_109) (v_if_ne_f (t := 17) c_7_4 rfl (by decide) (q_aload_n c_7_7 rfl (q_iload_n c_7_8 rfl (v_pi (z := 4) c_7_9 kf_5_38 rfl (Nat.le_of_ble_eq_true rfl) rfl rfl rfl (by decide) ?_)))))))
                refine q_aload_n c_7_12 rfl (q_iload_n c_7_13 rfl (v_pi (z := 5) c_7_14 kf_5_15 rfl (Nat.le_of_ble_eq_true rfl) rfl rfl rfl (by decide) (q_vret rfl rfl (bk_inl (q_aload_n c_34_59 rfl (v_cv c_34_60 km_2_68 rfl rfl (Nat.le_of_ble_eq_true rfl) ⟨⟨rfl, rfl⟩, Nat.le_of_ble_eq_true rfl, rfl⟩ (Nat.le_of_ble_eq_true rfl) (Nat.le_of_ble_eq_true rfl) (q_aload_n c_2_0 rfl ?_)))))))
                refine v_gi (z := 4) (v := 3) c_2_1 kf_5_38 rfl (Nat.le_of_ble_eq_true rfl) rfl rfl ((up_n (by decide)).trans (up_e rfl)) (v_if_ne_t (t := 11) c_2_4 rfl (by decide) (q_iconst c_2_11 (v_zret c_2_12 rfl (by decide) (bk_inl (v_if_eq_t (t := 73) c_34_63 rfl (by decide) (q_aload_n c_34_73 rfl (q_ldc_s c_34_74 rfl rfl (by decide) ?_)))))))
                refine v_cv c_34_76 km_2_77 rfl rfl (Nat.le_of_ble_eq_true rfl) ⟨⟨rfl, rfl⟩, Nat.le_of_ble_eq_true rfl, rfl⟩ (Nat.le_of_ble_eq_true rfl) (Nat.le_of_ble_eq_true rfl) (q_aload_n c_11_0 rfl (v_cv c_11_1 km_5_45 rfl rfl (Nat.le_of_ble_eq_true rfl) ⟨⟨rfl, rfl⟩, Nat.le_of_ble_eq_true rfl, rfl⟩ (Nat.le_of_ble_eq_true rfl) (Nat.le_of_ble_eq_true rfl) (q_aload_n c_2_0 rfl (v_gi (z := 4) (v := 3) c_2_1 kf_5_38 rfl (Nat.le_of_ble_eq_true rfl) rfl rfl ((up_n (by decide)).trans (up_e rfl)) (v_if_ne_t (t := 11) c_2_4 rfl (by decide) (q_iconst c_2_11 (v_zret c_2_12 rfl (by decide) ?_)))))))
                refine bk_inl (v_if_eq_t (t := 25) c_11_4 rfl (by decide) (q_vret rfl rfl (bk_inl (v_iinc (v := v + 1) c_34_79 rfl (Nat.le_of_ble_eq_true rfl) rfl (q_goto (t := 6) c_34_82 rfl (q_iload_n c_34_6 rfl (v_bip c_34_7 (by decide) ?_)))))))
                refine v_ic_gt_f (t := 85) c_34_9 rfl ⟨by first | exact rgp_l hv.1 (by decide) | omega, by first | exact q_a69d2ea54 h_236 hv | omega, by decide⟩ (q_aload_n c_34_12 rfl (v_cv c_34_13 km_2_44 rfl rfl (Nat.le_of_ble_eq_true rfl) ⟨⟨rfl, rfl⟩, Nat.le_of_ble_eq_true rfl, rfl⟩ (Nat.le_of_ble_eq_true rfl) (Nat.le_of_ble_eq_true rfl) (q_aload_n c_15_0 rfl (v_cv c_15_1 km_5_45 rfl rfl (Nat.le_of_ble_eq_true rfl) ⟨⟨rfl, rfl⟩, Nat.le_of_ble_eq_true rfl, rfl⟩ (Nat.le_of_ble_eq_true rfl) (Nat.le_of_ble_eq_true rfl) (q_aload_n c_2_0 rfl (v_gi (z := 4) (v := 3) c_2_1 kf_5_38 rfl (Nat.le_of_ble_eq_true rfl) rfl rfl ((up_n (by decide)).trans (up_e rfl)) (v_if_ne_t (t := 11) c_2_4 rfl (by decide) ?_)))))))
                refine q_iconst c_2_11 (v_zret c_2_12 rfl (by decide) (bk_inl (v_if_eq_t (t := 22) c_15_4 rfl (by decide) (q_iconst c_15_22 (v_zret c_15_23 rfl (by decide) (bk_inl (v_if_eq_t (t := 85) c_34_16 rfl (by decide) ?_)))))))
                refine q_vret rfl rfl ?_
                have hI_890 := iw_1_4 (v := 3) hI_104 ⟨by decide, by decide⟩
                have hI_891 := iw_1_5 (v := (nx F e1 a)) hI_890 ⟨by first | exact q_9531afe7c h_24 ha | omega, by first | exact q_8ee92dabb h_2 h_32 hr_e1 | omega⟩
                intro hE_892
                have hW : Wd P Q P P (up (up c_103 1 4 3) 1 5 (nx F e1 a)) = Wd P Q P P m9 := (Prod.mk.inj (Prod.mk.inj hE_892).2).1
                have h_893 := ir_1_4 hJ9
                have h_894 : m9 1 4 = 3 := wd_fv (z := 4) 4 rfl hW rfl rfl rfl rfl (by decide) ((up_n (by decide)).trans (up_e rfl)) ⟨by decide, by decide⟩ ⟨(Int.le_trans (by decide) h_893.1), (Int.le_trans h_893.2 (by decide))⟩
                have h_895 := ir_1_2 hJ9
                have h_896 : m9 1 2 = (ln F e1 (nx F e1 a)) := wd_fv (z := 2) 2 rfl hW rfl rfl rfl rfl (by decide) ((up_n (by decide)).trans ((up_n (by decide)).trans (hz_108))) ⟨by first | exact q_db1b60104 h_24 h_87 ha | omega, by first | exact q_285f5cce7 h_1 h_87 hg_e1 | omega⟩ ⟨(Int.le_trans (by decide) h_895.1), (Int.le_trans h_895.2 (by decide))⟩
                have h_897 := ir_1_5 hJ9
                have h_898 : m9 1 5 = (nx F e1 a) := wd_fv (z := 5) 5 rfl hW rfl rfl rfl rfl (by decide) (up_e rfl) ⟨by first | exact q_378c2316e h_24 ha | omega, by first | exact q_f47c0b92d h_1 h_32 hg_e1 | omega⟩ ⟨(Int.le_trans (by decide) h_897.1), (Int.le_trans h_897.2 (by decide))⟩
                have kn_899 : Hid (c_27 A 0 = jr) := (hF_29 A 0 (fun h => absurd h.1 (np0 hA rfl))).trans (hg_jr)
                have kn_900 : Hid (c_78 A 0 = jr) := (hF_80 A 0 (fun h => absurd h.1 (np0 hA rfl))).trans (hid kn_899)
                have kn_901 : Hid (c_103 A 0 = jr) := (hF_105 A 0 (qn_014d425e1 hA)).trans (hid kn_900)
                have h_902 := ir_p0_0 hJ9 hA
                have h_903 : m9 A 0 = jr := wd_fv (z := 0) 0 rfl hW (ck_p0 hA) (ck_p0 hA) rfl rfl (a68z hA) ((up_c (np0 hA rfl)).trans ((up_c (np0 hA rfl)).trans (hid kn_901))) ⟨(Int.le_trans (by decide) hjr.1), (Int.le_trans hjr.2 (by decide))⟩ ⟨(Int.le_trans (by decide) h_902.1), (Int.le_trans h_902.2 (by decide))⟩
                have h_904 := ir_p0_1 hJ9 hA
                have h_905 : m9 A 1 = st := wd_fv (z := 1) 1 rfl hW (ck_p0 hA) (ck_p0 hA) rfl rfl (a68z hA) ((up_c (np0 hA rfl)).trans ((up_c (np0 hA rfl)).trans (hid kn_659))) ⟨(Int.le_trans (by decide) hst.1), (Int.le_trans hst.2 (by decide))⟩ ⟨(Int.le_trans (by decide) h_904.1), (Int.le_trans h_904.2 (by decide))⟩
                have kn_906 : Hid (c_27 A 2 = si) := (hF_29 A 2 (fun h => absurd h.1 (np0 hA rfl))).trans (hg_si)
                have kn_907 : Hid (c_78 A 2 = si) := (hF_80 A 2 (fun h => absurd h.1 (np0 hA rfl))).trans (hid kn_906)
                have kn_908 : Hid (c_103 A 2 = si) := (hF_105 A 2 (qn_014d425e1 hA)).trans (hid kn_907)
                have h_909 := ir_p0_2 hJ9 hA
                have h_910 : m9 A 2 = si := wd_fv (z := 2) 2 rfl hW (ck_p0 hA) (ck_p0 hA) rfl rfl (a68z hA) ((up_c (np0 hA rfl)).trans ((up_c (np0 hA rfl)).trans (hid kn_908))) ⟨(Int.le_trans (by decide) hsi.1), (Int.le_trans hsi.2 (by decide))⟩ ⟨(Int.le_trans (by decide) h_909.1), (Int.le_trans h_909.2 (by decide))⟩
                have kn_911 : Hid (c_27 A 3 = du) := (hF_29 A 3 (fun h => absurd h.1 (np0 hA rfl))).trans (hg_du)
                have kn_912 : Hid (c_78 A 3 = du) := (hF_80 A 3 (fun h => absurd h.1 (np0 hA rfl))).trans (hid kn_911)
                have kn_913 : Hid (c_103 A 3 = du) := (hF_105 A 3 (qn_014d425e1 hA)).trans (hid kn_912)
                have h_914 := ir_p0_3 hJ9 hA
                have h_915 : m9 A 3 = du := wd_fv (z := 3) 3 rfl hW (ck_p0 hA) (ck_p0 hA) rfl rfl (a68z hA) ((up_c (np0 hA rfl)).trans ((up_c (np0 hA rfl)).trans (hid kn_913))) ⟨(Int.le_trans (by decide) hdu.1), (Int.le_trans hdu.2 (by decide))⟩ ⟨(Int.le_trans (by decide) h_914.1), (Int.le_trans h_914.2 (by decide))⟩
                refine q_aload_n c_169_44 rfl (v_cv c_169_45 km_8_131 rfl rfl (Nat.le_of_ble_eq_true rfl) ⟨⟨rfl, rfl⟩, Nat.le_of_ble_eq_true rfl, rfl⟩ (Nat.le_of_ble_eq_true rfl) (Nat.le_of_ble_eq_true rfl) (q_aload_n c_152_0 rfl (v_gi (z := 5) (v := (-1)) c_152_1 kf_8_102 rfl (Nat.le_of_ble_eq_true rfl) rfl rfl (hc_1) (q_iconst c_152_4 (v_ic_ne_f (t := 12) c_152_5 rfl (by decide) (q_iconst c_152_8 (q_goto (t := 13) c_152_9 rfl ?_)))))))
                refine v_zret c_152_13 rfl (by decide) (bk_inl (v_if_eq_f (t := 136) c_169_48 rfl (by decide) (q_aload_n c_169_51 rfl (v_cv c_169_52 km_8_211 rfl rfl (Nat.le_of_ble_eq_true rfl) ⟨⟨rfl, rfl⟩, Nat.le_of_ble_eq_true rfl, rfl⟩ (Nat.le_of_ble_eq_true rfl) (Nat.le_of_ble_eq_true rfl) (q_aload_n c_162_0 rfl ?_)))))
                have kn_916 : Hid (c2 41 3 = e1) := (hFc 41 3 qn_b860ee9cc).trans (hr_e1)
                have h_917 : -2147483648 ≤ (H (nx F e1 a)) ∧ (H (nx F e1 a)) ≤ 2147483647 := by rw [← hH (nx F e1 a)]; exact ir_43 hI (nx F e1 a)
                have h_918 := hU (nx F e1 a) (by first | exact q_a7eda21a5 h_24 ha | omega) (by first | exact q_6c5402073 h_1 h_32 hg_e1 | omega)
                have h_919 := hb_or (b := H) (e := e1) (r := (nx F e1 a))
                have h_920 := hb_bd (b := H) (e := e1) (r := (nx F e1 a)) (lo := -2147483648) (hi := 2147483647) h_917 (by decide)
                refine v_cv c_162_1 km_8_114 rfl rfl (Nat.le_of_ble_eq_true rfl) ⟨⟨rfl, rfl⟩, Nat.le_of_ble_eq_true rfl, rfl⟩ (Nat.le_of_ble_eq_true rfl) (Nat.le_of_ble_eq_true rfl) (f_154 (e1 := e1) (a9 := a) (B := H) (r8 := (nx F e1 a)) (r := (hb H e1 (nx F e1 a))) hI2 ((hid kn_916)) ((hr_a)) (fun j => (hFc 43 j qn_8f9b78528).trans (hH j)) ((nx_tr hU (ha.1) ((rg_eq hg_e1 h_1).2)).trans (rfl)) rfl (fun c_921 hI_922 hF_923 h_924 => (bk_inl (q_pop c_162_4 rfl (q_aload_n c_162_5 rfl (v_gi (z := 4) (v := (nx F e1 a)) c_162_6 kf_8_108 rfl (Nat.le_of_ble_eq_true rfl) rfl rfl (h_924) (q_aload_n c_162_9 rfl ?_)))))))
                have kn_925 : Hid (c_921 41 3 = e1) := (hF_923 41 3 (fun h => absurd h.2 (ni rfl))).trans (hid kn_916)
                refine v_gi (z := 3) (v := e1) c_162_10 kf_8_111 rfl (Nat.le_of_ble_eq_true rfl) rfl rfl (hid kn_925) (v_ic_ge_f (t := 20) c_162_13 rfl ⟨by first | exact q_378c2316e h_24 ha | omega, by first | exact q_d17d18138 h_32 | omega, (Int.le_trans (rg_eq hg_e1 h_1).2 (by decide))⟩ (q_iconst c_162_16 (q_goto (t := 21) c_162_17 rfl (v_zret c_162_21 rfl (by decide) (bk_inl (v_if_eq_f (t := 136) c_169_55 rfl (by decide) (q_aload_n c_169_58 rfl ?_)))))))
                have h_926 := wv_bd (b := F) (r := (nx F e1 a)) (l := (ln F e1 (nx F e1 a))) (fun j h1 h2 => ⟨(ln_in (e := e1) (a := (nx F e1 a)) h1 h2).1, (ln_in (e := e1) (a := (nx F e1 a)) h1 h2).2.1⟩)
                have h_927 := wr8_1 (b := F) (r := (nx F e1 a)) (l := (ln F e1 (nx F e1 a))) (by first | exact q_18f17732a h_87 | omega) (fun j h1 h2 => ⟨(ln_in (e := e1) (a := (nx F e1 a)) h1 h2).1, (ln_in (e := e1) (a := (nx F e1 a)) h1 h2).2.1⟩) (by first | exact q_e2571c9b4 h_656 | omega)
                refine v_cv c_169_59 km_8_214 rfl rfl (Nat.le_of_ble_eq_true rfl) ⟨⟨rfl, rfl⟩, Nat.le_of_ble_eq_true rfl, rfl⟩ (Nat.le_of_ble_eq_true rfl) (Nat.le_of_ble_eq_true rfl) (f_157 (e1 := e1) (a9 := (nx F e1 a)) (B := H) (r8 := (nx F e1 a)) (L8 := (ln F e1 (nx F e1 a))) (W8 := (wv F (nx F e1 a) (ln F e1 (nx F e1 a)))) hI_922 ((hid kn_925)) ((h_924)) (fun j => ((hF_923 43 j (fun h => absurd h.1 (nn rfl))).trans (hFc 43 j qn_8f9b78528)).trans (hH j)) ((nx_tr hU (by first | exact q_a7eda21a5 h_24 ha | omega) ((rg_eq hg_e1 h_1).2)).trans ((nx_z (Or.inr (by first | exact q_b1e7f72d7 h_26 h_32 | omega))))) ((ln_tr hU (by first | exact q_a7eda21a5 h_24 ha | omega) ((rg_eq hg_e1 h_1).2)).trans (rfl)) ((wv_tr hU (by first | exact q_a7eda21a5 h_24 ha | omega) (by first | exact q_93d3e60a8 h_895 h_896 | omega) (fun j h1 h2 => ⟨(ln_in (e := e1) (a := (nx F e1 a)) h1 h2).1, (ln_in (e := e1) (a := (nx F e1 a)) h1 h2).2.1⟩)).trans (rfl)) (fun c_928 hI_929 hF_930 hz_931 => (bk_inl (q_istore_n c_169_62 (Nat.le_of_ble_eq_true rfl) (q_iload_n c_169_63 rfl (q_call c_169_64 rfl rfl rfl (q_iload_n c_166_0 rfl (q_ldc_s c_166_1 rfl rfl (by decide) (q_call c_166_3 rfl rfl rfl (s_158_16 ?_))))))))))
                refine bk_inl (v_ic_eq_f (t := 36) c_166_6 rfl ⟨by first | exact q_8a190cb31 h_927 | omega, ⟨(Int.le_trans (by decide) h_926.1), (Int.le_trans h_926.2 (by decide))⟩, by decide, by decide⟩ (q_iload_n c_166_9 rfl (q_ldc_s c_166_10 rfl rfl (by decide) (q_call c_166_12 rfl rfl rfl (s_158_17 (bk_inl (v_ic_eq_t (t := 36) c_166_15 rfl (by first | exact q_912add97b h_927 | omega) (q_iconst c_166_36 ?_))))))))
                refine q_goto (t := 41) c_166_37 rfl (v_zret c_166_41 rfl (by decide) (bk_inl (v_if_ne_t (t := 82) c_169_67 rfl (by decide) (q_iload_n c_169_82 rfl (v_bip c_169_83 (by decide) (v_ic_eq_f (t := 96) c_169_85 rfl ⟨by first | exact q_ed39b118e h_236 hv | omega, ⟨(Int.le_trans (by decide) hv.1), (Int.le_trans hv.2 (by decide))⟩, by decide, by decide⟩ (q_aload_n c_169_88 rfl ?_)))))))
                refine q_iload_n c_169_89 rfl (v_cv c_169_90 km_8_220 rfl rfl (Nat.le_of_ble_eq_true rfl) ⟨⟨rfl, rfl⟩, Nat.le_of_ble_eq_true rfl, rfl⟩ (Nat.le_of_ble_eq_true rfl) (Nat.le_of_ble_eq_true rfl) (q_iload_n c_167_0 rfl (q_ldc_s c_167_1 rfl rfl (by decide) (q_call c_167_3 rfl rfl rfl (s_158_16 (bk_inl (v_ic_ne_t (t := 26) c_167_6 rfl ⟨by first | exact q_8a190cb31 h_927 | omega, ⟨(Int.le_trans (by decide) h_926.1), (Int.le_trans h_926.2 (by decide))⟩, by decide, by decide⟩ (q_iload_n c_167_26 rfl ?_))))))))
                refine q_ldc_s c_167_27 rfl rfl (by decide) (q_call c_167_29 rfl rfl rfl (s_158_17 (bk_inl (v_ic_ne_f (t := 51) c_167_32 rfl (by first | exact q_912add97b h_927 | omega) (q_aload_n c_167_35 rfl ?_)))))
                have kn_932 : Hid (c_921 41 17 = st) := (hF_923 41 17 (fun h => absurd h.2 (ni rfl))).trans (hr_st)
                have kn_933 : Hid (c_928 41 17 = st) := (hF_930 41 17 (fun h => absurd h.2 (ni rfl))).trans (hid kn_932)
                refine v_gi (z := 17) (v := st) c_167_36 kf_8_148 rfl (Nat.le_of_ble_eq_true rfl) rfl rfl (hid kn_933) (q_iconst c_167_39 (v_ic_ne_f (t := 47) c_167_40 rfl (by first | exact q_1fd48870b h_660 hst | omega) (q_iconst c_167_43 (q_goto (t := 73) c_167_44 rfl (v_zret c_167_73 rfl (by decide) (bk_inl (v_if_eq_f (t := 105) c_169_93 rfl (by decide) ?_)))))))
                refine q_aload_n c_169_96 rfl (q_iconst c_169_97 (q_aload_n c_169_98 rfl (v_gi (z := 4) (v := (nx F e1 a)) c_169_99 kf_8_108 rfl (Nat.le_of_ble_eq_true rfl) rfl rfl (hz_931) (v_cv c_169_102 km_8_138 rfl rfl (Nat.le_of_ble_eq_true rfl) ⟨⟨rfl, rfl⟩, Nat.le_of_ble_eq_true rfl, rfl⟩ (Nat.le_of_ble_eq_true rfl) (Nat.le_of_ble_eq_true rfl) (q_aload_n c_153_0 rfl ?_)))))
                have kn_934 : Hid (c_921 41 5 = (-1)) := (hF_923 41 5 (fun h => absurd h.2 (ni rfl))).trans (hc_1)
                have kn_935 : Hid (c_928 41 5 = (-1)) := (hF_930 41 5 (fun h => absurd h.2 (ni rfl))).trans (hid kn_934)
                refine v_gi (z := 5) (v := (-1)) c_153_1 kf_8_102 rfl (Nat.le_of_ble_eq_true rfl) rfl rfl (hid kn_935) (q_iconst c_153_4 (v_ic_eq_t (t := 9) c_153_5 rfl (by decide) (q_aload_n c_153_9 rfl (q_iload_n c_153_10 rfl (v_pi (z := 5) c_153_11 kf_8_102 rfl (Nat.le_of_ble_eq_true rfl) rfl rfl rfl (by decide) (q_aload_n c_153_14 rfl (q_iload_n c_153_15 rfl ?_)))))))
                refine v_pi (z := 6) c_153_16 kf_8_105 rfl (Nat.le_of_ble_eq_true rfl) rfl rfl rfl (by decide) (q_vret rfl rfl (bk_inl (q_aload_n c_169_105 rfl (v_cv c_169_106 km_8_131 rfl rfl (Nat.le_of_ble_eq_true rfl) ⟨⟨rfl, rfl⟩, Nat.le_of_ble_eq_true rfl, rfl⟩ (Nat.le_of_ble_eq_true rfl) (Nat.le_of_ble_eq_true rfl) (q_aload_n c_152_0 rfl (v_gi (z := 5) (v := (nx F e1 a)) c_152_1 kf_8_102 rfl (Nat.le_of_ble_eq_true rfl) rfl rfl ((up_n (by decide)).trans (up_e rfl)) (q_iconst c_152_4 ?_)))))))
                refine v_ic_ne_t (t := 12) c_152_5 rfl ⟨by first | exact q_1f202bb18 h_24 ha | omega, ⟨by first | exact q_378c2316e h_24 ha | omega, by first | exact q_783468581 h_897 h_898 | omega⟩, by decide, by decide⟩ (q_iconst c_152_12 (v_zret c_152_13 rfl (by decide) (bk_inl (v_if_ne_f (t := 115) c_169_109 rfl (by decide) (q_goto (t := 136) c_169_112 rfl (Wp_ls [(0, .ref 41), (1, vi a1)] (lsub_cons rfl (lsub_cons rfl lsub_nil)) ?_))))))
                have hI_936 := iw_41_5 (v := (nx F e1 a)) hI_929 ⟨by first | exact q_9531afe7c h_24 ha | omega, by first | exact q_6094bb0fa h_897 h_898 | omega⟩
                have hI_937 := iw_41_6 (v := 3) hI_936 ⟨by decide, by decide⟩
                have h_938 : (up (up c_928 41 5 (nx F e1 a)) 41 6 3) 41 5 = (nx F e1 a) := ((up_n (by decide)).trans (up_e rfl))
                have h_939 : (up (up c_928 41 5 (nx F e1 a)) 41 6 3) 41 4 = (nx F e1 a) := ((up_n (by decide)).trans ((up_n (by decide)).trans (hz_931)))
                have h_940 : (up (up c_928 41 5 (nx F e1 a)) 41 6 3) 41 6 = 3 := (up_e rfl)
                have kn_941 : Hid (c_921 41 16 = jr) := (hF_923 41 16 (fun h => absurd h.2 (ni rfl))).trans (hr_jr)
                have kn_942 : Hid (c_928 41 16 = jr) := (hF_930 41 16 (fun h => absurd h.2 (ni rfl))).trans (hid kn_941)
                have h_943 : (up (up c_928 41 5 (nx F e1 a)) 41 6 3) 41 16 = jr := ((up_n (by decide)).trans ((up_n (by decide)).trans (hid kn_942)))
                have h_944 : (up (up c_928 41 5 (nx F e1 a)) 41 6 3) 41 17 = st := ((up_n (by decide)).trans ((up_n (by decide)).trans (hid kn_933)))
                have kn_945 : Hid (c_921 41 18 = si) := (hF_923 41 18 (fun h => absurd h.2 (ni rfl))).trans (hr_si)
                have kn_946 : Hid (c_928 41 18 = si) := (hF_930 41 18 (fun h => absurd h.2 (ni rfl))).trans (hid kn_945)
                have h_947 : (up (up c_928 41 5 (nx F e1 a)) 41 6 3) 41 18 = si := ((up_n (by decide)).trans ((up_n (by decide)).trans (hid kn_946)))
                have kn_948 : Hid (c_921 41 19 = du) := (hF_923 41 19 (fun h => absurd h.2 (ni rfl))).trans (hr_du)
                have kn_949 : Hid (c_928 41 19 = du) := (hF_930 41 19 (fun h => absurd h.2 (ni rfl))).trans (hid kn_948)
                have h_950 : (up (up c_928 41 5 (nx F e1 a)) 41 6 3) 41 19 = du := ((up_n (by decide)).trans ((up_n (by decide)).trans (hid kn_949)))
                exact K (up (up c_928 41 5 (nx F e1 a)) 41 6 3)  hI_937 (fun a j hm => (up_b (Decidable.or_iff_not_imp_left.mpr (fun h1 h2 => hm (Or.inr (Or.inr (Or.inl ⟨Decidable.not_not.mp h1, h2⟩)))))).trans ((up_b (Decidable.or_iff_not_imp_left.mpr (fun h1 h2 => hm (Or.inr (Or.inl ⟨Decidable.not_not.mp h1, h2⟩))))).trans ((hF_930 a j (fun h => hm (Or.inl h))).trans ((hF_923 a j (fun h => hm (Or.inl h))).trans (hFc a j hm))))) (rt_i2 ⟨⟨by first | exact q_fcb6ff4be h_894 | omega, by first | exact q_c99d6ea93 h_893 | omega⟩, by first | exact q_88dc5fb99 h_898 | omega, by first | exact q_0a27ce016 h_24 h_898 ha | omega, by first | exact q_bff6e6fd4 h_893 h_894 | omega⟩) (Or.inr (Or.inl (by first | exact q_33afb0047 h_894 | omega)))
          by_cases h_951 : (wd8_0 F (nx F e1 a) (ln F e1 (nx F e1 a))) = 2
          · as_aux_lemma =>
              skip
              refine v_tsw_i (t := 57) 2 rfl (by omega) (by decide) rfl (by decide) (q_aload_n c_31_57 rfl ?_)
              have kn_952 : Hid (c_27 A 2 = si) := (hF_29 A 2 (fun h => absurd h.1 (np0 hA rfl))).trans (hg_si)
              have kn_953 : Hid (c_78 A 2 = si) := (hF_80 A 2 (fun h => absurd h.1 (np0 hA rfl))).trans (hid kn_952)
              have kn_954 : Hid (c_103 A 2 = si) := (hF_105 A 2 (qn_014d425e1 hA)).trans (hid kn_953)
              refine v_gi (z := 2) (v := si) c_31_58 kf_2_87 (ck_p0 hA) (a68z hA) rfl rfl (hid kn_954) (q_iconst c_31_61 ?_)
              by_cases h_955 : si ≠ 4
              · refine v_ic_ne_t (t := 69) c_31_62 rfl ⟨h_955, ⟨(Int.le_trans (by decide) hsi.1), (Int.le_trans hsi.2 (by decide))⟩, by decide, by decide⟩ (q_iconst c_31_69 (v_zret c_31_70 rfl (by decide) (bk_inl (v_if_eq_t (t := 59) c_34_50 rfl (by decide) (q_aload_n c_34_59 rfl (v_cv c_34_60 km_2_68 rfl rfl (Nat.le_of_ble_eq_true rfl) ⟨⟨rfl, rfl⟩, Nat.le_of_ble_eq_true rfl, rfl⟩ (Nat.le_of_ble_eq_true rfl) (Nat.le_of_ble_eq_true rfl) (q_aload_n c_2_0 rfl ?_)))))))
                refine v_gi (z := 4) (v := 0) c_2_1 kf_5_38 rfl (Nat.le_of_ble_eq_true rfl) rfl rfl (hz_109) (v_if_ne_f (t := 11) c_2_4 rfl (by decide) (q_iconst c_2_7 (q_goto (t := 12) c_2_8 rfl (v_zret c_2_12 rfl (by decide) (bk_inl (v_if_eq_f (t := 73) c_34_63 rfl (by decide) (q_aload_n c_34_66 rfl ?_)))))))
                refine q_aload_n c_34_67 rfl (q_iload c_34_68 rfl ?_)
                have hw_956 : (wd8_0 F (nx F e1 a) (ln F e1 (nx F e1 a))) = 2 := by omega
                rw [hw_956]
                have kn_957 : Hid (c_27 A 0 = jr) := (hF_29 A 0 (fun h => absurd h.1 (np0 hA rfl))).trans (hg_jr)
                have kn_958 : Hid (c_78 A 0 = jr) := (hF_80 A 0 (fun h => absurd h.1 (np0 hA rfl))).trans (hid kn_957)
                have kn_959 : Hid (c_103 A 0 = jr) := (hF_105 A 0 (qn_014d425e1 hA)).trans (hid kn_958)
                have h_960 : c_103 A 0 = jr := (hid kn_959)
                have kn_961 : Hid (c_27 A 1 = st) := (hF_29 A 1 (fun h => absurd h.1 (np0 hA rfl))).trans (hg_st)
                have kn_962 : Hid (c_78 A 1 = st) := (hF_80 A 1 (fun h => absurd h.1 (np0 hA rfl))).trans (hid kn_961)
                have kn_963 : Hid (c_103 A 1 = st) := (hF_105 A 1 (qn_014d425e1 hA)).trans (hid kn_962)
                have h_964 : c_103 A 1 = st := (hid kn_963)
                have h_965 : c_103 A 2 = si := (hid kn_954)
                refine v_cv c_34_70 km_2_71 rfl (ck_p0 hA) (a68z hA) ⟨⟨rfl, rfl⟩, by decide, rfl⟩ (Nat.le_of_ble_eq_true rfl) (Nat.le_of_ble_eq_true rfl) (fn_of (s_33 (a2 := 2) hI_104 hA (show 0 ≤ 2 ∧ 2 ≤ 100 from ⟨by decide, by decide⟩) (Or.inl (by first | decide | omega)) (Or.inl (by first | decide | omega)) (Or.inr (by first | exact q_c0de63303 h_955 hsi | omega)) (fun c_966 hI_967 hF_968 => ?_)))
                intro hG_969
                refine bk_inl (q_aload_n c_34_73 rfl (q_ldc_s c_34_74 rfl rfl (by decide) ?_))
                have h_970 := ir_1_4 hI_967
                refine v_cv c_34_76 km_2_77 rfl rfl (Nat.le_of_ble_eq_true rfl) ⟨⟨rfl, rfl⟩, Nat.le_of_ble_eq_true rfl, rfl⟩ (Nat.le_of_ble_eq_true rfl) (Nat.le_of_ble_eq_true rfl) (fn_of (s_11 hI_967 (q := 9) (nt := 1) (by decide) (by decide) (by decide) (fun c_971 hI_972 hF_973 => ?_)))
                intro hG_974
                refine bk_inl (v_iinc (v := v + 1) c_34_79 rfl (Nat.le_of_ble_eq_true rfl) rfl (q_goto (t := 6) c_34_82 rfl ?_))
                have h_975 := ir_1_4 hI_972
                by_cases h_976 : c_971 1 4 = 0
                · skip
                  refine Wp_ls [(0, .ref A), (1, .ref 1), (2, vi (v + 1))] (lsub_cons rfl (lsub_cons rfl (lsub_cons rfl lsub_nil))) (gh_stop (s_34_l (sc := sc) (d := dh + 18) (c := c_971) (Z := fun _ => True) hI_972 hA (fun _ _ _ => trivial) 124 c_971 (v + 1) hI_972 (fun a j hm => rfl) ⟨by omega, by omega⟩ (by omega)) (fun hG_977 => (q_aload_n c_169_44 rfl (v_cv c_169_45 km_8_131 rfl rfl (Nat.le_of_ble_eq_true rfl) ⟨⟨rfl, rfl⟩, Nat.le_of_ble_eq_true rfl, rfl⟩ (Nat.le_of_ble_eq_true rfl) (Nat.le_of_ble_eq_true rfl) (q_aload_n c_152_0 rfl (v_gi (z := 5) (v := (-1)) c_152_1 kf_8_102 rfl (Nat.le_of_ble_eq_true rfl) rfl rfl (hc_1) (q_iconst c_152_4 (v_ic_ne_f (t := 12) c_152_5 rfl (by decide) ?_))))))))
                  refine q_iconst c_152_8 (q_goto (t := 13) c_152_9 rfl (v_zret c_152_13 rfl (by decide) (bk_inl (v_if_eq_f (t := 136) c_169_48 rfl (by decide) (q_aload_n c_169_51 rfl (v_cv c_169_52 km_8_211 rfl rfl (Nat.le_of_ble_eq_true rfl) ⟨⟨rfl, rfl⟩, Nat.le_of_ble_eq_true rfl, rfl⟩ (Nat.le_of_ble_eq_true rfl) (Nat.le_of_ble_eq_true rfl) (q_aload_n c_162_0 rfl ?_)))))))
                  have kn_978 : Hid (c2 41 3 = e1) := (hFc 41 3 qn_b860ee9cc).trans (hr_e1)
                  have h_979 : -2147483648 ≤ (H (nx F e1 a)) ∧ (H (nx F e1 a)) ≤ 2147483647 := by rw [← hH (nx F e1 a)]; exact ir_43 hI (nx F e1 a)
                  have h_980 := hU (nx F e1 a) (by first | exact q_a7eda21a5 h_24 ha | omega) (by first | exact q_6c5402073 h_2 h_32 hr_e1 | omega)
                  have h_981 := hb_or (b := H) (e := e1) (r := (nx F e1 a))
                  have h_982 := hb_bd (b := H) (e := e1) (r := (nx F e1 a)) (lo := -2147483648) (hi := 2147483647) h_979 (by decide)
                  refine v_cv c_162_1 km_8_114 rfl rfl (Nat.le_of_ble_eq_true rfl) ⟨⟨rfl, rfl⟩, Nat.le_of_ble_eq_true rfl, rfl⟩ (Nat.le_of_ble_eq_true rfl) (Nat.le_of_ble_eq_true rfl) (f_154 (e1 := e1) (a9 := a) (B := H) (r8 := (nx F e1 a)) (r := (hb H e1 (nx F e1 a))) hI2 ((hid kn_978)) ((hr_a)) (fun j => (hFc 43 j qn_8f9b78528).trans (hH j)) ((nx_tr hU (ha.1) ((rg_eq hg_e1 h_1).2)).trans (rfl)) rfl (fun c_983 hI_984 hF_985 h_986 => (bk_inl (q_pop c_162_4 rfl (q_aload_n c_162_5 rfl (v_gi (z := 4) (v := (nx F e1 a)) c_162_6 kf_8_108 rfl (Nat.le_of_ble_eq_true rfl) rfl rfl (h_986) (q_aload_n c_162_9 rfl ?_)))))))
                  have kn_987 : Hid (c_983 41 3 = e1) := (hF_985 41 3 (fun h => absurd h.2 (ni rfl))).trans (hid kn_978)
                  refine v_gi (z := 3) (v := e1) c_162_10 kf_8_111 rfl (Nat.le_of_ble_eq_true rfl) rfl rfl (hid kn_987) (v_ic_ge_f (t := 20) c_162_13 rfl ⟨by first | exact q_378c2316e h_24 ha | omega, by first | exact q_d17d18138 h_32 | omega, (Int.le_trans (rg_eq hg_e1 h_1).2 (by decide))⟩ (q_iconst c_162_16 (q_goto (t := 21) c_162_17 rfl (v_zret c_162_21 rfl (by decide) (bk_inl (v_if_eq_f (t := 136) c_169_55 rfl (by decide) (q_aload_n c_169_58 rfl ?_)))))))
                  have h_988 := wv_bd (b := F) (r := (nx F e1 a)) (l := (ln F e1 (nx F e1 a))) (fun j h1 h2 => ⟨(ln_in (e := e1) (a := (nx F e1 a)) h1 h2).1, (ln_in (e := e1) (a := (nx F e1 a)) h1 h2).2.1⟩)
                  have h_989 := wr8_2 (b := F) (r := (nx F e1 a)) (l := (ln F e1 (nx F e1 a))) (by first | exact q_18f17732a h_87 | omega) (fun j h1 h2 => ⟨(ln_in (e := e1) (a := (nx F e1 a)) h1 h2).1, (ln_in (e := e1) (a := (nx F e1 a)) h1 h2).2.1⟩) (by first | exact q_074216cb3 h_951 | omega)
                  refine v_cv c_169_59 km_8_214 rfl rfl (Nat.le_of_ble_eq_true rfl) ⟨⟨rfl, rfl⟩, Nat.le_of_ble_eq_true rfl, rfl⟩ (Nat.le_of_ble_eq_true rfl) (Nat.le_of_ble_eq_true rfl) (f_157 (e1 := e1) (a9 := (nx F e1 a)) (B := H) (r8 := (nx F e1 a)) (L8 := (ln F e1 (nx F e1 a))) (W8 := (wv F (nx F e1 a) (ln F e1 (nx F e1 a)))) hI_984 ((hid kn_987)) ((h_986)) (fun j => ((hF_985 43 j (fun h => absurd h.1 (nn rfl))).trans (hFc 43 j qn_8f9b78528)).trans (hH j)) ((nx_tr hU (by first | exact q_a7eda21a5 h_24 ha | omega) ((rg_eq hg_e1 h_1).2)).trans ((nx_z (Or.inr (by first | exact q_b1e7f72d7 h_26 h_32 | omega))))) ((ln_tr hU (by first | exact q_a7eda21a5 h_24 ha | omega) ((rg_eq hg_e1 h_1).2)).trans (rfl)) ((wv_tr hU (by first | exact q_a7eda21a5 h_24 ha | omega) (by first | exact q_296ae6bb2 h_2 h_87 hr_e1 | omega) (fun j h1 h2 => ⟨(ln_in (e := e1) (a := (nx F e1 a)) h1 h2).1, (ln_in (e := e1) (a := (nx F e1 a)) h1 h2).2.1⟩)).trans (rfl)) (fun c_990 hI_991 hF_992 hz_993 => (bk_inl (q_istore_n c_169_62 (Nat.le_of_ble_eq_true rfl) (q_iload_n c_169_63 rfl (q_call c_169_64 rfl rfl rfl (q_iload_n c_166_0 rfl (q_ldc_s c_166_1 rfl rfl (by decide) (q_call c_166_3 rfl rfl rfl (s_158_16 ?_))))))))))
                  refine bk_inl (v_ic_eq_f (t := 36) c_166_6 rfl ⟨by first | exact q_1142c8c92 h_989 | omega, ⟨(Int.le_trans (by decide) h_988.1), (Int.le_trans h_988.2 (by decide))⟩, by decide, by decide⟩ (q_iload_n c_166_9 rfl (q_ldc_s c_166_10 rfl rfl (by decide) (q_call c_166_12 rfl rfl rfl (s_158_17 (bk_inl (v_ic_eq_f (t := 36) c_166_15 rfl ⟨by first | exact q_8febf952f h_989 | omega, ⟨(Int.le_trans (by decide) h_988.1), (Int.le_trans h_988.2 (by decide))⟩, by decide, by decide⟩ (q_iload_n c_166_18 rfl ?_))))))))
                  refine q_ldc_s c_166_19 rfl rfl (by decide) (q_call c_166_21 rfl rfl rfl (s_158_18 (bk_inl (v_ic_eq_t (t := 36) c_166_24 rfl (by first | exact q_21cfe5701 h_989 | omega) (q_iconst c_166_36 (q_goto (t := 41) c_166_37 rfl (v_zret c_166_41 rfl (by decide) (bk_inl ?_))))))))
                  refine v_if_ne_t (t := 82) c_169_67 rfl (by decide) (q_iload_n c_169_82 rfl (v_bip c_169_83 (by decide) (v_ic_eq_f (t := 96) c_169_85 rfl ⟨by first | exact q_ed39b118e h_236 hv | omega, ⟨(Int.le_trans (by decide) hv.1), (Int.le_trans hv.2 (by decide))⟩, by decide, by decide⟩ (q_aload_n c_169_88 rfl (q_iload_n c_169_89 rfl (v_cv c_169_90 km_8_220 rfl rfl (Nat.le_of_ble_eq_true rfl) ⟨⟨rfl, rfl⟩, Nat.le_of_ble_eq_true rfl, rfl⟩ (Nat.le_of_ble_eq_true rfl) (Nat.le_of_ble_eq_true rfl) (q_iload_n c_167_0 rfl ?_)))))))
                  refine q_ldc_s c_167_1 rfl rfl (by decide) (q_call c_167_3 rfl rfl rfl (s_158_16 (bk_inl (v_ic_ne_t (t := 26) c_167_6 rfl ⟨by first | exact q_1142c8c92 h_989 | omega, ⟨(Int.le_trans (by decide) h_988.1), (Int.le_trans h_988.2 (by decide))⟩, by decide, by decide⟩ (q_iload_n c_167_26 rfl (q_ldc_s c_167_27 rfl rfl (by decide) (q_call c_167_29 rfl rfl rfl (s_158_17 (bk_inl ?_)))))))))
                  refine v_ic_ne_t (t := 51) c_167_32 rfl ⟨by first | exact q_8febf952f h_989 | omega, ⟨(Int.le_trans (by decide) h_988.1), (Int.le_trans h_988.2 (by decide))⟩, by decide, by decide⟩ (q_iload_n c_167_51 rfl (q_ldc_s c_167_52 rfl rfl (by decide) (q_call c_167_54 rfl rfl rfl (s_158_18 (bk_inl (v_ic_ne_f (t := 72) c_167_57 rfl (by first | exact q_21cfe5701 h_989 | omega) (q_aload_n c_167_60 rfl ?_)))))))
                  have kn_994 : Hid (c_983 41 18 = si) := (hF_985 41 18 (fun h => absurd h.2 (ni rfl))).trans (hr_si)
                  have kn_995 : Hid (c_990 41 18 = si) := (hF_992 41 18 (fun h => absurd h.2 (ni rfl))).trans (hid kn_994)
                  refine v_gi (z := 18) (v := si) c_167_61 kf_8_151 rfl (Nat.le_of_ble_eq_true rfl) rfl rfl (hid kn_995) (q_iconst c_167_64 (v_ic_ne_t (t := 72) c_167_65 rfl ⟨by first | exact q_12b330444 h_955 hsi | omega, ⟨(Int.le_trans (by decide) hsi.1), (Int.le_trans hsi.2 (by decide))⟩, by decide, by decide⟩ (q_iconst c_167_72 (v_zret c_167_73 rfl (by decide) (bk_inl (v_if_eq_t (t := 105) c_169_93 rfl (by decide) (q_aload_n c_169_105 rfl ?_)))))))
                  refine v_cv c_169_106 km_8_131 rfl rfl (Nat.le_of_ble_eq_true rfl) ⟨⟨rfl, rfl⟩, Nat.le_of_ble_eq_true rfl, rfl⟩ (Nat.le_of_ble_eq_true rfl) (Nat.le_of_ble_eq_true rfl) (q_aload_n c_152_0 rfl ?_)
                  have kn_996 : Hid (c_983 41 5 = (-1)) := (hF_985 41 5 (fun h => absurd h.2 (ni rfl))).trans (hc_1)
                  have kn_997 : Hid (c_990 41 5 = (-1)) := (hF_992 41 5 (fun h => absurd h.2 (ni rfl))).trans (hid kn_996)
                  refine v_gi (z := 5) (v := (-1)) c_152_1 kf_8_102 rfl (Nat.le_of_ble_eq_true rfl) rfl rfl (hid kn_997) (q_iconst c_152_4 (v_ic_ne_f (t := 12) c_152_5 rfl (by decide) (q_iconst c_152_8 (q_goto (t := 13) c_152_9 rfl (v_zret c_152_13 rfl (by decide) (bk_inl (v_if_ne_t (t := 115) c_169_109 rfl (by decide) ?_)))))))
                  refine q_aload_n c_169_115 rfl ?_
                  have kn_998 : Hid (c_990 41 3 = e1) := (hF_992 41 3 (fun h => absurd h.2 (ni rfl))).trans (hid kn_987)
                  refine v_cv c_169_116 km_8_223 rfl rfl (Nat.le_of_ble_eq_true rfl) ⟨⟨rfl, rfl⟩, Nat.le_of_ble_eq_true rfl, rfl⟩ (Nat.le_of_ble_eq_true rfl) (Nat.le_of_ble_eq_true rfl) (f_159 (e1 := e1) (a9 := (nx F e1 a)) (B := H) (L8 := (ln F e1 (nx F e1 a))) hI_991 ((hid kn_998)) ((hz_993)) (fun j => ((hF_992 43 j (fun h => absurd h.1 (nn rfl))).trans ((hF_985 43 j (fun h => absurd h.1 (nn rfl))).trans (hFc 43 j qn_8f9b78528))).trans (hH j)) ((ln_tr hU (by first | exact q_a7eda21a5 h_24 ha | omega) ((rg_eq hg_e1 h_1).2)).trans (rfl)) (fun c_999 hI_1000 hF_1001 hz_1002 => (bk_inl (q_aload_n c_169_119 rfl (q_iload_n c_169_120 rfl ?_)))))
                  have hw_1003 : (wv F (nx F e1 a) (ln F e1 (nx F e1 a))) = 20223685 := by omega
                  rw [hw_1003]
                  have kn_1004 : Hid (c_103 1 1 = e1) := (hF_105 1 1 qn_b782e6d88).trans (hid kn_82)
                  have kn_1005 : Hid (c_999 41 3 = e1) := (hF_1001 41 3 (fun h => absurd h.2 (ni rfl))).trans (hid kn_998)
                  have kn_1006 : Hid (c_983 41 16 = jr) := (hF_985 41 16 (fun h => absurd h.2 (ni rfl))).trans (hr_jr)
                  have kn_1007 : Hid (c_990 41 16 = jr) := (hF_992 41 16 (fun h => absurd h.2 (ni rfl))).trans (hid kn_1006)
                  have kn_1008 : Hid (c_999 41 16 = jr) := (hF_1001 41 16 (fun h => absurd h.2 (ni rfl))).trans (hid kn_1007)
                  have kn_1009 : Hid (c_983 41 17 = st) := (hF_985 41 17 (fun h => absurd h.2 (ni rfl))).trans (hr_st)
                  have kn_1010 : Hid (c_990 41 17 = st) := (hF_992 41 17 (fun h => absurd h.2 (ni rfl))).trans (hid kn_1009)
                  have kn_1011 : Hid (c_999 41 17 = st) := (hF_1001 41 17 (fun h => absurd h.2 (ni rfl))).trans (hid kn_1010)
                  have kn_1012 : Hid (c_999 41 18 = si) := (hF_1001 41 18 (fun h => absurd h.2 (ni rfl))).trans (hid kn_995)
                  have kn_1013 : Hid (c_27 A 3 = du) := (hF_29 A 3 (fun h => absurd h.1 (np0 hA rfl))).trans (hg_du)
                  have kn_1014 : Hid (c_78 A 3 = du) := (hF_80 A 3 (fun h => absurd h.1 (np0 hA rfl))).trans (hid kn_1013)
                  have kn_1015 : Hid (c_103 A 3 = du) := (hF_105 A 3 (qn_014d425e1 hA)).trans (hid kn_1014)
                  have kn_1016 : Hid (c_983 41 19 = du) := (hF_985 41 19 (fun h => absurd h.2 (ni rfl))).trans (hr_du)
                  have kn_1017 : Hid (c_990 41 19 = du) := (hF_992 41 19 (fun h => absurd h.2 (ni rfl))).trans (hid kn_1016)
                  have kn_1018 : Hid (c_999 41 19 = du) := (hF_1001 41 19 (fun h => absurd h.2 (ni rfl))).trans (hid kn_1017)
                  have h_1019 : c_103 1 4 = 0 := (hz_109)
                  have h_1020 : c_103 1 2 = (ln F e1 (nx F e1 a)) := (hz_108)
                  have h_1021 : c_103 1 5 = (-1) := (hz_110)
                  have kn_1022 : Hid (c_999 41 5 = (-1)) := (hF_1001 41 5 (fun h => absurd h.2 (ni rfl))).trans (hid kn_997)
                  have h_1023 : c_999 41 5 = (-1) := (hid kn_1022)
                  have h_1024 : c_999 41 4 = (ln F e1 (nx F e1 a)) := (hz_1002)
                  have h_1025 := ir_41_6 hI2
                  have kn_1026 : Hid (c_983 41 6 = c2 41 6) := hF_985 41 6 (fun h => absurd h.2 (ni rfl))
                  have kn_1027 : Hid (c_990 41 6 = c2 41 6) := (hF_992 41 6 (fun h => absurd h.2 (ni rfl))).trans (hid kn_1026)
                  have kn_1028 : Hid (c_999 41 6 = c2 41 6) := (hF_1001 41 6 (fun h => absurd h.2 (ni rfl))).trans (hid kn_1027)
                  have h_1029 : c_999 41 6 = c2 41 6 := (hid kn_1028)
                  refine v_cv c_169_121 km_8_226 rfl rfl (Nat.le_of_ble_eq_true rfl) ⟨⟨rfl, rfl⟩, Nat.le_of_ble_eq_true rfl, rfl⟩ (Nat.le_of_ble_eq_true rfl) (Nat.le_of_ble_eq_true rfl) (L_33_2 (m := c_103) (e1 := e1) (jr := jr) (st := st) (si := si) (du := du) (F := F) (H := H) hI_1000 hI_104 hI_967 hA (by first | exact q_c0de63303 h_955 hsi | omega) ((hid kn_1004)) ((hid kn_1005)) ((hid kn_959)) ((hid kn_1008)) ((hid kn_963)) ((hid kn_1011)) ((hid kn_954)) ((hid kn_1012)) ((hid kn_1015)) ((hid kn_1018)) (fun j => ((hF_105 2 j qn_e2b123f84).trans ((hF_80 2 j (fun h => absurd h.1 (nn rfl))).trans ((hF_29 2 j (fun h => absurd h.1 (nn rfl))).trans (hFm 2 j (qn_64622c99c hA))))).trans (hF j)) (fun j => ((hF_1001 43 j (fun h => absurd h.1 (nn rfl))).trans ((hF_992 43 j (fun h => absurd h.1 (nn rfl))).trans ((hF_985 43 j (fun h => absurd h.1 (nn rfl))).trans (hFc 43 j qn_8f9b78528)))).trans (hH j)) hU (rt_i1 ⟨by first | assumption | omega, by first | assumption | omega, by first | assumption | omega, by first | assumption | omega⟩) hG_969 (fun c_1030 hI_1031 hF_1032 hR_1034 h_1035 h_1036 h_1037 h_1038 => (bk_inl ?_)))
                  have h_1039 := ir_41_16 hI_1031
                  have h_1040 := ir_p0_0 hI_967 hA
                  have h_1041 := ir_41_17 hI_1031
                  have h_1042 := ir_p0_1 hI_967 hA
                  have h_1043 := ir_41_18 hI_1031
                  have h_1044 := ir_p0_2 hI_967 hA
                  have h_1045 := ir_41_19 hI_1031
                  have h_1046 := ir_p0_3 hI_967 hA
                  refine q_aload_n c_169_124 rfl (v_bip c_169_125 (by decide) ?_)
                  have kn_1047 : Hid (c_966 1 1 = e1) := (hF_968 1 1 (qn_68bac1c70 hA)).trans (hid kn_1004)
                  have kn_1048 : Hid (c_1030 41 3 = e1) := (hF_1032 41 3 qn_b860ee9cc).trans (hid kn_1005)
                  have h_1049 := ir_1_2 hI_967
                  refine v_cv c_169_127 km_8_229 rfl rfl (Nat.le_of_ble_eq_true rfl) ⟨⟨rfl, rfl⟩, Nat.le_of_ble_eq_true rfl, rfl⟩ (Nat.le_of_ble_eq_true rfl) (Nat.le_of_ble_eq_true rfl) (L_11_9 (m := c_966) (e1 := e1) (a9 := c_966 1 2) (f0 := c_966 1 4) (F := F) (H := H) hI_1031 hI_967 hI_972 ((hid kn_1047)) ((hid kn_1048)) (rfl) (rfl) (fun j => ((hF_968 2 j (qn_2292ef66f hA)).trans ((hF_105 2 j qn_e2b123f84).trans ((hF_80 2 j (fun h => absurd h.1 (nn rfl))).trans ((hF_29 2 j (fun h => absurd h.1 (nn rfl))).trans (hFm 2 j (qn_64622c99c hA)))))).trans (hF j)) (fun j => ((hF_1032 43 j qn_8f9b78528).trans ((hF_1001 43 j (fun h => absurd h.1 (nn rfl))).trans ((hF_992 43 j (fun h => absurd h.1 (nn rfl))).trans ((hF_985 43 j (fun h => absurd h.1 (nn rfl))).trans (hFc 43 j qn_8f9b78528))))).trans (hH j)) hU hR_1034 hG_974 (fun c_1050 hI_1051 hF_1052 hR_1054 h_1055 h_1056 => (bk_inl ?_)))
                  have h_1057 := ir_1_2 hI_972
                  refine v_iinc (v := v + 1) c_169_130 rfl (Nat.le_of_ble_eq_true rfl) rfl (q_goto (t := 44) c_169_133 rfl (Wp_ls [(0, .ref 41), (1, vi a1), (2, vi (v + 1))] (lsub_cons rfl (lsub_cons rfl (lsub_cons rfl lsub_nil))) ?_))
                  have h_1058 := ir_41_4 hI_1051
                  have h_1059 := ir_1_5 hI_972
                  have h_1060 := ir_41_5 hI_1051
                  have h_1061 := ir_41_6 hI_1051
                  have h_1062 := rt_ok hR_1054 (by first | exact q_f6b658f58 h_975 h_976 | omega)
                  have hro_hR_1054 := rt_ok hR_1054 (by first | exact q_f6b658f58 h_975 h_976 | omega)
                  have kn_1063 : Hid (c_971 A 0 = c_966 A 0) := hF_973 A 0 (qn_014d425e1 hA)
                  have kn_1064 : Hid (c_1050 41 16 = c_1030 41 16) := hF_1052 41 16 qn_e8809db5e
                  have kn_1065 : Hid (c_971 A 1 = c_966 A 1) := hF_973 A 1 (qn_014d425e1 hA)
                  have kn_1066 : Hid (c_1050 41 17 = c_1030 41 17) := hF_1052 41 17 qn_a870196d2
                  have kn_1067 : Hid (c_971 A 2 = c_966 A 2) := hF_973 A 2 (qn_014d425e1 hA)
                  have kn_1068 : Hid (c_1050 41 18 = c_1030 41 18) := hF_1052 41 18 qn_d8f940cfc
                  have kn_1069 : Hid (c_971 A 3 = c_966 A 3) := hF_973 A 3 (qn_014d425e1 hA)
                  have kn_1070 : Hid (c_1050 41 19 = c_1030 41 19) := hF_1052 41 19 qn_f6eda7af3
                  exact ih c_1050 c_971 (v + 1) (c_971 1 2) (c_966 A 0) (c_966 A 1) (c_966 A 2) (c_966 A 3) hI_1051 (fun a j hm => (hF_1052 a j (qv_e105a9b19 hm)).trans ((hF_1032 a j hm).trans ((hF_1001 a j (fun h => hm (Or.inl h))).trans ((hF_992 a j (fun h => hm (Or.inl h))).trans ((hF_985 a j (fun h => hm (Or.inl h))).trans (hFc a j hm)))))) hI_972 (fun a j hm => (hF_973 a j (qv_69188b0c2 hm)).trans ((hF_968 a j (qv_967ad9091 hm)).trans ((hF_105 a j (qv_69188b0c2 hm)).trans ((hF_80 a j (fun h => hm (Or.inl h))).trans ((hF_29 a j (fun h => hm (Or.inl h))).trans (hFm a j hm)))))) ⟨by first | exact rgp_l hv.1 (by decide) | omega, by first | exact q_a69d2ea54 h_236 hv | omega⟩ h_1057 h_1040 h_1042 h_1044 h_1046 (rfl) (hro_hR_1054.2.2.1) ((hid kn_1063)) ((show _ = c_1030 41 16 from (hid kn_1064)).trans (by first | assumption | exact Int.le_antisymm (by first | exact q_f91efb75c h_1035 | omega) (by first | exact q_f85ce3c92 h_1035 | omega))) ((hid kn_1065)) ((show _ = c_1030 41 17 from (hid kn_1066)).trans (by first | assumption | exact Int.le_antisymm (by first | exact q_f91efb75c h_1036 | omega) (by first | exact q_f85ce3c92 h_1036 | omega))) ((hid kn_1067)) ((show _ = c_1030 41 18 from (hid kn_1068)).trans (by first | assumption | exact Int.le_antisymm (by first | exact q_f91efb75c h_1037 | omega) (by first | exact q_f85ce3c92 h_1037 | omega))) ((hid kn_1069)) ((show _ = c_1030 41 19 from (hid kn_1070)).trans (by first | assumption | exact Int.le_antisymm (by first | exact q_f91efb75c h_1038 | omega) (by first | exact q_f85ce3c92 h_1038 | omega))) ((show _ = c_971 1 4 from rfl).trans (by first | assumption | exact Int.le_antisymm (by first | exact q_d1e538aa4 h_976 | omega) (by first | exact q_eb3a7ad7a h_975 | omega))) (hro_hR_1054.2.1) ((show _ = c_971 1 5 from rfl).trans (by first | assumption | exact Int.le_antisymm (by first | exact q_10f95419d h_1062 | omega) (by first | exact q_3d8b3e7e9 h_1059 | omega))) hG_977 (by omega)
                · skip
                  refine q_iload_n c_34_6 rfl (v_bip c_34_7 (by decide) (v_ic_gt_f (t := 85) c_34_9 rfl ⟨by first | exact rgp_l hv.1 (by decide) | omega, by first | exact q_a69d2ea54 h_236 hv | omega, by decide⟩ (q_aload_n c_34_12 rfl (v_cv c_34_13 km_2_44 rfl rfl (Nat.le_of_ble_eq_true rfl) ⟨⟨rfl, rfl⟩, Nat.le_of_ble_eq_true rfl, rfl⟩ (Nat.le_of_ble_eq_true rfl) (Nat.le_of_ble_eq_true rfl) (q_aload_n c_15_0 rfl (v_cv c_15_1 km_5_45 rfl rfl (Nat.le_of_ble_eq_true rfl) ⟨⟨rfl, rfl⟩, Nat.le_of_ble_eq_true rfl, rfl⟩ (Nat.le_of_ble_eq_true rfl) (Nat.le_of_ble_eq_true rfl) (q_aload_n c_2_0 rfl ?_)))))))
                  refine v_gi (z := 4) (v := c_971 1 4) c_2_1 kf_5_38 rfl (Nat.le_of_ble_eq_true rfl) rfl rfl rfl (v_if_ne_t (t := 11) c_2_4 rfl ⟨by first | exact q_106d90f3b h_975 h_976 | omega, ⟨(Int.le_trans (by decide) h_975.1), (Int.le_trans h_975.2 (by decide))⟩, by decide, by decide⟩ (q_iconst c_2_11 (v_zret c_2_12 rfl (by decide) (bk_inl (v_if_eq_t (t := 22) c_15_4 rfl (by decide) (q_iconst c_15_22 (v_zret c_15_23 rfl (by decide) ?_)))))))
                  refine bk_inl (v_if_eq_t (t := 85) c_34_16 rfl (by decide) (q_vret rfl rfl ?_))
                  intro hE_1071
                  have hW : Wd P Q P P c_971 = Wd P Q P P m9 := (Prod.mk.inj (Prod.mk.inj hE_1071).2).1
                  have h_1072 := ir_1_4 hJ9
                  have h_1073 : m9 1 4 = c_971 1 4 := wd_fv (z := 4) 4 rfl hW rfl rfl rfl rfl (by decide) rfl ⟨(Int.le_trans (by decide) h_975.1), (Int.le_trans h_975.2 (by decide))⟩ ⟨(Int.le_trans (by decide) h_1072.1), (Int.le_trans h_1072.2 (by decide))⟩
                  have h_1074 := ir_1_2 hI_972
                  have h_1075 := ir_1_2 hJ9
                  have h_1076 : m9 1 2 = c_971 1 2 := wd_fv (z := 2) 2 rfl hW rfl rfl rfl rfl (by decide) rfl ⟨(Int.le_trans (by decide) h_1074.1), (Int.le_trans h_1074.2 (by decide))⟩ ⟨(Int.le_trans (by decide) h_1075.1), (Int.le_trans h_1075.2 (by decide))⟩
                  have h_1077 := ir_1_5 hI_972
                  have h_1078 := ir_1_5 hJ9
                  have h_1079 : m9 1 5 = c_971 1 5 := wd_fv (z := 5) 5 rfl hW rfl rfl rfl rfl (by decide) rfl ⟨(Int.le_trans (by decide) h_1077.1), (Int.le_trans h_1077.2 (by decide))⟩ ⟨(Int.le_trans (by decide) h_1078.1), (Int.le_trans h_1078.2 (by decide))⟩
                  have h_1080 := ir_p0_0 hI_967 hA
                  have kn_1081 : Hid (c_971 A 0 = c_966 A 0) := hF_973 A 0 (qn_014d425e1 hA)
                  have h_1082 := ir_p0_0 hJ9 hA
                  have h_1083 : m9 A 0 = c_966 A 0 := wd_fv (z := 0) 0 rfl hW (ck_p0 hA) (ck_p0 hA) rfl rfl (a68z hA) (hid kn_1081) ⟨by first | exact q_730ab5169 h_1080 | omega, by first | exact q_b289b7db2 h_1080 | omega⟩ ⟨(Int.le_trans (by decide) h_1082.1), (Int.le_trans h_1082.2 (by decide))⟩
                  have h_1084 := ir_p0_1 hI_967 hA
                  have kn_1085 : Hid (c_971 A 1 = c_966 A 1) := hF_973 A 1 (qn_014d425e1 hA)
                  have h_1086 := ir_p0_1 hJ9 hA
                  have h_1087 : m9 A 1 = c_966 A 1 := wd_fv (z := 1) 1 rfl hW (ck_p0 hA) (ck_p0 hA) rfl rfl (a68z hA) (hid kn_1085) ⟨by first | exact q_0bfe68f8e h_1084 | omega, by first | exact q_82d4f69ff h_1084 | omega⟩ ⟨(Int.le_trans (by decide) h_1086.1), (Int.le_trans h_1086.2 (by decide))⟩
                  have h_1088 := ir_p0_2 hI_967 hA
                  have kn_1089 : Hid (c_971 A 2 = c_966 A 2) := hF_973 A 2 (qn_014d425e1 hA)
                  have h_1090 := ir_p0_2 hJ9 hA
                  have h_1091 : m9 A 2 = c_966 A 2 := wd_fv (z := 2) 2 rfl hW (ck_p0 hA) (ck_p0 hA) rfl rfl (a68z hA) (hid kn_1089) ⟨by first | exact q_0bfe68f8e h_1088 | omega, by first | exact q_82d4f69ff h_1088 | omega⟩ ⟨(Int.le_trans (by decide) h_1090.1), (Int.le_trans h_1090.2 (by decide))⟩
                  have h_1092 := ir_p0_3 hI_967 hA
                  have kn_1093 : Hid (c_971 A 3 = c_966 A 3) := hF_973 A 3 (qn_014d425e1 hA)
                  have h_1094 := ir_p0_3 hJ9 hA
                  have h_1095 : m9 A 3 = c_966 A 3 := wd_fv (z := 3) 3 rfl hW (ck_p0 hA) (ck_p0 hA) rfl rfl (a68z hA) (hid kn_1093) ⟨by first | exact q_fe18d6d95 h_1092 | omega, by first | exact q_5d4e5294a h_1092 | omega⟩ ⟨(Int.le_trans (by decide) h_1094.1), (Int.le_trans h_1094.2 (by decide))⟩
                  refine q_aload_n c_169_44 rfl (v_cv c_169_45 km_8_131 rfl rfl (Nat.le_of_ble_eq_true rfl) ⟨⟨rfl, rfl⟩, Nat.le_of_ble_eq_true rfl, rfl⟩ (Nat.le_of_ble_eq_true rfl) (Nat.le_of_ble_eq_true rfl) (q_aload_n c_152_0 rfl (v_gi (z := 5) (v := (-1)) c_152_1 kf_8_102 rfl (Nat.le_of_ble_eq_true rfl) rfl rfl (hc_1) (q_iconst c_152_4 (v_ic_ne_f (t := 12) c_152_5 rfl (by decide) (q_iconst c_152_8 (q_goto (t := 13) c_152_9 rfl ?_)))))))
                  refine v_zret c_152_13 rfl (by decide) (bk_inl (v_if_eq_f (t := 136) c_169_48 rfl (by decide) (q_aload_n c_169_51 rfl (v_cv c_169_52 km_8_211 rfl rfl (Nat.le_of_ble_eq_true rfl) ⟨⟨rfl, rfl⟩, Nat.le_of_ble_eq_true rfl, rfl⟩ (Nat.le_of_ble_eq_true rfl) (Nat.le_of_ble_eq_true rfl) (q_aload_n c_162_0 rfl ?_)))))
                  have kn_1096 : Hid (c2 41 3 = e1) := (hFc 41 3 qn_b860ee9cc).trans (hr_e1)
                  have h_1097 : -2147483648 ≤ (H (nx F e1 a)) ∧ (H (nx F e1 a)) ≤ 2147483647 := by rw [← hH (nx F e1 a)]; exact ir_43 hI (nx F e1 a)
                  have h_1098 := hU (nx F e1 a) (by first | exact q_a7eda21a5 h_24 ha | omega) (by first | exact q_6c5402073 h_1 h_32 hg_e1 | omega)
                  have h_1099 := hb_or (b := H) (e := e1) (r := (nx F e1 a))
                  have h_1100 := hb_bd (b := H) (e := e1) (r := (nx F e1 a)) (lo := -2147483648) (hi := 2147483647) h_1097 (by decide)
                  refine v_cv c_162_1 km_8_114 rfl rfl (Nat.le_of_ble_eq_true rfl) ⟨⟨rfl, rfl⟩, Nat.le_of_ble_eq_true rfl, rfl⟩ (Nat.le_of_ble_eq_true rfl) (Nat.le_of_ble_eq_true rfl) (f_154 (e1 := e1) (a9 := a) (B := H) (r8 := (nx F e1 a)) (r := (hb H e1 (nx F e1 a))) hI2 ((hid kn_1096)) ((hr_a)) (fun j => (hFc 43 j qn_8f9b78528).trans (hH j)) ((nx_tr hU (ha.1) ((rg_eq hg_e1 h_1).2)).trans (rfl)) rfl (fun c_1101 hI_1102 hF_1103 h_1104 => (bk_inl (q_pop c_162_4 rfl (q_aload_n c_162_5 rfl (v_gi (z := 4) (v := (nx F e1 a)) c_162_6 kf_8_108 rfl (Nat.le_of_ble_eq_true rfl) rfl rfl (h_1104) (q_aload_n c_162_9 rfl ?_)))))))
                  have kn_1105 : Hid (c_1101 41 3 = e1) := (hF_1103 41 3 (fun h => absurd h.2 (ni rfl))).trans (hid kn_1096)
                  refine v_gi (z := 3) (v := e1) c_162_10 kf_8_111 rfl (Nat.le_of_ble_eq_true rfl) rfl rfl (hid kn_1105) (v_ic_ge_f (t := 20) c_162_13 rfl ⟨by first | exact q_378c2316e h_24 ha | omega, by first | exact q_d17d18138 h_32 | omega, (Int.le_trans (rg_eq hg_e1 h_1).2 (by decide))⟩ (q_iconst c_162_16 (q_goto (t := 21) c_162_17 rfl (v_zret c_162_21 rfl (by decide) (bk_inl (v_if_eq_f (t := 136) c_169_55 rfl (by decide) (q_aload_n c_169_58 rfl ?_)))))))
                  have h_1106 := wv_bd (b := F) (r := (nx F e1 a)) (l := (ln F e1 (nx F e1 a))) (fun j h1 h2 => ⟨(ln_in (e := e1) (a := (nx F e1 a)) h1 h2).1, (ln_in (e := e1) (a := (nx F e1 a)) h1 h2).2.1⟩)
                  have h_1107 := wr8_2 (b := F) (r := (nx F e1 a)) (l := (ln F e1 (nx F e1 a))) (by first | exact q_18f17732a h_87 | omega) (fun j h1 h2 => ⟨(ln_in (e := e1) (a := (nx F e1 a)) h1 h2).1, (ln_in (e := e1) (a := (nx F e1 a)) h1 h2).2.1⟩) (by first | exact q_074216cb3 h_951 | omega)
                  refine v_cv c_169_59 km_8_214 rfl rfl (Nat.le_of_ble_eq_true rfl) ⟨⟨rfl, rfl⟩, Nat.le_of_ble_eq_true rfl, rfl⟩ (Nat.le_of_ble_eq_true rfl) (Nat.le_of_ble_eq_true rfl) (f_157 (e1 := e1) (a9 := (nx F e1 a)) (B := H) (r8 := (nx F e1 a)) (L8 := (ln F e1 (nx F e1 a))) (W8 := (wv F (nx F e1 a) (ln F e1 (nx F e1 a)))) hI_1102 ((hid kn_1105)) ((h_1104)) (fun j => ((hF_1103 43 j (fun h => absurd h.1 (nn rfl))).trans (hFc 43 j qn_8f9b78528)).trans (hH j)) ((nx_tr hU (by first | exact q_a7eda21a5 h_24 ha | omega) ((rg_eq hg_e1 h_1).2)).trans ((nx_z (Or.inr (by first | exact q_b1e7f72d7 h_26 h_32 | omega))))) ((ln_tr hU (by first | exact q_a7eda21a5 h_24 ha | omega) ((rg_eq hg_e1 h_1).2)).trans (rfl)) ((wv_tr hU (by first | exact q_a7eda21a5 h_24 ha | omega) (by first | exact q_296ae6bb2 h_1 h_87 hg_e1 | omega) (fun j h1 h2 => ⟨(ln_in (e := e1) (a := (nx F e1 a)) h1 h2).1, (ln_in (e := e1) (a := (nx F e1 a)) h1 h2).2.1⟩)).trans (rfl)) (fun c_1108 hI_1109 hF_1110 hz_1111 => (bk_inl (q_istore_n c_169_62 (Nat.le_of_ble_eq_true rfl) (q_iload_n c_169_63 rfl (q_call c_169_64 rfl rfl rfl (q_iload_n c_166_0 rfl (q_ldc_s c_166_1 rfl rfl (by decide) (q_call c_166_3 rfl rfl rfl (s_158_16 ?_))))))))))
                  refine bk_inl (v_ic_eq_f (t := 36) c_166_6 rfl ⟨by first | exact q_1142c8c92 h_1107 | omega, ⟨(Int.le_trans (by decide) h_1106.1), (Int.le_trans h_1106.2 (by decide))⟩, by decide, by decide⟩ (q_iload_n c_166_9 rfl (q_ldc_s c_166_10 rfl rfl (by decide) (q_call c_166_12 rfl rfl rfl (s_158_17 (bk_inl (v_ic_eq_f (t := 36) c_166_15 rfl ⟨by first | exact q_8febf952f h_1107 | omega, ⟨(Int.le_trans (by decide) h_1106.1), (Int.le_trans h_1106.2 (by decide))⟩, by decide, by decide⟩ (q_iload_n c_166_18 rfl ?_))))))))
                  refine q_ldc_s c_166_19 rfl rfl (by decide) (q_call c_166_21 rfl rfl rfl (s_158_18 (bk_inl (v_ic_eq_t (t := 36) c_166_24 rfl (by first | exact q_21cfe5701 h_1107 | omega) (q_iconst c_166_36 (q_goto (t := 41) c_166_37 rfl (v_zret c_166_41 rfl (by decide) (bk_inl ?_))))))))
                  refine v_if_ne_t (t := 82) c_169_67 rfl (by decide) (q_iload_n c_169_82 rfl (v_bip c_169_83 (by decide) (v_ic_eq_f (t := 96) c_169_85 rfl ⟨by first | exact q_ed39b118e h_236 hv | omega, ⟨(Int.le_trans (by decide) hv.1), (Int.le_trans hv.2 (by decide))⟩, by decide, by decide⟩ (q_aload_n c_169_88 rfl (q_iload_n c_169_89 rfl (v_cv c_169_90 km_8_220 rfl rfl (Nat.le_of_ble_eq_true rfl) ⟨⟨rfl, rfl⟩, Nat.le_of_ble_eq_true rfl, rfl⟩ (Nat.le_of_ble_eq_true rfl) (Nat.le_of_ble_eq_true rfl) (q_iload_n c_167_0 rfl ?_)))))))
                  refine q_ldc_s c_167_1 rfl rfl (by decide) (q_call c_167_3 rfl rfl rfl (s_158_16 (bk_inl (v_ic_ne_t (t := 26) c_167_6 rfl ⟨by first | exact q_1142c8c92 h_1107 | omega, ⟨(Int.le_trans (by decide) h_1106.1), (Int.le_trans h_1106.2 (by decide))⟩, by decide, by decide⟩ (q_iload_n c_167_26 rfl (q_ldc_s c_167_27 rfl rfl (by decide) (q_call c_167_29 rfl rfl rfl (s_158_17 (bk_inl ?_)))))))))
                  refine v_ic_ne_t (t := 51) c_167_32 rfl ⟨by first | exact q_8febf952f h_1107 | omega, ⟨(Int.le_trans (by decide) h_1106.1), (Int.le_trans h_1106.2 (by decide))⟩, by decide, by decide⟩ (q_iload_n c_167_51 rfl (q_ldc_s c_167_52 rfl rfl (by decide) (q_call c_167_54 rfl rfl rfl (s_158_18 (bk_inl (v_ic_ne_f (t := 72) c_167_57 rfl (by first | exact q_21cfe5701 h_1107 | omega) (q_aload_n c_167_60 rfl ?_)))))))
                  have kn_1112 : Hid (c_1101 41 18 = si) := (hF_1103 41 18 (fun h => absurd h.2 (ni rfl))).trans (hr_si)
                  have kn_1113 : Hid (c_1108 41 18 = si) := (hF_1110 41 18 (fun h => absurd h.2 (ni rfl))).trans (hid kn_1112)
                  refine v_gi (z := 18) (v := si) c_167_61 kf_8_151 rfl (Nat.le_of_ble_eq_true rfl) rfl rfl (hid kn_1113) (q_iconst c_167_64 (v_ic_ne_t (t := 72) c_167_65 rfl ⟨by first | exact q_12b330444 h_955 hsi | omega, ⟨(Int.le_trans (by decide) hsi.1), (Int.le_trans hsi.2 (by decide))⟩, by decide, by decide⟩ (q_iconst c_167_72 (v_zret c_167_73 rfl (by decide) (bk_inl (v_if_eq_t (t := 105) c_169_93 rfl (by decide) (q_aload_n c_169_105 rfl ?_)))))))
                  refine v_cv c_169_106 km_8_131 rfl rfl (Nat.le_of_ble_eq_true rfl) ⟨⟨rfl, rfl⟩, Nat.le_of_ble_eq_true rfl, rfl⟩ (Nat.le_of_ble_eq_true rfl) (Nat.le_of_ble_eq_true rfl) (q_aload_n c_152_0 rfl ?_)
                  have kn_1114 : Hid (c_1101 41 5 = (-1)) := (hF_1103 41 5 (fun h => absurd h.2 (ni rfl))).trans (hc_1)
                  have kn_1115 : Hid (c_1108 41 5 = (-1)) := (hF_1110 41 5 (fun h => absurd h.2 (ni rfl))).trans (hid kn_1114)
                  refine v_gi (z := 5) (v := (-1)) c_152_1 kf_8_102 rfl (Nat.le_of_ble_eq_true rfl) rfl rfl (hid kn_1115) (q_iconst c_152_4 (v_ic_ne_f (t := 12) c_152_5 rfl (by decide) (q_iconst c_152_8 (q_goto (t := 13) c_152_9 rfl (v_zret c_152_13 rfl (by decide) (bk_inl (v_if_ne_t (t := 115) c_169_109 rfl (by decide) ?_)))))))
                  refine q_aload_n c_169_115 rfl ?_
                  have kn_1116 : Hid (c_1108 41 3 = e1) := (hF_1110 41 3 (fun h => absurd h.2 (ni rfl))).trans (hid kn_1105)
                  refine v_cv c_169_116 km_8_223 rfl rfl (Nat.le_of_ble_eq_true rfl) ⟨⟨rfl, rfl⟩, Nat.le_of_ble_eq_true rfl, rfl⟩ (Nat.le_of_ble_eq_true rfl) (Nat.le_of_ble_eq_true rfl) (f_159 (e1 := e1) (a9 := (nx F e1 a)) (B := H) (L8 := (ln F e1 (nx F e1 a))) hI_1109 ((hid kn_1116)) ((hz_1111)) (fun j => ((hF_1110 43 j (fun h => absurd h.1 (nn rfl))).trans ((hF_1103 43 j (fun h => absurd h.1 (nn rfl))).trans (hFc 43 j qn_8f9b78528))).trans (hH j)) ((ln_tr hU (by first | exact q_a7eda21a5 h_24 ha | omega) ((rg_eq hg_e1 h_1).2)).trans (rfl)) (fun c_1117 hI_1118 hF_1119 hz_1120 => (bk_inl (q_aload_n c_169_119 rfl (q_iload_n c_169_120 rfl ?_)))))
                  have hw_1121 : (wv F (nx F e1 a) (ln F e1 (nx F e1 a))) = 20223685 := by omega
                  rw [hw_1121]
                  have kn_1122 : Hid (c_103 1 1 = e1) := (hF_105 1 1 qn_b782e6d88).trans (hid kn_82)
                  have kn_1123 : Hid (c_1117 41 3 = e1) := (hF_1119 41 3 (fun h => absurd h.2 (ni rfl))).trans (hid kn_1116)
                  have kn_1124 : Hid (c_1101 41 16 = jr) := (hF_1103 41 16 (fun h => absurd h.2 (ni rfl))).trans (hr_jr)
                  have kn_1125 : Hid (c_1108 41 16 = jr) := (hF_1110 41 16 (fun h => absurd h.2 (ni rfl))).trans (hid kn_1124)
                  have kn_1126 : Hid (c_1117 41 16 = jr) := (hF_1119 41 16 (fun h => absurd h.2 (ni rfl))).trans (hid kn_1125)
                  have kn_1127 : Hid (c_1101 41 17 = st) := (hF_1103 41 17 (fun h => absurd h.2 (ni rfl))).trans (hr_st)
                  have kn_1128 : Hid (c_1108 41 17 = st) := (hF_1110 41 17 (fun h => absurd h.2 (ni rfl))).trans (hid kn_1127)
                  have kn_1129 : Hid (c_1117 41 17 = st) := (hF_1119 41 17 (fun h => absurd h.2 (ni rfl))).trans (hid kn_1128)
                  have kn_1130 : Hid (c_1117 41 18 = si) := (hF_1119 41 18 (fun h => absurd h.2 (ni rfl))).trans (hid kn_1113)
                  have kn_1131 : Hid (c_27 A 3 = du) := (hF_29 A 3 (fun h => absurd h.1 (np0 hA rfl))).trans (hg_du)
                  have kn_1132 : Hid (c_78 A 3 = du) := (hF_80 A 3 (fun h => absurd h.1 (np0 hA rfl))).trans (hid kn_1131)
                  have kn_1133 : Hid (c_103 A 3 = du) := (hF_105 A 3 (qn_014d425e1 hA)).trans (hid kn_1132)
                  have kn_1134 : Hid (c_1101 41 19 = du) := (hF_1103 41 19 (fun h => absurd h.2 (ni rfl))).trans (hr_du)
                  have kn_1135 : Hid (c_1108 41 19 = du) := (hF_1110 41 19 (fun h => absurd h.2 (ni rfl))).trans (hid kn_1134)
                  have kn_1136 : Hid (c_1117 41 19 = du) := (hF_1119 41 19 (fun h => absurd h.2 (ni rfl))).trans (hid kn_1135)
                  have h_1137 : c_103 1 4 = 0 := (hz_109)
                  have h_1138 : c_103 1 2 = (ln F e1 (nx F e1 a)) := (hz_108)
                  have h_1139 : c_103 1 5 = (-1) := (hz_110)
                  have kn_1140 : Hid (c_1117 41 5 = (-1)) := (hF_1119 41 5 (fun h => absurd h.2 (ni rfl))).trans (hid kn_1115)
                  have h_1141 : c_1117 41 5 = (-1) := (hid kn_1140)
                  have h_1142 : c_1117 41 4 = (ln F e1 (nx F e1 a)) := (hz_1120)
                  have h_1143 := ir_41_6 hI2
                  have kn_1144 : Hid (c_1101 41 6 = c2 41 6) := hF_1103 41 6 (fun h => absurd h.2 (ni rfl))
                  have kn_1145 : Hid (c_1108 41 6 = c2 41 6) := (hF_1110 41 6 (fun h => absurd h.2 (ni rfl))).trans (hid kn_1144)
                  have kn_1146 : Hid (c_1117 41 6 = c2 41 6) := (hF_1119 41 6 (fun h => absurd h.2 (ni rfl))).trans (hid kn_1145)
                  have h_1147 : c_1117 41 6 = c2 41 6 := (hid kn_1146)
                  refine v_cv c_169_121 km_8_226 rfl rfl (Nat.le_of_ble_eq_true rfl) ⟨⟨rfl, rfl⟩, Nat.le_of_ble_eq_true rfl, rfl⟩ (Nat.le_of_ble_eq_true rfl) (Nat.le_of_ble_eq_true rfl) (L_33_2 (m := c_103) (e1 := e1) (jr := jr) (st := st) (si := si) (du := du) (F := F) (H := H) hI_1118 hI_104 hI_967 hA (by first | exact q_c0de63303 h_955 hsi | omega) ((hid kn_1122)) ((hid kn_1123)) ((hid kn_959)) ((hid kn_1126)) ((hid kn_963)) ((hid kn_1129)) ((hid kn_954)) ((hid kn_1130)) ((hid kn_1133)) ((hid kn_1136)) (fun j => ((hF_105 2 j qn_e2b123f84).trans ((hF_80 2 j (fun h => absurd h.1 (nn rfl))).trans ((hF_29 2 j (fun h => absurd h.1 (nn rfl))).trans (hFm 2 j (qn_64622c99c hA))))).trans (hF j)) (fun j => ((hF_1119 43 j (fun h => absurd h.1 (nn rfl))).trans ((hF_1110 43 j (fun h => absurd h.1 (nn rfl))).trans ((hF_1103 43 j (fun h => absurd h.1 (nn rfl))).trans (hFc 43 j qn_8f9b78528)))).trans (hH j)) hU (rt_i1 ⟨by first | assumption | omega, by first | assumption | omega, by first | assumption | omega, by first | assumption | omega⟩) hG_969 (fun c_1148 hI_1149 hF_1150 hR_1152 h_1153 h_1154 h_1155 h_1156 => (bk_inl ?_)))
                  have h_1157 := ir_41_16 hI_1149
                  have h_1158 := ir_41_17 hI_1149
                  have h_1159 := ir_41_18 hI_1149
                  have h_1160 := ir_41_19 hI_1149
                  refine q_aload_n c_169_124 rfl (v_bip c_169_125 (by decide) ?_)
                  have kn_1161 : Hid (c_966 1 1 = e1) := (hF_968 1 1 (qn_68bac1c70 hA)).trans (hid kn_1122)
                  have kn_1162 : Hid (c_1148 41 3 = e1) := (hF_1150 41 3 qn_b860ee9cc).trans (hid kn_1123)
                  have h_1163 := ir_1_2 hI_967
                  refine v_cv c_169_127 km_8_229 rfl rfl (Nat.le_of_ble_eq_true rfl) ⟨⟨rfl, rfl⟩, Nat.le_of_ble_eq_true rfl, rfl⟩ (Nat.le_of_ble_eq_true rfl) (Nat.le_of_ble_eq_true rfl) (L_11_9 (m := c_966) (e1 := e1) (a9 := c_966 1 2) (f0 := c_966 1 4) (F := F) (H := H) hI_1149 hI_967 hI_972 ((hid kn_1161)) ((hid kn_1162)) (rfl) (rfl) (fun j => ((hF_968 2 j (qn_2292ef66f hA)).trans ((hF_105 2 j qn_e2b123f84).trans ((hF_80 2 j (fun h => absurd h.1 (nn rfl))).trans ((hF_29 2 j (fun h => absurd h.1 (nn rfl))).trans (hFm 2 j (qn_64622c99c hA)))))).trans (hF j)) (fun j => ((hF_1150 43 j qn_8f9b78528).trans ((hF_1119 43 j (fun h => absurd h.1 (nn rfl))).trans ((hF_1110 43 j (fun h => absurd h.1 (nn rfl))).trans ((hF_1103 43 j (fun h => absurd h.1 (nn rfl))).trans (hFc 43 j qn_8f9b78528))))).trans (hH j)) hU hR_1152 hG_974 (fun c_1164 hI_1165 hF_1166 hR_1168 h_1169 h_1170 => (bk_inl (v_iinc (v := v + 1) c_169_130 rfl (Nat.le_of_ble_eq_true rfl) rfl (q_goto (t := 44) c_169_133 rfl (q_aload_n c_169_44 rfl (v_cv c_169_45 km_8_131 rfl rfl (Nat.le_of_ble_eq_true rfl) ⟨⟨rfl, rfl⟩, Nat.le_of_ble_eq_true rfl, rfl⟩ (Nat.le_of_ble_eq_true rfl) (Nat.le_of_ble_eq_true rfl) (q_aload_n c_152_0 rfl ?_))))))))
                  have h_1171 := ir_41_5 hI_1165
                  have h_1172 := ir_41_4 hI_1165
                  have h_1173 := ir_41_6 hI_1165
                  have h_1174 := rt_bad hR_1168 (by first | exact q_106d90f3b h_975 h_976 | omega)
                  have hrb_hR_1168 := rt_bad hR_1168 (by first | exact q_f7b7d720f h_1174 | omega)
                  refine v_gi (z := 5) (v := c_971 1 5) c_152_1 kf_8_102 rfl (Nat.le_of_ble_eq_true rfl) rfl rfl hrb_hR_1168.2.1 (q_iconst c_152_4 (v_ic_ne_t (t := 12) c_152_5 rfl ⟨by first | exact q_0f78863d3 h_1174 | omega, ⟨(Int.le_trans (by decide) h_1077.1), (Int.le_trans h_1077.2 (by decide))⟩, by decide, by decide⟩ (q_iconst c_152_12 (v_zret c_152_13 rfl (by decide) (bk_inl (v_if_eq_t (t := 136) c_169_48 rfl (by decide) (Wp_ls [(0, .ref 41), (1, vi a1)] (lsub_cons rfl (lsub_cons rfl lsub_nil)) ?_)))))))
                  have h_1175 : c_1164 41 5 = c_971 1 5 := hrb_hR_1168.2.1
                  have h_1176 : c_1164 41 6 = c_971 1 4 := hrb_hR_1168.2.2.2
                  have kn_1177 : Hid (c_1164 41 16 = c_1148 41 16) := hF_1166 41 16 qn_e8809db5e
                  have h_1178 : c_1164 41 16 = c_1148 41 16 := (hid kn_1177)
                  have kn_1179 : Hid (c_1164 41 17 = c_1148 41 17) := hF_1166 41 17 qn_a870196d2
                  have h_1180 : c_1164 41 17 = c_1148 41 17 := (hid kn_1179)
                  have kn_1181 : Hid (c_1164 41 18 = c_1148 41 18) := hF_1166 41 18 qn_d8f940cfc
                  have h_1182 : c_1164 41 18 = c_1148 41 18 := (hid kn_1181)
                  have kn_1183 : Hid (c_1164 41 19 = c_1148 41 19) := hF_1166 41 19 qn_f6eda7af3
                  have h_1184 : c_1164 41 19 = c_1148 41 19 := (hid kn_1183)
                  exact K c_1164  hI_1165 (fun a j hm => (hF_1166 a j (qv_e105a9b19 hm)).trans ((hF_1150 a j hm).trans ((hF_1119 a j (fun h => hm (Or.inl h))).trans ((hF_1110 a j (fun h => hm (Or.inl h))).trans ((hF_1103 a j (fun h => hm (Or.inl h))).trans (hFc a j hm)))))) (rt_i2 ⟨⟨by first | exact q_c4ab36c8d h_1073 h_1174 | omega, by first | exact q_c99d6ea93 h_1072 | omega⟩, by first | exact q_88dc5fb99 h_1079 | omega, by first | exact q_cb71117a2 h_1079 h_1174 | omega, by first | exact q_88dc5fb99 h_1073 | omega⟩) (Or.inr (Or.inl (by first | exact q_374cd1df9 h_1073 h_1174 | omega)))
              · refine v_ic_ne_f (t := 69) c_31_62 rfl (Decidable.not_not.mp h_955) (q_iconst c_31_65 (q_goto (t := 70) c_31_66 rfl (v_zret c_31_70 rfl (by decide) (bk_inl (v_if_eq_f (t := 59) c_34_50 rfl (by decide) (q_aload_n c_34_53 rfl (q_iconst c_34_54 ?_)))))))
                refine q_iload_n c_34_55 rfl (v_cv c_34_56 km_2_64 rfl rfl (Nat.le_of_ble_eq_true rfl) ⟨⟨rfl, rfl⟩, Nat.le_of_ble_eq_true rfl, rfl⟩ (Nat.le_of_ble_eq_true rfl) (Nat.le_of_ble_eq_true rfl) (q_aload_n c_7_0 rfl (v_gi (z := 4) (v := 0) c_7_1 kf_5_38 rfl (Nat.le_of_ble_eq_true rfl) rfl rfl (hz_109) (v_if_ne_f (t := 17) c_7_4 rfl (by decide) (q_aload_n c_7_7 rfl (q_iload_n c_7_8 rfl (v_pi (z := 4) c_7_9 kf_5_38 rfl (Nat.le_of_ble_eq_true rfl) rfl rfl rfl (by decide) ?_)))))))
                refine q_aload_n c_7_12 rfl (q_iload_n c_7_13 rfl (v_pi (z := 5) c_7_14 kf_5_15 rfl (Nat.le_of_ble_eq_true rfl) rfl rfl rfl (by decide) (q_vret rfl rfl (bk_inl (q_aload_n c_34_59 rfl (v_cv c_34_60 km_2_68 rfl rfl (Nat.le_of_ble_eq_true rfl) ⟨⟨rfl, rfl⟩, Nat.le_of_ble_eq_true rfl, rfl⟩ (Nat.le_of_ble_eq_true rfl) (Nat.le_of_ble_eq_true rfl) (q_aload_n c_2_0 rfl ?_)))))))
                refine v_gi (z := 4) (v := 3) c_2_1 kf_5_38 rfl (Nat.le_of_ble_eq_true rfl) rfl rfl ((up_n (by decide)).trans (up_e rfl)) (v_if_ne_t (t := 11) c_2_4 rfl (by decide) (q_iconst c_2_11 (v_zret c_2_12 rfl (by decide) (bk_inl (v_if_eq_t (t := 73) c_34_63 rfl (by decide) (q_aload_n c_34_73 rfl (q_ldc_s c_34_74 rfl rfl (by decide) ?_)))))))
                refine v_cv c_34_76 km_2_77 rfl rfl (Nat.le_of_ble_eq_true rfl) ⟨⟨rfl, rfl⟩, Nat.le_of_ble_eq_true rfl, rfl⟩ (Nat.le_of_ble_eq_true rfl) (Nat.le_of_ble_eq_true rfl) (q_aload_n c_11_0 rfl (v_cv c_11_1 km_5_45 rfl rfl (Nat.le_of_ble_eq_true rfl) ⟨⟨rfl, rfl⟩, Nat.le_of_ble_eq_true rfl, rfl⟩ (Nat.le_of_ble_eq_true rfl) (Nat.le_of_ble_eq_true rfl) (q_aload_n c_2_0 rfl (v_gi (z := 4) (v := 3) c_2_1 kf_5_38 rfl (Nat.le_of_ble_eq_true rfl) rfl rfl ((up_n (by decide)).trans (up_e rfl)) (v_if_ne_t (t := 11) c_2_4 rfl (by decide) (q_iconst c_2_11 (v_zret c_2_12 rfl (by decide) ?_)))))))
                refine bk_inl (v_if_eq_t (t := 25) c_11_4 rfl (by decide) (q_vret rfl rfl (bk_inl (v_iinc (v := v + 1) c_34_79 rfl (Nat.le_of_ble_eq_true rfl) rfl (q_goto (t := 6) c_34_82 rfl (q_iload_n c_34_6 rfl (v_bip c_34_7 (by decide) ?_)))))))
                refine v_ic_gt_f (t := 85) c_34_9 rfl ⟨by first | exact rgp_l hv.1 (by decide) | omega, by first | exact q_a69d2ea54 h_236 hv | omega, by decide⟩ (q_aload_n c_34_12 rfl (v_cv c_34_13 km_2_44 rfl rfl (Nat.le_of_ble_eq_true rfl) ⟨⟨rfl, rfl⟩, Nat.le_of_ble_eq_true rfl, rfl⟩ (Nat.le_of_ble_eq_true rfl) (Nat.le_of_ble_eq_true rfl) (q_aload_n c_15_0 rfl (v_cv c_15_1 km_5_45 rfl rfl (Nat.le_of_ble_eq_true rfl) ⟨⟨rfl, rfl⟩, Nat.le_of_ble_eq_true rfl, rfl⟩ (Nat.le_of_ble_eq_true rfl) (Nat.le_of_ble_eq_true rfl) (q_aload_n c_2_0 rfl (v_gi (z := 4) (v := 3) c_2_1 kf_5_38 rfl (Nat.le_of_ble_eq_true rfl) rfl rfl ((up_n (by decide)).trans (up_e rfl)) (v_if_ne_t (t := 11) c_2_4 rfl (by decide) ?_)))))))
                refine q_iconst c_2_11 (v_zret c_2_12 rfl (by decide) (bk_inl (v_if_eq_t (t := 22) c_15_4 rfl (by decide) (q_iconst c_15_22 (v_zret c_15_23 rfl (by decide) (bk_inl (v_if_eq_t (t := 85) c_34_16 rfl (by decide) ?_)))))))
                refine q_vret rfl rfl ?_
                have hI_1185 := iw_1_4 (v := 3) hI_104 ⟨by decide, by decide⟩
                have hI_1186 := iw_1_5 (v := (nx F e1 a)) hI_1185 ⟨by first | exact q_9531afe7c h_24 ha | omega, by first | exact q_8ee92dabb h_2 h_32 hr_e1 | omega⟩
                intro hE_1187
                have hW : Wd P Q P P (up (up c_103 1 4 3) 1 5 (nx F e1 a)) = Wd P Q P P m9 := (Prod.mk.inj (Prod.mk.inj hE_1187).2).1
                have h_1188 := ir_1_4 hJ9
                have h_1189 : m9 1 4 = 3 := wd_fv (z := 4) 4 rfl hW rfl rfl rfl rfl (by decide) ((up_n (by decide)).trans (up_e rfl)) ⟨by decide, by decide⟩ ⟨(Int.le_trans (by decide) h_1188.1), (Int.le_trans h_1188.2 (by decide))⟩
                have h_1190 := ir_1_2 hJ9
                have h_1191 : m9 1 2 = (ln F e1 (nx F e1 a)) := wd_fv (z := 2) 2 rfl hW rfl rfl rfl rfl (by decide) ((up_n (by decide)).trans ((up_n (by decide)).trans (hz_108))) ⟨by first | exact q_db1b60104 h_24 h_87 ha | omega, by first | exact q_285f5cce7 h_1 h_87 hg_e1 | omega⟩ ⟨(Int.le_trans (by decide) h_1190.1), (Int.le_trans h_1190.2 (by decide))⟩
                have h_1192 := ir_1_5 hJ9
                have h_1193 : m9 1 5 = (nx F e1 a) := wd_fv (z := 5) 5 rfl hW rfl rfl rfl rfl (by decide) (up_e rfl) ⟨by first | exact q_378c2316e h_24 ha | omega, by first | exact q_f47c0b92d h_1 h_32 hg_e1 | omega⟩ ⟨(Int.le_trans (by decide) h_1192.1), (Int.le_trans h_1192.2 (by decide))⟩
                have kn_1194 : Hid (c_27 A 0 = jr) := (hF_29 A 0 (fun h => absurd h.1 (np0 hA rfl))).trans (hg_jr)
                have kn_1195 : Hid (c_78 A 0 = jr) := (hF_80 A 0 (fun h => absurd h.1 (np0 hA rfl))).trans (hid kn_1194)
                have kn_1196 : Hid (c_103 A 0 = jr) := (hF_105 A 0 (qn_014d425e1 hA)).trans (hid kn_1195)
                have h_1197 := ir_p0_0 hJ9 hA
                have h_1198 : m9 A 0 = jr := wd_fv (z := 0) 0 rfl hW (ck_p0 hA) (ck_p0 hA) rfl rfl (a68z hA) ((up_c (np0 hA rfl)).trans ((up_c (np0 hA rfl)).trans (hid kn_1196))) ⟨(Int.le_trans (by decide) hjr.1), (Int.le_trans hjr.2 (by decide))⟩ ⟨(Int.le_trans (by decide) h_1197.1), (Int.le_trans h_1197.2 (by decide))⟩
                have kn_1199 : Hid (c_27 A 1 = st) := (hF_29 A 1 (fun h => absurd h.1 (np0 hA rfl))).trans (hg_st)
                have kn_1200 : Hid (c_78 A 1 = st) := (hF_80 A 1 (fun h => absurd h.1 (np0 hA rfl))).trans (hid kn_1199)
                have kn_1201 : Hid (c_103 A 1 = st) := (hF_105 A 1 (qn_014d425e1 hA)).trans (hid kn_1200)
                have h_1202 := ir_p0_1 hJ9 hA
                have h_1203 : m9 A 1 = st := wd_fv (z := 1) 1 rfl hW (ck_p0 hA) (ck_p0 hA) rfl rfl (a68z hA) ((up_c (np0 hA rfl)).trans ((up_c (np0 hA rfl)).trans (hid kn_1201))) ⟨(Int.le_trans (by decide) hst.1), (Int.le_trans hst.2 (by decide))⟩ ⟨(Int.le_trans (by decide) h_1202.1), (Int.le_trans h_1202.2 (by decide))⟩
                have h_1204 := ir_p0_2 hJ9 hA
                have h_1205 : m9 A 2 = si := wd_fv (z := 2) 2 rfl hW (ck_p0 hA) (ck_p0 hA) rfl rfl (a68z hA) ((up_c (np0 hA rfl)).trans ((up_c (np0 hA rfl)).trans (hid kn_954))) ⟨(Int.le_trans (by decide) hsi.1), (Int.le_trans hsi.2 (by decide))⟩ ⟨(Int.le_trans (by decide) h_1204.1), (Int.le_trans h_1204.2 (by decide))⟩
                have kn_1206 : Hid (c_27 A 3 = du) := (hF_29 A 3 (fun h => absurd h.1 (np0 hA rfl))).trans (hg_du)
                have kn_1207 : Hid (c_78 A 3 = du) := (hF_80 A 3 (fun h => absurd h.1 (np0 hA rfl))).trans (hid kn_1206)
                have kn_1208 : Hid (c_103 A 3 = du) := (hF_105 A 3 (qn_014d425e1 hA)).trans (hid kn_1207)
                have h_1209 := ir_p0_3 hJ9 hA
                have h_1210 : m9 A 3 = du := wd_fv (z := 3) 3 rfl hW (ck_p0 hA) (ck_p0 hA) rfl rfl (a68z hA) ((up_c (np0 hA rfl)).trans ((up_c (np0 hA rfl)).trans (hid kn_1208))) ⟨(Int.le_trans (by decide) hdu.1), (Int.le_trans hdu.2 (by decide))⟩ ⟨(Int.le_trans (by decide) h_1209.1), (Int.le_trans h_1209.2 (by decide))⟩
                refine q_aload_n c_169_44 rfl (v_cv c_169_45 km_8_131 rfl rfl (Nat.le_of_ble_eq_true rfl) ⟨⟨rfl, rfl⟩, Nat.le_of_ble_eq_true rfl, rfl⟩ (Nat.le_of_ble_eq_true rfl) (Nat.le_of_ble_eq_true rfl) (q_aload_n c_152_0 rfl (v_gi (z := 5) (v := (-1)) c_152_1 kf_8_102 rfl (Nat.le_of_ble_eq_true rfl) rfl rfl (hc_1) (q_iconst c_152_4 (v_ic_ne_f (t := 12) c_152_5 rfl (by decide) (q_iconst c_152_8 (q_goto (t := 13) c_152_9 rfl ?_)))))))
                refine v_zret c_152_13 rfl (by decide) (bk_inl (v_if_eq_f (t := 136) c_169_48 rfl (by decide) (q_aload_n c_169_51 rfl (v_cv c_169_52 km_8_211 rfl rfl (Nat.le_of_ble_eq_true rfl) ⟨⟨rfl, rfl⟩, Nat.le_of_ble_eq_true rfl, rfl⟩ (Nat.le_of_ble_eq_true rfl) (Nat.le_of_ble_eq_true rfl) (q_aload_n c_162_0 rfl ?_)))))
                have kn_1211 : Hid (c2 41 3 = e1) := (hFc 41 3 qn_b860ee9cc).trans (hr_e1)
                have h_1212 : -2147483648 ≤ (H (nx F e1 a)) ∧ (H (nx F e1 a)) ≤ 2147483647 := by rw [← hH (nx F e1 a)]; exact ir_43 hI (nx F e1 a)
                have h_1213 := hU (nx F e1 a) (by first | exact q_a7eda21a5 h_24 ha | omega) (by first | exact q_6c5402073 h_1 h_32 hg_e1 | omega)
                have h_1214 := hb_or (b := H) (e := e1) (r := (nx F e1 a))
                have h_1215 := hb_bd (b := H) (e := e1) (r := (nx F e1 a)) (lo := -2147483648) (hi := 2147483647) h_1212 (by decide)
                refine v_cv c_162_1 km_8_114 rfl rfl (Nat.le_of_ble_eq_true rfl) ⟨⟨rfl, rfl⟩, Nat.le_of_ble_eq_true rfl, rfl⟩ (Nat.le_of_ble_eq_true rfl) (Nat.le_of_ble_eq_true rfl) (f_154 (e1 := e1) (a9 := a) (B := H) (r8 := (nx F e1 a)) (r := (hb H e1 (nx F e1 a))) hI2 ((hid kn_1211)) ((hr_a)) (fun j => (hFc 43 j qn_8f9b78528).trans (hH j)) ((nx_tr hU (ha.1) ((rg_eq hg_e1 h_1).2)).trans (rfl)) rfl (fun c_1216 hI_1217 hF_1218 h_1219 => (bk_inl (q_pop c_162_4 rfl (q_aload_n c_162_5 rfl (v_gi (z := 4) (v := (nx F e1 a)) c_162_6 kf_8_108 rfl (Nat.le_of_ble_eq_true rfl) rfl rfl (h_1219) (q_aload_n c_162_9 rfl ?_)))))))
                have kn_1220 : Hid (c_1216 41 3 = e1) := (hF_1218 41 3 (fun h => absurd h.2 (ni rfl))).trans (hid kn_1211)
                refine v_gi (z := 3) (v := e1) c_162_10 kf_8_111 rfl (Nat.le_of_ble_eq_true rfl) rfl rfl (hid kn_1220) (v_ic_ge_f (t := 20) c_162_13 rfl ⟨by first | exact q_378c2316e h_24 ha | omega, by first | exact q_d17d18138 h_32 | omega, (Int.le_trans (rg_eq hg_e1 h_1).2 (by decide))⟩ (q_iconst c_162_16 (q_goto (t := 21) c_162_17 rfl (v_zret c_162_21 rfl (by decide) (bk_inl (v_if_eq_f (t := 136) c_169_55 rfl (by decide) (q_aload_n c_169_58 rfl ?_)))))))
                have h_1221 := wv_bd (b := F) (r := (nx F e1 a)) (l := (ln F e1 (nx F e1 a))) (fun j h1 h2 => ⟨(ln_in (e := e1) (a := (nx F e1 a)) h1 h2).1, (ln_in (e := e1) (a := (nx F e1 a)) h1 h2).2.1⟩)
                have h_1222 := wr8_2 (b := F) (r := (nx F e1 a)) (l := (ln F e1 (nx F e1 a))) (by first | exact q_18f17732a h_87 | omega) (fun j h1 h2 => ⟨(ln_in (e := e1) (a := (nx F e1 a)) h1 h2).1, (ln_in (e := e1) (a := (nx F e1 a)) h1 h2).2.1⟩) (by first | exact q_074216cb3 h_951 | omega)
                refine v_cv c_169_59 km_8_214 rfl rfl (Nat.le_of_ble_eq_true rfl) ⟨⟨rfl, rfl⟩, Nat.le_of_ble_eq_true rfl, rfl⟩ (Nat.le_of_ble_eq_true rfl) (Nat.le_of_ble_eq_true rfl) (f_157 (e1 := e1) (a9 := (nx F e1 a)) (B := H) (r8 := (nx F e1 a)) (L8 := (ln F e1 (nx F e1 a))) (W8 := (wv F (nx F e1 a) (ln F e1 (nx F e1 a)))) hI_1217 ((hid kn_1220)) ((h_1219)) (fun j => ((hF_1218 43 j (fun h => absurd h.1 (nn rfl))).trans (hFc 43 j qn_8f9b78528)).trans (hH j)) ((nx_tr hU (by first | exact q_a7eda21a5 h_24 ha | omega) ((rg_eq hg_e1 h_1).2)).trans ((nx_z (Or.inr (by first | exact q_b1e7f72d7 h_26 h_32 | omega))))) ((ln_tr hU (by first | exact q_a7eda21a5 h_24 ha | omega) ((rg_eq hg_e1 h_1).2)).trans (rfl)) ((wv_tr hU (by first | exact q_a7eda21a5 h_24 ha | omega) (by first | exact q_93d3e60a8 h_1190 h_1191 | omega) (fun j h1 h2 => ⟨(ln_in (e := e1) (a := (nx F e1 a)) h1 h2).1, (ln_in (e := e1) (a := (nx F e1 a)) h1 h2).2.1⟩)).trans (rfl)) (fun c_1223 hI_1224 hF_1225 hz_1226 => (bk_inl (q_istore_n c_169_62 (Nat.le_of_ble_eq_true rfl) (q_iload_n c_169_63 rfl (q_call c_169_64 rfl rfl rfl (q_iload_n c_166_0 rfl (q_ldc_s c_166_1 rfl rfl (by decide) (q_call c_166_3 rfl rfl rfl (s_158_16 ?_))))))))))
                refine bk_inl (v_ic_eq_f (t := 36) c_166_6 rfl ⟨by first | exact q_1142c8c92 h_1222 | omega, ⟨(Int.le_trans (by decide) h_1221.1), (Int.le_trans h_1221.2 (by decide))⟩, by decide, by decide⟩ (q_iload_n c_166_9 rfl (q_ldc_s c_166_10 rfl rfl (by decide) (q_call c_166_12 rfl rfl rfl (s_158_17 (bk_inl (v_ic_eq_f (t := 36) c_166_15 rfl ⟨by first | exact q_8febf952f h_1222 | omega, ⟨(Int.le_trans (by decide) h_1221.1), (Int.le_trans h_1221.2 (by decide))⟩, by decide, by decide⟩ (q_iload_n c_166_18 rfl ?_))))))))
                refine q_ldc_s c_166_19 rfl rfl (by decide) (q_call c_166_21 rfl rfl rfl (s_158_18 (bk_inl (v_ic_eq_t (t := 36) c_166_24 rfl (by first | exact q_21cfe5701 h_1222 | omega) (q_iconst c_166_36 (q_goto (t := 41) c_166_37 rfl (v_zret c_166_41 rfl (by decide) (bk_inl ?_))))))))
                refine v_if_ne_t (t := 82) c_169_67 rfl (by decide) (q_iload_n c_169_82 rfl (v_bip c_169_83 (by decide) (v_ic_eq_f (t := 96) c_169_85 rfl ⟨by first | exact q_ed39b118e h_236 hv | omega, ⟨(Int.le_trans (by decide) hv.1), (Int.le_trans hv.2 (by decide))⟩, by decide, by decide⟩ (q_aload_n c_169_88 rfl (q_iload_n c_169_89 rfl (v_cv c_169_90 km_8_220 rfl rfl (Nat.le_of_ble_eq_true rfl) ⟨⟨rfl, rfl⟩, Nat.le_of_ble_eq_true rfl, rfl⟩ (Nat.le_of_ble_eq_true rfl) (Nat.le_of_ble_eq_true rfl) (q_iload_n c_167_0 rfl ?_)))))))
                refine q_ldc_s c_167_1 rfl rfl (by decide) (q_call c_167_3 rfl rfl rfl (s_158_16 (bk_inl (v_ic_ne_t (t := 26) c_167_6 rfl ⟨by first | exact q_1142c8c92 h_1222 | omega, ⟨(Int.le_trans (by decide) h_1221.1), (Int.le_trans h_1221.2 (by decide))⟩, by decide, by decide⟩ (q_iload_n c_167_26 rfl (q_ldc_s c_167_27 rfl rfl (by decide) (q_call c_167_29 rfl rfl rfl (s_158_17 (bk_inl ?_)))))))))
                refine v_ic_ne_t (t := 51) c_167_32 rfl ⟨by first | exact q_8febf952f h_1222 | omega, ⟨(Int.le_trans (by decide) h_1221.1), (Int.le_trans h_1221.2 (by decide))⟩, by decide, by decide⟩ (q_iload_n c_167_51 rfl (q_ldc_s c_167_52 rfl rfl (by decide) (q_call c_167_54 rfl rfl rfl (s_158_18 (bk_inl (v_ic_ne_f (t := 72) c_167_57 rfl (by first | exact q_21cfe5701 h_1222 | omega) (q_aload_n c_167_60 rfl ?_)))))))
                have kn_1227 : Hid (c_1216 41 18 = si) := (hF_1218 41 18 (fun h => absurd h.2 (ni rfl))).trans (hr_si)
                have kn_1228 : Hid (c_1223 41 18 = si) := (hF_1225 41 18 (fun h => absurd h.2 (ni rfl))).trans (hid kn_1227)
                refine v_gi (z := 18) (v := si) c_167_61 kf_8_151 rfl (Nat.le_of_ble_eq_true rfl) rfl rfl (hid kn_1228) (q_iconst c_167_64 (v_ic_ne_f (t := 72) c_167_65 rfl (by first | exact q_1fd48870b h_955 hsi | omega) (q_iconst c_167_68 (q_goto (t := 73) c_167_69 rfl (v_zret c_167_73 rfl (by decide) (bk_inl (v_if_eq_f (t := 105) c_169_93 rfl (by decide) ?_)))))))
                refine q_aload_n c_169_96 rfl (q_iconst c_169_97 (q_aload_n c_169_98 rfl (v_gi (z := 4) (v := (nx F e1 a)) c_169_99 kf_8_108 rfl (Nat.le_of_ble_eq_true rfl) rfl rfl (hz_1226) (v_cv c_169_102 km_8_138 rfl rfl (Nat.le_of_ble_eq_true rfl) ⟨⟨rfl, rfl⟩, Nat.le_of_ble_eq_true rfl, rfl⟩ (Nat.le_of_ble_eq_true rfl) (Nat.le_of_ble_eq_true rfl) (q_aload_n c_153_0 rfl ?_)))))
                have kn_1229 : Hid (c_1216 41 5 = (-1)) := (hF_1218 41 5 (fun h => absurd h.2 (ni rfl))).trans (hc_1)
                have kn_1230 : Hid (c_1223 41 5 = (-1)) := (hF_1225 41 5 (fun h => absurd h.2 (ni rfl))).trans (hid kn_1229)
                refine v_gi (z := 5) (v := (-1)) c_153_1 kf_8_102 rfl (Nat.le_of_ble_eq_true rfl) rfl rfl (hid kn_1230) (q_iconst c_153_4 (v_ic_eq_t (t := 9) c_153_5 rfl (by decide) (q_aload_n c_153_9 rfl (q_iload_n c_153_10 rfl (v_pi (z := 5) c_153_11 kf_8_102 rfl (Nat.le_of_ble_eq_true rfl) rfl rfl rfl (by decide) (q_aload_n c_153_14 rfl (q_iload_n c_153_15 rfl ?_)))))))
                refine v_pi (z := 6) c_153_16 kf_8_105 rfl (Nat.le_of_ble_eq_true rfl) rfl rfl rfl (by decide) (q_vret rfl rfl (bk_inl (q_aload_n c_169_105 rfl (v_cv c_169_106 km_8_131 rfl rfl (Nat.le_of_ble_eq_true rfl) ⟨⟨rfl, rfl⟩, Nat.le_of_ble_eq_true rfl, rfl⟩ (Nat.le_of_ble_eq_true rfl) (Nat.le_of_ble_eq_true rfl) (q_aload_n c_152_0 rfl (v_gi (z := 5) (v := (nx F e1 a)) c_152_1 kf_8_102 rfl (Nat.le_of_ble_eq_true rfl) rfl rfl ((up_n (by decide)).trans (up_e rfl)) (q_iconst c_152_4 ?_)))))))
                refine v_ic_ne_t (t := 12) c_152_5 rfl ⟨by first | exact q_1f202bb18 h_24 ha | omega, ⟨by first | exact q_378c2316e h_24 ha | omega, by first | exact q_783468581 h_1192 h_1193 | omega⟩, by decide, by decide⟩ (q_iconst c_152_12 (v_zret c_152_13 rfl (by decide) (bk_inl (v_if_ne_f (t := 115) c_169_109 rfl (by decide) (q_goto (t := 136) c_169_112 rfl (Wp_ls [(0, .ref 41), (1, vi a1)] (lsub_cons rfl (lsub_cons rfl lsub_nil)) ?_))))))
                have hI_1231 := iw_41_5 (v := (nx F e1 a)) hI_1224 ⟨by first | exact q_9531afe7c h_24 ha | omega, by first | exact q_6094bb0fa h_1192 h_1193 | omega⟩
                have hI_1232 := iw_41_6 (v := 3) hI_1231 ⟨by decide, by decide⟩
                have h_1233 : (up (up c_1223 41 5 (nx F e1 a)) 41 6 3) 41 5 = (nx F e1 a) := ((up_n (by decide)).trans (up_e rfl))
                have h_1234 : (up (up c_1223 41 5 (nx F e1 a)) 41 6 3) 41 4 = (nx F e1 a) := ((up_n (by decide)).trans ((up_n (by decide)).trans (hz_1226)))
                have h_1235 : (up (up c_1223 41 5 (nx F e1 a)) 41 6 3) 41 6 = 3 := (up_e rfl)
                have kn_1236 : Hid (c_1216 41 16 = jr) := (hF_1218 41 16 (fun h => absurd h.2 (ni rfl))).trans (hr_jr)
                have kn_1237 : Hid (c_1223 41 16 = jr) := (hF_1225 41 16 (fun h => absurd h.2 (ni rfl))).trans (hid kn_1236)
                have h_1238 : (up (up c_1223 41 5 (nx F e1 a)) 41 6 3) 41 16 = jr := ((up_n (by decide)).trans ((up_n (by decide)).trans (hid kn_1237)))
                have kn_1239 : Hid (c_1216 41 17 = st) := (hF_1218 41 17 (fun h => absurd h.2 (ni rfl))).trans (hr_st)
                have kn_1240 : Hid (c_1223 41 17 = st) := (hF_1225 41 17 (fun h => absurd h.2 (ni rfl))).trans (hid kn_1239)
                have h_1241 : (up (up c_1223 41 5 (nx F e1 a)) 41 6 3) 41 17 = st := ((up_n (by decide)).trans ((up_n (by decide)).trans (hid kn_1240)))
                have h_1242 : (up (up c_1223 41 5 (nx F e1 a)) 41 6 3) 41 18 = si := ((up_n (by decide)).trans ((up_n (by decide)).trans (hid kn_1228)))
                have kn_1243 : Hid (c_1216 41 19 = du) := (hF_1218 41 19 (fun h => absurd h.2 (ni rfl))).trans (hr_du)
                have kn_1244 : Hid (c_1223 41 19 = du) := (hF_1225 41 19 (fun h => absurd h.2 (ni rfl))).trans (hid kn_1243)
                have h_1245 : (up (up c_1223 41 5 (nx F e1 a)) 41 6 3) 41 19 = du := ((up_n (by decide)).trans ((up_n (by decide)).trans (hid kn_1244)))
                exact K (up (up c_1223 41 5 (nx F e1 a)) 41 6 3)  hI_1232 (fun a j hm => (up_b (Decidable.or_iff_not_imp_left.mpr (fun h1 h2 => hm (Or.inr (Or.inr (Or.inl ⟨Decidable.not_not.mp h1, h2⟩)))))).trans ((up_b (Decidable.or_iff_not_imp_left.mpr (fun h1 h2 => hm (Or.inr (Or.inl ⟨Decidable.not_not.mp h1, h2⟩))))).trans ((hF_1225 a j (fun h => hm (Or.inl h))).trans ((hF_1218 a j (fun h => hm (Or.inl h))).trans (hFc a j hm))))) (rt_i2 ⟨⟨by first | exact q_fcb6ff4be h_1189 | omega, by first | exact q_c99d6ea93 h_1188 | omega⟩, by first | exact q_88dc5fb99 h_1193 | omega, by first | exact q_7bcc067ca h_1193 h_24 ha | omega, by first | exact q_bff6e6fd4 h_1188 h_1189 | omega⟩) (Or.inr (Or.inl (by first | exact q_33afb0047 h_1189 | omega)))
          refine v_tsw_o (t := 71) rfl (by omega) (by decide) (q_iconst c_31_71 (v_zret c_31_72 rfl (by decide) (bk_inl (v_if_eq_t (t := 59) c_34_50 rfl (by decide) (q_aload_n c_34_59 rfl (v_cv c_34_60 km_2_68 rfl rfl (Nat.le_of_ble_eq_true rfl) ⟨⟨rfl, rfl⟩, Nat.le_of_ble_eq_true rfl, rfl⟩ (Nat.le_of_ble_eq_true rfl) (Nat.le_of_ble_eq_true rfl) (q_aload_n c_2_0 rfl ?_)))))))
          refine v_gi (z := 4) (v := 0) c_2_1 kf_5_38 rfl (Nat.le_of_ble_eq_true rfl) rfl rfl (hz_109) (v_if_ne_f (t := 11) c_2_4 rfl (by decide) (q_iconst c_2_7 (q_goto (t := 12) c_2_8 rfl (v_zret c_2_12 rfl (by decide) (bk_inl (v_if_eq_f (t := 73) c_34_63 rfl (by decide) (q_aload_n c_34_66 rfl ?_)))))))
          refine q_aload_n c_34_67 rfl (q_iload c_34_68 rfl ?_)
          have hw_1246 : (wd8_0 F (nx F e1 a) (ln F e1 (nx F e1 a))) = 3 := by omega
          rw [hw_1246]
          have kn_1247 : Hid (c_27 A 0 = jr) := (hF_29 A 0 (fun h => absurd h.1 (np0 hA rfl))).trans (hg_jr)
          have kn_1248 : Hid (c_78 A 0 = jr) := (hF_80 A 0 (fun h => absurd h.1 (np0 hA rfl))).trans (hid kn_1247)
          have kn_1249 : Hid (c_103 A 0 = jr) := (hF_105 A 0 (qn_014d425e1 hA)).trans (hid kn_1248)
          have h_1250 : c_103 A 0 = jr := (hid kn_1249)
          have kn_1251 : Hid (c_27 A 1 = st) := (hF_29 A 1 (fun h => absurd h.1 (np0 hA rfl))).trans (hg_st)
          have kn_1252 : Hid (c_78 A 1 = st) := (hF_80 A 1 (fun h => absurd h.1 (np0 hA rfl))).trans (hid kn_1251)
          have kn_1253 : Hid (c_103 A 1 = st) := (hF_105 A 1 (qn_014d425e1 hA)).trans (hid kn_1252)
          have h_1254 : c_103 A 1 = st := (hid kn_1253)
          have kn_1255 : Hid (c_27 A 2 = si) := (hF_29 A 2 (fun h => absurd h.1 (np0 hA rfl))).trans (hg_si)
          have kn_1256 : Hid (c_78 A 2 = si) := (hF_80 A 2 (fun h => absurd h.1 (np0 hA rfl))).trans (hid kn_1255)
          have kn_1257 : Hid (c_103 A 2 = si) := (hF_105 A 2 (qn_014d425e1 hA)).trans (hid kn_1256)
          have h_1258 : c_103 A 2 = si := (hid kn_1257)
          refine v_cv c_34_70 km_2_71 rfl (ck_p0 hA) (a68z hA) ⟨⟨rfl, rfl⟩, by decide, rfl⟩ (Nat.le_of_ble_eq_true rfl) (Nat.le_of_ble_eq_true rfl) (fn_of (s_33 (a2 := 3) hI_104 hA (show 0 ≤ 3 ∧ 3 ≤ 100 from ⟨by decide, by decide⟩) (Or.inl (by first | decide | omega)) (Or.inl (by first | decide | omega)) (Or.inl (by first | decide | omega)) (fun c_1259 hI_1260 hF_1261 => ?_)))
          intro hG_1262
          refine bk_inl (q_aload_n c_34_73 rfl (q_ldc_s c_34_74 rfl rfl (by decide) ?_))
          have h_1263 := ir_1_4 hI_1260
          refine v_cv c_34_76 km_2_77 rfl rfl (Nat.le_of_ble_eq_true rfl) ⟨⟨rfl, rfl⟩, Nat.le_of_ble_eq_true rfl, rfl⟩ (Nat.le_of_ble_eq_true rfl) (Nat.le_of_ble_eq_true rfl) (fn_of (s_11 hI_1260 (q := 9) (nt := 1) (by decide) (by decide) (by decide) (fun c_1264 hI_1265 hF_1266 => ?_)))
          intro hG_1267
          refine bk_inl (v_iinc (v := v + 1) c_34_79 rfl (Nat.le_of_ble_eq_true rfl) rfl (q_goto (t := 6) c_34_82 rfl ?_))
          have h_1268 := ir_1_4 hI_1265
          by_cases h_1269 : c_1264 1 4 = 0
          · skip
            refine Wp_ls [(0, .ref A), (1, .ref 1), (2, vi (v + 1))] (lsub_cons rfl (lsub_cons rfl (lsub_cons rfl lsub_nil))) (gh_stop (s_34_l (sc := sc) (d := dh + 18) (c := c_1264) (Z := fun _ => True) hI_1265 hA (fun _ _ _ => trivial) 124 c_1264 (v + 1) hI_1265 (fun a j hm => rfl) ⟨by omega, by omega⟩ (by omega)) (fun hG_1270 => (q_aload_n c_169_44 rfl (v_cv c_169_45 km_8_131 rfl rfl (Nat.le_of_ble_eq_true rfl) ⟨⟨rfl, rfl⟩, Nat.le_of_ble_eq_true rfl, rfl⟩ (Nat.le_of_ble_eq_true rfl) (Nat.le_of_ble_eq_true rfl) (q_aload_n c_152_0 rfl (v_gi (z := 5) (v := (-1)) c_152_1 kf_8_102 rfl (Nat.le_of_ble_eq_true rfl) rfl rfl (hc_1) (q_iconst c_152_4 (v_ic_ne_f (t := 12) c_152_5 rfl (by decide) ?_))))))))
            refine q_iconst c_152_8 (q_goto (t := 13) c_152_9 rfl (v_zret c_152_13 rfl (by decide) (bk_inl (v_if_eq_f (t := 136) c_169_48 rfl (by decide) (q_aload_n c_169_51 rfl (v_cv c_169_52 km_8_211 rfl rfl (Nat.le_of_ble_eq_true rfl) ⟨⟨rfl, rfl⟩, Nat.le_of_ble_eq_true rfl, rfl⟩ (Nat.le_of_ble_eq_true rfl) (Nat.le_of_ble_eq_true rfl) (q_aload_n c_162_0 rfl ?_)))))))
            have kn_1271 : Hid (c2 41 3 = e1) := (hFc 41 3 qn_b860ee9cc).trans (hr_e1)
            have h_1272 : -2147483648 ≤ (H (nx F e1 a)) ∧ (H (nx F e1 a)) ≤ 2147483647 := by rw [← hH (nx F e1 a)]; exact ir_43 hI (nx F e1 a)
            have h_1273 := hU (nx F e1 a) (by first | exact q_a7eda21a5 h_24 ha | omega) (by first | exact q_6c5402073 h_2 h_32 hr_e1 | omega)
            have h_1274 := hb_or (b := H) (e := e1) (r := (nx F e1 a))
            have h_1275 := hb_bd (b := H) (e := e1) (r := (nx F e1 a)) (lo := -2147483648) (hi := 2147483647) h_1272 (by decide)
            refine v_cv c_162_1 km_8_114 rfl rfl (Nat.le_of_ble_eq_true rfl) ⟨⟨rfl, rfl⟩, Nat.le_of_ble_eq_true rfl, rfl⟩ (Nat.le_of_ble_eq_true rfl) (Nat.le_of_ble_eq_true rfl) (f_154 (e1 := e1) (a9 := a) (B := H) (r8 := (nx F e1 a)) (r := (hb H e1 (nx F e1 a))) hI2 ((hid kn_1271)) ((hr_a)) (fun j => (hFc 43 j qn_8f9b78528).trans (hH j)) ((nx_tr hU (ha.1) ((rg_eq hg_e1 h_1).2)).trans (rfl)) rfl (fun c_1276 hI_1277 hF_1278 h_1279 => (bk_inl (q_pop c_162_4 rfl (q_aload_n c_162_5 rfl (v_gi (z := 4) (v := (nx F e1 a)) c_162_6 kf_8_108 rfl (Nat.le_of_ble_eq_true rfl) rfl rfl (h_1279) (q_aload_n c_162_9 rfl ?_)))))))
            have kn_1280 : Hid (c_1276 41 3 = e1) := (hF_1278 41 3 (fun h => absurd h.2 (ni rfl))).trans (hid kn_1271)
            refine v_gi (z := 3) (v := e1) c_162_10 kf_8_111 rfl (Nat.le_of_ble_eq_true rfl) rfl rfl (hid kn_1280) (v_ic_ge_f (t := 20) c_162_13 rfl ⟨by first | exact q_378c2316e h_24 ha | omega, by first | exact q_d17d18138 h_32 | omega, (Int.le_trans (rg_eq hg_e1 h_1).2 (by decide))⟩ (q_iconst c_162_16 (q_goto (t := 21) c_162_17 rfl (v_zret c_162_21 rfl (by decide) (bk_inl (v_if_eq_f (t := 136) c_169_55 rfl (by decide) (q_aload_n c_169_58 rfl ?_)))))))
            have h_1281 := wv_bd (b := F) (r := (nx F e1 a)) (l := (ln F e1 (nx F e1 a))) (fun j h1 h2 => ⟨(ln_in (e := e1) (a := (nx F e1 a)) h1 h2).1, (ln_in (e := e1) (a := (nx F e1 a)) h1 h2).2.1⟩)
            have h_1282 := wr8_3 (b := F) (r := (nx F e1 a)) (l := (ln F e1 (nx F e1 a))) (by first | exact q_18f17732a h_87 | omega) (fun j h1 h2 => ⟨(ln_in (e := e1) (a := (nx F e1 a)) h1 h2).1, (ln_in (e := e1) (a := (nx F e1 a)) h1 h2).2.1⟩) (by first | exact q_ade4332b2 h_107 h_361 h_656 h_951 | omega)
            refine v_cv c_169_59 km_8_214 rfl rfl (Nat.le_of_ble_eq_true rfl) ⟨⟨rfl, rfl⟩, Nat.le_of_ble_eq_true rfl, rfl⟩ (Nat.le_of_ble_eq_true rfl) (Nat.le_of_ble_eq_true rfl) (f_157 (e1 := e1) (a9 := (nx F e1 a)) (B := H) (r8 := (nx F e1 a)) (L8 := (ln F e1 (nx F e1 a))) (W8 := (wv F (nx F e1 a) (ln F e1 (nx F e1 a)))) hI_1277 ((hid kn_1280)) ((h_1279)) (fun j => ((hF_1278 43 j (fun h => absurd h.1 (nn rfl))).trans (hFc 43 j qn_8f9b78528)).trans (hH j)) ((nx_tr hU (by first | exact q_a7eda21a5 h_24 ha | omega) ((rg_eq hg_e1 h_1).2)).trans ((nx_z (Or.inr (by first | exact q_b1e7f72d7 h_26 h_32 | omega))))) ((ln_tr hU (by first | exact q_a7eda21a5 h_24 ha | omega) ((rg_eq hg_e1 h_1).2)).trans (rfl)) ((wv_tr hU (by first | exact q_a7eda21a5 h_24 ha | omega) (by first | exact q_296ae6bb2 h_2 h_87 hr_e1 | omega) (fun j h1 h2 => ⟨(ln_in (e := e1) (a := (nx F e1 a)) h1 h2).1, (ln_in (e := e1) (a := (nx F e1 a)) h1 h2).2.1⟩)).trans (rfl)) (fun c_1283 hI_1284 hF_1285 hz_1286 => (bk_inl (q_istore_n c_169_62 (Nat.le_of_ble_eq_true rfl) (q_iload_n c_169_63 rfl (q_call c_169_64 rfl rfl rfl (q_iload_n c_166_0 rfl (q_ldc_s c_166_1 rfl rfl (by decide) (q_call c_166_3 rfl rfl rfl (s_158_16 ?_))))))))))
            refine bk_inl (v_ic_eq_f (t := 36) c_166_6 rfl ⟨by first | exact q_73f908bd4 h_1282 | omega, ⟨(Int.le_trans (by decide) h_1281.1), (Int.le_trans h_1281.2 (by decide))⟩, by decide, by decide⟩ (q_iload_n c_166_9 rfl (q_ldc_s c_166_10 rfl rfl (by decide) (q_call c_166_12 rfl rfl rfl (s_158_17 (bk_inl (v_ic_eq_f (t := 36) c_166_15 rfl ⟨by first | exact q_c2c9e75ac h_1282 | omega, ⟨(Int.le_trans (by decide) h_1281.1), (Int.le_trans h_1281.2 (by decide))⟩, by decide, by decide⟩ (q_iload_n c_166_18 rfl ?_))))))))
            refine q_ldc_s c_166_19 rfl rfl (by decide) (q_call c_166_21 rfl rfl rfl (s_158_18 (bk_inl (v_ic_eq_f (t := 36) c_166_24 rfl ⟨by first | exact q_0a861b656 h_1282 | omega, ⟨(Int.le_trans (by decide) h_1281.1), (Int.le_trans h_1281.2 (by decide))⟩, by decide, by decide⟩ (q_iload_n c_166_27 rfl (q_ldc_s c_166_28 rfl rfl (by decide) (q_call c_166_30 rfl rfl rfl (s_158_19 (bk_inl ?_)))))))))
            refine v_ic_ne_f (t := 40) c_166_33 rfl (by first | exact q_02c8ae61a h_1282 | omega) (q_iconst c_166_36 (q_goto (t := 41) c_166_37 rfl (v_zret c_166_41 rfl (by decide) (bk_inl (v_if_ne_t (t := 82) c_169_67 rfl (by decide) (q_iload_n c_169_82 rfl (v_bip c_169_83 (by decide) ?_)))))))
            refine v_ic_eq_f (t := 96) c_169_85 rfl ⟨by first | exact q_ed39b118e h_236 hv | omega, ⟨(Int.le_trans (by decide) hv.1), (Int.le_trans hv.2 (by decide))⟩, by decide, by decide⟩ (q_aload_n c_169_88 rfl (q_iload_n c_169_89 rfl (v_cv c_169_90 km_8_220 rfl rfl (Nat.le_of_ble_eq_true rfl) ⟨⟨rfl, rfl⟩, Nat.le_of_ble_eq_true rfl, rfl⟩ (Nat.le_of_ble_eq_true rfl) (Nat.le_of_ble_eq_true rfl) (q_iload_n c_167_0 rfl (q_ldc_s c_167_1 rfl rfl (by decide) (q_call c_167_3 rfl rfl rfl (s_158_16 (bk_inl ?_))))))))
            refine v_ic_ne_t (t := 26) c_167_6 rfl ⟨by first | exact q_73f908bd4 h_1282 | omega, ⟨(Int.le_trans (by decide) h_1281.1), (Int.le_trans h_1281.2 (by decide))⟩, by decide, by decide⟩ (q_iload_n c_167_26 rfl (q_ldc_s c_167_27 rfl rfl (by decide) (q_call c_167_29 rfl rfl rfl (s_158_17 (bk_inl (v_ic_ne_t (t := 51) c_167_32 rfl ⟨by first | exact q_c2c9e75ac h_1282 | omega, ⟨(Int.le_trans (by decide) h_1281.1), (Int.le_trans h_1281.2 (by decide))⟩, by decide, by decide⟩ (q_iload_n c_167_51 rfl (q_ldc_s c_167_52 rfl rfl (by decide) ?_))))))))
            refine q_call c_167_54 rfl rfl rfl (s_158_18 (bk_inl (v_ic_ne_t (t := 72) c_167_57 rfl ⟨by first | exact q_0a861b656 h_1282 | omega, ⟨(Int.le_trans (by decide) h_1281.1), (Int.le_trans h_1281.2 (by decide))⟩, by decide, by decide⟩ (q_iconst c_167_72 (v_zret c_167_73 rfl (by decide) (bk_inl (v_if_eq_t (t := 105) c_169_93 rfl (by decide) (q_aload_n c_169_105 rfl ?_))))))))
            refine v_cv c_169_106 km_8_131 rfl rfl (Nat.le_of_ble_eq_true rfl) ⟨⟨rfl, rfl⟩, Nat.le_of_ble_eq_true rfl, rfl⟩ (Nat.le_of_ble_eq_true rfl) (Nat.le_of_ble_eq_true rfl) (q_aload_n c_152_0 rfl ?_)
            have kn_1287 : Hid (c_1276 41 5 = (-1)) := (hF_1278 41 5 (fun h => absurd h.2 (ni rfl))).trans (hc_1)
            have kn_1288 : Hid (c_1283 41 5 = (-1)) := (hF_1285 41 5 (fun h => absurd h.2 (ni rfl))).trans (hid kn_1287)
            refine v_gi (z := 5) (v := (-1)) c_152_1 kf_8_102 rfl (Nat.le_of_ble_eq_true rfl) rfl rfl (hid kn_1288) (q_iconst c_152_4 (v_ic_ne_f (t := 12) c_152_5 rfl (by decide) (q_iconst c_152_8 (q_goto (t := 13) c_152_9 rfl (v_zret c_152_13 rfl (by decide) (bk_inl (v_if_ne_t (t := 115) c_169_109 rfl (by decide) ?_)))))))
            refine q_aload_n c_169_115 rfl ?_
            have kn_1289 : Hid (c_1283 41 3 = e1) := (hF_1285 41 3 (fun h => absurd h.2 (ni rfl))).trans (hid kn_1280)
            refine v_cv c_169_116 km_8_223 rfl rfl (Nat.le_of_ble_eq_true rfl) ⟨⟨rfl, rfl⟩, Nat.le_of_ble_eq_true rfl, rfl⟩ (Nat.le_of_ble_eq_true rfl) (Nat.le_of_ble_eq_true rfl) (f_159 (e1 := e1) (a9 := (nx F e1 a)) (B := H) (L8 := (ln F e1 (nx F e1 a))) hI_1284 ((hid kn_1289)) ((hz_1286)) (fun j => ((hF_1285 43 j (fun h => absurd h.1 (nn rfl))).trans ((hF_1278 43 j (fun h => absurd h.1 (nn rfl))).trans (hFc 43 j qn_8f9b78528))).trans (hH j)) ((ln_tr hU (by first | exact q_a7eda21a5 h_24 ha | omega) ((rg_eq hg_e1 h_1).2)).trans (rfl)) (fun c_1290 hI_1291 hF_1292 hz_1293 => (bk_inl (q_aload_n c_169_119 rfl (q_iload_n c_169_120 rfl ?_)))))
            have hw_1294 : (wv F (nx F e1 a) (ln F e1 (nx F e1 a))) = 153204 := by omega
            rw [hw_1294]
            have kn_1295 : Hid (c_103 1 1 = e1) := (hF_105 1 1 qn_b782e6d88).trans (hid kn_82)
            have kn_1296 : Hid (c_1290 41 3 = e1) := (hF_1292 41 3 (fun h => absurd h.2 (ni rfl))).trans (hid kn_1289)
            have kn_1297 : Hid (c_1276 41 16 = jr) := (hF_1278 41 16 (fun h => absurd h.2 (ni rfl))).trans (hr_jr)
            have kn_1298 : Hid (c_1283 41 16 = jr) := (hF_1285 41 16 (fun h => absurd h.2 (ni rfl))).trans (hid kn_1297)
            have kn_1299 : Hid (c_1290 41 16 = jr) := (hF_1292 41 16 (fun h => absurd h.2 (ni rfl))).trans (hid kn_1298)
            have kn_1300 : Hid (c_1276 41 17 = st) := (hF_1278 41 17 (fun h => absurd h.2 (ni rfl))).trans (hr_st)
            have kn_1301 : Hid (c_1283 41 17 = st) := (hF_1285 41 17 (fun h => absurd h.2 (ni rfl))).trans (hid kn_1300)
            have kn_1302 : Hid (c_1290 41 17 = st) := (hF_1292 41 17 (fun h => absurd h.2 (ni rfl))).trans (hid kn_1301)
            have kn_1303 : Hid (c_1276 41 18 = si) := (hF_1278 41 18 (fun h => absurd h.2 (ni rfl))).trans (hr_si)
            have kn_1304 : Hid (c_1283 41 18 = si) := (hF_1285 41 18 (fun h => absurd h.2 (ni rfl))).trans (hid kn_1303)
            have kn_1305 : Hid (c_1290 41 18 = si) := (hF_1292 41 18 (fun h => absurd h.2 (ni rfl))).trans (hid kn_1304)
            have kn_1306 : Hid (c_27 A 3 = du) := (hF_29 A 3 (fun h => absurd h.1 (np0 hA rfl))).trans (hg_du)
            have kn_1307 : Hid (c_78 A 3 = du) := (hF_80 A 3 (fun h => absurd h.1 (np0 hA rfl))).trans (hid kn_1306)
            have kn_1308 : Hid (c_103 A 3 = du) := (hF_105 A 3 (qn_014d425e1 hA)).trans (hid kn_1307)
            have kn_1309 : Hid (c_1276 41 19 = du) := (hF_1278 41 19 (fun h => absurd h.2 (ni rfl))).trans (hr_du)
            have kn_1310 : Hid (c_1283 41 19 = du) := (hF_1285 41 19 (fun h => absurd h.2 (ni rfl))).trans (hid kn_1309)
            have kn_1311 : Hid (c_1290 41 19 = du) := (hF_1292 41 19 (fun h => absurd h.2 (ni rfl))).trans (hid kn_1310)
            have h_1312 : c_103 1 4 = 0 := (hz_109)
            have h_1313 : c_103 1 2 = (ln F e1 (nx F e1 a)) := (hz_108)
            have h_1314 : c_103 1 5 = (-1) := (hz_110)
            have kn_1315 : Hid (c_1290 41 5 = (-1)) := (hF_1292 41 5 (fun h => absurd h.2 (ni rfl))).trans (hid kn_1288)
            have h_1316 : c_1290 41 5 = (-1) := (hid kn_1315)
            have h_1317 : c_1290 41 4 = (ln F e1 (nx F e1 a)) := (hz_1293)
            have h_1318 := ir_41_6 hI2
            have kn_1319 : Hid (c_1276 41 6 = c2 41 6) := hF_1278 41 6 (fun h => absurd h.2 (ni rfl))
            have kn_1320 : Hid (c_1283 41 6 = c2 41 6) := (hF_1285 41 6 (fun h => absurd h.2 (ni rfl))).trans (hid kn_1319)
            have kn_1321 : Hid (c_1290 41 6 = c2 41 6) := (hF_1292 41 6 (fun h => absurd h.2 (ni rfl))).trans (hid kn_1320)
            have h_1322 : c_1290 41 6 = c2 41 6 := (hid kn_1321)
            refine v_cv c_169_121 km_8_226 rfl rfl (Nat.le_of_ble_eq_true rfl) ⟨⟨rfl, rfl⟩, Nat.le_of_ble_eq_true rfl, rfl⟩ (Nat.le_of_ble_eq_true rfl) (Nat.le_of_ble_eq_true rfl) (L_33_3 (m := c_103) (e1 := e1) (jr := jr) (st := st) (si := si) (du := du) (F := F) (H := H) hI_1291 hI_104 hI_1260 hA ((hid kn_1295)) ((hid kn_1296)) ((hid kn_1249)) ((hid kn_1299)) ((hid kn_1253)) ((hid kn_1302)) ((hid kn_1257)) ((hid kn_1305)) ((hid kn_1308)) ((hid kn_1311)) (fun j => ((hF_105 2 j qn_e2b123f84).trans ((hF_80 2 j (fun h => absurd h.1 (nn rfl))).trans ((hF_29 2 j (fun h => absurd h.1 (nn rfl))).trans (hFm 2 j (qn_64622c99c hA))))).trans (hF j)) (fun j => ((hF_1292 43 j (fun h => absurd h.1 (nn rfl))).trans ((hF_1285 43 j (fun h => absurd h.1 (nn rfl))).trans ((hF_1278 43 j (fun h => absurd h.1 (nn rfl))).trans (hFc 43 j qn_8f9b78528)))).trans (hH j)) hU (rt_i1 ⟨by first | assumption | omega, by first | assumption | omega, by first | assumption | omega, by first | assumption | omega⟩) hG_1262 (fun c_1323 hI_1324 hF_1325 hR_1327 h_1328 h_1329 h_1330 h_1331 => (bk_inl ?_)))
            have h_1332 := ir_41_16 hI_1324
            have h_1333 := ir_p0_0 hI_1260 hA
            have h_1334 := ir_41_17 hI_1324
            have h_1335 := ir_p0_1 hI_1260 hA
            have h_1336 := ir_41_18 hI_1324
            have h_1337 := ir_p0_2 hI_1260 hA
            have h_1338 := ir_41_19 hI_1324
            have h_1339 := ir_p0_3 hI_1260 hA
            refine q_aload_n c_169_124 rfl (v_bip c_169_125 (by decide) ?_)
            have kn_1340 : Hid (c_1259 1 1 = e1) := (hF_1261 1 1 (qn_68bac1c70 hA)).trans (hid kn_1295)
            have kn_1341 : Hid (c_1323 41 3 = e1) := (hF_1325 41 3 qn_b860ee9cc).trans (hid kn_1296)
            have h_1342 := ir_1_2 hI_1260
            refine v_cv c_169_127 km_8_229 rfl rfl (Nat.le_of_ble_eq_true rfl) ⟨⟨rfl, rfl⟩, Nat.le_of_ble_eq_true rfl, rfl⟩ (Nat.le_of_ble_eq_true rfl) (Nat.le_of_ble_eq_true rfl) (L_11_9 (m := c_1259) (e1 := e1) (a9 := c_1259 1 2) (f0 := c_1259 1 4) (F := F) (H := H) hI_1324 hI_1260 hI_1265 ((hid kn_1340)) ((hid kn_1341)) (rfl) (rfl) (fun j => ((hF_1261 2 j (qn_2292ef66f hA)).trans ((hF_105 2 j qn_e2b123f84).trans ((hF_80 2 j (fun h => absurd h.1 (nn rfl))).trans ((hF_29 2 j (fun h => absurd h.1 (nn rfl))).trans (hFm 2 j (qn_64622c99c hA)))))).trans (hF j)) (fun j => ((hF_1325 43 j qn_8f9b78528).trans ((hF_1292 43 j (fun h => absurd h.1 (nn rfl))).trans ((hF_1285 43 j (fun h => absurd h.1 (nn rfl))).trans ((hF_1278 43 j (fun h => absurd h.1 (nn rfl))).trans (hFc 43 j qn_8f9b78528))))).trans (hH j)) hU hR_1327 hG_1267 (fun c_1343 hI_1344 hF_1345 hR_1347 h_1348 h_1349 => (bk_inl ?_)))
            have h_1350 := ir_1_2 hI_1265
            refine v_iinc (v := v + 1) c_169_130 rfl (Nat.le_of_ble_eq_true rfl) rfl (q_goto (t := 44) c_169_133 rfl (Wp_ls [(0, .ref 41), (1, vi a1), (2, vi (v + 1))] (lsub_cons rfl (lsub_cons rfl (lsub_cons rfl lsub_nil))) ?_))
            have h_1351 := ir_41_4 hI_1344
            have h_1352 := ir_1_5 hI_1265
            have h_1353 := ir_41_5 hI_1344
            have h_1354 := ir_41_6 hI_1344
            have h_1355 := rt_ok hR_1347 (by first | exact q_f6b658f58 h_1268 h_1269 | omega)
            have hro_hR_1347 := rt_ok hR_1347 (by first | exact q_f6b658f58 h_1268 h_1269 | omega)
            have kn_1356 : Hid (c_1264 A 0 = c_1259 A 0) := hF_1266 A 0 (qn_014d425e1 hA)
            have kn_1357 : Hid (c_1343 41 16 = c_1323 41 16) := hF_1345 41 16 qn_e8809db5e
            have kn_1358 : Hid (c_1264 A 1 = c_1259 A 1) := hF_1266 A 1 (qn_014d425e1 hA)
            have kn_1359 : Hid (c_1343 41 17 = c_1323 41 17) := hF_1345 41 17 qn_a870196d2
            have kn_1360 : Hid (c_1264 A 2 = c_1259 A 2) := hF_1266 A 2 (qn_014d425e1 hA)
            have kn_1361 : Hid (c_1343 41 18 = c_1323 41 18) := hF_1345 41 18 qn_d8f940cfc
            have kn_1362 : Hid (c_1264 A 3 = c_1259 A 3) := hF_1266 A 3 (qn_014d425e1 hA)
            have kn_1363 : Hid (c_1343 41 19 = c_1323 41 19) := hF_1345 41 19 qn_f6eda7af3
            exact ih c_1343 c_1264 (v + 1) (c_1264 1 2) (c_1259 A 0) (c_1259 A 1) (c_1259 A 2) (c_1259 A 3) hI_1344 (fun a j hm => (hF_1345 a j (qv_e105a9b19 hm)).trans ((hF_1325 a j hm).trans ((hF_1292 a j (fun h => hm (Or.inl h))).trans ((hF_1285 a j (fun h => hm (Or.inl h))).trans ((hF_1278 a j (fun h => hm (Or.inl h))).trans (hFc a j hm)))))) hI_1265 (fun a j hm => (hF_1266 a j (qv_69188b0c2 hm)).trans ((hF_1261 a j (qv_967ad9091 hm)).trans ((hF_105 a j (qv_69188b0c2 hm)).trans ((hF_80 a j (fun h => hm (Or.inl h))).trans ((hF_29 a j (fun h => hm (Or.inl h))).trans (hFm a j hm)))))) ⟨by first | exact rgp_l hv.1 (by decide) | omega, by first | exact q_a69d2ea54 h_236 hv | omega⟩ h_1350 h_1333 h_1335 h_1337 h_1339 (rfl) (hro_hR_1347.2.2.1) ((hid kn_1356)) ((show _ = c_1323 41 16 from (hid kn_1357)).trans (by first | assumption | exact Int.le_antisymm (by first | exact q_f91efb75c h_1328 | omega) (by first | exact q_f85ce3c92 h_1328 | omega))) ((hid kn_1358)) ((show _ = c_1323 41 17 from (hid kn_1359)).trans (by first | assumption | exact Int.le_antisymm (by first | exact q_f91efb75c h_1329 | omega) (by first | exact q_f85ce3c92 h_1329 | omega))) ((hid kn_1360)) ((show _ = c_1323 41 18 from (hid kn_1361)).trans (by first | assumption | exact Int.le_antisymm (by first | exact q_f91efb75c h_1330 | omega) (by first | exact q_f85ce3c92 h_1330 | omega))) ((hid kn_1362)) ((show _ = c_1323 41 19 from (hid kn_1363)).trans (by first | assumption | exact Int.le_antisymm (by first | exact q_f91efb75c h_1331 | omega) (by first | exact q_f85ce3c92 h_1331 | omega))) ((show _ = c_1264 1 4 from rfl).trans (by first | assumption | exact Int.le_antisymm (by first | exact q_d1e538aa4 h_1269 | omega) (by first | exact q_eb3a7ad7a h_1268 | omega))) (hro_hR_1347.2.1) ((show _ = c_1264 1 5 from rfl).trans (by first | assumption | exact Int.le_antisymm (by first | exact q_10f95419d h_1355 | omega) (by first | exact q_3d8b3e7e9 h_1352 | omega))) hG_1270 (by omega)
          · skip
            refine q_iload_n c_34_6 rfl (v_bip c_34_7 (by decide) (v_ic_gt_f (t := 85) c_34_9 rfl ⟨by first | exact rgp_l hv.1 (by decide) | omega, by first | exact q_a69d2ea54 h_236 hv | omega, by decide⟩ (q_aload_n c_34_12 rfl (v_cv c_34_13 km_2_44 rfl rfl (Nat.le_of_ble_eq_true rfl) ⟨⟨rfl, rfl⟩, Nat.le_of_ble_eq_true rfl, rfl⟩ (Nat.le_of_ble_eq_true rfl) (Nat.le_of_ble_eq_true rfl) (q_aload_n c_15_0 rfl (v_cv c_15_1 km_5_45 rfl rfl (Nat.le_of_ble_eq_true rfl) ⟨⟨rfl, rfl⟩, Nat.le_of_ble_eq_true rfl, rfl⟩ (Nat.le_of_ble_eq_true rfl) (Nat.le_of_ble_eq_true rfl) (q_aload_n c_2_0 rfl ?_)))))))
            refine v_gi (z := 4) (v := c_1264 1 4) c_2_1 kf_5_38 rfl (Nat.le_of_ble_eq_true rfl) rfl rfl rfl (v_if_ne_t (t := 11) c_2_4 rfl ⟨by first | exact q_106d90f3b h_1268 h_1269 | omega, ⟨(Int.le_trans (by decide) h_1268.1), (Int.le_trans h_1268.2 (by decide))⟩, by decide, by decide⟩ (q_iconst c_2_11 (v_zret c_2_12 rfl (by decide) (bk_inl (v_if_eq_t (t := 22) c_15_4 rfl (by decide) (q_iconst c_15_22 (v_zret c_15_23 rfl (by decide) ?_)))))))
            refine bk_inl (v_if_eq_t (t := 85) c_34_16 rfl (by decide) (q_vret rfl rfl ?_))
            intro hE_1364
            have hW : Wd P Q P P c_1264 = Wd P Q P P m9 := (Prod.mk.inj (Prod.mk.inj hE_1364).2).1
            have h_1365 := ir_1_4 hJ9
            have h_1366 : m9 1 4 = c_1264 1 4 := wd_fv (z := 4) 4 rfl hW rfl rfl rfl rfl (by decide) rfl ⟨(Int.le_trans (by decide) h_1268.1), (Int.le_trans h_1268.2 (by decide))⟩ ⟨(Int.le_trans (by decide) h_1365.1), (Int.le_trans h_1365.2 (by decide))⟩
            have h_1367 := ir_1_2 hI_1265
            have h_1368 := ir_1_2 hJ9
            have h_1369 : m9 1 2 = c_1264 1 2 := wd_fv (z := 2) 2 rfl hW rfl rfl rfl rfl (by decide) rfl ⟨(Int.le_trans (by decide) h_1367.1), (Int.le_trans h_1367.2 (by decide))⟩ ⟨(Int.le_trans (by decide) h_1368.1), (Int.le_trans h_1368.2 (by decide))⟩
            have h_1370 := ir_1_5 hI_1265
            have h_1371 := ir_1_5 hJ9
            have h_1372 : m9 1 5 = c_1264 1 5 := wd_fv (z := 5) 5 rfl hW rfl rfl rfl rfl (by decide) rfl ⟨(Int.le_trans (by decide) h_1370.1), (Int.le_trans h_1370.2 (by decide))⟩ ⟨(Int.le_trans (by decide) h_1371.1), (Int.le_trans h_1371.2 (by decide))⟩
            have h_1373 := ir_p0_0 hI_1260 hA
            have kn_1374 : Hid (c_1264 A 0 = c_1259 A 0) := hF_1266 A 0 (qn_014d425e1 hA)
            have h_1375 := ir_p0_0 hJ9 hA
            have h_1376 : m9 A 0 = c_1259 A 0 := wd_fv (z := 0) 0 rfl hW (ck_p0 hA) (ck_p0 hA) rfl rfl (a68z hA) (hid kn_1374) ⟨by first | exact q_730ab5169 h_1373 | omega, by first | exact q_b289b7db2 h_1373 | omega⟩ ⟨(Int.le_trans (by decide) h_1375.1), (Int.le_trans h_1375.2 (by decide))⟩
            have h_1377 := ir_p0_1 hI_1260 hA
            have kn_1378 : Hid (c_1264 A 1 = c_1259 A 1) := hF_1266 A 1 (qn_014d425e1 hA)
            have h_1379 := ir_p0_1 hJ9 hA
            have h_1380 : m9 A 1 = c_1259 A 1 := wd_fv (z := 1) 1 rfl hW (ck_p0 hA) (ck_p0 hA) rfl rfl (a68z hA) (hid kn_1378) ⟨by first | exact q_0bfe68f8e h_1377 | omega, by first | exact q_82d4f69ff h_1377 | omega⟩ ⟨(Int.le_trans (by decide) h_1379.1), (Int.le_trans h_1379.2 (by decide))⟩
            have h_1381 := ir_p0_2 hI_1260 hA
            have kn_1382 : Hid (c_1264 A 2 = c_1259 A 2) := hF_1266 A 2 (qn_014d425e1 hA)
            have h_1383 := ir_p0_2 hJ9 hA
            have h_1384 : m9 A 2 = c_1259 A 2 := wd_fv (z := 2) 2 rfl hW (ck_p0 hA) (ck_p0 hA) rfl rfl (a68z hA) (hid kn_1382) ⟨by first | exact q_0bfe68f8e h_1381 | omega, by first | exact q_82d4f69ff h_1381 | omega⟩ ⟨(Int.le_trans (by decide) h_1383.1), (Int.le_trans h_1383.2 (by decide))⟩
            have h_1385 := ir_p0_3 hI_1260 hA
            have kn_1386 : Hid (c_1264 A 3 = c_1259 A 3) := hF_1266 A 3 (qn_014d425e1 hA)
            have h_1387 := ir_p0_3 hJ9 hA
            have h_1388 : m9 A 3 = c_1259 A 3 := wd_fv (z := 3) 3 rfl hW (ck_p0 hA) (ck_p0 hA) rfl rfl (a68z hA) (hid kn_1386) ⟨by first | exact q_fe18d6d95 h_1385 | omega, by first | exact q_5d4e5294a h_1385 | omega⟩ ⟨(Int.le_trans (by decide) h_1387.1), (Int.le_trans h_1387.2 (by decide))⟩
            refine q_aload_n c_169_44 rfl (v_cv c_169_45 km_8_131 rfl rfl (Nat.le_of_ble_eq_true rfl) ⟨⟨rfl, rfl⟩, Nat.le_of_ble_eq_true rfl, rfl⟩ (Nat.le_of_ble_eq_true rfl) (Nat.le_of_ble_eq_true rfl) (q_aload_n c_152_0 rfl (v_gi (z := 5) (v := (-1)) c_152_1 kf_8_102 rfl (Nat.le_of_ble_eq_true rfl) rfl rfl (hc_1) (q_iconst c_152_4 (v_ic_ne_f (t := 12) c_152_5 rfl (by decide) (q_iconst c_152_8 (q_goto (t := 13) c_152_9 rfl ?_)))))))
            refine v_zret c_152_13 rfl (by decide) (bk_inl (v_if_eq_f (t := 136) c_169_48 rfl (by decide) (q_aload_n c_169_51 rfl (v_cv c_169_52 km_8_211 rfl rfl (Nat.le_of_ble_eq_true rfl) ⟨⟨rfl, rfl⟩, Nat.le_of_ble_eq_true rfl, rfl⟩ (Nat.le_of_ble_eq_true rfl) (Nat.le_of_ble_eq_true rfl) (q_aload_n c_162_0 rfl ?_)))))
            have kn_1389 : Hid (c2 41 3 = e1) := (hFc 41 3 qn_b860ee9cc).trans (hr_e1)
            have h_1390 : -2147483648 ≤ (H (nx F e1 a)) ∧ (H (nx F e1 a)) ≤ 2147483647 := by rw [← hH (nx F e1 a)]; exact ir_43 hI (nx F e1 a)
            have h_1391 := hU (nx F e1 a) (by first | exact q_a7eda21a5 h_24 ha | omega) (by first | exact q_6c5402073 h_1 h_32 hg_e1 | omega)
            have h_1392 := hb_or (b := H) (e := e1) (r := (nx F e1 a))
            have h_1393 := hb_bd (b := H) (e := e1) (r := (nx F e1 a)) (lo := -2147483648) (hi := 2147483647) h_1390 (by decide)
            refine v_cv c_162_1 km_8_114 rfl rfl (Nat.le_of_ble_eq_true rfl) ⟨⟨rfl, rfl⟩, Nat.le_of_ble_eq_true rfl, rfl⟩ (Nat.le_of_ble_eq_true rfl) (Nat.le_of_ble_eq_true rfl) (f_154 (e1 := e1) (a9 := a) (B := H) (r8 := (nx F e1 a)) (r := (hb H e1 (nx F e1 a))) hI2 ((hid kn_1389)) ((hr_a)) (fun j => (hFc 43 j qn_8f9b78528).trans (hH j)) ((nx_tr hU (ha.1) ((rg_eq hg_e1 h_1).2)).trans (rfl)) rfl (fun c_1394 hI_1395 hF_1396 h_1397 => (bk_inl (q_pop c_162_4 rfl (q_aload_n c_162_5 rfl (v_gi (z := 4) (v := (nx F e1 a)) c_162_6 kf_8_108 rfl (Nat.le_of_ble_eq_true rfl) rfl rfl (h_1397) (q_aload_n c_162_9 rfl ?_)))))))
            have kn_1398 : Hid (c_1394 41 3 = e1) := (hF_1396 41 3 (fun h => absurd h.2 (ni rfl))).trans (hid kn_1389)
            refine v_gi (z := 3) (v := e1) c_162_10 kf_8_111 rfl (Nat.le_of_ble_eq_true rfl) rfl rfl (hid kn_1398) (v_ic_ge_f (t := 20) c_162_13 rfl ⟨by first | exact q_378c2316e h_24 ha | omega, by first | exact q_d17d18138 h_32 | omega, (Int.le_trans (rg_eq hg_e1 h_1).2 (by decide))⟩ (q_iconst c_162_16 (q_goto (t := 21) c_162_17 rfl (v_zret c_162_21 rfl (by decide) (bk_inl (v_if_eq_f (t := 136) c_169_55 rfl (by decide) (q_aload_n c_169_58 rfl ?_)))))))
            have h_1399 := wv_bd (b := F) (r := (nx F e1 a)) (l := (ln F e1 (nx F e1 a))) (fun j h1 h2 => ⟨(ln_in (e := e1) (a := (nx F e1 a)) h1 h2).1, (ln_in (e := e1) (a := (nx F e1 a)) h1 h2).2.1⟩)
            have h_1400 := wr8_3 (b := F) (r := (nx F e1 a)) (l := (ln F e1 (nx F e1 a))) (by first | exact q_18f17732a h_87 | omega) (fun j h1 h2 => ⟨(ln_in (e := e1) (a := (nx F e1 a)) h1 h2).1, (ln_in (e := e1) (a := (nx F e1 a)) h1 h2).2.1⟩) (by first | exact q_ade4332b2 h_107 h_361 h_656 h_951 | omega)
            refine v_cv c_169_59 km_8_214 rfl rfl (Nat.le_of_ble_eq_true rfl) ⟨⟨rfl, rfl⟩, Nat.le_of_ble_eq_true rfl, rfl⟩ (Nat.le_of_ble_eq_true rfl) (Nat.le_of_ble_eq_true rfl) (f_157 (e1 := e1) (a9 := (nx F e1 a)) (B := H) (r8 := (nx F e1 a)) (L8 := (ln F e1 (nx F e1 a))) (W8 := (wv F (nx F e1 a) (ln F e1 (nx F e1 a)))) hI_1395 ((hid kn_1398)) ((h_1397)) (fun j => ((hF_1396 43 j (fun h => absurd h.1 (nn rfl))).trans (hFc 43 j qn_8f9b78528)).trans (hH j)) ((nx_tr hU (by first | exact q_a7eda21a5 h_24 ha | omega) ((rg_eq hg_e1 h_1).2)).trans ((nx_z (Or.inr (by first | exact q_b1e7f72d7 h_26 h_32 | omega))))) ((ln_tr hU (by first | exact q_a7eda21a5 h_24 ha | omega) ((rg_eq hg_e1 h_1).2)).trans (rfl)) ((wv_tr hU (by first | exact q_a7eda21a5 h_24 ha | omega) (by first | exact q_296ae6bb2 h_1 h_87 hg_e1 | omega) (fun j h1 h2 => ⟨(ln_in (e := e1) (a := (nx F e1 a)) h1 h2).1, (ln_in (e := e1) (a := (nx F e1 a)) h1 h2).2.1⟩)).trans (rfl)) (fun c_1401 hI_1402 hF_1403 hz_1404 => (bk_inl (q_istore_n c_169_62 (Nat.le_of_ble_eq_true rfl) (q_iload_n c_169_63 rfl (q_call c_169_64 rfl rfl rfl (q_iload_n c_166_0 rfl (q_ldc_s c_166_1 rfl rfl (by decide) (q_call c_166_3 rfl rfl rfl (s_158_16 ?_))))))))))
            refine bk_inl (v_ic_eq_f (t := 36) c_166_6 rfl ⟨by first | exact q_73f908bd4 h_1400 | omega, ⟨(Int.le_trans (by decide) h_1399.1), (Int.le_trans h_1399.2 (by decide))⟩, by decide, by decide⟩ (q_iload_n c_166_9 rfl (q_ldc_s c_166_10 rfl rfl (by decide) (q_call c_166_12 rfl rfl rfl (s_158_17 (bk_inl (v_ic_eq_f (t := 36) c_166_15 rfl ⟨by first | exact q_c2c9e75ac h_1400 | omega, ⟨(Int.le_trans (by decide) h_1399.1), (Int.le_trans h_1399.2 (by decide))⟩, by decide, by decide⟩ (q_iload_n c_166_18 rfl ?_))))))))
            refine q_ldc_s c_166_19 rfl rfl (by decide) (q_call c_166_21 rfl rfl rfl (s_158_18 (bk_inl (v_ic_eq_f (t := 36) c_166_24 rfl ⟨by first | exact q_0a861b656 h_1400 | omega, ⟨(Int.le_trans (by decide) h_1399.1), (Int.le_trans h_1399.2 (by decide))⟩, by decide, by decide⟩ (q_iload_n c_166_27 rfl (q_ldc_s c_166_28 rfl rfl (by decide) (q_call c_166_30 rfl rfl rfl (s_158_19 (bk_inl ?_)))))))))
            refine v_ic_ne_f (t := 40) c_166_33 rfl (by first | exact q_02c8ae61a h_1400 | omega) (q_iconst c_166_36 (q_goto (t := 41) c_166_37 rfl (v_zret c_166_41 rfl (by decide) (bk_inl (v_if_ne_t (t := 82) c_169_67 rfl (by decide) (q_iload_n c_169_82 rfl (v_bip c_169_83 (by decide) ?_)))))))
            refine v_ic_eq_f (t := 96) c_169_85 rfl ⟨by first | exact q_ed39b118e h_236 hv | omega, ⟨(Int.le_trans (by decide) hv.1), (Int.le_trans hv.2 (by decide))⟩, by decide, by decide⟩ (q_aload_n c_169_88 rfl (q_iload_n c_169_89 rfl (v_cv c_169_90 km_8_220 rfl rfl (Nat.le_of_ble_eq_true rfl) ⟨⟨rfl, rfl⟩, Nat.le_of_ble_eq_true rfl, rfl⟩ (Nat.le_of_ble_eq_true rfl) (Nat.le_of_ble_eq_true rfl) (q_iload_n c_167_0 rfl (q_ldc_s c_167_1 rfl rfl (by decide) (q_call c_167_3 rfl rfl rfl (s_158_16 (bk_inl ?_))))))))
            refine v_ic_ne_t (t := 26) c_167_6 rfl ⟨by first | exact q_73f908bd4 h_1400 | omega, ⟨(Int.le_trans (by decide) h_1399.1), (Int.le_trans h_1399.2 (by decide))⟩, by decide, by decide⟩ (q_iload_n c_167_26 rfl (q_ldc_s c_167_27 rfl rfl (by decide) (q_call c_167_29 rfl rfl rfl (s_158_17 (bk_inl (v_ic_ne_t (t := 51) c_167_32 rfl ⟨by first | exact q_c2c9e75ac h_1400 | omega, ⟨(Int.le_trans (by decide) h_1399.1), (Int.le_trans h_1399.2 (by decide))⟩, by decide, by decide⟩ (q_iload_n c_167_51 rfl (q_ldc_s c_167_52 rfl rfl (by decide) ?_))))))))
            refine q_call c_167_54 rfl rfl rfl (s_158_18 (bk_inl (v_ic_ne_t (t := 72) c_167_57 rfl ⟨by first | exact q_0a861b656 h_1400 | omega, ⟨(Int.le_trans (by decide) h_1399.1), (Int.le_trans h_1399.2 (by decide))⟩, by decide, by decide⟩ (q_iconst c_167_72 (v_zret c_167_73 rfl (by decide) (bk_inl (v_if_eq_t (t := 105) c_169_93 rfl (by decide) (q_aload_n c_169_105 rfl ?_))))))))
            refine v_cv c_169_106 km_8_131 rfl rfl (Nat.le_of_ble_eq_true rfl) ⟨⟨rfl, rfl⟩, Nat.le_of_ble_eq_true rfl, rfl⟩ (Nat.le_of_ble_eq_true rfl) (Nat.le_of_ble_eq_true rfl) (q_aload_n c_152_0 rfl ?_)
            have kn_1405 : Hid (c_1394 41 5 = (-1)) := (hF_1396 41 5 (fun h => absurd h.2 (ni rfl))).trans (hc_1)
            have kn_1406 : Hid (c_1401 41 5 = (-1)) := (hF_1403 41 5 (fun h => absurd h.2 (ni rfl))).trans (hid kn_1405)
            refine v_gi (z := 5) (v := (-1)) c_152_1 kf_8_102 rfl (Nat.le_of_ble_eq_true rfl) rfl rfl (hid kn_1406) (q_iconst c_152_4 (v_ic_ne_f (t := 12) c_152_5 rfl (by decide) (q_iconst c_152_8 (q_goto (t := 13) c_152_9 rfl (v_zret c_152_13 rfl (by decide) (bk_inl (v_if_ne_t (t := 115) c_169_109 rfl (by decide) ?_)))))))
            refine q_aload_n c_169_115 rfl ?_
            have kn_1407 : Hid (c_1401 41 3 = e1) := (hF_1403 41 3 (fun h => absurd h.2 (ni rfl))).trans (hid kn_1398)
            refine v_cv c_169_116 km_8_223 rfl rfl (Nat.le_of_ble_eq_true rfl) ⟨⟨rfl, rfl⟩, Nat.le_of_ble_eq_true rfl, rfl⟩ (Nat.le_of_ble_eq_true rfl) (Nat.le_of_ble_eq_true rfl) (f_159 (e1 := e1) (a9 := (nx F e1 a)) (B := H) (L8 := (ln F e1 (nx F e1 a))) hI_1402 ((hid kn_1407)) ((hz_1404)) (fun j => ((hF_1403 43 j (fun h => absurd h.1 (nn rfl))).trans ((hF_1396 43 j (fun h => absurd h.1 (nn rfl))).trans (hFc 43 j qn_8f9b78528))).trans (hH j)) ((ln_tr hU (by first | exact q_a7eda21a5 h_24 ha | omega) ((rg_eq hg_e1 h_1).2)).trans (rfl)) (fun c_1408 hI_1409 hF_1410 hz_1411 => (bk_inl (q_aload_n c_169_119 rfl (q_iload_n c_169_120 rfl ?_)))))
            have hw_1412 : (wv F (nx F e1 a) (ln F e1 (nx F e1 a))) = 153204 := by omega
            rw [hw_1412]
            have kn_1413 : Hid (c_103 1 1 = e1) := (hF_105 1 1 qn_b782e6d88).trans (hid kn_82)
            have kn_1414 : Hid (c_1408 41 3 = e1) := (hF_1410 41 3 (fun h => absurd h.2 (ni rfl))).trans (hid kn_1407)
            have kn_1415 : Hid (c_1394 41 16 = jr) := (hF_1396 41 16 (fun h => absurd h.2 (ni rfl))).trans (hr_jr)
            have kn_1416 : Hid (c_1401 41 16 = jr) := (hF_1403 41 16 (fun h => absurd h.2 (ni rfl))).trans (hid kn_1415)
            have kn_1417 : Hid (c_1408 41 16 = jr) := (hF_1410 41 16 (fun h => absurd h.2 (ni rfl))).trans (hid kn_1416)
            have kn_1418 : Hid (c_1394 41 17 = st) := (hF_1396 41 17 (fun h => absurd h.2 (ni rfl))).trans (hr_st)
            have kn_1419 : Hid (c_1401 41 17 = st) := (hF_1403 41 17 (fun h => absurd h.2 (ni rfl))).trans (hid kn_1418)
            have kn_1420 : Hid (c_1408 41 17 = st) := (hF_1410 41 17 (fun h => absurd h.2 (ni rfl))).trans (hid kn_1419)
            have kn_1421 : Hid (c_1394 41 18 = si) := (hF_1396 41 18 (fun h => absurd h.2 (ni rfl))).trans (hr_si)
            have kn_1422 : Hid (c_1401 41 18 = si) := (hF_1403 41 18 (fun h => absurd h.2 (ni rfl))).trans (hid kn_1421)
            have kn_1423 : Hid (c_1408 41 18 = si) := (hF_1410 41 18 (fun h => absurd h.2 (ni rfl))).trans (hid kn_1422)
            have kn_1424 : Hid (c_27 A 3 = du) := (hF_29 A 3 (fun h => absurd h.1 (np0 hA rfl))).trans (hg_du)
            have kn_1425 : Hid (c_78 A 3 = du) := (hF_80 A 3 (fun h => absurd h.1 (np0 hA rfl))).trans (hid kn_1424)
            have kn_1426 : Hid (c_103 A 3 = du) := (hF_105 A 3 (qn_014d425e1 hA)).trans (hid kn_1425)
            have kn_1427 : Hid (c_1394 41 19 = du) := (hF_1396 41 19 (fun h => absurd h.2 (ni rfl))).trans (hr_du)
            have kn_1428 : Hid (c_1401 41 19 = du) := (hF_1403 41 19 (fun h => absurd h.2 (ni rfl))).trans (hid kn_1427)
            have kn_1429 : Hid (c_1408 41 19 = du) := (hF_1410 41 19 (fun h => absurd h.2 (ni rfl))).trans (hid kn_1428)
            have h_1430 : c_103 1 4 = 0 := (hz_109)
            have h_1431 : c_103 1 2 = (ln F e1 (nx F e1 a)) := (hz_108)
            have h_1432 : c_103 1 5 = (-1) := (hz_110)
            have kn_1433 : Hid (c_1408 41 5 = (-1)) := (hF_1410 41 5 (fun h => absurd h.2 (ni rfl))).trans (hid kn_1406)
            have h_1434 : c_1408 41 5 = (-1) := (hid kn_1433)
            have h_1435 : c_1408 41 4 = (ln F e1 (nx F e1 a)) := (hz_1411)
            have h_1436 := ir_41_6 hI2
            have kn_1437 : Hid (c_1394 41 6 = c2 41 6) := hF_1396 41 6 (fun h => absurd h.2 (ni rfl))
            have kn_1438 : Hid (c_1401 41 6 = c2 41 6) := (hF_1403 41 6 (fun h => absurd h.2 (ni rfl))).trans (hid kn_1437)
            have kn_1439 : Hid (c_1408 41 6 = c2 41 6) := (hF_1410 41 6 (fun h => absurd h.2 (ni rfl))).trans (hid kn_1438)
            have h_1440 : c_1408 41 6 = c2 41 6 := (hid kn_1439)
            refine v_cv c_169_121 km_8_226 rfl rfl (Nat.le_of_ble_eq_true rfl) ⟨⟨rfl, rfl⟩, Nat.le_of_ble_eq_true rfl, rfl⟩ (Nat.le_of_ble_eq_true rfl) (Nat.le_of_ble_eq_true rfl) (L_33_3 (m := c_103) (e1 := e1) (jr := jr) (st := st) (si := si) (du := du) (F := F) (H := H) hI_1409 hI_104 hI_1260 hA ((hid kn_1413)) ((hid kn_1414)) ((hid kn_1249)) ((hid kn_1417)) ((hid kn_1253)) ((hid kn_1420)) ((hid kn_1257)) ((hid kn_1423)) ((hid kn_1426)) ((hid kn_1429)) (fun j => ((hF_105 2 j qn_e2b123f84).trans ((hF_80 2 j (fun h => absurd h.1 (nn rfl))).trans ((hF_29 2 j (fun h => absurd h.1 (nn rfl))).trans (hFm 2 j (qn_64622c99c hA))))).trans (hF j)) (fun j => ((hF_1410 43 j (fun h => absurd h.1 (nn rfl))).trans ((hF_1403 43 j (fun h => absurd h.1 (nn rfl))).trans ((hF_1396 43 j (fun h => absurd h.1 (nn rfl))).trans (hFc 43 j qn_8f9b78528)))).trans (hH j)) hU (rt_i1 ⟨by first | assumption | omega, by first | assumption | omega, by first | assumption | omega, by first | assumption | omega⟩) hG_1262 (fun c_1441 hI_1442 hF_1443 hR_1445 h_1446 h_1447 h_1448 h_1449 => (bk_inl ?_)))
            have h_1450 := ir_41_16 hI_1442
            have h_1451 := ir_41_17 hI_1442
            have h_1452 := ir_41_18 hI_1442
            have h_1453 := ir_41_19 hI_1442
            refine q_aload_n c_169_124 rfl (v_bip c_169_125 (by decide) ?_)
            have kn_1454 : Hid (c_1259 1 1 = e1) := (hF_1261 1 1 (qn_68bac1c70 hA)).trans (hid kn_1413)
            have kn_1455 : Hid (c_1441 41 3 = e1) := (hF_1443 41 3 qn_b860ee9cc).trans (hid kn_1414)
            have h_1456 := ir_1_2 hI_1260
            refine v_cv c_169_127 km_8_229 rfl rfl (Nat.le_of_ble_eq_true rfl) ⟨⟨rfl, rfl⟩, Nat.le_of_ble_eq_true rfl, rfl⟩ (Nat.le_of_ble_eq_true rfl) (Nat.le_of_ble_eq_true rfl) (L_11_9 (m := c_1259) (e1 := e1) (a9 := c_1259 1 2) (f0 := c_1259 1 4) (F := F) (H := H) hI_1442 hI_1260 hI_1265 ((hid kn_1454)) ((hid kn_1455)) (rfl) (rfl) (fun j => ((hF_1261 2 j (qn_2292ef66f hA)).trans ((hF_105 2 j qn_e2b123f84).trans ((hF_80 2 j (fun h => absurd h.1 (nn rfl))).trans ((hF_29 2 j (fun h => absurd h.1 (nn rfl))).trans (hFm 2 j (qn_64622c99c hA)))))).trans (hF j)) (fun j => ((hF_1443 43 j qn_8f9b78528).trans ((hF_1410 43 j (fun h => absurd h.1 (nn rfl))).trans ((hF_1403 43 j (fun h => absurd h.1 (nn rfl))).trans ((hF_1396 43 j (fun h => absurd h.1 (nn rfl))).trans (hFc 43 j qn_8f9b78528))))).trans (hH j)) hU hR_1445 hG_1267 (fun c_1457 hI_1458 hF_1459 hR_1461 h_1462 h_1463 => (bk_inl (v_iinc (v := v + 1) c_169_130 rfl (Nat.le_of_ble_eq_true rfl) rfl (q_goto (t := 44) c_169_133 rfl (q_aload_n c_169_44 rfl (v_cv c_169_45 km_8_131 rfl rfl (Nat.le_of_ble_eq_true rfl) ⟨⟨rfl, rfl⟩, Nat.le_of_ble_eq_true rfl, rfl⟩ (Nat.le_of_ble_eq_true rfl) (Nat.le_of_ble_eq_true rfl) (q_aload_n c_152_0 rfl ?_))))))))
            have h_1464 := ir_41_5 hI_1458
            have h_1465 := ir_41_4 hI_1458
            have h_1466 := ir_41_6 hI_1458
            have h_1467 := rt_bad hR_1461 (by first | exact q_106d90f3b h_1268 h_1269 | omega)
            have hrb_hR_1461 := rt_bad hR_1461 (by first | exact q_f7b7d720f h_1467 | omega)
            refine v_gi (z := 5) (v := c_1264 1 5) c_152_1 kf_8_102 rfl (Nat.le_of_ble_eq_true rfl) rfl rfl hrb_hR_1461.2.1 (q_iconst c_152_4 (v_ic_ne_t (t := 12) c_152_5 rfl ⟨by first | exact q_0f78863d3 h_1467 | omega, ⟨(Int.le_trans (by decide) h_1370.1), (Int.le_trans h_1370.2 (by decide))⟩, by decide, by decide⟩ (q_iconst c_152_12 (v_zret c_152_13 rfl (by decide) (bk_inl (v_if_eq_t (t := 136) c_169_48 rfl (by decide) (Wp_ls [(0, .ref 41), (1, vi a1)] (lsub_cons rfl (lsub_cons rfl lsub_nil)) ?_)))))))
            have h_1468 : c_1457 41 5 = c_1264 1 5 := hrb_hR_1461.2.1
            have h_1469 : c_1457 41 6 = c_1264 1 4 := hrb_hR_1461.2.2.2
            have kn_1470 : Hid (c_1457 41 16 = c_1441 41 16) := hF_1459 41 16 qn_e8809db5e
            have h_1471 : c_1457 41 16 = c_1441 41 16 := (hid kn_1470)
            have kn_1472 : Hid (c_1457 41 17 = c_1441 41 17) := hF_1459 41 17 qn_a870196d2
            have h_1473 : c_1457 41 17 = c_1441 41 17 := (hid kn_1472)
            have kn_1474 : Hid (c_1457 41 18 = c_1441 41 18) := hF_1459 41 18 qn_d8f940cfc
            have h_1475 : c_1457 41 18 = c_1441 41 18 := (hid kn_1474)
            have kn_1476 : Hid (c_1457 41 19 = c_1441 41 19) := hF_1459 41 19 qn_f6eda7af3
            have h_1477 : c_1457 41 19 = c_1441 41 19 := (hid kn_1476)
            exact K c_1457  hI_1458 (fun a j hm => (hF_1459 a j (qv_e105a9b19 hm)).trans ((hF_1443 a j hm).trans ((hF_1410 a j (fun h => hm (Or.inl h))).trans ((hF_1403 a j (fun h => hm (Or.inl h))).trans ((hF_1396 a j (fun h => hm (Or.inl h))).trans (hFc a j hm)))))) (rt_i2 ⟨⟨by first | exact q_c4ab36c8d h_1366 h_1467 | omega, by first | exact q_c99d6ea93 h_1365 | omega⟩, by first | exact q_88dc5fb99 h_1372 | omega, by first | exact q_cb71117a2 h_1372 h_1467 | omega, by first | exact q_88dc5fb99 h_1366 | omega⟩) (Or.inr (Or.inl (by first | exact q_374cd1df9 h_1366 h_1467 | omega)))
set_option maxRecDepth 100000 in
set_option maxHeartbeats 4000000 in
theorem L_34 {sc : List Int32} {e eg : Int} {d dh u ug P Q P2 Q2 A : Nat} {c m m9 : ME} {a1 e1 f0 g0 z0 z1 z2 z3 : Int} {F H : Int → Int} {Z : AR → Prop} (hI : Iv u e P2 Q2 c) (hJ : Iv ug eg P Q m) (hJ9 : Iv ug eg P Q m9) (hA : A = 13 ∨ A = 25) (ha1 : (-2147483648) ≤ a1 ∧ a1 ≤ 2147483647) (hq0 : (f0 = 0)) (hq1 : (g0 = (-1))) (hq2 : (z0 = 0)) (hq3 : (z1 = 0)) (hq4 : (z2 = 0)) (hq5 : (z3 = 5)) (hg_e1 : m 1 1 = e1) (hr_e1 : c 41 3 = e1) (hg_f0 : m 1 4 = f0) (hg_g0 : m 1 5 = g0) (hr_z0 : c 41 16 = z0) (hr_z1 : c 41 17 = z1) (hr_z2 : c 41 18 = z2) (hr_z3 : c 41 19 = z3) (hF : ∀ j : Int, m 2 j = F j) (hH : ∀ j : Int, c 43 j = H j) (hU : Ub F H) (hRt : Rt m c) (hG : Wp sc (dh + 30) 34 0 [(0, .ref A), (1, .ref 1)] [] (Wd P Q P P m) 0 0 (fun q => q = (.inl (none), Wd P Q P P m9, 0, 0))) (K : ∀ (c2 : ME), Iv u e P2 Q2 c2 → (∀ (a : Nat) (j : Int), ¬ ((a = 41 ∧ j = 4) ∨ (a = 41 ∧ j = 5) ∨ (a = 41 ∧ j = 6) ∨ (a = 41 ∧ j = 16) ∨ (a = 41 ∧ j = 17) ∨ (a = 41 ∧ j = 18) ∨ (a = 41 ∧ j = 19) ∨ a = 44 ∨ a = 45 ∨ a = 46) → c2 a j = c a j) → (Rt m9 c2) → ((m9 1 4 < 0) ∨ (m9 1 4 > 0) ∨ (m9 A 0 = c2 41 16 ∧ m9 A 1 = c2 41 17 ∧ m9 A 2 = c2 41 18 ∧ m9 A 3 = c2 41 19)) → Wp sc (d + 22) 169 136 [(0, .ref 41), (1, vi a1)] [] (Wd P2 Q2 P2 P2 c2) 0 0 Z) : Wp sc (d + 22) 169 44 [(0, .ref 41), (1, vi a1), (2, vi 0)] [] (Wd P2 Q2 P2 P2 c) 0 0 Z := by
  have hP := iv_P hJ
  have hQ := iv_Q hJ
  have h_1478 := ir_1_1 hJ
  have h_1479 := ir_41_3 hI
  have h_1480 := ir_1_4 hJ
  have h_1481 := ir_1_5 hJ
  have h_1482 := ir_41_16 hI
  have h_1483 := ir_41_17 hI
  have h_1484 := ir_41_18 hI
  have h_1485 := ir_41_19 hI
  refine gh hG (q_aload_n c_34_0 rfl (v_cv c_34_1 km_2_41 rfl (ck_p0 hA) (a68z hA) ⟨⟨rfl, rfl⟩, by decide, rfl⟩ (Nat.le_of_ble_eq_true rfl) (Nat.le_of_ble_eq_true rfl) (s_30 hJ hA (fun c_1486 hI_1487 hF_1488 h_1489 h_1490 => (bk_inl ?_)))))
  have h_1491 := ir_p0_0 hI_1487 hA
  have h_1492 := ir_p0_1 hI_1487 hA
  have h_1493 := ir_p0_2 hI_1487 hA
  have h_1494 := ir_p0_3 hI_1487 hA
  have h_1495 := ir_p0_4 hI_1487 hA
  have h_1496 := ir_p0_5 hI_1487 hA
  have h_1497 := ir_p7_4 hI_1487 hA
  refine q_iconst c_34_4 (q_istore_n c_34_5 (Nat.le_of_ble_eq_true rfl) ?_)
  have kn_1498 : Hid (c_1486 1 4 = f0) := (hF_1488 1 4 (qn_11fd6d22b hA)).trans (hg_f0)
  refine Wp_ls [(0, .ref A), (1, .ref 1), (2, vi 0)] (lsub_cons rfl (lsub_cons rfl (lsub_cons rfl lsub_nil))) (gh_stop (s_34_l (sc := sc) (d := dh + 18) (c := c_1486) (Z := fun _ => True) hI_1487 hA (fun _ _ _ => trivial) 124 c_1486 0 hI_1487 (fun a j hm => rfl) ⟨by omega, by omega⟩ (by omega)) (fun hG_1499 => (Wp_ls [(0, .ref 41), (1, vi a1), (2, vi 0)] (lsub_cons rfl (lsub_cons rfl (lsub_cons rfl lsub_nil))) ?_)))
  have h_1500 := ir_1_2 hJ
  have kn_1501 : Hid (c_1486 1 2 = m 1 2) := hF_1488 1 2 (qn_11fd6d22b hA)
  have h_1502 := ir_41_4 hI
  have h_1503 := ir_41_5 hI
  have h_1504 := ir_41_6 hI
  have h_1505 := rt_ok hRt (by first | exact q_2cabce820 h_1480 hg_f0 hq0 | omega)
  have hro_hRt := rt_ok hRt (by first | exact q_f9c88a064 hq0 | omega)
  have kn_1506 : Hid (c_1486 1 5 = g0) := (hF_1488 1 5 (qn_11fd6d22b hA)).trans (hg_g0)
  exact (L_34_l (sc := sc) (d := d) (dh := dh) hI hJ hJ9 hA ha1 hq0 hq1 hq2 hq3 hq4 hq5 hg_e1 hr_e1 hg_f0 hg_g0 hr_z0 hr_z1 hr_z2 hr_z3 hF hH hU hRt K 62) c c_1486 0 (m 1 2) (c_1486 A 0) (c_1486 A 1) (c_1486 A 2) (c_1486 A 3) hI (fun a j hm => rfl) hI_1487 (fun a j hm => hF_1488 a j (qv_ae6779878 hm)) ⟨by decide, by decide⟩ ⟨by first | exact q_f0beed051 h_1500 | omega, by first | exact q_c7aae8bb3 h_1500 | omega⟩ h_1491 h_1492 h_1493 h_1494 ((hid kn_1501)) (hro_hRt.2.2.1) (rfl) ((show _ = z0 from (hr_z0)).trans (by first | exact q_6db6d1d79 h_1489 h_1491 hq2 | omega)) (rfl) ((show _ = z1 from (hr_z1)).trans (by first | exact q_87dfdabce h_1489 h_1492 hq3 | omega)) (rfl) ((show _ = z2 from (hr_z2)).trans (by first | exact q_0739f42ac h_1489 h_1493 hq4 | omega)) (rfl) ((show _ = z3 from (hr_z3)).trans (by first | exact q_19b73cb17 h_1489 hq5 | omega)) ((show _ = f0 from (hid kn_1498)).trans (by first | exact q_f9c88a064 hq0 | omega)) (hro_hRt.2.1) ((show _ = g0 from (hid kn_1506)).trans (by first | exact q_ef26995af hq1 | omega)) hG_1499 (by omega)

set_option maxRecDepth 100000 in
set_option maxHeartbeats 4000000 in
theorem L_84w {sc : List Int32} {d dh P Q P2 Q2 P9 Q9 : Nat} {c m m9 : ME} {a1 yg t9 n0 n1 n2 n3 im wk : Int} {F H : Int → Int} {Z : AR → Prop} (hI : Iv 0 (-1) P2 Q2 c) (hJ : Iv 0 (-1) P Q m) (hJ9 : Iv 0 (-1) P9 Q9 m9) (ha1 : (-2147483648) ≤ a1 ∧ a1 ≤ 2147483647) (hyg : (-2147483648) ≤ yg ∧ yg ≤ 2147483647) (hq0 : (a1 ≥ 0 ∧ a1 ≤ t9 ∧ a1 ≤ 600)) (hg_t9 : m 1 3 = t9) (hr_t9 : c 41 2 = t9) (hg_n0 : m P 0 = n0) (hr_n0 : c 41 20 = n0) (hg_n1 : m P 1 = n1) (hr_n1 : c 41 21 = n1) (hg_n2 : m P 2 = n2) (hr_n2 : c 41 22 = n2) (hg_n3 : m P 3 = n3) (hr_n3 : c 41 23 = n3) (hg_im : m 3 4 = im) (hr_im : c 41 52 = im) (hg_wk : m 3 3 = wk) (hr_wk : c 41 35 = wk) (hF : ∀ j : Int, m 2 j = F j) (hH : ∀ j : Int, c 43 j = H j) (hU : Ub F H) (hG : Wp sc (dh + 50) 84 0 [(0, .ref 0), (1, vi a1)] [] (Wd P Q P P m) 0 0 (fun q => q = (.inl (some (vi yg)), Wd P9 Q9 P9 P9 m9, 0, 0))) (K : ∀ (c2 : ME) (y : Int), Iv 0 (-1) P2 Q2 c2 → (∀ (a : Nat) (j : Int), ¬ ((a = 41 ∧ j = 0) ∨ a = 42 ∨ (a = 41 ∧ j = 2) ∨ (a = 41 ∧ j = 3) ∨ (a = 41 ∧ j = 4) ∨ (a = 41 ∧ j = 5) ∨ (a = 41 ∧ j = 6) ∨ (a = 41 ∧ j = 7) ∨ (a = 41 ∧ j = 8) ∨ (a = 41 ∧ j = 16) ∨ (a = 41 ∧ j = 17) ∨ (a = 41 ∧ j = 18) ∨ (a = 41 ∧ j = 19) ∨ a = 44 ∨ a = 45 ∨ a = 46 ∨ (a = 41 ∧ j = 20) ∨ (a = 41 ∧ j = 21) ∨ (a = 41 ∧ j = 22) ∨ (a = 41 ∧ j = 23) ∨ (a = 41 ∧ j = 30) ∨ (a = 41 ∧ j = 35) ∨ (a = 41 ∧ j = 36) ∨ (a = 41 ∧ j = 47) ∨ (a = 41 ∧ j = 48) ∨ (a = 41 ∧ j = 52) ∨ a = 47 ∨ a = 48 ∨ a = 49 ∨ a = 58 ∨ a = 64) → c2 a j = c a j) → (-2147483648) ≤ y ∧ y ≤ 2147483647 → ((y = yg)) → ((c2 41 2 = 0)) → ((c2 41 8 = m9 1 5)) → ((c2 41 0 = 0)) → ((m9 P9 0 = c2 41 20)) → ((m9 P9 1 = c2 41 21)) → ((m9 P9 2 = c2 41 22)) → ((m9 P9 3 = c2 41 23)) → ((m9 3 4 = c2 41 52)) → ((m9 3 4 = 0) ∨ (m9 3 4 = im)) → ((m9 3 3 = c2 41 35)) → Z (.inl (some (vi y)), Wd P2 Q2 P2 P2 c2, 0, 0)) : Wp sc (d + 40) 169 0 [(0, .ref 41), (1, vi a1)] [] (Wd P2 Q2 P2 P2 c) 0 0 Z := by
  have hP := iv_P hJ
  have hQ := iv_Q hJ
  have h_1 := ir_1_3 hJ
  have h_2 := ir_41_2 hI
  have h_3 := ir_p0_0 hJ hP
  have h_4 := ir_41_20 hI
  have h_5 := ir_p0_1 hJ hP
  have h_6 := ir_41_21 hI
  have h_7 := ir_p0_2 hJ hP
  have h_8 := ir_41_22 hI
  have h_9 := ir_p0_3 hJ hP
  have h_10 := ir_41_23 hI
  have h_11 := ir_3_4 hJ
  have h_12 := ir_41_52 hI
  have h_13 := ir_3_3 hJ
  have h_14 := ir_41_35 hI
  have hpq := iv_pq hJ
  unfold Pq at hpq
  refine gh hG (q_aload_n c_84_0 rfl (q_iload_n c_84_1 rfl (v_sip c_84_2 (by decide) (v_cv c_84_5 km_7_81 rfl rfl (Nat.le_of_ble_eq_true rfl) ⟨⟨rfl, rfl⟩, Nat.le_of_ble_eq_true rfl, rfl⟩ (Nat.le_of_ble_eq_true rfl) (Nat.le_of_ble_eq_true rfl) (q_aload_n c_82_0 rfl (q_iload_n c_82_1 rfl (q_iconst c_82_2 ?_)))))))
  refine q_iload_n c_82_3 rfl (q_aload_n c_82_4 rfl (v_gr (t := 1) c_82_5 kf_7_10 rfl (Nat.le_of_ble_eq_true rfl) rfl (v_gi (z := 3) (v := t9) c_82_8 kf_7_77 rfl (Nat.le_of_ble_eq_true rfl) rfl rfl (hg_t9) (v_min_g c_82_11 rfl (by omega) (Nat.le_of_ble_eq_true rfl) (by omega) (q_call c_82_14 rfl rfl rfl (q_iload_n c_80_0 rfl (q_iload_n c_80_1 rfl ?_)))))))
  refine v_ic_lt_f (t := 14) c_80_2 rfl ⟨by decide, by first | exact q_8241eb4bd hq0 | omega, ha1.2⟩ (q_iload_n c_80_5 rfl (q_iload_n c_80_6 rfl (v_ic_gt_f (t := 14) c_80_7 rfl ⟨ha1.1, by first | exact q_f1a9820a9 hq0 | omega, (Int.le_trans (rg_eq hg_t9 h_1).2 (by decide))⟩ (q_iconst c_80_10 (q_goto (t := 15) c_80_11 rfl (v_zret c_80_15 rfl (by decide) (bk_inl ?_)))))))
  refine v_cv c_82_17 km_7_161 rfl rfl (Nat.le_of_ble_eq_true rfl) ⟨⟨rfl, rfl⟩, Nat.le_of_ble_eq_true rfl, rfl⟩ (Nat.le_of_ble_eq_true rfl) (Nat.le_of_ble_eq_true rfl) (q_iload_n c_81_0 rfl (v_if_ne_t (t := 25) c_81_1 rfl (by decide) (q_vret rfl rfl (bk_inl (q_aload_n c_82_20 rfl (v_gr (t := 1) c_82_21 kf_7_10 rfl (Nat.le_of_ble_eq_true rfl) rfl (q_iload_n c_82_24 rfl ?_)))))))
  refine v_cv c_82_25 km_7_348 rfl rfl (Nat.le_of_ble_eq_true rfl) ⟨⟨rfl, rfl⟩, Nat.le_of_ble_eq_true rfl, rfl⟩ (Nat.le_of_ble_eq_true rfl) (Nat.le_of_ble_eq_true rfl) (q_aload_n c_74_0 rfl (q_iload_n c_74_1 rfl (q_aload_n c_74_2 rfl (v_gi (z := 3) (v := t9) c_74_3 kf_5_19 rfl (Nat.le_of_ble_eq_true rfl) rfl rfl (hg_t9) (v_minx c_74_6 rfl (by omega) (Nat.le_of_ble_eq_true rfl) ⟨by omega, by omega, by omega, by omega⟩ (fun y_15 hy_15 => (v_pi (z := 1) c_74_9 kf_5_32 rfl (Nat.le_of_ble_eq_true rfl) rfl rfl rfl (by decide) (q_aload_n c_74_12 rfl ?_))))))))
  refine q_iconst c_74_13 (v_pi (z := 2) c_74_14 kf_5_35 rfl (Nat.le_of_ble_eq_true rfl) rfl rfl rfl (by decide) (q_aload_n c_74_17 rfl (q_iconst c_74_18 (v_pi (z := 3) c_74_19 kf_5_19 rfl (Nat.le_of_ble_eq_true rfl) rfl rfl rfl (by decide) (q_aload_n c_74_22 rfl (q_iconst c_74_23 (v_pi (z := 4) c_74_24 kf_5_38 rfl (Nat.le_of_ble_eq_true rfl) rfl rfl rfl (by decide) ?_)))))))
  refine q_aload_n c_74_27 rfl (q_iconst c_74_28 (v_pi (z := 5) c_74_29 kf_5_15 rfl (Nat.le_of_ble_eq_true rfl) rfl rfl rfl (by decide) (q_vret rfl rfl (bk_inl (q_vret rfl rfl (bk_inl (q_aload_n c_84_8 rfl ?_)))))))
  refine v_gr (t := Q) c_84_9 kf_7_54 rfl (Nat.le_of_ble_eq_true rfl) rfl (q_aload_n c_84_12 rfl (v_gr (t := 1) c_84_13 kf_7_10 rfl (Nat.le_of_ble_eq_true rfl) rfl ?_))
  have hI_16 := iw_1_1 (v := y_15) hJ ⟨by first | (clear ha1 h_1 hg_t9 h_2 hr_t9 h_3 hg_n0 h_4 hr_n0 h_5 hg_n1 h_6 hr_n1 h_7 hg_n2 h_8 hr_n2 h_9 hg_n3 h_10 hr_n3 h_11 hg_im h_12 hr_im h_13 hg_wk h_14 hr_wk; omega) | omega, by first | (clear ha1 h_1 hg_t9 h_2 hr_t9 h_3 hg_n0 h_4 hr_n0 h_5 hg_n1 h_6 hr_n1 h_7 hg_n2 h_8 hr_n2 h_9 hg_n3 h_10 hr_n3 h_11 hg_im h_12 hr_im h_13 hg_wk h_14 hr_wk; omega) | omega⟩
  have hI_17 := iw_1_2 (v := 0) hI_16 ⟨by decide, by decide⟩
  have hI_18 := iw_1_3 (v := 0) hI_17 ⟨by decide, by decide⟩
  have hI_19 := iw_1_4 (v := 0) hI_18 ⟨by decide, by decide⟩
  have hI_20 := iw_1_5 (v := (-1)) hI_19 ⟨by decide, by decide⟩
  refine v_cv c_84_16 km_7_85 rfl (ck_p0 hQ) (a68z hQ) ⟨⟨rfl, rfl⟩, by decide, rfl⟩ (Nat.le_of_ble_eq_true rfl) (Nat.le_of_ble_eq_true rfl) (fn_of (s_34 hI_20 hQ (fun c_21 hI_22 hF_23 => ?_)))
  intro hG_24
  refine bk_inl (q_aload_n c_84_19 rfl (v_gr (t := 1) c_84_20 kf_7_10 rfl (Nat.le_of_ble_eq_true rfl) rfl (v_cv c_84_23 km_7_89 rfl rfl (Nat.le_of_ble_eq_true rfl) ⟨⟨rfl, rfl⟩, Nat.le_of_ble_eq_true rfl, rfl⟩ (Nat.le_of_ble_eq_true rfl) (Nat.le_of_ble_eq_true rfl) (q_aload_n c_2_0 rfl ?_))))
  have h_25 := ir_1_4 hI_22
  refine v_gi (z := 4) (v := c_21 1 4) c_2_1 kf_5_38 rfl (Nat.le_of_ble_eq_true rfl) rfl rfl rfl ?_
  by_cases h_26 : c_21 1 4 ≠ 0
  · refine v_if_ne_t (t := 11) c_2_4 rfl ⟨h_26, ⟨(Int.le_trans (by decide) h_25.1), (Int.le_trans h_25.2 (by decide))⟩, by decide, by decide⟩ (q_iconst c_2_11 (v_zret c_2_12 rfl (by decide) (bk_inl (v_if_eq_t (t := 81) c_84_26 rfl (by decide) (q_aload_n c_84_81 rfl (q_aload_n c_84_82 rfl (v_gr (t := P) c_84_83 kf_7_50 rfl (Nat.le_of_ble_eq_true rfl) rfl ?_)))))))
    have kn_27 : Hid (c_21 P 0 = n0) := (hF_23 P 0 (by omega)).trans ((up_c (np0 hP rfl)).trans ((up_c (np0 hP rfl)).trans ((up_c (np0 hP rfl)).trans ((up_c (np0 hP rfl)).trans ((up_c (np0 hP rfl)).trans (hg_n0))))))
    refine v_gi (z := 0) (v := n0) c_84_86 kf_7_102 (ck_p0 hP) (a68z hP) rfl rfl (hid kn_27) (v_cv c_84_89 km_7_105 rfl rfl (Nat.le_of_ble_eq_true rfl) ⟨⟨rfl, rfl⟩, Nat.le_of_ble_eq_true rfl, rfl⟩ (Nat.le_of_ble_eq_true rfl) (Nat.le_of_ble_eq_true rfl) (q_aload_n c_83_0 rfl (v_gr (t := 1) c_83_1 kf_7_10 rfl (Nat.le_of_ble_eq_true rfl) rfl (v_cv c_83_4 km_7_89 rfl rfl (Nat.le_of_ble_eq_true rfl) ⟨⟨rfl, rfl⟩, Nat.le_of_ble_eq_true rfl, rfl⟩ (Nat.le_of_ble_eq_true rfl) (Nat.le_of_ble_eq_true rfl) (q_aload_n c_2_0 rfl (v_gi (z := 4) (v := c_21 1 4) c_2_1 kf_5_38 rfl (Nat.le_of_ble_eq_true rfl) rfl rfl rfl (v_if_ne_t (t := 11) c_2_4 rfl ⟨by first | exact q_646bc4652 h_25 h_26 | omega, ⟨(Int.le_trans (by decide) h_25.1), (Int.le_trans h_25.2 (by decide))⟩, by decide, by decide⟩ ?_)))))))
    refine q_iconst c_2_11 (v_zret c_2_12 rfl (by decide) (bk_inl (v_if_eq_t (t := 14) c_83_7 rfl (by decide) (q_aload_n c_83_14 rfl (v_gr (t := 1) c_83_15 kf_7_10 rfl (Nat.le_of_ble_eq_true rfl) rfl (v_gi (z := 4) (v := c_21 1 4) c_83_18 kf_7_351 rfl (Nat.le_of_ble_eq_true rfl) rfl rfl rfl (v_bip c_83_21 (by decide) ?_)))))))
    refine v_isub (v := c_21 1 4 - 10) c_83_23 rfl (q_iret c_83_24 rfl (bk_inl (q_iret c_84_92 rfl ?_)))
    intro hE_28
    have h_29 : yg = c_21 1 4 - 10 := (vi_inj ⟨by omega, by omega⟩ ⟨by omega, by omega⟩ (Option.some.inj (Sum.inl.inj (Prod.mk.inj hE_28).1))).symm
    have hW : Wd P Q P P c_21 = Wd P9 Q9 P9 P9 m9 := (Prod.mk.inj (Prod.mk.inj hE_28).2).1
    obtain ⟨hp9, hq9⟩ := wd_pq hW
    subst hp9
    subst hq9
    have h_30 := ir_1_5 hI_22
    have h_31 := ir_1_5 hJ9
    have h_32 : m9 1 5 = c_21 1 5 := wd_fv (z := 5) 5 rfl hW rfl rfl rfl rfl (by decide) rfl ⟨(Int.le_trans (by decide) h_30.1), (Int.le_trans h_30.2 (by decide))⟩ ⟨(Int.le_trans (by decide) h_31.1), (Int.le_trans h_31.2 (by decide))⟩
    have h_33 := ir_p0_0 hJ9 hP
    have h_34 : m9 P 0 = n0 := wd_fv (z := 0) 0 rfl hW (ck_A hP) (ck_A hP) rfl rfl (a68z hP) (hid kn_27) ⟨(Int.le_trans (by decide) (rg_eq hg_n0 h_3).1), (Int.le_trans (rg_eq hg_n0 h_3).2 (by decide))⟩ ⟨(Int.le_trans (by decide) h_33.1), (Int.le_trans h_33.2 (by decide))⟩
    have kn_35 : Hid (c_21 P 1 = n1) := (hF_23 P 1 (by omega)).trans ((up_c (np0 hP rfl)).trans ((up_c (np0 hP rfl)).trans ((up_c (np0 hP rfl)).trans ((up_c (np0 hP rfl)).trans ((up_c (np0 hP rfl)).trans (hg_n1))))))
    have h_36 := ir_p0_1 hJ9 hP
    have h_37 : m9 P 1 = n1 := wd_fv (z := 1) 1 rfl hW (ck_A hP) (ck_A hP) rfl rfl (a68z hP) (hid kn_35) ⟨(Int.le_trans (by decide) (rg_eq hg_n1 h_5).1), (Int.le_trans (rg_eq hg_n1 h_5).2 (by decide))⟩ ⟨(Int.le_trans (by decide) h_36.1), (Int.le_trans h_36.2 (by decide))⟩
    have kn_38 : Hid (c_21 P 2 = n2) := (hF_23 P 2 (by omega)).trans ((up_c (np0 hP rfl)).trans ((up_c (np0 hP rfl)).trans ((up_c (np0 hP rfl)).trans ((up_c (np0 hP rfl)).trans ((up_c (np0 hP rfl)).trans (hg_n2))))))
    have h_39 := ir_p0_2 hJ9 hP
    have h_40 : m9 P 2 = n2 := wd_fv (z := 2) 2 rfl hW (ck_A hP) (ck_A hP) rfl rfl (a68z hP) (hid kn_38) ⟨(Int.le_trans (by decide) (rg_eq hg_n2 h_7).1), (Int.le_trans (rg_eq hg_n2 h_7).2 (by decide))⟩ ⟨(Int.le_trans (by decide) h_39.1), (Int.le_trans h_39.2 (by decide))⟩
    have kn_41 : Hid (c_21 P 3 = n3) := (hF_23 P 3 (by omega)).trans ((up_c (np0 hP rfl)).trans ((up_c (np0 hP rfl)).trans ((up_c (np0 hP rfl)).trans ((up_c (np0 hP rfl)).trans ((up_c (np0 hP rfl)).trans (hg_n3))))))
    have h_42 := ir_p0_3 hJ9 hP
    have h_43 : m9 P 3 = n3 := wd_fv (z := 3) 3 rfl hW (ck_A hP) (ck_A hP) rfl rfl (a68z hP) (hid kn_41) ⟨(Int.le_trans (by decide) (rg_eq hg_n3 h_9).1), (Int.le_trans (rg_eq hg_n3 h_9).2 (by decide))⟩ ⟨(Int.le_trans (by decide) h_42.1), (Int.le_trans h_42.2 (by decide))⟩
    have kn_44 : Hid (c_21 3 4 = im) := (hF_23 3 4 (qn_73b48ea2f hQ)).trans ((up_c (nn rfl)).trans ((up_c (nn rfl)).trans ((up_c (nn rfl)).trans ((up_c (nn rfl)).trans ((up_c (nn rfl)).trans (hg_im))))))
    have h_45 := ir_3_4 hJ9
    have h_46 : m9 3 4 = im := wd_fv (z := 4) 4 rfl hW rfl rfl rfl rfl (by decide) (hid kn_44) ⟨(Int.le_trans (by decide) (rg_eq hg_im h_11).1), (Int.le_trans (rg_eq hg_im h_11).2 (by decide))⟩ ⟨(Int.le_trans (by decide) h_45.1), (Int.le_trans h_45.2 (by decide))⟩
    have kn_47 : Hid (c_21 3 3 = wk) := (hF_23 3 3 (qn_73b48ea2f hQ)).trans ((up_c (nn rfl)).trans ((up_c (nn rfl)).trans ((up_c (nn rfl)).trans ((up_c (nn rfl)).trans ((up_c (nn rfl)).trans (hg_wk))))))
    have h_48 := ir_3_3 hJ9
    have h_49 : m9 3 3 = wk := wd_fv (z := 3) 3 rfl hW rfl rfl rfl rfl (by decide) (hid kn_47) ⟨(Int.le_trans (by decide) (rg_eq hg_wk h_13).1), (Int.le_trans (rg_eq hg_wk h_13).2 (by decide))⟩ ⟨(Int.le_trans (by decide) h_48.1), (Int.le_trans h_48.2 (by decide))⟩
    refine q_aload_n c_169_0 rfl (q_iconst c_169_1 (v_pi (z := 0) c_169_2 kf_8_3 rfl (Nat.le_of_ble_eq_true rfl) rfl rfl rfl (by decide) (q_aload_n c_169_5 rfl (q_iload_n c_169_6 rfl (v_if_lt_f (t := 22) c_169_7 rfl ⟨by decide, by first | exact q_8241eb4bd hq0 | omega, ha1.2⟩ (q_iload_n c_169_10 rfl (q_aload_n c_169_11 rfl ?_)))))))
    refine v_gi (z := 2) (v := t9) c_169_12 kf_8_99 rfl (Nat.le_of_ble_eq_true rfl) rfl rfl ((up_n (by decide)).trans (hr_t9)) (v_ic_gt_f (t := 22) c_169_15 rfl ⟨ha1.1, by first | exact q_f1a9820a9 hq0 | omega, (Int.le_trans (rg_eq hg_t9 h_1).2 (by decide))⟩ (q_iconst c_169_18 (q_goto (t := 23) c_169_19 rfl (q_iconst c_169_23 (q_iconst c_169_24 (v_cv c_169_25 km_8_203 rfl rfl (Nat.le_of_ble_eq_true rfl) ⟨⟨rfl, rfl⟩, Nat.le_of_ble_eq_true rfl, rfl⟩ (Nat.le_of_ble_eq_true rfl) (Nat.le_of_ble_eq_true rfl) (q_iload_n c_145_0 rfl ?_)))))))
    refine v_if_ne_t (t := 26) c_145_1 rfl (by decide) (q_aload_n c_145_26 rfl (v_gi (z := 0) (v := 0) c_145_27 kf_8_3 rfl (Nat.le_of_ble_eq_true rfl) rfl rfl (up_e rfl) (v_if_ne_f (t := 37) c_145_30 rfl (by decide) (q_iconst c_145_33 (q_goto (t := 38) c_145_34 rfl (v_zret c_145_38 rfl (by decide) (bk_inl ?_)))))))
    refine v_if_ne_t (t := 33) c_169_28 rfl (by decide) (q_aload_n c_169_33 rfl (q_iload_n c_169_34 rfl ?_))
    have hI_50 := iw_41_0 (v := 0) hI ⟨by decide, by decide⟩
    refine v_cv c_169_35 km_8_207 rfl rfl (Nat.le_of_ble_eq_true rfl) ⟨⟨rfl, rfl⟩, Nat.le_of_ble_eq_true rfl, rfl⟩ (Nat.le_of_ble_eq_true rfl) (Nat.le_of_ble_eq_true rfl) (s_163 (a1 := a1) hI_50 (show 0 ≤ a1 ∧ a1 ≤ 600 from ⟨by first | exact q_8241eb4bd hq0 | omega, by first | exact q_366480dfc hq0 | omega⟩) (fun c_51 hI_52 hF_53 h_54 => (bk_inl ?_)))
    have h_55 := ir_41_2 hI_52
    have h_56 := ir_41_3 hI_52
    have h_57 := ir_41_4 hI_52
    have h_58 := ir_41_5 hI_52
    have h_59 := ir_41_7 hI_52
    refine q_aload_n c_169_38 rfl (v_cv c_169_39 km_8_93 rfl rfl (Nat.le_of_ble_eq_true rfl) ⟨⟨rfl, rfl⟩, Nat.le_of_ble_eq_true rfl, rfl⟩ (Nat.le_of_ble_eq_true rfl) (Nat.le_of_ble_eq_true rfl) (s_147 hI_52 (fun c_60 hI_61 hF_62 h_63 => (bk_inl ?_))))
    have h_64 := ir_41_16 hI_61
    have h_65 := ir_41_17 hI_61
    have h_66 := ir_41_18 hI_61
    have h_67 := ir_41_19 hI_61
    refine q_iconst c_169_42 (q_istore_n c_169_43 (Nat.le_of_ble_eq_true rfl) (Wp_ls [(0, .ref 41), (1, vi a1), (2, vi 0)] (lsub_cons rfl (lsub_cons rfl (lsub_cons rfl lsub_nil))) ?_))
    have kn_68 : Hid (c_60 41 3 = c_51 41 3) := hF_62 41 3 qn_de2c377ca
    have h_69 : (up (up (up (up (up m 1 1 y_15) 1 2 0) 1 3 0) 1 4 0) 1 5 (-1)) 1 4 = 0 := ((up_n (by decide)).trans (up_e rfl))
    have h_70 : (up (up (up (up (up m 1 1 y_15) 1 2 0) 1 3 0) 1 4 0) 1 5 (-1)) 1 2 = 0 := ((up_n (by decide)).trans ((up_n (by decide)).trans ((up_n (by decide)).trans (up_e rfl))))
    have h_71 : (up (up (up (up (up m 1 1 y_15) 1 2 0) 1 3 0) 1 4 0) 1 5 (-1)) 1 5 = (-1) := (up_e rfl)
    have kn_72 : Hid (c_60 41 5 = c_51 41 5) := hF_62 41 5 qn_910516fcd
    have h_73 : c_60 41 5 = c_51 41 5 := (hid kn_72)
    have kn_74 : Hid (c_60 41 4 = c_51 41 4) := hF_62 41 4 qn_650f73a3f
    have h_75 : c_60 41 4 = c_51 41 4 := (hid kn_74)
    have h_76 := ir_41_6 hI
    have kn_77 : Hid (c_51 41 6 = c 41 6) := (hF_53 41 6 qn_eb0d473e8).trans (up_n (by decide))
    have kn_78 : Hid (c_60 41 6 = c 41 6) := (hF_62 41 6 qn_f359bb820).trans (hid kn_77)
    have h_79 : c_60 41 6 = c 41 6 := (hid kn_78)
    refine L_34 (m := up (up (up (up (up m 1 1 y_15) 1 2 0) 1 3 0) 1 4 0) 1 5 (-1)) (a1 := a1) (e1 := y_15) (f0 := 0) (g0 := (-1)) (z0 := c_60 41 16) (z1 := c_60 41 17) (z2 := c_60 41 18) (z3 := c_60 41 19) (F := F) (H := H) hI_61 hI_20 hI_22 hQ (show (-2147483648) ≤ a1 ∧ a1 ≤ 2147483647 from ha1) (by first | assumption | omega) (by first | assumption | omega) (by first | exact q_ef9b3060e h_63 h_64 | omega) (by first | exact q_b557f8ccc h_63 h_65 | omega) (by first | exact q_663c66ce4 h_63 h_66 | omega) (by first | exact q_3d4c19553 h_63 | omega) (((up_n (by decide)).trans ((up_n (by decide)).trans ((up_n (by decide)).trans ((up_n (by decide)).trans (up_e rfl)))))) (((show _ = c_51 41 3 from (hid kn_68)).trans (by first | assumption | exact Int.le_antisymm (by first | (clear ha1 h_1 hg_t9 h_2 hr_t9 h_3 hg_n0 h_4 hr_n0 h_5 hg_n1 h_6 hr_n1 h_7 hg_n2 h_8 hr_n2 h_9 hg_n3 h_10 hr_n3 h_11 hg_im h_12 hr_im h_13 hg_wk h_14 hr_wk h_25 h_29 h_30 h_31 h_32 h_33 h_34 h_36 h_37 h_39 h_40 h_42 h_43 h_45 h_46 h_48 h_49 h_55 h_56 h_57 h_58 h_59 h_64 h_65 h_66 h_67 h_63 h_26; omega) | omega) (by first | (clear ha1 hq0 h_1 hg_t9 h_2 hr_t9 h_3 hg_n0 h_4 hr_n0 h_5 hg_n1 h_6 hr_n1 h_7 hg_n2 h_8 hr_n2 h_9 hg_n3 h_10 hr_n3 h_11 hg_im h_12 hr_im h_13 hg_wk h_14 hr_wk h_25 h_29 h_30 h_31 h_32 h_33 h_34 h_36 h_37 h_39 h_40 h_42 h_43 h_45 h_46 h_48 h_49 h_55 h_56 h_57 h_58 h_59 h_64 h_65 h_66 h_67 h_63 h_26; omega) | omega)))) (((up_n (by decide)).trans (up_e rfl))) ((up_e rfl)) (rfl) (rfl) (rfl) (rfl) (fun j => ((up_c (nn rfl)).trans ((up_c (nn rfl)).trans ((up_c (nn rfl)).trans ((up_c (nn rfl)).trans (up_c (nn rfl)))))).trans (hF j)) (fun j => ((hF_62 43 j qn_1d27fc2bc).trans ((hF_53 43 j qn_78d42cb5c).trans (up_c (nn rfl)))).trans (hH j)) hU (rt_i1 ⟨by first | assumption | omega, by first | exact q_6d0a553af h_54 h_58 | omega, by first | exact q_a7ddc6b3b h_54 h_57 | omega, by first | assumption | omega⟩) hG_24 (fun c_80 hI_81 hF_82 hR_84 h_85 => ?_)
    have h_86 := ir_41_16 hI_81
    have h_87 := ir_41_17 hI_81
    have h_88 := ir_41_18 hI_81
    have h_89 := ir_41_19 hI_81
    have h_90 := ir_p0_0 hI_22 hQ
    have h_91 := ir_p0_1 hI_22 hQ
    have h_92 := ir_p0_2 hI_22 hQ
    have h_93 := ir_p0_3 hI_22 hQ
    refine q_aload_n c_169_136 rfl (q_aload_n c_169_137 rfl (v_gi (z := 16) (v := c_80 41 16) c_169_138 kf_8_145 rfl (Nat.le_of_ble_eq_true rfl) rfl rfl rfl (v_cv c_169_141 km_8_232 rfl rfl (Nat.le_of_ble_eq_true rfl) ⟨⟨rfl, rfl⟩, Nat.le_of_ble_eq_true rfl, rfl⟩ (Nat.le_of_ble_eq_true rfl) (Nat.le_of_ble_eq_true rfl) (q_aload_n c_164_0 rfl (q_aload_n c_164_1 rfl ?_)))))
    have h_94 := ir_41_5 hI_81
    have h_95 := ir_1_2 hI_22
    have h_96 := ir_41_4 hI_81
    have h_97 := ir_41_6 hI_81
    have h_98 := rt_bad hR_84 (by first | exact q_646bc4652 h_25 h_26 | omega)
    have hrb_hR_84 := rt_bad hR_84 (by first | exact q_f7b7d720f h_98 | omega)
    refine v_gi (z := 5) (v := c_21 1 5) c_164_2 kf_8_102 rfl (Nat.le_of_ble_eq_true rfl) rfl rfl hrb_hR_84.2.1 (v_pi (z := 8) c_164_5 kf_8_17 rfl (Nat.le_of_ble_eq_true rfl) rfl rfl rfl (by decide) (q_aload_n c_164_8 rfl (v_cv c_164_9 km_8_131 rfl rfl (Nat.le_of_ble_eq_true rfl) ⟨⟨rfl, rfl⟩, Nat.le_of_ble_eq_true rfl, rfl⟩ (Nat.le_of_ble_eq_true rfl) (Nat.le_of_ble_eq_true rfl) (q_aload_n c_152_0 rfl (v_gi (z := 5) (v := c_21 1 5) c_152_1 kf_8_102 rfl (Nat.le_of_ble_eq_true rfl) rfl rfl (((up_n (by decide))).trans (hrb_hR_84.2.1)) (q_iconst c_152_4 (v_ic_ne_t (t := 12) c_152_5 rfl ⟨by first | exact q_0f78863d3 h_98 | omega, ⟨(Int.le_trans (by decide) h_30.1), (Int.le_trans h_30.2 (by decide))⟩, by decide, by decide⟩ ?_)))))))
    refine q_iconst c_152_12 (v_zret c_152_13 rfl (by decide) (bk_inl (v_if_eq_t (t := 19) c_164_12 rfl (by decide) (q_aload_n c_164_19 rfl (v_gi (z := 6) (v := c_21 1 4) c_164_20 kf_8_105 rfl (Nat.le_of_ble_eq_true rfl) rfl rfl (((up_n (by decide))).trans (hrb_hR_84.2.2.2)) (v_bip c_164_23 (by decide) (v_isub (v := c_21 1 4 - 10) c_164_25 rfl ?_)))))))
    refine q_iret c_164_26 rfl (bk_inl (q_istore_n c_169_144 (Nat.le_of_ble_eq_true rfl) (q_aload_n c_169_145 rfl (v_gi (z := 5) (v := c_21 1 5) c_169_146 kf_8_102 rfl (Nat.le_of_ble_eq_true rfl) rfl rfl (((up_n (by decide))).trans (hrb_hR_84.2.1)) (q_iconst c_169_149 (v_ic_ne_t (t := 157) c_169_150 rfl ⟨by first | exact q_0f78863d3 h_98 | omega, ⟨(Int.le_trans (by decide) h_30.1), (Int.le_trans h_30.2 (by decide))⟩, by decide, by decide⟩ (q_iload_n c_169_157 rfl ?_)))))))
    refine q_iret c_169_158 rfl ?_
    have hI_99 := iw_41_8 (v := c_21 1 5) hI_81 ⟨h_30.1, (Int.le_trans h_30.2 (by decide))⟩
    have kn_100 : Hid (c_60 41 2 = c_51 41 2) := hF_62 41 2 qn_d1f210dd4
    have kn_101 : Hid (c_80 41 2 = c_51 41 2) := (hF_82 41 2 qn_c33c5b2f3).trans (hid kn_100)
    have h_102 : (up c_80 41 8 (c_21 1 5)) 41 2 = c_51 41 2 := ((up_n (by decide)).trans (hid kn_101))
    have h_103 : (up c_80 41 8 (c_21 1 5)) 41 8 = c_21 1 5 := (up_e rfl)
    have kn_104 : Hid (c_51 41 0 = 0) := (hF_53 41 0 qn_18af663b8).trans (up_e rfl)
    have kn_105 : Hid (c_60 41 0 = 0) := (hF_62 41 0 qn_75150763a).trans (hid kn_104)
    have kn_106 : Hid (c_80 41 0 = 0) := (hF_82 41 0 qn_77f099881).trans (hid kn_105)
    have h_107 : (up c_80 41 8 (c_21 1 5)) 41 0 = 0 := ((up_n (by decide)).trans (hid kn_106))
    have kn_108 : Hid (c_51 41 20 = n0) := (hF_53 41 20 qn_7452710ff).trans ((up_n (by decide)).trans (hr_n0))
    have kn_109 : Hid (c_60 41 20 = n0) := (hF_62 41 20 qn_48ec56b4a).trans (hid kn_108)
    have kn_110 : Hid (c_80 41 20 = n0) := (hF_82 41 20 qn_282feb47b).trans (hid kn_109)
    have h_111 : (up c_80 41 8 (c_21 1 5)) 41 20 = n0 := ((up_n (by decide)).trans (hid kn_110))
    have kn_112 : Hid (c_51 41 21 = n1) := (hF_53 41 21 qn_b78d71421).trans ((up_n (by decide)).trans (hr_n1))
    have kn_113 : Hid (c_60 41 21 = n1) := (hF_62 41 21 qn_a544b0d39).trans (hid kn_112)
    have kn_114 : Hid (c_80 41 21 = n1) := (hF_82 41 21 qn_0dc73d421).trans (hid kn_113)
    have h_115 : (up c_80 41 8 (c_21 1 5)) 41 21 = n1 := ((up_n (by decide)).trans (hid kn_114))
    have kn_116 : Hid (c_51 41 22 = n2) := (hF_53 41 22 qn_702f7a732).trans ((up_n (by decide)).trans (hr_n2))
    have kn_117 : Hid (c_60 41 22 = n2) := (hF_62 41 22 qn_51a55d310).trans (hid kn_116)
    have kn_118 : Hid (c_80 41 22 = n2) := (hF_82 41 22 qn_22b56e317).trans (hid kn_117)
    have h_119 : (up c_80 41 8 (c_21 1 5)) 41 22 = n2 := ((up_n (by decide)).trans (hid kn_118))
    have kn_120 : Hid (c_51 41 23 = n3) := (hF_53 41 23 qn_b97c6324d).trans ((up_n (by decide)).trans (hr_n3))
    have kn_121 : Hid (c_60 41 23 = n3) := (hF_62 41 23 qn_d7064651c).trans (hid kn_120)
    have kn_122 : Hid (c_80 41 23 = n3) := (hF_82 41 23 qn_ea8766bb1).trans (hid kn_121)
    have h_123 : (up c_80 41 8 (c_21 1 5)) 41 23 = n3 := ((up_n (by decide)).trans (hid kn_122))
    have kn_124 : Hid (c_51 41 52 = im) := (hF_53 41 52 qn_29189991c).trans ((up_n (by decide)).trans (hr_im))
    have kn_125 : Hid (c_60 41 52 = im) := (hF_62 41 52 qn_f295bbde9).trans (hid kn_124)
    have kn_126 : Hid (c_80 41 52 = im) := (hF_82 41 52 qn_a9de43c1c).trans (hid kn_125)
    have h_127 : (up c_80 41 8 (c_21 1 5)) 41 52 = im := ((up_n (by decide)).trans (hid kn_126))
    have kn_128 : Hid (c_51 41 35 = wk) := (hF_53 41 35 qn_010af1ec6).trans ((up_n (by decide)).trans (hr_wk))
    have kn_129 : Hid (c_60 41 35 = wk) := (hF_62 41 35 qn_83d1451ee).trans (hid kn_128)
    have kn_130 : Hid (c_80 41 35 = wk) := (hF_82 41 35 qn_d8396dee5).trans (hid kn_129)
    have h_131 : (up c_80 41 8 (c_21 1 5)) 41 35 = wk := ((up_n (by decide)).trans (hid kn_130))
    exact K (up c_80 41 8 (c_21 1 5)) (c_21 1 4 - 10) hI_99 (fun a j hm => (up_b (Decidable.or_iff_not_imp_left.mpr (fun h1 h2 => hm (Or.inr (Or.inr (Or.inr (Or.inr (Or.inr (Or.inr (Or.inr (Or.inr (Or.inl ⟨Decidable.not_not.mp h1, h2⟩)))))))))))).trans ((hF_82 a j (qv_3a3bba8ab hm)).trans ((hF_62 a j (qv_701798ed8 hm)).trans ((hF_53 a j (qv_efbc52a90 hm)).trans (up_b (Decidable.or_iff_not_imp_left.mpr (fun h1 h2 => hm (Or.inl ⟨Decidable.not_not.mp h1, h2⟩)))))))) ⟨by omega, by omega⟩ (by first | exact q_e5f29e5a1 h_29 | omega) (by first | exact q_59baff7b3 h_54 h_55 | omega) (by first | exact q_88dc5fb99 h_32 | omega) (by first | assumption | omega) (by first | exact q_d8da297ae h_34 | omega) (by first | exact q_d8da297ae h_37 | omega) (by first | exact q_d8da297ae h_40 | omega) (by first | exact q_d8da297ae h_43 | omega) (by first | exact q_d8da297ae h_46 | omega) (Or.inr (by first | exact q_d8da297ae h_46 | omega)) (by first | exact q_d8da297ae h_49 | omega)
  · refine v_if_ne_f (t := 11) c_2_4 rfl (Decidable.not_not.mp h_26) (q_iconst c_2_7 (q_goto (t := 12) c_2_8 rfl (v_zret c_2_12 rfl (by decide) (bk_inl (v_if_eq_f (t := 81) c_84_26 rfl (by decide) (q_aload_n c_84_29 rfl (v_gr (t := P) c_84_30 kf_7_50 rfl (Nat.le_of_ble_eq_true rfl) rfl ?_)))))))
    refine q_astore_n c_84_33 (by decide) (q_aload_n c_84_34 rfl (q_aload_n c_84_35 rfl (v_gr (t := Q) c_84_36 kf_7_54 rfl (Nat.le_of_ble_eq_true rfl) rfl (v_pr (P' := Q) (Q' := Q) (N' := P) (T' := P) c_84_39 rfl rfl rfl (by decide) (Nat.lt_of_succ_le (Nat.le_of_ble_eq_true rfl)) (fun c => rfl) rfl (by decide) (fun b hb => ck_x0 hb) (q_aload_n rfl rfl (q_aload_n rfl rfl (v_pr (P' := Q) (Q' := P) (N' := P) (T' := P) rfl rfl rfl rfl (by decide) (Nat.lt_of_succ_le (Nat.le_of_ble_eq_true rfl)) (fun c => rfl) rfl (by decide) (fun b hb => ck_x0 hb) ?_)))))))
    refine Wp_ls [(0, .ref 0)] (lsub_cons rfl lsub_nil) ?_
    have h_132 := ir_p0_0 hI_22 hQ
    refine s_84u (P := Q) (Q := P) (iv_swap hI_22) (fun c_133 y_134 hI_135 hF_136 hy_137 h_138 h_139 => ?_)
    have h_140 := ir_3_3 hI_135
    have h_141 := ir_3_4 hI_135
    have h_142 := ir_0_11 hI_135
    intro hE_143
    have h_144 : yg = y_134 := (vi_inj ⟨by omega, by omega⟩ ⟨by omega, by omega⟩ (Option.some.inj (Sum.inl.inj (Prod.mk.inj hE_143).1))).symm
    have hW : Wd Q P Q Q c_133 = Wd P9 Q9 P9 P9 m9 := (Prod.mk.inj (Prod.mk.inj hE_143).2).1
    obtain ⟨hp9, hq9⟩ := wd_pq hW
    subst hp9
    subst hq9
    have h_145 := ir_1_5 hI_22
    have kn_146 : Hid (c_133 1 5 = c_21 1 5) := hF_136 1 5 qn_1d8f8ed06
    have h_147 := ir_1_5 hJ9
    have h_148 : m9 1 5 = c_21 1 5 := wd_fv (z := 5) 5 rfl hW rfl rfl rfl rfl (by decide) (hid kn_146) ⟨by first | exact q_a93a79546 h_145 | omega, by first | exact q_64fbdbf81 h_145 | omega⟩ ⟨(Int.le_trans (by decide) h_147.1), (Int.le_trans h_147.2 (by decide))⟩
    have kn_149 : Hid (c_133 Q 0 = c_21 Q 0) := hF_136 Q 0 (qn_60d8a0f85 hQ)
    have h_150 := ir_p0_0 hJ9 hQ
    have h_151 : m9 Q 0 = c_21 Q 0 := wd_fv (z := 0) 0 rfl hW (ck_A hQ) (ck_A hQ) rfl rfl (a68z hQ) (hid kn_149) ⟨(Int.le_trans (by decide) h_132.1), (Int.le_trans h_132.2 (by decide))⟩ ⟨(Int.le_trans (by decide) h_150.1), (Int.le_trans h_150.2 (by decide))⟩
    have h_152 := ir_p0_1 hI_22 hQ
    have kn_153 : Hid (c_133 Q 1 = c_21 Q 1) := hF_136 Q 1 (qn_60d8a0f85 hQ)
    have h_154 := ir_p0_1 hJ9 hQ
    have h_155 : m9 Q 1 = c_21 Q 1 := wd_fv (z := 1) 1 rfl hW (ck_A hQ) (ck_A hQ) rfl rfl (a68z hQ) (hid kn_153) ⟨by first | exact q_0bfe68f8e h_152 | omega, by first | exact q_82d4f69ff h_152 | omega⟩ ⟨(Int.le_trans (by decide) h_154.1), (Int.le_trans h_154.2 (by decide))⟩
    have h_156 := ir_p0_2 hI_22 hQ
    have kn_157 : Hid (c_133 Q 2 = c_21 Q 2) := hF_136 Q 2 (qn_60d8a0f85 hQ)
    have h_158 := ir_p0_2 hJ9 hQ
    have h_159 : m9 Q 2 = c_21 Q 2 := wd_fv (z := 2) 2 rfl hW (ck_A hQ) (ck_A hQ) rfl rfl (a68z hQ) (hid kn_157) ⟨by first | exact q_0bfe68f8e h_156 | omega, by first | exact q_82d4f69ff h_156 | omega⟩ ⟨(Int.le_trans (by decide) h_158.1), (Int.le_trans h_158.2 (by decide))⟩
    have h_160 := ir_p0_3 hI_22 hQ
    have kn_161 : Hid (c_133 Q 3 = c_21 Q 3) := hF_136 Q 3 (qn_60d8a0f85 hQ)
    have h_162 := ir_p0_3 hJ9 hQ
    have h_163 : m9 Q 3 = c_21 Q 3 := wd_fv (z := 3) 3 rfl hW (ck_A hQ) (ck_A hQ) rfl rfl (a68z hQ) (hid kn_161) ⟨by first | exact q_fe18d6d95 h_160 | omega, by first | exact q_5d4e5294a h_160 | omega⟩ ⟨(Int.le_trans (by decide) h_162.1), (Int.le_trans h_162.2 (by decide))⟩
    have h_164 := ir_3_4 hJ9
    have h_165 : m9 3 4 = c_133 3 4 := wd_fv (z := 4) 4 rfl hW rfl rfl rfl rfl (by decide) rfl ⟨(Int.le_trans (by decide) h_141.1), (Int.le_trans h_141.2 (by decide))⟩ ⟨(Int.le_trans (by decide) h_164.1), (Int.le_trans h_164.2 (by decide))⟩
    have h_166 := ir_3_3 hJ9
    have h_167 : m9 3 3 = c_133 3 3 := wd_fv (z := 3) 3 rfl hW rfl rfl rfl rfl (by decide) rfl ⟨(Int.le_trans (by decide) h_140.1), (Int.le_trans h_140.2 (by decide))⟩ ⟨(Int.le_trans (by decide) h_166.1), (Int.le_trans h_166.2 (by decide))⟩
    refine q_aload_n c_169_0 rfl (q_iconst c_169_1 (v_pi (z := 0) c_169_2 kf_8_3 rfl (Nat.le_of_ble_eq_true rfl) rfl rfl rfl (by decide) (q_aload_n c_169_5 rfl (q_iload_n c_169_6 rfl (v_if_lt_f (t := 22) c_169_7 rfl ⟨by decide, by first | exact q_8241eb4bd hq0 | omega, ha1.2⟩ (q_iload_n c_169_10 rfl (q_aload_n c_169_11 rfl ?_)))))))
    refine v_gi (z := 2) (v := t9) c_169_12 kf_8_99 rfl (Nat.le_of_ble_eq_true rfl) rfl rfl ((up_n (by decide)).trans (hr_t9)) (v_ic_gt_f (t := 22) c_169_15 rfl ⟨ha1.1, by first | exact q_f1a9820a9 hq0 | omega, (Int.le_trans (rg_eq hg_t9 h_1).2 (by decide))⟩ (q_iconst c_169_18 (q_goto (t := 23) c_169_19 rfl (q_iconst c_169_23 (q_iconst c_169_24 (v_cv c_169_25 km_8_203 rfl rfl (Nat.le_of_ble_eq_true rfl) ⟨⟨rfl, rfl⟩, Nat.le_of_ble_eq_true rfl, rfl⟩ (Nat.le_of_ble_eq_true rfl) (Nat.le_of_ble_eq_true rfl) (q_iload_n c_145_0 rfl ?_)))))))
    refine v_if_ne_t (t := 26) c_145_1 rfl (by decide) (q_aload_n c_145_26 rfl (v_gi (z := 0) (v := 0) c_145_27 kf_8_3 rfl (Nat.le_of_ble_eq_true rfl) rfl rfl (up_e rfl) (v_if_ne_f (t := 37) c_145_30 rfl (by decide) (q_iconst c_145_33 (q_goto (t := 38) c_145_34 rfl (v_zret c_145_38 rfl (by decide) (bk_inl ?_)))))))
    refine v_if_ne_t (t := 33) c_169_28 rfl (by decide) (q_aload_n c_169_33 rfl (q_iload_n c_169_34 rfl ?_))
    have hI_168 := iw_41_0 (v := 0) hI ⟨by decide, by decide⟩
    refine v_cv c_169_35 km_8_207 rfl rfl (Nat.le_of_ble_eq_true rfl) ⟨⟨rfl, rfl⟩, Nat.le_of_ble_eq_true rfl, rfl⟩ (Nat.le_of_ble_eq_true rfl) (Nat.le_of_ble_eq_true rfl) (s_163 (a1 := a1) hI_168 (show 0 ≤ a1 ∧ a1 ≤ 600 from ⟨by first | exact q_8241eb4bd hq0 | omega, by first | exact q_366480dfc hq0 | omega⟩) (fun c_169 hI_170 hF_171 h_172 => (bk_inl ?_)))
    have h_173 := ir_41_2 hI_170
    have h_174 := ir_41_3 hI_170
    have h_175 := ir_41_4 hI_170
    have h_176 := ir_41_5 hI_170
    have h_177 := ir_41_7 hI_170
    refine q_aload_n c_169_38 rfl (v_cv c_169_39 km_8_93 rfl rfl (Nat.le_of_ble_eq_true rfl) ⟨⟨rfl, rfl⟩, Nat.le_of_ble_eq_true rfl, rfl⟩ (Nat.le_of_ble_eq_true rfl) (Nat.le_of_ble_eq_true rfl) (s_147 hI_170 (fun c_178 hI_179 hF_180 h_181 => (bk_inl ?_))))
    have h_182 := ir_41_16 hI_179
    have h_183 := ir_41_17 hI_179
    have h_184 := ir_41_18 hI_179
    have h_185 := ir_41_19 hI_179
    refine q_iconst c_169_42 (q_istore_n c_169_43 (Nat.le_of_ble_eq_true rfl) (Wp_ls [(0, .ref 41), (1, vi a1), (2, vi 0)] (lsub_cons rfl (lsub_cons rfl (lsub_cons rfl lsub_nil))) ?_))
    have kn_186 : Hid (c_178 41 3 = c_169 41 3) := hF_180 41 3 qn_de2c377ca
    have h_187 : (up (up (up (up (up m 1 1 y_15) 1 2 0) 1 3 0) 1 4 0) 1 5 (-1)) 1 4 = 0 := ((up_n (by decide)).trans (up_e rfl))
    have h_188 : (up (up (up (up (up m 1 1 y_15) 1 2 0) 1 3 0) 1 4 0) 1 5 (-1)) 1 2 = 0 := ((up_n (by decide)).trans ((up_n (by decide)).trans ((up_n (by decide)).trans (up_e rfl))))
    have h_189 : (up (up (up (up (up m 1 1 y_15) 1 2 0) 1 3 0) 1 4 0) 1 5 (-1)) 1 5 = (-1) := (up_e rfl)
    have kn_190 : Hid (c_178 41 5 = c_169 41 5) := hF_180 41 5 qn_910516fcd
    have h_191 : c_178 41 5 = c_169 41 5 := (hid kn_190)
    have kn_192 : Hid (c_178 41 4 = c_169 41 4) := hF_180 41 4 qn_650f73a3f
    have h_193 : c_178 41 4 = c_169 41 4 := (hid kn_192)
    have h_194 := ir_41_6 hI
    have kn_195 : Hid (c_169 41 6 = c 41 6) := (hF_171 41 6 qn_eb0d473e8).trans (up_n (by decide))
    have kn_196 : Hid (c_178 41 6 = c 41 6) := (hF_180 41 6 qn_f359bb820).trans (hid kn_195)
    have h_197 : c_178 41 6 = c 41 6 := (hid kn_196)
    refine L_34 (m := up (up (up (up (up m 1 1 y_15) 1 2 0) 1 3 0) 1 4 0) 1 5 (-1)) (a1 := a1) (e1 := y_15) (f0 := 0) (g0 := (-1)) (z0 := c_178 41 16) (z1 := c_178 41 17) (z2 := c_178 41 18) (z3 := c_178 41 19) (F := F) (H := H) hI_179 hI_20 hI_22 hQ (show (-2147483648) ≤ a1 ∧ a1 ≤ 2147483647 from ha1) (by first | assumption | omega) (by first | assumption | omega) (by first | exact q_ef9b3060e h_181 h_182 | omega) (by first | exact q_b557f8ccc h_181 h_183 | omega) (by first | exact q_663c66ce4 h_181 h_184 | omega) (by first | exact q_3d4c19553 h_181 | omega) (((up_n (by decide)).trans ((up_n (by decide)).trans ((up_n (by decide)).trans ((up_n (by decide)).trans (up_e rfl)))))) (((show _ = c_169 41 3 from (hid kn_186)).trans (by first | assumption | exact Int.le_antisymm (by first | (clear ha1 h_1 hg_t9 h_2 hr_t9 h_3 hg_n0 h_4 hr_n0 h_5 hg_n1 h_6 hr_n1 h_7 hg_n2 h_8 hr_n2 h_9 hg_n3 h_10 hr_n3 h_11 hg_im h_12 hr_im h_13 hg_wk h_14 hr_wk h_25 h_26 h_132 h_140 h_141 h_142 h_144 h_145 h_147 h_148 h_150 h_151 h_152 h_154 h_155 h_156 h_158 h_159 h_160 h_162 h_163 h_164 h_165 h_166 h_167 h_173 h_174 h_175 h_176 h_177 h_182 h_183 h_184 h_185 h_181; omega) | omega) (by first | (clear ha1 hq0 h_1 hg_t9 h_2 hr_t9 h_3 hg_n0 h_4 hr_n0 h_5 hg_n1 h_6 hr_n1 h_7 hg_n2 h_8 hr_n2 h_9 hg_n3 h_10 hr_n3 h_11 hg_im h_12 hr_im h_13 hg_wk h_14 hr_wk h_25 h_26 h_132 h_140 h_141 h_142 h_144 h_145 h_147 h_148 h_150 h_151 h_152 h_154 h_155 h_156 h_158 h_159 h_160 h_162 h_163 h_164 h_165 h_166 h_167 h_173 h_174 h_175 h_176 h_177 h_182 h_183 h_184 h_185 h_181; omega) | omega)))) (((up_n (by decide)).trans (up_e rfl))) ((up_e rfl)) (rfl) (rfl) (rfl) (rfl) (fun j => ((up_c (nn rfl)).trans ((up_c (nn rfl)).trans ((up_c (nn rfl)).trans ((up_c (nn rfl)).trans (up_c (nn rfl)))))).trans (hF j)) (fun j => ((hF_180 43 j qn_1d27fc2bc).trans ((hF_171 43 j qn_78d42cb5c).trans (up_c (nn rfl)))).trans (hH j)) hU (rt_i1 ⟨by first | assumption | omega, by first | exact q_6d0a553af h_172 h_176 | omega, by first | exact q_a7ddc6b3b h_172 h_175 | omega, by first | assumption | omega⟩) hG_24 (fun c_198 hI_199 hF_200 hR_202 h_203 => ?_)
    have h_204 := ir_41_16 hI_199
    have h_205 := ir_41_17 hI_199
    have h_206 := ir_41_18 hI_199
    have h_207 := ir_41_19 hI_199
    refine q_aload_n c_169_136 rfl (q_aload_n c_169_137 rfl (v_gi (z := 16) (v := c_198 41 16) c_169_138 kf_8_145 rfl (Nat.le_of_ble_eq_true rfl) rfl rfl rfl (v_cv c_169_141 km_8_232 rfl rfl (Nat.le_of_ble_eq_true rfl) ⟨⟨rfl, rfl⟩, Nat.le_of_ble_eq_true rfl, rfl⟩ (Nat.le_of_ble_eq_true rfl) (Nat.le_of_ble_eq_true rfl) (q_aload_n c_164_0 rfl (q_aload_n c_164_1 rfl ?_)))))
    have h_208 := ir_41_5 hI_199
    have h_209 := ir_1_2 hI_22
    have h_210 := ir_41_4 hI_199
    have h_211 := ir_41_6 hI_199
    have h_212 := rt_ok hR_202 (by first | exact q_163d1c5eb h_25 h_26 | omega)
    have hro_hR_202 := rt_ok hR_202 (by first | exact q_163d1c5eb h_25 h_26 | omega)
    refine v_gi (z := 5) (v := (-1)) c_164_2 kf_8_102 rfl (Nat.le_of_ble_eq_true rfl) rfl rfl hro_hR_202.2.1 (v_pi (z := 8) c_164_5 kf_8_17 rfl (Nat.le_of_ble_eq_true rfl) rfl rfl rfl (by decide) (q_aload_n c_164_8 rfl (v_cv c_164_9 km_8_131 rfl rfl (Nat.le_of_ble_eq_true rfl) ⟨⟨rfl, rfl⟩, Nat.le_of_ble_eq_true rfl, rfl⟩ (Nat.le_of_ble_eq_true rfl) (Nat.le_of_ble_eq_true rfl) (q_aload_n c_152_0 rfl (v_gi (z := 5) (v := (-1)) c_152_1 kf_8_102 rfl (Nat.le_of_ble_eq_true rfl) rfl rfl (((up_n (by decide))).trans (hro_hR_202.2.1)) (q_iconst c_152_4 (v_ic_ne_f (t := 12) c_152_5 rfl (by decide) ?_)))))))
    refine q_iconst c_152_8 (q_goto (t := 13) c_152_9 rfl (v_zret c_152_13 rfl (by decide) (bk_inl (v_if_eq_f (t := 19) c_164_12 rfl (by decide) (q_iload_n c_164_15 rfl (q_goto (t := 26) c_164_16 rfl (q_iret c_164_26 rfl ?_)))))))
    refine bk_inl (q_istore_n c_169_144 (Nat.le_of_ble_eq_true rfl) (q_aload_n c_169_145 rfl (v_gi (z := 5) (v := (-1)) c_169_146 kf_8_102 rfl (Nat.le_of_ble_eq_true rfl) rfl rfl (((up_n (by decide))).trans (hro_hR_202.2.1)) (q_iconst c_169_149 (v_ic_ne_f (t := 157) c_169_150 rfl (by decide) (q_aload_n c_169_153 rfl ?_))))))
    have hI_213 := iw_41_8 (v := (-1)) hI_199 ⟨by decide, by decide⟩
    have h_214 : (up c_198 41 8 (-1)) 41 16 = c_198 41 16 := (up_n (by decide))
    have h_215 : (up c_198 41 8 (-1)) 41 17 = c_198 41 17 := (up_n (by decide))
    have h_216 : (up c_198 41 8 (-1)) 41 18 = c_198 41 18 := (up_n (by decide))
    have h_217 : (up c_198 41 8 (-1)) 41 19 = c_198 41 19 := (up_n (by decide))
    refine v_cv c_169_154 km_8_96 rfl rfl (Nat.le_of_ble_eq_true rfl) ⟨⟨rfl, rfl⟩, Nat.le_of_ble_eq_true rfl, rfl⟩ (Nat.le_of_ble_eq_true rfl) (Nat.le_of_ble_eq_true rfl) (s_149 (iv_open hI_213) (fun c_218 hI_219 hF_220 h_221 => (bk_inl ?_)))
    have h_222 := ir_41_20 hI_219
    have h_223 := ir_41_21 hI_219
    have h_224 := ir_41_22 hI_219
    have h_225 := ir_41_23 hI_219
    have h_226 := ir_41_30 hI_219
    have h_227 := ir_41_35 hI_219
    have h_228 := ir_41_36 hI_219
    have h_229 := ir_41_47 hI_219
    have h_230 := ir_41_48 hI_219
    have h_231 := ir_41_52 hI_219
    refine q_iload_n c_169_157 rfl (q_iret c_169_158 rfl ?_)
    have kn_232 : Hid (c_178 41 2 = c_169 41 2) := hF_180 41 2 qn_d1f210dd4
    have kn_233 : Hid (c_198 41 2 = c_169 41 2) := (hF_200 41 2 qn_c33c5b2f3).trans (hid kn_232)
    have kn_234 : Hid (c_218 41 2 = c_169 41 2) := (hF_220 41 2 qn_040eefb90).trans ((up_n (by decide)).trans (hid kn_233))
    have h_235 : c_218 41 2 = c_169 41 2 := (hid kn_234)
    have kn_236 : Hid (c_218 41 8 = (-1)) := (hF_220 41 8 qn_bd6eb8e87).trans (up_e rfl)
    have h_237 : c_218 41 8 = (-1) := (hid kn_236)
    have kn_238 : Hid (c_169 41 0 = 0) := (hF_171 41 0 qn_18af663b8).trans (up_e rfl)
    have kn_239 : Hid (c_178 41 0 = 0) := (hF_180 41 0 qn_75150763a).trans (hid kn_238)
    have kn_240 : Hid (c_198 41 0 = 0) := (hF_200 41 0 qn_77f099881).trans (hid kn_239)
    have kn_241 : Hid (c_218 41 0 = 0) := (hF_220 41 0 qn_0f8f6c114).trans ((up_n (by decide)).trans (hid kn_240))
    have h_242 : c_218 41 0 = 0 := (hid kn_241)
    exact K c_218 (c_198 41 16) hI_219 (fun a j hm => (hF_220 a j (qv_001693c50 hm)).trans ((up_b (Decidable.or_iff_not_imp_left.mpr (fun h1 h2 => hm (Or.inr (Or.inr (Or.inr (Or.inr (Or.inr (Or.inr (Or.inr (Or.inr (Or.inl ⟨Decidable.not_not.mp h1, h2⟩)))))))))))).trans ((hF_200 a j (qv_3a3bba8ab hm)).trans ((hF_180 a j (qv_701798ed8 hm)).trans ((hF_171 a j (qv_efbc52a90 hm)).trans (up_b (Decidable.or_iff_not_imp_left.mpr (fun h1 h2 => hm (Or.inl ⟨Decidable.not_not.mp h1, h2⟩))))))))) ⟨by omega, by omega⟩ (by first | (clear ha1 hq0 h_1 hg_t9 h_2 hr_t9 h_3 hg_n0 h_4 hr_n0 h_5 hg_n1 h_6 hr_n1 h_7 hg_n2 h_8 hr_n2 h_9 hg_n3 h_10 hr_n3 h_11 hg_im h_12 hr_im h_13 hg_wk h_14 hr_wk h_25 h_132 h_140 h_141 h_142 h_145 h_147 h_148 h_150 h_151 h_152 h_154 h_155 h_156 h_158 h_159 h_160 h_162 h_163 h_164 h_165 h_166 h_167 h_173 h_174 h_175 h_176 h_177 h_172 h_182 h_183 h_184 h_185 h_181 h_194 h_204 h_205 h_206 h_207 h_208 h_209 h_210 h_211 h_212 h_222 h_223 h_224 h_225 h_226 h_227 h_228 h_229 h_230 h_231 h_221; omega) | omega) (by first | exact q_59baff7b3 h_172 h_173 | omega) (by first | exact q_019e65e0c h_147 h_148 h_212 | omega) (by first | assumption | omega) (by first | (clear ha1 hq0 h_1 hg_t9 h_2 hr_t9 h_3 hg_n0 h_4 hr_n0 h_5 hg_n1 h_6 hr_n1 h_7 hg_n2 h_8 hr_n2 h_9 hg_n3 h_10 hr_n3 h_11 hg_im h_12 hr_im h_13 hg_wk h_14 hr_wk h_132 h_140 h_141 h_142 h_144 h_145 h_147 h_148 h_150 h_152 h_154 h_155 h_156 h_158 h_159 h_160 h_162 h_163 h_164 h_165 h_166 h_167 h_173 h_174 h_175 h_176 h_177 h_172 h_182 h_183 h_184 h_185 h_181 h_194 h_204 h_205 h_206 h_207 h_208 h_209 h_210 h_211 h_212 h_222 h_223 h_224 h_225 h_226 h_227 h_228 h_229 h_230 h_231; omega) | omega) (by first | (clear ha1 hq0 h_1 hg_t9 h_2 hr_t9 h_3 hg_n0 h_4 hr_n0 h_5 hg_n1 h_6 hr_n1 h_7 hg_n2 h_8 hr_n2 h_9 hg_n3 h_10 hr_n3 h_11 hg_im h_12 hr_im h_13 hg_wk h_14 hr_wk h_132 h_140 h_141 h_142 h_144 h_145 h_147 h_148 h_150 h_151 h_152 h_154 h_156 h_158 h_159 h_160 h_162 h_163 h_164 h_165 h_166 h_167 h_173 h_174 h_175 h_176 h_177 h_172 h_182 h_183 h_184 h_185 h_181 h_194 h_204 h_205 h_206 h_207 h_208 h_209 h_210 h_211 h_212 h_222 h_223 h_224 h_225 h_226 h_227 h_228 h_229 h_230 h_231; omega) | omega) (by first | (clear ha1 hq0 h_1 hg_t9 h_2 hr_t9 h_3 hg_n0 h_4 hr_n0 h_5 hg_n1 h_6 hr_n1 h_7 hg_n2 h_8 hr_n2 h_9 hg_n3 h_10 hr_n3 h_11 hg_im h_12 hr_im h_13 hg_wk h_14 hr_wk h_132 h_140 h_141 h_142 h_144 h_145 h_147 h_148 h_150 h_151 h_152 h_154 h_155 h_156 h_158 h_160 h_162 h_163 h_164 h_165 h_166 h_167 h_173 h_174 h_175 h_176 h_177 h_172 h_182 h_183 h_184 h_185 h_181 h_194 h_204 h_205 h_206 h_207 h_208 h_209 h_210 h_211 h_212 h_222 h_223 h_224 h_225 h_226 h_227 h_228 h_229 h_230 h_231; omega) | omega) (by first | (clear ha1 hq0 h_1 hg_t9 h_2 hr_t9 h_3 hg_n0 h_4 hr_n0 h_5 hg_n1 h_6 hr_n1 h_7 hg_n2 h_8 hr_n2 h_9 hg_n3 h_10 hr_n3 h_11 hg_im h_12 hr_im h_13 hg_wk h_14 hr_wk h_132 h_140 h_141 h_142 h_144 h_145 h_147 h_148 h_150 h_151 h_152 h_154 h_155 h_156 h_158 h_159 h_160 h_162 h_164 h_165 h_166 h_167 h_173 h_174 h_175 h_176 h_177 h_172 h_182 h_183 h_184 h_185 h_181 h_194 h_204 h_205 h_206 h_207 h_208 h_209 h_210 h_211 h_212 h_222 h_223 h_224 h_225 h_226 h_227 h_228 h_229 h_230 h_231; omega) | omega) (by first | (clear ha1 hq0 h_1 hg_t9 h_2 hr_t9 h_3 hg_n0 h_4 hr_n0 h_5 hg_n1 h_6 hr_n1 h_7 hg_n2 h_8 hr_n2 h_9 hg_n3 h_10 hr_n3 h_11 hg_im h_12 hr_im h_13 hg_wk h_14 hr_wk h_25 h_26 h_132 h_140 h_142 h_144 h_145 h_147 h_148 h_150 h_151 h_152 h_154 h_155 h_156 h_158 h_159 h_160 h_162 h_163 h_166 h_167 h_173 h_174 h_175 h_176 h_177 h_172 h_182 h_183 h_184 h_185 h_181 h_194 h_204 h_205 h_206 h_207 h_208 h_209 h_210 h_211 h_212 h_222 h_223 h_224 h_225 h_226 h_227 h_228 h_229 h_230 h_203; omega) | omega) (Or.inl (by first | (clear ha1 hq0 h_1 hg_t9 h_2 hr_t9 h_3 hg_n0 h_4 hr_n0 h_5 hg_n1 h_6 hr_n1 h_7 hg_n2 h_8 hr_n2 h_9 hg_n3 h_10 hr_n3 h_11 hg_im h_12 hr_im h_13 hg_wk h_14 hr_wk h_25 h_26 h_132 h_140 h_142 h_144 h_145 h_147 h_148 h_150 h_151 h_152 h_154 h_155 h_156 h_158 h_159 h_160 h_162 h_163 h_166 h_167 h_173 h_174 h_175 h_176 h_177 h_172 h_182 h_183 h_184 h_185 h_181 h_194 h_204 h_205 h_206 h_207 h_208 h_209 h_210 h_211 h_212 h_222 h_223 h_224 h_225 h_226 h_227 h_228 h_229 h_230 h_231 h_221 h_203; omega) | omega)) (by first | (clear ha1 hq0 h_1 hg_t9 h_2 hr_t9 h_3 hg_n0 h_4 hr_n0 h_5 hg_n1 h_6 hr_n1 h_7 hg_n2 h_8 hr_n2 h_9 hg_n3 h_10 hr_n3 h_11 hg_im h_12 hr_im h_13 hg_wk h_14 hr_wk h_25 h_26 h_132 h_141 h_142 h_144 h_145 h_147 h_148 h_150 h_151 h_152 h_154 h_155 h_156 h_158 h_159 h_160 h_162 h_163 h_164 h_165 h_173 h_174 h_175 h_176 h_177 h_172 h_182 h_183 h_184 h_185 h_181 h_194 h_204 h_205 h_206 h_207 h_208 h_209 h_210 h_211 h_212 h_222 h_223 h_224 h_225 h_226 h_228 h_229 h_230 h_231 h_203; omega) | omega)

