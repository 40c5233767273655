/-! ===== the calls of the law 1 ===== -/
theorem qn_69e479294 {j : Int} : ¬ (((1 : Nat) = 41 ∧ j = 0) ∨ (1 : Nat) = 42 ∨ ((1 : Nat) = 41 ∧ j = 2) ∨ ((1 : Nat) = 41 ∧ j = 3) ∨ ((1 : Nat) = 41 ∧ j = 4) ∨ ((1 : Nat) = 41 ∧ j = 5) ∨ ((1 : Nat) = 41 ∧ j = 6) ∨ ((1 : Nat) = 41 ∧ j = 7) ∨ ((1 : Nat) = 41 ∧ j = 8) ∨ ((1 : Nat) = 41 ∧ j = 16) ∨ ((1 : Nat) = 41 ∧ j = 17) ∨ ((1 : Nat) = 41 ∧ j = 18) ∨ ((1 : Nat) = 41 ∧ j = 19) ∨ (1 : Nat) = 44 ∨ (1 : Nat) = 45 ∨ (1 : Nat) = 46 ∨ ((1 : Nat) = 41 ∧ j = 20) ∨ ((1 : Nat) = 41 ∧ j = 21) ∨ ((1 : Nat) = 41 ∧ j = 22) ∨ ((1 : Nat) = 41 ∧ j = 23) ∨ ((1 : Nat) = 41 ∧ j = 30) ∨ ((1 : Nat) = 41 ∧ j = 35) ∨ ((1 : Nat) = 41 ∧ j = 36) ∨ ((1 : Nat) = 41 ∧ j = 47) ∨ ((1 : Nat) = 41 ∧ j = 48) ∨ ((1 : Nat) = 41 ∧ j = 52) ∨ (1 : Nat) = 47 ∨ (1 : Nat) = 48 ∨ (1 : Nat) = 49 ∨ (1 : Nat) = 58 ∨ (1 : Nat) = 64) := (fun q => q.elim (fun h => absurd h.1 (nn rfl)) (fun q => q.elim (fun h => absurd h (nn rfl)) (fun q => q.elim (fun h => absurd h.1 (nn rfl)) (fun q => q.elim (fun h => absurd h.1 (nn rfl)) (fun q => q.elim (fun h => absurd h.1 (nn rfl)) (fun q => q.elim (fun h => absurd h.1 (nn rfl)) (fun q => q.elim (fun h => absurd h.1 (nn rfl)) (fun q => q.elim (fun h => absurd h.1 (nn rfl)) (fun q => q.elim (fun h => absurd h.1 (nn rfl)) (fun q => q.elim (fun h => absurd h.1 (nn rfl)) (fun q => q.elim (fun h => absurd h.1 (nn rfl)) (fun q => q.elim (fun h => absurd h.1 (nn rfl)) (fun q => q.elim (fun h => absurd h.1 (nn rfl)) (fun q => q.elim (fun h => absurd h (nn rfl)) (fun q => q.elim (fun h => absurd h (nn rfl)) (fun q => q.elim (fun h => absurd h (nn rfl)) (fun q => q.elim (fun h => absurd h.1 (nn rfl)) (fun q => q.elim (fun h => absurd h.1 (nn rfl)) (fun q => q.elim (fun h => absurd h.1 (nn rfl)) (fun q => q.elim (fun h => absurd h.1 (nn rfl)) (fun q => q.elim (fun h => absurd h.1 (nn rfl)) (fun q => q.elim (fun h => absurd h.1 (nn rfl)) (fun q => q.elim (fun h => absurd h.1 (nn rfl)) (fun q => q.elim (fun h => absurd h.1 (nn rfl)) (fun q => q.elim (fun h => absurd h.1 (nn rfl)) (fun q => q.elim (fun h => absurd h.1 (nn rfl)) (fun q => q.elim (fun h => absurd h (nn rfl)) (fun q => q.elim (fun h => absurd h (nn rfl)) (fun q => q.elim (fun h => absurd h (nn rfl)) (fun q => q.elim (fun h => absurd h (nn rfl)) (fun h => absurd h (nn rfl))))))))))))))))))))))))))))))))
theorem qn_1ac48cb63 {j : Int} : ¬ (((2 : Nat) = 41 ∧ j = 0) ∨ (2 : Nat) = 42 ∨ ((2 : Nat) = 41 ∧ j = 2) ∨ ((2 : Nat) = 41 ∧ j = 3) ∨ ((2 : Nat) = 41 ∧ j = 4) ∨ ((2 : Nat) = 41 ∧ j = 5) ∨ ((2 : Nat) = 41 ∧ j = 6) ∨ ((2 : Nat) = 41 ∧ j = 7) ∨ ((2 : Nat) = 41 ∧ j = 8) ∨ ((2 : Nat) = 41 ∧ j = 16) ∨ ((2 : Nat) = 41 ∧ j = 17) ∨ ((2 : Nat) = 41 ∧ j = 18) ∨ ((2 : Nat) = 41 ∧ j = 19) ∨ (2 : Nat) = 44 ∨ (2 : Nat) = 45 ∨ (2 : Nat) = 46 ∨ ((2 : Nat) = 41 ∧ j = 20) ∨ ((2 : Nat) = 41 ∧ j = 21) ∨ ((2 : Nat) = 41 ∧ j = 22) ∨ ((2 : Nat) = 41 ∧ j = 23) ∨ ((2 : Nat) = 41 ∧ j = 30) ∨ ((2 : Nat) = 41 ∧ j = 35) ∨ ((2 : Nat) = 41 ∧ j = 36) ∨ ((2 : Nat) = 41 ∧ j = 47) ∨ ((2 : Nat) = 41 ∧ j = 48) ∨ ((2 : Nat) = 41 ∧ j = 52) ∨ (2 : Nat) = 47 ∨ (2 : Nat) = 48 ∨ (2 : Nat) = 49 ∨ (2 : Nat) = 58 ∨ (2 : Nat) = 64) := (fun q => q.elim (fun h => absurd h.1 (nn rfl)) (fun q => q.elim (fun h => absurd h (nn rfl)) (fun q => q.elim (fun h => absurd h.1 (nn rfl)) (fun q => q.elim (fun h => absurd h.1 (nn rfl)) (fun q => q.elim (fun h => absurd h.1 (nn rfl)) (fun q => q.elim (fun h => absurd h.1 (nn rfl)) (fun q => q.elim (fun h => absurd h.1 (nn rfl)) (fun q => q.elim (fun h => absurd h.1 (nn rfl)) (fun q => q.elim (fun h => absurd h.1 (nn rfl)) (fun q => q.elim (fun h => absurd h.1 (nn rfl)) (fun q => q.elim (fun h => absurd h.1 (nn rfl)) (fun q => q.elim (fun h => absurd h.1 (nn rfl)) (fun q => q.elim (fun h => absurd h.1 (nn rfl)) (fun q => q.elim (fun h => absurd h (nn rfl)) (fun q => q.elim (fun h => absurd h (nn rfl)) (fun q => q.elim (fun h => absurd h (nn rfl)) (fun q => q.elim (fun h => absurd h.1 (nn rfl)) (fun q => q.elim (fun h => absurd h.1 (nn rfl)) (fun q => q.elim (fun h => absurd h.1 (nn rfl)) (fun q => q.elim (fun h => absurd h.1 (nn rfl)) (fun q => q.elim (fun h => absurd h.1 (nn rfl)) (fun q => q.elim (fun h => absurd h.1 (nn rfl)) (fun q => q.elim (fun h => absurd h.1 (nn rfl)) (fun q => q.elim (fun h => absurd h.1 (nn rfl)) (fun q => q.elim (fun h => absurd h.1 (nn rfl)) (fun q => q.elim (fun h => absurd h.1 (nn rfl)) (fun q => q.elim (fun h => absurd h (nn rfl)) (fun q => q.elim (fun h => absurd h (nn rfl)) (fun q => q.elim (fun h => absurd h (nn rfl)) (fun q => q.elim (fun h => absurd h (nn rfl)) (fun h => absurd h (nn rfl))))))))))))))))))))))))))))))))
theorem qn_d1a559e74 {j : Int} : ¬ (((41 : Nat) = 1 ∧ j = 1) ∨ ((41 : Nat) = 1 ∧ j = 2) ∨ ((41 : Nat) = 1 ∧ j = 3) ∨ ((41 : Nat) = 1 ∧ j = 4) ∨ ((41 : Nat) = 1 ∧ j = 5) ∨ ((41 : Nat) = 0 ∧ j = 13) ∨ (41 : Nat) = 38 ∨ (41 : Nat) = 40 ∨ ((41 : Nat) = 3 ∧ j = 3) ∨ ((41 : Nat) = 3 ∧ j = 4) ∨ ((41 : Nat) = 0 ∧ j = 11) ∨ (13 ≤ (41 : Nat) ∧ (41 : Nat) ≤ 36)) := (fun q => q.elim (fun h => absurd h.1 (nn rfl)) (fun q => q.elim (fun h => absurd h.1 (nn rfl)) (fun q => q.elim (fun h => absurd h.1 (nn rfl)) (fun q => q.elim (fun h => absurd h.1 (nn rfl)) (fun q => q.elim (fun h => absurd h.1 (nn rfl)) (fun q => q.elim (fun h => absurd h.1 (nn rfl)) (fun q => q.elim (fun h => absurd h (nn rfl)) (fun q => q.elim (fun h => absurd h (nn rfl)) (fun q => q.elim (fun h => absurd h.1 (nn rfl)) (fun q => q.elim (fun h => absurd h.1 (nn rfl)) (fun q => q.elim (fun h => absurd h.1 (nn rfl)) (fun h => absurd h.2 (by decide)))))))))))))
theorem q_46e5c6368 {x0 x1 x2 : Int} (f0 : (x0 = 0 ∧ x1 ≥ 0 ∧ x1 ≤ x2 ∧ x1 ≤ 600)) : (-2147483648) ≤ x1 := by omega
theorem q_e1f83221f {x0 x1 x2 : Int} (f0 : (x0 = 0 ∧ x1 ≥ 0 ∧ x1 ≤ x2 ∧ x1 ≤ 600)) : x1 ≤ 2147483647 := by omega
theorem qn_e229611f6 {j : Int} : ¬ (((2 : Nat) = 1 ∧ j = 1) ∨ ((2 : Nat) = 1 ∧ j = 2) ∨ ((2 : Nat) = 1 ∧ j = 3) ∨ ((2 : Nat) = 1 ∧ j = 4) ∨ ((2 : Nat) = 1 ∧ j = 5) ∨ ((2 : Nat) = 0 ∧ j = 13) ∨ (2 : Nat) = 38 ∨ (2 : Nat) = 40 ∨ ((2 : Nat) = 3 ∧ j = 3) ∨ ((2 : Nat) = 3 ∧ j = 4) ∨ ((2 : Nat) = 0 ∧ j = 11) ∨ (13 ≤ (2 : Nat) ∧ (2 : Nat) ≤ 36)) := (fun q => q.elim (fun h => absurd h.1 (nn rfl)) (fun q => q.elim (fun h => absurd h.1 (nn rfl)) (fun q => q.elim (fun h => absurd h.1 (nn rfl)) (fun q => q.elim (fun h => absurd h.1 (nn rfl)) (fun q => q.elim (fun h => absurd h.1 (nn rfl)) (fun q => q.elim (fun h => absurd h.1 (nn rfl)) (fun q => q.elim (fun h => absurd h (nn rfl)) (fun q => q.elim (fun h => absurd h (nn rfl)) (fun q => q.elim (fun h => absurd h.1 (nn rfl)) (fun q => q.elim (fun h => absurd h.1 (nn rfl)) (fun q => q.elim (fun h => absurd h.1 (nn rfl)) (fun h => absurd h.1 (by decide)))))))))))))
theorem qn_0d25b8d75 {j : Int} : ¬ (((43 : Nat) = 1 ∧ j = 1) ∨ ((43 : Nat) = 1 ∧ j = 2) ∨ ((43 : Nat) = 1 ∧ j = 3) ∨ ((43 : Nat) = 1 ∧ j = 4) ∨ ((43 : Nat) = 1 ∧ j = 5) ∨ ((43 : Nat) = 0 ∧ j = 13) ∨ (43 : Nat) = 38 ∨ (43 : Nat) = 40 ∨ ((43 : Nat) = 3 ∧ j = 3) ∨ ((43 : Nat) = 3 ∧ j = 4) ∨ ((43 : Nat) = 0 ∧ j = 11) ∨ (13 ≤ (43 : Nat) ∧ (43 : Nat) ≤ 36)) := (fun q => q.elim (fun h => absurd h.1 (nn rfl)) (fun q => q.elim (fun h => absurd h.1 (nn rfl)) (fun q => q.elim (fun h => absurd h.1 (nn rfl)) (fun q => q.elim (fun h => absurd h.1 (nn rfl)) (fun q => q.elim (fun h => absurd h.1 (nn rfl)) (fun q => q.elim (fun h => absurd h.1 (nn rfl)) (fun q => q.elim (fun h => absurd h (nn rfl)) (fun q => q.elim (fun h => absurd h (nn rfl)) (fun q => q.elim (fun h => absurd h.1 (nn rfl)) (fun q => q.elim (fun h => absurd h.1 (nn rfl)) (fun q => q.elim (fun h => absurd h.1 (nn rfl)) (fun h => absurd h.2 (by decide)))))))))))))
theorem q_c05c968ed {x0 : Int} (f0 : ¬ (x0 < 0)) : (-2147483648) ≤ x0 := by omega
theorem q_c2c15a399 {x0 x1 : Int} (f0 : 0 ≤ x0 ∧ x0 ≤ 600) (f1 : ¬ (x1 > x0)) : x1 ≤ 2147483647 := by omega
theorem qn_7f524237d {P : Nat} {j : Int} (hP : P = 13 ∨ P = 25) : ¬ (((41 : Nat) = 1 ∧ j = 1) ∨ ((41 : Nat) = 1 ∧ j = 2) ∨ ((41 : Nat) = 1 ∧ j = 3) ∨ ((41 : Nat) = 1 ∧ j = 4) ∨ ((41 : Nat) = 1 ∧ j = 5) ∨ ((41 : Nat) = 0 ∧ j = 13) ∨ ((41 : Nat) = (P + 7) ∧ j = 5) ∨ (41 : Nat) = (P + 9) ∨ ((41 : Nat) = (P + 7) ∧ j = 4) ∨ (41 : Nat) = (P + 8)) := (fun q => q.elim (fun h => absurd h.1 (nn rfl)) (fun q => q.elim (fun h => absurd h.1 (nn rfl)) (fun q => q.elim (fun h => absurd h.1 (nn rfl)) (fun q => q.elim (fun h => absurd h.1 (nn rfl)) (fun q => q.elim (fun h => absurd h.1 (nn rfl)) (fun q => q.elim (fun h => absurd h.1 (nn rfl)) (fun q => q.elim (fun h => absurd h.1 (pn hP rfl rfl)) (fun q => q.elim (fun h => absurd h (pn hP rfl rfl)) (fun q => q.elim (fun h => absurd h.1 (pn hP rfl rfl)) (fun h => absurd h (pn hP rfl rfl)))))))))))
theorem q_7d59b2af6 {x0 x1 x2 : Int} (f0 : (x0 = 0 ∧ x1 ≥ 0 ∧ x1 ≤ x2 ∧ x1 ≤ 150)) : (-2147483648) ≤ x1 := by omega
theorem q_307fd138a {x0 x1 x2 : Int} (f0 : (x0 = 0 ∧ x1 ≥ 0 ∧ x1 ≤ x2 ∧ x1 ≤ 150)) : x1 ≤ 2147483647 := by omega
theorem q_4e1f9514d {x0 x1 x2 : Int} (f0 : (x0 = 0 ∧ x1 ≥ 0 ∧ x1 ≤ x2 ∧ x1 ≤ 150)) : 0 ≤ x1 := by omega
theorem q_6e99c2f8b {x0 x1 x2 : Int} (f0 : (x0 = 0 ∧ x1 ≥ 0 ∧ x1 ≤ x2 ∧ x1 ≤ 150)) : x1 ≤ x2 := by omega
theorem q_bd81129bd {x0 x1 x2 : Int} (f0 : (x0 = 0 ∧ x1 ≥ 0 ∧ x1 ≤ x2 ∧ x1 ≤ 150)) : x1 ≤ 150 := by omega
theorem qn_3edc655a9 {P : Nat} {j : Int} (hP : P = 13 ∨ P = 25) : ¬ (((43 : Nat) = 1 ∧ j = 1) ∨ ((43 : Nat) = 1 ∧ j = 2) ∨ ((43 : Nat) = 1 ∧ j = 3) ∨ ((43 : Nat) = 1 ∧ j = 4) ∨ ((43 : Nat) = 1 ∧ j = 5) ∨ ((43 : Nat) = 0 ∧ j = 13) ∨ ((43 : Nat) = (P + 7) ∧ j = 5) ∨ (43 : Nat) = (P + 9) ∨ ((43 : Nat) = (P + 7) ∧ j = 4) ∨ (43 : Nat) = (P + 8)) := (fun q => q.elim (fun h => absurd h.1 (nn rfl)) (fun q => q.elim (fun h => absurd h.1 (nn rfl)) (fun q => q.elim (fun h => absurd h.1 (nn rfl)) (fun q => q.elim (fun h => absurd h.1 (nn rfl)) (fun q => q.elim (fun h => absurd h.1 (nn rfl)) (fun q => q.elim (fun h => absurd h.1 (nn rfl)) (fun q => q.elim (fun h => absurd h.1 (pn hP rfl rfl)) (fun q => q.elim (fun h => absurd h (pn hP rfl rfl)) (fun q => q.elim (fun h => absurd h.1 (pn hP rfl rfl)) (fun h => absurd h (pn hP rfl rfl)))))))))))
theorem qn_ca756827c {j : Int} : ¬ (((67 : Nat) = 41 ∧ j = 0) ∨ (67 : Nat) = 42 ∨ ((67 : Nat) = 41 ∧ j = 2) ∨ ((67 : Nat) = 41 ∧ j = 3) ∨ ((67 : Nat) = 41 ∧ j = 4) ∨ ((67 : Nat) = 41 ∧ j = 5) ∨ ((67 : Nat) = 41 ∧ j = 6) ∨ ((67 : Nat) = 41 ∧ j = 7) ∨ ((67 : Nat) = 41 ∧ j = 8) ∨ ((67 : Nat) = 41 ∧ j = 29) ∨ ((67 : Nat) = 41 ∧ j = 30) ∨ (67 : Nat) = 50 ∨ (67 : Nat) = 51 ∨ (67 : Nat) = 52 ∨ (67 : Nat) = 53) := (fun q => q.elim (fun h => absurd h.1 (nn rfl)) (fun q => q.elim (fun h => absurd h (nn rfl)) (fun q => q.elim (fun h => absurd h.1 (nn rfl)) (fun q => q.elim (fun h => absurd h.1 (nn rfl)) (fun q => q.elim (fun h => absurd h.1 (nn rfl)) (fun q => q.elim (fun h => absurd h.1 (nn rfl)) (fun q => q.elim (fun h => absurd h.1 (nn rfl)) (fun q => q.elim (fun h => absurd h.1 (nn rfl)) (fun q => q.elim (fun h => absurd h.1 (nn rfl)) (fun q => q.elim (fun h => absurd h.1 (nn rfl)) (fun q => q.elim (fun h => absurd h.1 (nn rfl)) (fun q => q.elim (fun h => absurd h (nn rfl)) (fun q => q.elim (fun h => absurd h (nn rfl)) (fun q => q.elim (fun h => absurd h (nn rfl)) (fun h => absurd h (nn rfl))))))))))))))))
theorem qn_6e098d395 {j : Int} : ¬ (((1 : Nat) = 41 ∧ j = 0) ∨ (1 : Nat) = 42 ∨ ((1 : Nat) = 41 ∧ j = 2) ∨ ((1 : Nat) = 41 ∧ j = 3) ∨ ((1 : Nat) = 41 ∧ j = 4) ∨ ((1 : Nat) = 41 ∧ j = 5) ∨ ((1 : Nat) = 41 ∧ j = 6) ∨ ((1 : Nat) = 41 ∧ j = 7) ∨ ((1 : Nat) = 41 ∧ j = 8) ∨ ((1 : Nat) = 41 ∧ j = 29) ∨ ((1 : Nat) = 41 ∧ j = 30) ∨ (1 : Nat) = 50 ∨ (1 : Nat) = 51 ∨ (1 : Nat) = 52 ∨ (1 : Nat) = 53) := (fun q => q.elim (fun h => absurd h.1 (nn rfl)) (fun q => q.elim (fun h => absurd h (nn rfl)) (fun q => q.elim (fun h => absurd h.1 (nn rfl)) (fun q => q.elim (fun h => absurd h.1 (nn rfl)) (fun q => q.elim (fun h => absurd h.1 (nn rfl)) (fun q => q.elim (fun h => absurd h.1 (nn rfl)) (fun q => q.elim (fun h => absurd h.1 (nn rfl)) (fun q => q.elim (fun h => absurd h.1 (nn rfl)) (fun q => q.elim (fun h => absurd h.1 (nn rfl)) (fun q => q.elim (fun h => absurd h.1 (nn rfl)) (fun q => q.elim (fun h => absurd h.1 (nn rfl)) (fun q => q.elim (fun h => absurd h (nn rfl)) (fun q => q.elim (fun h => absurd h (nn rfl)) (fun q => q.elim (fun h => absurd h (nn rfl)) (fun h => absurd h (nn rfl))))))))))))))))
theorem qn_4c0255fdd {j : Int} : ¬ (((2 : Nat) = 41 ∧ j = 0) ∨ (2 : Nat) = 42 ∨ ((2 : Nat) = 41 ∧ j = 2) ∨ ((2 : Nat) = 41 ∧ j = 3) ∨ ((2 : Nat) = 41 ∧ j = 4) ∨ ((2 : Nat) = 41 ∧ j = 5) ∨ ((2 : Nat) = 41 ∧ j = 6) ∨ ((2 : Nat) = 41 ∧ j = 7) ∨ ((2 : Nat) = 41 ∧ j = 8) ∨ ((2 : Nat) = 41 ∧ j = 29) ∨ ((2 : Nat) = 41 ∧ j = 30) ∨ (2 : Nat) = 50 ∨ (2 : Nat) = 51 ∨ (2 : Nat) = 52 ∨ (2 : Nat) = 53) := (fun q => q.elim (fun h => absurd h.1 (nn rfl)) (fun q => q.elim (fun h => absurd h (nn rfl)) (fun q => q.elim (fun h => absurd h.1 (nn rfl)) (fun q => q.elim (fun h => absurd h.1 (nn rfl)) (fun q => q.elim (fun h => absurd h.1 (nn rfl)) (fun q => q.elim (fun h => absurd h.1 (nn rfl)) (fun q => q.elim (fun h => absurd h.1 (nn rfl)) (fun q => q.elim (fun h => absurd h.1 (nn rfl)) (fun q => q.elim (fun h => absurd h.1 (nn rfl)) (fun q => q.elim (fun h => absurd h.1 (nn rfl)) (fun q => q.elim (fun h => absurd h.1 (nn rfl)) (fun q => q.elim (fun h => absurd h (nn rfl)) (fun q => q.elim (fun h => absurd h (nn rfl)) (fun q => q.elim (fun h => absurd h (nn rfl)) (fun h => absurd h (nn rfl))))))))))))))))
theorem qn_9c21b769a {P : Nat} {j : Int} (hP : P = 13 ∨ P = 25) : ¬ (((2 : Nat) = 1 ∧ j = 1) ∨ ((2 : Nat) = 1 ∧ j = 2) ∨ ((2 : Nat) = 1 ∧ j = 3) ∨ ((2 : Nat) = 1 ∧ j = 4) ∨ ((2 : Nat) = 1 ∧ j = 5) ∨ ((2 : Nat) = 0 ∧ j = 13) ∨ ((2 : Nat) = (P + 7) ∧ j = 5) ∨ (2 : Nat) = (P + 9) ∨ ((2 : Nat) = (P + 7) ∧ j = 4) ∨ (2 : Nat) = (P + 8)) := (fun q => q.elim (fun h => absurd h.1 (nn rfl)) (fun q => q.elim (fun h => absurd h.1 (nn rfl)) (fun q => q.elim (fun h => absurd h.1 (nn rfl)) (fun q => q.elim (fun h => absurd h.1 (nn rfl)) (fun q => q.elim (fun h => absurd h.1 (nn rfl)) (fun q => q.elim (fun h => absurd h.1 (nn rfl)) (fun q => q.elim (fun h => absurd h.1 (pn hP rfl rfl)) (fun q => q.elim (fun h => absurd h (pn hP rfl rfl)) (fun q => q.elim (fun h => absurd h.1 (pn hP rfl rfl)) (fun h => absurd h (pn hP rfl rfl)))))))))))
theorem qn_0c1231684 {j : Int} : ¬ (((43 : Nat) = 41 ∧ j = 0) ∨ (43 : Nat) = 42 ∨ ((43 : Nat) = 41 ∧ j = 2) ∨ ((43 : Nat) = 41 ∧ j = 3) ∨ ((43 : Nat) = 41 ∧ j = 4) ∨ ((43 : Nat) = 41 ∧ j = 5) ∨ ((43 : Nat) = 41 ∧ j = 6) ∨ ((43 : Nat) = 41 ∧ j = 7) ∨ ((43 : Nat) = 41 ∧ j = 8) ∨ ((43 : Nat) = 41 ∧ j = 29) ∨ ((43 : Nat) = 41 ∧ j = 30) ∨ (43 : Nat) = 50 ∨ (43 : Nat) = 51 ∨ (43 : Nat) = 52 ∨ (43 : Nat) = 53) := (fun q => q.elim (fun h => absurd h.1 (nn rfl)) (fun q => q.elim (fun h => absurd h (nn rfl)) (fun q => q.elim (fun h => absurd h.1 (nn rfl)) (fun q => q.elim (fun h => absurd h.1 (nn rfl)) (fun q => q.elim (fun h => absurd h.1 (nn rfl)) (fun q => q.elim (fun h => absurd h.1 (nn rfl)) (fun q => q.elim (fun h => absurd h.1 (nn rfl)) (fun q => q.elim (fun h => absurd h.1 (nn rfl)) (fun q => q.elim (fun h => absurd h.1 (nn rfl)) (fun q => q.elim (fun h => absurd h.1 (nn rfl)) (fun q => q.elim (fun h => absurd h.1 (nn rfl)) (fun q => q.elim (fun h => absurd h (nn rfl)) (fun q => q.elim (fun h => absurd h (nn rfl)) (fun q => q.elim (fun h => absurd h (nn rfl)) (fun h => absurd h (nn rfl))))))))))))))))
theorem qn_64b7cdf30 {j : Int} : ¬ (((1 : Nat) = 41 ∧ j = 0) ∨ (1 : Nat) = 42 ∨ ((1 : Nat) = 41 ∧ j = 2) ∨ ((1 : Nat) = 41 ∧ j = 3) ∨ ((1 : Nat) = 41 ∧ j = 4) ∨ ((1 : Nat) = 41 ∧ j = 5) ∨ ((1 : Nat) = 41 ∧ j = 6) ∨ ((1 : Nat) = 41 ∧ j = 7) ∨ ((1 : Nat) = 41 ∧ j = 8) ∨ ((1 : Nat) = 41 ∧ j = 34) ∨ (1 : Nat) = 56 ∨ (1 : Nat) = 57 ∨ (1 : Nat) = 60 ∨ ((1 : Nat) = 41 ∧ j = 35) ∨ ((1 : Nat) = 41 ∧ j = 36) ∨ ((1 : Nat) = 41 ∧ j = 37) ∨ ((1 : Nat) = 41 ∧ j = 38) ∨ ((1 : Nat) = 41 ∧ j = 39) ∨ (1 : Nat) = 58 ∨ (1 : Nat) = 59 ∨ (1 : Nat) = 54 ∨ (1 : Nat) = 55) := (fun q => q.elim (fun h => absurd h.1 (nn rfl)) (fun q => q.elim (fun h => absurd h (nn rfl)) (fun q => q.elim (fun h => absurd h.1 (nn rfl)) (fun q => q.elim (fun h => absurd h.1 (nn rfl)) (fun q => q.elim (fun h => absurd h.1 (nn rfl)) (fun q => q.elim (fun h => absurd h.1 (nn rfl)) (fun q => q.elim (fun h => absurd h.1 (nn rfl)) (fun q => q.elim (fun h => absurd h.1 (nn rfl)) (fun q => q.elim (fun h => absurd h.1 (nn rfl)) (fun q => q.elim (fun h => absurd h.1 (nn rfl)) (fun q => q.elim (fun h => absurd h (nn rfl)) (fun q => q.elim (fun h => absurd h (nn rfl)) (fun q => q.elim (fun h => absurd h (nn rfl)) (fun q => q.elim (fun h => absurd h.1 (nn rfl)) (fun q => q.elim (fun h => absurd h.1 (nn rfl)) (fun q => q.elim (fun h => absurd h.1 (nn rfl)) (fun q => q.elim (fun h => absurd h.1 (nn rfl)) (fun q => q.elim (fun h => absurd h.1 (nn rfl)) (fun q => q.elim (fun h => absurd h (nn rfl)) (fun q => q.elim (fun h => absurd h (nn rfl)) (fun q => q.elim (fun h => absurd h (nn rfl)) (fun h => absurd h (nn rfl)))))))))))))))))))))))
theorem qn_863ce923b {j : Int} : ¬ (((2 : Nat) = 41 ∧ j = 0) ∨ (2 : Nat) = 42 ∨ ((2 : Nat) = 41 ∧ j = 2) ∨ ((2 : Nat) = 41 ∧ j = 3) ∨ ((2 : Nat) = 41 ∧ j = 4) ∨ ((2 : Nat) = 41 ∧ j = 5) ∨ ((2 : Nat) = 41 ∧ j = 6) ∨ ((2 : Nat) = 41 ∧ j = 7) ∨ ((2 : Nat) = 41 ∧ j = 8) ∨ ((2 : Nat) = 41 ∧ j = 34) ∨ (2 : Nat) = 56 ∨ (2 : Nat) = 57 ∨ (2 : Nat) = 60 ∨ ((2 : Nat) = 41 ∧ j = 35) ∨ ((2 : Nat) = 41 ∧ j = 36) ∨ ((2 : Nat) = 41 ∧ j = 37) ∨ ((2 : Nat) = 41 ∧ j = 38) ∨ ((2 : Nat) = 41 ∧ j = 39) ∨ (2 : Nat) = 58 ∨ (2 : Nat) = 59 ∨ (2 : Nat) = 54 ∨ (2 : Nat) = 55) := (fun q => q.elim (fun h => absurd h.1 (nn rfl)) (fun q => q.elim (fun h => absurd h (nn rfl)) (fun q => q.elim (fun h => absurd h.1 (nn rfl)) (fun q => q.elim (fun h => absurd h.1 (nn rfl)) (fun q => q.elim (fun h => absurd h.1 (nn rfl)) (fun q => q.elim (fun h => absurd h.1 (nn rfl)) (fun q => q.elim (fun h => absurd h.1 (nn rfl)) (fun q => q.elim (fun h => absurd h.1 (nn rfl)) (fun q => q.elim (fun h => absurd h.1 (nn rfl)) (fun q => q.elim (fun h => absurd h.1 (nn rfl)) (fun q => q.elim (fun h => absurd h (nn rfl)) (fun q => q.elim (fun h => absurd h (nn rfl)) (fun q => q.elim (fun h => absurd h (nn rfl)) (fun q => q.elim (fun h => absurd h.1 (nn rfl)) (fun q => q.elim (fun h => absurd h.1 (nn rfl)) (fun q => q.elim (fun h => absurd h.1 (nn rfl)) (fun q => q.elim (fun h => absurd h.1 (nn rfl)) (fun q => q.elim (fun h => absurd h.1 (nn rfl)) (fun q => q.elim (fun h => absurd h (nn rfl)) (fun q => q.elim (fun h => absurd h (nn rfl)) (fun q => q.elim (fun h => absurd h (nn rfl)) (fun h => absurd h (nn rfl)))))))))))))))))))))))
theorem qn_8baf1d17d {j : Int} : ¬ (((43 : Nat) = 41 ∧ j = 0) ∨ (43 : Nat) = 42 ∨ ((43 : Nat) = 41 ∧ j = 2) ∨ ((43 : Nat) = 41 ∧ j = 3) ∨ ((43 : Nat) = 41 ∧ j = 4) ∨ ((43 : Nat) = 41 ∧ j = 5) ∨ ((43 : Nat) = 41 ∧ j = 6) ∨ ((43 : Nat) = 41 ∧ j = 7) ∨ ((43 : Nat) = 41 ∧ j = 8) ∨ ((43 : Nat) = 41 ∧ j = 34) ∨ (43 : Nat) = 56 ∨ (43 : Nat) = 57 ∨ (43 : Nat) = 60 ∨ ((43 : Nat) = 41 ∧ j = 35) ∨ ((43 : Nat) = 41 ∧ j = 36) ∨ ((43 : Nat) = 41 ∧ j = 37) ∨ ((43 : Nat) = 41 ∧ j = 38) ∨ ((43 : Nat) = 41 ∧ j = 39) ∨ (43 : Nat) = 58 ∨ (43 : Nat) = 59 ∨ (43 : Nat) = 54 ∨ (43 : Nat) = 55) := (fun q => q.elim (fun h => absurd h.1 (nn rfl)) (fun q => q.elim (fun h => absurd h (nn rfl)) (fun q => q.elim (fun h => absurd h.1 (nn rfl)) (fun q => q.elim (fun h => absurd h.1 (nn rfl)) (fun q => q.elim (fun h => absurd h.1 (nn rfl)) (fun q => q.elim (fun h => absurd h.1 (nn rfl)) (fun q => q.elim (fun h => absurd h.1 (nn rfl)) (fun q => q.elim (fun h => absurd h.1 (nn rfl)) (fun q => q.elim (fun h => absurd h.1 (nn rfl)) (fun q => q.elim (fun h => absurd h.1 (nn rfl)) (fun q => q.elim (fun h => absurd h (nn rfl)) (fun q => q.elim (fun h => absurd h (nn rfl)) (fun q => q.elim (fun h => absurd h (nn rfl)) (fun q => q.elim (fun h => absurd h.1 (nn rfl)) (fun q => q.elim (fun h => absurd h.1 (nn rfl)) (fun q => q.elim (fun h => absurd h.1 (nn rfl)) (fun q => q.elim (fun h => absurd h.1 (nn rfl)) (fun q => q.elim (fun h => absurd h.1 (nn rfl)) (fun q => q.elim (fun h => absurd h (nn rfl)) (fun q => q.elim (fun h => absurd h (nn rfl)) (fun q => q.elim (fun h => absurd h (nn rfl)) (fun h => absurd h (nn rfl)))))))))))))))))))))))
theorem qn_95638b1cc {P : Nat} {j : Int} (hP : P = 13 ∨ P = 25) : ¬ (((41 : Nat) = 1 ∧ j = 1) ∨ ((41 : Nat) = 1 ∧ j = 2) ∨ ((41 : Nat) = 1 ∧ j = 3) ∨ ((41 : Nat) = 1 ∧ j = 4) ∨ ((41 : Nat) = 1 ∧ j = 5) ∨ ((41 : Nat) = 0 ∧ j = 13) ∨ ((41 : Nat) = 7 ∧ j = 1) ∨ ((41 : Nat) = 7 ∧ j = 2) ∨ ((41 : Nat) = 7 ∧ j = 3) ∨ ((41 : Nat) = 7 ∧ j = 4) ∨ (41 : Nat) = 8 ∨ ((41 : Nat) = 3 ∧ j = 3) ∨ (41 : Nat) = 4 ∨ (41 : Nat) = 38 ∨ ((41 : Nat) = 0 ∧ j = 11) ∨ (41 : Nat) = (P + 10) ∨ (41 : Nat) = (P + 11)) := (fun q => q.elim (fun h => absurd h.1 (nn rfl)) (fun q => q.elim (fun h => absurd h.1 (nn rfl)) (fun q => q.elim (fun h => absurd h.1 (nn rfl)) (fun q => q.elim (fun h => absurd h.1 (nn rfl)) (fun q => q.elim (fun h => absurd h.1 (nn rfl)) (fun q => q.elim (fun h => absurd h.1 (nn rfl)) (fun q => q.elim (fun h => absurd h.1 (nn rfl)) (fun q => q.elim (fun h => absurd h.1 (nn rfl)) (fun q => q.elim (fun h => absurd h.1 (nn rfl)) (fun q => q.elim (fun h => absurd h.1 (nn rfl)) (fun q => q.elim (fun h => absurd h (nn rfl)) (fun q => q.elim (fun h => absurd h.1 (nn rfl)) (fun q => q.elim (fun h => absurd h (nn rfl)) (fun q => q.elim (fun h => absurd h (nn rfl)) (fun q => q.elim (fun h => absurd h.1 (nn rfl)) (fun q => q.elim (fun h => absurd h (pn hP rfl rfl)) (fun h => absurd h (pn hP rfl rfl))))))))))))))))))
theorem qn_173504b41 {P : Nat} {j : Int} (hP : P = 13 ∨ P = 25) : ¬ (((2 : Nat) = 1 ∧ j = 1) ∨ ((2 : Nat) = 1 ∧ j = 2) ∨ ((2 : Nat) = 1 ∧ j = 3) ∨ ((2 : Nat) = 1 ∧ j = 4) ∨ ((2 : Nat) = 1 ∧ j = 5) ∨ ((2 : Nat) = 0 ∧ j = 13) ∨ ((2 : Nat) = 7 ∧ j = 1) ∨ ((2 : Nat) = 7 ∧ j = 2) ∨ ((2 : Nat) = 7 ∧ j = 3) ∨ ((2 : Nat) = 7 ∧ j = 4) ∨ (2 : Nat) = 8 ∨ ((2 : Nat) = 3 ∧ j = 3) ∨ (2 : Nat) = 4 ∨ (2 : Nat) = 38 ∨ ((2 : Nat) = 0 ∧ j = 11) ∨ (2 : Nat) = (P + 10) ∨ (2 : Nat) = (P + 11)) := (fun q => q.elim (fun h => absurd h.1 (nn rfl)) (fun q => q.elim (fun h => absurd h.1 (nn rfl)) (fun q => q.elim (fun h => absurd h.1 (nn rfl)) (fun q => q.elim (fun h => absurd h.1 (nn rfl)) (fun q => q.elim (fun h => absurd h.1 (nn rfl)) (fun q => q.elim (fun h => absurd h.1 (nn rfl)) (fun q => q.elim (fun h => absurd h.1 (nn rfl)) (fun q => q.elim (fun h => absurd h.1 (nn rfl)) (fun q => q.elim (fun h => absurd h.1 (nn rfl)) (fun q => q.elim (fun h => absurd h.1 (nn rfl)) (fun q => q.elim (fun h => absurd h (nn rfl)) (fun q => q.elim (fun h => absurd h.1 (nn rfl)) (fun q => q.elim (fun h => absurd h (nn rfl)) (fun q => q.elim (fun h => absurd h (nn rfl)) (fun q => q.elim (fun h => absurd h.1 (nn rfl)) (fun q => q.elim (fun h => absurd h (pn hP rfl rfl)) (fun h => absurd h (pn hP rfl rfl))))))))))))))))))
theorem qn_bc8c9d6b3 {P : Nat} {j : Int} (hP : P = 13 ∨ P = 25) : ¬ (((43 : Nat) = 1 ∧ j = 1) ∨ ((43 : Nat) = 1 ∧ j = 2) ∨ ((43 : Nat) = 1 ∧ j = 3) ∨ ((43 : Nat) = 1 ∧ j = 4) ∨ ((43 : Nat) = 1 ∧ j = 5) ∨ ((43 : Nat) = 0 ∧ j = 13) ∨ ((43 : Nat) = 7 ∧ j = 1) ∨ ((43 : Nat) = 7 ∧ j = 2) ∨ ((43 : Nat) = 7 ∧ j = 3) ∨ ((43 : Nat) = 7 ∧ j = 4) ∨ (43 : Nat) = 8 ∨ ((43 : Nat) = 3 ∧ j = 3) ∨ (43 : Nat) = 4 ∨ (43 : Nat) = 38 ∨ ((43 : Nat) = 0 ∧ j = 11) ∨ (43 : Nat) = (P + 10) ∨ (43 : Nat) = (P + 11)) := (fun q => q.elim (fun h => absurd h.1 (nn rfl)) (fun q => q.elim (fun h => absurd h.1 (nn rfl)) (fun q => q.elim (fun h => absurd h.1 (nn rfl)) (fun q => q.elim (fun h => absurd h.1 (nn rfl)) (fun q => q.elim (fun h => absurd h.1 (nn rfl)) (fun q => q.elim (fun h => absurd h.1 (nn rfl)) (fun q => q.elim (fun h => absurd h.1 (nn rfl)) (fun q => q.elim (fun h => absurd h.1 (nn rfl)) (fun q => q.elim (fun h => absurd h.1 (nn rfl)) (fun q => q.elim (fun h => absurd h.1 (nn rfl)) (fun q => q.elim (fun h => absurd h (nn rfl)) (fun q => q.elim (fun h => absurd h.1 (nn rfl)) (fun q => q.elim (fun h => absurd h (nn rfl)) (fun q => q.elim (fun h => absurd h (nn rfl)) (fun q => q.elim (fun h => absurd h.1 (nn rfl)) (fun q => q.elim (fun h => absurd h (pn hP rfl rfl)) (fun h => absurd h (pn hP rfl rfl))))))))))))))))))
theorem qn_ee2350d59 {j : Int} : ¬ (((1 : Nat) = 41 ∧ j = 0) ∨ (1 : Nat) = 42 ∨ ((1 : Nat) = 41 ∧ j = 2) ∨ ((1 : Nat) = 41 ∧ j = 3) ∨ ((1 : Nat) = 41 ∧ j = 4) ∨ ((1 : Nat) = 41 ∧ j = 5) ∨ ((1 : Nat) = 41 ∧ j = 6) ∨ ((1 : Nat) = 41 ∧ j = 7) ∨ ((1 : Nat) = 41 ∧ j = 8) ∨ ((1 : Nat) = 41 ∧ j = 47) ∨ (1 : Nat) = 61 ∨ (1 : Nat) = 62) := (fun q => q.elim (fun h => absurd h.1 (nn rfl)) (fun q => q.elim (fun h => absurd h (nn rfl)) (fun q => q.elim (fun h => absurd h.1 (nn rfl)) (fun q => q.elim (fun h => absurd h.1 (nn rfl)) (fun q => q.elim (fun h => absurd h.1 (nn rfl)) (fun q => q.elim (fun h => absurd h.1 (nn rfl)) (fun q => q.elim (fun h => absurd h.1 (nn rfl)) (fun q => q.elim (fun h => absurd h.1 (nn rfl)) (fun q => q.elim (fun h => absurd h.1 (nn rfl)) (fun q => q.elim (fun h => absurd h.1 (nn rfl)) (fun q => q.elim (fun h => absurd h (nn rfl)) (fun h => absurd h (nn rfl)))))))))))))
theorem qn_b5489bdb1 {j : Int} : ¬ (((2 : Nat) = 41 ∧ j = 0) ∨ (2 : Nat) = 42 ∨ ((2 : Nat) = 41 ∧ j = 2) ∨ ((2 : Nat) = 41 ∧ j = 3) ∨ ((2 : Nat) = 41 ∧ j = 4) ∨ ((2 : Nat) = 41 ∧ j = 5) ∨ ((2 : Nat) = 41 ∧ j = 6) ∨ ((2 : Nat) = 41 ∧ j = 7) ∨ ((2 : Nat) = 41 ∧ j = 8) ∨ ((2 : Nat) = 41 ∧ j = 47) ∨ (2 : Nat) = 61 ∨ (2 : Nat) = 62) := (fun q => q.elim (fun h => absurd h.1 (nn rfl)) (fun q => q.elim (fun h => absurd h (nn rfl)) (fun q => q.elim (fun h => absurd h.1 (nn rfl)) (fun q => q.elim (fun h => absurd h.1 (nn rfl)) (fun q => q.elim (fun h => absurd h.1 (nn rfl)) (fun q => q.elim (fun h => absurd h.1 (nn rfl)) (fun q => q.elim (fun h => absurd h.1 (nn rfl)) (fun q => q.elim (fun h => absurd h.1 (nn rfl)) (fun q => q.elim (fun h => absurd h.1 (nn rfl)) (fun q => q.elim (fun h => absurd h.1 (nn rfl)) (fun q => q.elim (fun h => absurd h (nn rfl)) (fun h => absurd h (nn rfl)))))))))))))
theorem qn_a255de46c {j : Int} : ¬ (((43 : Nat) = 41 ∧ j = 0) ∨ (43 : Nat) = 42 ∨ ((43 : Nat) = 41 ∧ j = 2) ∨ ((43 : Nat) = 41 ∧ j = 3) ∨ ((43 : Nat) = 41 ∧ j = 4) ∨ ((43 : Nat) = 41 ∧ j = 5) ∨ ((43 : Nat) = 41 ∧ j = 6) ∨ ((43 : Nat) = 41 ∧ j = 7) ∨ ((43 : Nat) = 41 ∧ j = 8) ∨ ((43 : Nat) = 41 ∧ j = 47) ∨ (43 : Nat) = 61 ∨ (43 : Nat) = 62) := (fun q => q.elim (fun h => absurd h.1 (nn rfl)) (fun q => q.elim (fun h => absurd h (nn rfl)) (fun q => q.elim (fun h => absurd h.1 (nn rfl)) (fun q => q.elim (fun h => absurd h.1 (nn rfl)) (fun q => q.elim (fun h => absurd h.1 (nn rfl)) (fun q => q.elim (fun h => absurd h.1 (nn rfl)) (fun q => q.elim (fun h => absurd h.1 (nn rfl)) (fun q => q.elim (fun h => absurd h.1 (nn rfl)) (fun q => q.elim (fun h => absurd h.1 (nn rfl)) (fun q => q.elim (fun h => absurd h.1 (nn rfl)) (fun q => q.elim (fun h => absurd h (nn rfl)) (fun h => absurd h (nn rfl)))))))))))))
theorem qn_1b494c190 {P : Nat} {j : Int} (hP : P = 13 ∨ P = 25) : ¬ (((41 : Nat) = 1 ∧ j = 1) ∨ ((41 : Nat) = 1 ∧ j = 2) ∨ ((41 : Nat) = 1 ∧ j = 3) ∨ ((41 : Nat) = 1 ∧ j = 4) ∨ ((41 : Nat) = 1 ∧ j = 5) ∨ ((41 : Nat) = 0 ∧ j = 13) ∨ ((41 : Nat) = P ∧ j = 4) ∨ (41 : Nat) = (P + 4) ∨ (41 : Nat) = (P + 5)) := (fun q => q.elim (fun h => absurd h.1 (nn rfl)) (fun q => q.elim (fun h => absurd h.1 (nn rfl)) (fun q => q.elim (fun h => absurd h.1 (nn rfl)) (fun q => q.elim (fun h => absurd h.1 (nn rfl)) (fun q => q.elim (fun h => absurd h.1 (nn rfl)) (fun q => q.elim (fun h => absurd h.1 (nn rfl)) (fun q => q.elim (fun h => absurd h.1 (pn0 hP rfl)) (fun q => q.elim (fun h => absurd h (pn hP rfl rfl)) (fun h => absurd h (pn hP rfl rfl))))))))))
theorem q_349ccc1a6 {x0 x1 x2 : Int} (f0 : (x0 = 0 ∧ x1 ≥ 0 ∧ x1 ≤ x2 ∧ x1 ≤ 60)) : (-2147483648) ≤ x1 := by omega
theorem q_147cf96f9 {x0 x1 x2 : Int} (f0 : (x0 = 0 ∧ x1 ≥ 0 ∧ x1 ≤ x2 ∧ x1 ≤ 60)) : x1 ≤ 2147483647 := by omega
theorem qn_64e884695 {P : Nat} {j : Int} (hP : P = 13 ∨ P = 25) : ¬ (((2 : Nat) = 1 ∧ j = 1) ∨ ((2 : Nat) = 1 ∧ j = 2) ∨ ((2 : Nat) = 1 ∧ j = 3) ∨ ((2 : Nat) = 1 ∧ j = 4) ∨ ((2 : Nat) = 1 ∧ j = 5) ∨ ((2 : Nat) = 0 ∧ j = 13) ∨ ((2 : Nat) = P ∧ j = 4) ∨ (2 : Nat) = (P + 4) ∨ (2 : Nat) = (P + 5)) := (fun q => q.elim (fun h => absurd h.1 (nn rfl)) (fun q => q.elim (fun h => absurd h.1 (nn rfl)) (fun q => q.elim (fun h => absurd h.1 (nn rfl)) (fun q => q.elim (fun h => absurd h.1 (nn rfl)) (fun q => q.elim (fun h => absurd h.1 (nn rfl)) (fun q => q.elim (fun h => absurd h.1 (nn rfl)) (fun q => q.elim (fun h => absurd h.1 (pn0 hP rfl)) (fun q => q.elim (fun h => absurd h (pn hP rfl rfl)) (fun h => absurd h (pn hP rfl rfl))))))))))
theorem qn_451f4811a {P : Nat} {j : Int} (hP : P = 13 ∨ P = 25) : ¬ (((43 : Nat) = 1 ∧ j = 1) ∨ ((43 : Nat) = 1 ∧ j = 2) ∨ ((43 : Nat) = 1 ∧ j = 3) ∨ ((43 : Nat) = 1 ∧ j = 4) ∨ ((43 : Nat) = 1 ∧ j = 5) ∨ ((43 : Nat) = 0 ∧ j = 13) ∨ ((43 : Nat) = P ∧ j = 4) ∨ (43 : Nat) = (P + 4) ∨ (43 : Nat) = (P + 5)) := (fun q => q.elim (fun h => absurd h.1 (nn rfl)) (fun q => q.elim (fun h => absurd h.1 (nn rfl)) (fun q => q.elim (fun h => absurd h.1 (nn rfl)) (fun q => q.elim (fun h => absurd h.1 (nn rfl)) (fun q => q.elim (fun h => absurd h.1 (nn rfl)) (fun q => q.elim (fun h => absurd h.1 (nn rfl)) (fun q => q.elim (fun h => absurd h.1 (pn0 hP rfl)) (fun q => q.elim (fun h => absurd h (pn hP rfl rfl)) (fun h => absurd h (pn hP rfl rfl))))))))))
theorem qn_e4da0ae8c {j : Int} : ¬ (((1 : Nat) = 41 ∧ j = 0) ∨ (1 : Nat) = 42 ∨ ((1 : Nat) = 41 ∧ j = 2) ∨ ((1 : Nat) = 41 ∧ j = 3) ∨ ((1 : Nat) = 41 ∧ j = 4) ∨ ((1 : Nat) = 41 ∧ j = 5) ∨ ((1 : Nat) = 41 ∧ j = 6) ∨ ((1 : Nat) = 41 ∧ j = 7) ∨ ((1 : Nat) = 41 ∧ j = 8) ∨ ((1 : Nat) = 41 ∧ j = 48) ∨ (1 : Nat) = 63 ∨ (1 : Nat) = 64) := (fun q => q.elim (fun h => absurd h.1 (nn rfl)) (fun q => q.elim (fun h => absurd h (nn rfl)) (fun q => q.elim (fun h => absurd h.1 (nn rfl)) (fun q => q.elim (fun h => absurd h.1 (nn rfl)) (fun q => q.elim (fun h => absurd h.1 (nn rfl)) (fun q => q.elim (fun h => absurd h.1 (nn rfl)) (fun q => q.elim (fun h => absurd h.1 (nn rfl)) (fun q => q.elim (fun h => absurd h.1 (nn rfl)) (fun q => q.elim (fun h => absurd h.1 (nn rfl)) (fun q => q.elim (fun h => absurd h.1 (nn rfl)) (fun q => q.elim (fun h => absurd h (nn rfl)) (fun h => absurd h (nn rfl)))))))))))))
theorem qn_2fc470899 {j : Int} : ¬ (((2 : Nat) = 41 ∧ j = 0) ∨ (2 : Nat) = 42 ∨ ((2 : Nat) = 41 ∧ j = 2) ∨ ((2 : Nat) = 41 ∧ j = 3) ∨ ((2 : Nat) = 41 ∧ j = 4) ∨ ((2 : Nat) = 41 ∧ j = 5) ∨ ((2 : Nat) = 41 ∧ j = 6) ∨ ((2 : Nat) = 41 ∧ j = 7) ∨ ((2 : Nat) = 41 ∧ j = 8) ∨ ((2 : Nat) = 41 ∧ j = 48) ∨ (2 : Nat) = 63 ∨ (2 : Nat) = 64) := (fun q => q.elim (fun h => absurd h.1 (nn rfl)) (fun q => q.elim (fun h => absurd h (nn rfl)) (fun q => q.elim (fun h => absurd h.1 (nn rfl)) (fun q => q.elim (fun h => absurd h.1 (nn rfl)) (fun q => q.elim (fun h => absurd h.1 (nn rfl)) (fun q => q.elim (fun h => absurd h.1 (nn rfl)) (fun q => q.elim (fun h => absurd h.1 (nn rfl)) (fun q => q.elim (fun h => absurd h.1 (nn rfl)) (fun q => q.elim (fun h => absurd h.1 (nn rfl)) (fun q => q.elim (fun h => absurd h.1 (nn rfl)) (fun q => q.elim (fun h => absurd h (nn rfl)) (fun h => absurd h (nn rfl)))))))))))))
theorem qn_a1452b2ed {j : Int} : ¬ (((43 : Nat) = 41 ∧ j = 0) ∨ (43 : Nat) = 42 ∨ ((43 : Nat) = 41 ∧ j = 2) ∨ ((43 : Nat) = 41 ∧ j = 3) ∨ ((43 : Nat) = 41 ∧ j = 4) ∨ ((43 : Nat) = 41 ∧ j = 5) ∨ ((43 : Nat) = 41 ∧ j = 6) ∨ ((43 : Nat) = 41 ∧ j = 7) ∨ ((43 : Nat) = 41 ∧ j = 8) ∨ ((43 : Nat) = 41 ∧ j = 48) ∨ (43 : Nat) = 63 ∨ (43 : Nat) = 64) := (fun q => q.elim (fun h => absurd h.1 (nn rfl)) (fun q => q.elim (fun h => absurd h (nn rfl)) (fun q => q.elim (fun h => absurd h.1 (nn rfl)) (fun q => q.elim (fun h => absurd h.1 (nn rfl)) (fun q => q.elim (fun h => absurd h.1 (nn rfl)) (fun q => q.elim (fun h => absurd h.1 (nn rfl)) (fun q => q.elim (fun h => absurd h.1 (nn rfl)) (fun q => q.elim (fun h => absurd h.1 (nn rfl)) (fun q => q.elim (fun h => absurd h.1 (nn rfl)) (fun q => q.elim (fun h => absurd h.1 (nn rfl)) (fun q => q.elim (fun h => absurd h (nn rfl)) (fun h => absurd h (nn rfl)))))))))))))
theorem qn_f46dc6fb3 {P : Nat} {j : Int} (hP : P = 13 ∨ P = 25) : ¬ (((41 : Nat) = 1 ∧ j = 1) ∨ ((41 : Nat) = 1 ∧ j = 2) ∨ ((41 : Nat) = 1 ∧ j = 3) ∨ ((41 : Nat) = 1 ∧ j = 4) ∨ ((41 : Nat) = 1 ∧ j = 5) ∨ ((41 : Nat) = 0 ∧ j = 13) ∨ ((41 : Nat) = P ∧ j = 5) ∨ (41 : Nat) = (P + 5) ∨ (41 : Nat) = (P + 6)) := (fun q => q.elim (fun h => absurd h.1 (nn rfl)) (fun q => q.elim (fun h => absurd h.1 (nn rfl)) (fun q => q.elim (fun h => absurd h.1 (nn rfl)) (fun q => q.elim (fun h => absurd h.1 (nn rfl)) (fun q => q.elim (fun h => absurd h.1 (nn rfl)) (fun q => q.elim (fun h => absurd h.1 (nn rfl)) (fun q => q.elim (fun h => absurd h.1 (pn0 hP rfl)) (fun q => q.elim (fun h => absurd h (pn hP rfl rfl)) (fun h => absurd h (pn hP rfl rfl))))))))))
theorem qn_f75877a0d {P : Nat} {j : Int} (hP : P = 13 ∨ P = 25) : ¬ (((2 : Nat) = 1 ∧ j = 1) ∨ ((2 : Nat) = 1 ∧ j = 2) ∨ ((2 : Nat) = 1 ∧ j = 3) ∨ ((2 : Nat) = 1 ∧ j = 4) ∨ ((2 : Nat) = 1 ∧ j = 5) ∨ ((2 : Nat) = 0 ∧ j = 13) ∨ ((2 : Nat) = P ∧ j = 5) ∨ (2 : Nat) = (P + 5) ∨ (2 : Nat) = (P + 6)) := (fun q => q.elim (fun h => absurd h.1 (nn rfl)) (fun q => q.elim (fun h => absurd h.1 (nn rfl)) (fun q => q.elim (fun h => absurd h.1 (nn rfl)) (fun q => q.elim (fun h => absurd h.1 (nn rfl)) (fun q => q.elim (fun h => absurd h.1 (nn rfl)) (fun q => q.elim (fun h => absurd h.1 (nn rfl)) (fun q => q.elim (fun h => absurd h.1 (pn0 hP rfl)) (fun q => q.elim (fun h => absurd h (pn hP rfl rfl)) (fun h => absurd h (pn hP rfl rfl))))))))))
theorem qn_bcdf94085 {P : Nat} {j : Int} (hP : P = 13 ∨ P = 25) : ¬ (((43 : Nat) = 1 ∧ j = 1) ∨ ((43 : Nat) = 1 ∧ j = 2) ∨ ((43 : Nat) = 1 ∧ j = 3) ∨ ((43 : Nat) = 1 ∧ j = 4) ∨ ((43 : Nat) = 1 ∧ j = 5) ∨ ((43 : Nat) = 0 ∧ j = 13) ∨ ((43 : Nat) = P ∧ j = 5) ∨ (43 : Nat) = (P + 5) ∨ (43 : Nat) = (P + 6)) := (fun q => q.elim (fun h => absurd h.1 (nn rfl)) (fun q => q.elim (fun h => absurd h.1 (nn rfl)) (fun q => q.elim (fun h => absurd h.1 (nn rfl)) (fun q => q.elim (fun h => absurd h.1 (nn rfl)) (fun q => q.elim (fun h => absurd h.1 (nn rfl)) (fun q => q.elim (fun h => absurd h.1 (nn rfl)) (fun q => q.elim (fun h => absurd h.1 (pn0 hP rfl)) (fun q => q.elim (fun h => absurd h (pn hP rfl rfl)) (fun h => absurd h (pn hP rfl rfl))))))))))
theorem qn_42c22a4f3 {j : Int} : ¬ (((41 : Nat) = 0 ∧ j = 11) ∨ ((41 : Nat) = 3 ∧ j = 3) ∨ (41 : Nat) = 38) := (fun q => q.elim (fun h => absurd h.1 (nn rfl)) (fun q => q.elim (fun h => absurd h.1 (nn rfl)) (fun h => absurd h (nn rfl))))
theorem qn_6c6a5b112 {j : Int} : ¬ (((1 : Nat) = 0 ∧ j = 11) ∨ ((1 : Nat) = 3 ∧ j = 3) ∨ (1 : Nat) = 38) := (fun q => q.elim (fun h => absurd h.1 (nn rfl)) (fun q => q.elim (fun h => absurd h.1 (nn rfl)) (fun h => absurd h (nn rfl))))
theorem qn_e809d71be {j : Int} : ¬ (((1 : Nat) = 41 ∧ j = 0) ∨ ((1 : Nat) = 41 ∧ j = 35) ∨ ((1 : Nat) = 41 ∧ j = 36) ∨ (1 : Nat) = 58) := (fun q => q.elim (fun h => absurd h.1 (nn rfl)) (fun q => q.elim (fun h => absurd h.1 (nn rfl)) (fun q => q.elim (fun h => absurd h.1 (nn rfl)) (fun h => absurd h (nn rfl)))))
theorem qn_a0e956850 : ¬ (((41 : Nat) = 41 ∧ (2 : Int) = 0) ∨ ((41 : Nat) = 41 ∧ (2 : Int) = 35) ∨ ((41 : Nat) = 41 ∧ (2 : Int) = 36) ∨ (41 : Nat) = 58) := (fun q => q.elim (fun h => absurd h.2 (ni rfl)) (fun q => q.elim (fun h => absurd h.2 (ni rfl)) (fun q => q.elim (fun h => absurd h.2 (ni rfl)) (fun h => absurd h (nn rfl)))))
theorem qn_f12bc0175 {j : Int} : ¬ (((2 : Nat) = 41 ∧ j = 0) ∨ ((2 : Nat) = 41 ∧ j = 35) ∨ ((2 : Nat) = 41 ∧ j = 36) ∨ (2 : Nat) = 58) := (fun q => q.elim (fun h => absurd h.1 (nn rfl)) (fun q => q.elim (fun h => absurd h.1 (nn rfl)) (fun q => q.elim (fun h => absurd h.1 (nn rfl)) (fun h => absurd h (nn rfl)))))
theorem qn_a6915fafb {j : Int} : ¬ (((2 : Nat) = 0 ∧ j = 11) ∨ ((2 : Nat) = 3 ∧ j = 3) ∨ (2 : Nat) = 38) := (fun q => q.elim (fun h => absurd h.1 (nn rfl)) (fun q => q.elim (fun h => absurd h.1 (nn rfl)) (fun h => absurd h (nn rfl))))
theorem qn_8711c50f0 {j : Int} : ¬ (((43 : Nat) = 41 ∧ j = 0) ∨ ((43 : Nat) = 41 ∧ j = 35) ∨ ((43 : Nat) = 41 ∧ j = 36) ∨ (43 : Nat) = 58) := (fun q => q.elim (fun h => absurd h.1 (nn rfl)) (fun q => q.elim (fun h => absurd h.1 (nn rfl)) (fun q => q.elim (fun h => absurd h.1 (nn rfl)) (fun h => absurd h (nn rfl)))))
theorem qn_52f444696 {j : Int} : ¬ (((43 : Nat) = 0 ∧ j = 11) ∨ ((43 : Nat) = 3 ∧ j = 3) ∨ (43 : Nat) = 38) := (fun q => q.elim (fun h => absurd h.1 (nn rfl)) (fun q => q.elim (fun h => absurd h.1 (nn rfl)) (fun h => absurd h (nn rfl))))
theorem qn_39cd18c3e {j : Int} : ¬ (((1 : Nat) = 41 ∧ j = 0) ∨ (1 : Nat) = 42 ∨ (1 : Nat) = 59) := (fun q => q.elim (fun h => absurd h.1 (nn rfl)) (fun q => q.elim (fun h => absurd h (nn rfl)) (fun h => absurd h (nn rfl))))
theorem qn_53bdb2099 : ¬ (((41 : Nat) = 41 ∧ (2 : Int) = 0) ∨ (41 : Nat) = 42 ∨ (41 : Nat) = 59) := (fun q => q.elim (fun h => absurd h.2 (ni rfl)) (fun q => q.elim (fun h => absurd h (nn rfl)) (fun h => absurd h (nn rfl))))
theorem qn_2ad67e194 {j : Int} : ¬ (((2 : Nat) = 41 ∧ j = 0) ∨ (2 : Nat) = 42 ∨ (2 : Nat) = 59) := (fun q => q.elim (fun h => absurd h.1 (nn rfl)) (fun q => q.elim (fun h => absurd h (nn rfl)) (fun h => absurd h (nn rfl))))
theorem qn_1520ff5e3 {j : Int} : ¬ (((43 : Nat) = 41 ∧ j = 0) ∨ (43 : Nat) = 42 ∨ (43 : Nat) = 59) := (fun q => q.elim (fun h => absurd h.1 (nn rfl)) (fun q => q.elim (fun h => absurd h (nn rfl)) (fun h => absurd h (nn rfl))))
theorem qn_0dbc1df78 {P : Nat} {j : Int} (hP : P = 13 ∨ P = 25) : ¬ (((1 : Nat) = 0 ∧ j = 12) ∨ (1 : Nat) = (P + 10) ∨ (1 : Nat) = (P + 11)) := (fun q => q.elim (fun h => absurd h.1 (nn rfl)) (fun q => q.elim (fun h => absurd h (pn hP rfl rfl)) (fun h => absurd h (pn hP rfl rfl))))
theorem qn_44683f5fa {j : Int} : ¬ (((1 : Nat) = 41 ∧ j = 0) ∨ (1 : Nat) = 42 ∨ (1 : Nat) = 59 ∨ (1 : Nat) = 54 ∨ (1 : Nat) = 55) := (fun q => q.elim (fun h => absurd h.1 (nn rfl)) (fun q => q.elim (fun h => absurd h (nn rfl)) (fun q => q.elim (fun h => absurd h (nn rfl)) (fun q => q.elim (fun h => absurd h (nn rfl)) (fun h => absurd h (nn rfl))))))
theorem qn_384c17487 {P : Nat} {j : Int} (hP : P = 13 ∨ P = 25) : ¬ (((41 : Nat) = 0 ∧ j = 12) ∨ (41 : Nat) = (P + 10) ∨ (41 : Nat) = (P + 11)) := (fun q => q.elim (fun h => absurd h.1 (nn rfl)) (fun q => q.elim (fun h => absurd h (pn hP rfl rfl)) (fun h => absurd h (pn hP rfl rfl))))
theorem qn_7a112a690 : ¬ (((41 : Nat) = 41 ∧ (2 : Int) = 0) ∨ (41 : Nat) = 42 ∨ (41 : Nat) = 59 ∨ (41 : Nat) = 54 ∨ (41 : Nat) = 55) := (fun q => q.elim (fun h => absurd h.2 (ni rfl)) (fun q => q.elim (fun h => absurd h (nn rfl)) (fun q => q.elim (fun h => absurd h (nn rfl)) (fun q => q.elim (fun h => absurd h (nn rfl)) (fun h => absurd h (nn rfl))))))
theorem qn_d0e66b3bf {j : Int} : ¬ (((2 : Nat) = 41 ∧ j = 0) ∨ (2 : Nat) = 42 ∨ (2 : Nat) = 59 ∨ (2 : Nat) = 54 ∨ (2 : Nat) = 55) := (fun q => q.elim (fun h => absurd h.1 (nn rfl)) (fun q => q.elim (fun h => absurd h (nn rfl)) (fun q => q.elim (fun h => absurd h (nn rfl)) (fun q => q.elim (fun h => absurd h (nn rfl)) (fun h => absurd h (nn rfl))))))
theorem qn_371ad3962 {P : Nat} {j : Int} (hP : P = 13 ∨ P = 25) : ¬ (((2 : Nat) = 0 ∧ j = 12) ∨ (2 : Nat) = (P + 10) ∨ (2 : Nat) = (P + 11)) := (fun q => q.elim (fun h => absurd h.1 (nn rfl)) (fun q => q.elim (fun h => absurd h (pn hP rfl rfl)) (fun h => absurd h (pn hP rfl rfl))))
theorem qn_5a77d9750 {j : Int} : ¬ (((43 : Nat) = 41 ∧ j = 0) ∨ (43 : Nat) = 42 ∨ (43 : Nat) = 59 ∨ (43 : Nat) = 54 ∨ (43 : Nat) = 55) := (fun q => q.elim (fun h => absurd h.1 (nn rfl)) (fun q => q.elim (fun h => absurd h (nn rfl)) (fun q => q.elim (fun h => absurd h (nn rfl)) (fun q => q.elim (fun h => absurd h (nn rfl)) (fun h => absurd h (nn rfl))))))
theorem qn_e10256050 {P : Nat} {j : Int} (hP : P = 13 ∨ P = 25) : ¬ (((43 : Nat) = 0 ∧ j = 12) ∨ (43 : Nat) = (P + 10) ∨ (43 : Nat) = (P + 11)) := (fun q => q.elim (fun h => absurd h.1 (nn rfl)) (fun q => q.elim (fun h => absurd h (pn hP rfl rfl)) (fun h => absurd h (pn hP rfl rfl))))
theorem qn_573365727 {P : Nat} {j : Int} (hP : P = 13 ∨ P = 25) : ¬ (((1 : Nat) = 0 ∧ j = 13) ∨ (1 : Nat) = (P + 10) ∨ (1 : Nat) = (P + 11)) := (fun q => q.elim (fun h => absurd h.1 (nn rfl)) (fun q => q.elim (fun h => absurd h (pn hP rfl rfl)) (fun h => absurd h (pn hP rfl rfl))))
theorem qn_37c5d22e3 {j : Int} : ¬ (((1 : Nat) = 41 ∧ j = 0) ∨ (1 : Nat) = 42 ∨ (1 : Nat) = 54 ∨ (1 : Nat) = 55) := (fun q => q.elim (fun h => absurd h.1 (nn rfl)) (fun q => q.elim (fun h => absurd h (nn rfl)) (fun q => q.elim (fun h => absurd h (nn rfl)) (fun h => absurd h (nn rfl)))))
theorem qn_69be8c781 {P : Nat} {j : Int} (hP : P = 13 ∨ P = 25) : ¬ (((41 : Nat) = 0 ∧ j = 13) ∨ (41 : Nat) = (P + 10) ∨ (41 : Nat) = (P + 11)) := (fun q => q.elim (fun h => absurd h.1 (nn rfl)) (fun q => q.elim (fun h => absurd h (pn hP rfl rfl)) (fun h => absurd h (pn hP rfl rfl))))
theorem qn_8a9509c06 : ¬ (((41 : Nat) = 41 ∧ (2 : Int) = 0) ∨ (41 : Nat) = 42 ∨ (41 : Nat) = 54 ∨ (41 : Nat) = 55) := (fun q => q.elim (fun h => absurd h.2 (ni rfl)) (fun q => q.elim (fun h => absurd h (nn rfl)) (fun q => q.elim (fun h => absurd h (nn rfl)) (fun h => absurd h (nn rfl)))))
theorem qn_e0cc749b3 {j : Int} : ¬ (((2 : Nat) = 41 ∧ j = 0) ∨ (2 : Nat) = 42 ∨ (2 : Nat) = 54 ∨ (2 : Nat) = 55) := (fun q => q.elim (fun h => absurd h.1 (nn rfl)) (fun q => q.elim (fun h => absurd h (nn rfl)) (fun q => q.elim (fun h => absurd h (nn rfl)) (fun h => absurd h (nn rfl)))))
theorem qn_aaebe4308 {P : Nat} {j : Int} (hP : P = 13 ∨ P = 25) : ¬ (((2 : Nat) = 0 ∧ j = 13) ∨ (2 : Nat) = (P + 10) ∨ (2 : Nat) = (P + 11)) := (fun q => q.elim (fun h => absurd h.1 (nn rfl)) (fun q => q.elim (fun h => absurd h (pn hP rfl rfl)) (fun h => absurd h (pn hP rfl rfl))))
theorem qn_53d487302 {j : Int} : ¬ (((43 : Nat) = 41 ∧ j = 0) ∨ (43 : Nat) = 42 ∨ (43 : Nat) = 54 ∨ (43 : Nat) = 55) := (fun q => q.elim (fun h => absurd h.1 (nn rfl)) (fun q => q.elim (fun h => absurd h (nn rfl)) (fun q => q.elim (fun h => absurd h (nn rfl)) (fun h => absurd h (nn rfl)))))
theorem qn_3e58b8819 {P : Nat} {j : Int} (hP : P = 13 ∨ P = 25) : ¬ (((43 : Nat) = 0 ∧ j = 13) ∨ (43 : Nat) = (P + 10) ∨ (43 : Nat) = (P + 11)) := (fun q => q.elim (fun h => absurd h.1 (nn rfl)) (fun q => q.elim (fun h => absurd h (pn hP rfl rfl)) (fun h => absurd h (pn hP rfl rfl))))
theorem qn_ab545a015 {j : Int} : ¬ (((1 : Nat) = 0 ∧ j = 12) ∨ ((1 : Nat) = 0 ∧ j = 13) ∨ (1 : Nat) = 40) := (fun q => q.elim (fun h => absurd h.1 (nn rfl)) (fun q => q.elim (fun h => absurd h.1 (nn rfl)) (fun h => absurd h (nn rfl))))
theorem qn_f6e9e9f23 {j : Int} : ¬ (((41 : Nat) = 0 ∧ j = 12) ∨ ((41 : Nat) = 0 ∧ j = 13) ∨ (41 : Nat) = 40) := (fun q => q.elim (fun h => absurd h.1 (nn rfl)) (fun q => q.elim (fun h => absurd h.1 (nn rfl)) (fun h => absurd h (nn rfl))))
theorem qn_326a9cf27 {j : Int} : ¬ (((2 : Nat) = 0 ∧ j = 12) ∨ ((2 : Nat) = 0 ∧ j = 13) ∨ (2 : Nat) = 40) := (fun q => q.elim (fun h => absurd h.1 (nn rfl)) (fun q => q.elim (fun h => absurd h.1 (nn rfl)) (fun h => absurd h (nn rfl))))
theorem qn_dee8a76c5 {j : Int} : ¬ (((43 : Nat) = 0 ∧ j = 12) ∨ ((43 : Nat) = 0 ∧ j = 13) ∨ (43 : Nat) = 40) := (fun q => q.elim (fun h => absurd h.1 (nn rfl)) (fun q => q.elim (fun h => absurd h.1 (nn rfl)) (fun h => absurd h (nn rfl))))
theorem qn_eae2a9dd9 {j : Int} : ¬ (((1 : Nat) = 0 ∧ j = 12) ∨ ((1 : Nat) = 0 ∧ j = 13) ∨ (1 : Nat) = 12) := (fun q => q.elim (fun h => absurd h.1 (nn rfl)) (fun q => q.elim (fun h => absurd h.1 (nn rfl)) (fun h => absurd h (nn rfl))))
theorem qn_ad6320866 {j : Int} : ¬ (((41 : Nat) = 0 ∧ j = 12) ∨ ((41 : Nat) = 0 ∧ j = 13) ∨ (41 : Nat) = 12) := (fun q => q.elim (fun h => absurd h.1 (nn rfl)) (fun q => q.elim (fun h => absurd h.1 (nn rfl)) (fun h => absurd h (nn rfl))))
theorem qn_37f624f87 {j : Int} : ¬ (((2 : Nat) = 0 ∧ j = 12) ∨ ((2 : Nat) = 0 ∧ j = 13) ∨ (2 : Nat) = 12) := (fun q => q.elim (fun h => absurd h.1 (nn rfl)) (fun q => q.elim (fun h => absurd h.1 (nn rfl)) (fun h => absurd h (nn rfl))))
theorem qn_f1cf9021e {j : Int} : ¬ (((43 : Nat) = 0 ∧ j = 12) ∨ ((43 : Nat) = 0 ∧ j = 13) ∨ (43 : Nat) = 12) := (fun q => q.elim (fun h => absurd h.1 (nn rfl)) (fun q => q.elim (fun h => absurd h.1 (nn rfl)) (fun h => absurd h (nn rfl))))
theorem qn_3770fd1a9 {P : Nat} {j : Int} (hP : P = 13 ∨ P = 25) : ¬ (((1 : Nat) = 0 ∧ j = 13) ∨ (1 : Nat) = (P + 10) ∨ (1 : Nat) = (P + 11) ∨ (1 : Nat) = 11) := (fun q => q.elim (fun h => absurd h.1 (nn rfl)) (fun q => q.elim (fun h => absurd h (pn hP rfl rfl)) (fun q => q.elim (fun h => absurd h (pn hP rfl rfl)) (fun h => absurd h (nn rfl)))))
theorem qn_691fb4e77 {P : Nat} {j : Int} (hP : P = 13 ∨ P = 25) : ¬ (((41 : Nat) = 0 ∧ j = 13) ∨ (41 : Nat) = (P + 10) ∨ (41 : Nat) = (P + 11) ∨ (41 : Nat) = 11) := (fun q => q.elim (fun h => absurd h.1 (nn rfl)) (fun q => q.elim (fun h => absurd h (pn hP rfl rfl)) (fun q => q.elim (fun h => absurd h (pn hP rfl rfl)) (fun h => absurd h (nn rfl)))))
theorem qn_28c0e9630 {P : Nat} {j : Int} (hP : P = 13 ∨ P = 25) : ¬ (((2 : Nat) = 0 ∧ j = 13) ∨ (2 : Nat) = (P + 10) ∨ (2 : Nat) = (P + 11) ∨ (2 : Nat) = 11) := (fun q => q.elim (fun h => absurd h.1 (nn rfl)) (fun q => q.elim (fun h => absurd h (pn hP rfl rfl)) (fun q => q.elim (fun h => absurd h (pn hP rfl rfl)) (fun h => absurd h (nn rfl)))))
theorem qn_824e8473b {P : Nat} {j : Int} (hP : P = 13 ∨ P = 25) : ¬ (((43 : Nat) = 0 ∧ j = 13) ∨ (43 : Nat) = (P + 10) ∨ (43 : Nat) = (P + 11) ∨ (43 : Nat) = 11) := (fun q => q.elim (fun h => absurd h.1 (nn rfl)) (fun q => q.elim (fun h => absurd h (pn hP rfl rfl)) (fun q => q.elim (fun h => absurd h (pn hP rfl rfl)) (fun h => absurd h (nn rfl)))))
theorem c_296_301 : mLk 296 301 = some (.aload_n 1, 1) := rfl
theorem c_296_302 : mLk 296 302 = some (.aload_n 0, 1) := rfl
theorem c_296_303 : mLk 296 303 = some (.iload 4, 2) := rfl
theorem c_296_305 : mLk 296 305 = some (.iconst 1, 1) := rfl
theorem c_296_306 : mLk 296 306 = some (.iadd, 1) := rfl
theorem c_296_307 : mLk 296 307 = some (.iaload, 1) := rfl
theorem c_296_308 : mLk 296 308 = some (.aload_n 3, 1) := rfl
theorem c_296_309 : mLk 296 309 = some (.invokestatic 128, 3) := rfl
theorem c_263_0 : mLk 263 0 = some (.aload_n 2, 1) := rfl
theorem c_263_1 : mLk 263 1 = some (.iconst 0, 1) := rfl
theorem c_263_2 : mLk 263 2 = some (.aload_n 0, 1) := rfl
theorem c_263_3 : mLk 263 3 = some (.iload_n 1, 1) := rfl
theorem c_263_4 : mLk 263 4 = some (.invokevirtual 7, 3) := rfl
theorem c_296_312 : mLk 296 312 = some (.istore 5, 2) := rfl
theorem c_296_314 : mLk 296 314 = some (.aload_n 2, 1) := rfl
theorem c_296_315 : mLk 296 315 = some (.aload_n 0, 1) := rfl
theorem c_296_316 : mLk 296 316 = some (.iload 4, 2) := rfl
theorem c_296_318 : mLk 296 318 = some (.iconst 1, 1) := rfl
theorem c_296_319 : mLk 296 319 = some (.iadd, 1) := rfl
theorem c_296_320 : mLk 296 320 = some (.iaload, 1) := rfl
theorem c_296_321 : mLk 296 321 = some (.invokevirtual 133, 3) := rfl
theorem c_296_324 : mLk 296 324 = some (.istore 6, 2) := rfl
theorem c_296_326 : mLk 296 326 = some (.goto 1518, 3) := rfl
theorem c_263_7 : mLk 263 7 = some (.i2l, 1) := rfl
theorem c_263_8 : mLk 263 8 = some (.lastore, 1) := rfl
theorem c_263_9 : mLk 263 9 = some (.goto 6, 3) := rfl
theorem c_263_15 : mLk 263 15 = some (.iconst 0, 1) := rfl
theorem c_263_16 : mLk 263 16 = some (.ireturn, 1) := rfl
theorem c_296_329 : mLk 296 329 = some (.aload_n 1, 1) := rfl
theorem c_296_330 : mLk 296 330 = some (.aload_n 0, 1) := rfl
theorem c_296_331 : mLk 296 331 = some (.iload 4, 2) := rfl
theorem c_296_333 : mLk 296 333 = some (.iconst 1, 1) := rfl
theorem c_296_334 : mLk 296 334 = some (.iadd, 1) := rfl
theorem c_296_335 : mLk 296 335 = some (.iaload, 1) := rfl
theorem c_296_336 : mLk 296 336 = some (.aload_n 3, 1) := rfl
theorem c_296_337 : mLk 296 337 = some (.invokestatic 134, 3) := rfl
theorem c_264_0 : mLk 264 0 = some (.aload_n 2, 1) := rfl
theorem c_264_1 : mLk 264 1 = some (.iconst 0, 1) := rfl
theorem c_264_2 : mLk 264 2 = some (.aload_n 0, 1) := rfl
theorem c_264_3 : mLk 264 3 = some (.iload_n 1, 1) := rfl
theorem c_264_4 : mLk 264 4 = some (.invokevirtual 15, 3) := rfl
theorem c_296_340 : mLk 296 340 = some (.istore 5, 2) := rfl
theorem c_296_342 : mLk 296 342 = some (.aload_n 2, 1) := rfl
theorem c_296_343 : mLk 296 343 = some (.aload_n 0, 1) := rfl
theorem c_296_344 : mLk 296 344 = some (.iload 4, 2) := rfl
theorem c_296_346 : mLk 296 346 = some (.iconst 1, 1) := rfl
theorem c_296_347 : mLk 296 347 = some (.iadd, 1) := rfl
theorem c_296_348 : mLk 296 348 = some (.iaload, 1) := rfl
theorem c_296_349 : mLk 296 349 = some (.invokevirtual 136, 3) := rfl
theorem c_296_352 : mLk 296 352 = some (.istore 6, 2) := rfl
theorem c_296_354 : mLk 296 354 = some (.aload_n 2, 1) := rfl
theorem c_296_355 : mLk 296 355 = some (.invokevirtual 137, 3) := rfl
theorem c_144_0 : mLk 144 0 = some (.aload_n 0, 1) := rfl
theorem c_144_1 : mLk 144 1 = some (.getfield 3, 3) := rfl
theorem c_144_4 : mLk 144 4 = some (.ireturn, 1) := rfl
theorem c_296_358 : mLk 296 358 = some (.iload 5, 2) := rfl
theorem c_296_360 : mLk 296 360 = some (.if_icmp .eq 5, 3) := rfl
theorem c_296_365 : mLk 296 365 = some (.iload 5, 2) := rfl
theorem c_296_367 : mLk 296 367 = some (.ifCond .ne 15, 3) := rfl
theorem c_296_382 : mLk 296 382 = some (.goto 1462, 3) := rfl
theorem c_264_7 : mLk 264 7 = some (.i2l, 1) := rfl
theorem c_264_8 : mLk 264 8 = some (.lastore, 1) := rfl
theorem c_264_9 : mLk 264 9 = some (.goto 6, 3) := rfl
theorem c_264_15 : mLk 264 15 = some (.iconst 0, 1) := rfl
theorem c_264_16 : mLk 264 16 = some (.ireturn, 1) := rfl
theorem c_296_370 : mLk 296 370 = some (.aload_n 3, 1) := rfl
theorem c_296_371 : mLk 296 371 = some (.iconst 0, 1) := rfl
theorem c_296_372 : mLk 296 372 = some (.laload, 1) := rfl
theorem c_296_373 : mLk 296 373 = some (.iload 6, 2) := rfl
theorem c_296_375 : mLk 296 375 = some (.i2l, 1) := rfl
theorem c_296_376 : mLk 296 376 = some (.lcmp, 1) := rfl
theorem c_296_377 : mLk 296 377 = some (.ifCond .eq 5, 3) := rfl
theorem c_296_385 : mLk 296 385 = some (.aload_n 1, 1) := rfl
theorem c_296_386 : mLk 296 386 = some (.aload_n 0, 1) := rfl
theorem c_296_387 : mLk 296 387 = some (.iload 4, 2) := rfl
theorem c_296_389 : mLk 296 389 = some (.iconst 1, 1) := rfl
theorem c_296_390 : mLk 296 390 = some (.iadd, 1) := rfl
theorem c_296_391 : mLk 296 391 = some (.iaload, 1) := rfl
theorem c_296_392 : mLk 296 392 = some (.aload_n 3, 1) := rfl
theorem c_296_393 : mLk 296 393 = some (.invokestatic 141, 3) := rfl
theorem c_265_0 : mLk 265 0 = some (.aload_n 2, 1) := rfl
theorem c_265_1 : mLk 265 1 = some (.iconst 0, 1) := rfl
theorem c_265_2 : mLk 265 2 = some (.aload_n 0, 1) := rfl
theorem c_265_3 : mLk 265 3 = some (.iload_n 1, 1) := rfl
theorem c_265_4 : mLk 265 4 = some (.invokevirtual 18, 3) := rfl
theorem c_296_396 : mLk 296 396 = some (.istore 5, 2) := rfl
theorem c_296_398 : mLk 296 398 = some (.aload_n 2, 1) := rfl
theorem c_296_399 : mLk 296 399 = some (.aload_n 0, 1) := rfl
theorem c_296_400 : mLk 296 400 = some (.iload 4, 2) := rfl
theorem c_296_402 : mLk 296 402 = some (.iconst 1, 1) := rfl
theorem c_296_403 : mLk 296 403 = some (.iadd, 1) := rfl
theorem c_296_404 : mLk 296 404 = some (.iaload, 1) := rfl
theorem c_296_405 : mLk 296 405 = some (.invokevirtual 143, 3) := rfl
theorem c_296_408 : mLk 296 408 = some (.istore 6, 2) := rfl
theorem c_296_410 : mLk 296 410 = some (.goto 1434, 3) := rfl
theorem c_265_7 : mLk 265 7 = some (.i2l, 1) := rfl
theorem c_265_8 : mLk 265 8 = some (.lastore, 1) := rfl
theorem c_265_9 : mLk 265 9 = some (.goto 6, 3) := rfl
theorem c_265_15 : mLk 265 15 = some (.iconst 0, 1) := rfl
theorem c_265_16 : mLk 265 16 = some (.ireturn, 1) := rfl
theorem c_296_413 : mLk 296 413 = some (.aload_n 1, 1) := rfl
theorem c_296_414 : mLk 296 414 = some (.aload_n 0, 1) := rfl
theorem c_296_415 : mLk 296 415 = some (.iload 4, 2) := rfl
theorem c_296_417 : mLk 296 417 = some (.iconst 1, 1) := rfl
theorem c_296_418 : mLk 296 418 = some (.iadd, 1) := rfl
theorem c_296_419 : mLk 296 419 = some (.iaload, 1) := rfl
theorem c_296_420 : mLk 296 420 = some (.aload_n 3, 1) := rfl
theorem c_296_421 : mLk 296 421 = some (.invokestatic 144, 3) := rfl
theorem c_266_0 : mLk 266 0 = some (.aload_n 2, 1) := rfl
theorem c_266_1 : mLk 266 1 = some (.iconst 0, 1) := rfl
theorem c_266_2 : mLk 266 2 = some (.aload_n 0, 1) := rfl
theorem c_266_3 : mLk 266 3 = some (.iload_n 1, 1) := rfl
theorem c_266_4 : mLk 266 4 = some (.invokevirtual 21, 3) := rfl
theorem c_296_424 : mLk 296 424 = some (.istore 5, 2) := rfl
theorem c_296_426 : mLk 296 426 = some (.aload_n 2, 1) := rfl
theorem c_296_427 : mLk 296 427 = some (.aload_n 0, 1) := rfl
theorem c_296_428 : mLk 296 428 = some (.iload 4, 2) := rfl
theorem c_296_430 : mLk 296 430 = some (.iconst 1, 1) := rfl
theorem c_296_431 : mLk 296 431 = some (.iadd, 1) := rfl
theorem c_296_432 : mLk 296 432 = some (.iaload, 1) := rfl
theorem c_296_433 : mLk 296 433 = some (.invokevirtual 146, 3) := rfl
theorem c_296_436 : mLk 296 436 = some (.istore 6, 2) := rfl
theorem c_296_438 : mLk 296 438 = some (.goto 1406, 3) := rfl
theorem c_266_7 : mLk 266 7 = some (.i2l, 1) := rfl
theorem c_266_8 : mLk 266 8 = some (.lastore, 1) := rfl
theorem c_266_9 : mLk 266 9 = some (.goto 6, 3) := rfl
theorem c_266_15 : mLk 266 15 = some (.iconst 0, 1) := rfl
theorem c_266_16 : mLk 266 16 = some (.ireturn, 1) := rfl
theorem c_296_441 : mLk 296 441 = some (.aload_n 1, 1) := rfl
theorem c_296_442 : mLk 296 442 = some (.aload_n 0, 1) := rfl
theorem c_296_443 : mLk 296 443 = some (.iload 4, 2) := rfl
theorem c_296_445 : mLk 296 445 = some (.iconst 1, 1) := rfl
theorem c_296_446 : mLk 296 446 = some (.iadd, 1) := rfl
theorem c_296_447 : mLk 296 447 = some (.iaload, 1) := rfl
theorem c_296_448 : mLk 296 448 = some (.aload_n 3, 1) := rfl
theorem c_296_449 : mLk 296 449 = some (.invokestatic 147, 3) := rfl
theorem c_267_0 : mLk 267 0 = some (.aload_n 2, 1) := rfl
theorem c_267_1 : mLk 267 1 = some (.iconst 0, 1) := rfl
theorem c_267_2 : mLk 267 2 = some (.aload_n 0, 1) := rfl
theorem c_267_3 : mLk 267 3 = some (.iload_n 1, 1) := rfl
theorem c_267_4 : mLk 267 4 = some (.invokevirtual 24, 3) := rfl
theorem c_296_452 : mLk 296 452 = some (.istore 5, 2) := rfl
theorem c_296_454 : mLk 296 454 = some (.aload_n 2, 1) := rfl
theorem c_296_455 : mLk 296 455 = some (.aload_n 0, 1) := rfl
theorem c_296_456 : mLk 296 456 = some (.iload 4, 2) := rfl
theorem c_296_458 : mLk 296 458 = some (.iconst 1, 1) := rfl
theorem c_296_459 : mLk 296 459 = some (.iadd, 1) := rfl
theorem c_296_460 : mLk 296 460 = some (.iaload, 1) := rfl
theorem c_296_461 : mLk 296 461 = some (.invokevirtual 149, 3) := rfl
theorem c_296_464 : mLk 296 464 = some (.istore 6, 2) := rfl
theorem c_296_466 : mLk 296 466 = some (.goto 1378, 3) := rfl
theorem c_267_7 : mLk 267 7 = some (.i2l, 1) := rfl
theorem c_267_8 : mLk 267 8 = some (.lastore, 1) := rfl
theorem c_267_9 : mLk 267 9 = some (.goto 6, 3) := rfl
theorem c_267_15 : mLk 267 15 = some (.iconst 0, 1) := rfl
theorem c_267_16 : mLk 267 16 = some (.ireturn, 1) := rfl
theorem c_296_469 : mLk 296 469 = some (.aload_n 1, 1) := rfl
theorem c_296_470 : mLk 296 470 = some (.invokevirtual 150, 3) := rfl
theorem c_296_473 : mLk 296 473 = some (.pop, 1) := rfl
theorem c_296_474 : mLk 296 474 = some (.aload_n 2, 1) := rfl
theorem c_296_475 : mLk 296 475 = some (.invokevirtual 153, 3) := rfl
theorem c_296_478 : mLk 296 478 = some (.pop, 1) := rfl
theorem c_296_479 : mLk 296 479 = some (.goto 1365, 3) := rfl
theorem c_296_482 : mLk 296 482 = some (.aload_n 1, 1) := rfl
theorem c_296_483 : mLk 296 483 = some (.invokevirtual 154, 3) := rfl
theorem c_296_486 : mLk 296 486 = some (.pop, 1) := rfl
theorem c_296_487 : mLk 296 487 = some (.aload_n 2, 1) := rfl
theorem c_296_488 : mLk 296 488 = some (.invokevirtual 157, 3) := rfl
theorem c_296_491 : mLk 296 491 = some (.pop, 1) := rfl
theorem c_296_492 : mLk 296 492 = some (.goto 1352, 3) := rfl
theorem c_296_495 : mLk 296 495 = some (.aload_n 1, 1) := rfl
theorem c_296_496 : mLk 296 496 = some (.aload_n 0, 1) := rfl
theorem c_296_497 : mLk 296 497 = some (.iload 4, 2) := rfl
theorem c_296_499 : mLk 296 499 = some (.iconst 1, 1) := rfl
theorem c_296_500 : mLk 296 500 = some (.iadd, 1) := rfl
theorem c_296_501 : mLk 296 501 = some (.iaload, 1) := rfl
theorem c_296_502 : mLk 296 502 = some (.aload_n 3, 1) := rfl
theorem c_296_503 : mLk 296 503 = some (.invokestatic 158, 3) := rfl
theorem c_268_0 : mLk 268 0 = some (.aload_n 2, 1) := rfl
theorem c_268_1 : mLk 268 1 = some (.iconst 0, 1) := rfl
theorem c_268_2 : mLk 268 2 = some (.aload_n 0, 1) := rfl
theorem c_268_3 : mLk 268 3 = some (.iload_n 1, 1) := rfl
theorem c_268_4 : mLk 268 4 = some (.invokevirtual 27, 3) := rfl
theorem c_296_506 : mLk 296 506 = some (.istore 5, 2) := rfl
theorem c_296_508 : mLk 296 508 = some (.aload_n 2, 1) := rfl
theorem c_296_509 : mLk 296 509 = some (.aload_n 0, 1) := rfl
theorem c_296_510 : mLk 296 510 = some (.iload 4, 2) := rfl
theorem c_296_512 : mLk 296 512 = some (.iconst 1, 1) := rfl
theorem c_296_513 : mLk 296 513 = some (.iadd, 1) := rfl
theorem c_296_514 : mLk 296 514 = some (.iaload, 1) := rfl
theorem c_296_515 : mLk 296 515 = some (.invokevirtual 160, 3) := rfl
theorem c_296_518 : mLk 296 518 = some (.istore 6, 2) := rfl
theorem c_296_520 : mLk 296 520 = some (.goto 1324, 3) := rfl
theorem c_268_7 : mLk 268 7 = some (.i2l, 1) := rfl
theorem c_268_8 : mLk 268 8 = some (.lastore, 1) := rfl
theorem c_268_9 : mLk 268 9 = some (.goto 6, 3) := rfl
theorem c_268_15 : mLk 268 15 = some (.iconst 0, 1) := rfl
theorem c_268_16 : mLk 268 16 = some (.ireturn, 1) := rfl
theorem c_296_523 : mLk 296 523 = some (.aload_n 1, 1) := rfl
theorem c_296_524 : mLk 296 524 = some (.aload_n 0, 1) := rfl
theorem c_296_525 : mLk 296 525 = some (.iload 4, 2) := rfl
theorem c_296_527 : mLk 296 527 = some (.iconst 1, 1) := rfl
theorem c_296_528 : mLk 296 528 = some (.iadd, 1) := rfl
theorem c_296_529 : mLk 296 529 = some (.iaload, 1) := rfl
theorem c_296_530 : mLk 296 530 = some (.aload_n 0, 1) := rfl
theorem c_296_531 : mLk 296 531 = some (.iload 4, 2) := rfl
theorem c_296_533 : mLk 296 533 = some (.iconst 2, 1) := rfl
theorem c_296_534 : mLk 296 534 = some (.iadd, 1) := rfl
theorem c_296_535 : mLk 296 535 = some (.iaload, 1) := rfl
theorem c_296_536 : mLk 296 536 = some (.aload_n 3, 1) := rfl
theorem c_296_537 : mLk 296 537 = some (.invokestatic 161, 3) := rfl
theorem c_269_0 : mLk 269 0 = some (.aload_n 3, 1) := rfl
theorem c_269_1 : mLk 269 1 = some (.iconst 0, 1) := rfl
theorem c_269_2 : mLk 269 2 = some (.aload_n 0, 1) := rfl
theorem c_269_3 : mLk 269 3 = some (.iload_n 1, 1) := rfl
theorem c_269_4 : mLk 269 4 = some (.iload_n 2, 1) := rfl
theorem c_269_5 : mLk 269 5 = some (.invokevirtual 30, 3) := rfl
theorem c_296_540 : mLk 296 540 = some (.istore 5, 2) := rfl
theorem c_296_542 : mLk 296 542 = some (.aload_n 2, 1) := rfl
theorem c_296_543 : mLk 296 543 = some (.aload_n 0, 1) := rfl
theorem c_296_544 : mLk 296 544 = some (.iload 4, 2) := rfl
theorem c_296_546 : mLk 296 546 = some (.iconst 1, 1) := rfl
theorem c_296_547 : mLk 296 547 = some (.iadd, 1) := rfl
theorem c_296_548 : mLk 296 548 = some (.iaload, 1) := rfl
theorem c_296_549 : mLk 296 549 = some (.aload_n 0, 1) := rfl
theorem c_296_550 : mLk 296 550 = some (.iload 4, 2) := rfl
theorem c_296_552 : mLk 296 552 = some (.iconst 2, 1) := rfl
theorem c_296_553 : mLk 296 553 = some (.iadd, 1) := rfl
theorem c_296_554 : mLk 296 554 = some (.iaload, 1) := rfl
theorem c_296_555 : mLk 296 555 = some (.invokevirtual 164, 3) := rfl
theorem c_296_558 : mLk 296 558 = some (.istore 6, 2) := rfl
theorem c_296_560 : mLk 296 560 = some (.goto 1284, 3) := rfl
theorem c_269_8 : mLk 269 8 = some (.i2l, 1) := rfl
theorem c_269_9 : mLk 269 9 = some (.lastore, 1) := rfl
theorem c_269_10 : mLk 269 10 = some (.goto 11, 3) := rfl
theorem c_269_21 : mLk 269 21 = some (.iconst 0, 1) := rfl
theorem c_269_22 : mLk 269 22 = some (.ireturn, 1) := rfl
theorem c_296_563 : mLk 296 563 = some (.aload_n 1, 1) := rfl
theorem c_296_564 : mLk 296 564 = some (.aload_n 0, 1) := rfl
theorem c_296_565 : mLk 296 565 = some (.iload 4, 2) := rfl
theorem c_296_567 : mLk 296 567 = some (.iconst 1, 1) := rfl
theorem c_296_568 : mLk 296 568 = some (.iadd, 1) := rfl
theorem c_296_569 : mLk 296 569 = some (.iaload, 1) := rfl
theorem c_296_570 : mLk 296 570 = some (.aload_n 0, 1) := rfl
theorem c_296_571 : mLk 296 571 = some (.iload 4, 2) := rfl
theorem c_296_573 : mLk 296 573 = some (.iconst 2, 1) := rfl
theorem c_296_574 : mLk 296 574 = some (.iadd, 1) := rfl
theorem c_296_575 : mLk 296 575 = some (.iaload, 1) := rfl
theorem c_296_576 : mLk 296 576 = some (.aload_n 3, 1) := rfl
theorem c_296_577 : mLk 296 577 = some (.invokestatic 165, 3) := rfl
theorem c_270_0 : mLk 270 0 = some (.aload_n 3, 1) := rfl
theorem c_270_1 : mLk 270 1 = some (.iconst 0, 1) := rfl
theorem c_270_2 : mLk 270 2 = some (.aload_n 0, 1) := rfl
theorem c_270_3 : mLk 270 3 = some (.iload_n 1, 1) := rfl
theorem c_270_4 : mLk 270 4 = some (.iload_n 2, 1) := rfl
theorem c_270_5 : mLk 270 5 = some (.invokevirtual 36, 3) := rfl
theorem c_296_580 : mLk 296 580 = some (.istore 5, 2) := rfl
theorem c_296_582 : mLk 296 582 = some (.aload_n 2, 1) := rfl
theorem c_296_583 : mLk 296 583 = some (.aload_n 0, 1) := rfl
theorem c_296_584 : mLk 296 584 = some (.iload 4, 2) := rfl
theorem c_296_586 : mLk 296 586 = some (.iconst 1, 1) := rfl
theorem c_296_587 : mLk 296 587 = some (.iadd, 1) := rfl
theorem c_296_588 : mLk 296 588 = some (.iaload, 1) := rfl
theorem c_296_589 : mLk 296 589 = some (.aload_n 0, 1) := rfl
theorem c_296_590 : mLk 296 590 = some (.iload 4, 2) := rfl
theorem c_296_592 : mLk 296 592 = some (.iconst 2, 1) := rfl
theorem c_296_593 : mLk 296 593 = some (.iadd, 1) := rfl
theorem c_296_594 : mLk 296 594 = some (.iaload, 1) := rfl
theorem c_296_595 : mLk 296 595 = some (.invokevirtual 167, 3) := rfl
theorem c_296_598 : mLk 296 598 = some (.istore 6, 2) := rfl
theorem c_296_600 : mLk 296 600 = some (.goto 1244, 3) := rfl
theorem c_270_8 : mLk 270 8 = some (.i2l, 1) := rfl
theorem c_270_9 : mLk 270 9 = some (.lastore, 1) := rfl
theorem c_270_10 : mLk 270 10 = some (.goto 11, 3) := rfl
theorem c_270_21 : mLk 270 21 = some (.iconst 0, 1) := rfl
theorem c_270_22 : mLk 270 22 = some (.ireturn, 1) := rfl
theorem c_296_603 : mLk 296 603 = some (.aload_n 1, 1) := rfl
theorem c_296_604 : mLk 296 604 = some (.aload_n 0, 1) := rfl
theorem c_296_605 : mLk 296 605 = some (.iload 4, 2) := rfl
theorem c_296_607 : mLk 296 607 = some (.iconst 1, 1) := rfl
theorem c_296_608 : mLk 296 608 = some (.iadd, 1) := rfl
theorem c_296_609 : mLk 296 609 = some (.iaload, 1) := rfl
theorem c_296_610 : mLk 296 610 = some (.aload_n 0, 1) := rfl
theorem c_296_611 : mLk 296 611 = some (.iload 4, 2) := rfl
theorem c_296_613 : mLk 296 613 = some (.iconst 2, 1) := rfl
theorem c_296_614 : mLk 296 614 = some (.iadd, 1) := rfl
theorem c_296_615 : mLk 296 615 = some (.iaload, 1) := rfl
theorem c_296_616 : mLk 296 616 = some (.aload_n 3, 1) := rfl
theorem c_296_617 : mLk 296 617 = some (.invokestatic 168, 3) := rfl
theorem c_271_0 : mLk 271 0 = some (.aload_n 3, 1) := rfl
theorem c_271_1 : mLk 271 1 = some (.iconst 0, 1) := rfl
theorem c_271_2 : mLk 271 2 = some (.aload_n 0, 1) := rfl
theorem c_271_3 : mLk 271 3 = some (.iload_n 1, 1) := rfl
theorem c_271_4 : mLk 271 4 = some (.iload_n 2, 1) := rfl
theorem c_271_5 : mLk 271 5 = some (.invokevirtual 39, 3) := rfl
theorem c_296_620 : mLk 296 620 = some (.istore 5, 2) := rfl
theorem c_296_622 : mLk 296 622 = some (.aload_n 2, 1) := rfl
theorem c_296_623 : mLk 296 623 = some (.aload_n 0, 1) := rfl
theorem c_296_624 : mLk 296 624 = some (.iload 4, 2) := rfl
theorem c_296_626 : mLk 296 626 = some (.iconst 1, 1) := rfl
theorem c_296_627 : mLk 296 627 = some (.iadd, 1) := rfl
theorem c_296_628 : mLk 296 628 = some (.iaload, 1) := rfl
theorem c_296_629 : mLk 296 629 = some (.aload_n 0, 1) := rfl
theorem c_296_630 : mLk 296 630 = some (.iload 4, 2) := rfl
theorem c_296_632 : mLk 296 632 = some (.iconst 2, 1) := rfl
theorem c_296_633 : mLk 296 633 = some (.iadd, 1) := rfl
theorem c_296_634 : mLk 296 634 = some (.iaload, 1) := rfl
theorem c_296_635 : mLk 296 635 = some (.invokevirtual 170, 3) := rfl
theorem c_296_638 : mLk 296 638 = some (.istore 6, 2) := rfl
theorem c_296_640 : mLk 296 640 = some (.goto 1204, 3) := rfl
theorem c_271_8 : mLk 271 8 = some (.i2l, 1) := rfl
theorem c_271_9 : mLk 271 9 = some (.lastore, 1) := rfl
theorem c_271_10 : mLk 271 10 = some (.goto 11, 3) := rfl
theorem c_271_21 : mLk 271 21 = some (.iconst 0, 1) := rfl
theorem c_271_22 : mLk 271 22 = some (.ireturn, 1) := rfl
theorem c_296_643 : mLk 296 643 = some (.aload_n 1, 1) := rfl
theorem c_296_644 : mLk 296 644 = some (.aload_n 0, 1) := rfl
theorem c_296_645 : mLk 296 645 = some (.iload 4, 2) := rfl
theorem c_296_647 : mLk 296 647 = some (.iconst 1, 1) := rfl
theorem c_296_648 : mLk 296 648 = some (.iadd, 1) := rfl
theorem c_296_649 : mLk 296 649 = some (.iaload, 1) := rfl
theorem c_296_650 : mLk 296 650 = some (.aload_n 3, 1) := rfl
theorem c_296_651 : mLk 296 651 = some (.invokestatic 171, 3) := rfl
theorem c_272_0 : mLk 272 0 = some (.aload_n 2, 1) := rfl
theorem c_272_1 : mLk 272 1 = some (.iconst 0, 1) := rfl
theorem c_272_2 : mLk 272 2 = some (.aload_n 0, 1) := rfl
theorem c_272_3 : mLk 272 3 = some (.iload_n 1, 1) := rfl
theorem c_272_4 : mLk 272 4 = some (.invokevirtual 42, 3) := rfl
theorem c_296_654 : mLk 296 654 = some (.istore 5, 2) := rfl
theorem c_296_656 : mLk 296 656 = some (.aload_n 2, 1) := rfl
theorem c_296_657 : mLk 296 657 = some (.aload_n 0, 1) := rfl
theorem c_296_658 : mLk 296 658 = some (.iload 4, 2) := rfl
theorem c_296_660 : mLk 296 660 = some (.iconst 1, 1) := rfl
theorem c_296_661 : mLk 296 661 = some (.iadd, 1) := rfl
theorem c_296_662 : mLk 296 662 = some (.iaload, 1) := rfl
theorem c_296_663 : mLk 296 663 = some (.invokevirtual 173, 3) := rfl
theorem c_296_666 : mLk 296 666 = some (.istore 6, 2) := rfl
theorem c_296_668 : mLk 296 668 = some (.goto 1176, 3) := rfl
theorem c_272_7 : mLk 272 7 = some (.i2l, 1) := rfl
theorem c_272_8 : mLk 272 8 = some (.lastore, 1) := rfl
theorem c_272_9 : mLk 272 9 = some (.goto 6, 3) := rfl
theorem c_272_15 : mLk 272 15 = some (.iconst 0, 1) := rfl
theorem c_272_16 : mLk 272 16 = some (.ireturn, 1) := rfl
theorem c_296_671 : mLk 296 671 = some (.aload_n 1, 1) := rfl
theorem c_296_672 : mLk 296 672 = some (.aload_n 0, 1) := rfl
theorem c_296_673 : mLk 296 673 = some (.iload 4, 2) := rfl
theorem c_296_675 : mLk 296 675 = some (.iconst 1, 1) := rfl
theorem c_296_676 : mLk 296 676 = some (.iadd, 1) := rfl
theorem c_296_677 : mLk 296 677 = some (.iaload, 1) := rfl
theorem c_296_678 : mLk 296 678 = some (.aload_n 0, 1) := rfl
theorem c_296_679 : mLk 296 679 = some (.iload 4, 2) := rfl
theorem c_296_681 : mLk 296 681 = some (.iconst 2, 1) := rfl
theorem c_296_682 : mLk 296 682 = some (.iadd, 1) := rfl
theorem c_296_683 : mLk 296 683 = some (.iaload, 1) := rfl
theorem c_296_684 : mLk 296 684 = some (.aload_n 0, 1) := rfl
theorem c_296_685 : mLk 296 685 = some (.iload 4, 2) := rfl
theorem c_296_687 : mLk 296 687 = some (.iconst 3, 1) := rfl
theorem c_296_688 : mLk 296 688 = some (.iadd, 1) := rfl
theorem c_296_689 : mLk 296 689 = some (.iaload, 1) := rfl
theorem c_296_690 : mLk 296 690 = some (.aload_n 0, 1) := rfl
theorem c_296_691 : mLk 296 691 = some (.iload 4, 2) := rfl
theorem c_296_693 : mLk 296 693 = some (.iconst 4, 1) := rfl
theorem c_296_694 : mLk 296 694 = some (.iadd, 1) := rfl
theorem c_296_695 : mLk 296 695 = some (.iaload, 1) := rfl
theorem c_296_696 : mLk 296 696 = some (.aload_n 0, 1) := rfl
theorem c_296_697 : mLk 296 697 = some (.iload 4, 2) := rfl
theorem c_296_699 : mLk 296 699 = some (.iconst 5, 1) := rfl
theorem c_296_700 : mLk 296 700 = some (.iadd, 1) := rfl
theorem c_296_701 : mLk 296 701 = some (.iaload, 1) := rfl
theorem c_296_702 : mLk 296 702 = some (.aload_n 0, 1) := rfl
theorem c_296_703 : mLk 296 703 = some (.iload 4, 2) := rfl
theorem c_296_705 : mLk 296 705 = some (.bipush 6, 2) := rfl
theorem c_296_707 : mLk 296 707 = some (.iadd, 1) := rfl
theorem c_296_708 : mLk 296 708 = some (.iaload, 1) := rfl
theorem c_296_709 : mLk 296 709 = some (.aload_n 0, 1) := rfl
theorem c_296_710 : mLk 296 710 = some (.iload 4, 2) := rfl
theorem c_296_712 : mLk 296 712 = some (.bipush 7, 2) := rfl
theorem c_296_714 : mLk 296 714 = some (.iadd, 1) := rfl
theorem c_296_715 : mLk 296 715 = some (.iaload, 1) := rfl
theorem c_296_716 : mLk 296 716 = some (.aload_n 3, 1) := rfl
theorem c_296_717 : mLk 296 717 = some (.invokestatic 174, 3) := rfl
theorem c_273_0 : mLk 273 0 = some (.aload 8, 2) := rfl
theorem c_273_2 : mLk 273 2 = some (.iconst 0, 1) := rfl
theorem c_273_3 : mLk 273 3 = some (.aload_n 0, 1) := rfl
theorem c_273_4 : mLk 273 4 = some (.iload_n 1, 1) := rfl
theorem c_273_5 : mLk 273 5 = some (.iload_n 2, 1) := rfl
theorem c_273_6 : mLk 273 6 = some (.iload_n 3, 1) := rfl
theorem c_273_7 : mLk 273 7 = some (.iload 4, 2) := rfl
theorem c_273_9 : mLk 273 9 = some (.iload 5, 2) := rfl
theorem c_273_11 : mLk 273 11 = some (.iload 6, 2) := rfl
theorem c_273_13 : mLk 273 13 = some (.iload 7, 2) := rfl
theorem c_273_15 : mLk 273 15 = some (.invokevirtual 45, 3) := rfl
theorem c_296_720 : mLk 296 720 = some (.istore 5, 2) := rfl
theorem c_296_722 : mLk 296 722 = some (.aload_n 2, 1) := rfl
theorem c_296_723 : mLk 296 723 = some (.aload_n 0, 1) := rfl
theorem c_296_724 : mLk 296 724 = some (.iload 4, 2) := rfl
theorem c_296_726 : mLk 296 726 = some (.iconst 1, 1) := rfl
theorem c_296_727 : mLk 296 727 = some (.iadd, 1) := rfl
theorem c_296_728 : mLk 296 728 = some (.iaload, 1) := rfl
theorem c_296_729 : mLk 296 729 = some (.aload_n 0, 1) := rfl
theorem c_296_730 : mLk 296 730 = some (.iload 4, 2) := rfl
theorem c_296_732 : mLk 296 732 = some (.iconst 2, 1) := rfl
theorem c_296_733 : mLk 296 733 = some (.iadd, 1) := rfl
theorem c_296_734 : mLk 296 734 = some (.iaload, 1) := rfl
theorem c_296_735 : mLk 296 735 = some (.aload_n 0, 1) := rfl
theorem c_296_736 : mLk 296 736 = some (.iload 4, 2) := rfl
theorem c_296_738 : mLk 296 738 = some (.iconst 3, 1) := rfl
theorem c_296_739 : mLk 296 739 = some (.iadd, 1) := rfl
theorem c_296_740 : mLk 296 740 = some (.iaload, 1) := rfl
theorem c_296_741 : mLk 296 741 = some (.aload_n 0, 1) := rfl
theorem c_296_742 : mLk 296 742 = some (.iload 4, 2) := rfl
theorem c_296_744 : mLk 296 744 = some (.iconst 4, 1) := rfl
theorem c_296_745 : mLk 296 745 = some (.iadd, 1) := rfl
theorem c_296_746 : mLk 296 746 = some (.iaload, 1) := rfl
theorem c_296_747 : mLk 296 747 = some (.aload_n 0, 1) := rfl
theorem c_296_748 : mLk 296 748 = some (.iload 4, 2) := rfl
theorem c_296_750 : mLk 296 750 = some (.iconst 5, 1) := rfl
theorem c_296_751 : mLk 296 751 = some (.iadd, 1) := rfl
theorem c_296_752 : mLk 296 752 = some (.iaload, 1) := rfl
theorem c_296_753 : mLk 296 753 = some (.aload_n 0, 1) := rfl
theorem c_296_754 : mLk 296 754 = some (.iload 4, 2) := rfl
theorem c_296_756 : mLk 296 756 = some (.bipush 6, 2) := rfl
theorem c_296_758 : mLk 296 758 = some (.iadd, 1) := rfl
theorem c_296_759 : mLk 296 759 = some (.iaload, 1) := rfl
theorem c_296_760 : mLk 296 760 = some (.aload_n 0, 1) := rfl
theorem c_296_761 : mLk 296 761 = some (.iload 4, 2) := rfl
theorem c_296_763 : mLk 296 763 = some (.bipush 7, 2) := rfl
theorem c_296_765 : mLk 296 765 = some (.iadd, 1) := rfl
theorem c_296_766 : mLk 296 766 = some (.iaload, 1) := rfl
theorem c_296_767 : mLk 296 767 = some (.invokevirtual 177, 3) := rfl
theorem c_296_770 : mLk 296 770 = some (.istore 6, 2) := rfl
theorem c_296_772 : mLk 296 772 = some (.goto 1072, 3) := rfl
theorem c_273_18 : mLk 273 18 = some (.i2l, 1) := rfl
theorem c_273_19 : mLk 273 19 = some (.lastore, 1) := rfl
theorem c_273_20 : mLk 273 20 = some (.goto 7, 3) := rfl
theorem c_273_27 : mLk 273 27 = some (.iconst 0, 1) := rfl
theorem c_273_28 : mLk 273 28 = some (.ireturn, 1) := rfl
theorem c_296_775 : mLk 296 775 = some (.aload_n 1, 1) := rfl
theorem c_296_776 : mLk 296 776 = some (.aload_n 0, 1) := rfl
theorem c_296_777 : mLk 296 777 = some (.iload 4, 2) := rfl
theorem c_296_779 : mLk 296 779 = some (.iconst 1, 1) := rfl
theorem c_296_780 : mLk 296 780 = some (.iadd, 1) := rfl
theorem c_296_781 : mLk 296 781 = some (.iaload, 1) := rfl
theorem c_296_782 : mLk 296 782 = some (.aload_n 0, 1) := rfl
theorem c_296_783 : mLk 296 783 = some (.iload 4, 2) := rfl
theorem c_296_785 : mLk 296 785 = some (.iconst 2, 1) := rfl
theorem c_296_786 : mLk 296 786 = some (.iadd, 1) := rfl
theorem c_296_787 : mLk 296 787 = some (.iaload, 1) := rfl
theorem c_296_788 : mLk 296 788 = some (.aload_n 0, 1) := rfl
theorem c_296_789 : mLk 296 789 = some (.iload 4, 2) := rfl
theorem c_296_791 : mLk 296 791 = some (.iconst 3, 1) := rfl
theorem c_296_792 : mLk 296 792 = some (.iadd, 1) := rfl
theorem c_296_793 : mLk 296 793 = some (.iaload, 1) := rfl
theorem c_296_794 : mLk 296 794 = some (.aload_n 3, 1) := rfl
theorem c_296_795 : mLk 296 795 = some (.invokestatic 178, 3) := rfl
theorem c_274_0 : mLk 274 0 = some (.aload 4, 2) := rfl
theorem c_274_2 : mLk 274 2 = some (.iconst 0, 1) := rfl
theorem c_274_3 : mLk 274 3 = some (.aload_n 0, 1) := rfl
theorem c_274_4 : mLk 274 4 = some (.iload_n 1, 1) := rfl
theorem c_274_5 : mLk 274 5 = some (.iload_n 2, 1) := rfl
theorem c_274_6 : mLk 274 6 = some (.iload_n 3, 1) := rfl
theorem c_274_7 : mLk 274 7 = some (.invokevirtual 49, 3) := rfl
theorem c_296_798 : mLk 296 798 = some (.istore 5, 2) := rfl
theorem c_296_800 : mLk 296 800 = some (.aload_n 2, 1) := rfl
theorem c_296_801 : mLk 296 801 = some (.aload_n 0, 1) := rfl
theorem c_296_802 : mLk 296 802 = some (.iload 4, 2) := rfl
theorem c_296_804 : mLk 296 804 = some (.iconst 1, 1) := rfl
theorem c_296_805 : mLk 296 805 = some (.iadd, 1) := rfl
theorem c_296_806 : mLk 296 806 = some (.iaload, 1) := rfl
theorem c_296_807 : mLk 296 807 = some (.aload_n 0, 1) := rfl
theorem c_296_808 : mLk 296 808 = some (.iload 4, 2) := rfl
theorem c_296_810 : mLk 296 810 = some (.iconst 2, 1) := rfl
theorem c_296_811 : mLk 296 811 = some (.iadd, 1) := rfl
theorem c_296_812 : mLk 296 812 = some (.iaload, 1) := rfl
theorem c_296_813 : mLk 296 813 = some (.aload_n 0, 1) := rfl
theorem c_296_814 : mLk 296 814 = some (.iload 4, 2) := rfl
theorem c_296_816 : mLk 296 816 = some (.iconst 3, 1) := rfl
theorem c_296_817 : mLk 296 817 = some (.iadd, 1) := rfl
theorem c_296_818 : mLk 296 818 = some (.iaload, 1) := rfl
theorem c_296_819 : mLk 296 819 = some (.invokevirtual 181, 3) := rfl
theorem c_296_822 : mLk 296 822 = some (.istore 6, 2) := rfl
theorem c_296_824 : mLk 296 824 = some (.goto 1020, 3) := rfl
theorem c_274_10 : mLk 274 10 = some (.i2l, 1) := rfl
theorem c_274_11 : mLk 274 11 = some (.lastore, 1) := rfl
theorem c_274_12 : mLk 274 12 = some (.goto 11, 3) := rfl
theorem c_274_23 : mLk 274 23 = some (.iconst 0, 1) := rfl
theorem c_274_24 : mLk 274 24 = some (.ireturn, 1) := rfl
theorem c_296_827 : mLk 296 827 = some (.aload_n 1, 1) := rfl
theorem c_296_828 : mLk 296 828 = some (.aload_n 0, 1) := rfl
theorem c_296_829 : mLk 296 829 = some (.iload 4, 2) := rfl
theorem c_296_831 : mLk 296 831 = some (.iconst 1, 1) := rfl
theorem c_296_832 : mLk 296 832 = some (.iadd, 1) := rfl
theorem c_296_833 : mLk 296 833 = some (.iaload, 1) := rfl
theorem c_296_834 : mLk 296 834 = some (.aload_n 0, 1) := rfl
theorem c_296_835 : mLk 296 835 = some (.iload 4, 2) := rfl
theorem c_296_837 : mLk 296 837 = some (.iconst 2, 1) := rfl
theorem c_296_838 : mLk 296 838 = some (.iadd, 1) := rfl
theorem c_296_839 : mLk 296 839 = some (.iaload, 1) := rfl
theorem c_296_840 : mLk 296 840 = some (.aload_n 0, 1) := rfl
theorem c_296_841 : mLk 296 841 = some (.iload 4, 2) := rfl
theorem c_296_843 : mLk 296 843 = some (.iconst 3, 1) := rfl
theorem c_296_844 : mLk 296 844 = some (.iadd, 1) := rfl
theorem c_296_845 : mLk 296 845 = some (.iaload, 1) := rfl
theorem c_296_846 : mLk 296 846 = some (.aload_n 3, 1) := rfl
theorem c_296_847 : mLk 296 847 = some (.invokestatic 182, 3) := rfl
theorem c_275_0 : mLk 275 0 = some (.aload 4, 2) := rfl
theorem c_275_2 : mLk 275 2 = some (.iconst 0, 1) := rfl
theorem c_275_3 : mLk 275 3 = some (.aload_n 0, 1) := rfl
theorem c_275_4 : mLk 275 4 = some (.iload_n 1, 1) := rfl
theorem c_275_5 : mLk 275 5 = some (.iload_n 2, 1) := rfl
theorem c_275_6 : mLk 275 6 = some (.iload_n 3, 1) := rfl
theorem c_275_7 : mLk 275 7 = some (.invokevirtual 53, 3) := rfl
theorem c_296_850 : mLk 296 850 = some (.istore 5, 2) := rfl
theorem c_296_852 : mLk 296 852 = some (.aload_n 2, 1) := rfl
theorem c_296_853 : mLk 296 853 = some (.aload_n 0, 1) := rfl
theorem c_296_854 : mLk 296 854 = some (.iload 4, 2) := rfl
theorem c_296_856 : mLk 296 856 = some (.iconst 1, 1) := rfl
theorem c_296_857 : mLk 296 857 = some (.iadd, 1) := rfl
theorem c_296_858 : mLk 296 858 = some (.iaload, 1) := rfl
theorem c_296_859 : mLk 296 859 = some (.aload_n 0, 1) := rfl
theorem c_296_860 : mLk 296 860 = some (.iload 4, 2) := rfl
theorem c_296_862 : mLk 296 862 = some (.iconst 2, 1) := rfl
theorem c_296_863 : mLk 296 863 = some (.iadd, 1) := rfl
theorem c_296_864 : mLk 296 864 = some (.iaload, 1) := rfl
theorem c_296_865 : mLk 296 865 = some (.aload_n 0, 1) := rfl
theorem c_296_866 : mLk 296 866 = some (.iload 4, 2) := rfl
theorem c_296_868 : mLk 296 868 = some (.iconst 3, 1) := rfl
theorem c_296_869 : mLk 296 869 = some (.iadd, 1) := rfl
theorem c_296_870 : mLk 296 870 = some (.iaload, 1) := rfl
theorem c_296_871 : mLk 296 871 = some (.invokevirtual 184, 3) := rfl
theorem c_296_874 : mLk 296 874 = some (.istore 6, 2) := rfl
theorem c_296_876 : mLk 296 876 = some (.goto 968, 3) := rfl
theorem c_275_10 : mLk 275 10 = some (.i2l, 1) := rfl
theorem c_275_11 : mLk 275 11 = some (.lastore, 1) := rfl
theorem c_275_12 : mLk 275 12 = some (.goto 11, 3) := rfl
theorem c_275_23 : mLk 275 23 = some (.iconst 0, 1) := rfl
theorem c_275_24 : mLk 275 24 = some (.ireturn, 1) := rfl
theorem c_296_879 : mLk 296 879 = some (.aload_n 1, 1) := rfl
theorem c_296_880 : mLk 296 880 = some (.aload_n 0, 1) := rfl
theorem c_296_881 : mLk 296 881 = some (.iload 4, 2) := rfl
theorem c_296_883 : mLk 296 883 = some (.iconst 1, 1) := rfl
theorem c_296_884 : mLk 296 884 = some (.iadd, 1) := rfl
theorem c_296_885 : mLk 296 885 = some (.iaload, 1) := rfl
theorem c_296_886 : mLk 296 886 = some (.aload_n 0, 1) := rfl
theorem c_296_887 : mLk 296 887 = some (.iload 4, 2) := rfl
theorem c_296_889 : mLk 296 889 = some (.iconst 2, 1) := rfl
theorem c_296_890 : mLk 296 890 = some (.iadd, 1) := rfl
theorem c_296_891 : mLk 296 891 = some (.iaload, 1) := rfl
theorem c_296_892 : mLk 296 892 = some (.aload_n 0, 1) := rfl
theorem c_296_893 : mLk 296 893 = some (.iload 4, 2) := rfl
theorem c_296_895 : mLk 296 895 = some (.iconst 3, 1) := rfl
theorem c_296_896 : mLk 296 896 = some (.iadd, 1) := rfl
theorem c_296_897 : mLk 296 897 = some (.iaload, 1) := rfl
theorem c_296_898 : mLk 296 898 = some (.aload_n 3, 1) := rfl
theorem c_296_899 : mLk 296 899 = some (.invokestatic 185, 3) := rfl
theorem c_276_0 : mLk 276 0 = some (.aload 4, 2) := rfl
theorem c_276_2 : mLk 276 2 = some (.iconst 0, 1) := rfl
theorem c_276_3 : mLk 276 3 = some (.aload_n 0, 1) := rfl
theorem c_276_4 : mLk 276 4 = some (.iload_n 1, 1) := rfl
theorem c_276_5 : mLk 276 5 = some (.iload_n 2, 1) := rfl
theorem c_276_6 : mLk 276 6 = some (.iload_n 3, 1) := rfl
theorem c_276_7 : mLk 276 7 = some (.invokevirtual 56, 3) := rfl
theorem c_296_902 : mLk 296 902 = some (.istore 5, 2) := rfl
theorem c_296_904 : mLk 296 904 = some (.aload_n 2, 1) := rfl
theorem c_296_905 : mLk 296 905 = some (.aload_n 0, 1) := rfl
theorem c_296_906 : mLk 296 906 = some (.iload 4, 2) := rfl
theorem c_296_908 : mLk 296 908 = some (.iconst 1, 1) := rfl
theorem c_296_909 : mLk 296 909 = some (.iadd, 1) := rfl
theorem c_296_910 : mLk 296 910 = some (.iaload, 1) := rfl
theorem c_296_911 : mLk 296 911 = some (.aload_n 0, 1) := rfl
theorem c_296_912 : mLk 296 912 = some (.iload 4, 2) := rfl
theorem c_296_914 : mLk 296 914 = some (.iconst 2, 1) := rfl
theorem c_296_915 : mLk 296 915 = some (.iadd, 1) := rfl
theorem c_296_916 : mLk 296 916 = some (.iaload, 1) := rfl
theorem c_296_917 : mLk 296 917 = some (.aload_n 0, 1) := rfl
theorem c_296_918 : mLk 296 918 = some (.iload 4, 2) := rfl
theorem c_296_920 : mLk 296 920 = some (.iconst 3, 1) := rfl
theorem c_296_921 : mLk 296 921 = some (.iadd, 1) := rfl
theorem c_296_922 : mLk 296 922 = some (.iaload, 1) := rfl
theorem c_296_923 : mLk 296 923 = some (.invokevirtual 187, 3) := rfl
theorem c_296_926 : mLk 296 926 = some (.istore 6, 2) := rfl
theorem c_296_928 : mLk 296 928 = some (.goto 916, 3) := rfl
theorem c_276_10 : mLk 276 10 = some (.i2l, 1) := rfl
theorem c_276_11 : mLk 276 11 = some (.lastore, 1) := rfl
theorem c_276_12 : mLk 276 12 = some (.goto 11, 3) := rfl
theorem c_276_23 : mLk 276 23 = some (.iconst 0, 1) := rfl
theorem c_276_24 : mLk 276 24 = some (.ireturn, 1) := rfl
theorem c_296_931 : mLk 296 931 = some (.aload_n 1, 1) := rfl
theorem c_296_932 : mLk 296 932 = some (.aload_n 0, 1) := rfl
theorem c_296_933 : mLk 296 933 = some (.iload 4, 2) := rfl
theorem c_296_935 : mLk 296 935 = some (.iconst 1, 1) := rfl
theorem c_296_936 : mLk 296 936 = some (.iadd, 1) := rfl
theorem c_296_937 : mLk 296 937 = some (.iaload, 1) := rfl
theorem c_296_938 : mLk 296 938 = some (.aload_n 0, 1) := rfl
theorem c_296_939 : mLk 296 939 = some (.iload 4, 2) := rfl
theorem c_296_941 : mLk 296 941 = some (.iconst 2, 1) := rfl
theorem c_296_942 : mLk 296 942 = some (.iadd, 1) := rfl
theorem c_296_943 : mLk 296 943 = some (.iaload, 1) := rfl
theorem c_296_944 : mLk 296 944 = some (.aload_n 3, 1) := rfl
theorem c_296_945 : mLk 296 945 = some (.invokestatic 188, 3) := rfl
theorem c_277_0 : mLk 277 0 = some (.aload_n 3, 1) := rfl
theorem c_277_1 : mLk 277 1 = some (.iconst 0, 1) := rfl
theorem c_277_2 : mLk 277 2 = some (.aload_n 0, 1) := rfl
theorem c_277_3 : mLk 277 3 = some (.iload_n 1, 1) := rfl
theorem c_277_4 : mLk 277 4 = some (.iload_n 2, 1) := rfl
theorem c_277_5 : mLk 277 5 = some (.invokevirtual 59, 3) := rfl
theorem c_296_948 : mLk 296 948 = some (.istore 5, 2) := rfl
theorem c_296_950 : mLk 296 950 = some (.aload_n 2, 1) := rfl
theorem c_296_951 : mLk 296 951 = some (.aload_n 0, 1) := rfl
theorem c_296_952 : mLk 296 952 = some (.iload 4, 2) := rfl
theorem c_296_954 : mLk 296 954 = some (.iconst 1, 1) := rfl
theorem c_296_955 : mLk 296 955 = some (.iadd, 1) := rfl
theorem c_296_956 : mLk 296 956 = some (.iaload, 1) := rfl
theorem c_296_957 : mLk 296 957 = some (.aload_n 0, 1) := rfl
theorem c_296_958 : mLk 296 958 = some (.iload 4, 2) := rfl
theorem c_296_960 : mLk 296 960 = some (.iconst 2, 1) := rfl
theorem c_296_961 : mLk 296 961 = some (.iadd, 1) := rfl
theorem c_296_962 : mLk 296 962 = some (.iaload, 1) := rfl
theorem c_296_963 : mLk 296 963 = some (.invokevirtual 190, 3) := rfl
theorem c_296_966 : mLk 296 966 = some (.istore 6, 2) := rfl
theorem c_296_968 : mLk 296 968 = some (.goto 876, 3) := rfl
theorem c_277_8 : mLk 277 8 = some (.i2l, 1) := rfl
theorem c_277_9 : mLk 277 9 = some (.lastore, 1) := rfl
theorem c_277_10 : mLk 277 10 = some (.goto 11, 3) := rfl
theorem c_277_21 : mLk 277 21 = some (.iconst 0, 1) := rfl
theorem c_277_22 : mLk 277 22 = some (.ireturn, 1) := rfl
theorem c_296_971 : mLk 296 971 = some (.aload_n 1, 1) := rfl
theorem c_296_972 : mLk 296 972 = some (.aload_n 0, 1) := rfl
theorem c_296_973 : mLk 296 973 = some (.iload 4, 2) := rfl
theorem c_296_975 : mLk 296 975 = some (.iconst 1, 1) := rfl
theorem c_296_976 : mLk 296 976 = some (.iadd, 1) := rfl
theorem c_296_977 : mLk 296 977 = some (.iaload, 1) := rfl
theorem c_296_978 : mLk 296 978 = some (.aload_n 0, 1) := rfl
theorem c_296_979 : mLk 296 979 = some (.iload 4, 2) := rfl
theorem c_296_981 : mLk 296 981 = some (.iconst 2, 1) := rfl
theorem c_296_982 : mLk 296 982 = some (.iadd, 1) := rfl
theorem c_296_983 : mLk 296 983 = some (.iaload, 1) := rfl
theorem c_296_984 : mLk 296 984 = some (.aload_n 3, 1) := rfl
theorem c_296_985 : mLk 296 985 = some (.invokestatic 191, 3) := rfl
theorem c_278_0 : mLk 278 0 = some (.aload_n 3, 1) := rfl
theorem c_278_1 : mLk 278 1 = some (.iconst 0, 1) := rfl
theorem c_278_2 : mLk 278 2 = some (.aload_n 0, 1) := rfl
theorem c_278_3 : mLk 278 3 = some (.iload_n 1, 1) := rfl
theorem c_278_4 : mLk 278 4 = some (.iload_n 2, 1) := rfl
theorem c_278_5 : mLk 278 5 = some (.invokevirtual 62, 3) := rfl
theorem c_296_988 : mLk 296 988 = some (.istore 5, 2) := rfl
theorem c_296_990 : mLk 296 990 = some (.aload_n 2, 1) := rfl
theorem c_296_991 : mLk 296 991 = some (.aload_n 0, 1) := rfl
theorem c_296_992 : mLk 296 992 = some (.iload 4, 2) := rfl
theorem c_296_994 : mLk 296 994 = some (.iconst 1, 1) := rfl
theorem c_296_995 : mLk 296 995 = some (.iadd, 1) := rfl
theorem c_296_996 : mLk 296 996 = some (.iaload, 1) := rfl
theorem c_296_997 : mLk 296 997 = some (.aload_n 0, 1) := rfl
theorem c_296_998 : mLk 296 998 = some (.iload 4, 2) := rfl
theorem c_296_1000 : mLk 296 1000 = some (.iconst 2, 1) := rfl
theorem c_296_1001 : mLk 296 1001 = some (.iadd, 1) := rfl
theorem c_296_1002 : mLk 296 1002 = some (.iaload, 1) := rfl
theorem c_296_1003 : mLk 296 1003 = some (.invokevirtual 193, 3) := rfl
theorem c_296_1006 : mLk 296 1006 = some (.istore 6, 2) := rfl
theorem c_296_1008 : mLk 296 1008 = some (.goto 836, 3) := rfl
theorem c_278_8 : mLk 278 8 = some (.i2l, 1) := rfl
theorem c_278_9 : mLk 278 9 = some (.lastore, 1) := rfl
theorem c_278_10 : mLk 278 10 = some (.goto 7, 3) := rfl
theorem c_278_17 : mLk 278 17 = some (.iconst 0, 1) := rfl
theorem c_278_18 : mLk 278 18 = some (.ireturn, 1) := rfl
theorem c_296_1011 : mLk 296 1011 = some (.aload_n 1, 1) := rfl
theorem c_296_1012 : mLk 296 1012 = some (.aload_n 0, 1) := rfl
theorem c_296_1013 : mLk 296 1013 = some (.iload 4, 2) := rfl
theorem c_296_1015 : mLk 296 1015 = some (.iconst 1, 1) := rfl
theorem c_296_1016 : mLk 296 1016 = some (.iadd, 1) := rfl
theorem c_296_1017 : mLk 296 1017 = some (.iaload, 1) := rfl
theorem c_296_1018 : mLk 296 1018 = some (.aload_n 0, 1) := rfl
theorem c_296_1019 : mLk 296 1019 = some (.iload 4, 2) := rfl
theorem c_296_1021 : mLk 296 1021 = some (.iconst 2, 1) := rfl
theorem c_296_1022 : mLk 296 1022 = some (.iadd, 1) := rfl
theorem c_296_1023 : mLk 296 1023 = some (.iaload, 1) := rfl
theorem c_296_1024 : mLk 296 1024 = some (.aload_n 0, 1) := rfl
theorem c_296_1025 : mLk 296 1025 = some (.iload 4, 2) := rfl
theorem c_296_1027 : mLk 296 1027 = some (.iconst 3, 1) := rfl
theorem c_296_1028 : mLk 296 1028 = some (.iadd, 1) := rfl
theorem c_296_1029 : mLk 296 1029 = some (.iaload, 1) := rfl
theorem c_296_1030 : mLk 296 1030 = some (.aload_n 3, 1) := rfl
theorem c_296_1031 : mLk 296 1031 = some (.invokestatic 194, 3) := rfl
theorem c_279_0 : mLk 279 0 = some (.aload 4, 2) := rfl
theorem c_279_2 : mLk 279 2 = some (.iconst 0, 1) := rfl
theorem c_279_3 : mLk 279 3 = some (.aload_n 0, 1) := rfl
theorem c_279_4 : mLk 279 4 = some (.iload_n 1, 1) := rfl
theorem c_279_5 : mLk 279 5 = some (.iload_n 2, 1) := rfl
theorem c_279_6 : mLk 279 6 = some (.iload_n 3, 1) := rfl
theorem c_279_7 : mLk 279 7 = some (.invokevirtual 65, 3) := rfl
theorem c_296_1034 : mLk 296 1034 = some (.istore 5, 2) := rfl
theorem c_296_1036 : mLk 296 1036 = some (.aload_n 2, 1) := rfl
theorem c_296_1037 : mLk 296 1037 = some (.aload_n 0, 1) := rfl
theorem c_296_1038 : mLk 296 1038 = some (.iload 4, 2) := rfl
theorem c_296_1040 : mLk 296 1040 = some (.iconst 1, 1) := rfl
theorem c_296_1041 : mLk 296 1041 = some (.iadd, 1) := rfl
theorem c_296_1042 : mLk 296 1042 = some (.iaload, 1) := rfl
theorem c_296_1043 : mLk 296 1043 = some (.aload_n 0, 1) := rfl
theorem c_296_1044 : mLk 296 1044 = some (.iload 4, 2) := rfl
theorem c_296_1046 : mLk 296 1046 = some (.iconst 2, 1) := rfl
theorem c_296_1047 : mLk 296 1047 = some (.iadd, 1) := rfl
theorem c_296_1048 : mLk 296 1048 = some (.iaload, 1) := rfl
theorem c_296_1049 : mLk 296 1049 = some (.aload_n 0, 1) := rfl
theorem c_296_1050 : mLk 296 1050 = some (.iload 4, 2) := rfl
theorem c_296_1052 : mLk 296 1052 = some (.iconst 3, 1) := rfl
theorem c_296_1053 : mLk 296 1053 = some (.iadd, 1) := rfl
theorem c_296_1054 : mLk 296 1054 = some (.iaload, 1) := rfl
theorem c_296_1055 : mLk 296 1055 = some (.invokevirtual 196, 3) := rfl
theorem c_296_1058 : mLk 296 1058 = some (.istore 6, 2) := rfl
theorem c_296_1060 : mLk 296 1060 = some (.goto 784, 3) := rfl
theorem c_279_10 : mLk 279 10 = some (.i2l, 1) := rfl
theorem c_279_11 : mLk 279 11 = some (.lastore, 1) := rfl
theorem c_279_12 : mLk 279 12 = some (.goto 7, 3) := rfl
theorem c_279_19 : mLk 279 19 = some (.iconst 0, 1) := rfl
theorem c_279_20 : mLk 279 20 = some (.ireturn, 1) := rfl
theorem km_9_133 : a_lk (kM 9) 133 = some (0, 169) := rfl
theorem km_9_136 : a_lk (kM 9) 136 = some (0, 177) := rfl
theorem km_9_137 : a_lk (kM 9) 137 = some (0, 144) := rfl
theorem km_9_143 : a_lk (kM 9) 143 = some (0, 202) := rfl
theorem km_9_146 : a_lk (kM 9) 146 = some (0, 206) := rfl
theorem km_9_149 : a_lk (kM 9) 149 = some (0, 207) := rfl
theorem km_9_15 : a_lk (kM 9) 15 = some (0, 85) := rfl
theorem km_9_150 : a_lk (kM 9) 150 = some (0, 89) := rfl
theorem km_9_153 : a_lk (kM 9) 153 = some (0, 165) := rfl
theorem km_9_154 : a_lk (kM 9) 154 = some (0, 139) := rfl
theorem km_9_157 : a_lk (kM 9) 157 = some (0, 208) := rfl
theorem km_9_160 : a_lk (kM 9) 160 = some (0, 211) := rfl
theorem km_9_164 : a_lk (kM 9) 164 = some (0, 213) := rfl
theorem km_9_167 : a_lk (kM 9) 167 = some (0, 214) := rfl
theorem km_9_170 : a_lk (kM 9) 170 = some (0, 215) := rfl
theorem km_9_173 : a_lk (kM 9) 173 = some (0, 216) := rfl
theorem km_9_177 : a_lk (kM 9) 177 = some (0, 217) := rfl
theorem km_9_18 : a_lk (kM 9) 18 = some (0, 86) := rfl
theorem km_9_181 : a_lk (kM 9) 181 = some (0, 218) := rfl
theorem km_9_184 : a_lk (kM 9) 184 = some (0, 219) := rfl
theorem km_9_187 : a_lk (kM 9) 187 = some (0, 220) := rfl
theorem km_9_190 : a_lk (kM 9) 190 = some (0, 221) := rfl
theorem km_9_193 : a_lk (kM 9) 193 = some (0, 227) := rfl
theorem km_9_196 : a_lk (kM 9) 196 = some (0, 228) := rfl
theorem km_9_21 : a_lk (kM 9) 21 = some (0, 87) := rfl
theorem km_9_24 : a_lk (kM 9) 24 = some (0, 88) := rfl
theorem km_9_27 : a_lk (kM 9) 27 = some (0, 90) := rfl
theorem km_9_30 : a_lk (kM 9) 30 = some (0, 93) := rfl
theorem km_9_36 : a_lk (kM 9) 36 = some (0, 95) := rfl
theorem km_9_39 : a_lk (kM 9) 39 = some (0, 97) := rfl
theorem km_9_42 : a_lk (kM 9) 42 = some (0, 103) := rfl
theorem km_9_45 : a_lk (kM 9) 45 = some (0, 104) := rfl
theorem km_9_49 : a_lk (kM 9) 49 = some (0, 110) := rfl
theorem km_9_53 : a_lk (kM 9) 53 = some (0, 111) := rfl
theorem km_9_56 : a_lk (kM 9) 56 = some (0, 112) := rfl
theorem km_9_59 : a_lk (kM 9) 59 = some (0, 114) := rfl
theorem km_9_62 : a_lk (kM 9) 62 = some (0, 119) := rfl
theorem km_9_65 : a_lk (kM 9) 65 = some (0, 123) := rfl
theorem km_9_7 : a_lk (kM 9) 7 = some (0, 84) := rfl
set_option maxRecDepth 100000 in
set_option maxHeartbeats 4000000 in
theorem o_1 {xs : Nat → Int32} {L i0 d nc ns P Q : Nat} {c : ME} {Z : AR → Prop} (hi : i0 + 8 ≤ L) (hL : L ≤ 100000) (hI : Iv 0 (-1) P Q c) (hR : Rq P c) (K : ∀ (P2 Q2 : Nat) (c2 : ME) (e : Nat), e ≤ 1 → Iv 0 (-1) P2 Q2 c2 → (Rq P2 c2) → Wp (a_scr L xs) (d + 90) 296 1844 [(4, vi (i0 : Int)), (3, .ref 67), (2, .ref 41), (1, .ref 0), (0, .ref a_SC)] [] (Wd P2 Q2 P2 P2 c2) (nc + e) (ns + 6 * e) Z) : Wp (a_scr L xs) (d + 90) 296 301 [(4, vi (i0 : Int)), (3, .ref 67), (2, .ref 41), (1, .ref 0), (0, .ref a_SC)] [] (Wd P Q P P c) nc ns Z := by
  obtain ⟨x1, hx1⟩ : ∃ z, (xs (i0 + 1)).toInt = z := ⟨_, rfl⟩
  have x1r := c_rng (xs (i0 + 1))
  rw [hx1] at x1r
  obtain ⟨x2, hx2⟩ : ∃ z, (xs (i0 + 2)).toInt = z := ⟨_, rfl⟩
  have x2r := c_rng (xs (i0 + 2))
  rw [hx2] at x2r
  obtain ⟨x3, hx3⟩ : ∃ z, (xs (i0 + 3)).toInt = z := ⟨_, rfl⟩
  have x3r := c_rng (xs (i0 + 3))
  rw [hx3] at x3r
  obtain ⟨x4, hx4⟩ : ∃ z, (xs (i0 + 4)).toInt = z := ⟨_, rfl⟩
  have x4r := c_rng (xs (i0 + 4))
  rw [hx4] at x4r
  obtain ⟨x5, hx5⟩ : ∃ z, (xs (i0 + 5)).toInt = z := ⟨_, rfl⟩
  have x5r := c_rng (xs (i0 + 5))
  rw [hx5] at x5r
  obtain ⟨x6, hx6⟩ : ∃ z, (xs (i0 + 6)).toInt = z := ⟨_, rfl⟩
  have x6r := c_rng (xs (i0 + 6))
  rw [hx6] at x6r
  obtain ⟨x7, hx7⟩ : ∃ z, (xs (i0 + 7)).toInt = z := ⟨_, rfl⟩
  have x7r := c_rng (xs (i0 + 7))
  rw [hx7] at x7r
  have hP := iv_P hI
  have hQ := iv_Q hI
  have hT := rl_t hR
  have hU := rl_u hR
  refine q_aload_n c_296_301 rfl (q_aload_n c_296_302 rfl (q_iload c_296_303 rfl (q_iconst c_296_305 (v_iadd (v := (i0 : Int) + 1) c_296_306 rfl (v_scr (j := i0 + 1) c_296_307 (by omega) (by omega) hL hx1 (q_aload_n c_296_308 rfl (q_call c_296_309 rfl rfl rfl ?_)))))))
  refine q_aload_n c_263_0 rfl (q_iconst c_263_1 (q_aload_n c_263_2 rfl (q_iload_n c_263_3 rfl ?_)))
  have h_1 := ir_1_3 hI
  refine v_cv c_263_4 km_9_7 rfl rfl (Nat.le_of_ble_eq_true rfl) ⟨⟨rfl, rfl⟩, Nat.le_of_ble_eq_true rfl, rfl⟩ (Nat.le_of_ble_eq_true rfl) (Nat.le_of_ble_eq_true rfl) (s_84 (a1 := x1) hI (show (-2147483648) ≤ x1 ∧ x1 ≤ 2147483647 from ⟨by omega, by omega⟩) (fun c_2 hI_3 hF_4 h_5 h_6 => ?_) (fun P Q c_7 y_10 hI_8 hF_9 hy_10 h_11 => ?_))
  · skip
    have h_12 := ir_1_3 hI_3
    refine bk_thr (z := Int32.ofInt 1) rfl ⟨_, _, rfl⟩ rfl (bk_inl (q_istore c_296_312 (Nat.le_of_ble_eq_true rfl) (q_aload_n c_296_314 rfl (q_aload_n c_296_315 rfl (q_iload c_296_316 rfl (q_iconst c_296_318 (v_iadd (v := (i0 : Int) + 1) c_296_319 rfl ?_)))))))
    refine v_scr (j := i0 + 1) c_296_320 (by omega) (by omega) hL hx1 ?_
    have h_13 := ir_41_2 hI
    have kn_14 : Hid (c_2 41 2 = c 41 2) := hF_4 41 2 (fun h => absurd h.1 (nn rfl))
    have h_15 : c_2 41 2 = c 41 2 := (hid kn_14)
    refine v_cv c_296_321 km_9_133 rfl rfl (Nat.le_of_ble_eq_true rfl) ⟨⟨rfl, rfl⟩, Nat.le_of_ble_eq_true rfl, rfl⟩ (Nat.le_of_ble_eq_true rfl) (Nat.le_of_ble_eq_true rfl) (s_169 (a1 := x1) hI_3 (show (-2147483648) ≤ x1 ∧ x1 ≤ 2147483647 from ⟨by first | (clear hT h_1 h_12; omega) | omega, by first | (clear hT h_1 h_12; omega) | omega⟩) (fun c_16 y_19 hI_17 hF_18 hy_19 h_20 => (bk_inl ?_)))
    have h_21 := ir_41_2 hI_17
    refine q_istore c_296_324 (Nat.le_of_ble_eq_true rfl) (q_goto (t := 1844) c_296_326 rfl (Wp_ls [(4, vi (i0 : Int)), (3, .ref 67), (2, .ref 41), (1, .ref 0), (0, .ref a_SC)] (lsub_cons rfl (lsub_cons rfl (lsub_cons rfl (lsub_cons rfl (lsub_cons rfl lsub_nil))))) ?_))
    have kn_22 : Hid (c_2 1 3 = c 1 3) := hF_4 1 3 (fun h => absurd h.1 (nn rfl))
    have kn_23 : Hid (c_16 1 3 = c 1 3) := (hF_18 1 3 qn_69e479294).trans (hid kn_22)
    have h_24 : c_16 1 3 = c 1 3 := (hid kn_23)
    have h_25 : c_16 41 2 = c_16 41 2 := rfl
    exact K P Q c_16 1 (by decide) hI_17 ⟨by omega, ub_fr hU (fun j => (hF_18 2 j qn_1ac48cb63).trans (hF_4 2 j (fun h => absurd h.1 (nn rfl)))) (fun j => (hF_18 43 j qn_b8e2be383).trans (hF_4 43 j (fun h => absurd h.1 (nn rfl))))⟩
  refine bk_inl ?_
  have hP := iv_P hI_8
  have hQ := iv_Q hI_8
  have h_26 := ir_1_3 hI_8
  refine v_i2l c_263_7 (by omega) (v_ls c_263_8 rfl (by decide) (by decide) (by decide) (q_goto (t := 15) c_263_9 rfl (q_iconst c_263_15 (q_iret c_263_16 rfl (bk_inl (q_istore c_296_312 (Nat.le_of_ble_eq_true rfl) (q_aload_n c_296_314 rfl ?_)))))))
  refine q_aload_n c_296_315 rfl (q_iload c_296_316 rfl (q_iconst c_296_318 (v_iadd (v := (i0 : Int) + 1) c_296_319 rfl (v_scr (j := i0 + 1) c_296_320 (by omega) (by omega) hL hx1 ?_))))
  have hI_27 := iw_lx (a := 67) (j := 0) (v := y_10) hI_8 (by omega)
  have h_28 := ir_41_2 hI
  have kn_29 : Hid (c_7 41 2 = c 41 2) := hF_9 41 2 qn_d1a559e74
  have h_30 : (up c_7 67 0 y_10) 41 2 = c 41 2 := ((up_c (nn rfl)).trans (hid kn_29))
  refine v_cv c_296_321 km_9_133 rfl rfl (Nat.le_of_ble_eq_true rfl) ⟨⟨rfl, rfl⟩, Nat.le_of_ble_eq_true rfl, rfl⟩ (Nat.le_of_ble_eq_true rfl) (Nat.le_of_ble_eq_true rfl) (s_169 (a1 := x1) hI_27 (show (-2147483648) ≤ x1 ∧ x1 ≤ 2147483647 from ⟨by first | exact q_46e5c6368 h_11 | omega, by first | exact q_e1f83221f h_11 | omega⟩) (fun c_31 y_34 hI_32 hF_33 hy_34 h_35 => (bk_inl ?_)))
  have h_36 := ir_41_2 hI_32
  refine q_istore c_296_324 (Nat.le_of_ble_eq_true rfl) (q_goto (t := 1844) c_296_326 rfl (Wp_ls [(4, vi (i0 : Int)), (3, .ref 67), (2, .ref 41), (1, .ref 0), (0, .ref a_SC)] (lsub_cons rfl (lsub_cons rfl (lsub_cons rfl (lsub_cons rfl (lsub_cons rfl lsub_nil))))) ?_))
  have kn_37 : Hid (c_31 1 3 = c_7 1 3) := (hF_33 1 3 qn_69e479294).trans (up_c (nn rfl))
  have h_38 : c_31 1 3 = c_7 1 3 := (hid kn_37)
  have h_39 : c_31 41 2 = c_31 41 2 := rfl
  exact K P Q c_31 0 (by decide) hI_32 ⟨by omega, ub_fr hU (fun j => (hF_33 2 j qn_1ac48cb63).trans ((up_c (nn rfl)).trans (hF_9 2 j qn_e229611f6))) (fun j => (hF_33 43 j qn_b8e2be383).trans ((up_c (nn rfl)).trans (hF_9 43 j qn_0d25b8d75)))⟩

set_option maxRecDepth 100000 in
set_option maxHeartbeats 4000000 in
theorem o_2 {xs : Nat → Int32} {L i0 d nc ns P Q : Nat} {c : ME} {Z : AR → Prop} (hi : i0 + 8 ≤ L) (hL : L ≤ 100000) (hI : Iv 0 (-1) P Q c) (hR : Rq P c) (K : ∀ (P2 Q2 : Nat) (c2 : ME) (e : Nat), e ≤ 1 → Iv 0 (-1) P2 Q2 c2 → (Rq P2 c2) → Wp (a_scr L xs) (d + 90) 296 1844 [(4, vi (i0 : Int)), (3, .ref 67), (2, .ref 41), (1, .ref 0), (0, .ref a_SC)] [] (Wd P2 Q2 P2 P2 c2) (nc + e) (ns + 6 * e) Z) : Wp (a_scr L xs) (d + 90) 296 329 [(4, vi (i0 : Int)), (3, .ref 67), (2, .ref 41), (1, .ref 0), (0, .ref a_SC)] [] (Wd P Q P P c) nc ns Z := by
  obtain ⟨x1, hx1⟩ : ∃ z, (xs (i0 + 1)).toInt = z := ⟨_, rfl⟩
  have x1r := c_rng (xs (i0 + 1))
  rw [hx1] at x1r
  obtain ⟨x2, hx2⟩ : ∃ z, (xs (i0 + 2)).toInt = z := ⟨_, rfl⟩
  have x2r := c_rng (xs (i0 + 2))
  rw [hx2] at x2r
  obtain ⟨x3, hx3⟩ : ∃ z, (xs (i0 + 3)).toInt = z := ⟨_, rfl⟩
  have x3r := c_rng (xs (i0 + 3))
  rw [hx3] at x3r
  obtain ⟨x4, hx4⟩ : ∃ z, (xs (i0 + 4)).toInt = z := ⟨_, rfl⟩
  have x4r := c_rng (xs (i0 + 4))
  rw [hx4] at x4r
  obtain ⟨x5, hx5⟩ : ∃ z, (xs (i0 + 5)).toInt = z := ⟨_, rfl⟩
  have x5r := c_rng (xs (i0 + 5))
  rw [hx5] at x5r
  obtain ⟨x6, hx6⟩ : ∃ z, (xs (i0 + 6)).toInt = z := ⟨_, rfl⟩
  have x6r := c_rng (xs (i0 + 6))
  rw [hx6] at x6r
  obtain ⟨x7, hx7⟩ : ∃ z, (xs (i0 + 7)).toInt = z := ⟨_, rfl⟩
  have x7r := c_rng (xs (i0 + 7))
  rw [hx7] at x7r
  have hP := iv_P hI
  have hQ := iv_Q hI
  have hT := rl_t hR
  have hU := rl_u hR
  refine q_aload_n c_296_329 rfl (q_aload_n c_296_330 rfl (q_iload c_296_331 rfl (q_iconst c_296_333 (v_iadd (v := (i0 : Int) + 1) c_296_334 rfl (v_scr (j := i0 + 1) c_296_335 (by omega) (by omega) hL hx1 (q_aload_n c_296_336 rfl (q_call c_296_337 rfl rfl rfl ?_)))))))
  refine q_aload_n c_264_0 rfl (q_iconst c_264_1 (q_aload_n c_264_2 rfl (q_iload_n c_264_3 rfl ?_)))
  have h_1 := ir_1_3 hI
  refine v_cv c_264_4 km_9_15 rfl rfl (Nat.le_of_ble_eq_true rfl) ⟨⟨rfl, rfl⟩, Nat.le_of_ble_eq_true rfl, rfl⟩ (Nat.le_of_ble_eq_true rfl) (Nat.le_of_ble_eq_true rfl) (fn_of (s_85 (a1 := x1) hI (show (-2147483648) ≤ x1 ∧ x1 ≤ 2147483647 from ⟨by omega, by omega⟩) (fun c_2 hI_3 hF_4 h_5 h_6 => ?_) (fun c_7 y_10 hI_8 hF_9 hy_10 h_11 => ?_)))
  · skip
    intro hG_47
    have h_12 := ir_1_3 hI_3
    refine bk_thr (z := Int32.ofInt 1) rfl ⟨_, _, rfl⟩ rfl (bk_inl (q_istore c_296_340 (Nat.le_of_ble_eq_true rfl) (q_aload_n c_296_342 rfl (q_aload_n c_296_343 rfl (q_iload c_296_344 rfl (q_iconst c_296_346 (v_iadd (v := (i0 : Int) + 1) c_296_347 rfl ?_)))))))
    refine v_scr (j := i0 + 1) c_296_348 (by omega) (by omega) hL hx1 (v_cv c_296_349 km_9_136 rfl rfl (Nat.le_of_ble_eq_true rfl) ⟨⟨rfl, rfl⟩, Nat.le_of_ble_eq_true rfl, rfl⟩ (Nat.le_of_ble_eq_true rfl) (Nat.le_of_ble_eq_true rfl) (q_aload_n c_177_0 rfl (q_iconst c_177_1 (v_pi (z := 0) c_177_2 kf_8_3 rfl (Nat.le_of_ble_eq_true rfl) rfl rfl rfl (by decide) (q_aload_n c_177_5 rfl (q_iload_n c_177_6 rfl ?_))))))
    by_cases h_13 : x1 < 0
    · refine v_if_lt_t (t := 29) c_177_7 rfl ⟨by first | (clear hT h_1 h_12; omega) | omega, h_13, by decide⟩ (q_iconst c_177_29 (q_iconst c_177_30 (q_iconst c_177_31 (v_cv c_177_32 km_8_203 rfl rfl (Nat.le_of_ble_eq_true rfl) ⟨⟨rfl, rfl⟩, Nat.le_of_ble_eq_true rfl, rfl⟩ (Nat.le_of_ble_eq_true rfl) (Nat.le_of_ble_eq_true rfl) (q_iload_n c_145_0 rfl (v_if_ne_f (t := 26) c_145_1 rfl (by decide) (q_aload_n c_145_4 rfl ?_)))))))
      refine v_gi (z := 0) (v := 0) c_145_5 kf_8_3 rfl (Nat.le_of_ble_eq_true rfl) rfl rfl (up_e rfl) (v_if_ne_f (t := 26) c_145_8 rfl (by decide) (q_aload_n c_145_11 rfl (q_iload_n c_145_12 rfl (v_pi (z := 0) c_145_13 kf_8_3 rfl (Nat.le_of_ble_eq_true rfl) rfl rfl rfl (by decide) (q_aload_n c_145_16 rfl (v_gr (t := 42) c_145_17 kf_8_7 rfl (Nat.le_of_ble_eq_true rfl) rfl (q_iload_n c_145_20 rfl ?_)))))))
      refine q_dup2 c_145_21 ⟨rfl, rfl⟩ ?_
      have h_14 := ir_42 hI 1
      have kn_15 : Hid (c_2 42 1 = c 42 1) := hF_4 42 1 (fun h => absurd h.1 (nn rfl))
      refine v_ia (v := c 42 1) c_145_22 rfl (by decide) (by decide) (by decide) ((up_c (nn rfl)).trans ((up_c (nn rfl)).trans (hid kn_15))) (q_iconst c_145_23 (v_iadd (v := c 42 1 + 1) c_145_24 rfl (v_nrm (fun y_16 hy_16 => (v_is c_145_25 rfl (by decide) (by decide) (by decide) (q_aload_n c_145_26 rfl (v_gi (z := 0) (v := 1) c_145_27 kf_8_3 rfl (Nat.le_of_ble_eq_true rfl) rfl rfl ((up_c (nn rfl)).trans (up_e rfl)) (v_if_ne_t (t := 37) c_145_30 rfl (by decide) ?_))))))))
      refine q_iconst c_145_37 (v_zret c_145_38 rfl (by decide) (bk_inl (v_if_ne_f (t := 40) c_177_35 rfl (by decide) (q_iconst c_177_38 (q_iret c_177_39 rfl (bk_inl (q_istore c_296_352 (Nat.le_of_ble_eq_true rfl) ?_)))))))
      refine q_aload_n c_296_354 rfl (v_cv c_296_355 km_9_137 rfl rfl (Nat.le_of_ble_eq_true rfl) ⟨⟨rfl, rfl⟩, Nat.le_of_ble_eq_true rfl, rfl⟩ (Nat.le_of_ble_eq_true rfl) (Nat.le_of_ble_eq_true rfl) (q_aload_n c_144_0 rfl (v_gi (z := 0) (v := 1) c_144_1 kf_8_3 rfl (Nat.le_of_ble_eq_true rfl) rfl rfl ((up_c (nn rfl)).trans (up_e rfl)) (q_iret c_144_4 rfl (bk_inl (q_iload c_296_358 rfl (v_ic_eq_t (t := 365) c_296_360 rfl (by decide) ?_)))))))
      refine q_iload c_296_365 rfl (v_if_ne_t (t := 382) c_296_367 rfl (by decide) (q_goto (t := 1844) c_296_382 rfl ?_))
      have hI_17 := iw_41_0 (v := 0) hI_3 ⟨by decide, by decide⟩
      have hI_18 := iw_41_0 (v := 1) hI_17 ⟨by decide, by decide⟩
      have hI_19 := iw_42 (j := 1) (v := y_16) hI_18 ⟨hy_16.1, hy_16.2⟩
      refine Wp_ls [(4, vi (i0 : Int)), (3, .ref 67), (2, .ref 41), (1, .ref 0), (0, .ref a_SC)] (lsub_cons rfl (lsub_cons rfl (lsub_cons rfl (lsub_cons rfl (lsub_cons rfl lsub_nil))))) ?_
      have kn_20 : Hid (c_2 1 3 = c 1 3) := hF_4 1 3 (fun h => absurd h.1 (nn rfl))
      have h_21 : (up (up (up c_2 41 0 0) 41 0 1) 42 1 y_16) 1 3 = c 1 3 := ((up_c (nn rfl)).trans ((up_c (nn rfl)).trans ((up_c (nn rfl)).trans (hid kn_20))))
      have h_22 := ir_41_2 hI
      have kn_23 : Hid (c_2 41 2 = c 41 2) := hF_4 41 2 (fun h => absurd h.1 (nn rfl))
      have h_24 : (up (up (up c_2 41 0 0) 41 0 1) 42 1 y_16) 41 2 = c 41 2 := ((up_c (nn rfl)).trans ((up_n (by decide)).trans ((up_n (by decide)).trans (hid kn_23))))
      exact K P Q (up (up (up c_2 41 0 0) 41 0 1) 42 1 y_16) 1 (by decide) hI_19 ⟨by omega, ub_fr hU (fun j => (up_c (nn rfl)).trans ((up_c (nn rfl)).trans ((up_c (nn rfl)).trans (hF_4 2 j (fun h => absurd h.1 (nn rfl)))))) (fun j => (up_c (nn rfl)).trans ((up_c (nn rfl)).trans ((up_c (nn rfl)).trans (hF_4 43 j (fun h => absurd h.1 (nn rfl))))))⟩
    · refine v_if_lt_f (t := 29) c_177_7 rfl ⟨by decide, (Int.not_lt.mp h_13), by first | (clear hT h_1 h_12; omega) | omega⟩ (q_iload_n c_177_10 rfl (q_aload_n c_177_11 rfl ?_))
      have h_25 := ir_41_2 hI
      have kn_26 : Hid (c_2 41 2 = c 41 2) := hF_4 41 2 (fun h => absurd h.1 (nn rfl))
      refine v_gi (z := 2) (v := c 41 2) c_177_12 kf_8_99 rfl (Nat.le_of_ble_eq_true rfl) rfl rfl ((up_n (by decide)).trans (hid kn_26)) ?_
      by_cases h_27 : x1 > c 41 2
      · refine v_ic_gt_t (t := 29) c_177_15 rfl ⟨by first | exact q_3b2b08511 h_25 | (clear hT h_1 h_12 h_13; omega) | omega, h_27, by first | (clear hT h_1 h_12 h_13 h_25; omega) | omega⟩ (q_iconst c_177_29 (q_iconst c_177_30 (q_iconst c_177_31 (v_cv c_177_32 km_8_203 rfl rfl (Nat.le_of_ble_eq_true rfl) ⟨⟨rfl, rfl⟩, Nat.le_of_ble_eq_true rfl, rfl⟩ (Nat.le_of_ble_eq_true rfl) (Nat.le_of_ble_eq_true rfl) (q_iload_n c_145_0 rfl (v_if_ne_f (t := 26) c_145_1 rfl (by decide) (q_aload_n c_145_4 rfl ?_)))))))
        refine v_gi (z := 0) (v := 0) c_145_5 kf_8_3 rfl (Nat.le_of_ble_eq_true rfl) rfl rfl (up_e rfl) (v_if_ne_f (t := 26) c_145_8 rfl (by decide) (q_aload_n c_145_11 rfl (q_iload_n c_145_12 rfl (v_pi (z := 0) c_145_13 kf_8_3 rfl (Nat.le_of_ble_eq_true rfl) rfl rfl rfl (by decide) (q_aload_n c_145_16 rfl (v_gr (t := 42) c_145_17 kf_8_7 rfl (Nat.le_of_ble_eq_true rfl) rfl (q_iload_n c_145_20 rfl ?_)))))))
        refine q_dup2 c_145_21 ⟨rfl, rfl⟩ ?_
        have h_28 := ir_42 hI 1
        have kn_29 : Hid (c_2 42 1 = c 42 1) := hF_4 42 1 (fun h => absurd h.1 (nn rfl))
        refine v_ia (v := c 42 1) c_145_22 rfl (by decide) (by decide) (by decide) ((up_c (nn rfl)).trans ((up_c (nn rfl)).trans (hid kn_29))) (q_iconst c_145_23 (v_iadd (v := c 42 1 + 1) c_145_24 rfl (v_nrm (fun y_30 hy_30 => (v_is c_145_25 rfl (by decide) (by decide) (by decide) (q_aload_n c_145_26 rfl (v_gi (z := 0) (v := 1) c_145_27 kf_8_3 rfl (Nat.le_of_ble_eq_true rfl) rfl rfl ((up_c (nn rfl)).trans (up_e rfl)) (v_if_ne_t (t := 37) c_145_30 rfl (by decide) ?_))))))))
        refine q_iconst c_145_37 (v_zret c_145_38 rfl (by decide) (bk_inl (v_if_ne_f (t := 40) c_177_35 rfl (by decide) (q_iconst c_177_38 (q_iret c_177_39 rfl (bk_inl (q_istore c_296_352 (Nat.le_of_ble_eq_true rfl) ?_)))))))
        refine q_aload_n c_296_354 rfl (v_cv c_296_355 km_9_137 rfl rfl (Nat.le_of_ble_eq_true rfl) ⟨⟨rfl, rfl⟩, Nat.le_of_ble_eq_true rfl, rfl⟩ (Nat.le_of_ble_eq_true rfl) (Nat.le_of_ble_eq_true rfl) (q_aload_n c_144_0 rfl (v_gi (z := 0) (v := 1) c_144_1 kf_8_3 rfl (Nat.le_of_ble_eq_true rfl) rfl rfl ((up_c (nn rfl)).trans (up_e rfl)) (q_iret c_144_4 rfl (bk_inl (q_iload c_296_358 rfl (v_ic_eq_t (t := 365) c_296_360 rfl (by decide) ?_)))))))
        refine q_iload c_296_365 rfl (v_if_ne_t (t := 382) c_296_367 rfl (by decide) (q_goto (t := 1844) c_296_382 rfl ?_))
        have hI_31 := iw_41_0 (v := 0) hI_3 ⟨by decide, by decide⟩
        have hI_32 := iw_41_0 (v := 1) hI_31 ⟨by decide, by decide⟩
        have hI_33 := iw_42 (j := 1) (v := y_30) hI_32 ⟨hy_30.1, hy_30.2⟩
        refine Wp_ls [(4, vi (i0 : Int)), (3, .ref 67), (2, .ref 41), (1, .ref 0), (0, .ref a_SC)] (lsub_cons rfl (lsub_cons rfl (lsub_cons rfl (lsub_cons rfl (lsub_cons rfl lsub_nil))))) ?_
        have kn_34 : Hid (c_2 1 3 = c 1 3) := hF_4 1 3 (fun h => absurd h.1 (nn rfl))
        have h_35 : (up (up (up c_2 41 0 0) 41 0 1) 42 1 y_30) 1 3 = c 1 3 := ((up_c (nn rfl)).trans ((up_c (nn rfl)).trans ((up_c (nn rfl)).trans (hid kn_34))))
        have h_36 : (up (up (up c_2 41 0 0) 41 0 1) 42 1 y_30) 41 2 = c 41 2 := ((up_c (nn rfl)).trans ((up_n (by decide)).trans ((up_n (by decide)).trans (hid kn_26))))
        exact K P Q (up (up (up c_2 41 0 0) 41 0 1) 42 1 y_30) 1 (by decide) hI_33 ⟨by omega, ub_fr hU (fun j => (up_c (nn rfl)).trans ((up_c (nn rfl)).trans ((up_c (nn rfl)).trans (hF_4 2 j (fun h => absurd h.1 (nn rfl)))))) (fun j => (up_c (nn rfl)).trans ((up_c (nn rfl)).trans ((up_c (nn rfl)).trans (hF_4 43 j (fun h => absurd h.1 (nn rfl))))))⟩
      · refine v_ic_gt_f (t := 29) c_177_15 rfl ⟨by first | exact q_c05c968ed h_13 | (clear hT h_1 h_12 h_25; omega) | omega, (Int.not_lt.mp h_27), by first | exact q_3885e607f h_25 | (clear hT h_1 h_12 h_13; omega) | omega⟩ (q_iload_n c_177_18 rfl (v_sip c_177_19 (by decide) (v_ic_gt_t (t := 29) c_177_22 rfl ⟨by decide, by omega, by first | exact q_c2c15a399 h_25 h_27 | (clear hT h_1 h_12 h_13; omega) | omega⟩ (q_iconst c_177_29 (q_iconst c_177_30 (q_iconst c_177_31 (v_cv c_177_32 km_8_203 rfl rfl (Nat.le_of_ble_eq_true rfl) ⟨⟨rfl, rfl⟩, Nat.le_of_ble_eq_true rfl, rfl⟩ (Nat.le_of_ble_eq_true rfl) (Nat.le_of_ble_eq_true rfl) ?_)))))))
        refine q_iload_n c_145_0 rfl (v_if_ne_f (t := 26) c_145_1 rfl (by decide) (q_aload_n c_145_4 rfl (v_gi (z := 0) (v := 0) c_145_5 kf_8_3 rfl (Nat.le_of_ble_eq_true rfl) rfl rfl (up_e rfl) (v_if_ne_f (t := 26) c_145_8 rfl (by decide) (q_aload_n c_145_11 rfl (q_iload_n c_145_12 rfl (v_pi (z := 0) c_145_13 kf_8_3 rfl (Nat.le_of_ble_eq_true rfl) rfl rfl rfl (by decide) ?_)))))))
        refine q_aload_n c_145_16 rfl (v_gr (t := 42) c_145_17 kf_8_7 rfl (Nat.le_of_ble_eq_true rfl) rfl (q_iload_n c_145_20 rfl (q_dup2 c_145_21 ⟨rfl, rfl⟩ ?_)))
        have h_37 := ir_42 hI 1
        have kn_38 : Hid (c_2 42 1 = c 42 1) := hF_4 42 1 (fun h => absurd h.1 (nn rfl))
        refine v_ia (v := c 42 1) c_145_22 rfl (by decide) (by decide) (by decide) ((up_c (nn rfl)).trans ((up_c (nn rfl)).trans (hid kn_38))) (q_iconst c_145_23 (v_iadd (v := c 42 1 + 1) c_145_24 rfl (v_nrm (fun y_39 hy_39 => (v_is c_145_25 rfl (by decide) (by decide) (by decide) (q_aload_n c_145_26 rfl (v_gi (z := 0) (v := 1) c_145_27 kf_8_3 rfl (Nat.le_of_ble_eq_true rfl) rfl rfl ((up_c (nn rfl)).trans (up_e rfl)) (v_if_ne_t (t := 37) c_145_30 rfl (by decide) ?_))))))))
        refine q_iconst c_145_37 (v_zret c_145_38 rfl (by decide) (bk_inl (v_if_ne_f (t := 40) c_177_35 rfl (by decide) (q_iconst c_177_38 (q_iret c_177_39 rfl (bk_inl (q_istore c_296_352 (Nat.le_of_ble_eq_true rfl) ?_)))))))
        refine q_aload_n c_296_354 rfl (v_cv c_296_355 km_9_137 rfl rfl (Nat.le_of_ble_eq_true rfl) ⟨⟨rfl, rfl⟩, Nat.le_of_ble_eq_true rfl, rfl⟩ (Nat.le_of_ble_eq_true rfl) (Nat.le_of_ble_eq_true rfl) (q_aload_n c_144_0 rfl (v_gi (z := 0) (v := 1) c_144_1 kf_8_3 rfl (Nat.le_of_ble_eq_true rfl) rfl rfl ((up_c (nn rfl)).trans (up_e rfl)) (q_iret c_144_4 rfl (bk_inl (q_iload c_296_358 rfl (v_ic_eq_t (t := 365) c_296_360 rfl (by decide) ?_)))))))
        refine q_iload c_296_365 rfl (v_if_ne_t (t := 382) c_296_367 rfl (by decide) (q_goto (t := 1844) c_296_382 rfl ?_))
        have hI_40 := iw_41_0 (v := 0) hI_3 ⟨by decide, by decide⟩
        have hI_41 := iw_41_0 (v := 1) hI_40 ⟨by decide, by decide⟩
        have hI_42 := iw_42 (j := 1) (v := y_39) hI_41 ⟨hy_39.1, hy_39.2⟩
        refine Wp_ls [(4, vi (i0 : Int)), (3, .ref 67), (2, .ref 41), (1, .ref 0), (0, .ref a_SC)] (lsub_cons rfl (lsub_cons rfl (lsub_cons rfl (lsub_cons rfl (lsub_cons rfl lsub_nil))))) ?_
        have kn_43 : Hid (c_2 1 3 = c 1 3) := hF_4 1 3 (fun h => absurd h.1 (nn rfl))
        have h_44 : (up (up (up c_2 41 0 0) 41 0 1) 42 1 y_39) 1 3 = c 1 3 := ((up_c (nn rfl)).trans ((up_c (nn rfl)).trans ((up_c (nn rfl)).trans (hid kn_43))))
        have h_45 : (up (up (up c_2 41 0 0) 41 0 1) 42 1 y_39) 41 2 = c 41 2 := ((up_c (nn rfl)).trans ((up_n (by decide)).trans ((up_n (by decide)).trans (hid kn_26))))
        exact K P Q (up (up (up c_2 41 0 0) 41 0 1) 42 1 y_39) 1 (by decide) hI_42 ⟨by omega, ub_fr hU (fun j => (up_c (nn rfl)).trans ((up_c (nn rfl)).trans ((up_c (nn rfl)).trans (hF_4 2 j (fun h => absurd h.1 (nn rfl)))))) (fun j => (up_c (nn rfl)).trans ((up_c (nn rfl)).trans ((up_c (nn rfl)).trans (hF_4 43 j (fun h => absurd h.1 (nn rfl))))))⟩
  intro hG_47
  refine bk_inl ?_
  have h_46 := ir_1_3 hI_8
  refine v_i2l c_264_7 (by omega) (v_ls c_264_8 rfl (by decide) (by decide) (by decide) (q_goto (t := 15) c_264_9 rfl (q_iconst c_264_15 (q_iret c_264_16 rfl (bk_inl (q_istore c_296_340 (Nat.le_of_ble_eq_true rfl) (q_aload_n c_296_342 rfl ?_)))))))
  refine q_aload_n c_296_343 rfl (q_iload c_296_344 rfl (q_iconst c_296_346 (v_iadd (v := (i0 : Int) + 1) c_296_347 rfl (v_scr (j := i0 + 1) c_296_348 (by omega) (by omega) hL hx1 ?_))))
  have hI_48 := iw_lx (a := 67) (j := 0) (v := y_10) hI_8 (by omega)
  have h_49 := ir_41_2 hI
  have kn_50 : Hid (c_7 41 2 = c 41 2) := hF_9 41 2 (qn_7f524237d hP)
  refine v_cv c_296_349 km_9_136 rfl rfl (Nat.le_of_ble_eq_true rfl) ⟨⟨rfl, rfl⟩, Nat.le_of_ble_eq_true rfl, rfl⟩ (Nat.le_of_ble_eq_true rfl) (Nat.le_of_ble_eq_true rfl) (L_85 (m := c) (a1 := x1) (yg := y_10) (t9 := c 1 3) (F := c 2) (H := c 43) hI_48 hI hI_8 (show (-2147483648) ≤ x1 ∧ x1 ≤ 2147483647 from ⟨by first | exact q_7d59b2af6 h_11 | omega, by first | exact q_307fd138a h_11 | omega⟩) ⟨by omega, by omega⟩ ⟨by first | exact q_4e1f9514d h_11 | omega, by first | exact q_6e99c2f8b h_11 | omega, by first | exact q_bd81129bd h_11 | omega⟩ (rfl) (((show _ = c 41 2 from ((up_c (nn rfl)).trans (hid kn_50))).trans (by omega))) (fun j => rfl) (fun j => (up_c (nn rfl)).trans (hF_9 43 j (qn_3edc655a9 hP))) hU hG_47 (fun c_51 y_54 hI_52 hF_53 hy_54 h_55 h_56 h_57 h_58 => (bk_inl ?_)))
  have hs_59 := h_55.symm
  subst hs_59
  have h_60 := ir_41_2 hI_52
  have h_61 := ir_41_8 hI_52
  have h_62 := ir_1_5 hI_8
  have h_63 := ir_41_0 hI_52
  refine q_istore c_296_352 (Nat.le_of_ble_eq_true rfl) (q_aload_n c_296_354 rfl (v_cv c_296_355 km_9_137 rfl rfl (Nat.le_of_ble_eq_true rfl) ⟨⟨rfl, rfl⟩, Nat.le_of_ble_eq_true rfl, rfl⟩ (Nat.le_of_ble_eq_true rfl) (Nat.le_of_ble_eq_true rfl) (q_aload_n c_144_0 rfl (v_gi (z := 0) (v := c_51 41 0) c_144_1 kf_8_3 rfl (Nat.le_of_ble_eq_true rfl) rfl rfl rfl (q_iret c_144_4 rfl (bk_inl (q_iload c_296_358 rfl ?_)))))))
  refine v_ic_eq_t (t := 365) c_296_360 rfl (by first | exact q_f9c88a064 h_58 | omega) (q_iload c_296_365 rfl (v_if_ne_f (t := 382) c_296_367 rfl (by decide) (q_aload_n c_296_370 rfl (q_iconst c_296_371 ?_))))
  have kn_64 : Hid (c_51 67 0 = y_10) := (hF_53 67 0 qn_ca756827c).trans (up_e rfl)
  refine v_la (v := y_10) c_296_372 rfl (by decide) (by decide) (by decide) (hid kn_64) (q_iload c_296_373 rfl (v_i2l c_296_375 (by omega) (v_lcmp0 c_296_376 (by omega) (v_if_eq_t (t := 382) c_296_377 rfl (by decide) (q_goto (t := 1844) c_296_382 rfl (Wp_ls [(4, vi (i0 : Int)), (3, .ref 67), (2, .ref 41), (1, .ref 0), (0, .ref a_SC)] (lsub_cons rfl (lsub_cons rfl (lsub_cons rfl (lsub_cons rfl (lsub_cons rfl lsub_nil))))) ?_))))))
  have kn_65 : Hid (c_51 1 3 = c_7 1 3) := (hF_53 1 3 qn_6e098d395).trans (up_c (nn rfl))
  have h_66 : c_51 1 3 = c_7 1 3 := (hid kn_65)
  have h_67 : c_51 41 2 = c_51 41 2 := rfl
  exact K P Q c_51 0 (by decide) hI_52 ⟨by omega, ub_fr hU (fun j => (hF_53 2 j qn_4c0255fdd).trans ((up_c (nn rfl)).trans (hF_9 2 j (qn_9c21b769a hP)))) (fun j => (hF_53 43 j qn_0c1231684).trans ((up_c (nn rfl)).trans (hF_9 43 j (qn_3edc655a9 hP))))⟩

set_option maxRecDepth 100000 in
set_option maxHeartbeats 4000000 in
theorem o_3 {xs : Nat → Int32} {L i0 d nc ns P Q : Nat} {c : ME} {Z : AR → Prop} (hi : i0 + 8 ≤ L) (hL : L ≤ 100000) (hI : Iv 0 (-1) P Q c) (hR : Rq P c) (K : ∀ (P2 Q2 : Nat) (c2 : ME) (e : Nat), e ≤ 1 → Iv 0 (-1) P2 Q2 c2 → (Rq P2 c2) → Wp (a_scr L xs) (d + 90) 296 1844 [(4, vi (i0 : Int)), (3, .ref 67), (2, .ref 41), (1, .ref 0), (0, .ref a_SC)] [] (Wd P2 Q2 P2 P2 c2) (nc + e) (ns + 6 * e) Z) : Wp (a_scr L xs) (d + 90) 296 385 [(4, vi (i0 : Int)), (3, .ref 67), (2, .ref 41), (1, .ref 0), (0, .ref a_SC)] [] (Wd P Q P P c) nc ns Z := by
  obtain ⟨x1, hx1⟩ : ∃ z, (xs (i0 + 1)).toInt = z := ⟨_, rfl⟩
  have x1r := c_rng (xs (i0 + 1))
  rw [hx1] at x1r
  obtain ⟨x2, hx2⟩ : ∃ z, (xs (i0 + 2)).toInt = z := ⟨_, rfl⟩
  have x2r := c_rng (xs (i0 + 2))
  rw [hx2] at x2r
  obtain ⟨x3, hx3⟩ : ∃ z, (xs (i0 + 3)).toInt = z := ⟨_, rfl⟩
  have x3r := c_rng (xs (i0 + 3))
  rw [hx3] at x3r
  obtain ⟨x4, hx4⟩ : ∃ z, (xs (i0 + 4)).toInt = z := ⟨_, rfl⟩
  have x4r := c_rng (xs (i0 + 4))
  rw [hx4] at x4r
  obtain ⟨x5, hx5⟩ : ∃ z, (xs (i0 + 5)).toInt = z := ⟨_, rfl⟩
  have x5r := c_rng (xs (i0 + 5))
  rw [hx5] at x5r
  obtain ⟨x6, hx6⟩ : ∃ z, (xs (i0 + 6)).toInt = z := ⟨_, rfl⟩
  have x6r := c_rng (xs (i0 + 6))
  rw [hx6] at x6r
  obtain ⟨x7, hx7⟩ : ∃ z, (xs (i0 + 7)).toInt = z := ⟨_, rfl⟩
  have x7r := c_rng (xs (i0 + 7))
  rw [hx7] at x7r
  have hP := iv_P hI
  have hQ := iv_Q hI
  have hT := rl_t hR
  have hU := rl_u hR
  refine q_aload_n c_296_385 rfl (q_aload_n c_296_386 rfl (q_iload c_296_387 rfl (q_iconst c_296_389 (v_iadd (v := (i0 : Int) + 1) c_296_390 rfl (v_scr (j := i0 + 1) c_296_391 (by omega) (by omega) hL hx1 (q_aload_n c_296_392 rfl (q_call c_296_393 rfl rfl rfl ?_)))))))
  refine q_aload_n c_265_0 rfl (q_iconst c_265_1 (q_aload_n c_265_2 rfl (q_iload_n c_265_3 rfl ?_)))
  have h_1 := ir_1_3 hI
  refine v_cv c_265_4 km_9_18 rfl rfl (Nat.le_of_ble_eq_true rfl) ⟨⟨rfl, rfl⟩, Nat.le_of_ble_eq_true rfl, rfl⟩ (Nat.le_of_ble_eq_true rfl) (Nat.le_of_ble_eq_true rfl) (s_86 (a1 := x1) hI (show (-2147483648) ≤ x1 ∧ x1 ≤ 2147483647 from ⟨by omega, by omega⟩) (fun c_2 hI_3 hF_4 h_5 h_6 => ?_) (fun c_7 y_10 hI_8 hF_9 hy_10 h_11 => ?_))
  · skip
    have h_12 := ir_1_3 hI_3
    refine bk_thr (z := Int32.ofInt 1) rfl ⟨_, _, rfl⟩ rfl (bk_inl (q_istore c_296_396 (Nat.le_of_ble_eq_true rfl) (q_aload_n c_296_398 rfl (q_aload_n c_296_399 rfl (q_iload c_296_400 rfl (q_iconst c_296_402 (v_iadd (v := (i0 : Int) + 1) c_296_403 rfl ?_)))))))
    refine v_scr (j := i0 + 1) c_296_404 (by omega) (by omega) hL hx1 ?_
    have h_13 := ir_41_2 hI
    have kn_14 : Hid (c_2 41 2 = c 41 2) := hF_4 41 2 (fun h => absurd h.1 (nn rfl))
    have h_15 : c_2 41 2 = c 41 2 := (hid kn_14)
    refine v_cv c_296_405 km_9_143 rfl rfl (Nat.le_of_ble_eq_true rfl) ⟨⟨rfl, rfl⟩, Nat.le_of_ble_eq_true rfl, rfl⟩ (Nat.le_of_ble_eq_true rfl) (Nat.le_of_ble_eq_true rfl) (s_202 (a1 := x1) hI_3 (show (-2147483648) ≤ x1 ∧ x1 ≤ 2147483647 from ⟨by first | (clear hT h_1 h_12; omega) | omega, by first | (clear hT h_1 h_12; omega) | omega⟩) (fun c_16 y_19 hI_17 hF_18 hy_19 h_20 => (bk_inl ?_)))
    have h_21 := ir_41_2 hI_17
    refine q_istore c_296_408 (Nat.le_of_ble_eq_true rfl) (q_goto (t := 1844) c_296_410 rfl (Wp_ls [(4, vi (i0 : Int)), (3, .ref 67), (2, .ref 41), (1, .ref 0), (0, .ref a_SC)] (lsub_cons rfl (lsub_cons rfl (lsub_cons rfl (lsub_cons rfl (lsub_cons rfl lsub_nil))))) ?_))
    have kn_22 : Hid (c_2 1 3 = c 1 3) := hF_4 1 3 (fun h => absurd h.1 (nn rfl))
    have kn_23 : Hid (c_16 1 3 = c 1 3) := (hF_18 1 3 qn_64b7cdf30).trans (hid kn_22)
    have h_24 : c_16 1 3 = c 1 3 := (hid kn_23)
    have h_25 : c_16 41 2 = c_16 41 2 := rfl
    exact K P Q c_16 1 (by decide) hI_17 ⟨by omega, ub_fr hU (fun j => (hF_18 2 j qn_863ce923b).trans (hF_4 2 j (fun h => absurd h.1 (nn rfl)))) (fun j => (hF_18 43 j qn_8baf1d17d).trans (hF_4 43 j (fun h => absurd h.1 (nn rfl))))⟩
  refine bk_inl ?_
  have h_26 := ir_1_3 hI_8
  refine v_i2l c_265_7 (by omega) (v_ls c_265_8 rfl (by decide) (by decide) (by decide) (q_goto (t := 15) c_265_9 rfl (q_iconst c_265_15 (q_iret c_265_16 rfl (bk_inl (q_istore c_296_396 (Nat.le_of_ble_eq_true rfl) (q_aload_n c_296_398 rfl ?_)))))))
  refine q_aload_n c_296_399 rfl (q_iload c_296_400 rfl (q_iconst c_296_402 (v_iadd (v := (i0 : Int) + 1) c_296_403 rfl (v_scr (j := i0 + 1) c_296_404 (by omega) (by omega) hL hx1 ?_))))
  have hI_27 := iw_lx (a := 67) (j := 0) (v := y_10) hI_8 (by omega)
  have h_28 := ir_41_2 hI
  have kn_29 : Hid (c_7 41 2 = c 41 2) := hF_9 41 2 (qn_95638b1cc hP)
  have h_30 : (up c_7 67 0 y_10) 41 2 = c 41 2 := ((up_c (nn rfl)).trans (hid kn_29))
  refine v_cv c_296_405 km_9_143 rfl rfl (Nat.le_of_ble_eq_true rfl) ⟨⟨rfl, rfl⟩, Nat.le_of_ble_eq_true rfl, rfl⟩ (Nat.le_of_ble_eq_true rfl) (Nat.le_of_ble_eq_true rfl) (s_202 (a1 := x1) hI_27 (show (-2147483648) ≤ x1 ∧ x1 ≤ 2147483647 from ⟨by first | exact q_7d59b2af6 h_11 | omega, by first | exact q_307fd138a h_11 | omega⟩) (fun c_31 y_34 hI_32 hF_33 hy_34 h_35 => (bk_inl ?_)))
  have h_36 := ir_41_2 hI_32
  refine q_istore c_296_408 (Nat.le_of_ble_eq_true rfl) (q_goto (t := 1844) c_296_410 rfl (Wp_ls [(4, vi (i0 : Int)), (3, .ref 67), (2, .ref 41), (1, .ref 0), (0, .ref a_SC)] (lsub_cons rfl (lsub_cons rfl (lsub_cons rfl (lsub_cons rfl (lsub_cons rfl lsub_nil))))) ?_))
  have kn_37 : Hid (c_31 1 3 = c_7 1 3) := (hF_33 1 3 qn_64b7cdf30).trans (up_c (nn rfl))
  have h_38 : c_31 1 3 = c_7 1 3 := (hid kn_37)
  have h_39 : c_31 41 2 = c_31 41 2 := rfl
  exact K P Q c_31 0 (by decide) hI_32 ⟨by omega, ub_fr hU (fun j => (hF_33 2 j qn_863ce923b).trans ((up_c (nn rfl)).trans (hF_9 2 j (qn_173504b41 hP)))) (fun j => (hF_33 43 j qn_8baf1d17d).trans ((up_c (nn rfl)).trans (hF_9 43 j (qn_bc8c9d6b3 hP))))⟩

set_option maxRecDepth 100000 in
set_option maxHeartbeats 4000000 in
theorem o_4 {xs : Nat → Int32} {L i0 d nc ns P Q : Nat} {c : ME} {Z : AR → Prop} (hi : i0 + 8 ≤ L) (hL : L ≤ 100000) (hI : Iv 0 (-1) P Q c) (hR : Rq P c) (K : ∀ (P2 Q2 : Nat) (c2 : ME) (e : Nat), e ≤ 1 → Iv 0 (-1) P2 Q2 c2 → (Rq P2 c2) → Wp (a_scr L xs) (d + 90) 296 1844 [(4, vi (i0 : Int)), (3, .ref 67), (2, .ref 41), (1, .ref 0), (0, .ref a_SC)] [] (Wd P2 Q2 P2 P2 c2) (nc + e) (ns + 6 * e) Z) : Wp (a_scr L xs) (d + 90) 296 413 [(4, vi (i0 : Int)), (3, .ref 67), (2, .ref 41), (1, .ref 0), (0, .ref a_SC)] [] (Wd P Q P P c) nc ns Z := by
  obtain ⟨x1, hx1⟩ : ∃ z, (xs (i0 + 1)).toInt = z := ⟨_, rfl⟩
  have x1r := c_rng (xs (i0 + 1))
  rw [hx1] at x1r
  obtain ⟨x2, hx2⟩ : ∃ z, (xs (i0 + 2)).toInt = z := ⟨_, rfl⟩
  have x2r := c_rng (xs (i0 + 2))
  rw [hx2] at x2r
  obtain ⟨x3, hx3⟩ : ∃ z, (xs (i0 + 3)).toInt = z := ⟨_, rfl⟩
  have x3r := c_rng (xs (i0 + 3))
  rw [hx3] at x3r
  obtain ⟨x4, hx4⟩ : ∃ z, (xs (i0 + 4)).toInt = z := ⟨_, rfl⟩
  have x4r := c_rng (xs (i0 + 4))
  rw [hx4] at x4r
  obtain ⟨x5, hx5⟩ : ∃ z, (xs (i0 + 5)).toInt = z := ⟨_, rfl⟩
  have x5r := c_rng (xs (i0 + 5))
  rw [hx5] at x5r
  obtain ⟨x6, hx6⟩ : ∃ z, (xs (i0 + 6)).toInt = z := ⟨_, rfl⟩
  have x6r := c_rng (xs (i0 + 6))
  rw [hx6] at x6r
  obtain ⟨x7, hx7⟩ : ∃ z, (xs (i0 + 7)).toInt = z := ⟨_, rfl⟩
  have x7r := c_rng (xs (i0 + 7))
  rw [hx7] at x7r
  have hP := iv_P hI
  have hQ := iv_Q hI
  have hT := rl_t hR
  have hU := rl_u hR
  refine q_aload_n c_296_413 rfl (q_aload_n c_296_414 rfl (q_iload c_296_415 rfl (q_iconst c_296_417 (v_iadd (v := (i0 : Int) + 1) c_296_418 rfl (v_scr (j := i0 + 1) c_296_419 (by omega) (by omega) hL hx1 (q_aload_n c_296_420 rfl (q_call c_296_421 rfl rfl rfl ?_)))))))
  refine q_aload_n c_266_0 rfl (q_iconst c_266_1 (q_aload_n c_266_2 rfl (q_iload_n c_266_3 rfl ?_)))
  have h_1 := ir_1_3 hI
  refine v_cv c_266_4 km_9_21 rfl rfl (Nat.le_of_ble_eq_true rfl) ⟨⟨rfl, rfl⟩, Nat.le_of_ble_eq_true rfl, rfl⟩ (Nat.le_of_ble_eq_true rfl) (Nat.le_of_ble_eq_true rfl) (s_87 (a1 := x1) hI (show (-2147483648) ≤ x1 ∧ x1 ≤ 2147483647 from ⟨by omega, by omega⟩) (fun c_2 hI_3 hF_4 h_5 h_6 => ?_) (fun c_7 y_10 hI_8 hF_9 hy_10 h_11 => ?_))
  · skip
    have h_12 := ir_1_3 hI_3
    refine bk_thr (z := Int32.ofInt 1) rfl ⟨_, _, rfl⟩ rfl (bk_inl (q_istore c_296_424 (Nat.le_of_ble_eq_true rfl) (q_aload_n c_296_426 rfl (q_aload_n c_296_427 rfl (q_iload c_296_428 rfl (q_iconst c_296_430 (v_iadd (v := (i0 : Int) + 1) c_296_431 rfl ?_)))))))
    refine v_scr (j := i0 + 1) c_296_432 (by omega) (by omega) hL hx1 ?_
    have h_13 := ir_41_2 hI
    have kn_14 : Hid (c_2 41 2 = c 41 2) := hF_4 41 2 (fun h => absurd h.1 (nn rfl))
    have h_15 : c_2 41 2 = c 41 2 := (hid kn_14)
    refine v_cv c_296_433 km_9_146 rfl rfl (Nat.le_of_ble_eq_true rfl) ⟨⟨rfl, rfl⟩, Nat.le_of_ble_eq_true rfl, rfl⟩ (Nat.le_of_ble_eq_true rfl) (Nat.le_of_ble_eq_true rfl) (s_206 (a1 := x1) hI_3 (show (-2147483648) ≤ x1 ∧ x1 ≤ 2147483647 from ⟨by first | (clear hT h_1 h_12; omega) | omega, by first | (clear hT h_1 h_12; omega) | omega⟩) (fun c_16 y_19 hI_17 hF_18 hy_19 h_20 => (bk_inl ?_)))
    have h_21 := ir_41_2 hI_17
    refine q_istore c_296_436 (Nat.le_of_ble_eq_true rfl) (q_goto (t := 1844) c_296_438 rfl (Wp_ls [(4, vi (i0 : Int)), (3, .ref 67), (2, .ref 41), (1, .ref 0), (0, .ref a_SC)] (lsub_cons rfl (lsub_cons rfl (lsub_cons rfl (lsub_cons rfl (lsub_cons rfl lsub_nil))))) ?_))
    have kn_22 : Hid (c_2 1 3 = c 1 3) := hF_4 1 3 (fun h => absurd h.1 (nn rfl))
    have kn_23 : Hid (c_16 1 3 = c 1 3) := (hF_18 1 3 qn_ee2350d59).trans (hid kn_22)
    have h_24 : c_16 1 3 = c 1 3 := (hid kn_23)
    have h_25 : c_16 41 2 = c_16 41 2 := rfl
    exact K P Q c_16 1 (by decide) hI_17 ⟨by omega, ub_fr hU (fun j => (hF_18 2 j qn_b5489bdb1).trans (hF_4 2 j (fun h => absurd h.1 (nn rfl)))) (fun j => (hF_18 43 j qn_a255de46c).trans (hF_4 43 j (fun h => absurd h.1 (nn rfl))))⟩
  refine bk_inl ?_
  have h_26 := ir_1_3 hI_8
  refine v_i2l c_266_7 (by omega) (v_ls c_266_8 rfl (by decide) (by decide) (by decide) (q_goto (t := 15) c_266_9 rfl (q_iconst c_266_15 (q_iret c_266_16 rfl (bk_inl (q_istore c_296_424 (Nat.le_of_ble_eq_true rfl) (q_aload_n c_296_426 rfl ?_)))))))
  refine q_aload_n c_296_427 rfl (q_iload c_296_428 rfl (q_iconst c_296_430 (v_iadd (v := (i0 : Int) + 1) c_296_431 rfl (v_scr (j := i0 + 1) c_296_432 (by omega) (by omega) hL hx1 ?_))))
  have hI_27 := iw_lx (a := 67) (j := 0) (v := y_10) hI_8 (by omega)
  have h_28 := ir_41_2 hI
  have kn_29 : Hid (c_7 41 2 = c 41 2) := hF_9 41 2 (qn_1b494c190 hP)
  have h_30 : (up c_7 67 0 y_10) 41 2 = c 41 2 := ((up_c (nn rfl)).trans (hid kn_29))
  refine v_cv c_296_433 km_9_146 rfl rfl (Nat.le_of_ble_eq_true rfl) ⟨⟨rfl, rfl⟩, Nat.le_of_ble_eq_true rfl, rfl⟩ (Nat.le_of_ble_eq_true rfl) (Nat.le_of_ble_eq_true rfl) (s_206 (a1 := x1) hI_27 (show (-2147483648) ≤ x1 ∧ x1 ≤ 2147483647 from ⟨by first | exact q_349ccc1a6 h_11 | omega, by first | exact q_147cf96f9 h_11 | omega⟩) (fun c_31 y_34 hI_32 hF_33 hy_34 h_35 => (bk_inl ?_)))
  have h_36 := ir_41_2 hI_32
  refine q_istore c_296_436 (Nat.le_of_ble_eq_true rfl) (q_goto (t := 1844) c_296_438 rfl (Wp_ls [(4, vi (i0 : Int)), (3, .ref 67), (2, .ref 41), (1, .ref 0), (0, .ref a_SC)] (lsub_cons rfl (lsub_cons rfl (lsub_cons rfl (lsub_cons rfl (lsub_cons rfl lsub_nil))))) ?_))
  have kn_37 : Hid (c_31 1 3 = c_7 1 3) := (hF_33 1 3 qn_ee2350d59).trans (up_c (nn rfl))
  have h_38 : c_31 1 3 = c_7 1 3 := (hid kn_37)
  have h_39 : c_31 41 2 = c_31 41 2 := rfl
  exact K P Q c_31 0 (by decide) hI_32 ⟨by omega, ub_fr hU (fun j => (hF_33 2 j qn_b5489bdb1).trans ((up_c (nn rfl)).trans (hF_9 2 j (qn_64e884695 hP)))) (fun j => (hF_33 43 j qn_a255de46c).trans ((up_c (nn rfl)).trans (hF_9 43 j (qn_451f4811a hP))))⟩

set_option maxRecDepth 100000 in
set_option maxHeartbeats 4000000 in
theorem o_5 {xs : Nat → Int32} {L i0 d nc ns P Q : Nat} {c : ME} {Z : AR → Prop} (hi : i0 + 8 ≤ L) (hL : L ≤ 100000) (hI : Iv 0 (-1) P Q c) (hR : Rq P c) (K : ∀ (P2 Q2 : Nat) (c2 : ME) (e : Nat), e ≤ 1 → Iv 0 (-1) P2 Q2 c2 → (Rq P2 c2) → Wp (a_scr L xs) (d + 90) 296 1844 [(4, vi (i0 : Int)), (3, .ref 67), (2, .ref 41), (1, .ref 0), (0, .ref a_SC)] [] (Wd P2 Q2 P2 P2 c2) (nc + e) (ns + 6 * e) Z) : Wp (a_scr L xs) (d + 90) 296 441 [(4, vi (i0 : Int)), (3, .ref 67), (2, .ref 41), (1, .ref 0), (0, .ref a_SC)] [] (Wd P Q P P c) nc ns Z := by
  obtain ⟨x1, hx1⟩ : ∃ z, (xs (i0 + 1)).toInt = z := ⟨_, rfl⟩
  have x1r := c_rng (xs (i0 + 1))
  rw [hx1] at x1r
  obtain ⟨x2, hx2⟩ : ∃ z, (xs (i0 + 2)).toInt = z := ⟨_, rfl⟩
  have x2r := c_rng (xs (i0 + 2))
  rw [hx2] at x2r
  obtain ⟨x3, hx3⟩ : ∃ z, (xs (i0 + 3)).toInt = z := ⟨_, rfl⟩
  have x3r := c_rng (xs (i0 + 3))
  rw [hx3] at x3r
  obtain ⟨x4, hx4⟩ : ∃ z, (xs (i0 + 4)).toInt = z := ⟨_, rfl⟩
  have x4r := c_rng (xs (i0 + 4))
  rw [hx4] at x4r
  obtain ⟨x5, hx5⟩ : ∃ z, (xs (i0 + 5)).toInt = z := ⟨_, rfl⟩
  have x5r := c_rng (xs (i0 + 5))
  rw [hx5] at x5r
  obtain ⟨x6, hx6⟩ : ∃ z, (xs (i0 + 6)).toInt = z := ⟨_, rfl⟩
  have x6r := c_rng (xs (i0 + 6))
  rw [hx6] at x6r
  obtain ⟨x7, hx7⟩ : ∃ z, (xs (i0 + 7)).toInt = z := ⟨_, rfl⟩
  have x7r := c_rng (xs (i0 + 7))
  rw [hx7] at x7r
  have hP := iv_P hI
  have hQ := iv_Q hI
  have hT := rl_t hR
  have hU := rl_u hR
  refine q_aload_n c_296_441 rfl (q_aload_n c_296_442 rfl (q_iload c_296_443 rfl (q_iconst c_296_445 (v_iadd (v := (i0 : Int) + 1) c_296_446 rfl (v_scr (j := i0 + 1) c_296_447 (by omega) (by omega) hL hx1 (q_aload_n c_296_448 rfl (q_call c_296_449 rfl rfl rfl ?_)))))))
  refine q_aload_n c_267_0 rfl (q_iconst c_267_1 (q_aload_n c_267_2 rfl (q_iload_n c_267_3 rfl ?_)))
  have h_1 := ir_1_3 hI
  refine v_cv c_267_4 km_9_24 rfl rfl (Nat.le_of_ble_eq_true rfl) ⟨⟨rfl, rfl⟩, Nat.le_of_ble_eq_true rfl, rfl⟩ (Nat.le_of_ble_eq_true rfl) (Nat.le_of_ble_eq_true rfl) (s_88 (a1 := x1) hI (show (-2147483648) ≤ x1 ∧ x1 ≤ 2147483647 from ⟨by omega, by omega⟩) (fun c_2 hI_3 hF_4 h_5 h_6 => ?_) (fun c_7 y_10 hI_8 hF_9 hy_10 h_11 => ?_))
  · skip
    have h_12 := ir_1_3 hI_3
    refine bk_thr (z := Int32.ofInt 1) rfl ⟨_, _, rfl⟩ rfl (bk_inl (q_istore c_296_452 (Nat.le_of_ble_eq_true rfl) (q_aload_n c_296_454 rfl (q_aload_n c_296_455 rfl (q_iload c_296_456 rfl (q_iconst c_296_458 (v_iadd (v := (i0 : Int) + 1) c_296_459 rfl ?_)))))))
    refine v_scr (j := i0 + 1) c_296_460 (by omega) (by omega) hL hx1 ?_
    have h_13 := ir_41_2 hI
    have kn_14 : Hid (c_2 41 2 = c 41 2) := hF_4 41 2 (fun h => absurd h.1 (nn rfl))
    have h_15 : c_2 41 2 = c 41 2 := (hid kn_14)
    refine v_cv c_296_461 km_9_149 rfl rfl (Nat.le_of_ble_eq_true rfl) ⟨⟨rfl, rfl⟩, Nat.le_of_ble_eq_true rfl, rfl⟩ (Nat.le_of_ble_eq_true rfl) (Nat.le_of_ble_eq_true rfl) (s_207 (a1 := x1) hI_3 (show (-2147483648) ≤ x1 ∧ x1 ≤ 2147483647 from ⟨by first | (clear hT h_1 h_12; omega) | omega, by first | (clear hT h_1 h_12; omega) | omega⟩) (fun c_16 y_19 hI_17 hF_18 hy_19 h_20 => (bk_inl ?_)))
    have h_21 := ir_41_2 hI_17
    refine q_istore c_296_464 (Nat.le_of_ble_eq_true rfl) (q_goto (t := 1844) c_296_466 rfl (Wp_ls [(4, vi (i0 : Int)), (3, .ref 67), (2, .ref 41), (1, .ref 0), (0, .ref a_SC)] (lsub_cons rfl (lsub_cons rfl (lsub_cons rfl (lsub_cons rfl (lsub_cons rfl lsub_nil))))) ?_))
    have kn_22 : Hid (c_2 1 3 = c 1 3) := hF_4 1 3 (fun h => absurd h.1 (nn rfl))
    have kn_23 : Hid (c_16 1 3 = c 1 3) := (hF_18 1 3 qn_e4da0ae8c).trans (hid kn_22)
    have h_24 : c_16 1 3 = c 1 3 := (hid kn_23)
    have h_25 : c_16 41 2 = c_16 41 2 := rfl
    exact K P Q c_16 1 (by decide) hI_17 ⟨by omega, ub_fr hU (fun j => (hF_18 2 j qn_2fc470899).trans (hF_4 2 j (fun h => absurd h.1 (nn rfl)))) (fun j => (hF_18 43 j qn_a1452b2ed).trans (hF_4 43 j (fun h => absurd h.1 (nn rfl))))⟩
  refine bk_inl ?_
  have h_26 := ir_1_3 hI_8
  refine v_i2l c_267_7 (by omega) (v_ls c_267_8 rfl (by decide) (by decide) (by decide) (q_goto (t := 15) c_267_9 rfl (q_iconst c_267_15 (q_iret c_267_16 rfl (bk_inl (q_istore c_296_452 (Nat.le_of_ble_eq_true rfl) (q_aload_n c_296_454 rfl ?_)))))))
  refine q_aload_n c_296_455 rfl (q_iload c_296_456 rfl (q_iconst c_296_458 (v_iadd (v := (i0 : Int) + 1) c_296_459 rfl (v_scr (j := i0 + 1) c_296_460 (by omega) (by omega) hL hx1 ?_))))
  have hI_27 := iw_lx (a := 67) (j := 0) (v := y_10) hI_8 (by omega)
  have h_28 := ir_41_2 hI
  have kn_29 : Hid (c_7 41 2 = c 41 2) := hF_9 41 2 (qn_f46dc6fb3 hP)
  have h_30 : (up c_7 67 0 y_10) 41 2 = c 41 2 := ((up_c (nn rfl)).trans (hid kn_29))
  refine v_cv c_296_461 km_9_149 rfl rfl (Nat.le_of_ble_eq_true rfl) ⟨⟨rfl, rfl⟩, Nat.le_of_ble_eq_true rfl, rfl⟩ (Nat.le_of_ble_eq_true rfl) (Nat.le_of_ble_eq_true rfl) (s_207 (a1 := x1) hI_27 (show (-2147483648) ≤ x1 ∧ x1 ≤ 2147483647 from ⟨by first | exact q_349ccc1a6 h_11 | omega, by first | exact q_147cf96f9 h_11 | omega⟩) (fun c_31 y_34 hI_32 hF_33 hy_34 h_35 => (bk_inl ?_)))
  have h_36 := ir_41_2 hI_32
  refine q_istore c_296_464 (Nat.le_of_ble_eq_true rfl) (q_goto (t := 1844) c_296_466 rfl (Wp_ls [(4, vi (i0 : Int)), (3, .ref 67), (2, .ref 41), (1, .ref 0), (0, .ref a_SC)] (lsub_cons rfl (lsub_cons rfl (lsub_cons rfl (lsub_cons rfl (lsub_cons rfl lsub_nil))))) ?_))
  have kn_37 : Hid (c_31 1 3 = c_7 1 3) := (hF_33 1 3 qn_e4da0ae8c).trans (up_c (nn rfl))
  have h_38 : c_31 1 3 = c_7 1 3 := (hid kn_37)
  have h_39 : c_31 41 2 = c_31 41 2 := rfl
  exact K P Q c_31 0 (by decide) hI_32 ⟨by omega, ub_fr hU (fun j => (hF_33 2 j qn_2fc470899).trans ((up_c (nn rfl)).trans (hF_9 2 j (qn_f75877a0d hP)))) (fun j => (hF_33 43 j qn_a1452b2ed).trans ((up_c (nn rfl)).trans (hF_9 43 j (qn_bcdf94085 hP))))⟩

set_option maxRecDepth 100000 in
set_option maxHeartbeats 4000000 in
theorem o_6 {xs : Nat → Int32} {L i0 d nc ns P Q : Nat} {c : ME} {Z : AR → Prop} (hi : i0 + 8 ≤ L) (hL : L ≤ 100000) (hI : Iv 0 (-1) P Q c) (hR : Rq P c) (K : ∀ (P2 Q2 : Nat) (c2 : ME) (e : Nat), e ≤ 1 → Iv 0 (-1) P2 Q2 c2 → (Rq P2 c2) → Wp (a_scr L xs) (d + 90) 296 1844 [(4, vi (i0 : Int)), (3, .ref 67), (2, .ref 41), (1, .ref 0), (0, .ref a_SC)] [] (Wd P2 Q2 P2 P2 c2) (nc + e) (ns + 6 * e) Z) : Wp (a_scr L xs) (d + 90) 296 469 [(4, vi (i0 : Int)), (3, .ref 67), (2, .ref 41), (1, .ref 0), (0, .ref a_SC)] [] (Wd P Q P P c) nc ns Z := by
  obtain ⟨x1, hx1⟩ : ∃ z, (xs (i0 + 1)).toInt = z := ⟨_, rfl⟩
  have x1r := c_rng (xs (i0 + 1))
  rw [hx1] at x1r
  obtain ⟨x2, hx2⟩ : ∃ z, (xs (i0 + 2)).toInt = z := ⟨_, rfl⟩
  have x2r := c_rng (xs (i0 + 2))
  rw [hx2] at x2r
  obtain ⟨x3, hx3⟩ : ∃ z, (xs (i0 + 3)).toInt = z := ⟨_, rfl⟩
  have x3r := c_rng (xs (i0 + 3))
  rw [hx3] at x3r
  obtain ⟨x4, hx4⟩ : ∃ z, (xs (i0 + 4)).toInt = z := ⟨_, rfl⟩
  have x4r := c_rng (xs (i0 + 4))
  rw [hx4] at x4r
  obtain ⟨x5, hx5⟩ : ∃ z, (xs (i0 + 5)).toInt = z := ⟨_, rfl⟩
  have x5r := c_rng (xs (i0 + 5))
  rw [hx5] at x5r
  obtain ⟨x6, hx6⟩ : ∃ z, (xs (i0 + 6)).toInt = z := ⟨_, rfl⟩
  have x6r := c_rng (xs (i0 + 6))
  rw [hx6] at x6r
  obtain ⟨x7, hx7⟩ : ∃ z, (xs (i0 + 7)).toInt = z := ⟨_, rfl⟩
  have x7r := c_rng (xs (i0 + 7))
  rw [hx7] at x7r
  have hP := iv_P hI
  have hQ := iv_Q hI
  have hT := rl_t hR
  have hU := rl_u hR
  refine q_aload_n c_296_469 rfl (v_cv c_296_470 km_9_150 rfl rfl (Nat.le_of_ble_eq_true rfl) ⟨⟨rfl, rfl⟩, Nat.le_of_ble_eq_true rfl, rfl⟩ (Nat.le_of_ble_eq_true rfl) (Nat.le_of_ble_eq_true rfl) (s_89 hI (fun y_1 hy_1 => (bk_inl (q_pop c_296_473 rfl (q_aload_n c_296_474 rfl (v_cv c_296_475 km_9_153 rfl rfl (Nat.le_of_ble_eq_true rfl) ⟨⟨rfl, rfl⟩, Nat.le_of_ble_eq_true rfl, rfl⟩ (Nat.le_of_ble_eq_true rfl) (Nat.le_of_ble_eq_true rfl) (s_165 hI (fun c_2 y_5 hI_3 hF_4 hy_5 => (bk_inl (q_pop c_296_478 rfl ?_)))))))))))
  refine q_goto (t := 1844) c_296_479 rfl (Wp_ls [(4, vi (i0 : Int)), (3, .ref 67), (2, .ref 41), (1, .ref 0), (0, .ref a_SC)] (lsub_cons rfl (lsub_cons rfl (lsub_cons rfl (lsub_cons rfl (lsub_cons rfl lsub_nil))))) ?_)
  have h_6 := ir_1_3 hI
  have kn_7 : Hid (c_2 1 3 = c 1 3) := hF_4 1 3 (fun h => absurd h.1 (nn rfl))
  have h_8 : c_2 1 3 = c 1 3 := (hid kn_7)
  have h_9 := ir_41_2 hI
  have kn_10 : Hid (c_2 41 2 = c 41 2) := hF_4 41 2 (fun h => absurd h.2 (ni rfl))
  have h_11 : c_2 41 2 = c 41 2 := (hid kn_10)
  exact K P Q c_2 0 (by decide) hI_3 ⟨by omega, ub_fr hU (fun j => hF_4 2 j (fun h => absurd h.1 (nn rfl))) (fun j => hF_4 43 j (fun h => absurd h.1 (nn rfl)))⟩

set_option maxRecDepth 100000 in
set_option maxHeartbeats 4000000 in
theorem o_7 {xs : Nat → Int32} {L i0 d nc ns P Q : Nat} {c : ME} {Z : AR → Prop} (hi : i0 + 8 ≤ L) (hL : L ≤ 100000) (hI : Iv 0 (-1) P Q c) (hR : Rq P c) (K : ∀ (P2 Q2 : Nat) (c2 : ME) (e : Nat), e ≤ 1 → Iv 0 (-1) P2 Q2 c2 → (Rq P2 c2) → Wp (a_scr L xs) (d + 90) 296 1844 [(4, vi (i0 : Int)), (3, .ref 67), (2, .ref 41), (1, .ref 0), (0, .ref a_SC)] [] (Wd P2 Q2 P2 P2 c2) (nc + e) (ns + 6 * e) Z) : Wp (a_scr L xs) (d + 90) 296 482 [(4, vi (i0 : Int)), (3, .ref 67), (2, .ref 41), (1, .ref 0), (0, .ref a_SC)] [] (Wd P Q P P c) nc ns Z := by
  obtain ⟨x1, hx1⟩ : ∃ z, (xs (i0 + 1)).toInt = z := ⟨_, rfl⟩
  have x1r := c_rng (xs (i0 + 1))
  rw [hx1] at x1r
  obtain ⟨x2, hx2⟩ : ∃ z, (xs (i0 + 2)).toInt = z := ⟨_, rfl⟩
  have x2r := c_rng (xs (i0 + 2))
  rw [hx2] at x2r
  obtain ⟨x3, hx3⟩ : ∃ z, (xs (i0 + 3)).toInt = z := ⟨_, rfl⟩
  have x3r := c_rng (xs (i0 + 3))
  rw [hx3] at x3r
  obtain ⟨x4, hx4⟩ : ∃ z, (xs (i0 + 4)).toInt = z := ⟨_, rfl⟩
  have x4r := c_rng (xs (i0 + 4))
  rw [hx4] at x4r
  obtain ⟨x5, hx5⟩ : ∃ z, (xs (i0 + 5)).toInt = z := ⟨_, rfl⟩
  have x5r := c_rng (xs (i0 + 5))
  rw [hx5] at x5r
  obtain ⟨x6, hx6⟩ : ∃ z, (xs (i0 + 6)).toInt = z := ⟨_, rfl⟩
  have x6r := c_rng (xs (i0 + 6))
  rw [hx6] at x6r
  obtain ⟨x7, hx7⟩ : ∃ z, (xs (i0 + 7)).toInt = z := ⟨_, rfl⟩
  have x7r := c_rng (xs (i0 + 7))
  rw [hx7] at x7r
  have hP := iv_P hI
  have hQ := iv_Q hI
  have hT := rl_t hR
  have hU := rl_u hR
  refine q_aload_n c_296_482 rfl ?_
  have h_1 := ir_3_3 hI
  refine v_cv c_296_483 km_9_154 rfl rfl (Nat.le_of_ble_eq_true rfl) ⟨⟨rfl, rfl⟩, Nat.le_of_ble_eq_true rfl, rfl⟩ (Nat.le_of_ble_eq_true rfl) (Nat.le_of_ble_eq_true rfl) (s_139 hI (fun c_2 y_5 hI_3 hF_4 hy_5 h_6 => (bk_inl ?_)))
  have h_7 := ir_3_3 hI_3
  refine q_pop c_296_486 rfl (q_aload_n c_296_487 rfl ?_)
  have h_8 := ir_41_35 hI
  have kn_9 : Hid (c_2 41 35 = c 41 35) := hF_4 41 35 qn_42c22a4f3
  have h_10 : c_2 41 35 = c 41 35 := (hid kn_9)
  refine v_cv c_296_488 km_9_157 rfl rfl (Nat.le_of_ble_eq_true rfl) ⟨⟨rfl, rfl⟩, Nat.le_of_ble_eq_true rfl, rfl⟩ (Nat.le_of_ble_eq_true rfl) (Nat.le_of_ble_eq_true rfl) (s_208 hI_3 (fun c_11 y_14 hI_12 hF_13 hy_14 h_15 => (bk_inl ?_)))
  have h_16 := ir_41_35 hI_12
  refine q_pop c_296_491 rfl (q_goto (t := 1844) c_296_492 rfl (Wp_ls [(4, vi (i0 : Int)), (3, .ref 67), (2, .ref 41), (1, .ref 0), (0, .ref a_SC)] (lsub_cons rfl (lsub_cons rfl (lsub_cons rfl (lsub_cons rfl (lsub_cons rfl lsub_nil))))) ?_))
  have h_17 := ir_1_3 hI
  have kn_18 : Hid (c_2 1 3 = c 1 3) := hF_4 1 3 qn_6c6a5b112
  have kn_19 : Hid (c_11 1 3 = c 1 3) := (hF_13 1 3 qn_e809d71be).trans (hid kn_18)
  have h_20 : c_11 1 3 = c 1 3 := (hid kn_19)
  have h_21 := ir_41_2 hI
  have kn_22 : Hid (c_2 41 2 = c 41 2) := hF_4 41 2 qn_42c22a4f3
  have kn_23 : Hid (c_11 41 2 = c 41 2) := (hF_13 41 2 qn_a0e956850).trans (hid kn_22)
  have h_24 : c_11 41 2 = c 41 2 := (hid kn_23)
  exact K P Q c_11 0 (by decide) hI_12 ⟨by omega, ub_fr hU (fun j => (hF_13 2 j qn_f12bc0175).trans (hF_4 2 j qn_a6915fafb)) (fun j => (hF_13 43 j qn_8711c50f0).trans (hF_4 43 j qn_52f444696))⟩

set_option maxRecDepth 100000 in
set_option maxHeartbeats 4000000 in
theorem o_8 {xs : Nat → Int32} {L i0 d nc ns P Q : Nat} {c : ME} {Z : AR → Prop} (hi : i0 + 8 ≤ L) (hL : L ≤ 100000) (hI : Iv 0 (-1) P Q c) (hR : Rq P c) (K : ∀ (P2 Q2 : Nat) (c2 : ME) (e : Nat), e ≤ 1 → Iv 0 (-1) P2 Q2 c2 → (Rq P2 c2) → Wp (a_scr L xs) (d + 90) 296 1844 [(4, vi (i0 : Int)), (3, .ref 67), (2, .ref 41), (1, .ref 0), (0, .ref a_SC)] [] (Wd P2 Q2 P2 P2 c2) (nc + e) (ns + 6 * e) Z) : Wp (a_scr L xs) (d + 90) 296 495 [(4, vi (i0 : Int)), (3, .ref 67), (2, .ref 41), (1, .ref 0), (0, .ref a_SC)] [] (Wd P Q P P c) nc ns Z := by
  obtain ⟨x1, hx1⟩ : ∃ z, (xs (i0 + 1)).toInt = z := ⟨_, rfl⟩
  have x1r := c_rng (xs (i0 + 1))
  rw [hx1] at x1r
  obtain ⟨x2, hx2⟩ : ∃ z, (xs (i0 + 2)).toInt = z := ⟨_, rfl⟩
  have x2r := c_rng (xs (i0 + 2))
  rw [hx2] at x2r
  obtain ⟨x3, hx3⟩ : ∃ z, (xs (i0 + 3)).toInt = z := ⟨_, rfl⟩
  have x3r := c_rng (xs (i0 + 3))
  rw [hx3] at x3r
  obtain ⟨x4, hx4⟩ : ∃ z, (xs (i0 + 4)).toInt = z := ⟨_, rfl⟩
  have x4r := c_rng (xs (i0 + 4))
  rw [hx4] at x4r
  obtain ⟨x5, hx5⟩ : ∃ z, (xs (i0 + 5)).toInt = z := ⟨_, rfl⟩
  have x5r := c_rng (xs (i0 + 5))
  rw [hx5] at x5r
  obtain ⟨x6, hx6⟩ : ∃ z, (xs (i0 + 6)).toInt = z := ⟨_, rfl⟩
  have x6r := c_rng (xs (i0 + 6))
  rw [hx6] at x6r
  obtain ⟨x7, hx7⟩ : ∃ z, (xs (i0 + 7)).toInt = z := ⟨_, rfl⟩
  have x7r := c_rng (xs (i0 + 7))
  rw [hx7] at x7r
  have hP := iv_P hI
  have hQ := iv_Q hI
  have hT := rl_t hR
  have hU := rl_u hR
  refine q_aload_n c_296_495 rfl (q_aload_n c_296_496 rfl (q_iload c_296_497 rfl (q_iconst c_296_499 (v_iadd (v := (i0 : Int) + 1) c_296_500 rfl (v_scr (j := i0 + 1) c_296_501 (by omega) (by omega) hL hx1 (q_aload_n c_296_502 rfl (q_call c_296_503 rfl rfl rfl ?_)))))))
  refine q_aload_n c_268_0 rfl (q_iconst c_268_1 (q_aload_n c_268_2 rfl (q_iload_n c_268_3 rfl ?_)))
  refine v_cv c_268_4 km_9_27 rfl rfl (Nat.le_of_ble_eq_true rfl) ⟨⟨rfl, rfl⟩, Nat.le_of_ble_eq_true rfl, rfl⟩ (Nat.le_of_ble_eq_true rfl) (Nat.le_of_ble_eq_true rfl) (s_90 (a1 := x1) hI (show (-2147483648) ≤ x1 ∧ x1 ≤ 2147483647 from ⟨by omega, by omega⟩) (fun c_1 hI_2 hF_3 => ?_) (fun c_4 y_7 hI_5 hF_6 hy_7 => ?_))
  · skip
    refine bk_thr (z := Int32.ofInt 1) rfl ⟨_, _, rfl⟩ rfl (bk_inl (q_istore c_296_506 (Nat.le_of_ble_eq_true rfl) (q_aload_n c_296_508 rfl (q_aload_n c_296_509 rfl (q_iload c_296_510 rfl (q_iconst c_296_512 (v_iadd (v := (i0 : Int) + 1) c_296_513 rfl ?_)))))))
    refine v_scr (j := i0 + 1) c_296_514 (by omega) (by omega) hL hx1 (v_cv c_296_515 km_9_160 rfl rfl (Nat.le_of_ble_eq_true rfl) ⟨⟨rfl, rfl⟩, Nat.le_of_ble_eq_true rfl, rfl⟩ (Nat.le_of_ble_eq_true rfl) (Nat.le_of_ble_eq_true rfl) (s_211 (a1 := x1) hI_2 (show (-2147483648) ≤ x1 ∧ x1 ≤ 2147483647 from ⟨by omega, by omega⟩) (fun c_8 y_11 hI_9 hF_10 hy_11 => (bk_inl (q_istore c_296_518 (Nat.le_of_ble_eq_true rfl) (q_goto (t := 1844) c_296_520 rfl (Wp_ls [(4, vi (i0 : Int)), (3, .ref 67), (2, .ref 41), (1, .ref 0), (0, .ref a_SC)] (lsub_cons rfl (lsub_cons rfl (lsub_cons rfl (lsub_cons rfl (lsub_cons rfl lsub_nil))))) ?_)))))))
    have h_12 := ir_1_3 hI
    have kn_13 : Hid (c_1 1 3 = c 1 3) := hF_3 1 3 (fun h => absurd h.1 (nn rfl))
    have kn_14 : Hid (c_8 1 3 = c 1 3) := (hF_10 1 3 qn_39cd18c3e).trans (hid kn_13)
    have h_15 : c_8 1 3 = c 1 3 := (hid kn_14)
    have h_16 := ir_41_2 hI
    have kn_17 : Hid (c_1 41 2 = c 41 2) := hF_3 41 2 (fun h => absurd h.1 (nn rfl))
    have kn_18 : Hid (c_8 41 2 = c 41 2) := (hF_10 41 2 qn_53bdb2099).trans (hid kn_17)
    have h_19 : c_8 41 2 = c 41 2 := (hid kn_18)
    exact K P Q c_8 1 (by decide) hI_9 ⟨by omega, ub_fr hU (fun j => (hF_10 2 j qn_2ad67e194).trans (hF_3 2 j (fun h => absurd h.1 (nn rfl)))) (fun j => (hF_10 43 j qn_1520ff5e3).trans (hF_3 43 j (fun h => absurd h.1 (nn rfl))))⟩
  refine bk_inl (v_i2l c_268_7 (by omega) (v_ls c_268_8 rfl (by decide) (by decide) (by decide) (q_goto (t := 15) c_268_9 rfl (q_iconst c_268_15 (q_iret c_268_16 rfl (bk_inl (q_istore c_296_506 (Nat.le_of_ble_eq_true rfl) ?_)))))))
  refine q_aload_n c_296_508 rfl (q_aload_n c_296_509 rfl (q_iload c_296_510 rfl (q_iconst c_296_512 (v_iadd (v := (i0 : Int) + 1) c_296_513 rfl (v_scr (j := i0 + 1) c_296_514 (by omega) (by omega) hL hx1 ?_)))))
  have hI_20 := iw_lx (a := 67) (j := 0) (v := y_7) hI_5 (by omega)
  refine v_cv c_296_515 km_9_160 rfl rfl (Nat.le_of_ble_eq_true rfl) ⟨⟨rfl, rfl⟩, Nat.le_of_ble_eq_true rfl, rfl⟩ (Nat.le_of_ble_eq_true rfl) (Nat.le_of_ble_eq_true rfl) (s_211 (a1 := x1) hI_20 (show (-2147483648) ≤ x1 ∧ x1 ≤ 2147483647 from ⟨by omega, by omega⟩) (fun c_21 y_24 hI_22 hF_23 hy_24 => (bk_inl (q_istore c_296_518 (Nat.le_of_ble_eq_true rfl) (q_goto (t := 1844) c_296_520 rfl (Wp_ls [(4, vi (i0 : Int)), (3, .ref 67), (2, .ref 41), (1, .ref 0), (0, .ref a_SC)] (lsub_cons rfl (lsub_cons rfl (lsub_cons rfl (lsub_cons rfl (lsub_cons rfl lsub_nil))))) ?_))))))
  have h_25 := ir_1_3 hI
  have kn_26 : Hid (c_4 1 3 = c 1 3) := hF_6 1 3 (fun h => absurd h.1 (nn rfl))
  have kn_27 : Hid (c_21 1 3 = c 1 3) := (hF_23 1 3 qn_39cd18c3e).trans ((up_c (nn rfl)).trans (hid kn_26))
  have h_28 : c_21 1 3 = c 1 3 := (hid kn_27)
  have h_29 := ir_41_2 hI
  have kn_30 : Hid (c_4 41 2 = c 41 2) := hF_6 41 2 (fun h => absurd h.1 (nn rfl))
  have kn_31 : Hid (c_21 41 2 = c 41 2) := (hF_23 41 2 qn_53bdb2099).trans ((up_c (nn rfl)).trans (hid kn_30))
  have h_32 : c_21 41 2 = c 41 2 := (hid kn_31)
  exact K P Q c_21 0 (by decide) hI_22 ⟨by omega, ub_fr hU (fun j => (hF_23 2 j qn_2ad67e194).trans ((up_c (nn rfl)).trans (hF_6 2 j (fun h => absurd h.1 (nn rfl))))) (fun j => (hF_23 43 j qn_1520ff5e3).trans ((up_c (nn rfl)).trans (hF_6 43 j (fun h => absurd h.1 (nn rfl)))))⟩

set_option maxRecDepth 100000 in
set_option maxHeartbeats 4000000 in
theorem o_9 {xs : Nat → Int32} {L i0 d nc ns P Q : Nat} {c : ME} {Z : AR → Prop} (hi : i0 + 8 ≤ L) (hL : L ≤ 100000) (hI : Iv 0 (-1) P Q c) (hR : Rq P c) (K : ∀ (P2 Q2 : Nat) (c2 : ME) (e : Nat), e ≤ 1 → Iv 0 (-1) P2 Q2 c2 → (Rq P2 c2) → Wp (a_scr L xs) (d + 90) 296 1844 [(4, vi (i0 : Int)), (3, .ref 67), (2, .ref 41), (1, .ref 0), (0, .ref a_SC)] [] (Wd P2 Q2 P2 P2 c2) (nc + e) (ns + 6 * e) Z) : Wp (a_scr L xs) (d + 90) 296 523 [(4, vi (i0 : Int)), (3, .ref 67), (2, .ref 41), (1, .ref 0), (0, .ref a_SC)] [] (Wd P Q P P c) nc ns Z := by
  obtain ⟨x1, hx1⟩ : ∃ z, (xs (i0 + 1)).toInt = z := ⟨_, rfl⟩
  have x1r := c_rng (xs (i0 + 1))
  rw [hx1] at x1r
  obtain ⟨x2, hx2⟩ : ∃ z, (xs (i0 + 2)).toInt = z := ⟨_, rfl⟩
  have x2r := c_rng (xs (i0 + 2))
  rw [hx2] at x2r
  obtain ⟨x3, hx3⟩ : ∃ z, (xs (i0 + 3)).toInt = z := ⟨_, rfl⟩
  have x3r := c_rng (xs (i0 + 3))
  rw [hx3] at x3r
  obtain ⟨x4, hx4⟩ : ∃ z, (xs (i0 + 4)).toInt = z := ⟨_, rfl⟩
  have x4r := c_rng (xs (i0 + 4))
  rw [hx4] at x4r
  obtain ⟨x5, hx5⟩ : ∃ z, (xs (i0 + 5)).toInt = z := ⟨_, rfl⟩
  have x5r := c_rng (xs (i0 + 5))
  rw [hx5] at x5r
  obtain ⟨x6, hx6⟩ : ∃ z, (xs (i0 + 6)).toInt = z := ⟨_, rfl⟩
  have x6r := c_rng (xs (i0 + 6))
  rw [hx6] at x6r
  obtain ⟨x7, hx7⟩ : ∃ z, (xs (i0 + 7)).toInt = z := ⟨_, rfl⟩
  have x7r := c_rng (xs (i0 + 7))
  rw [hx7] at x7r
  have hP := iv_P hI
  have hQ := iv_Q hI
  have hT := rl_t hR
  have hU := rl_u hR
  refine q_aload_n c_296_523 rfl (q_aload_n c_296_524 rfl (q_iload c_296_525 rfl (q_iconst c_296_527 (v_iadd (v := (i0 : Int) + 1) c_296_528 rfl (v_scr (j := i0 + 1) c_296_529 (by omega) (by omega) hL hx1 (q_aload_n c_296_530 rfl (q_iload c_296_531 rfl ?_)))))))
  refine q_iconst c_296_533 (v_iadd (v := (i0 : Int) + 2) c_296_534 rfl (v_scr (j := i0 + 2) c_296_535 (by omega) (by omega) hL hx2 (q_aload_n c_296_536 rfl (q_call c_296_537 rfl rfl rfl (q_aload_n c_269_0 rfl (q_iconst c_269_1 (q_aload_n c_269_2 rfl ?_)))))))
  refine q_iload_n c_269_3 rfl (q_iload_n c_269_4 rfl ?_)
  refine v_cv c_269_5 km_9_30 rfl rfl (Nat.le_of_ble_eq_true rfl) ⟨⟨rfl, rfl⟩, Nat.le_of_ble_eq_true rfl, rfl⟩ (Nat.le_of_ble_eq_true rfl) (Nat.le_of_ble_eq_true rfl) (s_93 (a1 := x1) (a2 := x2) hI (show (-2147483648) ≤ x1 ∧ x1 ≤ 2147483647 from ⟨by omega, by omega⟩) (show (-2147483648) ≤ x2 ∧ x2 ≤ 2147483647 from ⟨by omega, by omega⟩) (fun c_1 hI_2 hF_3 => ?_) (fun c_4 hI_5 hF_6 => ?_) (fun c_7 y_10 hI_8 hF_9 hy_10 => ?_))
  · skip
    refine bk_thr (z := Int32.ofInt 1) rfl ⟨_, _, rfl⟩ rfl (bk_inl (q_istore c_296_540 (Nat.le_of_ble_eq_true rfl) (q_aload_n c_296_542 rfl (q_aload_n c_296_543 rfl (q_iload c_296_544 rfl (q_iconst c_296_546 (v_iadd (v := (i0 : Int) + 1) c_296_547 rfl ?_)))))))
    refine v_scr (j := i0 + 1) c_296_548 (by omega) (by omega) hL hx1 (q_aload_n c_296_549 rfl (q_iload c_296_550 rfl (q_iconst c_296_552 (v_iadd (v := (i0 : Int) + 2) c_296_553 rfl (v_scr (j := i0 + 2) c_296_554 (by omega) (by omega) hL hx2 (v_cv c_296_555 km_9_164 rfl rfl (Nat.le_of_ble_eq_true rfl) ⟨⟨rfl, rfl⟩, Nat.le_of_ble_eq_true rfl, rfl⟩ (Nat.le_of_ble_eq_true rfl) (Nat.le_of_ble_eq_true rfl) (s_213 (a1 := x1) (a2 := x2) hI_2 (show (-2147483648) ≤ x1 ∧ x1 ≤ 2147483647 from ⟨by omega, by omega⟩) (show (-2147483648) ≤ x2 ∧ x2 ≤ 2147483647 from ⟨by omega, by omega⟩) (fun c_11 y_14 hI_12 hF_13 hy_14 => (bk_inl ?_)))))))))
    refine q_istore c_296_558 (Nat.le_of_ble_eq_true rfl) (q_goto (t := 1844) c_296_560 rfl (Wp_ls [(4, vi (i0 : Int)), (3, .ref 67), (2, .ref 41), (1, .ref 0), (0, .ref a_SC)] (lsub_cons rfl (lsub_cons rfl (lsub_cons rfl (lsub_cons rfl (lsub_cons rfl lsub_nil))))) ?_))
    have h_15 := ir_1_3 hI
    have kn_16 : Hid (c_1 1 3 = c 1 3) := hF_3 1 3 (fun q => q.elim (fun h => absurd h.1 (nn rfl)) (fun h => absurd h.1 (nn rfl)))
    have kn_17 : Hid (c_11 1 3 = c 1 3) := (hF_13 1 3 qn_39cd18c3e).trans (hid kn_16)
    have h_18 : c_11 1 3 = c 1 3 := (hid kn_17)
    have h_19 := ir_41_2 hI
    have kn_20 : Hid (c_1 41 2 = c 41 2) := hF_3 41 2 (fun q => q.elim (fun h => absurd h.1 (nn rfl)) (fun h => absurd h.1 (nn rfl)))
    have kn_21 : Hid (c_11 41 2 = c 41 2) := (hF_13 41 2 qn_53bdb2099).trans (hid kn_20)
    have h_22 : c_11 41 2 = c 41 2 := (hid kn_21)
    exact K P Q c_11 1 (by decide) hI_12 ⟨by omega, ub_fr hU (fun j => (hF_13 2 j qn_2ad67e194).trans (hF_3 2 j (fun q => q.elim (fun h => absurd h.1 (nn rfl)) (fun h => absurd h.1 (nn rfl))))) (fun j => (hF_13 43 j qn_1520ff5e3).trans (hF_3 43 j (fun q => q.elim (fun h => absurd h.1 (nn rfl)) (fun h => absurd h.1 (nn rfl)))))⟩
  · skip
    refine bk_thr (z := Int32.ofInt 2) rfl ⟨_, _, rfl⟩ rfl (bk_inl (q_istore c_296_540 (Nat.le_of_ble_eq_true rfl) (q_aload_n c_296_542 rfl (q_aload_n c_296_543 rfl (q_iload c_296_544 rfl (q_iconst c_296_546 (v_iadd (v := (i0 : Int) + 1) c_296_547 rfl ?_)))))))
    refine v_scr (j := i0 + 1) c_296_548 (by omega) (by omega) hL hx1 (q_aload_n c_296_549 rfl (q_iload c_296_550 rfl (q_iconst c_296_552 (v_iadd (v := (i0 : Int) + 2) c_296_553 rfl (v_scr (j := i0 + 2) c_296_554 (by omega) (by omega) hL hx2 (v_cv c_296_555 km_9_164 rfl rfl (Nat.le_of_ble_eq_true rfl) ⟨⟨rfl, rfl⟩, Nat.le_of_ble_eq_true rfl, rfl⟩ (Nat.le_of_ble_eq_true rfl) (Nat.le_of_ble_eq_true rfl) (s_213 (a1 := x1) (a2 := x2) hI_5 (show (-2147483648) ≤ x1 ∧ x1 ≤ 2147483647 from ⟨by omega, by omega⟩) (show (-2147483648) ≤ x2 ∧ x2 ≤ 2147483647 from ⟨by omega, by omega⟩) (fun c_23 y_26 hI_24 hF_25 hy_26 => (bk_inl ?_)))))))))
    refine q_istore c_296_558 (Nat.le_of_ble_eq_true rfl) (q_goto (t := 1844) c_296_560 rfl (Wp_ls [(4, vi (i0 : Int)), (3, .ref 67), (2, .ref 41), (1, .ref 0), (0, .ref a_SC)] (lsub_cons rfl (lsub_cons rfl (lsub_cons rfl (lsub_cons rfl (lsub_cons rfl lsub_nil))))) ?_))
    have h_27 := ir_1_3 hI
    have kn_28 : Hid (c_4 1 3 = c 1 3) := hF_6 1 3 (fun q => q.elim (fun h => absurd h.1 (nn rfl)) (fun h => absurd h.1 (nn rfl)))
    have kn_29 : Hid (c_23 1 3 = c 1 3) := (hF_25 1 3 qn_39cd18c3e).trans (hid kn_28)
    have h_30 : c_23 1 3 = c 1 3 := (hid kn_29)
    have h_31 := ir_41_2 hI
    have kn_32 : Hid (c_4 41 2 = c 41 2) := hF_6 41 2 (fun q => q.elim (fun h => absurd h.1 (nn rfl)) (fun h => absurd h.1 (nn rfl)))
    have kn_33 : Hid (c_23 41 2 = c 41 2) := (hF_25 41 2 qn_53bdb2099).trans (hid kn_32)
    have h_34 : c_23 41 2 = c 41 2 := (hid kn_33)
    exact K P Q c_23 1 (by decide) hI_24 ⟨by omega, ub_fr hU (fun j => (hF_25 2 j qn_2ad67e194).trans (hF_6 2 j (fun q => q.elim (fun h => absurd h.1 (nn rfl)) (fun h => absurd h.1 (nn rfl))))) (fun j => (hF_25 43 j qn_1520ff5e3).trans (hF_6 43 j (fun q => q.elim (fun h => absurd h.1 (nn rfl)) (fun h => absurd h.1 (nn rfl)))))⟩
  refine bk_inl (v_i2l c_269_8 (by omega) (v_ls c_269_9 rfl (by decide) (by decide) (by decide) (q_goto (t := 21) c_269_10 rfl (q_iconst c_269_21 (q_iret c_269_22 rfl (bk_inl (q_istore c_296_540 (Nat.le_of_ble_eq_true rfl) ?_)))))))
  refine q_aload_n c_296_542 rfl (q_aload_n c_296_543 rfl (q_iload c_296_544 rfl (q_iconst c_296_546 (v_iadd (v := (i0 : Int) + 1) c_296_547 rfl (v_scr (j := i0 + 1) c_296_548 (by omega) (by omega) hL hx1 (q_aload_n c_296_549 rfl (q_iload c_296_550 rfl ?_)))))))
  refine q_iconst c_296_552 (v_iadd (v := (i0 : Int) + 2) c_296_553 rfl (v_scr (j := i0 + 2) c_296_554 (by omega) (by omega) hL hx2 ?_))
  have hI_35 := iw_lx (a := 67) (j := 0) (v := y_10) hI_8 (by omega)
  refine v_cv c_296_555 km_9_164 rfl rfl (Nat.le_of_ble_eq_true rfl) ⟨⟨rfl, rfl⟩, Nat.le_of_ble_eq_true rfl, rfl⟩ (Nat.le_of_ble_eq_true rfl) (Nat.le_of_ble_eq_true rfl) (s_213 (a1 := x1) (a2 := x2) hI_35 (show (-2147483648) ≤ x1 ∧ x1 ≤ 2147483647 from ⟨by omega, by omega⟩) (show (-2147483648) ≤ x2 ∧ x2 ≤ 2147483647 from ⟨by omega, by omega⟩) (fun c_36 y_39 hI_37 hF_38 hy_39 => (bk_inl (q_istore c_296_558 (Nat.le_of_ble_eq_true rfl) (q_goto (t := 1844) c_296_560 rfl (Wp_ls [(4, vi (i0 : Int)), (3, .ref 67), (2, .ref 41), (1, .ref 0), (0, .ref a_SC)] (lsub_cons rfl (lsub_cons rfl (lsub_cons rfl (lsub_cons rfl (lsub_cons rfl lsub_nil))))) ?_))))))
  have h_40 := ir_1_3 hI
  have kn_41 : Hid (c_7 1 3 = c 1 3) := hF_9 1 3 (fun q => q.elim (fun h => absurd h.1 (nn rfl)) (fun h => absurd h.1 (nn rfl)))
  have kn_42 : Hid (c_36 1 3 = c 1 3) := (hF_38 1 3 qn_39cd18c3e).trans ((up_c (nn rfl)).trans (hid kn_41))
  have h_43 : c_36 1 3 = c 1 3 := (hid kn_42)
  have h_44 := ir_41_2 hI
  have kn_45 : Hid (c_7 41 2 = c 41 2) := hF_9 41 2 (fun q => q.elim (fun h => absurd h.1 (nn rfl)) (fun h => absurd h.1 (nn rfl)))
  have kn_46 : Hid (c_36 41 2 = c 41 2) := (hF_38 41 2 qn_53bdb2099).trans ((up_c (nn rfl)).trans (hid kn_45))
  have h_47 : c_36 41 2 = c 41 2 := (hid kn_46)
  exact K P Q c_36 0 (by decide) hI_37 ⟨by omega, ub_fr hU (fun j => (hF_38 2 j qn_2ad67e194).trans ((up_c (nn rfl)).trans (hF_9 2 j (fun q => q.elim (fun h => absurd h.1 (nn rfl)) (fun h => absurd h.1 (nn rfl)))))) (fun j => (hF_38 43 j qn_1520ff5e3).trans ((up_c (nn rfl)).trans (hF_9 43 j (fun q => q.elim (fun h => absurd h.1 (nn rfl)) (fun h => absurd h.1 (nn rfl))))))⟩

set_option maxRecDepth 100000 in
set_option maxHeartbeats 4000000 in
theorem o_10 {xs : Nat → Int32} {L i0 d nc ns P Q : Nat} {c : ME} {Z : AR → Prop} (hi : i0 + 8 ≤ L) (hL : L ≤ 100000) (hI : Iv 0 (-1) P Q c) (hR : Rq P c) (K : ∀ (P2 Q2 : Nat) (c2 : ME) (e : Nat), e ≤ 1 → Iv 0 (-1) P2 Q2 c2 → (Rq P2 c2) → Wp (a_scr L xs) (d + 90) 296 1844 [(4, vi (i0 : Int)), (3, .ref 67), (2, .ref 41), (1, .ref 0), (0, .ref a_SC)] [] (Wd P2 Q2 P2 P2 c2) (nc + e) (ns + 6 * e) Z) : Wp (a_scr L xs) (d + 90) 296 563 [(4, vi (i0 : Int)), (3, .ref 67), (2, .ref 41), (1, .ref 0), (0, .ref a_SC)] [] (Wd P Q P P c) nc ns Z := by
  obtain ⟨x1, hx1⟩ : ∃ z, (xs (i0 + 1)).toInt = z := ⟨_, rfl⟩
  have x1r := c_rng (xs (i0 + 1))
  rw [hx1] at x1r
  obtain ⟨x2, hx2⟩ : ∃ z, (xs (i0 + 2)).toInt = z := ⟨_, rfl⟩
  have x2r := c_rng (xs (i0 + 2))
  rw [hx2] at x2r
  obtain ⟨x3, hx3⟩ : ∃ z, (xs (i0 + 3)).toInt = z := ⟨_, rfl⟩
  have x3r := c_rng (xs (i0 + 3))
  rw [hx3] at x3r
  obtain ⟨x4, hx4⟩ : ∃ z, (xs (i0 + 4)).toInt = z := ⟨_, rfl⟩
  have x4r := c_rng (xs (i0 + 4))
  rw [hx4] at x4r
  obtain ⟨x5, hx5⟩ : ∃ z, (xs (i0 + 5)).toInt = z := ⟨_, rfl⟩
  have x5r := c_rng (xs (i0 + 5))
  rw [hx5] at x5r
  obtain ⟨x6, hx6⟩ : ∃ z, (xs (i0 + 6)).toInt = z := ⟨_, rfl⟩
  have x6r := c_rng (xs (i0 + 6))
  rw [hx6] at x6r
  obtain ⟨x7, hx7⟩ : ∃ z, (xs (i0 + 7)).toInt = z := ⟨_, rfl⟩
  have x7r := c_rng (xs (i0 + 7))
  rw [hx7] at x7r
  have hP := iv_P hI
  have hQ := iv_Q hI
  have hT := rl_t hR
  have hU := rl_u hR
  refine q_aload_n c_296_563 rfl (q_aload_n c_296_564 rfl (q_iload c_296_565 rfl (q_iconst c_296_567 (v_iadd (v := (i0 : Int) + 1) c_296_568 rfl (v_scr (j := i0 + 1) c_296_569 (by omega) (by omega) hL hx1 (q_aload_n c_296_570 rfl (q_iload c_296_571 rfl ?_)))))))
  refine q_iconst c_296_573 (v_iadd (v := (i0 : Int) + 2) c_296_574 rfl (v_scr (j := i0 + 2) c_296_575 (by omega) (by omega) hL hx2 (q_aload_n c_296_576 rfl (q_call c_296_577 rfl rfl rfl (q_aload_n c_270_0 rfl (q_iconst c_270_1 (q_aload_n c_270_2 rfl ?_)))))))
  refine q_iload_n c_270_3 rfl (q_iload_n c_270_4 rfl ?_)
  refine v_cv c_270_5 km_9_36 rfl rfl (Nat.le_of_ble_eq_true rfl) ⟨⟨rfl, rfl⟩, Nat.le_of_ble_eq_true rfl, rfl⟩ (Nat.le_of_ble_eq_true rfl) (Nat.le_of_ble_eq_true rfl) (s_95 (a1 := x1) (a2 := x2) hI (show (-2147483648) ≤ x1 ∧ x1 ≤ 2147483647 from ⟨by omega, by omega⟩) (show (-2147483648) ≤ x2 ∧ x2 ≤ 2147483647 from ⟨by omega, by omega⟩) (fun c_1 hI_2 hF_3 => ?_) (fun c_4 hI_5 hF_6 => ?_) (fun c_7 y_10 hI_8 hF_9 hy_10 => ?_))
  · skip
    refine bk_thr (z := Int32.ofInt 1) rfl ⟨_, _, rfl⟩ rfl (bk_inl (q_istore c_296_580 (Nat.le_of_ble_eq_true rfl) (q_aload_n c_296_582 rfl (q_aload_n c_296_583 rfl (q_iload c_296_584 rfl (q_iconst c_296_586 (v_iadd (v := (i0 : Int) + 1) c_296_587 rfl ?_)))))))
    refine v_scr (j := i0 + 1) c_296_588 (by omega) (by omega) hL hx1 (q_aload_n c_296_589 rfl (q_iload c_296_590 rfl (q_iconst c_296_592 (v_iadd (v := (i0 : Int) + 2) c_296_593 rfl (v_scr (j := i0 + 2) c_296_594 (by omega) (by omega) hL hx2 (v_cv c_296_595 km_9_167 rfl rfl (Nat.le_of_ble_eq_true rfl) ⟨⟨rfl, rfl⟩, Nat.le_of_ble_eq_true rfl, rfl⟩ (Nat.le_of_ble_eq_true rfl) (Nat.le_of_ble_eq_true rfl) (s_214 (a1 := x1) (a2 := x2) hI_2 (show (-2147483648) ≤ x1 ∧ x1 ≤ 2147483647 from ⟨by omega, by omega⟩) (show (-2147483648) ≤ x2 ∧ x2 ≤ 2147483647 from ⟨by omega, by omega⟩) (fun c_11 y_14 hI_12 hF_13 hy_14 => (bk_inl ?_)))))))))
    refine q_istore c_296_598 (Nat.le_of_ble_eq_true rfl) (q_goto (t := 1844) c_296_600 rfl (Wp_ls [(4, vi (i0 : Int)), (3, .ref 67), (2, .ref 41), (1, .ref 0), (0, .ref a_SC)] (lsub_cons rfl (lsub_cons rfl (lsub_cons rfl (lsub_cons rfl (lsub_cons rfl lsub_nil))))) ?_))
    have h_15 := ir_1_3 hI
    have kn_16 : Hid (c_1 1 3 = c 1 3) := hF_3 1 3 (fun q => q.elim (fun h => absurd h.1 (nn rfl)) (fun h => absurd h.1 (nn rfl)))
    have kn_17 : Hid (c_11 1 3 = c 1 3) := (hF_13 1 3 (fun q => q.elim (fun h => absurd h.1 (nn rfl)) (fun h => absurd h (nn rfl)))).trans (hid kn_16)
    have h_18 : c_11 1 3 = c 1 3 := (hid kn_17)
    have h_19 := ir_41_2 hI
    have kn_20 : Hid (c_1 41 2 = c 41 2) := hF_3 41 2 (fun q => q.elim (fun h => absurd h.1 (nn rfl)) (fun h => absurd h.1 (nn rfl)))
    have kn_21 : Hid (c_11 41 2 = c 41 2) := (hF_13 41 2 (fun q => q.elim (fun h => absurd h.2 (ni rfl)) (fun h => absurd h (nn rfl)))).trans (hid kn_20)
    have h_22 : c_11 41 2 = c 41 2 := (hid kn_21)
    exact K P Q c_11 1 (by decide) hI_12 ⟨by omega, ub_fr hU (fun j => (hF_13 2 j (fun q => q.elim (fun h => absurd h.1 (nn rfl)) (fun h => absurd h (nn rfl)))).trans (hF_3 2 j (fun q => q.elim (fun h => absurd h.1 (nn rfl)) (fun h => absurd h.1 (nn rfl))))) (fun j => (hF_13 43 j (fun q => q.elim (fun h => absurd h.1 (nn rfl)) (fun h => absurd h (nn rfl)))).trans (hF_3 43 j (fun q => q.elim (fun h => absurd h.1 (nn rfl)) (fun h => absurd h.1 (nn rfl)))))⟩
  · skip
    refine bk_thr (z := Int32.ofInt 2) rfl ⟨_, _, rfl⟩ rfl (bk_inl (q_istore c_296_580 (Nat.le_of_ble_eq_true rfl) (q_aload_n c_296_582 rfl (q_aload_n c_296_583 rfl (q_iload c_296_584 rfl (q_iconst c_296_586 (v_iadd (v := (i0 : Int) + 1) c_296_587 rfl ?_)))))))
    refine v_scr (j := i0 + 1) c_296_588 (by omega) (by omega) hL hx1 (q_aload_n c_296_589 rfl (q_iload c_296_590 rfl (q_iconst c_296_592 (v_iadd (v := (i0 : Int) + 2) c_296_593 rfl (v_scr (j := i0 + 2) c_296_594 (by omega) (by omega) hL hx2 (v_cv c_296_595 km_9_167 rfl rfl (Nat.le_of_ble_eq_true rfl) ⟨⟨rfl, rfl⟩, Nat.le_of_ble_eq_true rfl, rfl⟩ (Nat.le_of_ble_eq_true rfl) (Nat.le_of_ble_eq_true rfl) (s_214 (a1 := x1) (a2 := x2) hI_5 (show (-2147483648) ≤ x1 ∧ x1 ≤ 2147483647 from ⟨by omega, by omega⟩) (show (-2147483648) ≤ x2 ∧ x2 ≤ 2147483647 from ⟨by omega, by omega⟩) (fun c_23 y_26 hI_24 hF_25 hy_26 => (bk_inl ?_)))))))))
    refine q_istore c_296_598 (Nat.le_of_ble_eq_true rfl) (q_goto (t := 1844) c_296_600 rfl (Wp_ls [(4, vi (i0 : Int)), (3, .ref 67), (2, .ref 41), (1, .ref 0), (0, .ref a_SC)] (lsub_cons rfl (lsub_cons rfl (lsub_cons rfl (lsub_cons rfl (lsub_cons rfl lsub_nil))))) ?_))
    have h_27 := ir_1_3 hI
    have kn_28 : Hid (c_4 1 3 = c 1 3) := hF_6 1 3 (fun q => q.elim (fun h => absurd h.1 (nn rfl)) (fun h => absurd h.1 (nn rfl)))
    have kn_29 : Hid (c_23 1 3 = c 1 3) := (hF_25 1 3 (fun q => q.elim (fun h => absurd h.1 (nn rfl)) (fun h => absurd h (nn rfl)))).trans (hid kn_28)
    have h_30 : c_23 1 3 = c 1 3 := (hid kn_29)
    have h_31 := ir_41_2 hI
    have kn_32 : Hid (c_4 41 2 = c 41 2) := hF_6 41 2 (fun q => q.elim (fun h => absurd h.1 (nn rfl)) (fun h => absurd h.1 (nn rfl)))
    have kn_33 : Hid (c_23 41 2 = c 41 2) := (hF_25 41 2 (fun q => q.elim (fun h => absurd h.2 (ni rfl)) (fun h => absurd h (nn rfl)))).trans (hid kn_32)
    have h_34 : c_23 41 2 = c 41 2 := (hid kn_33)
    exact K P Q c_23 1 (by decide) hI_24 ⟨by omega, ub_fr hU (fun j => (hF_25 2 j (fun q => q.elim (fun h => absurd h.1 (nn rfl)) (fun h => absurd h (nn rfl)))).trans (hF_6 2 j (fun q => q.elim (fun h => absurd h.1 (nn rfl)) (fun h => absurd h.1 (nn rfl))))) (fun j => (hF_25 43 j (fun q => q.elim (fun h => absurd h.1 (nn rfl)) (fun h => absurd h (nn rfl)))).trans (hF_6 43 j (fun q => q.elim (fun h => absurd h.1 (nn rfl)) (fun h => absurd h.1 (nn rfl)))))⟩
  refine bk_inl (v_i2l c_270_8 (by omega) (v_ls c_270_9 rfl (by decide) (by decide) (by decide) (q_goto (t := 21) c_270_10 rfl (q_iconst c_270_21 (q_iret c_270_22 rfl (bk_inl (q_istore c_296_580 (Nat.le_of_ble_eq_true rfl) ?_)))))))
  refine q_aload_n c_296_582 rfl (q_aload_n c_296_583 rfl (q_iload c_296_584 rfl (q_iconst c_296_586 (v_iadd (v := (i0 : Int) + 1) c_296_587 rfl (v_scr (j := i0 + 1) c_296_588 (by omega) (by omega) hL hx1 (q_aload_n c_296_589 rfl (q_iload c_296_590 rfl ?_)))))))
  refine q_iconst c_296_592 (v_iadd (v := (i0 : Int) + 2) c_296_593 rfl (v_scr (j := i0 + 2) c_296_594 (by omega) (by omega) hL hx2 ?_))
  have hI_35 := iw_lx (a := 67) (j := 0) (v := y_10) hI_8 (by omega)
  refine v_cv c_296_595 km_9_167 rfl rfl (Nat.le_of_ble_eq_true rfl) ⟨⟨rfl, rfl⟩, Nat.le_of_ble_eq_true rfl, rfl⟩ (Nat.le_of_ble_eq_true rfl) (Nat.le_of_ble_eq_true rfl) (s_214 (a1 := x1) (a2 := x2) hI_35 (show (-2147483648) ≤ x1 ∧ x1 ≤ 2147483647 from ⟨by omega, by omega⟩) (show (-2147483648) ≤ x2 ∧ x2 ≤ 2147483647 from ⟨by omega, by omega⟩) (fun c_36 y_39 hI_37 hF_38 hy_39 => (bk_inl (q_istore c_296_598 (Nat.le_of_ble_eq_true rfl) (q_goto (t := 1844) c_296_600 rfl (Wp_ls [(4, vi (i0 : Int)), (3, .ref 67), (2, .ref 41), (1, .ref 0), (0, .ref a_SC)] (lsub_cons rfl (lsub_cons rfl (lsub_cons rfl (lsub_cons rfl (lsub_cons rfl lsub_nil))))) ?_))))))
  have h_40 := ir_1_3 hI
  have kn_41 : Hid (c_7 1 3 = c 1 3) := hF_9 1 3 (fun q => q.elim (fun h => absurd h.1 (nn rfl)) (fun h => absurd h.1 (nn rfl)))
  have kn_42 : Hid (c_36 1 3 = c 1 3) := (hF_38 1 3 (fun q => q.elim (fun h => absurd h.1 (nn rfl)) (fun h => absurd h (nn rfl)))).trans ((up_c (nn rfl)).trans (hid kn_41))
  have h_43 : c_36 1 3 = c 1 3 := (hid kn_42)
  have h_44 := ir_41_2 hI
  have kn_45 : Hid (c_7 41 2 = c 41 2) := hF_9 41 2 (fun q => q.elim (fun h => absurd h.1 (nn rfl)) (fun h => absurd h.1 (nn rfl)))
  have kn_46 : Hid (c_36 41 2 = c 41 2) := (hF_38 41 2 (fun q => q.elim (fun h => absurd h.2 (ni rfl)) (fun h => absurd h (nn rfl)))).trans ((up_c (nn rfl)).trans (hid kn_45))
  have h_47 : c_36 41 2 = c 41 2 := (hid kn_46)
  exact K P Q c_36 0 (by decide) hI_37 ⟨by omega, ub_fr hU (fun j => (hF_38 2 j (fun q => q.elim (fun h => absurd h.1 (nn rfl)) (fun h => absurd h (nn rfl)))).trans ((up_c (nn rfl)).trans (hF_9 2 j (fun q => q.elim (fun h => absurd h.1 (nn rfl)) (fun h => absurd h.1 (nn rfl)))))) (fun j => (hF_38 43 j (fun q => q.elim (fun h => absurd h.1 (nn rfl)) (fun h => absurd h (nn rfl)))).trans ((up_c (nn rfl)).trans (hF_9 43 j (fun q => q.elim (fun h => absurd h.1 (nn rfl)) (fun h => absurd h.1 (nn rfl))))))⟩

set_option maxRecDepth 100000 in
set_option maxHeartbeats 4000000 in
theorem o_11 {xs : Nat → Int32} {L i0 d nc ns P Q : Nat} {c : ME} {Z : AR → Prop} (hi : i0 + 8 ≤ L) (hL : L ≤ 100000) (hI : Iv 0 (-1) P Q c) (hR : Rq P c) (K : ∀ (P2 Q2 : Nat) (c2 : ME) (e : Nat), e ≤ 1 → Iv 0 (-1) P2 Q2 c2 → (Rq P2 c2) → Wp (a_scr L xs) (d + 90) 296 1844 [(4, vi (i0 : Int)), (3, .ref 67), (2, .ref 41), (1, .ref 0), (0, .ref a_SC)] [] (Wd P2 Q2 P2 P2 c2) (nc + e) (ns + 6 * e) Z) : Wp (a_scr L xs) (d + 90) 296 603 [(4, vi (i0 : Int)), (3, .ref 67), (2, .ref 41), (1, .ref 0), (0, .ref a_SC)] [] (Wd P Q P P c) nc ns Z := by
  obtain ⟨x1, hx1⟩ : ∃ z, (xs (i0 + 1)).toInt = z := ⟨_, rfl⟩
  have x1r := c_rng (xs (i0 + 1))
  rw [hx1] at x1r
  obtain ⟨x2, hx2⟩ : ∃ z, (xs (i0 + 2)).toInt = z := ⟨_, rfl⟩
  have x2r := c_rng (xs (i0 + 2))
  rw [hx2] at x2r
  obtain ⟨x3, hx3⟩ : ∃ z, (xs (i0 + 3)).toInt = z := ⟨_, rfl⟩
  have x3r := c_rng (xs (i0 + 3))
  rw [hx3] at x3r
  obtain ⟨x4, hx4⟩ : ∃ z, (xs (i0 + 4)).toInt = z := ⟨_, rfl⟩
  have x4r := c_rng (xs (i0 + 4))
  rw [hx4] at x4r
  obtain ⟨x5, hx5⟩ : ∃ z, (xs (i0 + 5)).toInt = z := ⟨_, rfl⟩
  have x5r := c_rng (xs (i0 + 5))
  rw [hx5] at x5r
  obtain ⟨x6, hx6⟩ : ∃ z, (xs (i0 + 6)).toInt = z := ⟨_, rfl⟩
  have x6r := c_rng (xs (i0 + 6))
  rw [hx6] at x6r
  obtain ⟨x7, hx7⟩ : ∃ z, (xs (i0 + 7)).toInt = z := ⟨_, rfl⟩
  have x7r := c_rng (xs (i0 + 7))
  rw [hx7] at x7r
  have hP := iv_P hI
  have hQ := iv_Q hI
  have hT := rl_t hR
  have hU := rl_u hR
  refine q_aload_n c_296_603 rfl (q_aload_n c_296_604 rfl (q_iload c_296_605 rfl (q_iconst c_296_607 (v_iadd (v := (i0 : Int) + 1) c_296_608 rfl (v_scr (j := i0 + 1) c_296_609 (by omega) (by omega) hL hx1 (q_aload_n c_296_610 rfl (q_iload c_296_611 rfl ?_)))))))
  refine q_iconst c_296_613 (v_iadd (v := (i0 : Int) + 2) c_296_614 rfl (v_scr (j := i0 + 2) c_296_615 (by omega) (by omega) hL hx2 (q_aload_n c_296_616 rfl (q_call c_296_617 rfl rfl rfl (q_aload_n c_271_0 rfl (q_iconst c_271_1 (q_aload_n c_271_2 rfl ?_)))))))
  refine q_iload_n c_271_3 rfl (q_iload_n c_271_4 rfl ?_)
  refine v_cv c_271_5 km_9_39 rfl rfl (Nat.le_of_ble_eq_true rfl) ⟨⟨rfl, rfl⟩, Nat.le_of_ble_eq_true rfl, rfl⟩ (Nat.le_of_ble_eq_true rfl) (Nat.le_of_ble_eq_true rfl) (s_97 (a1 := x1) (a2 := x2) hI (show (-2147483648) ≤ x1 ∧ x1 ≤ 2147483647 from ⟨by omega, by omega⟩) (show (-2147483648) ≤ x2 ∧ x2 ≤ 2147483647 from ⟨by omega, by omega⟩) (fun c_1 hI_2 hF_3 => ?_) (fun c_4 hI_5 hF_6 => ?_) (fun c_7 y_10 hI_8 hF_9 hy_10 => ?_))
  · skip
    refine bk_thr (z := Int32.ofInt 1) rfl ⟨_, _, rfl⟩ rfl (bk_inl (q_istore c_296_620 (Nat.le_of_ble_eq_true rfl) (q_aload_n c_296_622 rfl (q_aload_n c_296_623 rfl (q_iload c_296_624 rfl (q_iconst c_296_626 (v_iadd (v := (i0 : Int) + 1) c_296_627 rfl ?_)))))))
    refine v_scr (j := i0 + 1) c_296_628 (by omega) (by omega) hL hx1 (q_aload_n c_296_629 rfl (q_iload c_296_630 rfl (q_iconst c_296_632 (v_iadd (v := (i0 : Int) + 2) c_296_633 rfl (v_scr (j := i0 + 2) c_296_634 (by omega) (by omega) hL hx2 (v_cv c_296_635 km_9_170 rfl rfl (Nat.le_of_ble_eq_true rfl) ⟨⟨rfl, rfl⟩, Nat.le_of_ble_eq_true rfl, rfl⟩ (Nat.le_of_ble_eq_true rfl) (Nat.le_of_ble_eq_true rfl) (s_215 (a1 := x1) (a2 := x2) hI_2 (show (-2147483648) ≤ x1 ∧ x1 ≤ 2147483647 from ⟨by omega, by omega⟩) (show (-2147483648) ≤ x2 ∧ x2 ≤ 2147483647 from ⟨by omega, by omega⟩) (fun c_11 y_14 hI_12 hF_13 hy_14 => (bk_inl ?_)))))))))
    refine q_istore c_296_638 (Nat.le_of_ble_eq_true rfl) (q_goto (t := 1844) c_296_640 rfl (Wp_ls [(4, vi (i0 : Int)), (3, .ref 67), (2, .ref 41), (1, .ref 0), (0, .ref a_SC)] (lsub_cons rfl (lsub_cons rfl (lsub_cons rfl (lsub_cons rfl (lsub_cons rfl lsub_nil))))) ?_))
    have h_15 := ir_1_3 hI
    have kn_16 : Hid (c_1 1 3 = c 1 3) := hF_3 1 3 (fun q => q.elim (fun h => absurd h.1 (nn rfl)) (fun h => absurd h.1 (nn rfl)))
    have kn_17 : Hid (c_11 1 3 = c 1 3) := (hF_13 1 3 (fun q => q.elim (fun h => absurd h.1 (nn rfl)) (fun h => absurd h (nn rfl)))).trans (hid kn_16)
    have h_18 : c_11 1 3 = c 1 3 := (hid kn_17)
    have h_19 := ir_41_2 hI
    have kn_20 : Hid (c_1 41 2 = c 41 2) := hF_3 41 2 (fun q => q.elim (fun h => absurd h.1 (nn rfl)) (fun h => absurd h.1 (nn rfl)))
    have kn_21 : Hid (c_11 41 2 = c 41 2) := (hF_13 41 2 (fun q => q.elim (fun h => absurd h.2 (ni rfl)) (fun h => absurd h (nn rfl)))).trans (hid kn_20)
    have h_22 : c_11 41 2 = c 41 2 := (hid kn_21)
    exact K P Q c_11 1 (by decide) hI_12 ⟨by omega, ub_fr hU (fun j => (hF_13 2 j (fun q => q.elim (fun h => absurd h.1 (nn rfl)) (fun h => absurd h (nn rfl)))).trans (hF_3 2 j (fun q => q.elim (fun h => absurd h.1 (nn rfl)) (fun h => absurd h.1 (nn rfl))))) (fun j => (hF_13 43 j (fun q => q.elim (fun h => absurd h.1 (nn rfl)) (fun h => absurd h (nn rfl)))).trans (hF_3 43 j (fun q => q.elim (fun h => absurd h.1 (nn rfl)) (fun h => absurd h.1 (nn rfl)))))⟩
  · skip
    refine bk_thr (z := Int32.ofInt 2) rfl ⟨_, _, rfl⟩ rfl (bk_inl (q_istore c_296_620 (Nat.le_of_ble_eq_true rfl) (q_aload_n c_296_622 rfl (q_aload_n c_296_623 rfl (q_iload c_296_624 rfl (q_iconst c_296_626 (v_iadd (v := (i0 : Int) + 1) c_296_627 rfl ?_)))))))
    refine v_scr (j := i0 + 1) c_296_628 (by omega) (by omega) hL hx1 (q_aload_n c_296_629 rfl (q_iload c_296_630 rfl (q_iconst c_296_632 (v_iadd (v := (i0 : Int) + 2) c_296_633 rfl (v_scr (j := i0 + 2) c_296_634 (by omega) (by omega) hL hx2 (v_cv c_296_635 km_9_170 rfl rfl (Nat.le_of_ble_eq_true rfl) ⟨⟨rfl, rfl⟩, Nat.le_of_ble_eq_true rfl, rfl⟩ (Nat.le_of_ble_eq_true rfl) (Nat.le_of_ble_eq_true rfl) (s_215 (a1 := x1) (a2 := x2) hI_5 (show (-2147483648) ≤ x1 ∧ x1 ≤ 2147483647 from ⟨by omega, by omega⟩) (show (-2147483648) ≤ x2 ∧ x2 ≤ 2147483647 from ⟨by omega, by omega⟩) (fun c_23 y_26 hI_24 hF_25 hy_26 => (bk_inl ?_)))))))))
    refine q_istore c_296_638 (Nat.le_of_ble_eq_true rfl) (q_goto (t := 1844) c_296_640 rfl (Wp_ls [(4, vi (i0 : Int)), (3, .ref 67), (2, .ref 41), (1, .ref 0), (0, .ref a_SC)] (lsub_cons rfl (lsub_cons rfl (lsub_cons rfl (lsub_cons rfl (lsub_cons rfl lsub_nil))))) ?_))
    have h_27 := ir_1_3 hI
    have kn_28 : Hid (c_4 1 3 = c 1 3) := hF_6 1 3 (fun q => q.elim (fun h => absurd h.1 (nn rfl)) (fun h => absurd h.1 (nn rfl)))
    have kn_29 : Hid (c_23 1 3 = c 1 3) := (hF_25 1 3 (fun q => q.elim (fun h => absurd h.1 (nn rfl)) (fun h => absurd h (nn rfl)))).trans (hid kn_28)
    have h_30 : c_23 1 3 = c 1 3 := (hid kn_29)
    have h_31 := ir_41_2 hI
    have kn_32 : Hid (c_4 41 2 = c 41 2) := hF_6 41 2 (fun q => q.elim (fun h => absurd h.1 (nn rfl)) (fun h => absurd h.1 (nn rfl)))
    have kn_33 : Hid (c_23 41 2 = c 41 2) := (hF_25 41 2 (fun q => q.elim (fun h => absurd h.2 (ni rfl)) (fun h => absurd h (nn rfl)))).trans (hid kn_32)
    have h_34 : c_23 41 2 = c 41 2 := (hid kn_33)
    exact K P Q c_23 1 (by decide) hI_24 ⟨by omega, ub_fr hU (fun j => (hF_25 2 j (fun q => q.elim (fun h => absurd h.1 (nn rfl)) (fun h => absurd h (nn rfl)))).trans (hF_6 2 j (fun q => q.elim (fun h => absurd h.1 (nn rfl)) (fun h => absurd h.1 (nn rfl))))) (fun j => (hF_25 43 j (fun q => q.elim (fun h => absurd h.1 (nn rfl)) (fun h => absurd h (nn rfl)))).trans (hF_6 43 j (fun q => q.elim (fun h => absurd h.1 (nn rfl)) (fun h => absurd h.1 (nn rfl)))))⟩
  refine bk_inl (v_i2l c_271_8 (by omega) (v_ls c_271_9 rfl (by decide) (by decide) (by decide) (q_goto (t := 21) c_271_10 rfl (q_iconst c_271_21 (q_iret c_271_22 rfl (bk_inl (q_istore c_296_620 (Nat.le_of_ble_eq_true rfl) ?_)))))))
  refine q_aload_n c_296_622 rfl (q_aload_n c_296_623 rfl (q_iload c_296_624 rfl (q_iconst c_296_626 (v_iadd (v := (i0 : Int) + 1) c_296_627 rfl (v_scr (j := i0 + 1) c_296_628 (by omega) (by omega) hL hx1 (q_aload_n c_296_629 rfl (q_iload c_296_630 rfl ?_)))))))
  refine q_iconst c_296_632 (v_iadd (v := (i0 : Int) + 2) c_296_633 rfl (v_scr (j := i0 + 2) c_296_634 (by omega) (by omega) hL hx2 ?_))
  have hI_35 := iw_lx (a := 67) (j := 0) (v := y_10) hI_8 (by omega)
  refine v_cv c_296_635 km_9_170 rfl rfl (Nat.le_of_ble_eq_true rfl) ⟨⟨rfl, rfl⟩, Nat.le_of_ble_eq_true rfl, rfl⟩ (Nat.le_of_ble_eq_true rfl) (Nat.le_of_ble_eq_true rfl) (s_215 (a1 := x1) (a2 := x2) hI_35 (show (-2147483648) ≤ x1 ∧ x1 ≤ 2147483647 from ⟨by omega, by omega⟩) (show (-2147483648) ≤ x2 ∧ x2 ≤ 2147483647 from ⟨by omega, by omega⟩) (fun c_36 y_39 hI_37 hF_38 hy_39 => (bk_inl (q_istore c_296_638 (Nat.le_of_ble_eq_true rfl) (q_goto (t := 1844) c_296_640 rfl (Wp_ls [(4, vi (i0 : Int)), (3, .ref 67), (2, .ref 41), (1, .ref 0), (0, .ref a_SC)] (lsub_cons rfl (lsub_cons rfl (lsub_cons rfl (lsub_cons rfl (lsub_cons rfl lsub_nil))))) ?_))))))
  have h_40 := ir_1_3 hI
  have kn_41 : Hid (c_7 1 3 = c 1 3) := hF_9 1 3 (fun q => q.elim (fun h => absurd h.1 (nn rfl)) (fun h => absurd h.1 (nn rfl)))
  have kn_42 : Hid (c_36 1 3 = c 1 3) := (hF_38 1 3 (fun q => q.elim (fun h => absurd h.1 (nn rfl)) (fun h => absurd h (nn rfl)))).trans ((up_c (nn rfl)).trans (hid kn_41))
  have h_43 : c_36 1 3 = c 1 3 := (hid kn_42)
  have h_44 := ir_41_2 hI
  have kn_45 : Hid (c_7 41 2 = c 41 2) := hF_9 41 2 (fun q => q.elim (fun h => absurd h.1 (nn rfl)) (fun h => absurd h.1 (nn rfl)))
  have kn_46 : Hid (c_36 41 2 = c 41 2) := (hF_38 41 2 (fun q => q.elim (fun h => absurd h.2 (ni rfl)) (fun h => absurd h (nn rfl)))).trans ((up_c (nn rfl)).trans (hid kn_45))
  have h_47 : c_36 41 2 = c 41 2 := (hid kn_46)
  exact K P Q c_36 0 (by decide) hI_37 ⟨by omega, ub_fr hU (fun j => (hF_38 2 j (fun q => q.elim (fun h => absurd h.1 (nn rfl)) (fun h => absurd h (nn rfl)))).trans ((up_c (nn rfl)).trans (hF_9 2 j (fun q => q.elim (fun h => absurd h.1 (nn rfl)) (fun h => absurd h.1 (nn rfl)))))) (fun j => (hF_38 43 j (fun q => q.elim (fun h => absurd h.1 (nn rfl)) (fun h => absurd h (nn rfl)))).trans ((up_c (nn rfl)).trans (hF_9 43 j (fun q => q.elim (fun h => absurd h.1 (nn rfl)) (fun h => absurd h.1 (nn rfl))))))⟩

set_option maxRecDepth 100000 in
set_option maxHeartbeats 4000000 in
theorem o_12 {xs : Nat → Int32} {L i0 d nc ns P Q : Nat} {c : ME} {Z : AR → Prop} (hi : i0 + 8 ≤ L) (hL : L ≤ 100000) (hI : Iv 0 (-1) P Q c) (hR : Rq P c) (K : ∀ (P2 Q2 : Nat) (c2 : ME) (e : Nat), e ≤ 1 → Iv 0 (-1) P2 Q2 c2 → (Rq P2 c2) → Wp (a_scr L xs) (d + 90) 296 1844 [(4, vi (i0 : Int)), (3, .ref 67), (2, .ref 41), (1, .ref 0), (0, .ref a_SC)] [] (Wd P2 Q2 P2 P2 c2) (nc + e) (ns + 6 * e) Z) : Wp (a_scr L xs) (d + 90) 296 643 [(4, vi (i0 : Int)), (3, .ref 67), (2, .ref 41), (1, .ref 0), (0, .ref a_SC)] [] (Wd P Q P P c) nc ns Z := by
  obtain ⟨x1, hx1⟩ : ∃ z, (xs (i0 + 1)).toInt = z := ⟨_, rfl⟩
  have x1r := c_rng (xs (i0 + 1))
  rw [hx1] at x1r
  obtain ⟨x2, hx2⟩ : ∃ z, (xs (i0 + 2)).toInt = z := ⟨_, rfl⟩
  have x2r := c_rng (xs (i0 + 2))
  rw [hx2] at x2r
  obtain ⟨x3, hx3⟩ : ∃ z, (xs (i0 + 3)).toInt = z := ⟨_, rfl⟩
  have x3r := c_rng (xs (i0 + 3))
  rw [hx3] at x3r
  obtain ⟨x4, hx4⟩ : ∃ z, (xs (i0 + 4)).toInt = z := ⟨_, rfl⟩
  have x4r := c_rng (xs (i0 + 4))
  rw [hx4] at x4r
  obtain ⟨x5, hx5⟩ : ∃ z, (xs (i0 + 5)).toInt = z := ⟨_, rfl⟩
  have x5r := c_rng (xs (i0 + 5))
  rw [hx5] at x5r
  obtain ⟨x6, hx6⟩ : ∃ z, (xs (i0 + 6)).toInt = z := ⟨_, rfl⟩
  have x6r := c_rng (xs (i0 + 6))
  rw [hx6] at x6r
  obtain ⟨x7, hx7⟩ : ∃ z, (xs (i0 + 7)).toInt = z := ⟨_, rfl⟩
  have x7r := c_rng (xs (i0 + 7))
  rw [hx7] at x7r
  have hP := iv_P hI
  have hQ := iv_Q hI
  have hT := rl_t hR
  have hU := rl_u hR
  refine q_aload_n c_296_643 rfl (q_aload_n c_296_644 rfl (q_iload c_296_645 rfl (q_iconst c_296_647 (v_iadd (v := (i0 : Int) + 1) c_296_648 rfl (v_scr (j := i0 + 1) c_296_649 (by omega) (by omega) hL hx1 (q_aload_n c_296_650 rfl (q_call c_296_651 rfl rfl rfl ?_)))))))
  refine q_aload_n c_272_0 rfl (q_iconst c_272_1 (q_aload_n c_272_2 rfl (q_iload_n c_272_3 rfl ?_)))
  refine v_cv c_272_4 km_9_42 rfl rfl (Nat.le_of_ble_eq_true rfl) ⟨⟨rfl, rfl⟩, Nat.le_of_ble_eq_true rfl, rfl⟩ (Nat.le_of_ble_eq_true rfl) (Nat.le_of_ble_eq_true rfl) (s_103 (a1 := x1) hI (show (-2147483648) ≤ x1 ∧ x1 ≤ 2147483647 from ⟨by omega, by omega⟩) (fun c_1 hI_2 hF_3 => ?_) (fun c_4 y_7 hI_5 hF_6 hy_7 => ?_))
  · skip
    refine bk_thr (z := Int32.ofInt 1) rfl ⟨_, _, rfl⟩ rfl (bk_inl (q_istore c_296_654 (Nat.le_of_ble_eq_true rfl) (q_aload_n c_296_656 rfl (q_aload_n c_296_657 rfl (q_iload c_296_658 rfl (q_iconst c_296_660 (v_iadd (v := (i0 : Int) + 1) c_296_661 rfl ?_)))))))
    refine v_scr (j := i0 + 1) c_296_662 (by omega) (by omega) hL hx1 (v_cv c_296_663 km_9_173 rfl rfl (Nat.le_of_ble_eq_true rfl) ⟨⟨rfl, rfl⟩, Nat.le_of_ble_eq_true rfl, rfl⟩ (Nat.le_of_ble_eq_true rfl) (Nat.le_of_ble_eq_true rfl) (s_216 (a1 := x1) hI_2 (show (-2147483648) ≤ x1 ∧ x1 ≤ 2147483647 from ⟨by omega, by omega⟩) (fun c_8 y_11 hI_9 hF_10 hy_11 => (bk_inl (q_istore c_296_666 (Nat.le_of_ble_eq_true rfl) (q_goto (t := 1844) c_296_668 rfl (Wp_ls [(4, vi (i0 : Int)), (3, .ref 67), (2, .ref 41), (1, .ref 0), (0, .ref a_SC)] (lsub_cons rfl (lsub_cons rfl (lsub_cons rfl (lsub_cons rfl (lsub_cons rfl lsub_nil))))) ?_)))))))
    have h_12 := ir_1_3 hI
    have kn_13 : Hid (c_1 1 3 = c 1 3) := hF_3 1 3 (qn_0dbc1df78 hP)
    have kn_14 : Hid (c_8 1 3 = c 1 3) := (hF_10 1 3 qn_44683f5fa).trans (hid kn_13)
    have h_15 : c_8 1 3 = c 1 3 := (hid kn_14)
    have h_16 := ir_41_2 hI
    have kn_17 : Hid (c_1 41 2 = c 41 2) := hF_3 41 2 (qn_384c17487 hP)
    have kn_18 : Hid (c_8 41 2 = c 41 2) := (hF_10 41 2 qn_7a112a690).trans (hid kn_17)
    have h_19 : c_8 41 2 = c 41 2 := (hid kn_18)
    exact K P Q c_8 1 (by decide) hI_9 ⟨by omega, ub_fr hU (fun j => (hF_10 2 j qn_d0e66b3bf).trans (hF_3 2 j (qn_371ad3962 hP))) (fun j => (hF_10 43 j qn_5a77d9750).trans (hF_3 43 j (qn_e10256050 hP)))⟩
  refine bk_inl (v_i2l c_272_7 (by omega) (v_ls c_272_8 rfl (by decide) (by decide) (by decide) (q_goto (t := 15) c_272_9 rfl (q_iconst c_272_15 (q_iret c_272_16 rfl (bk_inl (q_istore c_296_654 (Nat.le_of_ble_eq_true rfl) ?_)))))))
  refine q_aload_n c_296_656 rfl (q_aload_n c_296_657 rfl (q_iload c_296_658 rfl (q_iconst c_296_660 (v_iadd (v := (i0 : Int) + 1) c_296_661 rfl (v_scr (j := i0 + 1) c_296_662 (by omega) (by omega) hL hx1 ?_)))))
  have hI_20 := iw_lx (a := 67) (j := 0) (v := y_7) hI_5 (by omega)
  refine v_cv c_296_663 km_9_173 rfl rfl (Nat.le_of_ble_eq_true rfl) ⟨⟨rfl, rfl⟩, Nat.le_of_ble_eq_true rfl, rfl⟩ (Nat.le_of_ble_eq_true rfl) (Nat.le_of_ble_eq_true rfl) (s_216 (a1 := x1) hI_20 (show (-2147483648) ≤ x1 ∧ x1 ≤ 2147483647 from ⟨by omega, by omega⟩) (fun c_21 y_24 hI_22 hF_23 hy_24 => (bk_inl (q_istore c_296_666 (Nat.le_of_ble_eq_true rfl) (q_goto (t := 1844) c_296_668 rfl (Wp_ls [(4, vi (i0 : Int)), (3, .ref 67), (2, .ref 41), (1, .ref 0), (0, .ref a_SC)] (lsub_cons rfl (lsub_cons rfl (lsub_cons rfl (lsub_cons rfl (lsub_cons rfl lsub_nil))))) ?_))))))
  have h_25 := ir_1_3 hI
  have kn_26 : Hid (c_4 1 3 = c 1 3) := hF_6 1 3 (qn_0dbc1df78 hP)
  have kn_27 : Hid (c_21 1 3 = c 1 3) := (hF_23 1 3 qn_44683f5fa).trans ((up_c (nn rfl)).trans (hid kn_26))
  have h_28 : c_21 1 3 = c 1 3 := (hid kn_27)
  have h_29 := ir_41_2 hI
  have kn_30 : Hid (c_4 41 2 = c 41 2) := hF_6 41 2 (qn_384c17487 hP)
  have kn_31 : Hid (c_21 41 2 = c 41 2) := (hF_23 41 2 qn_7a112a690).trans ((up_c (nn rfl)).trans (hid kn_30))
  have h_32 : c_21 41 2 = c 41 2 := (hid kn_31)
  exact K P Q c_21 0 (by decide) hI_22 ⟨by omega, ub_fr hU (fun j => (hF_23 2 j qn_d0e66b3bf).trans ((up_c (nn rfl)).trans (hF_6 2 j (qn_371ad3962 hP)))) (fun j => (hF_23 43 j qn_5a77d9750).trans ((up_c (nn rfl)).trans (hF_6 43 j (qn_e10256050 hP))))⟩

set_option maxRecDepth 100000 in
set_option maxHeartbeats 4000000 in
theorem o_13 {xs : Nat → Int32} {L i0 d nc ns P Q : Nat} {c : ME} {Z : AR → Prop} (hi : i0 + 8 ≤ L) (hL : L ≤ 100000) (hI : Iv 0 (-1) P Q c) (hR : Rq P c) (K : ∀ (P2 Q2 : Nat) (c2 : ME) (e : Nat), e ≤ 1 → Iv 0 (-1) P2 Q2 c2 → (Rq P2 c2) → Wp (a_scr L xs) (d + 90) 296 1844 [(4, vi (i0 : Int)), (3, .ref 67), (2, .ref 41), (1, .ref 0), (0, .ref a_SC)] [] (Wd P2 Q2 P2 P2 c2) (nc + e) (ns + 6 * e) Z) : Wp (a_scr L xs) (d + 90) 296 671 [(4, vi (i0 : Int)), (3, .ref 67), (2, .ref 41), (1, .ref 0), (0, .ref a_SC)] [] (Wd P Q P P c) nc ns Z := by
  obtain ⟨x1, hx1⟩ : ∃ z, (xs (i0 + 1)).toInt = z := ⟨_, rfl⟩
  have x1r := c_rng (xs (i0 + 1))
  rw [hx1] at x1r
  obtain ⟨x2, hx2⟩ : ∃ z, (xs (i0 + 2)).toInt = z := ⟨_, rfl⟩
  have x2r := c_rng (xs (i0 + 2))
  rw [hx2] at x2r
  obtain ⟨x3, hx3⟩ : ∃ z, (xs (i0 + 3)).toInt = z := ⟨_, rfl⟩
  have x3r := c_rng (xs (i0 + 3))
  rw [hx3] at x3r
  obtain ⟨x4, hx4⟩ : ∃ z, (xs (i0 + 4)).toInt = z := ⟨_, rfl⟩
  have x4r := c_rng (xs (i0 + 4))
  rw [hx4] at x4r
  obtain ⟨x5, hx5⟩ : ∃ z, (xs (i0 + 5)).toInt = z := ⟨_, rfl⟩
  have x5r := c_rng (xs (i0 + 5))
  rw [hx5] at x5r
  obtain ⟨x6, hx6⟩ : ∃ z, (xs (i0 + 6)).toInt = z := ⟨_, rfl⟩
  have x6r := c_rng (xs (i0 + 6))
  rw [hx6] at x6r
  obtain ⟨x7, hx7⟩ : ∃ z, (xs (i0 + 7)).toInt = z := ⟨_, rfl⟩
  have x7r := c_rng (xs (i0 + 7))
  rw [hx7] at x7r
  have hP := iv_P hI
  have hQ := iv_Q hI
  have hT := rl_t hR
  have hU := rl_u hR
  refine q_aload_n c_296_671 rfl (q_aload_n c_296_672 rfl (q_iload c_296_673 rfl (q_iconst c_296_675 (v_iadd (v := (i0 : Int) + 1) c_296_676 rfl (v_scr (j := i0 + 1) c_296_677 (by omega) (by omega) hL hx1 (q_aload_n c_296_678 rfl (q_iload c_296_679 rfl ?_)))))))
  refine q_iconst c_296_681 (v_iadd (v := (i0 : Int) + 2) c_296_682 rfl (v_scr (j := i0 + 2) c_296_683 (by omega) (by omega) hL hx2 (q_aload_n c_296_684 rfl (q_iload c_296_685 rfl (q_iconst c_296_687 (v_iadd (v := (i0 : Int) + 3) c_296_688 rfl (v_scr (j := i0 + 3) c_296_689 (by omega) (by omega) hL hx3 ?_)))))))
  refine q_aload_n c_296_690 rfl (q_iload c_296_691 rfl (q_iconst c_296_693 (v_iadd (v := (i0 : Int) + 4) c_296_694 rfl (v_scr (j := i0 + 4) c_296_695 (by omega) (by omega) hL hx4 (q_aload_n c_296_696 rfl (q_iload c_296_697 rfl (q_iconst c_296_699 ?_)))))))
  refine v_iadd (v := (i0 : Int) + 5) c_296_700 rfl (v_scr (j := i0 + 5) c_296_701 (by omega) (by omega) hL hx5 (q_aload_n c_296_702 rfl (q_iload c_296_703 rfl (v_bip c_296_705 (by decide) (v_iadd (v := (i0 : Int) + 6) c_296_707 rfl (v_scr (j := i0 + 6) c_296_708 (by omega) (by omega) hL hx6 (q_aload_n c_296_709 rfl ?_)))))))
  refine q_iload c_296_710 rfl (v_bip c_296_712 (by decide) (v_iadd (v := (i0 : Int) + 7) c_296_714 rfl (v_scr (j := i0 + 7) c_296_715 (by omega) (by omega) hL hx7 (q_aload_n c_296_716 rfl (q_call c_296_717 rfl rfl rfl (q_aload c_273_0 rfl (q_iconst c_273_2 ?_)))))))
  refine q_aload_n c_273_3 rfl (q_iload_n c_273_4 rfl (q_iload_n c_273_5 rfl (q_iload_n c_273_6 rfl (q_iload c_273_7 rfl (q_iload c_273_9 rfl (q_iload c_273_11 rfl (q_iload c_273_13 rfl ?_)))))))
  refine v_cv c_273_15 km_9_45 rfl rfl (Nat.le_of_ble_eq_true rfl) ⟨⟨rfl, rfl⟩, Nat.le_of_ble_eq_true rfl, rfl⟩ (Nat.le_of_ble_eq_true rfl) (Nat.le_of_ble_eq_true rfl) (s_104 (a1 := x1) (a2 := x2) (a3 := x3) (a4 := x4) (a5 := x5) (a6 := x6) (a7 := x7) hI (show (-2147483648) ≤ x1 ∧ x1 ≤ 2147483647 from ⟨by omega, by omega⟩) (show (-2147483648) ≤ x2 ∧ x2 ≤ 2147483647 from ⟨by omega, by omega⟩) (show (-2147483648) ≤ x3 ∧ x3 ≤ 2147483647 from ⟨by omega, by omega⟩) (show (-2147483648) ≤ x4 ∧ x4 ≤ 2147483647 from ⟨by omega, by omega⟩) (show (-2147483648) ≤ x5 ∧ x5 ≤ 2147483647 from ⟨by omega, by omega⟩) (show (-2147483648) ≤ x6 ∧ x6 ≤ 2147483647 from ⟨by omega, by omega⟩) (show (-2147483648) ≤ x7 ∧ x7 ≤ 2147483647 from ⟨by omega, by omega⟩) (fun c_1 hI_2 hF_3 => ?_) (fun c_4 y_7 hI_5 hF_6 hy_7 => ?_))
  · skip
    refine bk_thr (z := Int32.ofInt 1) rfl ⟨_, _, rfl⟩ rfl (bk_inl (q_istore c_296_720 (Nat.le_of_ble_eq_true rfl) (q_aload_n c_296_722 rfl (q_aload_n c_296_723 rfl (q_iload c_296_724 rfl (q_iconst c_296_726 (v_iadd (v := (i0 : Int) + 1) c_296_727 rfl ?_)))))))
    refine v_scr (j := i0 + 1) c_296_728 (by omega) (by omega) hL hx1 (q_aload_n c_296_729 rfl (q_iload c_296_730 rfl (q_iconst c_296_732 (v_iadd (v := (i0 : Int) + 2) c_296_733 rfl (v_scr (j := i0 + 2) c_296_734 (by omega) (by omega) hL hx2 (q_aload_n c_296_735 rfl (q_iload c_296_736 rfl ?_)))))))
    refine q_iconst c_296_738 (v_iadd (v := (i0 : Int) + 3) c_296_739 rfl (v_scr (j := i0 + 3) c_296_740 (by omega) (by omega) hL hx3 (q_aload_n c_296_741 rfl (q_iload c_296_742 rfl (q_iconst c_296_744 (v_iadd (v := (i0 : Int) + 4) c_296_745 rfl (v_scr (j := i0 + 4) c_296_746 (by omega) (by omega) hL hx4 ?_)))))))
    refine q_aload_n c_296_747 rfl (q_iload c_296_748 rfl (q_iconst c_296_750 (v_iadd (v := (i0 : Int) + 5) c_296_751 rfl (v_scr (j := i0 + 5) c_296_752 (by omega) (by omega) hL hx5 (q_aload_n c_296_753 rfl (q_iload c_296_754 rfl (v_bip c_296_756 (by decide) ?_)))))))
    refine v_iadd (v := (i0 : Int) + 6) c_296_758 rfl (v_scr (j := i0 + 6) c_296_759 (by omega) (by omega) hL hx6 (q_aload_n c_296_760 rfl (q_iload c_296_761 rfl (v_bip c_296_763 (by decide) (v_iadd (v := (i0 : Int) + 7) c_296_765 rfl (v_scr (j := i0 + 7) c_296_766 (by omega) (by omega) hL hx7 (v_cv c_296_767 km_9_177 rfl rfl (Nat.le_of_ble_eq_true rfl) ⟨⟨rfl, rfl⟩, Nat.le_of_ble_eq_true rfl, rfl⟩ (Nat.le_of_ble_eq_true rfl) (Nat.le_of_ble_eq_true rfl) (s_217 (a1 := x1) (a2 := x2) (a3 := x3) (a4 := x4) (a5 := x5) (a6 := x6) (a7 := x7) hI_2 (show (-2147483648) ≤ x1 ∧ x1 ≤ 2147483647 from ⟨by omega, by omega⟩) (show (-2147483648) ≤ x2 ∧ x2 ≤ 2147483647 from ⟨by omega, by omega⟩) (show (-2147483648) ≤ x3 ∧ x3 ≤ 2147483647 from ⟨by omega, by omega⟩) (show (-2147483648) ≤ x4 ∧ x4 ≤ 2147483647 from ⟨by omega, by omega⟩) (show (-2147483648) ≤ x5 ∧ x5 ≤ 2147483647 from ⟨by omega, by omega⟩) (show (-2147483648) ≤ x6 ∧ x6 ≤ 2147483647 from ⟨by omega, by omega⟩) (show (-2147483648) ≤ x7 ∧ x7 ≤ 2147483647 from ⟨by omega, by omega⟩) (fun c_8 y_11 hI_9 hF_10 hy_11 => ?_)))))))))
    refine bk_inl (q_istore c_296_770 (Nat.le_of_ble_eq_true rfl) (q_goto (t := 1844) c_296_772 rfl (Wp_ls [(4, vi (i0 : Int)), (3, .ref 67), (2, .ref 41), (1, .ref 0), (0, .ref a_SC)] (lsub_cons rfl (lsub_cons rfl (lsub_cons rfl (lsub_cons rfl (lsub_cons rfl lsub_nil))))) ?_)))
    have h_12 := ir_1_3 hI
    have kn_13 : Hid (c_1 1 3 = c 1 3) := hF_3 1 3 (qn_573365727 hP)
    have kn_14 : Hid (c_8 1 3 = c 1 3) := (hF_10 1 3 qn_37c5d22e3).trans (hid kn_13)
    have h_15 : c_8 1 3 = c 1 3 := (hid kn_14)
    have h_16 := ir_41_2 hI
    have kn_17 : Hid (c_1 41 2 = c 41 2) := hF_3 41 2 (qn_69be8c781 hP)
    have kn_18 : Hid (c_8 41 2 = c 41 2) := (hF_10 41 2 qn_8a9509c06).trans (hid kn_17)
    have h_19 : c_8 41 2 = c 41 2 := (hid kn_18)
    exact K P Q c_8 1 (by decide) hI_9 ⟨by omega, ub_fr hU (fun j => (hF_10 2 j qn_e0cc749b3).trans (hF_3 2 j (qn_aaebe4308 hP))) (fun j => (hF_10 43 j qn_53d487302).trans (hF_3 43 j (qn_3e58b8819 hP)))⟩
  refine bk_inl (v_i2l c_273_18 (by omega) (v_ls c_273_19 rfl (by decide) (by decide) (by decide) (q_goto (t := 27) c_273_20 rfl (q_iconst c_273_27 (q_iret c_273_28 rfl (bk_inl (q_istore c_296_720 (Nat.le_of_ble_eq_true rfl) ?_)))))))
  refine q_aload_n c_296_722 rfl (q_aload_n c_296_723 rfl (q_iload c_296_724 rfl (q_iconst c_296_726 (v_iadd (v := (i0 : Int) + 1) c_296_727 rfl (v_scr (j := i0 + 1) c_296_728 (by omega) (by omega) hL hx1 (q_aload_n c_296_729 rfl (q_iload c_296_730 rfl ?_)))))))
  refine q_iconst c_296_732 (v_iadd (v := (i0 : Int) + 2) c_296_733 rfl (v_scr (j := i0 + 2) c_296_734 (by omega) (by omega) hL hx2 (q_aload_n c_296_735 rfl (q_iload c_296_736 rfl (q_iconst c_296_738 (v_iadd (v := (i0 : Int) + 3) c_296_739 rfl (v_scr (j := i0 + 3) c_296_740 (by omega) (by omega) hL hx3 ?_)))))))
  refine q_aload_n c_296_741 rfl (q_iload c_296_742 rfl (q_iconst c_296_744 (v_iadd (v := (i0 : Int) + 4) c_296_745 rfl (v_scr (j := i0 + 4) c_296_746 (by omega) (by omega) hL hx4 (q_aload_n c_296_747 rfl (q_iload c_296_748 rfl (q_iconst c_296_750 ?_)))))))
  refine v_iadd (v := (i0 : Int) + 5) c_296_751 rfl (v_scr (j := i0 + 5) c_296_752 (by omega) (by omega) hL hx5 (q_aload_n c_296_753 rfl (q_iload c_296_754 rfl (v_bip c_296_756 (by decide) (v_iadd (v := (i0 : Int) + 6) c_296_758 rfl (v_scr (j := i0 + 6) c_296_759 (by omega) (by omega) hL hx6 (q_aload_n c_296_760 rfl ?_)))))))
  refine q_iload c_296_761 rfl (v_bip c_296_763 (by decide) (v_iadd (v := (i0 : Int) + 7) c_296_765 rfl (v_scr (j := i0 + 7) c_296_766 (by omega) (by omega) hL hx7 ?_)))
  have hI_20 := iw_lx (a := 67) (j := 0) (v := y_7) hI_5 (by omega)
  refine v_cv c_296_767 km_9_177 rfl rfl (Nat.le_of_ble_eq_true rfl) ⟨⟨rfl, rfl⟩, Nat.le_of_ble_eq_true rfl, rfl⟩ (Nat.le_of_ble_eq_true rfl) (Nat.le_of_ble_eq_true rfl) (s_217 (a1 := x1) (a2 := x2) (a3 := x3) (a4 := x4) (a5 := x5) (a6 := x6) (a7 := x7) hI_20 (show (-2147483648) ≤ x1 ∧ x1 ≤ 2147483647 from ⟨by omega, by omega⟩) (show (-2147483648) ≤ x2 ∧ x2 ≤ 2147483647 from ⟨by omega, by omega⟩) (show (-2147483648) ≤ x3 ∧ x3 ≤ 2147483647 from ⟨by omega, by omega⟩) (show (-2147483648) ≤ x4 ∧ x4 ≤ 2147483647 from ⟨by omega, by omega⟩) (show (-2147483648) ≤ x5 ∧ x5 ≤ 2147483647 from ⟨by omega, by omega⟩) (show (-2147483648) ≤ x6 ∧ x6 ≤ 2147483647 from ⟨by omega, by omega⟩) (show (-2147483648) ≤ x7 ∧ x7 ≤ 2147483647 from ⟨by omega, by omega⟩) (fun c_21 y_24 hI_22 hF_23 hy_24 => (bk_inl (q_istore c_296_770 (Nat.le_of_ble_eq_true rfl) (q_goto (t := 1844) c_296_772 rfl (Wp_ls [(4, vi (i0 : Int)), (3, .ref 67), (2, .ref 41), (1, .ref 0), (0, .ref a_SC)] (lsub_cons rfl (lsub_cons rfl (lsub_cons rfl (lsub_cons rfl (lsub_cons rfl lsub_nil))))) ?_))))))
  have h_25 := ir_1_3 hI
  have kn_26 : Hid (c_4 1 3 = c 1 3) := hF_6 1 3 (qn_573365727 hP)
  have kn_27 : Hid (c_21 1 3 = c 1 3) := (hF_23 1 3 qn_37c5d22e3).trans ((up_c (nn rfl)).trans (hid kn_26))
  have h_28 : c_21 1 3 = c 1 3 := (hid kn_27)
  have h_29 := ir_41_2 hI
  have kn_30 : Hid (c_4 41 2 = c 41 2) := hF_6 41 2 (qn_69be8c781 hP)
  have kn_31 : Hid (c_21 41 2 = c 41 2) := (hF_23 41 2 qn_8a9509c06).trans ((up_c (nn rfl)).trans (hid kn_30))
  have h_32 : c_21 41 2 = c 41 2 := (hid kn_31)
  exact K P Q c_21 0 (by decide) hI_22 ⟨by omega, ub_fr hU (fun j => (hF_23 2 j qn_e0cc749b3).trans ((up_c (nn rfl)).trans (hF_6 2 j (qn_aaebe4308 hP)))) (fun j => (hF_23 43 j qn_53d487302).trans ((up_c (nn rfl)).trans (hF_6 43 j (qn_3e58b8819 hP))))⟩

set_option maxRecDepth 100000 in
set_option maxHeartbeats 4000000 in
theorem o_14 {xs : Nat → Int32} {L i0 d nc ns P Q : Nat} {c : ME} {Z : AR → Prop} (hi : i0 + 8 ≤ L) (hL : L ≤ 100000) (hI : Iv 0 (-1) P Q c) (hR : Rq P c) (K : ∀ (P2 Q2 : Nat) (c2 : ME) (e : Nat), e ≤ 1 → Iv 0 (-1) P2 Q2 c2 → (Rq P2 c2) → Wp (a_scr L xs) (d + 90) 296 1844 [(4, vi (i0 : Int)), (3, .ref 67), (2, .ref 41), (1, .ref 0), (0, .ref a_SC)] [] (Wd P2 Q2 P2 P2 c2) (nc + e) (ns + 6 * e) Z) : Wp (a_scr L xs) (d + 90) 296 775 [(4, vi (i0 : Int)), (3, .ref 67), (2, .ref 41), (1, .ref 0), (0, .ref a_SC)] [] (Wd P Q P P c) nc ns Z := by
  obtain ⟨x1, hx1⟩ : ∃ z, (xs (i0 + 1)).toInt = z := ⟨_, rfl⟩
  have x1r := c_rng (xs (i0 + 1))
  rw [hx1] at x1r
  obtain ⟨x2, hx2⟩ : ∃ z, (xs (i0 + 2)).toInt = z := ⟨_, rfl⟩
  have x2r := c_rng (xs (i0 + 2))
  rw [hx2] at x2r
  obtain ⟨x3, hx3⟩ : ∃ z, (xs (i0 + 3)).toInt = z := ⟨_, rfl⟩
  have x3r := c_rng (xs (i0 + 3))
  rw [hx3] at x3r
  obtain ⟨x4, hx4⟩ : ∃ z, (xs (i0 + 4)).toInt = z := ⟨_, rfl⟩
  have x4r := c_rng (xs (i0 + 4))
  rw [hx4] at x4r
  obtain ⟨x5, hx5⟩ : ∃ z, (xs (i0 + 5)).toInt = z := ⟨_, rfl⟩
  have x5r := c_rng (xs (i0 + 5))
  rw [hx5] at x5r
  obtain ⟨x6, hx6⟩ : ∃ z, (xs (i0 + 6)).toInt = z := ⟨_, rfl⟩
  have x6r := c_rng (xs (i0 + 6))
  rw [hx6] at x6r
  obtain ⟨x7, hx7⟩ : ∃ z, (xs (i0 + 7)).toInt = z := ⟨_, rfl⟩
  have x7r := c_rng (xs (i0 + 7))
  rw [hx7] at x7r
  have hP := iv_P hI
  have hQ := iv_Q hI
  have hT := rl_t hR
  have hU := rl_u hR
  refine q_aload_n c_296_775 rfl (q_aload_n c_296_776 rfl (q_iload c_296_777 rfl (q_iconst c_296_779 (v_iadd (v := (i0 : Int) + 1) c_296_780 rfl (v_scr (j := i0 + 1) c_296_781 (by omega) (by omega) hL hx1 (q_aload_n c_296_782 rfl (q_iload c_296_783 rfl ?_)))))))
  refine q_iconst c_296_785 (v_iadd (v := (i0 : Int) + 2) c_296_786 rfl (v_scr (j := i0 + 2) c_296_787 (by omega) (by omega) hL hx2 (q_aload_n c_296_788 rfl (q_iload c_296_789 rfl (q_iconst c_296_791 (v_iadd (v := (i0 : Int) + 3) c_296_792 rfl (v_scr (j := i0 + 3) c_296_793 (by omega) (by omega) hL hx3 ?_)))))))
  refine q_aload_n c_296_794 rfl (q_call c_296_795 rfl rfl rfl (q_aload c_274_0 rfl (q_iconst c_274_2 (q_aload_n c_274_3 rfl (q_iload_n c_274_4 rfl (q_iload_n c_274_5 rfl (q_iload_n c_274_6 rfl ?_)))))))
  refine v_cv c_274_7 km_9_49 rfl rfl (Nat.le_of_ble_eq_true rfl) ⟨⟨rfl, rfl⟩, Nat.le_of_ble_eq_true rfl, rfl⟩ (Nat.le_of_ble_eq_true rfl) (Nat.le_of_ble_eq_true rfl) (s_110 (a1 := x1) (a2 := x2) (a3 := x3) hI (show (-2147483648) ≤ x1 ∧ x1 ≤ 2147483647 from ⟨by omega, by omega⟩) (show (-2147483648) ≤ x2 ∧ x2 ≤ 2147483647 from ⟨by omega, by omega⟩) (show (-2147483648) ≤ x3 ∧ x3 ≤ 2147483647 from ⟨by omega, by omega⟩) (fun c_1 hI_2 hF_3 => ?_) (fun c_4 hI_5 hF_6 => ?_) (fun c_7 y_10 hI_8 hF_9 hy_10 => ?_))
  · skip
    refine bk_thr (z := Int32.ofInt 1) rfl ⟨_, _, rfl⟩ rfl (bk_inl (q_istore c_296_798 (Nat.le_of_ble_eq_true rfl) (q_aload_n c_296_800 rfl (q_aload_n c_296_801 rfl (q_iload c_296_802 rfl (q_iconst c_296_804 (v_iadd (v := (i0 : Int) + 1) c_296_805 rfl ?_)))))))
    refine v_scr (j := i0 + 1) c_296_806 (by omega) (by omega) hL hx1 (q_aload_n c_296_807 rfl (q_iload c_296_808 rfl (q_iconst c_296_810 (v_iadd (v := (i0 : Int) + 2) c_296_811 rfl (v_scr (j := i0 + 2) c_296_812 (by omega) (by omega) hL hx2 (q_aload_n c_296_813 rfl (q_iload c_296_814 rfl ?_)))))))
    refine q_iconst c_296_816 (v_iadd (v := (i0 : Int) + 3) c_296_817 rfl (v_scr (j := i0 + 3) c_296_818 (by omega) (by omega) hL hx3 (v_cv c_296_819 km_9_181 rfl rfl (Nat.le_of_ble_eq_true rfl) ⟨⟨rfl, rfl⟩, Nat.le_of_ble_eq_true rfl, rfl⟩ (Nat.le_of_ble_eq_true rfl) (Nat.le_of_ble_eq_true rfl) (s_218 (a1 := x1) (a2 := x2) (a3 := x3) hI_2 (show (-2147483648) ≤ x1 ∧ x1 ≤ 2147483647 from ⟨by omega, by omega⟩) (show (-2147483648) ≤ x2 ∧ x2 ≤ 2147483647 from ⟨by omega, by omega⟩) (show (-2147483648) ≤ x3 ∧ x3 ≤ 2147483647 from ⟨by omega, by omega⟩) (fun c_11 y_14 hI_12 hF_13 hy_14 => (bk_inl (q_istore c_296_822 (Nat.le_of_ble_eq_true rfl) (q_goto (t := 1844) c_296_824 rfl (Wp_ls [(4, vi (i0 : Int)), (3, .ref 67), (2, .ref 41), (1, .ref 0), (0, .ref a_SC)] (lsub_cons rfl (lsub_cons rfl (lsub_cons rfl (lsub_cons rfl (lsub_cons rfl lsub_nil))))) ?_)))))))))
    have h_15 := ir_1_3 hI
    have kn_16 : Hid (c_1 1 3 = c 1 3) := hF_3 1 3 qn_ab545a015
    have kn_17 : Hid (c_11 1 3 = c 1 3) := (hF_13 1 3 qn_39cd18c3e).trans (hid kn_16)
    have h_18 : c_11 1 3 = c 1 3 := (hid kn_17)
    have h_19 := ir_41_2 hI
    have kn_20 : Hid (c_1 41 2 = c 41 2) := hF_3 41 2 qn_f6e9e9f23
    have kn_21 : Hid (c_11 41 2 = c 41 2) := (hF_13 41 2 qn_53bdb2099).trans (hid kn_20)
    have h_22 : c_11 41 2 = c 41 2 := (hid kn_21)
    exact K P Q c_11 1 (by decide) hI_12 ⟨by omega, ub_fr hU (fun j => (hF_13 2 j qn_2ad67e194).trans (hF_3 2 j qn_326a9cf27)) (fun j => (hF_13 43 j qn_1520ff5e3).trans (hF_3 43 j qn_dee8a76c5))⟩
  · skip
    refine bk_thr (z := Int32.ofInt 2) rfl ⟨_, _, rfl⟩ rfl (bk_inl (q_istore c_296_798 (Nat.le_of_ble_eq_true rfl) (q_aload_n c_296_800 rfl (q_aload_n c_296_801 rfl (q_iload c_296_802 rfl (q_iconst c_296_804 (v_iadd (v := (i0 : Int) + 1) c_296_805 rfl ?_)))))))
    refine v_scr (j := i0 + 1) c_296_806 (by omega) (by omega) hL hx1 (q_aload_n c_296_807 rfl (q_iload c_296_808 rfl (q_iconst c_296_810 (v_iadd (v := (i0 : Int) + 2) c_296_811 rfl (v_scr (j := i0 + 2) c_296_812 (by omega) (by omega) hL hx2 (q_aload_n c_296_813 rfl (q_iload c_296_814 rfl ?_)))))))
    refine q_iconst c_296_816 (v_iadd (v := (i0 : Int) + 3) c_296_817 rfl (v_scr (j := i0 + 3) c_296_818 (by omega) (by omega) hL hx3 (v_cv c_296_819 km_9_181 rfl rfl (Nat.le_of_ble_eq_true rfl) ⟨⟨rfl, rfl⟩, Nat.le_of_ble_eq_true rfl, rfl⟩ (Nat.le_of_ble_eq_true rfl) (Nat.le_of_ble_eq_true rfl) (s_218 (a1 := x1) (a2 := x2) (a3 := x3) hI_5 (show (-2147483648) ≤ x1 ∧ x1 ≤ 2147483647 from ⟨by omega, by omega⟩) (show (-2147483648) ≤ x2 ∧ x2 ≤ 2147483647 from ⟨by omega, by omega⟩) (show (-2147483648) ≤ x3 ∧ x3 ≤ 2147483647 from ⟨by omega, by omega⟩) (fun c_23 y_26 hI_24 hF_25 hy_26 => (bk_inl (q_istore c_296_822 (Nat.le_of_ble_eq_true rfl) (q_goto (t := 1844) c_296_824 rfl (Wp_ls [(4, vi (i0 : Int)), (3, .ref 67), (2, .ref 41), (1, .ref 0), (0, .ref a_SC)] (lsub_cons rfl (lsub_cons rfl (lsub_cons rfl (lsub_cons rfl (lsub_cons rfl lsub_nil))))) ?_)))))))))
    have h_27 := ir_1_3 hI
    have kn_28 : Hid (c_4 1 3 = c 1 3) := hF_6 1 3 qn_ab545a015
    have kn_29 : Hid (c_23 1 3 = c 1 3) := (hF_25 1 3 qn_39cd18c3e).trans (hid kn_28)
    have h_30 : c_23 1 3 = c 1 3 := (hid kn_29)
    have h_31 := ir_41_2 hI
    have kn_32 : Hid (c_4 41 2 = c 41 2) := hF_6 41 2 qn_f6e9e9f23
    have kn_33 : Hid (c_23 41 2 = c 41 2) := (hF_25 41 2 qn_53bdb2099).trans (hid kn_32)
    have h_34 : c_23 41 2 = c 41 2 := (hid kn_33)
    exact K P Q c_23 1 (by decide) hI_24 ⟨by omega, ub_fr hU (fun j => (hF_25 2 j qn_2ad67e194).trans (hF_6 2 j qn_326a9cf27)) (fun j => (hF_25 43 j qn_1520ff5e3).trans (hF_6 43 j qn_dee8a76c5))⟩
  refine bk_inl (v_i2l c_274_10 (by omega) (v_ls c_274_11 rfl (by decide) (by decide) (by decide) (q_goto (t := 23) c_274_12 rfl (q_iconst c_274_23 (q_iret c_274_24 rfl (bk_inl (q_istore c_296_798 (Nat.le_of_ble_eq_true rfl) ?_)))))))
  refine q_aload_n c_296_800 rfl (q_aload_n c_296_801 rfl (q_iload c_296_802 rfl (q_iconst c_296_804 (v_iadd (v := (i0 : Int) + 1) c_296_805 rfl (v_scr (j := i0 + 1) c_296_806 (by omega) (by omega) hL hx1 (q_aload_n c_296_807 rfl (q_iload c_296_808 rfl ?_)))))))
  refine q_iconst c_296_810 (v_iadd (v := (i0 : Int) + 2) c_296_811 rfl (v_scr (j := i0 + 2) c_296_812 (by omega) (by omega) hL hx2 (q_aload_n c_296_813 rfl (q_iload c_296_814 rfl (q_iconst c_296_816 (v_iadd (v := (i0 : Int) + 3) c_296_817 rfl (v_scr (j := i0 + 3) c_296_818 (by omega) (by omega) hL hx3 ?_)))))))
  have hI_35 := iw_lx (a := 67) (j := 0) (v := y_10) hI_8 (by omega)
  refine v_cv c_296_819 km_9_181 rfl rfl (Nat.le_of_ble_eq_true rfl) ⟨⟨rfl, rfl⟩, Nat.le_of_ble_eq_true rfl, rfl⟩ (Nat.le_of_ble_eq_true rfl) (Nat.le_of_ble_eq_true rfl) (s_218 (a1 := x1) (a2 := x2) (a3 := x3) hI_35 (show (-2147483648) ≤ x1 ∧ x1 ≤ 2147483647 from ⟨by omega, by omega⟩) (show (-2147483648) ≤ x2 ∧ x2 ≤ 2147483647 from ⟨by omega, by omega⟩) (show (-2147483648) ≤ x3 ∧ x3 ≤ 2147483647 from ⟨by omega, by omega⟩) (fun c_36 y_39 hI_37 hF_38 hy_39 => (bk_inl (q_istore c_296_822 (Nat.le_of_ble_eq_true rfl) (q_goto (t := 1844) c_296_824 rfl (Wp_ls [(4, vi (i0 : Int)), (3, .ref 67), (2, .ref 41), (1, .ref 0), (0, .ref a_SC)] (lsub_cons rfl (lsub_cons rfl (lsub_cons rfl (lsub_cons rfl (lsub_cons rfl lsub_nil))))) ?_))))))
  have h_40 := ir_1_3 hI
  have kn_41 : Hid (c_7 1 3 = c 1 3) := hF_9 1 3 qn_ab545a015
  have kn_42 : Hid (c_36 1 3 = c 1 3) := (hF_38 1 3 qn_39cd18c3e).trans ((up_c (nn rfl)).trans (hid kn_41))
  have h_43 : c_36 1 3 = c 1 3 := (hid kn_42)
  have h_44 := ir_41_2 hI
  have kn_45 : Hid (c_7 41 2 = c 41 2) := hF_9 41 2 qn_f6e9e9f23
  have kn_46 : Hid (c_36 41 2 = c 41 2) := (hF_38 41 2 qn_53bdb2099).trans ((up_c (nn rfl)).trans (hid kn_45))
  have h_47 : c_36 41 2 = c 41 2 := (hid kn_46)
  exact K P Q c_36 0 (by decide) hI_37 ⟨by omega, ub_fr hU (fun j => (hF_38 2 j qn_2ad67e194).trans ((up_c (nn rfl)).trans (hF_9 2 j qn_326a9cf27))) (fun j => (hF_38 43 j qn_1520ff5e3).trans ((up_c (nn rfl)).trans (hF_9 43 j qn_dee8a76c5)))⟩

set_option maxRecDepth 100000 in
set_option maxHeartbeats 4000000 in
theorem o_15 {xs : Nat → Int32} {L i0 d nc ns P Q : Nat} {c : ME} {Z : AR → Prop} (hi : i0 + 8 ≤ L) (hL : L ≤ 100000) (hI : Iv 0 (-1) P Q c) (hR : Rq P c) (K : ∀ (P2 Q2 : Nat) (c2 : ME) (e : Nat), e ≤ 1 → Iv 0 (-1) P2 Q2 c2 → (Rq P2 c2) → Wp (a_scr L xs) (d + 90) 296 1844 [(4, vi (i0 : Int)), (3, .ref 67), (2, .ref 41), (1, .ref 0), (0, .ref a_SC)] [] (Wd P2 Q2 P2 P2 c2) (nc + e) (ns + 6 * e) Z) : Wp (a_scr L xs) (d + 90) 296 827 [(4, vi (i0 : Int)), (3, .ref 67), (2, .ref 41), (1, .ref 0), (0, .ref a_SC)] [] (Wd P Q P P c) nc ns Z := by
  obtain ⟨x1, hx1⟩ : ∃ z, (xs (i0 + 1)).toInt = z := ⟨_, rfl⟩
  have x1r := c_rng (xs (i0 + 1))
  rw [hx1] at x1r
  obtain ⟨x2, hx2⟩ : ∃ z, (xs (i0 + 2)).toInt = z := ⟨_, rfl⟩
  have x2r := c_rng (xs (i0 + 2))
  rw [hx2] at x2r
  obtain ⟨x3, hx3⟩ : ∃ z, (xs (i0 + 3)).toInt = z := ⟨_, rfl⟩
  have x3r := c_rng (xs (i0 + 3))
  rw [hx3] at x3r
  obtain ⟨x4, hx4⟩ : ∃ z, (xs (i0 + 4)).toInt = z := ⟨_, rfl⟩
  have x4r := c_rng (xs (i0 + 4))
  rw [hx4] at x4r
  obtain ⟨x5, hx5⟩ : ∃ z, (xs (i0 + 5)).toInt = z := ⟨_, rfl⟩
  have x5r := c_rng (xs (i0 + 5))
  rw [hx5] at x5r
  obtain ⟨x6, hx6⟩ : ∃ z, (xs (i0 + 6)).toInt = z := ⟨_, rfl⟩
  have x6r := c_rng (xs (i0 + 6))
  rw [hx6] at x6r
  obtain ⟨x7, hx7⟩ : ∃ z, (xs (i0 + 7)).toInt = z := ⟨_, rfl⟩
  have x7r := c_rng (xs (i0 + 7))
  rw [hx7] at x7r
  have hP := iv_P hI
  have hQ := iv_Q hI
  have hT := rl_t hR
  have hU := rl_u hR
  refine q_aload_n c_296_827 rfl (q_aload_n c_296_828 rfl (q_iload c_296_829 rfl (q_iconst c_296_831 (v_iadd (v := (i0 : Int) + 1) c_296_832 rfl (v_scr (j := i0 + 1) c_296_833 (by omega) (by omega) hL hx1 (q_aload_n c_296_834 rfl (q_iload c_296_835 rfl ?_)))))))
  refine q_iconst c_296_837 (v_iadd (v := (i0 : Int) + 2) c_296_838 rfl (v_scr (j := i0 + 2) c_296_839 (by omega) (by omega) hL hx2 (q_aload_n c_296_840 rfl (q_iload c_296_841 rfl (q_iconst c_296_843 (v_iadd (v := (i0 : Int) + 3) c_296_844 rfl (v_scr (j := i0 + 3) c_296_845 (by omega) (by omega) hL hx3 ?_)))))))
  refine q_aload_n c_296_846 rfl (q_call c_296_847 rfl rfl rfl (q_aload c_275_0 rfl (q_iconst c_275_2 (q_aload_n c_275_3 rfl (q_iload_n c_275_4 rfl (q_iload_n c_275_5 rfl (q_iload_n c_275_6 rfl ?_)))))))
  refine v_cv c_275_7 km_9_53 rfl rfl (Nat.le_of_ble_eq_true rfl) ⟨⟨rfl, rfl⟩, Nat.le_of_ble_eq_true rfl, rfl⟩ (Nat.le_of_ble_eq_true rfl) (Nat.le_of_ble_eq_true rfl) (s_111 (a1 := x1) (a2 := x2) (a3 := x3) hI (show (-2147483648) ≤ x1 ∧ x1 ≤ 2147483647 from ⟨by omega, by omega⟩) (show (-2147483648) ≤ x2 ∧ x2 ≤ 2147483647 from ⟨by omega, by omega⟩) (show (-2147483648) ≤ x3 ∧ x3 ≤ 2147483647 from ⟨by omega, by omega⟩) (fun c_1 hI_2 hF_3 => ?_) (fun c_4 hI_5 hF_6 => ?_) (fun c_7 y_10 hI_8 hF_9 hy_10 => ?_))
  · skip
    refine bk_thr (z := Int32.ofInt 1) rfl ⟨_, _, rfl⟩ rfl (bk_inl (q_istore c_296_850 (Nat.le_of_ble_eq_true rfl) (q_aload_n c_296_852 rfl (q_aload_n c_296_853 rfl (q_iload c_296_854 rfl (q_iconst c_296_856 (v_iadd (v := (i0 : Int) + 1) c_296_857 rfl ?_)))))))
    refine v_scr (j := i0 + 1) c_296_858 (by omega) (by omega) hL hx1 (q_aload_n c_296_859 rfl (q_iload c_296_860 rfl (q_iconst c_296_862 (v_iadd (v := (i0 : Int) + 2) c_296_863 rfl (v_scr (j := i0 + 2) c_296_864 (by omega) (by omega) hL hx2 (q_aload_n c_296_865 rfl (q_iload c_296_866 rfl ?_)))))))
    refine q_iconst c_296_868 (v_iadd (v := (i0 : Int) + 3) c_296_869 rfl (v_scr (j := i0 + 3) c_296_870 (by omega) (by omega) hL hx3 (v_cv c_296_871 km_9_184 rfl rfl (Nat.le_of_ble_eq_true rfl) ⟨⟨rfl, rfl⟩, Nat.le_of_ble_eq_true rfl, rfl⟩ (Nat.le_of_ble_eq_true rfl) (Nat.le_of_ble_eq_true rfl) (s_219 (a1 := x1) (a2 := x2) (a3 := x3) hI_2 (show (-2147483648) ≤ x1 ∧ x1 ≤ 2147483647 from ⟨by omega, by omega⟩) (show (-2147483648) ≤ x2 ∧ x2 ≤ 2147483647 from ⟨by omega, by omega⟩) (show (-2147483648) ≤ x3 ∧ x3 ≤ 2147483647 from ⟨by omega, by omega⟩) (fun c_11 y_14 hI_12 hF_13 hy_14 => (bk_inl (q_istore c_296_874 (Nat.le_of_ble_eq_true rfl) (q_goto (t := 1844) c_296_876 rfl (Wp_ls [(4, vi (i0 : Int)), (3, .ref 67), (2, .ref 41), (1, .ref 0), (0, .ref a_SC)] (lsub_cons rfl (lsub_cons rfl (lsub_cons rfl (lsub_cons rfl (lsub_cons rfl lsub_nil))))) ?_)))))))))
    have h_15 := ir_1_3 hI
    have kn_16 : Hid (c_1 1 3 = c 1 3) := hF_3 1 3 (fun q => q.elim (fun h => absurd h.1 (nn rfl)) (fun h => absurd h.1 (nn rfl)))
    have kn_17 : Hid (c_11 1 3 = c 1 3) := (hF_13 1 3 qn_39cd18c3e).trans (hid kn_16)
    have h_18 : c_11 1 3 = c 1 3 := (hid kn_17)
    have h_19 := ir_41_2 hI
    have kn_20 : Hid (c_1 41 2 = c 41 2) := hF_3 41 2 (fun q => q.elim (fun h => absurd h.1 (nn rfl)) (fun h => absurd h.1 (nn rfl)))
    have kn_21 : Hid (c_11 41 2 = c 41 2) := (hF_13 41 2 qn_53bdb2099).trans (hid kn_20)
    have h_22 : c_11 41 2 = c 41 2 := (hid kn_21)
    exact K P Q c_11 1 (by decide) hI_12 ⟨by omega, ub_fr hU (fun j => (hF_13 2 j qn_2ad67e194).trans (hF_3 2 j (fun q => q.elim (fun h => absurd h.1 (nn rfl)) (fun h => absurd h.1 (nn rfl))))) (fun j => (hF_13 43 j qn_1520ff5e3).trans (hF_3 43 j (fun q => q.elim (fun h => absurd h.1 (nn rfl)) (fun h => absurd h.1 (nn rfl)))))⟩
  · skip
    refine bk_thr (z := Int32.ofInt 2) rfl ⟨_, _, rfl⟩ rfl (bk_inl (q_istore c_296_850 (Nat.le_of_ble_eq_true rfl) (q_aload_n c_296_852 rfl (q_aload_n c_296_853 rfl (q_iload c_296_854 rfl (q_iconst c_296_856 (v_iadd (v := (i0 : Int) + 1) c_296_857 rfl ?_)))))))
    refine v_scr (j := i0 + 1) c_296_858 (by omega) (by omega) hL hx1 (q_aload_n c_296_859 rfl (q_iload c_296_860 rfl (q_iconst c_296_862 (v_iadd (v := (i0 : Int) + 2) c_296_863 rfl (v_scr (j := i0 + 2) c_296_864 (by omega) (by omega) hL hx2 (q_aload_n c_296_865 rfl (q_iload c_296_866 rfl ?_)))))))
    refine q_iconst c_296_868 (v_iadd (v := (i0 : Int) + 3) c_296_869 rfl (v_scr (j := i0 + 3) c_296_870 (by omega) (by omega) hL hx3 (v_cv c_296_871 km_9_184 rfl rfl (Nat.le_of_ble_eq_true rfl) ⟨⟨rfl, rfl⟩, Nat.le_of_ble_eq_true rfl, rfl⟩ (Nat.le_of_ble_eq_true rfl) (Nat.le_of_ble_eq_true rfl) (s_219 (a1 := x1) (a2 := x2) (a3 := x3) hI_5 (show (-2147483648) ≤ x1 ∧ x1 ≤ 2147483647 from ⟨by omega, by omega⟩) (show (-2147483648) ≤ x2 ∧ x2 ≤ 2147483647 from ⟨by omega, by omega⟩) (show (-2147483648) ≤ x3 ∧ x3 ≤ 2147483647 from ⟨by omega, by omega⟩) (fun c_23 y_26 hI_24 hF_25 hy_26 => (bk_inl (q_istore c_296_874 (Nat.le_of_ble_eq_true rfl) (q_goto (t := 1844) c_296_876 rfl (Wp_ls [(4, vi (i0 : Int)), (3, .ref 67), (2, .ref 41), (1, .ref 0), (0, .ref a_SC)] (lsub_cons rfl (lsub_cons rfl (lsub_cons rfl (lsub_cons rfl (lsub_cons rfl lsub_nil))))) ?_)))))))))
    have h_27 := ir_1_3 hI
    have kn_28 : Hid (c_4 1 3 = c 1 3) := hF_6 1 3 (fun q => q.elim (fun h => absurd h.1 (nn rfl)) (fun h => absurd h.1 (nn rfl)))
    have kn_29 : Hid (c_23 1 3 = c 1 3) := (hF_25 1 3 qn_39cd18c3e).trans (hid kn_28)
    have h_30 : c_23 1 3 = c 1 3 := (hid kn_29)
    have h_31 := ir_41_2 hI
    have kn_32 : Hid (c_4 41 2 = c 41 2) := hF_6 41 2 (fun q => q.elim (fun h => absurd h.1 (nn rfl)) (fun h => absurd h.1 (nn rfl)))
    have kn_33 : Hid (c_23 41 2 = c 41 2) := (hF_25 41 2 qn_53bdb2099).trans (hid kn_32)
    have h_34 : c_23 41 2 = c 41 2 := (hid kn_33)
    exact K P Q c_23 1 (by decide) hI_24 ⟨by omega, ub_fr hU (fun j => (hF_25 2 j qn_2ad67e194).trans (hF_6 2 j (fun q => q.elim (fun h => absurd h.1 (nn rfl)) (fun h => absurd h.1 (nn rfl))))) (fun j => (hF_25 43 j qn_1520ff5e3).trans (hF_6 43 j (fun q => q.elim (fun h => absurd h.1 (nn rfl)) (fun h => absurd h.1 (nn rfl)))))⟩
  refine bk_inl (v_i2l c_275_10 (by omega) (v_ls c_275_11 rfl (by decide) (by decide) (by decide) (q_goto (t := 23) c_275_12 rfl (q_iconst c_275_23 (q_iret c_275_24 rfl (bk_inl (q_istore c_296_850 (Nat.le_of_ble_eq_true rfl) ?_)))))))
  refine q_aload_n c_296_852 rfl (q_aload_n c_296_853 rfl (q_iload c_296_854 rfl (q_iconst c_296_856 (v_iadd (v := (i0 : Int) + 1) c_296_857 rfl (v_scr (j := i0 + 1) c_296_858 (by omega) (by omega) hL hx1 (q_aload_n c_296_859 rfl (q_iload c_296_860 rfl ?_)))))))
  refine q_iconst c_296_862 (v_iadd (v := (i0 : Int) + 2) c_296_863 rfl (v_scr (j := i0 + 2) c_296_864 (by omega) (by omega) hL hx2 (q_aload_n c_296_865 rfl (q_iload c_296_866 rfl (q_iconst c_296_868 (v_iadd (v := (i0 : Int) + 3) c_296_869 rfl (v_scr (j := i0 + 3) c_296_870 (by omega) (by omega) hL hx3 ?_)))))))
  have hI_35 := iw_lx (a := 67) (j := 0) (v := y_10) hI_8 (by omega)
  refine v_cv c_296_871 km_9_184 rfl rfl (Nat.le_of_ble_eq_true rfl) ⟨⟨rfl, rfl⟩, Nat.le_of_ble_eq_true rfl, rfl⟩ (Nat.le_of_ble_eq_true rfl) (Nat.le_of_ble_eq_true rfl) (s_219 (a1 := x1) (a2 := x2) (a3 := x3) hI_35 (show (-2147483648) ≤ x1 ∧ x1 ≤ 2147483647 from ⟨by omega, by omega⟩) (show (-2147483648) ≤ x2 ∧ x2 ≤ 2147483647 from ⟨by omega, by omega⟩) (show (-2147483648) ≤ x3 ∧ x3 ≤ 2147483647 from ⟨by omega, by omega⟩) (fun c_36 y_39 hI_37 hF_38 hy_39 => (bk_inl (q_istore c_296_874 (Nat.le_of_ble_eq_true rfl) (q_goto (t := 1844) c_296_876 rfl (Wp_ls [(4, vi (i0 : Int)), (3, .ref 67), (2, .ref 41), (1, .ref 0), (0, .ref a_SC)] (lsub_cons rfl (lsub_cons rfl (lsub_cons rfl (lsub_cons rfl (lsub_cons rfl lsub_nil))))) ?_))))))
  have h_40 := ir_1_3 hI
  have kn_41 : Hid (c_7 1 3 = c 1 3) := hF_9 1 3 (fun q => q.elim (fun h => absurd h.1 (nn rfl)) (fun h => absurd h.1 (nn rfl)))
  have kn_42 : Hid (c_36 1 3 = c 1 3) := (hF_38 1 3 qn_39cd18c3e).trans ((up_c (nn rfl)).trans (hid kn_41))
  have h_43 : c_36 1 3 = c 1 3 := (hid kn_42)
  have h_44 := ir_41_2 hI
  have kn_45 : Hid (c_7 41 2 = c 41 2) := hF_9 41 2 (fun q => q.elim (fun h => absurd h.1 (nn rfl)) (fun h => absurd h.1 (nn rfl)))
  have kn_46 : Hid (c_36 41 2 = c 41 2) := (hF_38 41 2 qn_53bdb2099).trans ((up_c (nn rfl)).trans (hid kn_45))
  have h_47 : c_36 41 2 = c 41 2 := (hid kn_46)
  exact K P Q c_36 0 (by decide) hI_37 ⟨by omega, ub_fr hU (fun j => (hF_38 2 j qn_2ad67e194).trans ((up_c (nn rfl)).trans (hF_9 2 j (fun q => q.elim (fun h => absurd h.1 (nn rfl)) (fun h => absurd h.1 (nn rfl)))))) (fun j => (hF_38 43 j qn_1520ff5e3).trans ((up_c (nn rfl)).trans (hF_9 43 j (fun q => q.elim (fun h => absurd h.1 (nn rfl)) (fun h => absurd h.1 (nn rfl))))))⟩

set_option maxRecDepth 100000 in
set_option maxHeartbeats 4000000 in
theorem o_16 {xs : Nat → Int32} {L i0 d nc ns P Q : Nat} {c : ME} {Z : AR → Prop} (hi : i0 + 8 ≤ L) (hL : L ≤ 100000) (hI : Iv 0 (-1) P Q c) (hR : Rq P c) (K : ∀ (P2 Q2 : Nat) (c2 : ME) (e : Nat), e ≤ 1 → Iv 0 (-1) P2 Q2 c2 → (Rq P2 c2) → Wp (a_scr L xs) (d + 90) 296 1844 [(4, vi (i0 : Int)), (3, .ref 67), (2, .ref 41), (1, .ref 0), (0, .ref a_SC)] [] (Wd P2 Q2 P2 P2 c2) (nc + e) (ns + 6 * e) Z) : Wp (a_scr L xs) (d + 90) 296 879 [(4, vi (i0 : Int)), (3, .ref 67), (2, .ref 41), (1, .ref 0), (0, .ref a_SC)] [] (Wd P Q P P c) nc ns Z := by
  obtain ⟨x1, hx1⟩ : ∃ z, (xs (i0 + 1)).toInt = z := ⟨_, rfl⟩
  have x1r := c_rng (xs (i0 + 1))
  rw [hx1] at x1r
  obtain ⟨x2, hx2⟩ : ∃ z, (xs (i0 + 2)).toInt = z := ⟨_, rfl⟩
  have x2r := c_rng (xs (i0 + 2))
  rw [hx2] at x2r
  obtain ⟨x3, hx3⟩ : ∃ z, (xs (i0 + 3)).toInt = z := ⟨_, rfl⟩
  have x3r := c_rng (xs (i0 + 3))
  rw [hx3] at x3r
  obtain ⟨x4, hx4⟩ : ∃ z, (xs (i0 + 4)).toInt = z := ⟨_, rfl⟩
  have x4r := c_rng (xs (i0 + 4))
  rw [hx4] at x4r
  obtain ⟨x5, hx5⟩ : ∃ z, (xs (i0 + 5)).toInt = z := ⟨_, rfl⟩
  have x5r := c_rng (xs (i0 + 5))
  rw [hx5] at x5r
  obtain ⟨x6, hx6⟩ : ∃ z, (xs (i0 + 6)).toInt = z := ⟨_, rfl⟩
  have x6r := c_rng (xs (i0 + 6))
  rw [hx6] at x6r
  obtain ⟨x7, hx7⟩ : ∃ z, (xs (i0 + 7)).toInt = z := ⟨_, rfl⟩
  have x7r := c_rng (xs (i0 + 7))
  rw [hx7] at x7r
  have hP := iv_P hI
  have hQ := iv_Q hI
  have hT := rl_t hR
  have hU := rl_u hR
  refine q_aload_n c_296_879 rfl (q_aload_n c_296_880 rfl (q_iload c_296_881 rfl (q_iconst c_296_883 (v_iadd (v := (i0 : Int) + 1) c_296_884 rfl (v_scr (j := i0 + 1) c_296_885 (by omega) (by omega) hL hx1 (q_aload_n c_296_886 rfl (q_iload c_296_887 rfl ?_)))))))
  refine q_iconst c_296_889 (v_iadd (v := (i0 : Int) + 2) c_296_890 rfl (v_scr (j := i0 + 2) c_296_891 (by omega) (by omega) hL hx2 (q_aload_n c_296_892 rfl (q_iload c_296_893 rfl (q_iconst c_296_895 (v_iadd (v := (i0 : Int) + 3) c_296_896 rfl (v_scr (j := i0 + 3) c_296_897 (by omega) (by omega) hL hx3 ?_)))))))
  refine q_aload_n c_296_898 rfl (q_call c_296_899 rfl rfl rfl (q_aload c_276_0 rfl (q_iconst c_276_2 (q_aload_n c_276_3 rfl (q_iload_n c_276_4 rfl (q_iload_n c_276_5 rfl (q_iload_n c_276_6 rfl ?_)))))))
  refine v_cv c_276_7 km_9_56 rfl rfl (Nat.le_of_ble_eq_true rfl) ⟨⟨rfl, rfl⟩, Nat.le_of_ble_eq_true rfl, rfl⟩ (Nat.le_of_ble_eq_true rfl) (Nat.le_of_ble_eq_true rfl) (s_112 (a1 := x1) (a2 := x2) (a3 := x3) hI (show (-2147483648) ≤ x1 ∧ x1 ≤ 2147483647 from ⟨by omega, by omega⟩) (show (-2147483648) ≤ x2 ∧ x2 ≤ 2147483647 from ⟨by omega, by omega⟩) (show (-2147483648) ≤ x3 ∧ x3 ≤ 2147483647 from ⟨by omega, by omega⟩) (fun c_1 hI_2 hF_3 => ?_) (fun c_4 hI_5 hF_6 => ?_) (fun c_7 y_10 hI_8 hF_9 hy_10 => ?_))
  · skip
    refine bk_thr (z := Int32.ofInt 1) rfl ⟨_, _, rfl⟩ rfl (bk_inl (q_istore c_296_902 (Nat.le_of_ble_eq_true rfl) (q_aload_n c_296_904 rfl (q_aload_n c_296_905 rfl (q_iload c_296_906 rfl (q_iconst c_296_908 (v_iadd (v := (i0 : Int) + 1) c_296_909 rfl ?_)))))))
    refine v_scr (j := i0 + 1) c_296_910 (by omega) (by omega) hL hx1 (q_aload_n c_296_911 rfl (q_iload c_296_912 rfl (q_iconst c_296_914 (v_iadd (v := (i0 : Int) + 2) c_296_915 rfl (v_scr (j := i0 + 2) c_296_916 (by omega) (by omega) hL hx2 (q_aload_n c_296_917 rfl (q_iload c_296_918 rfl ?_)))))))
    refine q_iconst c_296_920 (v_iadd (v := (i0 : Int) + 3) c_296_921 rfl (v_scr (j := i0 + 3) c_296_922 (by omega) (by omega) hL hx3 (v_cv c_296_923 km_9_187 rfl rfl (Nat.le_of_ble_eq_true rfl) ⟨⟨rfl, rfl⟩, Nat.le_of_ble_eq_true rfl, rfl⟩ (Nat.le_of_ble_eq_true rfl) (Nat.le_of_ble_eq_true rfl) (s_220 (a1 := x1) (a2 := x2) (a3 := x3) hI_2 (show (-2147483648) ≤ x1 ∧ x1 ≤ 2147483647 from ⟨by omega, by omega⟩) (show (-2147483648) ≤ x2 ∧ x2 ≤ 2147483647 from ⟨by omega, by omega⟩) (show (-2147483648) ≤ x3 ∧ x3 ≤ 2147483647 from ⟨by omega, by omega⟩) (fun c_11 y_14 hI_12 hF_13 hy_14 => (bk_inl (q_istore c_296_926 (Nat.le_of_ble_eq_true rfl) (q_goto (t := 1844) c_296_928 rfl (Wp_ls [(4, vi (i0 : Int)), (3, .ref 67), (2, .ref 41), (1, .ref 0), (0, .ref a_SC)] (lsub_cons rfl (lsub_cons rfl (lsub_cons rfl (lsub_cons rfl (lsub_cons rfl lsub_nil))))) ?_)))))))))
    have h_15 := ir_1_3 hI
    have kn_16 : Hid (c_1 1 3 = c 1 3) := hF_3 1 3 qn_ab545a015
    have kn_17 : Hid (c_11 1 3 = c 1 3) := (hF_13 1 3 qn_39cd18c3e).trans (hid kn_16)
    have h_18 : c_11 1 3 = c 1 3 := (hid kn_17)
    have h_19 := ir_41_2 hI
    have kn_20 : Hid (c_1 41 2 = c 41 2) := hF_3 41 2 qn_f6e9e9f23
    have kn_21 : Hid (c_11 41 2 = c 41 2) := (hF_13 41 2 qn_53bdb2099).trans (hid kn_20)
    have h_22 : c_11 41 2 = c 41 2 := (hid kn_21)
    exact K P Q c_11 1 (by decide) hI_12 ⟨by omega, ub_fr hU (fun j => (hF_13 2 j qn_2ad67e194).trans (hF_3 2 j qn_326a9cf27)) (fun j => (hF_13 43 j qn_1520ff5e3).trans (hF_3 43 j qn_dee8a76c5))⟩
  · skip
    refine bk_thr (z := Int32.ofInt 2) rfl ⟨_, _, rfl⟩ rfl (bk_inl (q_istore c_296_902 (Nat.le_of_ble_eq_true rfl) (q_aload_n c_296_904 rfl (q_aload_n c_296_905 rfl (q_iload c_296_906 rfl (q_iconst c_296_908 (v_iadd (v := (i0 : Int) + 1) c_296_909 rfl ?_)))))))
    refine v_scr (j := i0 + 1) c_296_910 (by omega) (by omega) hL hx1 (q_aload_n c_296_911 rfl (q_iload c_296_912 rfl (q_iconst c_296_914 (v_iadd (v := (i0 : Int) + 2) c_296_915 rfl (v_scr (j := i0 + 2) c_296_916 (by omega) (by omega) hL hx2 (q_aload_n c_296_917 rfl (q_iload c_296_918 rfl ?_)))))))
    refine q_iconst c_296_920 (v_iadd (v := (i0 : Int) + 3) c_296_921 rfl (v_scr (j := i0 + 3) c_296_922 (by omega) (by omega) hL hx3 (v_cv c_296_923 km_9_187 rfl rfl (Nat.le_of_ble_eq_true rfl) ⟨⟨rfl, rfl⟩, Nat.le_of_ble_eq_true rfl, rfl⟩ (Nat.le_of_ble_eq_true rfl) (Nat.le_of_ble_eq_true rfl) (s_220 (a1 := x1) (a2 := x2) (a3 := x3) hI_5 (show (-2147483648) ≤ x1 ∧ x1 ≤ 2147483647 from ⟨by omega, by omega⟩) (show (-2147483648) ≤ x2 ∧ x2 ≤ 2147483647 from ⟨by omega, by omega⟩) (show (-2147483648) ≤ x3 ∧ x3 ≤ 2147483647 from ⟨by omega, by omega⟩) (fun c_23 y_26 hI_24 hF_25 hy_26 => (bk_inl (q_istore c_296_926 (Nat.le_of_ble_eq_true rfl) (q_goto (t := 1844) c_296_928 rfl (Wp_ls [(4, vi (i0 : Int)), (3, .ref 67), (2, .ref 41), (1, .ref 0), (0, .ref a_SC)] (lsub_cons rfl (lsub_cons rfl (lsub_cons rfl (lsub_cons rfl (lsub_cons rfl lsub_nil))))) ?_)))))))))
    have h_27 := ir_1_3 hI
    have kn_28 : Hid (c_4 1 3 = c 1 3) := hF_6 1 3 qn_ab545a015
    have kn_29 : Hid (c_23 1 3 = c 1 3) := (hF_25 1 3 qn_39cd18c3e).trans (hid kn_28)
    have h_30 : c_23 1 3 = c 1 3 := (hid kn_29)
    have h_31 := ir_41_2 hI
    have kn_32 : Hid (c_4 41 2 = c 41 2) := hF_6 41 2 qn_f6e9e9f23
    have kn_33 : Hid (c_23 41 2 = c 41 2) := (hF_25 41 2 qn_53bdb2099).trans (hid kn_32)
    have h_34 : c_23 41 2 = c 41 2 := (hid kn_33)
    exact K P Q c_23 1 (by decide) hI_24 ⟨by omega, ub_fr hU (fun j => (hF_25 2 j qn_2ad67e194).trans (hF_6 2 j qn_326a9cf27)) (fun j => (hF_25 43 j qn_1520ff5e3).trans (hF_6 43 j qn_dee8a76c5))⟩
  refine bk_inl (v_i2l c_276_10 (by omega) (v_ls c_276_11 rfl (by decide) (by decide) (by decide) (q_goto (t := 23) c_276_12 rfl (q_iconst c_276_23 (q_iret c_276_24 rfl (bk_inl (q_istore c_296_902 (Nat.le_of_ble_eq_true rfl) ?_)))))))
  refine q_aload_n c_296_904 rfl (q_aload_n c_296_905 rfl (q_iload c_296_906 rfl (q_iconst c_296_908 (v_iadd (v := (i0 : Int) + 1) c_296_909 rfl (v_scr (j := i0 + 1) c_296_910 (by omega) (by omega) hL hx1 (q_aload_n c_296_911 rfl (q_iload c_296_912 rfl ?_)))))))
  refine q_iconst c_296_914 (v_iadd (v := (i0 : Int) + 2) c_296_915 rfl (v_scr (j := i0 + 2) c_296_916 (by omega) (by omega) hL hx2 (q_aload_n c_296_917 rfl (q_iload c_296_918 rfl (q_iconst c_296_920 (v_iadd (v := (i0 : Int) + 3) c_296_921 rfl (v_scr (j := i0 + 3) c_296_922 (by omega) (by omega) hL hx3 ?_)))))))
  have hI_35 := iw_lx (a := 67) (j := 0) (v := y_10) hI_8 (by omega)
  refine v_cv c_296_923 km_9_187 rfl rfl (Nat.le_of_ble_eq_true rfl) ⟨⟨rfl, rfl⟩, Nat.le_of_ble_eq_true rfl, rfl⟩ (Nat.le_of_ble_eq_true rfl) (Nat.le_of_ble_eq_true rfl) (s_220 (a1 := x1) (a2 := x2) (a3 := x3) hI_35 (show (-2147483648) ≤ x1 ∧ x1 ≤ 2147483647 from ⟨by omega, by omega⟩) (show (-2147483648) ≤ x2 ∧ x2 ≤ 2147483647 from ⟨by omega, by omega⟩) (show (-2147483648) ≤ x3 ∧ x3 ≤ 2147483647 from ⟨by omega, by omega⟩) (fun c_36 y_39 hI_37 hF_38 hy_39 => (bk_inl (q_istore c_296_926 (Nat.le_of_ble_eq_true rfl) (q_goto (t := 1844) c_296_928 rfl (Wp_ls [(4, vi (i0 : Int)), (3, .ref 67), (2, .ref 41), (1, .ref 0), (0, .ref a_SC)] (lsub_cons rfl (lsub_cons rfl (lsub_cons rfl (lsub_cons rfl (lsub_cons rfl lsub_nil))))) ?_))))))
  have h_40 := ir_1_3 hI
  have kn_41 : Hid (c_7 1 3 = c 1 3) := hF_9 1 3 qn_ab545a015
  have kn_42 : Hid (c_36 1 3 = c 1 3) := (hF_38 1 3 qn_39cd18c3e).trans ((up_c (nn rfl)).trans (hid kn_41))
  have h_43 : c_36 1 3 = c 1 3 := (hid kn_42)
  have h_44 := ir_41_2 hI
  have kn_45 : Hid (c_7 41 2 = c 41 2) := hF_9 41 2 qn_f6e9e9f23
  have kn_46 : Hid (c_36 41 2 = c 41 2) := (hF_38 41 2 qn_53bdb2099).trans ((up_c (nn rfl)).trans (hid kn_45))
  have h_47 : c_36 41 2 = c 41 2 := (hid kn_46)
  exact K P Q c_36 0 (by decide) hI_37 ⟨by omega, ub_fr hU (fun j => (hF_38 2 j qn_2ad67e194).trans ((up_c (nn rfl)).trans (hF_9 2 j qn_326a9cf27))) (fun j => (hF_38 43 j qn_1520ff5e3).trans ((up_c (nn rfl)).trans (hF_9 43 j qn_dee8a76c5)))⟩

set_option maxRecDepth 100000 in
set_option maxHeartbeats 4000000 in
theorem o_17 {xs : Nat → Int32} {L i0 d nc ns P Q : Nat} {c : ME} {Z : AR → Prop} (hi : i0 + 8 ≤ L) (hL : L ≤ 100000) (hI : Iv 0 (-1) P Q c) (hR : Rq P c) (K : ∀ (P2 Q2 : Nat) (c2 : ME) (e : Nat), e ≤ 1 → Iv 0 (-1) P2 Q2 c2 → (Rq P2 c2) → Wp (a_scr L xs) (d + 90) 296 1844 [(4, vi (i0 : Int)), (3, .ref 67), (2, .ref 41), (1, .ref 0), (0, .ref a_SC)] [] (Wd P2 Q2 P2 P2 c2) (nc + e) (ns + 6 * e) Z) : Wp (a_scr L xs) (d + 90) 296 931 [(4, vi (i0 : Int)), (3, .ref 67), (2, .ref 41), (1, .ref 0), (0, .ref a_SC)] [] (Wd P Q P P c) nc ns Z := by
  obtain ⟨x1, hx1⟩ : ∃ z, (xs (i0 + 1)).toInt = z := ⟨_, rfl⟩
  have x1r := c_rng (xs (i0 + 1))
  rw [hx1] at x1r
  obtain ⟨x2, hx2⟩ : ∃ z, (xs (i0 + 2)).toInt = z := ⟨_, rfl⟩
  have x2r := c_rng (xs (i0 + 2))
  rw [hx2] at x2r
  obtain ⟨x3, hx3⟩ : ∃ z, (xs (i0 + 3)).toInt = z := ⟨_, rfl⟩
  have x3r := c_rng (xs (i0 + 3))
  rw [hx3] at x3r
  obtain ⟨x4, hx4⟩ : ∃ z, (xs (i0 + 4)).toInt = z := ⟨_, rfl⟩
  have x4r := c_rng (xs (i0 + 4))
  rw [hx4] at x4r
  obtain ⟨x5, hx5⟩ : ∃ z, (xs (i0 + 5)).toInt = z := ⟨_, rfl⟩
  have x5r := c_rng (xs (i0 + 5))
  rw [hx5] at x5r
  obtain ⟨x6, hx6⟩ : ∃ z, (xs (i0 + 6)).toInt = z := ⟨_, rfl⟩
  have x6r := c_rng (xs (i0 + 6))
  rw [hx6] at x6r
  obtain ⟨x7, hx7⟩ : ∃ z, (xs (i0 + 7)).toInt = z := ⟨_, rfl⟩
  have x7r := c_rng (xs (i0 + 7))
  rw [hx7] at x7r
  have hP := iv_P hI
  have hQ := iv_Q hI
  have hT := rl_t hR
  have hU := rl_u hR
  refine q_aload_n c_296_931 rfl (q_aload_n c_296_932 rfl (q_iload c_296_933 rfl (q_iconst c_296_935 (v_iadd (v := (i0 : Int) + 1) c_296_936 rfl (v_scr (j := i0 + 1) c_296_937 (by omega) (by omega) hL hx1 (q_aload_n c_296_938 rfl (q_iload c_296_939 rfl ?_)))))))
  refine q_iconst c_296_941 (v_iadd (v := (i0 : Int) + 2) c_296_942 rfl (v_scr (j := i0 + 2) c_296_943 (by omega) (by omega) hL hx2 (q_aload_n c_296_944 rfl (q_call c_296_945 rfl rfl rfl (q_aload_n c_277_0 rfl (q_iconst c_277_1 (q_aload_n c_277_2 rfl ?_)))))))
  refine q_iload_n c_277_3 rfl (q_iload_n c_277_4 rfl ?_)
  refine v_cv c_277_5 km_9_59 rfl rfl (Nat.le_of_ble_eq_true rfl) ⟨⟨rfl, rfl⟩, Nat.le_of_ble_eq_true rfl, rfl⟩ (Nat.le_of_ble_eq_true rfl) (Nat.le_of_ble_eq_true rfl) (s_114 (a1 := x1) (a2 := x2) hI (show (-2147483648) ≤ x1 ∧ x1 ≤ 2147483647 from ⟨by omega, by omega⟩) (show (-2147483648) ≤ x2 ∧ x2 ≤ 2147483647 from ⟨by omega, by omega⟩) (fun c_1 hI_2 hF_3 => ?_) (fun c_4 hI_5 hF_6 => ?_) (fun c_7 y_10 hI_8 hF_9 hy_10 => ?_))
  · skip
    refine bk_thr (z := Int32.ofInt 1) rfl ⟨_, _, rfl⟩ rfl (bk_inl (q_istore c_296_948 (Nat.le_of_ble_eq_true rfl) (q_aload_n c_296_950 rfl (q_aload_n c_296_951 rfl (q_iload c_296_952 rfl (q_iconst c_296_954 (v_iadd (v := (i0 : Int) + 1) c_296_955 rfl ?_)))))))
    refine v_scr (j := i0 + 1) c_296_956 (by omega) (by omega) hL hx1 (q_aload_n c_296_957 rfl (q_iload c_296_958 rfl (q_iconst c_296_960 (v_iadd (v := (i0 : Int) + 2) c_296_961 rfl (v_scr (j := i0 + 2) c_296_962 (by omega) (by omega) hL hx2 (v_cv c_296_963 km_9_190 rfl rfl (Nat.le_of_ble_eq_true rfl) ⟨⟨rfl, rfl⟩, Nat.le_of_ble_eq_true rfl, rfl⟩ (Nat.le_of_ble_eq_true rfl) (Nat.le_of_ble_eq_true rfl) (s_221 (a1 := x1) (a2 := x2) hI_2 (show (-2147483648) ≤ x1 ∧ x1 ≤ 2147483647 from ⟨by omega, by omega⟩) (show (-2147483648) ≤ x2 ∧ x2 ≤ 2147483647 from ⟨by omega, by omega⟩) (fun c_11 y_14 hI_12 hF_13 hy_14 => (bk_inl ?_)))))))))
    refine q_istore c_296_966 (Nat.le_of_ble_eq_true rfl) (q_goto (t := 1844) c_296_968 rfl (Wp_ls [(4, vi (i0 : Int)), (3, .ref 67), (2, .ref 41), (1, .ref 0), (0, .ref a_SC)] (lsub_cons rfl (lsub_cons rfl (lsub_cons rfl (lsub_cons rfl (lsub_cons rfl lsub_nil))))) ?_))
    have h_15 := ir_1_3 hI
    have kn_16 : Hid (c_1 1 3 = c 1 3) := hF_3 1 3 qn_eae2a9dd9
    have kn_17 : Hid (c_11 1 3 = c 1 3) := (hF_13 1 3 qn_39cd18c3e).trans (hid kn_16)
    have h_18 : c_11 1 3 = c 1 3 := (hid kn_17)
    have h_19 := ir_41_2 hI
    have kn_20 : Hid (c_1 41 2 = c 41 2) := hF_3 41 2 qn_ad6320866
    have kn_21 : Hid (c_11 41 2 = c 41 2) := (hF_13 41 2 qn_53bdb2099).trans (hid kn_20)
    have h_22 : c_11 41 2 = c 41 2 := (hid kn_21)
    exact K P Q c_11 1 (by decide) hI_12 ⟨by omega, ub_fr hU (fun j => (hF_13 2 j qn_2ad67e194).trans (hF_3 2 j qn_37f624f87)) (fun j => (hF_13 43 j qn_1520ff5e3).trans (hF_3 43 j qn_f1cf9021e))⟩
  · skip
    refine bk_thr (z := Int32.ofInt 2) rfl ⟨_, _, rfl⟩ rfl (bk_inl (q_istore c_296_948 (Nat.le_of_ble_eq_true rfl) (q_aload_n c_296_950 rfl (q_aload_n c_296_951 rfl (q_iload c_296_952 rfl (q_iconst c_296_954 (v_iadd (v := (i0 : Int) + 1) c_296_955 rfl ?_)))))))
    refine v_scr (j := i0 + 1) c_296_956 (by omega) (by omega) hL hx1 (q_aload_n c_296_957 rfl (q_iload c_296_958 rfl (q_iconst c_296_960 (v_iadd (v := (i0 : Int) + 2) c_296_961 rfl (v_scr (j := i0 + 2) c_296_962 (by omega) (by omega) hL hx2 (v_cv c_296_963 km_9_190 rfl rfl (Nat.le_of_ble_eq_true rfl) ⟨⟨rfl, rfl⟩, Nat.le_of_ble_eq_true rfl, rfl⟩ (Nat.le_of_ble_eq_true rfl) (Nat.le_of_ble_eq_true rfl) (s_221 (a1 := x1) (a2 := x2) hI_5 (show (-2147483648) ≤ x1 ∧ x1 ≤ 2147483647 from ⟨by omega, by omega⟩) (show (-2147483648) ≤ x2 ∧ x2 ≤ 2147483647 from ⟨by omega, by omega⟩) (fun c_23 y_26 hI_24 hF_25 hy_26 => (bk_inl ?_)))))))))
    refine q_istore c_296_966 (Nat.le_of_ble_eq_true rfl) (q_goto (t := 1844) c_296_968 rfl (Wp_ls [(4, vi (i0 : Int)), (3, .ref 67), (2, .ref 41), (1, .ref 0), (0, .ref a_SC)] (lsub_cons rfl (lsub_cons rfl (lsub_cons rfl (lsub_cons rfl (lsub_cons rfl lsub_nil))))) ?_))
    have h_27 := ir_1_3 hI
    have kn_28 : Hid (c_4 1 3 = c 1 3) := hF_6 1 3 qn_eae2a9dd9
    have kn_29 : Hid (c_23 1 3 = c 1 3) := (hF_25 1 3 qn_39cd18c3e).trans (hid kn_28)
    have h_30 : c_23 1 3 = c 1 3 := (hid kn_29)
    have h_31 := ir_41_2 hI
    have kn_32 : Hid (c_4 41 2 = c 41 2) := hF_6 41 2 qn_ad6320866
    have kn_33 : Hid (c_23 41 2 = c 41 2) := (hF_25 41 2 qn_53bdb2099).trans (hid kn_32)
    have h_34 : c_23 41 2 = c 41 2 := (hid kn_33)
    exact K P Q c_23 1 (by decide) hI_24 ⟨by omega, ub_fr hU (fun j => (hF_25 2 j qn_2ad67e194).trans (hF_6 2 j qn_37f624f87)) (fun j => (hF_25 43 j qn_1520ff5e3).trans (hF_6 43 j qn_f1cf9021e))⟩
  refine bk_inl (v_i2l c_277_8 (by omega) (v_ls c_277_9 rfl (by decide) (by decide) (by decide) (q_goto (t := 21) c_277_10 rfl (q_iconst c_277_21 (q_iret c_277_22 rfl (bk_inl (q_istore c_296_948 (Nat.le_of_ble_eq_true rfl) ?_)))))))
  refine q_aload_n c_296_950 rfl (q_aload_n c_296_951 rfl (q_iload c_296_952 rfl (q_iconst c_296_954 (v_iadd (v := (i0 : Int) + 1) c_296_955 rfl (v_scr (j := i0 + 1) c_296_956 (by omega) (by omega) hL hx1 (q_aload_n c_296_957 rfl (q_iload c_296_958 rfl ?_)))))))
  refine q_iconst c_296_960 (v_iadd (v := (i0 : Int) + 2) c_296_961 rfl (v_scr (j := i0 + 2) c_296_962 (by omega) (by omega) hL hx2 ?_))
  have hI_35 := iw_lx (a := 67) (j := 0) (v := y_10) hI_8 (by omega)
  refine v_cv c_296_963 km_9_190 rfl rfl (Nat.le_of_ble_eq_true rfl) ⟨⟨rfl, rfl⟩, Nat.le_of_ble_eq_true rfl, rfl⟩ (Nat.le_of_ble_eq_true rfl) (Nat.le_of_ble_eq_true rfl) (s_221 (a1 := x1) (a2 := x2) hI_35 (show (-2147483648) ≤ x1 ∧ x1 ≤ 2147483647 from ⟨by omega, by omega⟩) (show (-2147483648) ≤ x2 ∧ x2 ≤ 2147483647 from ⟨by omega, by omega⟩) (fun c_36 y_39 hI_37 hF_38 hy_39 => (bk_inl (q_istore c_296_966 (Nat.le_of_ble_eq_true rfl) (q_goto (t := 1844) c_296_968 rfl (Wp_ls [(4, vi (i0 : Int)), (3, .ref 67), (2, .ref 41), (1, .ref 0), (0, .ref a_SC)] (lsub_cons rfl (lsub_cons rfl (lsub_cons rfl (lsub_cons rfl (lsub_cons rfl lsub_nil))))) ?_))))))
  have h_40 := ir_1_3 hI
  have kn_41 : Hid (c_7 1 3 = c 1 3) := hF_9 1 3 qn_eae2a9dd9
  have kn_42 : Hid (c_36 1 3 = c 1 3) := (hF_38 1 3 qn_39cd18c3e).trans ((up_c (nn rfl)).trans (hid kn_41))
  have h_43 : c_36 1 3 = c 1 3 := (hid kn_42)
  have h_44 := ir_41_2 hI
  have kn_45 : Hid (c_7 41 2 = c 41 2) := hF_9 41 2 qn_ad6320866
  have kn_46 : Hid (c_36 41 2 = c 41 2) := (hF_38 41 2 qn_53bdb2099).trans ((up_c (nn rfl)).trans (hid kn_45))
  have h_47 : c_36 41 2 = c 41 2 := (hid kn_46)
  exact K P Q c_36 0 (by decide) hI_37 ⟨by omega, ub_fr hU (fun j => (hF_38 2 j qn_2ad67e194).trans ((up_c (nn rfl)).trans (hF_9 2 j qn_37f624f87))) (fun j => (hF_38 43 j qn_1520ff5e3).trans ((up_c (nn rfl)).trans (hF_9 43 j qn_f1cf9021e)))⟩

set_option maxRecDepth 100000 in
set_option maxHeartbeats 4000000 in
theorem o_18 {xs : Nat → Int32} {L i0 d nc ns P Q : Nat} {c : ME} {Z : AR → Prop} (hi : i0 + 8 ≤ L) (hL : L ≤ 100000) (hI : Iv 0 (-1) P Q c) (hR : Rq P c) (K : ∀ (P2 Q2 : Nat) (c2 : ME) (e : Nat), e ≤ 1 → Iv 0 (-1) P2 Q2 c2 → (Rq P2 c2) → Wp (a_scr L xs) (d + 90) 296 1844 [(4, vi (i0 : Int)), (3, .ref 67), (2, .ref 41), (1, .ref 0), (0, .ref a_SC)] [] (Wd P2 Q2 P2 P2 c2) (nc + e) (ns + 6 * e) Z) : Wp (a_scr L xs) (d + 90) 296 971 [(4, vi (i0 : Int)), (3, .ref 67), (2, .ref 41), (1, .ref 0), (0, .ref a_SC)] [] (Wd P Q P P c) nc ns Z := by
  obtain ⟨x1, hx1⟩ : ∃ z, (xs (i0 + 1)).toInt = z := ⟨_, rfl⟩
  have x1r := c_rng (xs (i0 + 1))
  rw [hx1] at x1r
  obtain ⟨x2, hx2⟩ : ∃ z, (xs (i0 + 2)).toInt = z := ⟨_, rfl⟩
  have x2r := c_rng (xs (i0 + 2))
  rw [hx2] at x2r
  obtain ⟨x3, hx3⟩ : ∃ z, (xs (i0 + 3)).toInt = z := ⟨_, rfl⟩
  have x3r := c_rng (xs (i0 + 3))
  rw [hx3] at x3r
  obtain ⟨x4, hx4⟩ : ∃ z, (xs (i0 + 4)).toInt = z := ⟨_, rfl⟩
  have x4r := c_rng (xs (i0 + 4))
  rw [hx4] at x4r
  obtain ⟨x5, hx5⟩ : ∃ z, (xs (i0 + 5)).toInt = z := ⟨_, rfl⟩
  have x5r := c_rng (xs (i0 + 5))
  rw [hx5] at x5r
  obtain ⟨x6, hx6⟩ : ∃ z, (xs (i0 + 6)).toInt = z := ⟨_, rfl⟩
  have x6r := c_rng (xs (i0 + 6))
  rw [hx6] at x6r
  obtain ⟨x7, hx7⟩ : ∃ z, (xs (i0 + 7)).toInt = z := ⟨_, rfl⟩
  have x7r := c_rng (xs (i0 + 7))
  rw [hx7] at x7r
  have hP := iv_P hI
  have hQ := iv_Q hI
  have hT := rl_t hR
  have hU := rl_u hR
  refine q_aload_n c_296_971 rfl (q_aload_n c_296_972 rfl (q_iload c_296_973 rfl (q_iconst c_296_975 (v_iadd (v := (i0 : Int) + 1) c_296_976 rfl (v_scr (j := i0 + 1) c_296_977 (by omega) (by omega) hL hx1 (q_aload_n c_296_978 rfl (q_iload c_296_979 rfl ?_)))))))
  refine q_iconst c_296_981 (v_iadd (v := (i0 : Int) + 2) c_296_982 rfl (v_scr (j := i0 + 2) c_296_983 (by omega) (by omega) hL hx2 (q_aload_n c_296_984 rfl (q_call c_296_985 rfl rfl rfl (q_aload_n c_278_0 rfl (q_iconst c_278_1 (q_aload_n c_278_2 rfl ?_)))))))
  refine q_iload_n c_278_3 rfl (q_iload_n c_278_4 rfl ?_)
  refine v_cv c_278_5 km_9_62 rfl rfl (Nat.le_of_ble_eq_true rfl) ⟨⟨rfl, rfl⟩, Nat.le_of_ble_eq_true rfl, rfl⟩ (Nat.le_of_ble_eq_true rfl) (Nat.le_of_ble_eq_true rfl) (s_119 (a1 := x1) (a2 := x2) hI (show (-2147483648) ≤ x1 ∧ x1 ≤ 2147483647 from ⟨by omega, by omega⟩) (show (-2147483648) ≤ x2 ∧ x2 ≤ 2147483647 from ⟨by omega, by omega⟩) (fun c_1 hI_2 hF_3 => ?_) (fun c_4 y_7 hI_5 hF_6 hy_7 => ?_))
  · skip
    refine bk_thr (z := Int32.ofInt 1) rfl ⟨_, _, rfl⟩ rfl (bk_inl (q_istore c_296_988 (Nat.le_of_ble_eq_true rfl) (q_aload_n c_296_990 rfl (q_aload_n c_296_991 rfl (q_iload c_296_992 rfl (q_iconst c_296_994 (v_iadd (v := (i0 : Int) + 1) c_296_995 rfl ?_)))))))
    refine v_scr (j := i0 + 1) c_296_996 (by omega) (by omega) hL hx1 (q_aload_n c_296_997 rfl (q_iload c_296_998 rfl (q_iconst c_296_1000 (v_iadd (v := (i0 : Int) + 2) c_296_1001 rfl (v_scr (j := i0 + 2) c_296_1002 (by omega) (by omega) hL hx2 (v_cv c_296_1003 km_9_193 rfl rfl (Nat.le_of_ble_eq_true rfl) ⟨⟨rfl, rfl⟩, Nat.le_of_ble_eq_true rfl, rfl⟩ (Nat.le_of_ble_eq_true rfl) (Nat.le_of_ble_eq_true rfl) (s_227 (a1 := x1) (a2 := x2) hI_2 (show (-2147483648) ≤ x1 ∧ x1 ≤ 2147483647 from ⟨by omega, by omega⟩) (show (-2147483648) ≤ x2 ∧ x2 ≤ 2147483647 from ⟨by omega, by omega⟩) (fun c_8 y_11 hI_9 hF_10 hy_11 => (bk_inl ?_)))))))))
    refine q_istore c_296_1006 (Nat.le_of_ble_eq_true rfl) (q_goto (t := 1844) c_296_1008 rfl (Wp_ls [(4, vi (i0 : Int)), (3, .ref 67), (2, .ref 41), (1, .ref 0), (0, .ref a_SC)] (lsub_cons rfl (lsub_cons rfl (lsub_cons rfl (lsub_cons rfl (lsub_cons rfl lsub_nil))))) ?_))
    have h_12 := ir_1_3 hI
    have kn_13 : Hid (c_1 1 3 = c 1 3) := hF_3 1 3 (fun h => absurd h.1 (nn rfl))
    have kn_14 : Hid (c_8 1 3 = c 1 3) := (hF_10 1 3 qn_39cd18c3e).trans (hid kn_13)
    have h_15 : c_8 1 3 = c 1 3 := (hid kn_14)
    have h_16 := ir_41_2 hI
    have kn_17 : Hid (c_1 41 2 = c 41 2) := hF_3 41 2 (fun h => absurd h.1 (nn rfl))
    have kn_18 : Hid (c_8 41 2 = c 41 2) := (hF_10 41 2 qn_53bdb2099).trans (hid kn_17)
    have h_19 : c_8 41 2 = c 41 2 := (hid kn_18)
    exact K P Q c_8 1 (by decide) hI_9 ⟨by omega, ub_fr hU (fun j => (hF_10 2 j qn_2ad67e194).trans (hF_3 2 j (fun h => absurd h.1 (nn rfl)))) (fun j => (hF_10 43 j qn_1520ff5e3).trans (hF_3 43 j (fun h => absurd h.1 (nn rfl))))⟩
  refine bk_inl (v_i2l c_278_8 (by omega) (v_ls c_278_9 rfl (by decide) (by decide) (by decide) (q_goto (t := 17) c_278_10 rfl (q_iconst c_278_17 (q_iret c_278_18 rfl (bk_inl (q_istore c_296_988 (Nat.le_of_ble_eq_true rfl) ?_)))))))
  refine q_aload_n c_296_990 rfl (q_aload_n c_296_991 rfl (q_iload c_296_992 rfl (q_iconst c_296_994 (v_iadd (v := (i0 : Int) + 1) c_296_995 rfl (v_scr (j := i0 + 1) c_296_996 (by omega) (by omega) hL hx1 (q_aload_n c_296_997 rfl (q_iload c_296_998 rfl ?_)))))))
  refine q_iconst c_296_1000 (v_iadd (v := (i0 : Int) + 2) c_296_1001 rfl (v_scr (j := i0 + 2) c_296_1002 (by omega) (by omega) hL hx2 ?_))
  have hI_20 := iw_lx (a := 67) (j := 0) (v := y_7) hI_5 (by omega)
  refine v_cv c_296_1003 km_9_193 rfl rfl (Nat.le_of_ble_eq_true rfl) ⟨⟨rfl, rfl⟩, Nat.le_of_ble_eq_true rfl, rfl⟩ (Nat.le_of_ble_eq_true rfl) (Nat.le_of_ble_eq_true rfl) (s_227 (a1 := x1) (a2 := x2) hI_20 (show (-2147483648) ≤ x1 ∧ x1 ≤ 2147483647 from ⟨by omega, by omega⟩) (show (-2147483648) ≤ x2 ∧ x2 ≤ 2147483647 from ⟨by omega, by omega⟩) (fun c_21 y_24 hI_22 hF_23 hy_24 => (bk_inl (q_istore c_296_1006 (Nat.le_of_ble_eq_true rfl) (q_goto (t := 1844) c_296_1008 rfl (Wp_ls [(4, vi (i0 : Int)), (3, .ref 67), (2, .ref 41), (1, .ref 0), (0, .ref a_SC)] (lsub_cons rfl (lsub_cons rfl (lsub_cons rfl (lsub_cons rfl (lsub_cons rfl lsub_nil))))) ?_))))))
  have h_25 := ir_1_3 hI
  have kn_26 : Hid (c_4 1 3 = c 1 3) := hF_6 1 3 (fun h => absurd h.1 (nn rfl))
  have kn_27 : Hid (c_21 1 3 = c 1 3) := (hF_23 1 3 qn_39cd18c3e).trans ((up_c (nn rfl)).trans (hid kn_26))
  have h_28 : c_21 1 3 = c 1 3 := (hid kn_27)
  have h_29 := ir_41_2 hI
  have kn_30 : Hid (c_4 41 2 = c 41 2) := hF_6 41 2 (fun h => absurd h.1 (nn rfl))
  have kn_31 : Hid (c_21 41 2 = c 41 2) := (hF_23 41 2 qn_53bdb2099).trans ((up_c (nn rfl)).trans (hid kn_30))
  have h_32 : c_21 41 2 = c 41 2 := (hid kn_31)
  exact K P Q c_21 0 (by decide) hI_22 ⟨by omega, ub_fr hU (fun j => (hF_23 2 j qn_2ad67e194).trans ((up_c (nn rfl)).trans (hF_6 2 j (fun h => absurd h.1 (nn rfl))))) (fun j => (hF_23 43 j qn_1520ff5e3).trans ((up_c (nn rfl)).trans (hF_6 43 j (fun h => absurd h.1 (nn rfl)))))⟩

set_option maxRecDepth 100000 in
set_option maxHeartbeats 4000000 in
theorem o_19 {xs : Nat → Int32} {L i0 d nc ns P Q : Nat} {c : ME} {Z : AR → Prop} (hi : i0 + 8 ≤ L) (hL : L ≤ 100000) (hI : Iv 0 (-1) P Q c) (hR : Rq P c) (K : ∀ (P2 Q2 : Nat) (c2 : ME) (e : Nat), e ≤ 1 → Iv 0 (-1) P2 Q2 c2 → (Rq P2 c2) → Wp (a_scr L xs) (d + 90) 296 1844 [(4, vi (i0 : Int)), (3, .ref 67), (2, .ref 41), (1, .ref 0), (0, .ref a_SC)] [] (Wd P2 Q2 P2 P2 c2) (nc + e) (ns + 6 * e) Z) : Wp (a_scr L xs) (d + 90) 296 1011 [(4, vi (i0 : Int)), (3, .ref 67), (2, .ref 41), (1, .ref 0), (0, .ref a_SC)] [] (Wd P Q P P c) nc ns Z := by
  obtain ⟨x1, hx1⟩ : ∃ z, (xs (i0 + 1)).toInt = z := ⟨_, rfl⟩
  have x1r := c_rng (xs (i0 + 1))
  rw [hx1] at x1r
  obtain ⟨x2, hx2⟩ : ∃ z, (xs (i0 + 2)).toInt = z := ⟨_, rfl⟩
  have x2r := c_rng (xs (i0 + 2))
  rw [hx2] at x2r
  obtain ⟨x3, hx3⟩ : ∃ z, (xs (i0 + 3)).toInt = z := ⟨_, rfl⟩
  have x3r := c_rng (xs (i0 + 3))
  rw [hx3] at x3r
  obtain ⟨x4, hx4⟩ : ∃ z, (xs (i0 + 4)).toInt = z := ⟨_, rfl⟩
  have x4r := c_rng (xs (i0 + 4))
  rw [hx4] at x4r
  obtain ⟨x5, hx5⟩ : ∃ z, (xs (i0 + 5)).toInt = z := ⟨_, rfl⟩
  have x5r := c_rng (xs (i0 + 5))
  rw [hx5] at x5r
  obtain ⟨x6, hx6⟩ : ∃ z, (xs (i0 + 6)).toInt = z := ⟨_, rfl⟩
  have x6r := c_rng (xs (i0 + 6))
  rw [hx6] at x6r
  obtain ⟨x7, hx7⟩ : ∃ z, (xs (i0 + 7)).toInt = z := ⟨_, rfl⟩
  have x7r := c_rng (xs (i0 + 7))
  rw [hx7] at x7r
  have hP := iv_P hI
  have hQ := iv_Q hI
  have hT := rl_t hR
  have hU := rl_u hR
  refine q_aload_n c_296_1011 rfl (q_aload_n c_296_1012 rfl (q_iload c_296_1013 rfl (q_iconst c_296_1015 (v_iadd (v := (i0 : Int) + 1) c_296_1016 rfl (v_scr (j := i0 + 1) c_296_1017 (by omega) (by omega) hL hx1 (q_aload_n c_296_1018 rfl (q_iload c_296_1019 rfl ?_)))))))
  refine q_iconst c_296_1021 (v_iadd (v := (i0 : Int) + 2) c_296_1022 rfl (v_scr (j := i0 + 2) c_296_1023 (by omega) (by omega) hL hx2 (q_aload_n c_296_1024 rfl (q_iload c_296_1025 rfl (q_iconst c_296_1027 (v_iadd (v := (i0 : Int) + 3) c_296_1028 rfl (v_scr (j := i0 + 3) c_296_1029 (by omega) (by omega) hL hx3 ?_)))))))
  refine q_aload_n c_296_1030 rfl (q_call c_296_1031 rfl rfl rfl (q_aload c_279_0 rfl (q_iconst c_279_2 (q_aload_n c_279_3 rfl (q_iload_n c_279_4 rfl (q_iload_n c_279_5 rfl (q_iload_n c_279_6 rfl ?_)))))))
  refine v_cv c_279_7 km_9_65 rfl rfl (Nat.le_of_ble_eq_true rfl) ⟨⟨rfl, rfl⟩, Nat.le_of_ble_eq_true rfl, rfl⟩ (Nat.le_of_ble_eq_true rfl) (Nat.le_of_ble_eq_true rfl) (s_123 (a1 := x1) (a2 := x2) (a3 := x3) hI (show (-2147483648) ≤ x1 ∧ x1 ≤ 2147483647 from ⟨by omega, by omega⟩) (show (-2147483648) ≤ x2 ∧ x2 ≤ 2147483647 from ⟨by omega, by omega⟩) (show (-2147483648) ≤ x3 ∧ x3 ≤ 2147483647 from ⟨by omega, by omega⟩) (fun c_1 hI_2 hF_3 => ?_) (fun c_4 y_7 hI_5 hF_6 hy_7 => ?_))
  · skip
    refine bk_thr (z := Int32.ofInt 1) rfl ⟨_, _, rfl⟩ rfl (bk_inl (q_istore c_296_1034 (Nat.le_of_ble_eq_true rfl) (q_aload_n c_296_1036 rfl (q_aload_n c_296_1037 rfl (q_iload c_296_1038 rfl (q_iconst c_296_1040 (v_iadd (v := (i0 : Int) + 1) c_296_1041 rfl ?_)))))))
    refine v_scr (j := i0 + 1) c_296_1042 (by omega) (by omega) hL hx1 (q_aload_n c_296_1043 rfl (q_iload c_296_1044 rfl (q_iconst c_296_1046 (v_iadd (v := (i0 : Int) + 2) c_296_1047 rfl (v_scr (j := i0 + 2) c_296_1048 (by omega) (by omega) hL hx2 (q_aload_n c_296_1049 rfl (q_iload c_296_1050 rfl ?_)))))))
    refine q_iconst c_296_1052 (v_iadd (v := (i0 : Int) + 3) c_296_1053 rfl (v_scr (j := i0 + 3) c_296_1054 (by omega) (by omega) hL hx3 (v_cv c_296_1055 km_9_196 rfl rfl (Nat.le_of_ble_eq_true rfl) ⟨⟨rfl, rfl⟩, Nat.le_of_ble_eq_true rfl, rfl⟩ (Nat.le_of_ble_eq_true rfl) (Nat.le_of_ble_eq_true rfl) (s_228 (a1 := x1) (a2 := x2) (a3 := x3) hI_2 (show (-2147483648) ≤ x1 ∧ x1 ≤ 2147483647 from ⟨by omega, by omega⟩) (show (-2147483648) ≤ x2 ∧ x2 ≤ 2147483647 from ⟨by omega, by omega⟩) (show (-2147483648) ≤ x3 ∧ x3 ≤ 2147483647 from ⟨by omega, by omega⟩) (fun c_8 y_11 hI_9 hF_10 hy_11 => (bk_inl (q_istore c_296_1058 (Nat.le_of_ble_eq_true rfl) (q_goto (t := 1844) c_296_1060 rfl (Wp_ls [(4, vi (i0 : Int)), (3, .ref 67), (2, .ref 41), (1, .ref 0), (0, .ref a_SC)] (lsub_cons rfl (lsub_cons rfl (lsub_cons rfl (lsub_cons rfl (lsub_cons rfl lsub_nil))))) ?_)))))))))
    have h_12 := ir_1_3 hI
    have kn_13 : Hid (c_1 1 3 = c 1 3) := hF_3 1 3 (qn_3770fd1a9 hP)
    have kn_14 : Hid (c_8 1 3 = c 1 3) := (hF_10 1 3 qn_44683f5fa).trans (hid kn_13)
    have h_15 : c_8 1 3 = c 1 3 := (hid kn_14)
    have h_16 := ir_41_2 hI
    have kn_17 : Hid (c_1 41 2 = c 41 2) := hF_3 41 2 (qn_691fb4e77 hP)
    have kn_18 : Hid (c_8 41 2 = c 41 2) := (hF_10 41 2 qn_7a112a690).trans (hid kn_17)
    have h_19 : c_8 41 2 = c 41 2 := (hid kn_18)
    exact K P Q c_8 1 (by decide) hI_9 ⟨by omega, ub_fr hU (fun j => (hF_10 2 j qn_d0e66b3bf).trans (hF_3 2 j (qn_28c0e9630 hP))) (fun j => (hF_10 43 j qn_5a77d9750).trans (hF_3 43 j (qn_824e8473b hP)))⟩
  refine bk_inl (v_i2l c_279_10 (by omega) (v_ls c_279_11 rfl (by decide) (by decide) (by decide) (q_goto (t := 19) c_279_12 rfl (q_iconst c_279_19 (q_iret c_279_20 rfl (bk_inl (q_istore c_296_1034 (Nat.le_of_ble_eq_true rfl) ?_)))))))
  refine q_aload_n c_296_1036 rfl (q_aload_n c_296_1037 rfl (q_iload c_296_1038 rfl (q_iconst c_296_1040 (v_iadd (v := (i0 : Int) + 1) c_296_1041 rfl (v_scr (j := i0 + 1) c_296_1042 (by omega) (by omega) hL hx1 (q_aload_n c_296_1043 rfl (q_iload c_296_1044 rfl ?_)))))))
  refine q_iconst c_296_1046 (v_iadd (v := (i0 : Int) + 2) c_296_1047 rfl (v_scr (j := i0 + 2) c_296_1048 (by omega) (by omega) hL hx2 (q_aload_n c_296_1049 rfl (q_iload c_296_1050 rfl (q_iconst c_296_1052 (v_iadd (v := (i0 : Int) + 3) c_296_1053 rfl (v_scr (j := i0 + 3) c_296_1054 (by omega) (by omega) hL hx3 ?_)))))))
  have hI_20 := iw_lx (a := 67) (j := 0) (v := y_7) hI_5 (by omega)
  refine v_cv c_296_1055 km_9_196 rfl rfl (Nat.le_of_ble_eq_true rfl) ⟨⟨rfl, rfl⟩, Nat.le_of_ble_eq_true rfl, rfl⟩ (Nat.le_of_ble_eq_true rfl) (Nat.le_of_ble_eq_true rfl) (s_228 (a1 := x1) (a2 := x2) (a3 := x3) hI_20 (show (-2147483648) ≤ x1 ∧ x1 ≤ 2147483647 from ⟨by omega, by omega⟩) (show (-2147483648) ≤ x2 ∧ x2 ≤ 2147483647 from ⟨by omega, by omega⟩) (show (-2147483648) ≤ x3 ∧ x3 ≤ 2147483647 from ⟨by omega, by omega⟩) (fun c_21 y_24 hI_22 hF_23 hy_24 => (bk_inl (q_istore c_296_1058 (Nat.le_of_ble_eq_true rfl) (q_goto (t := 1844) c_296_1060 rfl (Wp_ls [(4, vi (i0 : Int)), (3, .ref 67), (2, .ref 41), (1, .ref 0), (0, .ref a_SC)] (lsub_cons rfl (lsub_cons rfl (lsub_cons rfl (lsub_cons rfl (lsub_cons rfl lsub_nil))))) ?_))))))
  have h_25 := ir_1_3 hI
  have kn_26 : Hid (c_4 1 3 = c 1 3) := hF_6 1 3 (qn_3770fd1a9 hP)
  have kn_27 : Hid (c_21 1 3 = c 1 3) := (hF_23 1 3 qn_44683f5fa).trans ((up_c (nn rfl)).trans (hid kn_26))
  have h_28 : c_21 1 3 = c 1 3 := (hid kn_27)
  have h_29 := ir_41_2 hI
  have kn_30 : Hid (c_4 41 2 = c 41 2) := hF_6 41 2 (qn_691fb4e77 hP)
  have kn_31 : Hid (c_21 41 2 = c 41 2) := (hF_23 41 2 qn_7a112a690).trans ((up_c (nn rfl)).trans (hid kn_30))
  have h_32 : c_21 41 2 = c 41 2 := (hid kn_31)
  exact K P Q c_21 0 (by decide) hI_22 ⟨by omega, ub_fr hU (fun j => (hF_23 2 j qn_d0e66b3bf).trans ((up_c (nn rfl)).trans (hF_6 2 j (qn_28c0e9630 hP)))) (fun j => (hF_23 43 j qn_5a77d9750).trans ((up_c (nn rfl)).trans (hF_6 43 j (qn_824e8473b hP))))⟩

