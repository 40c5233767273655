/-! ===== the calls of the law 1 ===== -/
theorem qn_d1a559e74 {j : Int} : ¬ (((41 : Nat) = 1 ∧ j = 1) ∨ ((41 : Nat) = 1 ∧ j = 2) ∨ ((41 : Nat) = 1 ∧ j = 3) ∨ ((41 : Nat) = 1 ∧ j = 4) ∨ ((41 : Nat) = 1 ∧ j = 5) ∨ ((41 : Nat) = 0 ∧ j = 13) ∨ (41 : Nat) = 38 ∨ (41 : Nat) = 40 ∨ ((41 : Nat) = 3 ∧ j = 3) ∨ ((41 : Nat) = 3 ∧ j = 4) ∨ ((41 : Nat) = 0 ∧ j = 11) ∨ (13 ≤ (41 : Nat) ∧ (41 : Nat) ≤ 36)) := (fun q => q.elim (fun h => absurd h.1 (nn rfl)) (fun q => q.elim (fun h => absurd h.1 (nn rfl)) (fun q => q.elim (fun h => absurd h.1 (nn rfl)) (fun q => q.elim (fun h => absurd h.1 (nn rfl)) (fun q => q.elim (fun h => absurd h.1 (nn rfl)) (fun q => q.elim (fun h => absurd h.1 (nn rfl)) (fun q => q.elim (fun h => absurd h (nn rfl)) (fun q => q.elim (fun h => absurd h (nn rfl)) (fun q => q.elim (fun h => absurd h.1 (nn rfl)) (fun q => q.elim (fun h => absurd h.1 (nn rfl)) (fun q => q.elim (fun h => absurd h.1 (nn rfl)) (fun h => absurd h.2 (by decide)))))))))))))
theorem q_46e5c6368 {x0 x1 x2 : Int} (f0 : (x0 = 0 ∧ x1 ≥ 0 ∧ x1 ≤ x2 ∧ x1 ≤ 600)) : (-2147483648) ≤ x1 := by omega
theorem q_e1f83221f {x0 x1 x2 : Int} (f0 : (x0 = 0 ∧ x1 ≥ 0 ∧ x1 ≤ x2 ∧ x1 ≤ 600)) : x1 ≤ 2147483647 := by omega
theorem q_ab5745232 {x0 x1 x2 : Int} (f0 : (x0 = 0 ∧ x1 ≥ 0 ∧ x1 ≤ x2 ∧ x1 ≤ 600)) : 0 ≤ x1 := by omega
theorem q_a3a1e4eba {x0 x1 x2 : Int} (f0 : (x0 = 0 ∧ x1 ≥ 0 ∧ x1 ≤ x2 ∧ x1 ≤ 600)) : x1 ≤ (x2) := by omega
theorem q_b794499be {x0 x1 x2 : Int} (f0 : (x0 = 0 ∧ x1 ≥ 0 ∧ x1 ≤ x2 ∧ x1 ≤ 600)) : x1 ≤ 600 := by omega
theorem qn_0d25b8d75 {j : Int} : ¬ (((43 : Nat) = 1 ∧ j = 1) ∨ ((43 : Nat) = 1 ∧ j = 2) ∨ ((43 : Nat) = 1 ∧ j = 3) ∨ ((43 : Nat) = 1 ∧ j = 4) ∨ ((43 : Nat) = 1 ∧ j = 5) ∨ ((43 : Nat) = 0 ∧ j = 13) ∨ (43 : Nat) = 38 ∨ (43 : Nat) = 40 ∨ ((43 : Nat) = 3 ∧ j = 3) ∨ ((43 : Nat) = 3 ∧ j = 4) ∨ ((43 : Nat) = 0 ∧ j = 11) ∨ (13 ≤ (43 : Nat) ∧ (43 : Nat) ≤ 36)) := (fun q => q.elim (fun h => absurd h.1 (nn rfl)) (fun q => q.elim (fun h => absurd h.1 (nn rfl)) (fun q => q.elim (fun h => absurd h.1 (nn rfl)) (fun q => q.elim (fun h => absurd h.1 (nn rfl)) (fun q => q.elim (fun h => absurd h.1 (nn rfl)) (fun q => q.elim (fun h => absurd h.1 (nn rfl)) (fun q => q.elim (fun h => absurd h (nn rfl)) (fun q => q.elim (fun h => absurd h (nn rfl)) (fun q => q.elim (fun h => absurd h.1 (nn rfl)) (fun q => q.elim (fun h => absurd h.1 (nn rfl)) (fun q => q.elim (fun h => absurd h.1 (nn rfl)) (fun h => absurd h.2 (by decide)))))))))))))
theorem qn_69e479294 {j : Int} : ¬ (((1 : Nat) = 41 ∧ j = 0) ∨ (1 : Nat) = 42 ∨ ((1 : Nat) = 41 ∧ j = 2) ∨ ((1 : Nat) = 41 ∧ j = 3) ∨ ((1 : Nat) = 41 ∧ j = 4) ∨ ((1 : Nat) = 41 ∧ j = 5) ∨ ((1 : Nat) = 41 ∧ j = 6) ∨ ((1 : Nat) = 41 ∧ j = 7) ∨ ((1 : Nat) = 41 ∧ j = 8) ∨ ((1 : Nat) = 41 ∧ j = 16) ∨ ((1 : Nat) = 41 ∧ j = 17) ∨ ((1 : Nat) = 41 ∧ j = 18) ∨ ((1 : Nat) = 41 ∧ j = 19) ∨ (1 : Nat) = 44 ∨ (1 : Nat) = 45 ∨ (1 : Nat) = 46 ∨ ((1 : Nat) = 41 ∧ j = 20) ∨ ((1 : Nat) = 41 ∧ j = 21) ∨ ((1 : Nat) = 41 ∧ j = 22) ∨ ((1 : Nat) = 41 ∧ j = 23) ∨ ((1 : Nat) = 41 ∧ j = 30) ∨ ((1 : Nat) = 41 ∧ j = 35) ∨ ((1 : Nat) = 41 ∧ j = 36) ∨ ((1 : Nat) = 41 ∧ j = 47) ∨ ((1 : Nat) = 41 ∧ j = 48) ∨ ((1 : Nat) = 41 ∧ j = 52) ∨ (1 : Nat) = 47 ∨ (1 : Nat) = 48 ∨ (1 : Nat) = 49 ∨ (1 : Nat) = 58 ∨ (1 : Nat) = 64) := (fun q => q.elim (fun h => absurd h.1 (nn rfl)) (fun q => q.elim (fun h => absurd h (nn rfl)) (fun q => q.elim (fun h => absurd h.1 (nn rfl)) (fun q => q.elim (fun h => absurd h.1 (nn rfl)) (fun q => q.elim (fun h => absurd h.1 (nn rfl)) (fun q => q.elim (fun h => absurd h.1 (nn rfl)) (fun q => q.elim (fun h => absurd h.1 (nn rfl)) (fun q => q.elim (fun h => absurd h.1 (nn rfl)) (fun q => q.elim (fun h => absurd h.1 (nn rfl)) (fun q => q.elim (fun h => absurd h.1 (nn rfl)) (fun q => q.elim (fun h => absurd h.1 (nn rfl)) (fun q => q.elim (fun h => absurd h.1 (nn rfl)) (fun q => q.elim (fun h => absurd h.1 (nn rfl)) (fun q => q.elim (fun h => absurd h (nn rfl)) (fun q => q.elim (fun h => absurd h (nn rfl)) (fun q => q.elim (fun h => absurd h (nn rfl)) (fun q => q.elim (fun h => absurd h.1 (nn rfl)) (fun q => q.elim (fun h => absurd h.1 (nn rfl)) (fun q => q.elim (fun h => absurd h.1 (nn rfl)) (fun q => q.elim (fun h => absurd h.1 (nn rfl)) (fun q => q.elim (fun h => absurd h.1 (nn rfl)) (fun q => q.elim (fun h => absurd h.1 (nn rfl)) (fun q => q.elim (fun h => absurd h.1 (nn rfl)) (fun q => q.elim (fun h => absurd h.1 (nn rfl)) (fun q => q.elim (fun h => absurd h.1 (nn rfl)) (fun q => q.elim (fun h => absurd h.1 (nn rfl)) (fun q => q.elim (fun h => absurd h (nn rfl)) (fun q => q.elim (fun h => absurd h (nn rfl)) (fun q => q.elim (fun h => absurd h (nn rfl)) (fun q => q.elim (fun h => absurd h (nn rfl)) (fun h => absurd h (nn rfl))))))))))))))))))))))))))))))))
theorem qn_4d0c31530 {P : Nat} {j : Int} (hP : P = 13 ∨ P = 25) : ¬ ((P = 41 ∧ j = 0) ∨ P = 42 ∨ (P = 41 ∧ j = 2) ∨ (P = 41 ∧ j = 3) ∨ (P = 41 ∧ j = 4) ∨ (P = 41 ∧ j = 5) ∨ (P = 41 ∧ j = 6) ∨ (P = 41 ∧ j = 7) ∨ (P = 41 ∧ j = 8) ∨ (P = 41 ∧ j = 16) ∨ (P = 41 ∧ j = 17) ∨ (P = 41 ∧ j = 18) ∨ (P = 41 ∧ j = 19) ∨ P = 44 ∨ P = 45 ∨ P = 46 ∨ (P = 41 ∧ j = 20) ∨ (P = 41 ∧ j = 21) ∨ (P = 41 ∧ j = 22) ∨ (P = 41 ∧ j = 23) ∨ (P = 41 ∧ j = 30) ∨ (P = 41 ∧ j = 35) ∨ (P = 41 ∧ j = 36) ∨ (P = 41 ∧ j = 47) ∨ (P = 41 ∧ j = 48) ∨ (P = 41 ∧ j = 52) ∨ P = 47 ∨ P = 48 ∨ P = 49 ∨ P = 58 ∨ P = 64) := (fun q => q.elim (fun h => absurd h.1 (np0 hP rfl)) (fun q => q.elim (fun h => absurd h (np0 hP rfl)) (fun q => q.elim (fun h => absurd h.1 (np0 hP rfl)) (fun q => q.elim (fun h => absurd h.1 (np0 hP rfl)) (fun q => q.elim (fun h => absurd h.1 (np0 hP rfl)) (fun q => q.elim (fun h => absurd h.1 (np0 hP rfl)) (fun q => q.elim (fun h => absurd h.1 (np0 hP rfl)) (fun q => q.elim (fun h => absurd h.1 (np0 hP rfl)) (fun q => q.elim (fun h => absurd h.1 (np0 hP rfl)) (fun q => q.elim (fun h => absurd h.1 (np0 hP rfl)) (fun q => q.elim (fun h => absurd h.1 (np0 hP rfl)) (fun q => q.elim (fun h => absurd h.1 (np0 hP rfl)) (fun q => q.elim (fun h => absurd h.1 (np0 hP rfl)) (fun q => q.elim (fun h => absurd h (np0 hP rfl)) (fun q => q.elim (fun h => absurd h (np0 hP rfl)) (fun q => q.elim (fun h => absurd h (np0 hP rfl)) (fun q => q.elim (fun h => absurd h.1 (np0 hP rfl)) (fun q => q.elim (fun h => absurd h.1 (np0 hP rfl)) (fun q => q.elim (fun h => absurd h.1 (np0 hP rfl)) (fun q => q.elim (fun h => absurd h.1 (np0 hP rfl)) (fun q => q.elim (fun h => absurd h.1 (np0 hP rfl)) (fun q => q.elim (fun h => absurd h.1 (np0 hP rfl)) (fun q => q.elim (fun h => absurd h.1 (np0 hP rfl)) (fun q => q.elim (fun h => absurd h.1 (np0 hP rfl)) (fun q => q.elim (fun h => absurd h.1 (np0 hP rfl)) (fun q => q.elim (fun h => absurd h.1 (np0 hP rfl)) (fun q => q.elim (fun h => absurd h (np0 hP rfl)) (fun q => q.elim (fun h => absurd h (np0 hP rfl)) (fun q => q.elim (fun h => absurd h (np0 hP rfl)) (fun q => q.elim (fun h => absurd h (np0 hP rfl)) (fun h => absurd h (np0 hP rfl))))))))))))))))))))))))))))))))
theorem qn_dc156a346 {j : Int} : ¬ (((3 : Nat) = 41 ∧ j = 0) ∨ (3 : Nat) = 42 ∨ ((3 : Nat) = 41 ∧ j = 2) ∨ ((3 : Nat) = 41 ∧ j = 3) ∨ ((3 : Nat) = 41 ∧ j = 4) ∨ ((3 : Nat) = 41 ∧ j = 5) ∨ ((3 : Nat) = 41 ∧ j = 6) ∨ ((3 : Nat) = 41 ∧ j = 7) ∨ ((3 : Nat) = 41 ∧ j = 8) ∨ ((3 : Nat) = 41 ∧ j = 16) ∨ ((3 : Nat) = 41 ∧ j = 17) ∨ ((3 : Nat) = 41 ∧ j = 18) ∨ ((3 : Nat) = 41 ∧ j = 19) ∨ (3 : Nat) = 44 ∨ (3 : Nat) = 45 ∨ (3 : Nat) = 46 ∨ ((3 : Nat) = 41 ∧ j = 20) ∨ ((3 : Nat) = 41 ∧ j = 21) ∨ ((3 : Nat) = 41 ∧ j = 22) ∨ ((3 : Nat) = 41 ∧ j = 23) ∨ ((3 : Nat) = 41 ∧ j = 30) ∨ ((3 : Nat) = 41 ∧ j = 35) ∨ ((3 : Nat) = 41 ∧ j = 36) ∨ ((3 : Nat) = 41 ∧ j = 47) ∨ ((3 : Nat) = 41 ∧ j = 48) ∨ ((3 : Nat) = 41 ∧ j = 52) ∨ (3 : Nat) = 47 ∨ (3 : Nat) = 48 ∨ (3 : Nat) = 49 ∨ (3 : Nat) = 58 ∨ (3 : Nat) = 64) := (fun q => q.elim (fun h => absurd h.1 (nn rfl)) (fun q => q.elim (fun h => absurd h (nn rfl)) (fun q => q.elim (fun h => absurd h.1 (nn rfl)) (fun q => q.elim (fun h => absurd h.1 (nn rfl)) (fun q => q.elim (fun h => absurd h.1 (nn rfl)) (fun q => q.elim (fun h => absurd h.1 (nn rfl)) (fun q => q.elim (fun h => absurd h.1 (nn rfl)) (fun q => q.elim (fun h => absurd h.1 (nn rfl)) (fun q => q.elim (fun h => absurd h.1 (nn rfl)) (fun q => q.elim (fun h => absurd h.1 (nn rfl)) (fun q => q.elim (fun h => absurd h.1 (nn rfl)) (fun q => q.elim (fun h => absurd h.1 (nn rfl)) (fun q => q.elim (fun h => absurd h.1 (nn rfl)) (fun q => q.elim (fun h => absurd h (nn rfl)) (fun q => q.elim (fun h => absurd h (nn rfl)) (fun q => q.elim (fun h => absurd h (nn rfl)) (fun q => q.elim (fun h => absurd h.1 (nn rfl)) (fun q => q.elim (fun h => absurd h.1 (nn rfl)) (fun q => q.elim (fun h => absurd h.1 (nn rfl)) (fun q => q.elim (fun h => absurd h.1 (nn rfl)) (fun q => q.elim (fun h => absurd h.1 (nn rfl)) (fun q => q.elim (fun h => absurd h.1 (nn rfl)) (fun q => q.elim (fun h => absurd h.1 (nn rfl)) (fun q => q.elim (fun h => absurd h.1 (nn rfl)) (fun q => q.elim (fun h => absurd h.1 (nn rfl)) (fun q => q.elim (fun h => absurd h.1 (nn rfl)) (fun q => q.elim (fun h => absurd h (nn rfl)) (fun q => q.elim (fun h => absurd h (nn rfl)) (fun q => q.elim (fun h => absurd h (nn rfl)) (fun q => q.elim (fun h => absurd h (nn rfl)) (fun h => absurd h (nn rfl))))))))))))))))))))))))))))))))
theorem qn_1ac48cb63 {j : Int} : ¬ (((2 : Nat) = 41 ∧ j = 0) ∨ (2 : Nat) = 42 ∨ ((2 : Nat) = 41 ∧ j = 2) ∨ ((2 : Nat) = 41 ∧ j = 3) ∨ ((2 : Nat) = 41 ∧ j = 4) ∨ ((2 : Nat) = 41 ∧ j = 5) ∨ ((2 : Nat) = 41 ∧ j = 6) ∨ ((2 : Nat) = 41 ∧ j = 7) ∨ ((2 : Nat) = 41 ∧ j = 8) ∨ ((2 : Nat) = 41 ∧ j = 16) ∨ ((2 : Nat) = 41 ∧ j = 17) ∨ ((2 : Nat) = 41 ∧ j = 18) ∨ ((2 : Nat) = 41 ∧ j = 19) ∨ (2 : Nat) = 44 ∨ (2 : Nat) = 45 ∨ (2 : Nat) = 46 ∨ ((2 : Nat) = 41 ∧ j = 20) ∨ ((2 : Nat) = 41 ∧ j = 21) ∨ ((2 : Nat) = 41 ∧ j = 22) ∨ ((2 : Nat) = 41 ∧ j = 23) ∨ ((2 : Nat) = 41 ∧ j = 30) ∨ ((2 : Nat) = 41 ∧ j = 35) ∨ ((2 : Nat) = 41 ∧ j = 36) ∨ ((2 : Nat) = 41 ∧ j = 47) ∨ ((2 : Nat) = 41 ∧ j = 48) ∨ ((2 : Nat) = 41 ∧ j = 52) ∨ (2 : Nat) = 47 ∨ (2 : Nat) = 48 ∨ (2 : Nat) = 49 ∨ (2 : Nat) = 58 ∨ (2 : Nat) = 64) := (fun q => q.elim (fun h => absurd h.1 (nn rfl)) (fun q => q.elim (fun h => absurd h (nn rfl)) (fun q => q.elim (fun h => absurd h.1 (nn rfl)) (fun q => q.elim (fun h => absurd h.1 (nn rfl)) (fun q => q.elim (fun h => absurd h.1 (nn rfl)) (fun q => q.elim (fun h => absurd h.1 (nn rfl)) (fun q => q.elim (fun h => absurd h.1 (nn rfl)) (fun q => q.elim (fun h => absurd h.1 (nn rfl)) (fun q => q.elim (fun h => absurd h.1 (nn rfl)) (fun q => q.elim (fun h => absurd h.1 (nn rfl)) (fun q => q.elim (fun h => absurd h.1 (nn rfl)) (fun q => q.elim (fun h => absurd h.1 (nn rfl)) (fun q => q.elim (fun h => absurd h.1 (nn rfl)) (fun q => q.elim (fun h => absurd h (nn rfl)) (fun q => q.elim (fun h => absurd h (nn rfl)) (fun q => q.elim (fun h => absurd h (nn rfl)) (fun q => q.elim (fun h => absurd h.1 (nn rfl)) (fun q => q.elim (fun h => absurd h.1 (nn rfl)) (fun q => q.elim (fun h => absurd h.1 (nn rfl)) (fun q => q.elim (fun h => absurd h.1 (nn rfl)) (fun q => q.elim (fun h => absurd h.1 (nn rfl)) (fun q => q.elim (fun h => absurd h.1 (nn rfl)) (fun q => q.elim (fun h => absurd h.1 (nn rfl)) (fun q => q.elim (fun h => absurd h.1 (nn rfl)) (fun q => q.elim (fun h => absurd h.1 (nn rfl)) (fun q => q.elim (fun h => absurd h.1 (nn rfl)) (fun q => q.elim (fun h => absurd h (nn rfl)) (fun q => q.elim (fun h => absurd h (nn rfl)) (fun q => q.elim (fun h => absurd h (nn rfl)) (fun q => q.elim (fun h => absurd h (nn rfl)) (fun h => absurd h (nn rfl))))))))))))))))))))))))))))))))
theorem qn_e229611f6 {j : Int} : ¬ (((2 : Nat) = 1 ∧ j = 1) ∨ ((2 : Nat) = 1 ∧ j = 2) ∨ ((2 : Nat) = 1 ∧ j = 3) ∨ ((2 : Nat) = 1 ∧ j = 4) ∨ ((2 : Nat) = 1 ∧ j = 5) ∨ ((2 : Nat) = 0 ∧ j = 13) ∨ (2 : Nat) = 38 ∨ (2 : Nat) = 40 ∨ ((2 : Nat) = 3 ∧ j = 3) ∨ ((2 : Nat) = 3 ∧ j = 4) ∨ ((2 : Nat) = 0 ∧ j = 11) ∨ (13 ≤ (2 : Nat) ∧ (2 : Nat) ≤ 36)) := (fun q => q.elim (fun h => absurd h.1 (nn rfl)) (fun q => q.elim (fun h => absurd h.1 (nn rfl)) (fun q => q.elim (fun h => absurd h.1 (nn rfl)) (fun q => q.elim (fun h => absurd h.1 (nn rfl)) (fun q => q.elim (fun h => absurd h.1 (nn rfl)) (fun q => q.elim (fun h => absurd h.1 (nn rfl)) (fun q => q.elim (fun h => absurd h (nn rfl)) (fun q => q.elim (fun h => absurd h (nn rfl)) (fun q => q.elim (fun h => absurd h.1 (nn rfl)) (fun q => q.elim (fun h => absurd h.1 (nn rfl)) (fun q => q.elim (fun h => absurd h.1 (nn rfl)) (fun h => absurd h.1 (by decide)))))))))))))
theorem qn_716ccd88d {j : Int} : ¬ (((6 : Nat) = 41 ∧ j = 0) ∨ (6 : Nat) = 42 ∨ ((6 : Nat) = 41 ∧ j = 2) ∨ ((6 : Nat) = 41 ∧ j = 3) ∨ ((6 : Nat) = 41 ∧ j = 4) ∨ ((6 : Nat) = 41 ∧ j = 5) ∨ ((6 : Nat) = 41 ∧ j = 6) ∨ ((6 : Nat) = 41 ∧ j = 7) ∨ ((6 : Nat) = 41 ∧ j = 8) ∨ ((6 : Nat) = 41 ∧ j = 16) ∨ ((6 : Nat) = 41 ∧ j = 17) ∨ ((6 : Nat) = 41 ∧ j = 18) ∨ ((6 : Nat) = 41 ∧ j = 19) ∨ (6 : Nat) = 44 ∨ (6 : Nat) = 45 ∨ (6 : Nat) = 46 ∨ ((6 : Nat) = 41 ∧ j = 20) ∨ ((6 : Nat) = 41 ∧ j = 21) ∨ ((6 : Nat) = 41 ∧ j = 22) ∨ ((6 : Nat) = 41 ∧ j = 23) ∨ ((6 : Nat) = 41 ∧ j = 30) ∨ ((6 : Nat) = 41 ∧ j = 35) ∨ ((6 : Nat) = 41 ∧ j = 36) ∨ ((6 : Nat) = 41 ∧ j = 47) ∨ ((6 : Nat) = 41 ∧ j = 48) ∨ ((6 : Nat) = 41 ∧ j = 52) ∨ (6 : Nat) = 47 ∨ (6 : Nat) = 48 ∨ (6 : Nat) = 49 ∨ (6 : Nat) = 58 ∨ (6 : Nat) = 64) := (fun q => q.elim (fun h => absurd h.1 (nn rfl)) (fun q => q.elim (fun h => absurd h (nn rfl)) (fun q => q.elim (fun h => absurd h.1 (nn rfl)) (fun q => q.elim (fun h => absurd h.1 (nn rfl)) (fun q => q.elim (fun h => absurd h.1 (nn rfl)) (fun q => q.elim (fun h => absurd h.1 (nn rfl)) (fun q => q.elim (fun h => absurd h.1 (nn rfl)) (fun q => q.elim (fun h => absurd h.1 (nn rfl)) (fun q => q.elim (fun h => absurd h.1 (nn rfl)) (fun q => q.elim (fun h => absurd h.1 (nn rfl)) (fun q => q.elim (fun h => absurd h.1 (nn rfl)) (fun q => q.elim (fun h => absurd h.1 (nn rfl)) (fun q => q.elim (fun h => absurd h.1 (nn rfl)) (fun q => q.elim (fun h => absurd h (nn rfl)) (fun q => q.elim (fun h => absurd h (nn rfl)) (fun q => q.elim (fun h => absurd h (nn rfl)) (fun q => q.elim (fun h => absurd h.1 (nn rfl)) (fun q => q.elim (fun h => absurd h.1 (nn rfl)) (fun q => q.elim (fun h => absurd h.1 (nn rfl)) (fun q => q.elim (fun h => absurd h.1 (nn rfl)) (fun q => q.elim (fun h => absurd h.1 (nn rfl)) (fun q => q.elim (fun h => absurd h.1 (nn rfl)) (fun q => q.elim (fun h => absurd h.1 (nn rfl)) (fun q => q.elim (fun h => absurd h.1 (nn rfl)) (fun q => q.elim (fun h => absurd h.1 (nn rfl)) (fun q => q.elim (fun h => absurd h.1 (nn rfl)) (fun q => q.elim (fun h => absurd h (nn rfl)) (fun q => q.elim (fun h => absurd h (nn rfl)) (fun q => q.elim (fun h => absurd h (nn rfl)) (fun q => q.elim (fun h => absurd h (nn rfl)) (fun h => absurd h (nn rfl))))))))))))))))))))))))))))))))
theorem qn_bc8185036 {j : Int} : ¬ (((6 : Nat) = 1 ∧ j = 1) ∨ ((6 : Nat) = 1 ∧ j = 2) ∨ ((6 : Nat) = 1 ∧ j = 3) ∨ ((6 : Nat) = 1 ∧ j = 4) ∨ ((6 : Nat) = 1 ∧ j = 5) ∨ ((6 : Nat) = 0 ∧ j = 13) ∨ (6 : Nat) = 38 ∨ (6 : Nat) = 40 ∨ ((6 : Nat) = 3 ∧ j = 3) ∨ ((6 : Nat) = 3 ∧ j = 4) ∨ ((6 : Nat) = 0 ∧ j = 11) ∨ (13 ≤ (6 : Nat) ∧ (6 : Nat) ≤ 36)) := (fun q => q.elim (fun h => absurd h.1 (nn rfl)) (fun q => q.elim (fun h => absurd h.1 (nn rfl)) (fun q => q.elim (fun h => absurd h.1 (nn rfl)) (fun q => q.elim (fun h => absurd h.1 (nn rfl)) (fun q => q.elim (fun h => absurd h.1 (nn rfl)) (fun q => q.elim (fun h => absurd h.1 (nn rfl)) (fun q => q.elim (fun h => absurd h (nn rfl)) (fun q => q.elim (fun h => absurd h (nn rfl)) (fun q => q.elim (fun h => absurd h.1 (nn rfl)) (fun q => q.elim (fun h => absurd h.1 (nn rfl)) (fun q => q.elim (fun h => absurd h.1 (nn rfl)) (fun h => absurd h.1 (by decide)))))))))))))
theorem qn_0a54c67a5 {j : Int} : ¬ (((66 : Nat) = 41 ∧ j = 0) ∨ (66 : Nat) = 42 ∨ ((66 : Nat) = 41 ∧ j = 2) ∨ ((66 : Nat) = 41 ∧ j = 3) ∨ ((66 : Nat) = 41 ∧ j = 4) ∨ ((66 : Nat) = 41 ∧ j = 5) ∨ ((66 : Nat) = 41 ∧ j = 6) ∨ ((66 : Nat) = 41 ∧ j = 7) ∨ ((66 : Nat) = 41 ∧ j = 8) ∨ ((66 : Nat) = 41 ∧ j = 16) ∨ ((66 : Nat) = 41 ∧ j = 17) ∨ ((66 : Nat) = 41 ∧ j = 18) ∨ ((66 : Nat) = 41 ∧ j = 19) ∨ (66 : Nat) = 44 ∨ (66 : Nat) = 45 ∨ (66 : Nat) = 46 ∨ ((66 : Nat) = 41 ∧ j = 20) ∨ ((66 : Nat) = 41 ∧ j = 21) ∨ ((66 : Nat) = 41 ∧ j = 22) ∨ ((66 : Nat) = 41 ∧ j = 23) ∨ ((66 : Nat) = 41 ∧ j = 30) ∨ ((66 : Nat) = 41 ∧ j = 35) ∨ ((66 : Nat) = 41 ∧ j = 36) ∨ ((66 : Nat) = 41 ∧ j = 47) ∨ ((66 : Nat) = 41 ∧ j = 48) ∨ ((66 : Nat) = 41 ∧ j = 52) ∨ (66 : Nat) = 47 ∨ (66 : Nat) = 48 ∨ (66 : Nat) = 49 ∨ (66 : Nat) = 58 ∨ (66 : Nat) = 64) := (fun q => q.elim (fun h => absurd h.1 (nn rfl)) (fun q => q.elim (fun h => absurd h (nn rfl)) (fun q => q.elim (fun h => absurd h.1 (nn rfl)) (fun q => q.elim (fun h => absurd h.1 (nn rfl)) (fun q => q.elim (fun h => absurd h.1 (nn rfl)) (fun q => q.elim (fun h => absurd h.1 (nn rfl)) (fun q => q.elim (fun h => absurd h.1 (nn rfl)) (fun q => q.elim (fun h => absurd h.1 (nn rfl)) (fun q => q.elim (fun h => absurd h.1 (nn rfl)) (fun q => q.elim (fun h => absurd h.1 (nn rfl)) (fun q => q.elim (fun h => absurd h.1 (nn rfl)) (fun q => q.elim (fun h => absurd h.1 (nn rfl)) (fun q => q.elim (fun h => absurd h.1 (nn rfl)) (fun q => q.elim (fun h => absurd h (nn rfl)) (fun q => q.elim (fun h => absurd h (nn rfl)) (fun q => q.elim (fun h => absurd h (nn rfl)) (fun q => q.elim (fun h => absurd h.1 (nn rfl)) (fun q => q.elim (fun h => absurd h.1 (nn rfl)) (fun q => q.elim (fun h => absurd h.1 (nn rfl)) (fun q => q.elim (fun h => absurd h.1 (nn rfl)) (fun q => q.elim (fun h => absurd h.1 (nn rfl)) (fun q => q.elim (fun h => absurd h.1 (nn rfl)) (fun q => q.elim (fun h => absurd h.1 (nn rfl)) (fun q => q.elim (fun h => absurd h.1 (nn rfl)) (fun q => q.elim (fun h => absurd h.1 (nn rfl)) (fun q => q.elim (fun h => absurd h.1 (nn rfl)) (fun q => q.elim (fun h => absurd h (nn rfl)) (fun q => q.elim (fun h => absurd h (nn rfl)) (fun q => q.elim (fun h => absurd h (nn rfl)) (fun q => q.elim (fun h => absurd h (nn rfl)) (fun h => absurd h (nn rfl))))))))))))))))))))))))))))))))
theorem qn_82c2f0992 {j : Int} : ¬ (((66 : Nat) = 1 ∧ j = 1) ∨ ((66 : Nat) = 1 ∧ j = 2) ∨ ((66 : Nat) = 1 ∧ j = 3) ∨ ((66 : Nat) = 1 ∧ j = 4) ∨ ((66 : Nat) = 1 ∧ j = 5) ∨ ((66 : Nat) = 0 ∧ j = 13) ∨ (66 : Nat) = 38 ∨ (66 : Nat) = 40 ∨ ((66 : Nat) = 3 ∧ j = 3) ∨ ((66 : Nat) = 3 ∧ j = 4) ∨ ((66 : Nat) = 0 ∧ j = 11) ∨ (13 ≤ (66 : Nat) ∧ (66 : Nat) ≤ 36)) := (fun q => q.elim (fun h => absurd h.1 (nn rfl)) (fun q => q.elim (fun h => absurd h.1 (nn rfl)) (fun q => q.elim (fun h => absurd h.1 (nn rfl)) (fun q => q.elim (fun h => absurd h.1 (nn rfl)) (fun q => q.elim (fun h => absurd h.1 (nn rfl)) (fun q => q.elim (fun h => absurd h.1 (nn rfl)) (fun q => q.elim (fun h => absurd h (nn rfl)) (fun q => q.elim (fun h => absurd h (nn rfl)) (fun q => q.elim (fun h => absurd h.1 (nn rfl)) (fun q => q.elim (fun h => absurd h.1 (nn rfl)) (fun q => q.elim (fun h => absurd h.1 (nn rfl)) (fun h => absurd h.2 (by decide)))))))))))))
theorem q_c05c968ed {x0 : Int} (f0 : ¬ (x0 < 0)) : (-2147483648) ≤ x0 := by omega
theorem q_c2c15a399 {x0 x1 : Int} (f0 : 0 ≤ x0 ∧ x0 ≤ 600) (f1 : ¬ (x1 > x0)) : x1 ≤ 2147483647 := by omega
theorem qn_7f524237d {P : Nat} {j : Int} (hP : P = 13 ∨ P = 25) : ¬ (((41 : Nat) = 1 ∧ j = 1) ∨ ((41 : Nat) = 1 ∧ j = 2) ∨ ((41 : Nat) = 1 ∧ j = 3) ∨ ((41 : Nat) = 1 ∧ j = 4) ∨ ((41 : Nat) = 1 ∧ j = 5) ∨ ((41 : Nat) = 0 ∧ j = 13) ∨ ((41 : Nat) = (P + 7) ∧ j = 5) ∨ (41 : Nat) = (P + 9) ∨ ((41 : Nat) = (P + 7) ∧ j = 4) ∨ (41 : Nat) = (P + 8)) := (fun q => q.elim (fun h => absurd h.1 (nn rfl)) (fun q => q.elim (fun h => absurd h.1 (nn rfl)) (fun q => q.elim (fun h => absurd h.1 (nn rfl)) (fun q => q.elim (fun h => absurd h.1 (nn rfl)) (fun q => q.elim (fun h => absurd h.1 (nn rfl)) (fun q => q.elim (fun h => absurd h.1 (nn rfl)) (fun q => q.elim (fun h => absurd h.1 (pn hP rfl rfl)) (fun q => q.elim (fun h => absurd h (pn hP rfl rfl)) (fun q => q.elim (fun h => absurd h.1 (pn hP rfl rfl)) (fun h => absurd h (pn hP rfl rfl)))))))))))
theorem q_7d59b2af6 {x0 x1 x2 : Int} (f0 : (x0 = 0 ∧ x1 ≥ 0 ∧ x1 ≤ x2 ∧ x1 ≤ 150)) : (-2147483648) ≤ x1 := by omega
theorem q_307fd138a {x0 x1 x2 : Int} (f0 : (x0 = 0 ∧ x1 ≥ 0 ∧ x1 ≤ x2 ∧ x1 ≤ 150)) : x1 ≤ 2147483647 := by omega
theorem q_4e1f9514d {x0 x1 x2 : Int} (f0 : (x0 = 0 ∧ x1 ≥ 0 ∧ x1 ≤ x2 ∧ x1 ≤ 150)) : 0 ≤ x1 := by omega
theorem q_fbc74f925 {x0 x1 x2 : Int} (f0 : (x0 = 0 ∧ x1 ≥ 0 ∧ x1 ≤ x2 ∧ x1 ≤ 150)) : x1 ≤ (x2) := by omega
theorem q_bd81129bd {x0 x1 x2 : Int} (f0 : (x0 = 0 ∧ x1 ≥ 0 ∧ x1 ≤ x2 ∧ x1 ≤ 150)) : x1 ≤ 150 := by omega
theorem qn_3edc655a9 {P : Nat} {j : Int} (hP : P = 13 ∨ P = 25) : ¬ (((43 : Nat) = 1 ∧ j = 1) ∨ ((43 : Nat) = 1 ∧ j = 2) ∨ ((43 : Nat) = 1 ∧ j = 3) ∨ ((43 : Nat) = 1 ∧ j = 4) ∨ ((43 : Nat) = 1 ∧ j = 5) ∨ ((43 : Nat) = 0 ∧ j = 13) ∨ ((43 : Nat) = (P + 7) ∧ j = 5) ∨ (43 : Nat) = (P + 9) ∨ ((43 : Nat) = (P + 7) ∧ j = 4) ∨ (43 : Nat) = (P + 8)) := (fun q => q.elim (fun h => absurd h.1 (nn rfl)) (fun q => q.elim (fun h => absurd h.1 (nn rfl)) (fun q => q.elim (fun h => absurd h.1 (nn rfl)) (fun q => q.elim (fun h => absurd h.1 (nn rfl)) (fun q => q.elim (fun h => absurd h.1 (nn rfl)) (fun q => q.elim (fun h => absurd h.1 (nn rfl)) (fun q => q.elim (fun h => absurd h.1 (pn hP rfl rfl)) (fun q => q.elim (fun h => absurd h (pn hP rfl rfl)) (fun q => q.elim (fun h => absurd h.1 (pn hP rfl rfl)) (fun h => absurd h (pn hP rfl rfl)))))))))))
theorem qn_6e098d395 {j : Int} : ¬ (((1 : Nat) = 41 ∧ j = 0) ∨ (1 : Nat) = 42 ∨ ((1 : Nat) = 41 ∧ j = 2) ∨ ((1 : Nat) = 41 ∧ j = 3) ∨ ((1 : Nat) = 41 ∧ j = 4) ∨ ((1 : Nat) = 41 ∧ j = 5) ∨ ((1 : Nat) = 41 ∧ j = 6) ∨ ((1 : Nat) = 41 ∧ j = 7) ∨ ((1 : Nat) = 41 ∧ j = 8) ∨ ((1 : Nat) = 41 ∧ j = 29) ∨ ((1 : Nat) = 41 ∧ j = 30) ∨ (1 : Nat) = 50 ∨ (1 : Nat) = 51 ∨ (1 : Nat) = 52 ∨ (1 : Nat) = 53) := (fun q => q.elim (fun h => absurd h.1 (nn rfl)) (fun q => q.elim (fun h => absurd h (nn rfl)) (fun q => q.elim (fun h => absurd h.1 (nn rfl)) (fun q => q.elim (fun h => absurd h.1 (nn rfl)) (fun q => q.elim (fun h => absurd h.1 (nn rfl)) (fun q => q.elim (fun h => absurd h.1 (nn rfl)) (fun q => q.elim (fun h => absurd h.1 (nn rfl)) (fun q => q.elim (fun h => absurd h.1 (nn rfl)) (fun q => q.elim (fun h => absurd h.1 (nn rfl)) (fun q => q.elim (fun h => absurd h.1 (nn rfl)) (fun q => q.elim (fun h => absurd h.1 (nn rfl)) (fun q => q.elim (fun h => absurd h (nn rfl)) (fun q => q.elim (fun h => absurd h (nn rfl)) (fun q => q.elim (fun h => absurd h (nn rfl)) (fun h => absurd h (nn rfl))))))))))))))))
theorem qn_c16a8cdb3 {P : Nat} {j : Int} (hP : P = 13 ∨ P = 25) : ¬ ((P = 1 ∧ j = 1) ∨ (P = 1 ∧ j = 2) ∨ (P = 1 ∧ j = 3) ∨ (P = 1 ∧ j = 4) ∨ (P = 1 ∧ j = 5) ∨ (P = 0 ∧ j = 13) ∨ (P = (P + 7) ∧ j = 5) ∨ P = (P + 9) ∨ (P = (P + 7) ∧ j = 4) ∨ P = (P + 8)) := (fun q => q.elim (fun h => absurd h.1 (np0 hP rfl)) (fun q => q.elim (fun h => absurd h.1 (np0 hP rfl)) (fun q => q.elim (fun h => absurd h.1 (np0 hP rfl)) (fun q => q.elim (fun h => absurd h.1 (np0 hP rfl)) (fun q => q.elim (fun h => absurd h.1 (np0 hP rfl)) (fun q => q.elim (fun h => absurd h.1 (np0 hP rfl)) (fun q => q.elim (fun h => absurd h.1 (p0p rfl)) (fun q => q.elim (fun h => absurd h (p0p rfl)) (fun q => q.elim (fun h => absurd h.1 (p0p rfl)) (fun h => absurd h (p0p rfl)))))))))))
theorem qn_6cada6812 {P : Nat} {j : Int} (hP : P = 13 ∨ P = 25) : ¬ ((P = 41 ∧ j = 0) ∨ P = 42 ∨ (P = 41 ∧ j = 2) ∨ (P = 41 ∧ j = 3) ∨ (P = 41 ∧ j = 4) ∨ (P = 41 ∧ j = 5) ∨ (P = 41 ∧ j = 6) ∨ (P = 41 ∧ j = 7) ∨ (P = 41 ∧ j = 8) ∨ (P = 41 ∧ j = 29) ∨ (P = 41 ∧ j = 30) ∨ P = 50 ∨ P = 51 ∨ P = 52 ∨ P = 53) := (fun q => q.elim (fun h => absurd h.1 (np0 hP rfl)) (fun q => q.elim (fun h => absurd h (np0 hP rfl)) (fun q => q.elim (fun h => absurd h.1 (np0 hP rfl)) (fun q => q.elim (fun h => absurd h.1 (np0 hP rfl)) (fun q => q.elim (fun h => absurd h.1 (np0 hP rfl)) (fun q => q.elim (fun h => absurd h.1 (np0 hP rfl)) (fun q => q.elim (fun h => absurd h.1 (np0 hP rfl)) (fun q => q.elim (fun h => absurd h.1 (np0 hP rfl)) (fun q => q.elim (fun h => absurd h.1 (np0 hP rfl)) (fun q => q.elim (fun h => absurd h.1 (np0 hP rfl)) (fun q => q.elim (fun h => absurd h.1 (np0 hP rfl)) (fun q => q.elim (fun h => absurd h (np0 hP rfl)) (fun q => q.elim (fun h => absurd h (np0 hP rfl)) (fun q => q.elim (fun h => absurd h (np0 hP rfl)) (fun h => absurd h (np0 hP rfl))))))))))))))))
theorem qn_dccf86c1c : ¬ (((41 : Nat) = 41 ∧ (20 : Int) = 0) ∨ (41 : Nat) = 42 ∨ ((41 : Nat) = 41 ∧ (20 : Int) = 2) ∨ ((41 : Nat) = 41 ∧ (20 : Int) = 3) ∨ ((41 : Nat) = 41 ∧ (20 : Int) = 4) ∨ ((41 : Nat) = 41 ∧ (20 : Int) = 5) ∨ ((41 : Nat) = 41 ∧ (20 : Int) = 6) ∨ ((41 : Nat) = 41 ∧ (20 : Int) = 7) ∨ ((41 : Nat) = 41 ∧ (20 : Int) = 8) ∨ ((41 : Nat) = 41 ∧ (20 : Int) = 29) ∨ ((41 : Nat) = 41 ∧ (20 : Int) = 30) ∨ (41 : Nat) = 50 ∨ (41 : Nat) = 51 ∨ (41 : Nat) = 52 ∨ (41 : Nat) = 53) := (fun q => q.elim (fun h => absurd h.2 (ni rfl)) (fun q => q.elim (fun h => absurd h (nn rfl)) (fun q => q.elim (fun h => absurd h.2 (ni rfl)) (fun q => q.elim (fun h => absurd h.2 (ni rfl)) (fun q => q.elim (fun h => absurd h.2 (ni rfl)) (fun q => q.elim (fun h => absurd h.2 (ni rfl)) (fun q => q.elim (fun h => absurd h.2 (ni rfl)) (fun q => q.elim (fun h => absurd h.2 (ni rfl)) (fun q => q.elim (fun h => absurd h.2 (ni rfl)) (fun q => q.elim (fun h => absurd h.2 (ni rfl)) (fun q => q.elim (fun h => absurd h.2 (ni rfl)) (fun q => q.elim (fun h => absurd h (nn rfl)) (fun q => q.elim (fun h => absurd h (nn rfl)) (fun q => q.elim (fun h => absurd h (nn rfl)) (fun h => absurd h (nn rfl))))))))))))))))
theorem qn_29130c158 : ¬ (((41 : Nat) = 41 ∧ (21 : Int) = 0) ∨ (41 : Nat) = 42 ∨ ((41 : Nat) = 41 ∧ (21 : Int) = 2) ∨ ((41 : Nat) = 41 ∧ (21 : Int) = 3) ∨ ((41 : Nat) = 41 ∧ (21 : Int) = 4) ∨ ((41 : Nat) = 41 ∧ (21 : Int) = 5) ∨ ((41 : Nat) = 41 ∧ (21 : Int) = 6) ∨ ((41 : Nat) = 41 ∧ (21 : Int) = 7) ∨ ((41 : Nat) = 41 ∧ (21 : Int) = 8) ∨ ((41 : Nat) = 41 ∧ (21 : Int) = 29) ∨ ((41 : Nat) = 41 ∧ (21 : Int) = 30) ∨ (41 : Nat) = 50 ∨ (41 : Nat) = 51 ∨ (41 : Nat) = 52 ∨ (41 : Nat) = 53) := (fun q => q.elim (fun h => absurd h.2 (ni rfl)) (fun q => q.elim (fun h => absurd h (nn rfl)) (fun q => q.elim (fun h => absurd h.2 (ni rfl)) (fun q => q.elim (fun h => absurd h.2 (ni rfl)) (fun q => q.elim (fun h => absurd h.2 (ni rfl)) (fun q => q.elim (fun h => absurd h.2 (ni rfl)) (fun q => q.elim (fun h => absurd h.2 (ni rfl)) (fun q => q.elim (fun h => absurd h.2 (ni rfl)) (fun q => q.elim (fun h => absurd h.2 (ni rfl)) (fun q => q.elim (fun h => absurd h.2 (ni rfl)) (fun q => q.elim (fun h => absurd h.2 (ni rfl)) (fun q => q.elim (fun h => absurd h (nn rfl)) (fun q => q.elim (fun h => absurd h (nn rfl)) (fun q => q.elim (fun h => absurd h (nn rfl)) (fun h => absurd h (nn rfl))))))))))))))))
theorem qn_e543f8eca : ¬ (((41 : Nat) = 41 ∧ (22 : Int) = 0) ∨ (41 : Nat) = 42 ∨ ((41 : Nat) = 41 ∧ (22 : Int) = 2) ∨ ((41 : Nat) = 41 ∧ (22 : Int) = 3) ∨ ((41 : Nat) = 41 ∧ (22 : Int) = 4) ∨ ((41 : Nat) = 41 ∧ (22 : Int) = 5) ∨ ((41 : Nat) = 41 ∧ (22 : Int) = 6) ∨ ((41 : Nat) = 41 ∧ (22 : Int) = 7) ∨ ((41 : Nat) = 41 ∧ (22 : Int) = 8) ∨ ((41 : Nat) = 41 ∧ (22 : Int) = 29) ∨ ((41 : Nat) = 41 ∧ (22 : Int) = 30) ∨ (41 : Nat) = 50 ∨ (41 : Nat) = 51 ∨ (41 : Nat) = 52 ∨ (41 : Nat) = 53) := (fun q => q.elim (fun h => absurd h.2 (ni rfl)) (fun q => q.elim (fun h => absurd h (nn rfl)) (fun q => q.elim (fun h => absurd h.2 (ni rfl)) (fun q => q.elim (fun h => absurd h.2 (ni rfl)) (fun q => q.elim (fun h => absurd h.2 (ni rfl)) (fun q => q.elim (fun h => absurd h.2 (ni rfl)) (fun q => q.elim (fun h => absurd h.2 (ni rfl)) (fun q => q.elim (fun h => absurd h.2 (ni rfl)) (fun q => q.elim (fun h => absurd h.2 (ni rfl)) (fun q => q.elim (fun h => absurd h.2 (ni rfl)) (fun q => q.elim (fun h => absurd h.2 (ni rfl)) (fun q => q.elim (fun h => absurd h (nn rfl)) (fun q => q.elim (fun h => absurd h (nn rfl)) (fun q => q.elim (fun h => absurd h (nn rfl)) (fun h => absurd h (nn rfl))))))))))))))))
theorem qn_0ec1c0dac : ¬ (((41 : Nat) = 41 ∧ (23 : Int) = 0) ∨ (41 : Nat) = 42 ∨ ((41 : Nat) = 41 ∧ (23 : Int) = 2) ∨ ((41 : Nat) = 41 ∧ (23 : Int) = 3) ∨ ((41 : Nat) = 41 ∧ (23 : Int) = 4) ∨ ((41 : Nat) = 41 ∧ (23 : Int) = 5) ∨ ((41 : Nat) = 41 ∧ (23 : Int) = 6) ∨ ((41 : Nat) = 41 ∧ (23 : Int) = 7) ∨ ((41 : Nat) = 41 ∧ (23 : Int) = 8) ∨ ((41 : Nat) = 41 ∧ (23 : Int) = 29) ∨ ((41 : Nat) = 41 ∧ (23 : Int) = 30) ∨ (41 : Nat) = 50 ∨ (41 : Nat) = 51 ∨ (41 : Nat) = 52 ∨ (41 : Nat) = 53) := (fun q => q.elim (fun h => absurd h.2 (ni rfl)) (fun q => q.elim (fun h => absurd h (nn rfl)) (fun q => q.elim (fun h => absurd h.2 (ni rfl)) (fun q => q.elim (fun h => absurd h.2 (ni rfl)) (fun q => q.elim (fun h => absurd h.2 (ni rfl)) (fun q => q.elim (fun h => absurd h.2 (ni rfl)) (fun q => q.elim (fun h => absurd h.2 (ni rfl)) (fun q => q.elim (fun h => absurd h.2 (ni rfl)) (fun q => q.elim (fun h => absurd h.2 (ni rfl)) (fun q => q.elim (fun h => absurd h.2 (ni rfl)) (fun q => q.elim (fun h => absurd h.2 (ni rfl)) (fun q => q.elim (fun h => absurd h (nn rfl)) (fun q => q.elim (fun h => absurd h (nn rfl)) (fun q => q.elim (fun h => absurd h (nn rfl)) (fun h => absurd h (nn rfl))))))))))))))))
theorem qn_cee83b378 {P : Nat} {j : Int} (hP : P = 13 ∨ P = 25) : ¬ (((3 : Nat) = 1 ∧ j = 1) ∨ ((3 : Nat) = 1 ∧ j = 2) ∨ ((3 : Nat) = 1 ∧ j = 3) ∨ ((3 : Nat) = 1 ∧ j = 4) ∨ ((3 : Nat) = 1 ∧ j = 5) ∨ ((3 : Nat) = 0 ∧ j = 13) ∨ ((3 : Nat) = (P + 7) ∧ j = 5) ∨ (3 : Nat) = (P + 9) ∨ ((3 : Nat) = (P + 7) ∧ j = 4) ∨ (3 : Nat) = (P + 8)) := (fun q => q.elim (fun h => absurd h.1 (nn rfl)) (fun q => q.elim (fun h => absurd h.1 (nn rfl)) (fun q => q.elim (fun h => absurd h.1 (nn rfl)) (fun q => q.elim (fun h => absurd h.1 (nn rfl)) (fun q => q.elim (fun h => absurd h.1 (nn rfl)) (fun q => q.elim (fun h => absurd h.1 (nn rfl)) (fun q => q.elim (fun h => absurd h.1 (pn hP rfl rfl)) (fun q => q.elim (fun h => absurd h (pn hP rfl rfl)) (fun q => q.elim (fun h => absurd h.1 (pn hP rfl rfl)) (fun h => absurd h (pn hP rfl rfl)))))))))))
theorem qn_0c1841372 {j : Int} : ¬ (((3 : Nat) = 41 ∧ j = 0) ∨ (3 : Nat) = 42 ∨ ((3 : Nat) = 41 ∧ j = 2) ∨ ((3 : Nat) = 41 ∧ j = 3) ∨ ((3 : Nat) = 41 ∧ j = 4) ∨ ((3 : Nat) = 41 ∧ j = 5) ∨ ((3 : Nat) = 41 ∧ j = 6) ∨ ((3 : Nat) = 41 ∧ j = 7) ∨ ((3 : Nat) = 41 ∧ j = 8) ∨ ((3 : Nat) = 41 ∧ j = 29) ∨ ((3 : Nat) = 41 ∧ j = 30) ∨ (3 : Nat) = 50 ∨ (3 : Nat) = 51 ∨ (3 : Nat) = 52 ∨ (3 : Nat) = 53) := (fun q => q.elim (fun h => absurd h.1 (nn rfl)) (fun q => q.elim (fun h => absurd h (nn rfl)) (fun q => q.elim (fun h => absurd h.1 (nn rfl)) (fun q => q.elim (fun h => absurd h.1 (nn rfl)) (fun q => q.elim (fun h => absurd h.1 (nn rfl)) (fun q => q.elim (fun h => absurd h.1 (nn rfl)) (fun q => q.elim (fun h => absurd h.1 (nn rfl)) (fun q => q.elim (fun h => absurd h.1 (nn rfl)) (fun q => q.elim (fun h => absurd h.1 (nn rfl)) (fun q => q.elim (fun h => absurd h.1 (nn rfl)) (fun q => q.elim (fun h => absurd h.1 (nn rfl)) (fun q => q.elim (fun h => absurd h (nn rfl)) (fun q => q.elim (fun h => absurd h (nn rfl)) (fun q => q.elim (fun h => absurd h (nn rfl)) (fun h => absurd h (nn rfl))))))))))))))))
theorem qn_63017ad2d : ¬ (((41 : Nat) = 41 ∧ (52 : Int) = 0) ∨ (41 : Nat) = 42 ∨ ((41 : Nat) = 41 ∧ (52 : Int) = 2) ∨ ((41 : Nat) = 41 ∧ (52 : Int) = 3) ∨ ((41 : Nat) = 41 ∧ (52 : Int) = 4) ∨ ((41 : Nat) = 41 ∧ (52 : Int) = 5) ∨ ((41 : Nat) = 41 ∧ (52 : Int) = 6) ∨ ((41 : Nat) = 41 ∧ (52 : Int) = 7) ∨ ((41 : Nat) = 41 ∧ (52 : Int) = 8) ∨ ((41 : Nat) = 41 ∧ (52 : Int) = 29) ∨ ((41 : Nat) = 41 ∧ (52 : Int) = 30) ∨ (41 : Nat) = 50 ∨ (41 : Nat) = 51 ∨ (41 : Nat) = 52 ∨ (41 : Nat) = 53) := (fun q => q.elim (fun h => absurd h.2 (ni rfl)) (fun q => q.elim (fun h => absurd h (nn rfl)) (fun q => q.elim (fun h => absurd h.2 (ni rfl)) (fun q => q.elim (fun h => absurd h.2 (ni rfl)) (fun q => q.elim (fun h => absurd h.2 (ni rfl)) (fun q => q.elim (fun h => absurd h.2 (ni rfl)) (fun q => q.elim (fun h => absurd h.2 (ni rfl)) (fun q => q.elim (fun h => absurd h.2 (ni rfl)) (fun q => q.elim (fun h => absurd h.2 (ni rfl)) (fun q => q.elim (fun h => absurd h.2 (ni rfl)) (fun q => q.elim (fun h => absurd h.2 (ni rfl)) (fun q => q.elim (fun h => absurd h (nn rfl)) (fun q => q.elim (fun h => absurd h (nn rfl)) (fun q => q.elim (fun h => absurd h (nn rfl)) (fun h => absurd h (nn rfl))))))))))))))))
theorem qn_7a0622093 : ¬ (((41 : Nat) = 41 ∧ (35 : Int) = 0) ∨ (41 : Nat) = 42 ∨ ((41 : Nat) = 41 ∧ (35 : Int) = 2) ∨ ((41 : Nat) = 41 ∧ (35 : Int) = 3) ∨ ((41 : Nat) = 41 ∧ (35 : Int) = 4) ∨ ((41 : Nat) = 41 ∧ (35 : Int) = 5) ∨ ((41 : Nat) = 41 ∧ (35 : Int) = 6) ∨ ((41 : Nat) = 41 ∧ (35 : Int) = 7) ∨ ((41 : Nat) = 41 ∧ (35 : Int) = 8) ∨ ((41 : Nat) = 41 ∧ (35 : Int) = 29) ∨ ((41 : Nat) = 41 ∧ (35 : Int) = 30) ∨ (41 : Nat) = 50 ∨ (41 : Nat) = 51 ∨ (41 : Nat) = 52 ∨ (41 : Nat) = 53) := (fun q => q.elim (fun h => absurd h.2 (ni rfl)) (fun q => q.elim (fun h => absurd h (nn rfl)) (fun q => q.elim (fun h => absurd h.2 (ni rfl)) (fun q => q.elim (fun h => absurd h.2 (ni rfl)) (fun q => q.elim (fun h => absurd h.2 (ni rfl)) (fun q => q.elim (fun h => absurd h.2 (ni rfl)) (fun q => q.elim (fun h => absurd h.2 (ni rfl)) (fun q => q.elim (fun h => absurd h.2 (ni rfl)) (fun q => q.elim (fun h => absurd h.2 (ni rfl)) (fun q => q.elim (fun h => absurd h.2 (ni rfl)) (fun q => q.elim (fun h => absurd h.2 (ni rfl)) (fun q => q.elim (fun h => absurd h (nn rfl)) (fun q => q.elim (fun h => absurd h (nn rfl)) (fun q => q.elim (fun h => absurd h (nn rfl)) (fun h => absurd h (nn rfl))))))))))))))))
theorem qn_4c0255fdd {j : Int} : ¬ (((2 : Nat) = 41 ∧ j = 0) ∨ (2 : Nat) = 42 ∨ ((2 : Nat) = 41 ∧ j = 2) ∨ ((2 : Nat) = 41 ∧ j = 3) ∨ ((2 : Nat) = 41 ∧ j = 4) ∨ ((2 : Nat) = 41 ∧ j = 5) ∨ ((2 : Nat) = 41 ∧ j = 6) ∨ ((2 : Nat) = 41 ∧ j = 7) ∨ ((2 : Nat) = 41 ∧ j = 8) ∨ ((2 : Nat) = 41 ∧ j = 29) ∨ ((2 : Nat) = 41 ∧ j = 30) ∨ (2 : Nat) = 50 ∨ (2 : Nat) = 51 ∨ (2 : Nat) = 52 ∨ (2 : Nat) = 53) := (fun q => q.elim (fun h => absurd h.1 (nn rfl)) (fun q => q.elim (fun h => absurd h (nn rfl)) (fun q => q.elim (fun h => absurd h.1 (nn rfl)) (fun q => q.elim (fun h => absurd h.1 (nn rfl)) (fun q => q.elim (fun h => absurd h.1 (nn rfl)) (fun q => q.elim (fun h => absurd h.1 (nn rfl)) (fun q => q.elim (fun h => absurd h.1 (nn rfl)) (fun q => q.elim (fun h => absurd h.1 (nn rfl)) (fun q => q.elim (fun h => absurd h.1 (nn rfl)) (fun q => q.elim (fun h => absurd h.1 (nn rfl)) (fun q => q.elim (fun h => absurd h.1 (nn rfl)) (fun q => q.elim (fun h => absurd h (nn rfl)) (fun q => q.elim (fun h => absurd h (nn rfl)) (fun q => q.elim (fun h => absurd h (nn rfl)) (fun h => absurd h (nn rfl))))))))))))))))
theorem qn_9c21b769a {P : Nat} {j : Int} (hP : P = 13 ∨ P = 25) : ¬ (((2 : Nat) = 1 ∧ j = 1) ∨ ((2 : Nat) = 1 ∧ j = 2) ∨ ((2 : Nat) = 1 ∧ j = 3) ∨ ((2 : Nat) = 1 ∧ j = 4) ∨ ((2 : Nat) = 1 ∧ j = 5) ∨ ((2 : Nat) = 0 ∧ j = 13) ∨ ((2 : Nat) = (P + 7) ∧ j = 5) ∨ (2 : Nat) = (P + 9) ∨ ((2 : Nat) = (P + 7) ∧ j = 4) ∨ (2 : Nat) = (P + 8)) := (fun q => q.elim (fun h => absurd h.1 (nn rfl)) (fun q => q.elim (fun h => absurd h.1 (nn rfl)) (fun q => q.elim (fun h => absurd h.1 (nn rfl)) (fun q => q.elim (fun h => absurd h.1 (nn rfl)) (fun q => q.elim (fun h => absurd h.1 (nn rfl)) (fun q => q.elim (fun h => absurd h.1 (nn rfl)) (fun q => q.elim (fun h => absurd h.1 (pn hP rfl rfl)) (fun q => q.elim (fun h => absurd h (pn hP rfl rfl)) (fun q => q.elim (fun h => absurd h.1 (pn hP rfl rfl)) (fun h => absurd h (pn hP rfl rfl)))))))))))
theorem qn_0c1231684 {j : Int} : ¬ (((43 : Nat) = 41 ∧ j = 0) ∨ (43 : Nat) = 42 ∨ ((43 : Nat) = 41 ∧ j = 2) ∨ ((43 : Nat) = 41 ∧ j = 3) ∨ ((43 : Nat) = 41 ∧ j = 4) ∨ ((43 : Nat) = 41 ∧ j = 5) ∨ ((43 : Nat) = 41 ∧ j = 6) ∨ ((43 : Nat) = 41 ∧ j = 7) ∨ ((43 : Nat) = 41 ∧ j = 8) ∨ ((43 : Nat) = 41 ∧ j = 29) ∨ ((43 : Nat) = 41 ∧ j = 30) ∨ (43 : Nat) = 50 ∨ (43 : Nat) = 51 ∨ (43 : Nat) = 52 ∨ (43 : Nat) = 53) := (fun q => q.elim (fun h => absurd h.1 (nn rfl)) (fun q => q.elim (fun h => absurd h (nn rfl)) (fun q => q.elim (fun h => absurd h.1 (nn rfl)) (fun q => q.elim (fun h => absurd h.1 (nn rfl)) (fun q => q.elim (fun h => absurd h.1 (nn rfl)) (fun q => q.elim (fun h => absurd h.1 (nn rfl)) (fun q => q.elim (fun h => absurd h.1 (nn rfl)) (fun q => q.elim (fun h => absurd h.1 (nn rfl)) (fun q => q.elim (fun h => absurd h.1 (nn rfl)) (fun q => q.elim (fun h => absurd h.1 (nn rfl)) (fun q => q.elim (fun h => absurd h.1 (nn rfl)) (fun q => q.elim (fun h => absurd h (nn rfl)) (fun q => q.elim (fun h => absurd h (nn rfl)) (fun q => q.elim (fun h => absurd h (nn rfl)) (fun h => absurd h (nn rfl))))))))))))))))
theorem qn_a2ad91feb {j : Int} : ¬ (((6 : Nat) = 41 ∧ j = 0) ∨ (6 : Nat) = 42 ∨ ((6 : Nat) = 41 ∧ j = 2) ∨ ((6 : Nat) = 41 ∧ j = 3) ∨ ((6 : Nat) = 41 ∧ j = 4) ∨ ((6 : Nat) = 41 ∧ j = 5) ∨ ((6 : Nat) = 41 ∧ j = 6) ∨ ((6 : Nat) = 41 ∧ j = 7) ∨ ((6 : Nat) = 41 ∧ j = 8) ∨ ((6 : Nat) = 41 ∧ j = 29) ∨ ((6 : Nat) = 41 ∧ j = 30) ∨ (6 : Nat) = 50 ∨ (6 : Nat) = 51 ∨ (6 : Nat) = 52 ∨ (6 : Nat) = 53) := (fun q => q.elim (fun h => absurd h.1 (nn rfl)) (fun q => q.elim (fun h => absurd h (nn rfl)) (fun q => q.elim (fun h => absurd h.1 (nn rfl)) (fun q => q.elim (fun h => absurd h.1 (nn rfl)) (fun q => q.elim (fun h => absurd h.1 (nn rfl)) (fun q => q.elim (fun h => absurd h.1 (nn rfl)) (fun q => q.elim (fun h => absurd h.1 (nn rfl)) (fun q => q.elim (fun h => absurd h.1 (nn rfl)) (fun q => q.elim (fun h => absurd h.1 (nn rfl)) (fun q => q.elim (fun h => absurd h.1 (nn rfl)) (fun q => q.elim (fun h => absurd h.1 (nn rfl)) (fun q => q.elim (fun h => absurd h (nn rfl)) (fun q => q.elim (fun h => absurd h (nn rfl)) (fun q => q.elim (fun h => absurd h (nn rfl)) (fun h => absurd h (nn rfl))))))))))))))))
theorem qn_f741ca3f2 {P : Nat} {j : Int} (hP : P = 13 ∨ P = 25) : ¬ (((6 : Nat) = 1 ∧ j = 1) ∨ ((6 : Nat) = 1 ∧ j = 2) ∨ ((6 : Nat) = 1 ∧ j = 3) ∨ ((6 : Nat) = 1 ∧ j = 4) ∨ ((6 : Nat) = 1 ∧ j = 5) ∨ ((6 : Nat) = 0 ∧ j = 13) ∨ ((6 : Nat) = (P + 7) ∧ j = 5) ∨ (6 : Nat) = (P + 9) ∨ ((6 : Nat) = (P + 7) ∧ j = 4) ∨ (6 : Nat) = (P + 8)) := (fun q => q.elim (fun h => absurd h.1 (nn rfl)) (fun q => q.elim (fun h => absurd h.1 (nn rfl)) (fun q => q.elim (fun h => absurd h.1 (nn rfl)) (fun q => q.elim (fun h => absurd h.1 (nn rfl)) (fun q => q.elim (fun h => absurd h.1 (nn rfl)) (fun q => q.elim (fun h => absurd h.1 (nn rfl)) (fun q => q.elim (fun h => absurd h.1 (pn hP rfl rfl)) (fun q => q.elim (fun h => absurd h (pn hP rfl rfl)) (fun q => q.elim (fun h => absurd h.1 (pn hP rfl rfl)) (fun h => absurd h (pn hP rfl rfl)))))))))))
theorem qn_9e422cd6b {j : Int} : ¬ (((66 : Nat) = 41 ∧ j = 0) ∨ (66 : Nat) = 42 ∨ ((66 : Nat) = 41 ∧ j = 2) ∨ ((66 : Nat) = 41 ∧ j = 3) ∨ ((66 : Nat) = 41 ∧ j = 4) ∨ ((66 : Nat) = 41 ∧ j = 5) ∨ ((66 : Nat) = 41 ∧ j = 6) ∨ ((66 : Nat) = 41 ∧ j = 7) ∨ ((66 : Nat) = 41 ∧ j = 8) ∨ ((66 : Nat) = 41 ∧ j = 29) ∨ ((66 : Nat) = 41 ∧ j = 30) ∨ (66 : Nat) = 50 ∨ (66 : Nat) = 51 ∨ (66 : Nat) = 52 ∨ (66 : Nat) = 53) := (fun q => q.elim (fun h => absurd h.1 (nn rfl)) (fun q => q.elim (fun h => absurd h (nn rfl)) (fun q => q.elim (fun h => absurd h.1 (nn rfl)) (fun q => q.elim (fun h => absurd h.1 (nn rfl)) (fun q => q.elim (fun h => absurd h.1 (nn rfl)) (fun q => q.elim (fun h => absurd h.1 (nn rfl)) (fun q => q.elim (fun h => absurd h.1 (nn rfl)) (fun q => q.elim (fun h => absurd h.1 (nn rfl)) (fun q => q.elim (fun h => absurd h.1 (nn rfl)) (fun q => q.elim (fun h => absurd h.1 (nn rfl)) (fun q => q.elim (fun h => absurd h.1 (nn rfl)) (fun q => q.elim (fun h => absurd h (nn rfl)) (fun q => q.elim (fun h => absurd h (nn rfl)) (fun q => q.elim (fun h => absurd h (nn rfl)) (fun h => absurd h (nn rfl))))))))))))))))
theorem qn_572a8ec09 {P : Nat} {j : Int} (hP : P = 13 ∨ P = 25) : ¬ (((66 : Nat) = 1 ∧ j = 1) ∨ ((66 : Nat) = 1 ∧ j = 2) ∨ ((66 : Nat) = 1 ∧ j = 3) ∨ ((66 : Nat) = 1 ∧ j = 4) ∨ ((66 : Nat) = 1 ∧ j = 5) ∨ ((66 : Nat) = 0 ∧ j = 13) ∨ ((66 : Nat) = (P + 7) ∧ j = 5) ∨ (66 : Nat) = (P + 9) ∨ ((66 : Nat) = (P + 7) ∧ j = 4) ∨ (66 : Nat) = (P + 8)) := (fun q => q.elim (fun h => absurd h.1 (nn rfl)) (fun q => q.elim (fun h => absurd h.1 (nn rfl)) (fun q => q.elim (fun h => absurd h.1 (nn rfl)) (fun q => q.elim (fun h => absurd h.1 (nn rfl)) (fun q => q.elim (fun h => absurd h.1 (nn rfl)) (fun q => q.elim (fun h => absurd h.1 (nn rfl)) (fun q => q.elim (fun h => absurd h.1 (pn hP rfl rfl)) (fun q => q.elim (fun h => absurd h (pn hP rfl rfl)) (fun q => q.elim (fun h => absurd h.1 (pn hP rfl rfl)) (fun h => absurd h (pn hP rfl rfl)))))))))))
theorem qn_95638b1cc {P : Nat} {j : Int} (hP : P = 13 ∨ P = 25) : ¬ (((41 : Nat) = 1 ∧ j = 1) ∨ ((41 : Nat) = 1 ∧ j = 2) ∨ ((41 : Nat) = 1 ∧ j = 3) ∨ ((41 : Nat) = 1 ∧ j = 4) ∨ ((41 : Nat) = 1 ∧ j = 5) ∨ ((41 : Nat) = 0 ∧ j = 13) ∨ ((41 : Nat) = 7 ∧ j = 1) ∨ ((41 : Nat) = 7 ∧ j = 2) ∨ ((41 : Nat) = 7 ∧ j = 3) ∨ ((41 : Nat) = 7 ∧ j = 4) ∨ (41 : Nat) = 8 ∨ ((41 : Nat) = 3 ∧ j = 3) ∨ (41 : Nat) = 4 ∨ (41 : Nat) = 38 ∨ ((41 : Nat) = 0 ∧ j = 11) ∨ (41 : Nat) = (P + 10) ∨ (41 : Nat) = (P + 11)) := (fun q => q.elim (fun h => absurd h.1 (nn rfl)) (fun q => q.elim (fun h => absurd h.1 (nn rfl)) (fun q => q.elim (fun h => absurd h.1 (nn rfl)) (fun q => q.elim (fun h => absurd h.1 (nn rfl)) (fun q => q.elim (fun h => absurd h.1 (nn rfl)) (fun q => q.elim (fun h => absurd h.1 (nn rfl)) (fun q => q.elim (fun h => absurd h.1 (nn rfl)) (fun q => q.elim (fun h => absurd h.1 (nn rfl)) (fun q => q.elim (fun h => absurd h.1 (nn rfl)) (fun q => q.elim (fun h => absurd h.1 (nn rfl)) (fun q => q.elim (fun h => absurd h (nn rfl)) (fun q => q.elim (fun h => absurd h.1 (nn rfl)) (fun q => q.elim (fun h => absurd h (nn rfl)) (fun q => q.elim (fun h => absurd h (nn rfl)) (fun q => q.elim (fun h => absurd h.1 (nn rfl)) (fun q => q.elim (fun h => absurd h (pn hP rfl rfl)) (fun h => absurd h (pn hP rfl rfl))))))))))))))))))
theorem qn_bc8c9d6b3 {P : Nat} {j : Int} (hP : P = 13 ∨ P = 25) : ¬ (((43 : Nat) = 1 ∧ j = 1) ∨ ((43 : Nat) = 1 ∧ j = 2) ∨ ((43 : Nat) = 1 ∧ j = 3) ∨ ((43 : Nat) = 1 ∧ j = 4) ∨ ((43 : Nat) = 1 ∧ j = 5) ∨ ((43 : Nat) = 0 ∧ j = 13) ∨ ((43 : Nat) = 7 ∧ j = 1) ∨ ((43 : Nat) = 7 ∧ j = 2) ∨ ((43 : Nat) = 7 ∧ j = 3) ∨ ((43 : Nat) = 7 ∧ j = 4) ∨ (43 : Nat) = 8 ∨ ((43 : Nat) = 3 ∧ j = 3) ∨ (43 : Nat) = 4 ∨ (43 : Nat) = 38 ∨ ((43 : Nat) = 0 ∧ j = 11) ∨ (43 : Nat) = (P + 10) ∨ (43 : Nat) = (P + 11)) := (fun q => q.elim (fun h => absurd h.1 (nn rfl)) (fun q => q.elim (fun h => absurd h.1 (nn rfl)) (fun q => q.elim (fun h => absurd h.1 (nn rfl)) (fun q => q.elim (fun h => absurd h.1 (nn rfl)) (fun q => q.elim (fun h => absurd h.1 (nn rfl)) (fun q => q.elim (fun h => absurd h.1 (nn rfl)) (fun q => q.elim (fun h => absurd h.1 (nn rfl)) (fun q => q.elim (fun h => absurd h.1 (nn rfl)) (fun q => q.elim (fun h => absurd h.1 (nn rfl)) (fun q => q.elim (fun h => absurd h.1 (nn rfl)) (fun q => q.elim (fun h => absurd h (nn rfl)) (fun q => q.elim (fun h => absurd h.1 (nn rfl)) (fun q => q.elim (fun h => absurd h (nn rfl)) (fun q => q.elim (fun h => absurd h (nn rfl)) (fun q => q.elim (fun h => absurd h.1 (nn rfl)) (fun q => q.elim (fun h => absurd h (pn hP rfl rfl)) (fun h => absurd h (pn hP rfl rfl))))))))))))))))))
theorem qn_64b7cdf30 {j : Int} : ¬ (((1 : Nat) = 41 ∧ j = 0) ∨ (1 : Nat) = 42 ∨ ((1 : Nat) = 41 ∧ j = 2) ∨ ((1 : Nat) = 41 ∧ j = 3) ∨ ((1 : Nat) = 41 ∧ j = 4) ∨ ((1 : Nat) = 41 ∧ j = 5) ∨ ((1 : Nat) = 41 ∧ j = 6) ∨ ((1 : Nat) = 41 ∧ j = 7) ∨ ((1 : Nat) = 41 ∧ j = 8) ∨ ((1 : Nat) = 41 ∧ j = 34) ∨ (1 : Nat) = 56 ∨ (1 : Nat) = 57 ∨ (1 : Nat) = 60 ∨ ((1 : Nat) = 41 ∧ j = 35) ∨ ((1 : Nat) = 41 ∧ j = 36) ∨ ((1 : Nat) = 41 ∧ j = 37) ∨ ((1 : Nat) = 41 ∧ j = 38) ∨ ((1 : Nat) = 41 ∧ j = 39) ∨ (1 : Nat) = 58 ∨ (1 : Nat) = 59 ∨ (1 : Nat) = 54 ∨ (1 : Nat) = 55) := (fun q => q.elim (fun h => absurd h.1 (nn rfl)) (fun q => q.elim (fun h => absurd h (nn rfl)) (fun q => q.elim (fun h => absurd h.1 (nn rfl)) (fun q => q.elim (fun h => absurd h.1 (nn rfl)) (fun q => q.elim (fun h => absurd h.1 (nn rfl)) (fun q => q.elim (fun h => absurd h.1 (nn rfl)) (fun q => q.elim (fun h => absurd h.1 (nn rfl)) (fun q => q.elim (fun h => absurd h.1 (nn rfl)) (fun q => q.elim (fun h => absurd h.1 (nn rfl)) (fun q => q.elim (fun h => absurd h.1 (nn rfl)) (fun q => q.elim (fun h => absurd h (nn rfl)) (fun q => q.elim (fun h => absurd h (nn rfl)) (fun q => q.elim (fun h => absurd h (nn rfl)) (fun q => q.elim (fun h => absurd h.1 (nn rfl)) (fun q => q.elim (fun h => absurd h.1 (nn rfl)) (fun q => q.elim (fun h => absurd h.1 (nn rfl)) (fun q => q.elim (fun h => absurd h.1 (nn rfl)) (fun q => q.elim (fun h => absurd h.1 (nn rfl)) (fun q => q.elim (fun h => absurd h (nn rfl)) (fun q => q.elim (fun h => absurd h (nn rfl)) (fun q => q.elim (fun h => absurd h (nn rfl)) (fun h => absurd h (nn rfl)))))))))))))))))))))))
theorem qn_26a832cdf {P : Nat} {j : Int} (hP : P = 13 ∨ P = 25) : ¬ ((P = 1 ∧ j = 1) ∨ (P = 1 ∧ j = 2) ∨ (P = 1 ∧ j = 3) ∨ (P = 1 ∧ j = 4) ∨ (P = 1 ∧ j = 5) ∨ (P = 0 ∧ j = 13) ∨ (P = 7 ∧ j = 1) ∨ (P = 7 ∧ j = 2) ∨ (P = 7 ∧ j = 3) ∨ (P = 7 ∧ j = 4) ∨ P = 8 ∨ (P = 3 ∧ j = 3) ∨ P = 4 ∨ P = 38 ∨ (P = 0 ∧ j = 11) ∨ P = (P + 10) ∨ P = (P + 11)) := (fun q => q.elim (fun h => absurd h.1 (np0 hP rfl)) (fun q => q.elim (fun h => absurd h.1 (np0 hP rfl)) (fun q => q.elim (fun h => absurd h.1 (np0 hP rfl)) (fun q => q.elim (fun h => absurd h.1 (np0 hP rfl)) (fun q => q.elim (fun h => absurd h.1 (np0 hP rfl)) (fun q => q.elim (fun h => absurd h.1 (np0 hP rfl)) (fun q => q.elim (fun h => absurd h.1 (np0 hP rfl)) (fun q => q.elim (fun h => absurd h.1 (np0 hP rfl)) (fun q => q.elim (fun h => absurd h.1 (np0 hP rfl)) (fun q => q.elim (fun h => absurd h.1 (np0 hP rfl)) (fun q => q.elim (fun h => absurd h (np0 hP rfl)) (fun q => q.elim (fun h => absurd h.1 (np0 hP rfl)) (fun q => q.elim (fun h => absurd h (np0 hP rfl)) (fun q => q.elim (fun h => absurd h (np0 hP rfl)) (fun q => q.elim (fun h => absurd h.1 (np0 hP rfl)) (fun q => q.elim (fun h => absurd h (p0p rfl)) (fun h => absurd h (p0p rfl))))))))))))))))))
theorem qn_206011cb5 {P : Nat} {j : Int} (hP : P = 13 ∨ P = 25) : ¬ ((P = 41 ∧ j = 0) ∨ P = 42 ∨ (P = 41 ∧ j = 2) ∨ (P = 41 ∧ j = 3) ∨ (P = 41 ∧ j = 4) ∨ (P = 41 ∧ j = 5) ∨ (P = 41 ∧ j = 6) ∨ (P = 41 ∧ j = 7) ∨ (P = 41 ∧ j = 8) ∨ (P = 41 ∧ j = 34) ∨ P = 56 ∨ P = 57 ∨ P = 60 ∨ (P = 41 ∧ j = 35) ∨ (P = 41 ∧ j = 36) ∨ (P = 41 ∧ j = 37) ∨ (P = 41 ∧ j = 38) ∨ (P = 41 ∧ j = 39) ∨ P = 58 ∨ P = 59 ∨ P = 54 ∨ P = 55) := (fun q => q.elim (fun h => absurd h.1 (np0 hP rfl)) (fun q => q.elim (fun h => absurd h (np0 hP rfl)) (fun q => q.elim (fun h => absurd h.1 (np0 hP rfl)) (fun q => q.elim (fun h => absurd h.1 (np0 hP rfl)) (fun q => q.elim (fun h => absurd h.1 (np0 hP rfl)) (fun q => q.elim (fun h => absurd h.1 (np0 hP rfl)) (fun q => q.elim (fun h => absurd h.1 (np0 hP rfl)) (fun q => q.elim (fun h => absurd h.1 (np0 hP rfl)) (fun q => q.elim (fun h => absurd h.1 (np0 hP rfl)) (fun q => q.elim (fun h => absurd h.1 (np0 hP rfl)) (fun q => q.elim (fun h => absurd h (np0 hP rfl)) (fun q => q.elim (fun h => absurd h (np0 hP rfl)) (fun q => q.elim (fun h => absurd h (np0 hP rfl)) (fun q => q.elim (fun h => absurd h.1 (np0 hP rfl)) (fun q => q.elim (fun h => absurd h.1 (np0 hP rfl)) (fun q => q.elim (fun h => absurd h.1 (np0 hP rfl)) (fun q => q.elim (fun h => absurd h.1 (np0 hP rfl)) (fun q => q.elim (fun h => absurd h.1 (np0 hP rfl)) (fun q => q.elim (fun h => absurd h (np0 hP rfl)) (fun q => q.elim (fun h => absurd h (np0 hP rfl)) (fun q => q.elim (fun h => absurd h (np0 hP rfl)) (fun h => absurd h (np0 hP rfl)))))))))))))))))))))))
theorem qn_77fbfa850 : ¬ (((41 : Nat) = 41 ∧ (20 : Int) = 0) ∨ (41 : Nat) = 42 ∨ ((41 : Nat) = 41 ∧ (20 : Int) = 2) ∨ ((41 : Nat) = 41 ∧ (20 : Int) = 3) ∨ ((41 : Nat) = 41 ∧ (20 : Int) = 4) ∨ ((41 : Nat) = 41 ∧ (20 : Int) = 5) ∨ ((41 : Nat) = 41 ∧ (20 : Int) = 6) ∨ ((41 : Nat) = 41 ∧ (20 : Int) = 7) ∨ ((41 : Nat) = 41 ∧ (20 : Int) = 8) ∨ ((41 : Nat) = 41 ∧ (20 : Int) = 34) ∨ (41 : Nat) = 56 ∨ (41 : Nat) = 57 ∨ (41 : Nat) = 60 ∨ ((41 : Nat) = 41 ∧ (20 : Int) = 35) ∨ ((41 : Nat) = 41 ∧ (20 : Int) = 36) ∨ ((41 : Nat) = 41 ∧ (20 : Int) = 37) ∨ ((41 : Nat) = 41 ∧ (20 : Int) = 38) ∨ ((41 : Nat) = 41 ∧ (20 : Int) = 39) ∨ (41 : Nat) = 58 ∨ (41 : Nat) = 59 ∨ (41 : Nat) = 54 ∨ (41 : Nat) = 55) := (fun q => q.elim (fun h => absurd h.2 (ni rfl)) (fun q => q.elim (fun h => absurd h (nn rfl)) (fun q => q.elim (fun h => absurd h.2 (ni rfl)) (fun q => q.elim (fun h => absurd h.2 (ni rfl)) (fun q => q.elim (fun h => absurd h.2 (ni rfl)) (fun q => q.elim (fun h => absurd h.2 (ni rfl)) (fun q => q.elim (fun h => absurd h.2 (ni rfl)) (fun q => q.elim (fun h => absurd h.2 (ni rfl)) (fun q => q.elim (fun h => absurd h.2 (ni rfl)) (fun q => q.elim (fun h => absurd h.2 (ni rfl)) (fun q => q.elim (fun h => absurd h (nn rfl)) (fun q => q.elim (fun h => absurd h (nn rfl)) (fun q => q.elim (fun h => absurd h (nn rfl)) (fun q => q.elim (fun h => absurd h.2 (ni rfl)) (fun q => q.elim (fun h => absurd h.2 (ni rfl)) (fun q => q.elim (fun h => absurd h.2 (ni rfl)) (fun q => q.elim (fun h => absurd h.2 (ni rfl)) (fun q => q.elim (fun h => absurd h.2 (ni rfl)) (fun q => q.elim (fun h => absurd h (nn rfl)) (fun q => q.elim (fun h => absurd h (nn rfl)) (fun q => q.elim (fun h => absurd h (nn rfl)) (fun h => absurd h (nn rfl)))))))))))))))))))))))
theorem qn_a1534eb98 : ¬ (((41 : Nat) = 41 ∧ (21 : Int) = 0) ∨ (41 : Nat) = 42 ∨ ((41 : Nat) = 41 ∧ (21 : Int) = 2) ∨ ((41 : Nat) = 41 ∧ (21 : Int) = 3) ∨ ((41 : Nat) = 41 ∧ (21 : Int) = 4) ∨ ((41 : Nat) = 41 ∧ (21 : Int) = 5) ∨ ((41 : Nat) = 41 ∧ (21 : Int) = 6) ∨ ((41 : Nat) = 41 ∧ (21 : Int) = 7) ∨ ((41 : Nat) = 41 ∧ (21 : Int) = 8) ∨ ((41 : Nat) = 41 ∧ (21 : Int) = 34) ∨ (41 : Nat) = 56 ∨ (41 : Nat) = 57 ∨ (41 : Nat) = 60 ∨ ((41 : Nat) = 41 ∧ (21 : Int) = 35) ∨ ((41 : Nat) = 41 ∧ (21 : Int) = 36) ∨ ((41 : Nat) = 41 ∧ (21 : Int) = 37) ∨ ((41 : Nat) = 41 ∧ (21 : Int) = 38) ∨ ((41 : Nat) = 41 ∧ (21 : Int) = 39) ∨ (41 : Nat) = 58 ∨ (41 : Nat) = 59 ∨ (41 : Nat) = 54 ∨ (41 : Nat) = 55) := (fun q => q.elim (fun h => absurd h.2 (ni rfl)) (fun q => q.elim (fun h => absurd h (nn rfl)) (fun q => q.elim (fun h => absurd h.2 (ni rfl)) (fun q => q.elim (fun h => absurd h.2 (ni rfl)) (fun q => q.elim (fun h => absurd h.2 (ni rfl)) (fun q => q.elim (fun h => absurd h.2 (ni rfl)) (fun q => q.elim (fun h => absurd h.2 (ni rfl)) (fun q => q.elim (fun h => absurd h.2 (ni rfl)) (fun q => q.elim (fun h => absurd h.2 (ni rfl)) (fun q => q.elim (fun h => absurd h.2 (ni rfl)) (fun q => q.elim (fun h => absurd h (nn rfl)) (fun q => q.elim (fun h => absurd h (nn rfl)) (fun q => q.elim (fun h => absurd h (nn rfl)) (fun q => q.elim (fun h => absurd h.2 (ni rfl)) (fun q => q.elim (fun h => absurd h.2 (ni rfl)) (fun q => q.elim (fun h => absurd h.2 (ni rfl)) (fun q => q.elim (fun h => absurd h.2 (ni rfl)) (fun q => q.elim (fun h => absurd h.2 (ni rfl)) (fun q => q.elim (fun h => absurd h (nn rfl)) (fun q => q.elim (fun h => absurd h (nn rfl)) (fun q => q.elim (fun h => absurd h (nn rfl)) (fun h => absurd h (nn rfl)))))))))))))))))))))))
theorem qn_382f2f2de : ¬ (((41 : Nat) = 41 ∧ (22 : Int) = 0) ∨ (41 : Nat) = 42 ∨ ((41 : Nat) = 41 ∧ (22 : Int) = 2) ∨ ((41 : Nat) = 41 ∧ (22 : Int) = 3) ∨ ((41 : Nat) = 41 ∧ (22 : Int) = 4) ∨ ((41 : Nat) = 41 ∧ (22 : Int) = 5) ∨ ((41 : Nat) = 41 ∧ (22 : Int) = 6) ∨ ((41 : Nat) = 41 ∧ (22 : Int) = 7) ∨ ((41 : Nat) = 41 ∧ (22 : Int) = 8) ∨ ((41 : Nat) = 41 ∧ (22 : Int) = 34) ∨ (41 : Nat) = 56 ∨ (41 : Nat) = 57 ∨ (41 : Nat) = 60 ∨ ((41 : Nat) = 41 ∧ (22 : Int) = 35) ∨ ((41 : Nat) = 41 ∧ (22 : Int) = 36) ∨ ((41 : Nat) = 41 ∧ (22 : Int) = 37) ∨ ((41 : Nat) = 41 ∧ (22 : Int) = 38) ∨ ((41 : Nat) = 41 ∧ (22 : Int) = 39) ∨ (41 : Nat) = 58 ∨ (41 : Nat) = 59 ∨ (41 : Nat) = 54 ∨ (41 : Nat) = 55) := (fun q => q.elim (fun h => absurd h.2 (ni rfl)) (fun q => q.elim (fun h => absurd h (nn rfl)) (fun q => q.elim (fun h => absurd h.2 (ni rfl)) (fun q => q.elim (fun h => absurd h.2 (ni rfl)) (fun q => q.elim (fun h => absurd h.2 (ni rfl)) (fun q => q.elim (fun h => absurd h.2 (ni rfl)) (fun q => q.elim (fun h => absurd h.2 (ni rfl)) (fun q => q.elim (fun h => absurd h.2 (ni rfl)) (fun q => q.elim (fun h => absurd h.2 (ni rfl)) (fun q => q.elim (fun h => absurd h.2 (ni rfl)) (fun q => q.elim (fun h => absurd h (nn rfl)) (fun q => q.elim (fun h => absurd h (nn rfl)) (fun q => q.elim (fun h => absurd h (nn rfl)) (fun q => q.elim (fun h => absurd h.2 (ni rfl)) (fun q => q.elim (fun h => absurd h.2 (ni rfl)) (fun q => q.elim (fun h => absurd h.2 (ni rfl)) (fun q => q.elim (fun h => absurd h.2 (ni rfl)) (fun q => q.elim (fun h => absurd h.2 (ni rfl)) (fun q => q.elim (fun h => absurd h (nn rfl)) (fun q => q.elim (fun h => absurd h (nn rfl)) (fun q => q.elim (fun h => absurd h (nn rfl)) (fun h => absurd h (nn rfl)))))))))))))))))))))))
theorem qn_81686f29b : ¬ (((41 : Nat) = 41 ∧ (23 : Int) = 0) ∨ (41 : Nat) = 42 ∨ ((41 : Nat) = 41 ∧ (23 : Int) = 2) ∨ ((41 : Nat) = 41 ∧ (23 : Int) = 3) ∨ ((41 : Nat) = 41 ∧ (23 : Int) = 4) ∨ ((41 : Nat) = 41 ∧ (23 : Int) = 5) ∨ ((41 : Nat) = 41 ∧ (23 : Int) = 6) ∨ ((41 : Nat) = 41 ∧ (23 : Int) = 7) ∨ ((41 : Nat) = 41 ∧ (23 : Int) = 8) ∨ ((41 : Nat) = 41 ∧ (23 : Int) = 34) ∨ (41 : Nat) = 56 ∨ (41 : Nat) = 57 ∨ (41 : Nat) = 60 ∨ ((41 : Nat) = 41 ∧ (23 : Int) = 35) ∨ ((41 : Nat) = 41 ∧ (23 : Int) = 36) ∨ ((41 : Nat) = 41 ∧ (23 : Int) = 37) ∨ ((41 : Nat) = 41 ∧ (23 : Int) = 38) ∨ ((41 : Nat) = 41 ∧ (23 : Int) = 39) ∨ (41 : Nat) = 58 ∨ (41 : Nat) = 59 ∨ (41 : Nat) = 54 ∨ (41 : Nat) = 55) := (fun q => q.elim (fun h => absurd h.2 (ni rfl)) (fun q => q.elim (fun h => absurd h (nn rfl)) (fun q => q.elim (fun h => absurd h.2 (ni rfl)) (fun q => q.elim (fun h => absurd h.2 (ni rfl)) (fun q => q.elim (fun h => absurd h.2 (ni rfl)) (fun q => q.elim (fun h => absurd h.2 (ni rfl)) (fun q => q.elim (fun h => absurd h.2 (ni rfl)) (fun q => q.elim (fun h => absurd h.2 (ni rfl)) (fun q => q.elim (fun h => absurd h.2 (ni rfl)) (fun q => q.elim (fun h => absurd h.2 (ni rfl)) (fun q => q.elim (fun h => absurd h (nn rfl)) (fun q => q.elim (fun h => absurd h (nn rfl)) (fun q => q.elim (fun h => absurd h (nn rfl)) (fun q => q.elim (fun h => absurd h.2 (ni rfl)) (fun q => q.elim (fun h => absurd h.2 (ni rfl)) (fun q => q.elim (fun h => absurd h.2 (ni rfl)) (fun q => q.elim (fun h => absurd h.2 (ni rfl)) (fun q => q.elim (fun h => absurd h.2 (ni rfl)) (fun q => q.elim (fun h => absurd h (nn rfl)) (fun q => q.elim (fun h => absurd h (nn rfl)) (fun q => q.elim (fun h => absurd h (nn rfl)) (fun h => absurd h (nn rfl)))))))))))))))))))))))
theorem qn_056d6de3c {P : Nat} (hP : P = 13 ∨ P = 25) : ¬ (((3 : Nat) = 1 ∧ (4 : Int) = 1) ∨ ((3 : Nat) = 1 ∧ (4 : Int) = 2) ∨ ((3 : Nat) = 1 ∧ (4 : Int) = 3) ∨ ((3 : Nat) = 1 ∧ (4 : Int) = 4) ∨ ((3 : Nat) = 1 ∧ (4 : Int) = 5) ∨ ((3 : Nat) = 0 ∧ (4 : Int) = 13) ∨ ((3 : Nat) = 7 ∧ (4 : Int) = 1) ∨ ((3 : Nat) = 7 ∧ (4 : Int) = 2) ∨ ((3 : Nat) = 7 ∧ (4 : Int) = 3) ∨ ((3 : Nat) = 7 ∧ (4 : Int) = 4) ∨ (3 : Nat) = 8 ∨ ((3 : Nat) = 3 ∧ (4 : Int) = 3) ∨ (3 : Nat) = 4 ∨ (3 : Nat) = 38 ∨ ((3 : Nat) = 0 ∧ (4 : Int) = 11) ∨ (3 : Nat) = (P + 10) ∨ (3 : Nat) = (P + 11)) := (fun q => q.elim (fun h => absurd h.1 (nn rfl)) (fun q => q.elim (fun h => absurd h.1 (nn rfl)) (fun q => q.elim (fun h => absurd h.1 (nn rfl)) (fun q => q.elim (fun h => absurd h.1 (nn rfl)) (fun q => q.elim (fun h => absurd h.1 (nn rfl)) (fun q => q.elim (fun h => absurd h.1 (nn rfl)) (fun q => q.elim (fun h => absurd h.1 (nn rfl)) (fun q => q.elim (fun h => absurd h.1 (nn rfl)) (fun q => q.elim (fun h => absurd h.1 (nn rfl)) (fun q => q.elim (fun h => absurd h.1 (nn rfl)) (fun q => q.elim (fun h => absurd h (nn rfl)) (fun q => q.elim (fun h => absurd h.2 (ni rfl)) (fun q => q.elim (fun h => absurd h (nn rfl)) (fun q => q.elim (fun h => absurd h (nn rfl)) (fun q => q.elim (fun h => absurd h.1 (nn rfl)) (fun q => q.elim (fun h => absurd h (pn hP rfl rfl)) (fun h => absurd h (pn hP rfl rfl))))))))))))))))))
theorem qn_540a8ebd9 {j : Int} : ¬ (((3 : Nat) = 41 ∧ j = 0) ∨ (3 : Nat) = 42 ∨ ((3 : Nat) = 41 ∧ j = 2) ∨ ((3 : Nat) = 41 ∧ j = 3) ∨ ((3 : Nat) = 41 ∧ j = 4) ∨ ((3 : Nat) = 41 ∧ j = 5) ∨ ((3 : Nat) = 41 ∧ j = 6) ∨ ((3 : Nat) = 41 ∧ j = 7) ∨ ((3 : Nat) = 41 ∧ j = 8) ∨ ((3 : Nat) = 41 ∧ j = 34) ∨ (3 : Nat) = 56 ∨ (3 : Nat) = 57 ∨ (3 : Nat) = 60 ∨ ((3 : Nat) = 41 ∧ j = 35) ∨ ((3 : Nat) = 41 ∧ j = 36) ∨ ((3 : Nat) = 41 ∧ j = 37) ∨ ((3 : Nat) = 41 ∧ j = 38) ∨ ((3 : Nat) = 41 ∧ j = 39) ∨ (3 : Nat) = 58 ∨ (3 : Nat) = 59 ∨ (3 : Nat) = 54 ∨ (3 : Nat) = 55) := (fun q => q.elim (fun h => absurd h.1 (nn rfl)) (fun q => q.elim (fun h => absurd h (nn rfl)) (fun q => q.elim (fun h => absurd h.1 (nn rfl)) (fun q => q.elim (fun h => absurd h.1 (nn rfl)) (fun q => q.elim (fun h => absurd h.1 (nn rfl)) (fun q => q.elim (fun h => absurd h.1 (nn rfl)) (fun q => q.elim (fun h => absurd h.1 (nn rfl)) (fun q => q.elim (fun h => absurd h.1 (nn rfl)) (fun q => q.elim (fun h => absurd h.1 (nn rfl)) (fun q => q.elim (fun h => absurd h.1 (nn rfl)) (fun q => q.elim (fun h => absurd h (nn rfl)) (fun q => q.elim (fun h => absurd h (nn rfl)) (fun q => q.elim (fun h => absurd h (nn rfl)) (fun q => q.elim (fun h => absurd h.1 (nn rfl)) (fun q => q.elim (fun h => absurd h.1 (nn rfl)) (fun q => q.elim (fun h => absurd h.1 (nn rfl)) (fun q => q.elim (fun h => absurd h.1 (nn rfl)) (fun q => q.elim (fun h => absurd h.1 (nn rfl)) (fun q => q.elim (fun h => absurd h (nn rfl)) (fun q => q.elim (fun h => absurd h (nn rfl)) (fun q => q.elim (fun h => absurd h (nn rfl)) (fun h => absurd h (nn rfl)))))))))))))))))))))))
theorem qn_f022a3cdc : ¬ (((41 : Nat) = 41 ∧ (52 : Int) = 0) ∨ (41 : Nat) = 42 ∨ ((41 : Nat) = 41 ∧ (52 : Int) = 2) ∨ ((41 : Nat) = 41 ∧ (52 : Int) = 3) ∨ ((41 : Nat) = 41 ∧ (52 : Int) = 4) ∨ ((41 : Nat) = 41 ∧ (52 : Int) = 5) ∨ ((41 : Nat) = 41 ∧ (52 : Int) = 6) ∨ ((41 : Nat) = 41 ∧ (52 : Int) = 7) ∨ ((41 : Nat) = 41 ∧ (52 : Int) = 8) ∨ ((41 : Nat) = 41 ∧ (52 : Int) = 34) ∨ (41 : Nat) = 56 ∨ (41 : Nat) = 57 ∨ (41 : Nat) = 60 ∨ ((41 : Nat) = 41 ∧ (52 : Int) = 35) ∨ ((41 : Nat) = 41 ∧ (52 : Int) = 36) ∨ ((41 : Nat) = 41 ∧ (52 : Int) = 37) ∨ ((41 : Nat) = 41 ∧ (52 : Int) = 38) ∨ ((41 : Nat) = 41 ∧ (52 : Int) = 39) ∨ (41 : Nat) = 58 ∨ (41 : Nat) = 59 ∨ (41 : Nat) = 54 ∨ (41 : Nat) = 55) := (fun q => q.elim (fun h => absurd h.2 (ni rfl)) (fun q => q.elim (fun h => absurd h (nn rfl)) (fun q => q.elim (fun h => absurd h.2 (ni rfl)) (fun q => q.elim (fun h => absurd h.2 (ni rfl)) (fun q => q.elim (fun h => absurd h.2 (ni rfl)) (fun q => q.elim (fun h => absurd h.2 (ni rfl)) (fun q => q.elim (fun h => absurd h.2 (ni rfl)) (fun q => q.elim (fun h => absurd h.2 (ni rfl)) (fun q => q.elim (fun h => absurd h.2 (ni rfl)) (fun q => q.elim (fun h => absurd h.2 (ni rfl)) (fun q => q.elim (fun h => absurd h (nn rfl)) (fun q => q.elim (fun h => absurd h (nn rfl)) (fun q => q.elim (fun h => absurd h (nn rfl)) (fun q => q.elim (fun h => absurd h.2 (ni rfl)) (fun q => q.elim (fun h => absurd h.2 (ni rfl)) (fun q => q.elim (fun h => absurd h.2 (ni rfl)) (fun q => q.elim (fun h => absurd h.2 (ni rfl)) (fun q => q.elim (fun h => absurd h.2 (ni rfl)) (fun q => q.elim (fun h => absurd h (nn rfl)) (fun q => q.elim (fun h => absurd h (nn rfl)) (fun q => q.elim (fun h => absurd h (nn rfl)) (fun h => absurd h (nn rfl)))))))))))))))))))))))
theorem qn_863ce923b {j : Int} : ¬ (((2 : Nat) = 41 ∧ j = 0) ∨ (2 : Nat) = 42 ∨ ((2 : Nat) = 41 ∧ j = 2) ∨ ((2 : Nat) = 41 ∧ j = 3) ∨ ((2 : Nat) = 41 ∧ j = 4) ∨ ((2 : Nat) = 41 ∧ j = 5) ∨ ((2 : Nat) = 41 ∧ j = 6) ∨ ((2 : Nat) = 41 ∧ j = 7) ∨ ((2 : Nat) = 41 ∧ j = 8) ∨ ((2 : Nat) = 41 ∧ j = 34) ∨ (2 : Nat) = 56 ∨ (2 : Nat) = 57 ∨ (2 : Nat) = 60 ∨ ((2 : Nat) = 41 ∧ j = 35) ∨ ((2 : Nat) = 41 ∧ j = 36) ∨ ((2 : Nat) = 41 ∧ j = 37) ∨ ((2 : Nat) = 41 ∧ j = 38) ∨ ((2 : Nat) = 41 ∧ j = 39) ∨ (2 : Nat) = 58 ∨ (2 : Nat) = 59 ∨ (2 : Nat) = 54 ∨ (2 : Nat) = 55) := (fun q => q.elim (fun h => absurd h.1 (nn rfl)) (fun q => q.elim (fun h => absurd h (nn rfl)) (fun q => q.elim (fun h => absurd h.1 (nn rfl)) (fun q => q.elim (fun h => absurd h.1 (nn rfl)) (fun q => q.elim (fun h => absurd h.1 (nn rfl)) (fun q => q.elim (fun h => absurd h.1 (nn rfl)) (fun q => q.elim (fun h => absurd h.1 (nn rfl)) (fun q => q.elim (fun h => absurd h.1 (nn rfl)) (fun q => q.elim (fun h => absurd h.1 (nn rfl)) (fun q => q.elim (fun h => absurd h.1 (nn rfl)) (fun q => q.elim (fun h => absurd h (nn rfl)) (fun q => q.elim (fun h => absurd h (nn rfl)) (fun q => q.elim (fun h => absurd h (nn rfl)) (fun q => q.elim (fun h => absurd h.1 (nn rfl)) (fun q => q.elim (fun h => absurd h.1 (nn rfl)) (fun q => q.elim (fun h => absurd h.1 (nn rfl)) (fun q => q.elim (fun h => absurd h.1 (nn rfl)) (fun q => q.elim (fun h => absurd h.1 (nn rfl)) (fun q => q.elim (fun h => absurd h (nn rfl)) (fun q => q.elim (fun h => absurd h (nn rfl)) (fun q => q.elim (fun h => absurd h (nn rfl)) (fun h => absurd h (nn rfl)))))))))))))))))))))))
theorem qn_173504b41 {P : Nat} {j : Int} (hP : P = 13 ∨ P = 25) : ¬ (((2 : Nat) = 1 ∧ j = 1) ∨ ((2 : Nat) = 1 ∧ j = 2) ∨ ((2 : Nat) = 1 ∧ j = 3) ∨ ((2 : Nat) = 1 ∧ j = 4) ∨ ((2 : Nat) = 1 ∧ j = 5) ∨ ((2 : Nat) = 0 ∧ j = 13) ∨ ((2 : Nat) = 7 ∧ j = 1) ∨ ((2 : Nat) = 7 ∧ j = 2) ∨ ((2 : Nat) = 7 ∧ j = 3) ∨ ((2 : Nat) = 7 ∧ j = 4) ∨ (2 : Nat) = 8 ∨ ((2 : Nat) = 3 ∧ j = 3) ∨ (2 : Nat) = 4 ∨ (2 : Nat) = 38 ∨ ((2 : Nat) = 0 ∧ j = 11) ∨ (2 : Nat) = (P + 10) ∨ (2 : Nat) = (P + 11)) := (fun q => q.elim (fun h => absurd h.1 (nn rfl)) (fun q => q.elim (fun h => absurd h.1 (nn rfl)) (fun q => q.elim (fun h => absurd h.1 (nn rfl)) (fun q => q.elim (fun h => absurd h.1 (nn rfl)) (fun q => q.elim (fun h => absurd h.1 (nn rfl)) (fun q => q.elim (fun h => absurd h.1 (nn rfl)) (fun q => q.elim (fun h => absurd h.1 (nn rfl)) (fun q => q.elim (fun h => absurd h.1 (nn rfl)) (fun q => q.elim (fun h => absurd h.1 (nn rfl)) (fun q => q.elim (fun h => absurd h.1 (nn rfl)) (fun q => q.elim (fun h => absurd h (nn rfl)) (fun q => q.elim (fun h => absurd h.1 (nn rfl)) (fun q => q.elim (fun h => absurd h (nn rfl)) (fun q => q.elim (fun h => absurd h (nn rfl)) (fun q => q.elim (fun h => absurd h.1 (nn rfl)) (fun q => q.elim (fun h => absurd h (pn hP rfl rfl)) (fun h => absurd h (pn hP rfl rfl))))))))))))))))))
theorem qn_8baf1d17d {j : Int} : ¬ (((43 : Nat) = 41 ∧ j = 0) ∨ (43 : Nat) = 42 ∨ ((43 : Nat) = 41 ∧ j = 2) ∨ ((43 : Nat) = 41 ∧ j = 3) ∨ ((43 : Nat) = 41 ∧ j = 4) ∨ ((43 : Nat) = 41 ∧ j = 5) ∨ ((43 : Nat) = 41 ∧ j = 6) ∨ ((43 : Nat) = 41 ∧ j = 7) ∨ ((43 : Nat) = 41 ∧ j = 8) ∨ ((43 : Nat) = 41 ∧ j = 34) ∨ (43 : Nat) = 56 ∨ (43 : Nat) = 57 ∨ (43 : Nat) = 60 ∨ ((43 : Nat) = 41 ∧ j = 35) ∨ ((43 : Nat) = 41 ∧ j = 36) ∨ ((43 : Nat) = 41 ∧ j = 37) ∨ ((43 : Nat) = 41 ∧ j = 38) ∨ ((43 : Nat) = 41 ∧ j = 39) ∨ (43 : Nat) = 58 ∨ (43 : Nat) = 59 ∨ (43 : Nat) = 54 ∨ (43 : Nat) = 55) := (fun q => q.elim (fun h => absurd h.1 (nn rfl)) (fun q => q.elim (fun h => absurd h (nn rfl)) (fun q => q.elim (fun h => absurd h.1 (nn rfl)) (fun q => q.elim (fun h => absurd h.1 (nn rfl)) (fun q => q.elim (fun h => absurd h.1 (nn rfl)) (fun q => q.elim (fun h => absurd h.1 (nn rfl)) (fun q => q.elim (fun h => absurd h.1 (nn rfl)) (fun q => q.elim (fun h => absurd h.1 (nn rfl)) (fun q => q.elim (fun h => absurd h.1 (nn rfl)) (fun q => q.elim (fun h => absurd h.1 (nn rfl)) (fun q => q.elim (fun h => absurd h (nn rfl)) (fun q => q.elim (fun h => absurd h (nn rfl)) (fun q => q.elim (fun h => absurd h (nn rfl)) (fun q => q.elim (fun h => absurd h.1 (nn rfl)) (fun q => q.elim (fun h => absurd h.1 (nn rfl)) (fun q => q.elim (fun h => absurd h.1 (nn rfl)) (fun q => q.elim (fun h => absurd h.1 (nn rfl)) (fun q => q.elim (fun h => absurd h.1 (nn rfl)) (fun q => q.elim (fun h => absurd h (nn rfl)) (fun q => q.elim (fun h => absurd h (nn rfl)) (fun q => q.elim (fun h => absurd h (nn rfl)) (fun h => absurd h (nn rfl)))))))))))))))))))))))
theorem qn_db996723a {j : Int} : ¬ (((6 : Nat) = 41 ∧ j = 0) ∨ (6 : Nat) = 42 ∨ ((6 : Nat) = 41 ∧ j = 2) ∨ ((6 : Nat) = 41 ∧ j = 3) ∨ ((6 : Nat) = 41 ∧ j = 4) ∨ ((6 : Nat) = 41 ∧ j = 5) ∨ ((6 : Nat) = 41 ∧ j = 6) ∨ ((6 : Nat) = 41 ∧ j = 7) ∨ ((6 : Nat) = 41 ∧ j = 8) ∨ ((6 : Nat) = 41 ∧ j = 34) ∨ (6 : Nat) = 56 ∨ (6 : Nat) = 57 ∨ (6 : Nat) = 60 ∨ ((6 : Nat) = 41 ∧ j = 35) ∨ ((6 : Nat) = 41 ∧ j = 36) ∨ ((6 : Nat) = 41 ∧ j = 37) ∨ ((6 : Nat) = 41 ∧ j = 38) ∨ ((6 : Nat) = 41 ∧ j = 39) ∨ (6 : Nat) = 58 ∨ (6 : Nat) = 59 ∨ (6 : Nat) = 54 ∨ (6 : Nat) = 55) := (fun q => q.elim (fun h => absurd h.1 (nn rfl)) (fun q => q.elim (fun h => absurd h (nn rfl)) (fun q => q.elim (fun h => absurd h.1 (nn rfl)) (fun q => q.elim (fun h => absurd h.1 (nn rfl)) (fun q => q.elim (fun h => absurd h.1 (nn rfl)) (fun q => q.elim (fun h => absurd h.1 (nn rfl)) (fun q => q.elim (fun h => absurd h.1 (nn rfl)) (fun q => q.elim (fun h => absurd h.1 (nn rfl)) (fun q => q.elim (fun h => absurd h.1 (nn rfl)) (fun q => q.elim (fun h => absurd h.1 (nn rfl)) (fun q => q.elim (fun h => absurd h (nn rfl)) (fun q => q.elim (fun h => absurd h (nn rfl)) (fun q => q.elim (fun h => absurd h (nn rfl)) (fun q => q.elim (fun h => absurd h.1 (nn rfl)) (fun q => q.elim (fun h => absurd h.1 (nn rfl)) (fun q => q.elim (fun h => absurd h.1 (nn rfl)) (fun q => q.elim (fun h => absurd h.1 (nn rfl)) (fun q => q.elim (fun h => absurd h.1 (nn rfl)) (fun q => q.elim (fun h => absurd h (nn rfl)) (fun q => q.elim (fun h => absurd h (nn rfl)) (fun q => q.elim (fun h => absurd h (nn rfl)) (fun h => absurd h (nn rfl)))))))))))))))))))))))
theorem qn_04be5b8e1 {P : Nat} {j : Int} (hP : P = 13 ∨ P = 25) : ¬ (((6 : Nat) = 1 ∧ j = 1) ∨ ((6 : Nat) = 1 ∧ j = 2) ∨ ((6 : Nat) = 1 ∧ j = 3) ∨ ((6 : Nat) = 1 ∧ j = 4) ∨ ((6 : Nat) = 1 ∧ j = 5) ∨ ((6 : Nat) = 0 ∧ j = 13) ∨ ((6 : Nat) = 7 ∧ j = 1) ∨ ((6 : Nat) = 7 ∧ j = 2) ∨ ((6 : Nat) = 7 ∧ j = 3) ∨ ((6 : Nat) = 7 ∧ j = 4) ∨ (6 : Nat) = 8 ∨ ((6 : Nat) = 3 ∧ j = 3) ∨ (6 : Nat) = 4 ∨ (6 : Nat) = 38 ∨ ((6 : Nat) = 0 ∧ j = 11) ∨ (6 : Nat) = (P + 10) ∨ (6 : Nat) = (P + 11)) := (fun q => q.elim (fun h => absurd h.1 (nn rfl)) (fun q => q.elim (fun h => absurd h.1 (nn rfl)) (fun q => q.elim (fun h => absurd h.1 (nn rfl)) (fun q => q.elim (fun h => absurd h.1 (nn rfl)) (fun q => q.elim (fun h => absurd h.1 (nn rfl)) (fun q => q.elim (fun h => absurd h.1 (nn rfl)) (fun q => q.elim (fun h => absurd h.1 (nn rfl)) (fun q => q.elim (fun h => absurd h.1 (nn rfl)) (fun q => q.elim (fun h => absurd h.1 (nn rfl)) (fun q => q.elim (fun h => absurd h.1 (nn rfl)) (fun q => q.elim (fun h => absurd h (nn rfl)) (fun q => q.elim (fun h => absurd h.1 (nn rfl)) (fun q => q.elim (fun h => absurd h (nn rfl)) (fun q => q.elim (fun h => absurd h (nn rfl)) (fun q => q.elim (fun h => absurd h.1 (nn rfl)) (fun q => q.elim (fun h => absurd h (pn hP rfl rfl)) (fun h => absurd h (pn hP rfl rfl))))))))))))))))))
theorem qn_6ae98eddc {j : Int} : ¬ (((66 : Nat) = 41 ∧ j = 0) ∨ (66 : Nat) = 42 ∨ ((66 : Nat) = 41 ∧ j = 2) ∨ ((66 : Nat) = 41 ∧ j = 3) ∨ ((66 : Nat) = 41 ∧ j = 4) ∨ ((66 : Nat) = 41 ∧ j = 5) ∨ ((66 : Nat) = 41 ∧ j = 6) ∨ ((66 : Nat) = 41 ∧ j = 7) ∨ ((66 : Nat) = 41 ∧ j = 8) ∨ ((66 : Nat) = 41 ∧ j = 34) ∨ (66 : Nat) = 56 ∨ (66 : Nat) = 57 ∨ (66 : Nat) = 60 ∨ ((66 : Nat) = 41 ∧ j = 35) ∨ ((66 : Nat) = 41 ∧ j = 36) ∨ ((66 : Nat) = 41 ∧ j = 37) ∨ ((66 : Nat) = 41 ∧ j = 38) ∨ ((66 : Nat) = 41 ∧ j = 39) ∨ (66 : Nat) = 58 ∨ (66 : Nat) = 59 ∨ (66 : Nat) = 54 ∨ (66 : Nat) = 55) := (fun q => q.elim (fun h => absurd h.1 (nn rfl)) (fun q => q.elim (fun h => absurd h (nn rfl)) (fun q => q.elim (fun h => absurd h.1 (nn rfl)) (fun q => q.elim (fun h => absurd h.1 (nn rfl)) (fun q => q.elim (fun h => absurd h.1 (nn rfl)) (fun q => q.elim (fun h => absurd h.1 (nn rfl)) (fun q => q.elim (fun h => absurd h.1 (nn rfl)) (fun q => q.elim (fun h => absurd h.1 (nn rfl)) (fun q => q.elim (fun h => absurd h.1 (nn rfl)) (fun q => q.elim (fun h => absurd h.1 (nn rfl)) (fun q => q.elim (fun h => absurd h (nn rfl)) (fun q => q.elim (fun h => absurd h (nn rfl)) (fun q => q.elim (fun h => absurd h (nn rfl)) (fun q => q.elim (fun h => absurd h.1 (nn rfl)) (fun q => q.elim (fun h => absurd h.1 (nn rfl)) (fun q => q.elim (fun h => absurd h.1 (nn rfl)) (fun q => q.elim (fun h => absurd h.1 (nn rfl)) (fun q => q.elim (fun h => absurd h.1 (nn rfl)) (fun q => q.elim (fun h => absurd h (nn rfl)) (fun q => q.elim (fun h => absurd h (nn rfl)) (fun q => q.elim (fun h => absurd h (nn rfl)) (fun h => absurd h (nn rfl)))))))))))))))))))))))
theorem qn_e2ead8ce9 {P : Nat} {j : Int} (hP : P = 13 ∨ P = 25) : ¬ (((66 : Nat) = 1 ∧ j = 1) ∨ ((66 : Nat) = 1 ∧ j = 2) ∨ ((66 : Nat) = 1 ∧ j = 3) ∨ ((66 : Nat) = 1 ∧ j = 4) ∨ ((66 : Nat) = 1 ∧ j = 5) ∨ ((66 : Nat) = 0 ∧ j = 13) ∨ ((66 : Nat) = 7 ∧ j = 1) ∨ ((66 : Nat) = 7 ∧ j = 2) ∨ ((66 : Nat) = 7 ∧ j = 3) ∨ ((66 : Nat) = 7 ∧ j = 4) ∨ (66 : Nat) = 8 ∨ ((66 : Nat) = 3 ∧ j = 3) ∨ (66 : Nat) = 4 ∨ (66 : Nat) = 38 ∨ ((66 : Nat) = 0 ∧ j = 11) ∨ (66 : Nat) = (P + 10) ∨ (66 : Nat) = (P + 11)) := (fun q => q.elim (fun h => absurd h.1 (nn rfl)) (fun q => q.elim (fun h => absurd h.1 (nn rfl)) (fun q => q.elim (fun h => absurd h.1 (nn rfl)) (fun q => q.elim (fun h => absurd h.1 (nn rfl)) (fun q => q.elim (fun h => absurd h.1 (nn rfl)) (fun q => q.elim (fun h => absurd h.1 (nn rfl)) (fun q => q.elim (fun h => absurd h.1 (nn rfl)) (fun q => q.elim (fun h => absurd h.1 (nn rfl)) (fun q => q.elim (fun h => absurd h.1 (nn rfl)) (fun q => q.elim (fun h => absurd h.1 (nn rfl)) (fun q => q.elim (fun h => absurd h (nn rfl)) (fun q => q.elim (fun h => absurd h.1 (nn rfl)) (fun q => q.elim (fun h => absurd h (nn rfl)) (fun q => q.elim (fun h => absurd h (nn rfl)) (fun q => q.elim (fun h => absurd h.1 (nn rfl)) (fun q => q.elim (fun h => absurd h (pn hP rfl rfl)) (fun h => absurd h (pn hP rfl rfl))))))))))))))))))
theorem qn_1b494c190 {P : Nat} {j : Int} (hP : P = 13 ∨ P = 25) : ¬ (((41 : Nat) = 1 ∧ j = 1) ∨ ((41 : Nat) = 1 ∧ j = 2) ∨ ((41 : Nat) = 1 ∧ j = 3) ∨ ((41 : Nat) = 1 ∧ j = 4) ∨ ((41 : Nat) = 1 ∧ j = 5) ∨ ((41 : Nat) = 0 ∧ j = 13) ∨ ((41 : Nat) = P ∧ j = 4) ∨ (41 : Nat) = (P + 4) ∨ (41 : Nat) = (P + 5)) := (fun q => q.elim (fun h => absurd h.1 (nn rfl)) (fun q => q.elim (fun h => absurd h.1 (nn rfl)) (fun q => q.elim (fun h => absurd h.1 (nn rfl)) (fun q => q.elim (fun h => absurd h.1 (nn rfl)) (fun q => q.elim (fun h => absurd h.1 (nn rfl)) (fun q => q.elim (fun h => absurd h.1 (nn rfl)) (fun q => q.elim (fun h => absurd h.1 (pn0 hP rfl)) (fun q => q.elim (fun h => absurd h (pn hP rfl rfl)) (fun h => absurd h (pn hP rfl rfl))))))))))
theorem q_349ccc1a6 {x0 x1 x2 : Int} (f0 : (x0 = 0 ∧ x1 ≥ 0 ∧ x1 ≤ x2 ∧ x1 ≤ 60)) : (-2147483648) ≤ x1 := by omega
theorem q_147cf96f9 {x0 x1 x2 : Int} (f0 : (x0 = 0 ∧ x1 ≥ 0 ∧ x1 ≤ x2 ∧ x1 ≤ 60)) : x1 ≤ 2147483647 := by omega
theorem q_58c0f0e33 {x0 x1 x2 : Int} (f0 : (x0 = 0 ∧ x1 ≥ 0 ∧ x1 ≤ x2 ∧ x1 ≤ 60)) : 0 ≤ x1 := by omega
theorem q_5dc128a52 {x0 x1 x2 : Int} (f0 : (x0 = 0 ∧ x1 ≥ 0 ∧ x1 ≤ x2 ∧ x1 ≤ 60)) : x1 ≤ (x2) := by omega
theorem q_d9577e97e {x0 x1 x2 : Int} (f0 : (x0 = 0 ∧ x1 ≥ 0 ∧ x1 ≤ x2 ∧ x1 ≤ 60)) : x1 ≤ 60 := by omega
theorem qn_451f4811a {P : Nat} {j : Int} (hP : P = 13 ∨ P = 25) : ¬ (((43 : Nat) = 1 ∧ j = 1) ∨ ((43 : Nat) = 1 ∧ j = 2) ∨ ((43 : Nat) = 1 ∧ j = 3) ∨ ((43 : Nat) = 1 ∧ j = 4) ∨ ((43 : Nat) = 1 ∧ j = 5) ∨ ((43 : Nat) = 0 ∧ j = 13) ∨ ((43 : Nat) = P ∧ j = 4) ∨ (43 : Nat) = (P + 4) ∨ (43 : Nat) = (P + 5)) := (fun q => q.elim (fun h => absurd h.1 (nn rfl)) (fun q => q.elim (fun h => absurd h.1 (nn rfl)) (fun q => q.elim (fun h => absurd h.1 (nn rfl)) (fun q => q.elim (fun h => absurd h.1 (nn rfl)) (fun q => q.elim (fun h => absurd h.1 (nn rfl)) (fun q => q.elim (fun h => absurd h.1 (nn rfl)) (fun q => q.elim (fun h => absurd h.1 (pn0 hP rfl)) (fun q => q.elim (fun h => absurd h (pn hP rfl rfl)) (fun h => absurd h (pn hP rfl rfl))))))))))
theorem qn_ee2350d59 {j : Int} : ¬ (((1 : Nat) = 41 ∧ j = 0) ∨ (1 : Nat) = 42 ∨ ((1 : Nat) = 41 ∧ j = 2) ∨ ((1 : Nat) = 41 ∧ j = 3) ∨ ((1 : Nat) = 41 ∧ j = 4) ∨ ((1 : Nat) = 41 ∧ j = 5) ∨ ((1 : Nat) = 41 ∧ j = 6) ∨ ((1 : Nat) = 41 ∧ j = 7) ∨ ((1 : Nat) = 41 ∧ j = 8) ∨ ((1 : Nat) = 41 ∧ j = 47) ∨ (1 : Nat) = 61 ∨ (1 : Nat) = 62) := (fun q => q.elim (fun h => absurd h.1 (nn rfl)) (fun q => q.elim (fun h => absurd h (nn rfl)) (fun q => q.elim (fun h => absurd h.1 (nn rfl)) (fun q => q.elim (fun h => absurd h.1 (nn rfl)) (fun q => q.elim (fun h => absurd h.1 (nn rfl)) (fun q => q.elim (fun h => absurd h.1 (nn rfl)) (fun q => q.elim (fun h => absurd h.1 (nn rfl)) (fun q => q.elim (fun h => absurd h.1 (nn rfl)) (fun q => q.elim (fun h => absurd h.1 (nn rfl)) (fun q => q.elim (fun h => absurd h.1 (nn rfl)) (fun q => q.elim (fun h => absurd h (nn rfl)) (fun h => absurd h (nn rfl)))))))))))))
theorem qn_1fe3b6d75 {P : Nat} (hP : P = 13 ∨ P = 25) : ¬ ((P = 1 ∧ (0 : Int) = 1) ∨ (P = 1 ∧ (0 : Int) = 2) ∨ (P = 1 ∧ (0 : Int) = 3) ∨ (P = 1 ∧ (0 : Int) = 4) ∨ (P = 1 ∧ (0 : Int) = 5) ∨ (P = 0 ∧ (0 : Int) = 13) ∨ (P = P ∧ (0 : Int) = 4) ∨ P = (P + 4) ∨ P = (P + 5)) := (fun q => q.elim (fun h => absurd h.1 (np0 hP rfl)) (fun q => q.elim (fun h => absurd h.1 (np0 hP rfl)) (fun q => q.elim (fun h => absurd h.1 (np0 hP rfl)) (fun q => q.elim (fun h => absurd h.1 (np0 hP rfl)) (fun q => q.elim (fun h => absurd h.1 (np0 hP rfl)) (fun q => q.elim (fun h => absurd h.1 (np0 hP rfl)) (fun q => q.elim (fun h => absurd h.2 (ni rfl)) (fun q => q.elim (fun h => absurd h (p0p rfl)) (fun h => absurd h (p0p rfl))))))))))
theorem qn_67aafe213 {P : Nat} {j : Int} (hP : P = 13 ∨ P = 25) : ¬ ((P = 41 ∧ j = 0) ∨ P = 42 ∨ (P = 41 ∧ j = 2) ∨ (P = 41 ∧ j = 3) ∨ (P = 41 ∧ j = 4) ∨ (P = 41 ∧ j = 5) ∨ (P = 41 ∧ j = 6) ∨ (P = 41 ∧ j = 7) ∨ (P = 41 ∧ j = 8) ∨ (P = 41 ∧ j = 47) ∨ P = 61 ∨ P = 62) := (fun q => q.elim (fun h => absurd h.1 (np0 hP rfl)) (fun q => q.elim (fun h => absurd h (np0 hP rfl)) (fun q => q.elim (fun h => absurd h.1 (np0 hP rfl)) (fun q => q.elim (fun h => absurd h.1 (np0 hP rfl)) (fun q => q.elim (fun h => absurd h.1 (np0 hP rfl)) (fun q => q.elim (fun h => absurd h.1 (np0 hP rfl)) (fun q => q.elim (fun h => absurd h.1 (np0 hP rfl)) (fun q => q.elim (fun h => absurd h.1 (np0 hP rfl)) (fun q => q.elim (fun h => absurd h.1 (np0 hP rfl)) (fun q => q.elim (fun h => absurd h.1 (np0 hP rfl)) (fun q => q.elim (fun h => absurd h (np0 hP rfl)) (fun h => absurd h (np0 hP rfl)))))))))))))
theorem qn_6413bf41b : ¬ (((41 : Nat) = 41 ∧ (20 : Int) = 0) ∨ (41 : Nat) = 42 ∨ ((41 : Nat) = 41 ∧ (20 : Int) = 2) ∨ ((41 : Nat) = 41 ∧ (20 : Int) = 3) ∨ ((41 : Nat) = 41 ∧ (20 : Int) = 4) ∨ ((41 : Nat) = 41 ∧ (20 : Int) = 5) ∨ ((41 : Nat) = 41 ∧ (20 : Int) = 6) ∨ ((41 : Nat) = 41 ∧ (20 : Int) = 7) ∨ ((41 : Nat) = 41 ∧ (20 : Int) = 8) ∨ ((41 : Nat) = 41 ∧ (20 : Int) = 47) ∨ (41 : Nat) = 61 ∨ (41 : Nat) = 62) := (fun q => q.elim (fun h => absurd h.2 (ni rfl)) (fun q => q.elim (fun h => absurd h (nn rfl)) (fun q => q.elim (fun h => absurd h.2 (ni rfl)) (fun q => q.elim (fun h => absurd h.2 (ni rfl)) (fun q => q.elim (fun h => absurd h.2 (ni rfl)) (fun q => q.elim (fun h => absurd h.2 (ni rfl)) (fun q => q.elim (fun h => absurd h.2 (ni rfl)) (fun q => q.elim (fun h => absurd h.2 (ni rfl)) (fun q => q.elim (fun h => absurd h.2 (ni rfl)) (fun q => q.elim (fun h => absurd h.2 (ni rfl)) (fun q => q.elim (fun h => absurd h (nn rfl)) (fun h => absurd h (nn rfl)))))))))))))
theorem qn_085b94255 {P : Nat} (hP : P = 13 ∨ P = 25) : ¬ ((P = 1 ∧ (1 : Int) = 1) ∨ (P = 1 ∧ (1 : Int) = 2) ∨ (P = 1 ∧ (1 : Int) = 3) ∨ (P = 1 ∧ (1 : Int) = 4) ∨ (P = 1 ∧ (1 : Int) = 5) ∨ (P = 0 ∧ (1 : Int) = 13) ∨ (P = P ∧ (1 : Int) = 4) ∨ P = (P + 4) ∨ P = (P + 5)) := (fun q => q.elim (fun h => absurd h.1 (np0 hP rfl)) (fun q => q.elim (fun h => absurd h.1 (np0 hP rfl)) (fun q => q.elim (fun h => absurd h.1 (np0 hP rfl)) (fun q => q.elim (fun h => absurd h.1 (np0 hP rfl)) (fun q => q.elim (fun h => absurd h.1 (np0 hP rfl)) (fun q => q.elim (fun h => absurd h.1 (np0 hP rfl)) (fun q => q.elim (fun h => absurd h.2 (ni rfl)) (fun q => q.elim (fun h => absurd h (p0p rfl)) (fun h => absurd h (p0p rfl))))))))))
theorem qn_f569a8578 : ¬ (((41 : Nat) = 41 ∧ (21 : Int) = 0) ∨ (41 : Nat) = 42 ∨ ((41 : Nat) = 41 ∧ (21 : Int) = 2) ∨ ((41 : Nat) = 41 ∧ (21 : Int) = 3) ∨ ((41 : Nat) = 41 ∧ (21 : Int) = 4) ∨ ((41 : Nat) = 41 ∧ (21 : Int) = 5) ∨ ((41 : Nat) = 41 ∧ (21 : Int) = 6) ∨ ((41 : Nat) = 41 ∧ (21 : Int) = 7) ∨ ((41 : Nat) = 41 ∧ (21 : Int) = 8) ∨ ((41 : Nat) = 41 ∧ (21 : Int) = 47) ∨ (41 : Nat) = 61 ∨ (41 : Nat) = 62) := (fun q => q.elim (fun h => absurd h.2 (ni rfl)) (fun q => q.elim (fun h => absurd h (nn rfl)) (fun q => q.elim (fun h => absurd h.2 (ni rfl)) (fun q => q.elim (fun h => absurd h.2 (ni rfl)) (fun q => q.elim (fun h => absurd h.2 (ni rfl)) (fun q => q.elim (fun h => absurd h.2 (ni rfl)) (fun q => q.elim (fun h => absurd h.2 (ni rfl)) (fun q => q.elim (fun h => absurd h.2 (ni rfl)) (fun q => q.elim (fun h => absurd h.2 (ni rfl)) (fun q => q.elim (fun h => absurd h.2 (ni rfl)) (fun q => q.elim (fun h => absurd h (nn rfl)) (fun h => absurd h (nn rfl)))))))))))))
theorem qn_989da5460 {P : Nat} (hP : P = 13 ∨ P = 25) : ¬ ((P = 1 ∧ (2 : Int) = 1) ∨ (P = 1 ∧ (2 : Int) = 2) ∨ (P = 1 ∧ (2 : Int) = 3) ∨ (P = 1 ∧ (2 : Int) = 4) ∨ (P = 1 ∧ (2 : Int) = 5) ∨ (P = 0 ∧ (2 : Int) = 13) ∨ (P = P ∧ (2 : Int) = 4) ∨ P = (P + 4) ∨ P = (P + 5)) := (fun q => q.elim (fun h => absurd h.1 (np0 hP rfl)) (fun q => q.elim (fun h => absurd h.1 (np0 hP rfl)) (fun q => q.elim (fun h => absurd h.1 (np0 hP rfl)) (fun q => q.elim (fun h => absurd h.1 (np0 hP rfl)) (fun q => q.elim (fun h => absurd h.1 (np0 hP rfl)) (fun q => q.elim (fun h => absurd h.1 (np0 hP rfl)) (fun q => q.elim (fun h => absurd h.2 (ni rfl)) (fun q => q.elim (fun h => absurd h (p0p rfl)) (fun h => absurd h (p0p rfl))))))))))
theorem qn_a34b6617d {P : Nat} (hP : P = 13 ∨ P = 25) : ¬ ((P = 1 ∧ (3 : Int) = 1) ∨ (P = 1 ∧ (3 : Int) = 2) ∨ (P = 1 ∧ (3 : Int) = 3) ∨ (P = 1 ∧ (3 : Int) = 4) ∨ (P = 1 ∧ (3 : Int) = 5) ∨ (P = 0 ∧ (3 : Int) = 13) ∨ (P = P ∧ (3 : Int) = 4) ∨ P = (P + 4) ∨ P = (P + 5)) := (fun q => q.elim (fun h => absurd h.1 (np0 hP rfl)) (fun q => q.elim (fun h => absurd h.1 (np0 hP rfl)) (fun q => q.elim (fun h => absurd h.1 (np0 hP rfl)) (fun q => q.elim (fun h => absurd h.1 (np0 hP rfl)) (fun q => q.elim (fun h => absurd h.1 (np0 hP rfl)) (fun q => q.elim (fun h => absurd h.1 (np0 hP rfl)) (fun q => q.elim (fun h => absurd h.2 (ni rfl)) (fun q => q.elim (fun h => absurd h (p0p rfl)) (fun h => absurd h (p0p rfl))))))))))
theorem qn_d599da4e2 : ¬ (((41 : Nat) = 41 ∧ (23 : Int) = 0) ∨ (41 : Nat) = 42 ∨ ((41 : Nat) = 41 ∧ (23 : Int) = 2) ∨ ((41 : Nat) = 41 ∧ (23 : Int) = 3) ∨ ((41 : Nat) = 41 ∧ (23 : Int) = 4) ∨ ((41 : Nat) = 41 ∧ (23 : Int) = 5) ∨ ((41 : Nat) = 41 ∧ (23 : Int) = 6) ∨ ((41 : Nat) = 41 ∧ (23 : Int) = 7) ∨ ((41 : Nat) = 41 ∧ (23 : Int) = 8) ∨ ((41 : Nat) = 41 ∧ (23 : Int) = 47) ∨ (41 : Nat) = 61 ∨ (41 : Nat) = 62) := (fun q => q.elim (fun h => absurd h.2 (ni rfl)) (fun q => q.elim (fun h => absurd h (nn rfl)) (fun q => q.elim (fun h => absurd h.2 (ni rfl)) (fun q => q.elim (fun h => absurd h.2 (ni rfl)) (fun q => q.elim (fun h => absurd h.2 (ni rfl)) (fun q => q.elim (fun h => absurd h.2 (ni rfl)) (fun q => q.elim (fun h => absurd h.2 (ni rfl)) (fun q => q.elim (fun h => absurd h.2 (ni rfl)) (fun q => q.elim (fun h => absurd h.2 (ni rfl)) (fun q => q.elim (fun h => absurd h.2 (ni rfl)) (fun q => q.elim (fun h => absurd h (nn rfl)) (fun h => absurd h (nn rfl)))))))))))))
theorem qn_e7f046477 {P : Nat} {j : Int} (hP : P = 13 ∨ P = 25) : ¬ (((3 : Nat) = 1 ∧ j = 1) ∨ ((3 : Nat) = 1 ∧ j = 2) ∨ ((3 : Nat) = 1 ∧ j = 3) ∨ ((3 : Nat) = 1 ∧ j = 4) ∨ ((3 : Nat) = 1 ∧ j = 5) ∨ ((3 : Nat) = 0 ∧ j = 13) ∨ ((3 : Nat) = P ∧ j = 4) ∨ (3 : Nat) = (P + 4) ∨ (3 : Nat) = (P + 5)) := (fun q => q.elim (fun h => absurd h.1 (nn rfl)) (fun q => q.elim (fun h => absurd h.1 (nn rfl)) (fun q => q.elim (fun h => absurd h.1 (nn rfl)) (fun q => q.elim (fun h => absurd h.1 (nn rfl)) (fun q => q.elim (fun h => absurd h.1 (nn rfl)) (fun q => q.elim (fun h => absurd h.1 (nn rfl)) (fun q => q.elim (fun h => absurd h.1 (pn0 hP rfl)) (fun q => q.elim (fun h => absurd h (pn hP rfl rfl)) (fun h => absurd h (pn hP rfl rfl))))))))))
theorem qn_938e7f3df {j : Int} : ¬ (((3 : Nat) = 41 ∧ j = 0) ∨ (3 : Nat) = 42 ∨ ((3 : Nat) = 41 ∧ j = 2) ∨ ((3 : Nat) = 41 ∧ j = 3) ∨ ((3 : Nat) = 41 ∧ j = 4) ∨ ((3 : Nat) = 41 ∧ j = 5) ∨ ((3 : Nat) = 41 ∧ j = 6) ∨ ((3 : Nat) = 41 ∧ j = 7) ∨ ((3 : Nat) = 41 ∧ j = 8) ∨ ((3 : Nat) = 41 ∧ j = 47) ∨ (3 : Nat) = 61 ∨ (3 : Nat) = 62) := (fun q => q.elim (fun h => absurd h.1 (nn rfl)) (fun q => q.elim (fun h => absurd h (nn rfl)) (fun q => q.elim (fun h => absurd h.1 (nn rfl)) (fun q => q.elim (fun h => absurd h.1 (nn rfl)) (fun q => q.elim (fun h => absurd h.1 (nn rfl)) (fun q => q.elim (fun h => absurd h.1 (nn rfl)) (fun q => q.elim (fun h => absurd h.1 (nn rfl)) (fun q => q.elim (fun h => absurd h.1 (nn rfl)) (fun q => q.elim (fun h => absurd h.1 (nn rfl)) (fun q => q.elim (fun h => absurd h.1 (nn rfl)) (fun q => q.elim (fun h => absurd h (nn rfl)) (fun h => absurd h (nn rfl)))))))))))))
theorem qn_931493540 : ¬ (((41 : Nat) = 41 ∧ (52 : Int) = 0) ∨ (41 : Nat) = 42 ∨ ((41 : Nat) = 41 ∧ (52 : Int) = 2) ∨ ((41 : Nat) = 41 ∧ (52 : Int) = 3) ∨ ((41 : Nat) = 41 ∧ (52 : Int) = 4) ∨ ((41 : Nat) = 41 ∧ (52 : Int) = 5) ∨ ((41 : Nat) = 41 ∧ (52 : Int) = 6) ∨ ((41 : Nat) = 41 ∧ (52 : Int) = 7) ∨ ((41 : Nat) = 41 ∧ (52 : Int) = 8) ∨ ((41 : Nat) = 41 ∧ (52 : Int) = 47) ∨ (41 : Nat) = 61 ∨ (41 : Nat) = 62) := (fun q => q.elim (fun h => absurd h.2 (ni rfl)) (fun q => q.elim (fun h => absurd h (nn rfl)) (fun q => q.elim (fun h => absurd h.2 (ni rfl)) (fun q => q.elim (fun h => absurd h.2 (ni rfl)) (fun q => q.elim (fun h => absurd h.2 (ni rfl)) (fun q => q.elim (fun h => absurd h.2 (ni rfl)) (fun q => q.elim (fun h => absurd h.2 (ni rfl)) (fun q => q.elim (fun h => absurd h.2 (ni rfl)) (fun q => q.elim (fun h => absurd h.2 (ni rfl)) (fun q => q.elim (fun h => absurd h.2 (ni rfl)) (fun q => q.elim (fun h => absurd h (nn rfl)) (fun h => absurd h (nn rfl)))))))))))))
theorem qn_e6684ab8f : ¬ (((41 : Nat) = 41 ∧ (35 : Int) = 0) ∨ (41 : Nat) = 42 ∨ ((41 : Nat) = 41 ∧ (35 : Int) = 2) ∨ ((41 : Nat) = 41 ∧ (35 : Int) = 3) ∨ ((41 : Nat) = 41 ∧ (35 : Int) = 4) ∨ ((41 : Nat) = 41 ∧ (35 : Int) = 5) ∨ ((41 : Nat) = 41 ∧ (35 : Int) = 6) ∨ ((41 : Nat) = 41 ∧ (35 : Int) = 7) ∨ ((41 : Nat) = 41 ∧ (35 : Int) = 8) ∨ ((41 : Nat) = 41 ∧ (35 : Int) = 47) ∨ (41 : Nat) = 61 ∨ (41 : Nat) = 62) := (fun q => q.elim (fun h => absurd h.2 (ni rfl)) (fun q => q.elim (fun h => absurd h (nn rfl)) (fun q => q.elim (fun h => absurd h.2 (ni rfl)) (fun q => q.elim (fun h => absurd h.2 (ni rfl)) (fun q => q.elim (fun h => absurd h.2 (ni rfl)) (fun q => q.elim (fun h => absurd h.2 (ni rfl)) (fun q => q.elim (fun h => absurd h.2 (ni rfl)) (fun q => q.elim (fun h => absurd h.2 (ni rfl)) (fun q => q.elim (fun h => absurd h.2 (ni rfl)) (fun q => q.elim (fun h => absurd h.2 (ni rfl)) (fun q => q.elim (fun h => absurd h (nn rfl)) (fun h => absurd h (nn rfl)))))))))))))
theorem qn_b5489bdb1 {j : Int} : ¬ (((2 : Nat) = 41 ∧ j = 0) ∨ (2 : Nat) = 42 ∨ ((2 : Nat) = 41 ∧ j = 2) ∨ ((2 : Nat) = 41 ∧ j = 3) ∨ ((2 : Nat) = 41 ∧ j = 4) ∨ ((2 : Nat) = 41 ∧ j = 5) ∨ ((2 : Nat) = 41 ∧ j = 6) ∨ ((2 : Nat) = 41 ∧ j = 7) ∨ ((2 : Nat) = 41 ∧ j = 8) ∨ ((2 : Nat) = 41 ∧ j = 47) ∨ (2 : Nat) = 61 ∨ (2 : Nat) = 62) := (fun q => q.elim (fun h => absurd h.1 (nn rfl)) (fun q => q.elim (fun h => absurd h (nn rfl)) (fun q => q.elim (fun h => absurd h.1 (nn rfl)) (fun q => q.elim (fun h => absurd h.1 (nn rfl)) (fun q => q.elim (fun h => absurd h.1 (nn rfl)) (fun q => q.elim (fun h => absurd h.1 (nn rfl)) (fun q => q.elim (fun h => absurd h.1 (nn rfl)) (fun q => q.elim (fun h => absurd h.1 (nn rfl)) (fun q => q.elim (fun h => absurd h.1 (nn rfl)) (fun q => q.elim (fun h => absurd h.1 (nn rfl)) (fun q => q.elim (fun h => absurd h (nn rfl)) (fun h => absurd h (nn rfl)))))))))))))
theorem qn_64e884695 {P : Nat} {j : Int} (hP : P = 13 ∨ P = 25) : ¬ (((2 : Nat) = 1 ∧ j = 1) ∨ ((2 : Nat) = 1 ∧ j = 2) ∨ ((2 : Nat) = 1 ∧ j = 3) ∨ ((2 : Nat) = 1 ∧ j = 4) ∨ ((2 : Nat) = 1 ∧ j = 5) ∨ ((2 : Nat) = 0 ∧ j = 13) ∨ ((2 : Nat) = P ∧ j = 4) ∨ (2 : Nat) = (P + 4) ∨ (2 : Nat) = (P + 5)) := (fun q => q.elim (fun h => absurd h.1 (nn rfl)) (fun q => q.elim (fun h => absurd h.1 (nn rfl)) (fun q => q.elim (fun h => absurd h.1 (nn rfl)) (fun q => q.elim (fun h => absurd h.1 (nn rfl)) (fun q => q.elim (fun h => absurd h.1 (nn rfl)) (fun q => q.elim (fun h => absurd h.1 (nn rfl)) (fun q => q.elim (fun h => absurd h.1 (pn0 hP rfl)) (fun q => q.elim (fun h => absurd h (pn hP rfl rfl)) (fun h => absurd h (pn hP rfl rfl))))))))))
theorem qn_a255de46c {j : Int} : ¬ (((43 : Nat) = 41 ∧ j = 0) ∨ (43 : Nat) = 42 ∨ ((43 : Nat) = 41 ∧ j = 2) ∨ ((43 : Nat) = 41 ∧ j = 3) ∨ ((43 : Nat) = 41 ∧ j = 4) ∨ ((43 : Nat) = 41 ∧ j = 5) ∨ ((43 : Nat) = 41 ∧ j = 6) ∨ ((43 : Nat) = 41 ∧ j = 7) ∨ ((43 : Nat) = 41 ∧ j = 8) ∨ ((43 : Nat) = 41 ∧ j = 47) ∨ (43 : Nat) = 61 ∨ (43 : Nat) = 62) := (fun q => q.elim (fun h => absurd h.1 (nn rfl)) (fun q => q.elim (fun h => absurd h (nn rfl)) (fun q => q.elim (fun h => absurd h.1 (nn rfl)) (fun q => q.elim (fun h => absurd h.1 (nn rfl)) (fun q => q.elim (fun h => absurd h.1 (nn rfl)) (fun q => q.elim (fun h => absurd h.1 (nn rfl)) (fun q => q.elim (fun h => absurd h.1 (nn rfl)) (fun q => q.elim (fun h => absurd h.1 (nn rfl)) (fun q => q.elim (fun h => absurd h.1 (nn rfl)) (fun q => q.elim (fun h => absurd h.1 (nn rfl)) (fun q => q.elim (fun h => absurd h (nn rfl)) (fun h => absurd h (nn rfl)))))))))))))
theorem qn_455997b78 {j : Int} : ¬ (((6 : Nat) = 41 ∧ j = 0) ∨ (6 : Nat) = 42 ∨ ((6 : Nat) = 41 ∧ j = 2) ∨ ((6 : Nat) = 41 ∧ j = 3) ∨ ((6 : Nat) = 41 ∧ j = 4) ∨ ((6 : Nat) = 41 ∧ j = 5) ∨ ((6 : Nat) = 41 ∧ j = 6) ∨ ((6 : Nat) = 41 ∧ j = 7) ∨ ((6 : Nat) = 41 ∧ j = 8) ∨ ((6 : Nat) = 41 ∧ j = 47) ∨ (6 : Nat) = 61 ∨ (6 : Nat) = 62) := (fun q => q.elim (fun h => absurd h.1 (nn rfl)) (fun q => q.elim (fun h => absurd h (nn rfl)) (fun q => q.elim (fun h => absurd h.1 (nn rfl)) (fun q => q.elim (fun h => absurd h.1 (nn rfl)) (fun q => q.elim (fun h => absurd h.1 (nn rfl)) (fun q => q.elim (fun h => absurd h.1 (nn rfl)) (fun q => q.elim (fun h => absurd h.1 (nn rfl)) (fun q => q.elim (fun h => absurd h.1 (nn rfl)) (fun q => q.elim (fun h => absurd h.1 (nn rfl)) (fun q => q.elim (fun h => absurd h.1 (nn rfl)) (fun q => q.elim (fun h => absurd h (nn rfl)) (fun h => absurd h (nn rfl)))))))))))))
theorem qn_cc3ee8b1b {P : Nat} {j : Int} (hP : P = 13 ∨ P = 25) : ¬ (((6 : Nat) = 1 ∧ j = 1) ∨ ((6 : Nat) = 1 ∧ j = 2) ∨ ((6 : Nat) = 1 ∧ j = 3) ∨ ((6 : Nat) = 1 ∧ j = 4) ∨ ((6 : Nat) = 1 ∧ j = 5) ∨ ((6 : Nat) = 0 ∧ j = 13) ∨ ((6 : Nat) = P ∧ j = 4) ∨ (6 : Nat) = (P + 4) ∨ (6 : Nat) = (P + 5)) := (fun q => q.elim (fun h => absurd h.1 (nn rfl)) (fun q => q.elim (fun h => absurd h.1 (nn rfl)) (fun q => q.elim (fun h => absurd h.1 (nn rfl)) (fun q => q.elim (fun h => absurd h.1 (nn rfl)) (fun q => q.elim (fun h => absurd h.1 (nn rfl)) (fun q => q.elim (fun h => absurd h.1 (nn rfl)) (fun q => q.elim (fun h => absurd h.1 (pn0 hP rfl)) (fun q => q.elim (fun h => absurd h (pn hP rfl rfl)) (fun h => absurd h (pn hP rfl rfl))))))))))
theorem qn_b7afdffdc {j : Int} : ¬ (((66 : Nat) = 41 ∧ j = 0) ∨ (66 : Nat) = 42 ∨ ((66 : Nat) = 41 ∧ j = 2) ∨ ((66 : Nat) = 41 ∧ j = 3) ∨ ((66 : Nat) = 41 ∧ j = 4) ∨ ((66 : Nat) = 41 ∧ j = 5) ∨ ((66 : Nat) = 41 ∧ j = 6) ∨ ((66 : Nat) = 41 ∧ j = 7) ∨ ((66 : Nat) = 41 ∧ j = 8) ∨ ((66 : Nat) = 41 ∧ j = 47) ∨ (66 : Nat) = 61 ∨ (66 : Nat) = 62) := (fun q => q.elim (fun h => absurd h.1 (nn rfl)) (fun q => q.elim (fun h => absurd h (nn rfl)) (fun q => q.elim (fun h => absurd h.1 (nn rfl)) (fun q => q.elim (fun h => absurd h.1 (nn rfl)) (fun q => q.elim (fun h => absurd h.1 (nn rfl)) (fun q => q.elim (fun h => absurd h.1 (nn rfl)) (fun q => q.elim (fun h => absurd h.1 (nn rfl)) (fun q => q.elim (fun h => absurd h.1 (nn rfl)) (fun q => q.elim (fun h => absurd h.1 (nn rfl)) (fun q => q.elim (fun h => absurd h.1 (nn rfl)) (fun q => q.elim (fun h => absurd h (nn rfl)) (fun h => absurd h (nn rfl)))))))))))))
theorem qn_e6749617a {P : Nat} {j : Int} (hP : P = 13 ∨ P = 25) : ¬ (((66 : Nat) = 1 ∧ j = 1) ∨ ((66 : Nat) = 1 ∧ j = 2) ∨ ((66 : Nat) = 1 ∧ j = 3) ∨ ((66 : Nat) = 1 ∧ j = 4) ∨ ((66 : Nat) = 1 ∧ j = 5) ∨ ((66 : Nat) = 0 ∧ j = 13) ∨ ((66 : Nat) = P ∧ j = 4) ∨ (66 : Nat) = (P + 4) ∨ (66 : Nat) = (P + 5)) := (fun q => q.elim (fun h => absurd h.1 (nn rfl)) (fun q => q.elim (fun h => absurd h.1 (nn rfl)) (fun q => q.elim (fun h => absurd h.1 (nn rfl)) (fun q => q.elim (fun h => absurd h.1 (nn rfl)) (fun q => q.elim (fun h => absurd h.1 (nn rfl)) (fun q => q.elim (fun h => absurd h.1 (nn rfl)) (fun q => q.elim (fun h => absurd h.1 (pn0 hP rfl)) (fun q => q.elim (fun h => absurd h (pn hP rfl rfl)) (fun h => absurd h (pn hP rfl rfl))))))))))
theorem qn_f46dc6fb3 {P : Nat} {j : Int} (hP : P = 13 ∨ P = 25) : ¬ (((41 : Nat) = 1 ∧ j = 1) ∨ ((41 : Nat) = 1 ∧ j = 2) ∨ ((41 : Nat) = 1 ∧ j = 3) ∨ ((41 : Nat) = 1 ∧ j = 4) ∨ ((41 : Nat) = 1 ∧ j = 5) ∨ ((41 : Nat) = 0 ∧ j = 13) ∨ ((41 : Nat) = P ∧ j = 5) ∨ (41 : Nat) = (P + 5) ∨ (41 : Nat) = (P + 6)) := (fun q => q.elim (fun h => absurd h.1 (nn rfl)) (fun q => q.elim (fun h => absurd h.1 (nn rfl)) (fun q => q.elim (fun h => absurd h.1 (nn rfl)) (fun q => q.elim (fun h => absurd h.1 (nn rfl)) (fun q => q.elim (fun h => absurd h.1 (nn rfl)) (fun q => q.elim (fun h => absurd h.1 (nn rfl)) (fun q => q.elim (fun h => absurd h.1 (pn0 hP rfl)) (fun q => q.elim (fun h => absurd h (pn hP rfl rfl)) (fun h => absurd h (pn hP rfl rfl))))))))))
theorem qn_bcdf94085 {P : Nat} {j : Int} (hP : P = 13 ∨ P = 25) : ¬ (((43 : Nat) = 1 ∧ j = 1) ∨ ((43 : Nat) = 1 ∧ j = 2) ∨ ((43 : Nat) = 1 ∧ j = 3) ∨ ((43 : Nat) = 1 ∧ j = 4) ∨ ((43 : Nat) = 1 ∧ j = 5) ∨ ((43 : Nat) = 0 ∧ j = 13) ∨ ((43 : Nat) = P ∧ j = 5) ∨ (43 : Nat) = (P + 5) ∨ (43 : Nat) = (P + 6)) := (fun q => q.elim (fun h => absurd h.1 (nn rfl)) (fun q => q.elim (fun h => absurd h.1 (nn rfl)) (fun q => q.elim (fun h => absurd h.1 (nn rfl)) (fun q => q.elim (fun h => absurd h.1 (nn rfl)) (fun q => q.elim (fun h => absurd h.1 (nn rfl)) (fun q => q.elim (fun h => absurd h.1 (nn rfl)) (fun q => q.elim (fun h => absurd h.1 (pn0 hP rfl)) (fun q => q.elim (fun h => absurd h (pn hP rfl rfl)) (fun h => absurd h (pn hP rfl rfl))))))))))
theorem qn_e4da0ae8c {j : Int} : ¬ (((1 : Nat) = 41 ∧ j = 0) ∨ (1 : Nat) = 42 ∨ ((1 : Nat) = 41 ∧ j = 2) ∨ ((1 : Nat) = 41 ∧ j = 3) ∨ ((1 : Nat) = 41 ∧ j = 4) ∨ ((1 : Nat) = 41 ∧ j = 5) ∨ ((1 : Nat) = 41 ∧ j = 6) ∨ ((1 : Nat) = 41 ∧ j = 7) ∨ ((1 : Nat) = 41 ∧ j = 8) ∨ ((1 : Nat) = 41 ∧ j = 48) ∨ (1 : Nat) = 63 ∨ (1 : Nat) = 64) := (fun q => q.elim (fun h => absurd h.1 (nn rfl)) (fun q => q.elim (fun h => absurd h (nn rfl)) (fun q => q.elim (fun h => absurd h.1 (nn rfl)) (fun q => q.elim (fun h => absurd h.1 (nn rfl)) (fun q => q.elim (fun h => absurd h.1 (nn rfl)) (fun q => q.elim (fun h => absurd h.1 (nn rfl)) (fun q => q.elim (fun h => absurd h.1 (nn rfl)) (fun q => q.elim (fun h => absurd h.1 (nn rfl)) (fun q => q.elim (fun h => absurd h.1 (nn rfl)) (fun q => q.elim (fun h => absurd h.1 (nn rfl)) (fun q => q.elim (fun h => absurd h (nn rfl)) (fun h => absurd h (nn rfl)))))))))))))
theorem qn_a06c5bbb9 {P : Nat} (hP : P = 13 ∨ P = 25) : ¬ ((P = 1 ∧ (0 : Int) = 1) ∨ (P = 1 ∧ (0 : Int) = 2) ∨ (P = 1 ∧ (0 : Int) = 3) ∨ (P = 1 ∧ (0 : Int) = 4) ∨ (P = 1 ∧ (0 : Int) = 5) ∨ (P = 0 ∧ (0 : Int) = 13) ∨ (P = P ∧ (0 : Int) = 5) ∨ P = (P + 5) ∨ P = (P + 6)) := (fun q => q.elim (fun h => absurd h.1 (np0 hP rfl)) (fun q => q.elim (fun h => absurd h.1 (np0 hP rfl)) (fun q => q.elim (fun h => absurd h.1 (np0 hP rfl)) (fun q => q.elim (fun h => absurd h.1 (np0 hP rfl)) (fun q => q.elim (fun h => absurd h.1 (np0 hP rfl)) (fun q => q.elim (fun h => absurd h.1 (np0 hP rfl)) (fun q => q.elim (fun h => absurd h.2 (ni rfl)) (fun q => q.elim (fun h => absurd h (p0p rfl)) (fun h => absurd h (p0p rfl))))))))))
theorem qn_bc95bba4c {P : Nat} {j : Int} (hP : P = 13 ∨ P = 25) : ¬ ((P = 41 ∧ j = 0) ∨ P = 42 ∨ (P = 41 ∧ j = 2) ∨ (P = 41 ∧ j = 3) ∨ (P = 41 ∧ j = 4) ∨ (P = 41 ∧ j = 5) ∨ (P = 41 ∧ j = 6) ∨ (P = 41 ∧ j = 7) ∨ (P = 41 ∧ j = 8) ∨ (P = 41 ∧ j = 48) ∨ P = 63 ∨ P = 64) := (fun q => q.elim (fun h => absurd h.1 (np0 hP rfl)) (fun q => q.elim (fun h => absurd h (np0 hP rfl)) (fun q => q.elim (fun h => absurd h.1 (np0 hP rfl)) (fun q => q.elim (fun h => absurd h.1 (np0 hP rfl)) (fun q => q.elim (fun h => absurd h.1 (np0 hP rfl)) (fun q => q.elim (fun h => absurd h.1 (np0 hP rfl)) (fun q => q.elim (fun h => absurd h.1 (np0 hP rfl)) (fun q => q.elim (fun h => absurd h.1 (np0 hP rfl)) (fun q => q.elim (fun h => absurd h.1 (np0 hP rfl)) (fun q => q.elim (fun h => absurd h.1 (np0 hP rfl)) (fun q => q.elim (fun h => absurd h (np0 hP rfl)) (fun h => absurd h (np0 hP rfl)))))))))))))
theorem qn_aa477815d : ¬ (((41 : Nat) = 41 ∧ (20 : Int) = 0) ∨ (41 : Nat) = 42 ∨ ((41 : Nat) = 41 ∧ (20 : Int) = 2) ∨ ((41 : Nat) = 41 ∧ (20 : Int) = 3) ∨ ((41 : Nat) = 41 ∧ (20 : Int) = 4) ∨ ((41 : Nat) = 41 ∧ (20 : Int) = 5) ∨ ((41 : Nat) = 41 ∧ (20 : Int) = 6) ∨ ((41 : Nat) = 41 ∧ (20 : Int) = 7) ∨ ((41 : Nat) = 41 ∧ (20 : Int) = 8) ∨ ((41 : Nat) = 41 ∧ (20 : Int) = 48) ∨ (41 : Nat) = 63 ∨ (41 : Nat) = 64) := (fun q => q.elim (fun h => absurd h.2 (ni rfl)) (fun q => q.elim (fun h => absurd h (nn rfl)) (fun q => q.elim (fun h => absurd h.2 (ni rfl)) (fun q => q.elim (fun h => absurd h.2 (ni rfl)) (fun q => q.elim (fun h => absurd h.2 (ni rfl)) (fun q => q.elim (fun h => absurd h.2 (ni rfl)) (fun q => q.elim (fun h => absurd h.2 (ni rfl)) (fun q => q.elim (fun h => absurd h.2 (ni rfl)) (fun q => q.elim (fun h => absurd h.2 (ni rfl)) (fun q => q.elim (fun h => absurd h.2 (ni rfl)) (fun q => q.elim (fun h => absurd h (nn rfl)) (fun h => absurd h (nn rfl)))))))))))))
theorem qn_f922313e4 {P : Nat} (hP : P = 13 ∨ P = 25) : ¬ ((P = 1 ∧ (1 : Int) = 1) ∨ (P = 1 ∧ (1 : Int) = 2) ∨ (P = 1 ∧ (1 : Int) = 3) ∨ (P = 1 ∧ (1 : Int) = 4) ∨ (P = 1 ∧ (1 : Int) = 5) ∨ (P = 0 ∧ (1 : Int) = 13) ∨ (P = P ∧ (1 : Int) = 5) ∨ P = (P + 5) ∨ P = (P + 6)) := (fun q => q.elim (fun h => absurd h.1 (np0 hP rfl)) (fun q => q.elim (fun h => absurd h.1 (np0 hP rfl)) (fun q => q.elim (fun h => absurd h.1 (np0 hP rfl)) (fun q => q.elim (fun h => absurd h.1 (np0 hP rfl)) (fun q => q.elim (fun h => absurd h.1 (np0 hP rfl)) (fun q => q.elim (fun h => absurd h.1 (np0 hP rfl)) (fun q => q.elim (fun h => absurd h.2 (ni rfl)) (fun q => q.elim (fun h => absurd h (p0p rfl)) (fun h => absurd h (p0p rfl))))))))))
theorem qn_7936e07cf : ¬ (((41 : Nat) = 41 ∧ (21 : Int) = 0) ∨ (41 : Nat) = 42 ∨ ((41 : Nat) = 41 ∧ (21 : Int) = 2) ∨ ((41 : Nat) = 41 ∧ (21 : Int) = 3) ∨ ((41 : Nat) = 41 ∧ (21 : Int) = 4) ∨ ((41 : Nat) = 41 ∧ (21 : Int) = 5) ∨ ((41 : Nat) = 41 ∧ (21 : Int) = 6) ∨ ((41 : Nat) = 41 ∧ (21 : Int) = 7) ∨ ((41 : Nat) = 41 ∧ (21 : Int) = 8) ∨ ((41 : Nat) = 41 ∧ (21 : Int) = 48) ∨ (41 : Nat) = 63 ∨ (41 : Nat) = 64) := (fun q => q.elim (fun h => absurd h.2 (ni rfl)) (fun q => q.elim (fun h => absurd h (nn rfl)) (fun q => q.elim (fun h => absurd h.2 (ni rfl)) (fun q => q.elim (fun h => absurd h.2 (ni rfl)) (fun q => q.elim (fun h => absurd h.2 (ni rfl)) (fun q => q.elim (fun h => absurd h.2 (ni rfl)) (fun q => q.elim (fun h => absurd h.2 (ni rfl)) (fun q => q.elim (fun h => absurd h.2 (ni rfl)) (fun q => q.elim (fun h => absurd h.2 (ni rfl)) (fun q => q.elim (fun h => absurd h.2 (ni rfl)) (fun q => q.elim (fun h => absurd h (nn rfl)) (fun h => absurd h (nn rfl)))))))))))))
theorem qn_7a4fcc1ca {P : Nat} (hP : P = 13 ∨ P = 25) : ¬ ((P = 1 ∧ (2 : Int) = 1) ∨ (P = 1 ∧ (2 : Int) = 2) ∨ (P = 1 ∧ (2 : Int) = 3) ∨ (P = 1 ∧ (2 : Int) = 4) ∨ (P = 1 ∧ (2 : Int) = 5) ∨ (P = 0 ∧ (2 : Int) = 13) ∨ (P = P ∧ (2 : Int) = 5) ∨ P = (P + 5) ∨ P = (P + 6)) := (fun q => q.elim (fun h => absurd h.1 (np0 hP rfl)) (fun q => q.elim (fun h => absurd h.1 (np0 hP rfl)) (fun q => q.elim (fun h => absurd h.1 (np0 hP rfl)) (fun q => q.elim (fun h => absurd h.1 (np0 hP rfl)) (fun q => q.elim (fun h => absurd h.1 (np0 hP rfl)) (fun q => q.elim (fun h => absurd h.1 (np0 hP rfl)) (fun q => q.elim (fun h => absurd h.2 (ni rfl)) (fun q => q.elim (fun h => absurd h (p0p rfl)) (fun h => absurd h (p0p rfl))))))))))
theorem qn_ee150294c : ¬ (((41 : Nat) = 41 ∧ (22 : Int) = 0) ∨ (41 : Nat) = 42 ∨ ((41 : Nat) = 41 ∧ (22 : Int) = 2) ∨ ((41 : Nat) = 41 ∧ (22 : Int) = 3) ∨ ((41 : Nat) = 41 ∧ (22 : Int) = 4) ∨ ((41 : Nat) = 41 ∧ (22 : Int) = 5) ∨ ((41 : Nat) = 41 ∧ (22 : Int) = 6) ∨ ((41 : Nat) = 41 ∧ (22 : Int) = 7) ∨ ((41 : Nat) = 41 ∧ (22 : Int) = 8) ∨ ((41 : Nat) = 41 ∧ (22 : Int) = 48) ∨ (41 : Nat) = 63 ∨ (41 : Nat) = 64) := (fun q => q.elim (fun h => absurd h.2 (ni rfl)) (fun q => q.elim (fun h => absurd h (nn rfl)) (fun q => q.elim (fun h => absurd h.2 (ni rfl)) (fun q => q.elim (fun h => absurd h.2 (ni rfl)) (fun q => q.elim (fun h => absurd h.2 (ni rfl)) (fun q => q.elim (fun h => absurd h.2 (ni rfl)) (fun q => q.elim (fun h => absurd h.2 (ni rfl)) (fun q => q.elim (fun h => absurd h.2 (ni rfl)) (fun q => q.elim (fun h => absurd h.2 (ni rfl)) (fun q => q.elim (fun h => absurd h.2 (ni rfl)) (fun q => q.elim (fun h => absurd h (nn rfl)) (fun h => absurd h (nn rfl)))))))))))))
theorem qn_ab8d63db3 {P : Nat} (hP : P = 13 ∨ P = 25) : ¬ ((P = 1 ∧ (3 : Int) = 1) ∨ (P = 1 ∧ (3 : Int) = 2) ∨ (P = 1 ∧ (3 : Int) = 3) ∨ (P = 1 ∧ (3 : Int) = 4) ∨ (P = 1 ∧ (3 : Int) = 5) ∨ (P = 0 ∧ (3 : Int) = 13) ∨ (P = P ∧ (3 : Int) = 5) ∨ P = (P + 5) ∨ P = (P + 6)) := (fun q => q.elim (fun h => absurd h.1 (np0 hP rfl)) (fun q => q.elim (fun h => absurd h.1 (np0 hP rfl)) (fun q => q.elim (fun h => absurd h.1 (np0 hP rfl)) (fun q => q.elim (fun h => absurd h.1 (np0 hP rfl)) (fun q => q.elim (fun h => absurd h.1 (np0 hP rfl)) (fun q => q.elim (fun h => absurd h.1 (np0 hP rfl)) (fun q => q.elim (fun h => absurd h.2 (ni rfl)) (fun q => q.elim (fun h => absurd h (p0p rfl)) (fun h => absurd h (p0p rfl))))))))))
theorem qn_f079f4214 : ¬ (((41 : Nat) = 41 ∧ (23 : Int) = 0) ∨ (41 : Nat) = 42 ∨ ((41 : Nat) = 41 ∧ (23 : Int) = 2) ∨ ((41 : Nat) = 41 ∧ (23 : Int) = 3) ∨ ((41 : Nat) = 41 ∧ (23 : Int) = 4) ∨ ((41 : Nat) = 41 ∧ (23 : Int) = 5) ∨ ((41 : Nat) = 41 ∧ (23 : Int) = 6) ∨ ((41 : Nat) = 41 ∧ (23 : Int) = 7) ∨ ((41 : Nat) = 41 ∧ (23 : Int) = 8) ∨ ((41 : Nat) = 41 ∧ (23 : Int) = 48) ∨ (41 : Nat) = 63 ∨ (41 : Nat) = 64) := (fun q => q.elim (fun h => absurd h.2 (ni rfl)) (fun q => q.elim (fun h => absurd h (nn rfl)) (fun q => q.elim (fun h => absurd h.2 (ni rfl)) (fun q => q.elim (fun h => absurd h.2 (ni rfl)) (fun q => q.elim (fun h => absurd h.2 (ni rfl)) (fun q => q.elim (fun h => absurd h.2 (ni rfl)) (fun q => q.elim (fun h => absurd h.2 (ni rfl)) (fun q => q.elim (fun h => absurd h.2 (ni rfl)) (fun q => q.elim (fun h => absurd h.2 (ni rfl)) (fun q => q.elim (fun h => absurd h.2 (ni rfl)) (fun q => q.elim (fun h => absurd h (nn rfl)) (fun h => absurd h (nn rfl)))))))))))))
theorem qn_7f13ac530 {P : Nat} {j : Int} (hP : P = 13 ∨ P = 25) : ¬ (((3 : Nat) = 1 ∧ j = 1) ∨ ((3 : Nat) = 1 ∧ j = 2) ∨ ((3 : Nat) = 1 ∧ j = 3) ∨ ((3 : Nat) = 1 ∧ j = 4) ∨ ((3 : Nat) = 1 ∧ j = 5) ∨ ((3 : Nat) = 0 ∧ j = 13) ∨ ((3 : Nat) = P ∧ j = 5) ∨ (3 : Nat) = (P + 5) ∨ (3 : Nat) = (P + 6)) := (fun q => q.elim (fun h => absurd h.1 (nn rfl)) (fun q => q.elim (fun h => absurd h.1 (nn rfl)) (fun q => q.elim (fun h => absurd h.1 (nn rfl)) (fun q => q.elim (fun h => absurd h.1 (nn rfl)) (fun q => q.elim (fun h => absurd h.1 (nn rfl)) (fun q => q.elim (fun h => absurd h.1 (nn rfl)) (fun q => q.elim (fun h => absurd h.1 (pn0 hP rfl)) (fun q => q.elim (fun h => absurd h (pn hP rfl rfl)) (fun h => absurd h (pn hP rfl rfl))))))))))
theorem qn_a0ddd52db {j : Int} : ¬ (((3 : Nat) = 41 ∧ j = 0) ∨ (3 : Nat) = 42 ∨ ((3 : Nat) = 41 ∧ j = 2) ∨ ((3 : Nat) = 41 ∧ j = 3) ∨ ((3 : Nat) = 41 ∧ j = 4) ∨ ((3 : Nat) = 41 ∧ j = 5) ∨ ((3 : Nat) = 41 ∧ j = 6) ∨ ((3 : Nat) = 41 ∧ j = 7) ∨ ((3 : Nat) = 41 ∧ j = 8) ∨ ((3 : Nat) = 41 ∧ j = 48) ∨ (3 : Nat) = 63 ∨ (3 : Nat) = 64) := (fun q => q.elim (fun h => absurd h.1 (nn rfl)) (fun q => q.elim (fun h => absurd h (nn rfl)) (fun q => q.elim (fun h => absurd h.1 (nn rfl)) (fun q => q.elim (fun h => absurd h.1 (nn rfl)) (fun q => q.elim (fun h => absurd h.1 (nn rfl)) (fun q => q.elim (fun h => absurd h.1 (nn rfl)) (fun q => q.elim (fun h => absurd h.1 (nn rfl)) (fun q => q.elim (fun h => absurd h.1 (nn rfl)) (fun q => q.elim (fun h => absurd h.1 (nn rfl)) (fun q => q.elim (fun h => absurd h.1 (nn rfl)) (fun q => q.elim (fun h => absurd h (nn rfl)) (fun h => absurd h (nn rfl)))))))))))))
theorem qn_877774147 : ¬ (((41 : Nat) = 41 ∧ (52 : Int) = 0) ∨ (41 : Nat) = 42 ∨ ((41 : Nat) = 41 ∧ (52 : Int) = 2) ∨ ((41 : Nat) = 41 ∧ (52 : Int) = 3) ∨ ((41 : Nat) = 41 ∧ (52 : Int) = 4) ∨ ((41 : Nat) = 41 ∧ (52 : Int) = 5) ∨ ((41 : Nat) = 41 ∧ (52 : Int) = 6) ∨ ((41 : Nat) = 41 ∧ (52 : Int) = 7) ∨ ((41 : Nat) = 41 ∧ (52 : Int) = 8) ∨ ((41 : Nat) = 41 ∧ (52 : Int) = 48) ∨ (41 : Nat) = 63 ∨ (41 : Nat) = 64) := (fun q => q.elim (fun h => absurd h.2 (ni rfl)) (fun q => q.elim (fun h => absurd h (nn rfl)) (fun q => q.elim (fun h => absurd h.2 (ni rfl)) (fun q => q.elim (fun h => absurd h.2 (ni rfl)) (fun q => q.elim (fun h => absurd h.2 (ni rfl)) (fun q => q.elim (fun h => absurd h.2 (ni rfl)) (fun q => q.elim (fun h => absurd h.2 (ni rfl)) (fun q => q.elim (fun h => absurd h.2 (ni rfl)) (fun q => q.elim (fun h => absurd h.2 (ni rfl)) (fun q => q.elim (fun h => absurd h.2 (ni rfl)) (fun q => q.elim (fun h => absurd h (nn rfl)) (fun h => absurd h (nn rfl)))))))))))))
theorem qn_77c6ffb78 : ¬ (((41 : Nat) = 41 ∧ (35 : Int) = 0) ∨ (41 : Nat) = 42 ∨ ((41 : Nat) = 41 ∧ (35 : Int) = 2) ∨ ((41 : Nat) = 41 ∧ (35 : Int) = 3) ∨ ((41 : Nat) = 41 ∧ (35 : Int) = 4) ∨ ((41 : Nat) = 41 ∧ (35 : Int) = 5) ∨ ((41 : Nat) = 41 ∧ (35 : Int) = 6) ∨ ((41 : Nat) = 41 ∧ (35 : Int) = 7) ∨ ((41 : Nat) = 41 ∧ (35 : Int) = 8) ∨ ((41 : Nat) = 41 ∧ (35 : Int) = 48) ∨ (41 : Nat) = 63 ∨ (41 : Nat) = 64) := (fun q => q.elim (fun h => absurd h.2 (ni rfl)) (fun q => q.elim (fun h => absurd h (nn rfl)) (fun q => q.elim (fun h => absurd h.2 (ni rfl)) (fun q => q.elim (fun h => absurd h.2 (ni rfl)) (fun q => q.elim (fun h => absurd h.2 (ni rfl)) (fun q => q.elim (fun h => absurd h.2 (ni rfl)) (fun q => q.elim (fun h => absurd h.2 (ni rfl)) (fun q => q.elim (fun h => absurd h.2 (ni rfl)) (fun q => q.elim (fun h => absurd h.2 (ni rfl)) (fun q => q.elim (fun h => absurd h.2 (ni rfl)) (fun q => q.elim (fun h => absurd h (nn rfl)) (fun h => absurd h (nn rfl)))))))))))))
theorem qn_2fc470899 {j : Int} : ¬ (((2 : Nat) = 41 ∧ j = 0) ∨ (2 : Nat) = 42 ∨ ((2 : Nat) = 41 ∧ j = 2) ∨ ((2 : Nat) = 41 ∧ j = 3) ∨ ((2 : Nat) = 41 ∧ j = 4) ∨ ((2 : Nat) = 41 ∧ j = 5) ∨ ((2 : Nat) = 41 ∧ j = 6) ∨ ((2 : Nat) = 41 ∧ j = 7) ∨ ((2 : Nat) = 41 ∧ j = 8) ∨ ((2 : Nat) = 41 ∧ j = 48) ∨ (2 : Nat) = 63 ∨ (2 : Nat) = 64) := (fun q => q.elim (fun h => absurd h.1 (nn rfl)) (fun q => q.elim (fun h => absurd h (nn rfl)) (fun q => q.elim (fun h => absurd h.1 (nn rfl)) (fun q => q.elim (fun h => absurd h.1 (nn rfl)) (fun q => q.elim (fun h => absurd h.1 (nn rfl)) (fun q => q.elim (fun h => absurd h.1 (nn rfl)) (fun q => q.elim (fun h => absurd h.1 (nn rfl)) (fun q => q.elim (fun h => absurd h.1 (nn rfl)) (fun q => q.elim (fun h => absurd h.1 (nn rfl)) (fun q => q.elim (fun h => absurd h.1 (nn rfl)) (fun q => q.elim (fun h => absurd h (nn rfl)) (fun h => absurd h (nn rfl)))))))))))))
theorem qn_f75877a0d {P : Nat} {j : Int} (hP : P = 13 ∨ P = 25) : ¬ (((2 : Nat) = 1 ∧ j = 1) ∨ ((2 : Nat) = 1 ∧ j = 2) ∨ ((2 : Nat) = 1 ∧ j = 3) ∨ ((2 : Nat) = 1 ∧ j = 4) ∨ ((2 : Nat) = 1 ∧ j = 5) ∨ ((2 : Nat) = 0 ∧ j = 13) ∨ ((2 : Nat) = P ∧ j = 5) ∨ (2 : Nat) = (P + 5) ∨ (2 : Nat) = (P + 6)) := (fun q => q.elim (fun h => absurd h.1 (nn rfl)) (fun q => q.elim (fun h => absurd h.1 (nn rfl)) (fun q => q.elim (fun h => absurd h.1 (nn rfl)) (fun q => q.elim (fun h => absurd h.1 (nn rfl)) (fun q => q.elim (fun h => absurd h.1 (nn rfl)) (fun q => q.elim (fun h => absurd h.1 (nn rfl)) (fun q => q.elim (fun h => absurd h.1 (pn0 hP rfl)) (fun q => q.elim (fun h => absurd h (pn hP rfl rfl)) (fun h => absurd h (pn hP rfl rfl))))))))))
theorem qn_a1452b2ed {j : Int} : ¬ (((43 : Nat) = 41 ∧ j = 0) ∨ (43 : Nat) = 42 ∨ ((43 : Nat) = 41 ∧ j = 2) ∨ ((43 : Nat) = 41 ∧ j = 3) ∨ ((43 : Nat) = 41 ∧ j = 4) ∨ ((43 : Nat) = 41 ∧ j = 5) ∨ ((43 : Nat) = 41 ∧ j = 6) ∨ ((43 : Nat) = 41 ∧ j = 7) ∨ ((43 : Nat) = 41 ∧ j = 8) ∨ ((43 : Nat) = 41 ∧ j = 48) ∨ (43 : Nat) = 63 ∨ (43 : Nat) = 64) := (fun q => q.elim (fun h => absurd h.1 (nn rfl)) (fun q => q.elim (fun h => absurd h (nn rfl)) (fun q => q.elim (fun h => absurd h.1 (nn rfl)) (fun q => q.elim (fun h => absurd h.1 (nn rfl)) (fun q => q.elim (fun h => absurd h.1 (nn rfl)) (fun q => q.elim (fun h => absurd h.1 (nn rfl)) (fun q => q.elim (fun h => absurd h.1 (nn rfl)) (fun q => q.elim (fun h => absurd h.1 (nn rfl)) (fun q => q.elim (fun h => absurd h.1 (nn rfl)) (fun q => q.elim (fun h => absurd h.1 (nn rfl)) (fun q => q.elim (fun h => absurd h (nn rfl)) (fun h => absurd h (nn rfl)))))))))))))
theorem qn_3fa8cd205 {j : Int} : ¬ (((6 : Nat) = 41 ∧ j = 0) ∨ (6 : Nat) = 42 ∨ ((6 : Nat) = 41 ∧ j = 2) ∨ ((6 : Nat) = 41 ∧ j = 3) ∨ ((6 : Nat) = 41 ∧ j = 4) ∨ ((6 : Nat) = 41 ∧ j = 5) ∨ ((6 : Nat) = 41 ∧ j = 6) ∨ ((6 : Nat) = 41 ∧ j = 7) ∨ ((6 : Nat) = 41 ∧ j = 8) ∨ ((6 : Nat) = 41 ∧ j = 48) ∨ (6 : Nat) = 63 ∨ (6 : Nat) = 64) := (fun q => q.elim (fun h => absurd h.1 (nn rfl)) (fun q => q.elim (fun h => absurd h (nn rfl)) (fun q => q.elim (fun h => absurd h.1 (nn rfl)) (fun q => q.elim (fun h => absurd h.1 (nn rfl)) (fun q => q.elim (fun h => absurd h.1 (nn rfl)) (fun q => q.elim (fun h => absurd h.1 (nn rfl)) (fun q => q.elim (fun h => absurd h.1 (nn rfl)) (fun q => q.elim (fun h => absurd h.1 (nn rfl)) (fun q => q.elim (fun h => absurd h.1 (nn rfl)) (fun q => q.elim (fun h => absurd h.1 (nn rfl)) (fun q => q.elim (fun h => absurd h (nn rfl)) (fun h => absurd h (nn rfl)))))))))))))
theorem qn_891661a0a {P : Nat} {j : Int} (hP : P = 13 ∨ P = 25) : ¬ (((6 : Nat) = 1 ∧ j = 1) ∨ ((6 : Nat) = 1 ∧ j = 2) ∨ ((6 : Nat) = 1 ∧ j = 3) ∨ ((6 : Nat) = 1 ∧ j = 4) ∨ ((6 : Nat) = 1 ∧ j = 5) ∨ ((6 : Nat) = 0 ∧ j = 13) ∨ ((6 : Nat) = P ∧ j = 5) ∨ (6 : Nat) = (P + 5) ∨ (6 : Nat) = (P + 6)) := (fun q => q.elim (fun h => absurd h.1 (nn rfl)) (fun q => q.elim (fun h => absurd h.1 (nn rfl)) (fun q => q.elim (fun h => absurd h.1 (nn rfl)) (fun q => q.elim (fun h => absurd h.1 (nn rfl)) (fun q => q.elim (fun h => absurd h.1 (nn rfl)) (fun q => q.elim (fun h => absurd h.1 (nn rfl)) (fun q => q.elim (fun h => absurd h.1 (pn0 hP rfl)) (fun q => q.elim (fun h => absurd h (pn hP rfl rfl)) (fun h => absurd h (pn hP rfl rfl))))))))))
theorem qn_f3f9429c3 {j : Int} : ¬ (((66 : Nat) = 41 ∧ j = 0) ∨ (66 : Nat) = 42 ∨ ((66 : Nat) = 41 ∧ j = 2) ∨ ((66 : Nat) = 41 ∧ j = 3) ∨ ((66 : Nat) = 41 ∧ j = 4) ∨ ((66 : Nat) = 41 ∧ j = 5) ∨ ((66 : Nat) = 41 ∧ j = 6) ∨ ((66 : Nat) = 41 ∧ j = 7) ∨ ((66 : Nat) = 41 ∧ j = 8) ∨ ((66 : Nat) = 41 ∧ j = 48) ∨ (66 : Nat) = 63 ∨ (66 : Nat) = 64) := (fun q => q.elim (fun h => absurd h.1 (nn rfl)) (fun q => q.elim (fun h => absurd h (nn rfl)) (fun q => q.elim (fun h => absurd h.1 (nn rfl)) (fun q => q.elim (fun h => absurd h.1 (nn rfl)) (fun q => q.elim (fun h => absurd h.1 (nn rfl)) (fun q => q.elim (fun h => absurd h.1 (nn rfl)) (fun q => q.elim (fun h => absurd h.1 (nn rfl)) (fun q => q.elim (fun h => absurd h.1 (nn rfl)) (fun q => q.elim (fun h => absurd h.1 (nn rfl)) (fun q => q.elim (fun h => absurd h.1 (nn rfl)) (fun q => q.elim (fun h => absurd h (nn rfl)) (fun h => absurd h (nn rfl)))))))))))))
theorem qn_882c01e17 {P : Nat} {j : Int} (hP : P = 13 ∨ P = 25) : ¬ (((66 : Nat) = 1 ∧ j = 1) ∨ ((66 : Nat) = 1 ∧ j = 2) ∨ ((66 : Nat) = 1 ∧ j = 3) ∨ ((66 : Nat) = 1 ∧ j = 4) ∨ ((66 : Nat) = 1 ∧ j = 5) ∨ ((66 : Nat) = 0 ∧ j = 13) ∨ ((66 : Nat) = P ∧ j = 5) ∨ (66 : Nat) = (P + 5) ∨ (66 : Nat) = (P + 6)) := (fun q => q.elim (fun h => absurd h.1 (nn rfl)) (fun q => q.elim (fun h => absurd h.1 (nn rfl)) (fun q => q.elim (fun h => absurd h.1 (nn rfl)) (fun q => q.elim (fun h => absurd h.1 (nn rfl)) (fun q => q.elim (fun h => absurd h.1 (nn rfl)) (fun q => q.elim (fun h => absurd h.1 (nn rfl)) (fun q => q.elim (fun h => absurd h.1 (pn0 hP rfl)) (fun q => q.elim (fun h => absurd h (pn hP rfl rfl)) (fun h => absurd h (pn hP rfl rfl))))))))))
theorem qn_42c22a4f3 {j : Int} : ¬ (((41 : Nat) = 0 ∧ j = 11) ∨ ((41 : Nat) = 3 ∧ j = 3) ∨ (41 : Nat) = 38) := (fun q => q.elim (fun h => absurd h.1 (nn rfl)) (fun q => q.elim (fun h => absurd h.1 (nn rfl)) (fun h => absurd h (nn rfl))))
theorem qn_6c6a5b112 {j : Int} : ¬ (((1 : Nat) = 0 ∧ j = 11) ∨ ((1 : Nat) = 3 ∧ j = 3) ∨ (1 : Nat) = 38) := (fun q => q.elim (fun h => absurd h.1 (nn rfl)) (fun q => q.elim (fun h => absurd h.1 (nn rfl)) (fun h => absurd h (nn rfl))))
theorem qn_e809d71be {j : Int} : ¬ (((1 : Nat) = 41 ∧ j = 0) ∨ ((1 : Nat) = 41 ∧ j = 35) ∨ ((1 : Nat) = 41 ∧ j = 36) ∨ (1 : Nat) = 58) := (fun q => q.elim (fun h => absurd h.1 (nn rfl)) (fun q => q.elim (fun h => absurd h.1 (nn rfl)) (fun q => q.elim (fun h => absurd h.1 (nn rfl)) (fun h => absurd h (nn rfl)))))
theorem qn_a0e956850 : ¬ (((41 : Nat) = 41 ∧ (2 : Int) = 0) ∨ ((41 : Nat) = 41 ∧ (2 : Int) = 35) ∨ ((41 : Nat) = 41 ∧ (2 : Int) = 36) ∨ (41 : Nat) = 58) := (fun q => q.elim (fun h => absurd h.2 (ni rfl)) (fun q => q.elim (fun h => absurd h.2 (ni rfl)) (fun q => q.elim (fun h => absurd h.2 (ni rfl)) (fun h => absurd h (nn rfl)))))
theorem qn_6b590954a {P : Nat} {j : Int} (hP : P = 13 ∨ P = 25) : ¬ ((P = 0 ∧ j = 11) ∨ (P = 3 ∧ j = 3) ∨ P = 38) := (fun q => q.elim (fun h => absurd h.1 (np0 hP rfl)) (fun q => q.elim (fun h => absurd h.1 (np0 hP rfl)) (fun h => absurd h (np0 hP rfl))))
theorem qn_1f11d8d5e {P : Nat} {j : Int} (hP : P = 13 ∨ P = 25) : ¬ ((P = 41 ∧ j = 0) ∨ (P = 41 ∧ j = 35) ∨ (P = 41 ∧ j = 36) ∨ P = 58) := (fun q => q.elim (fun h => absurd h.1 (np0 hP rfl)) (fun q => q.elim (fun h => absurd h.1 (np0 hP rfl)) (fun q => q.elim (fun h => absurd h.1 (np0 hP rfl)) (fun h => absurd h (np0 hP rfl)))))
theorem qn_f052b872f : ¬ (((41 : Nat) = 41 ∧ (20 : Int) = 0) ∨ ((41 : Nat) = 41 ∧ (20 : Int) = 35) ∨ ((41 : Nat) = 41 ∧ (20 : Int) = 36) ∨ (41 : Nat) = 58) := (fun q => q.elim (fun h => absurd h.2 (ni rfl)) (fun q => q.elim (fun h => absurd h.2 (ni rfl)) (fun q => q.elim (fun h => absurd h.2 (ni rfl)) (fun h => absurd h (nn rfl)))))
theorem qn_2b743be81 : ¬ (((41 : Nat) = 41 ∧ (21 : Int) = 0) ∨ ((41 : Nat) = 41 ∧ (21 : Int) = 35) ∨ ((41 : Nat) = 41 ∧ (21 : Int) = 36) ∨ (41 : Nat) = 58) := (fun q => q.elim (fun h => absurd h.2 (ni rfl)) (fun q => q.elim (fun h => absurd h.2 (ni rfl)) (fun q => q.elim (fun h => absurd h.2 (ni rfl)) (fun h => absurd h (nn rfl)))))
theorem qn_447ab7c5f : ¬ (((41 : Nat) = 41 ∧ (22 : Int) = 0) ∨ ((41 : Nat) = 41 ∧ (22 : Int) = 35) ∨ ((41 : Nat) = 41 ∧ (22 : Int) = 36) ∨ (41 : Nat) = 58) := (fun q => q.elim (fun h => absurd h.2 (ni rfl)) (fun q => q.elim (fun h => absurd h.2 (ni rfl)) (fun q => q.elim (fun h => absurd h.2 (ni rfl)) (fun h => absurd h (nn rfl)))))
theorem qn_f6a0ac252 : ¬ (((41 : Nat) = 41 ∧ (23 : Int) = 0) ∨ ((41 : Nat) = 41 ∧ (23 : Int) = 35) ∨ ((41 : Nat) = 41 ∧ (23 : Int) = 36) ∨ (41 : Nat) = 58) := (fun q => q.elim (fun h => absurd h.2 (ni rfl)) (fun q => q.elim (fun h => absurd h.2 (ni rfl)) (fun q => q.elim (fun h => absurd h.2 (ni rfl)) (fun h => absurd h (nn rfl)))))
theorem qn_c9ddecc28 : ¬ (((3 : Nat) = 0 ∧ (4 : Int) = 11) ∨ ((3 : Nat) = 3 ∧ (4 : Int) = 3) ∨ (3 : Nat) = 38) := (fun q => q.elim (fun h => absurd h.1 (nn rfl)) (fun q => q.elim (fun h => absurd h.2 (ni rfl)) (fun h => absurd h (nn rfl))))
theorem qn_e5b32c825 {j : Int} : ¬ (((3 : Nat) = 41 ∧ j = 0) ∨ ((3 : Nat) = 41 ∧ j = 35) ∨ ((3 : Nat) = 41 ∧ j = 36) ∨ (3 : Nat) = 58) := (fun q => q.elim (fun h => absurd h.1 (nn rfl)) (fun q => q.elim (fun h => absurd h.1 (nn rfl)) (fun q => q.elim (fun h => absurd h.1 (nn rfl)) (fun h => absurd h (nn rfl)))))
theorem qn_be41875ab : ¬ (((41 : Nat) = 41 ∧ (52 : Int) = 0) ∨ ((41 : Nat) = 41 ∧ (52 : Int) = 35) ∨ ((41 : Nat) = 41 ∧ (52 : Int) = 36) ∨ (41 : Nat) = 58) := (fun q => q.elim (fun h => absurd h.2 (ni rfl)) (fun q => q.elim (fun h => absurd h.2 (ni rfl)) (fun q => q.elim (fun h => absurd h.2 (ni rfl)) (fun h => absurd h (nn rfl)))))
theorem qn_cbe4cb7d1 : ¬ (((41 : Nat) = 41 ∧ (8 : Int) = 0) ∨ ((41 : Nat) = 41 ∧ (8 : Int) = 35) ∨ ((41 : Nat) = 41 ∧ (8 : Int) = 36) ∨ (41 : Nat) = 58) := (fun q => q.elim (fun h => absurd h.2 (ni rfl)) (fun q => q.elim (fun h => absurd h.2 (ni rfl)) (fun q => q.elim (fun h => absurd h.2 (ni rfl)) (fun h => absurd h (nn rfl)))))
theorem qn_f12bc0175 {j : Int} : ¬ (((2 : Nat) = 41 ∧ j = 0) ∨ ((2 : Nat) = 41 ∧ j = 35) ∨ ((2 : Nat) = 41 ∧ j = 36) ∨ (2 : Nat) = 58) := (fun q => q.elim (fun h => absurd h.1 (nn rfl)) (fun q => q.elim (fun h => absurd h.1 (nn rfl)) (fun q => q.elim (fun h => absurd h.1 (nn rfl)) (fun h => absurd h (nn rfl)))))
theorem qn_a6915fafb {j : Int} : ¬ (((2 : Nat) = 0 ∧ j = 11) ∨ ((2 : Nat) = 3 ∧ j = 3) ∨ (2 : Nat) = 38) := (fun q => q.elim (fun h => absurd h.1 (nn rfl)) (fun q => q.elim (fun h => absurd h.1 (nn rfl)) (fun h => absurd h (nn rfl))))
theorem qn_8711c50f0 {j : Int} : ¬ (((43 : Nat) = 41 ∧ j = 0) ∨ ((43 : Nat) = 41 ∧ j = 35) ∨ ((43 : Nat) = 41 ∧ j = 36) ∨ (43 : Nat) = 58) := (fun q => q.elim (fun h => absurd h.1 (nn rfl)) (fun q => q.elim (fun h => absurd h.1 (nn rfl)) (fun q => q.elim (fun h => absurd h.1 (nn rfl)) (fun h => absurd h (nn rfl)))))
theorem qn_52f444696 {j : Int} : ¬ (((43 : Nat) = 0 ∧ j = 11) ∨ ((43 : Nat) = 3 ∧ j = 3) ∨ (43 : Nat) = 38) := (fun q => q.elim (fun h => absurd h.1 (nn rfl)) (fun q => q.elim (fun h => absurd h.1 (nn rfl)) (fun h => absurd h (nn rfl))))
theorem qn_a936f4de6 {j : Int} : ¬ (((6 : Nat) = 41 ∧ j = 0) ∨ ((6 : Nat) = 41 ∧ j = 35) ∨ ((6 : Nat) = 41 ∧ j = 36) ∨ (6 : Nat) = 58) := (fun q => q.elim (fun h => absurd h.1 (nn rfl)) (fun q => q.elim (fun h => absurd h.1 (nn rfl)) (fun q => q.elim (fun h => absurd h.1 (nn rfl)) (fun h => absurd h (nn rfl)))))
theorem qn_a85717703 {j : Int} : ¬ (((6 : Nat) = 0 ∧ j = 11) ∨ ((6 : Nat) = 3 ∧ j = 3) ∨ (6 : Nat) = 38) := (fun q => q.elim (fun h => absurd h.1 (nn rfl)) (fun q => q.elim (fun h => absurd h.1 (nn rfl)) (fun h => absurd h (nn rfl))))
theorem qn_b6b22f295 {j : Int} : ¬ (((66 : Nat) = 41 ∧ j = 0) ∨ ((66 : Nat) = 41 ∧ j = 35) ∨ ((66 : Nat) = 41 ∧ j = 36) ∨ (66 : Nat) = 58) := (fun q => q.elim (fun h => absurd h.1 (nn rfl)) (fun q => q.elim (fun h => absurd h.1 (nn rfl)) (fun q => q.elim (fun h => absurd h.1 (nn rfl)) (fun h => absurd h (nn rfl)))))
theorem qn_a8b739f8c {j : Int} : ¬ (((66 : Nat) = 0 ∧ j = 11) ∨ ((66 : Nat) = 3 ∧ j = 3) ∨ (66 : Nat) = 38) := (fun q => q.elim (fun h => absurd h.1 (nn rfl)) (fun q => q.elim (fun h => absurd h.1 (nn rfl)) (fun h => absurd h (nn rfl))))
theorem qn_39cd18c3e {j : Int} : ¬ (((1 : Nat) = 41 ∧ j = 0) ∨ (1 : Nat) = 42 ∨ (1 : Nat) = 59) := (fun q => q.elim (fun h => absurd h.1 (nn rfl)) (fun q => q.elim (fun h => absurd h (nn rfl)) (fun h => absurd h (nn rfl))))
theorem qn_53bdb2099 : ¬ (((41 : Nat) = 41 ∧ (2 : Int) = 0) ∨ (41 : Nat) = 42 ∨ (41 : Nat) = 59) := (fun q => q.elim (fun h => absurd h.2 (ni rfl)) (fun q => q.elim (fun h => absurd h (nn rfl)) (fun h => absurd h (nn rfl))))
theorem qn_857752076 {P : Nat} {j : Int} (hP : P = 13 ∨ P = 25) : ¬ ((P = 41 ∧ j = 0) ∨ P = 42 ∨ P = 59) := (fun q => q.elim (fun h => absurd h.1 (np0 hP rfl)) (fun q => q.elim (fun h => absurd h (np0 hP rfl)) (fun h => absurd h (np0 hP rfl))))
theorem qn_561064c41 : ¬ (((41 : Nat) = 41 ∧ (21 : Int) = 0) ∨ (41 : Nat) = 42 ∨ (41 : Nat) = 59) := (fun q => q.elim (fun h => absurd h.2 (ni rfl)) (fun q => q.elim (fun h => absurd h (nn rfl)) (fun h => absurd h (nn rfl))))
theorem qn_b79f282cd : ¬ (((41 : Nat) = 41 ∧ (23 : Int) = 0) ∨ (41 : Nat) = 42 ∨ (41 : Nat) = 59) := (fun q => q.elim (fun h => absurd h.2 (ni rfl)) (fun q => q.elim (fun h => absurd h (nn rfl)) (fun h => absurd h (nn rfl))))
theorem qn_bf2303cc8 {j : Int} : ¬ (((3 : Nat) = 41 ∧ j = 0) ∨ (3 : Nat) = 42 ∨ (3 : Nat) = 59) := (fun q => q.elim (fun h => absurd h.1 (nn rfl)) (fun q => q.elim (fun h => absurd h (nn rfl)) (fun h => absurd h (nn rfl))))
theorem qn_90835161a : ¬ (((41 : Nat) = 41 ∧ (52 : Int) = 0) ∨ (41 : Nat) = 42 ∨ (41 : Nat) = 59) := (fun q => q.elim (fun h => absurd h.2 (ni rfl)) (fun q => q.elim (fun h => absurd h (nn rfl)) (fun h => absurd h (nn rfl))))
theorem qn_732a91ea5 : ¬ (((41 : Nat) = 41 ∧ (35 : Int) = 0) ∨ (41 : Nat) = 42 ∨ (41 : Nat) = 59) := (fun q => q.elim (fun h => absurd h.2 (ni rfl)) (fun q => q.elim (fun h => absurd h (nn rfl)) (fun h => absurd h (nn rfl))))
theorem qn_b601a9968 : ¬ (((41 : Nat) = 41 ∧ (8 : Int) = 0) ∨ (41 : Nat) = 42 ∨ (41 : Nat) = 59) := (fun q => q.elim (fun h => absurd h.2 (ni rfl)) (fun q => q.elim (fun h => absurd h (nn rfl)) (fun h => absurd h (nn rfl))))
theorem qn_2ad67e194 {j : Int} : ¬ (((2 : Nat) = 41 ∧ j = 0) ∨ (2 : Nat) = 42 ∨ (2 : Nat) = 59) := (fun q => q.elim (fun h => absurd h.1 (nn rfl)) (fun q => q.elim (fun h => absurd h (nn rfl)) (fun h => absurd h (nn rfl))))
theorem qn_1520ff5e3 {j : Int} : ¬ (((43 : Nat) = 41 ∧ j = 0) ∨ (43 : Nat) = 42 ∨ (43 : Nat) = 59) := (fun q => q.elim (fun h => absurd h.1 (nn rfl)) (fun q => q.elim (fun h => absurd h (nn rfl)) (fun h => absurd h (nn rfl))))
theorem qn_e1050858a {j : Int} : ¬ (((6 : Nat) = 41 ∧ j = 0) ∨ (6 : Nat) = 42 ∨ (6 : Nat) = 59) := (fun q => q.elim (fun h => absurd h.1 (nn rfl)) (fun q => q.elim (fun h => absurd h (nn rfl)) (fun h => absurd h (nn rfl))))
theorem qn_5616dd9ce {j : Int} : ¬ (((66 : Nat) = 41 ∧ j = 0) ∨ (66 : Nat) = 42 ∨ (66 : Nat) = 59) := (fun q => q.elim (fun h => absurd h.1 (nn rfl)) (fun q => q.elim (fun h => absurd h (nn rfl)) (fun h => absurd h (nn rfl))))
theorem c_296_301 : mLk 296 301 = some (.aload_n 1, 1) := rfl
theorem c_296_302 : mLk 296 302 = some (.aload_n 0, 1) := rfl
theorem c_296_303 : mLk 296 303 = some (.iload 4, 2) := rfl
theorem c_296_305 : mLk 296 305 = some (.iconst 1, 1) := rfl
theorem c_296_306 : mLk 296 306 = some (.iadd, 1) := rfl
theorem c_296_307 : mLk 296 307 = some (.iaload, 1) := rfl
theorem c_296_308 : mLk 296 308 = some (.aload_n 3, 1) := rfl
theorem c_296_309 : mLk 296 309 = some (.invokestatic 128, 3) := rfl
theorem c_263_0 : mLk 263 0 = some (.aload_n 2, 1) := rfl
theorem c_263_1 : mLk 263 1 = some (.iconst 0, 1) := rfl
theorem c_263_2 : mLk 263 2 = some (.aload_n 0, 1) := rfl
theorem c_263_3 : mLk 263 3 = some (.iload_n 1, 1) := rfl
theorem c_263_4 : mLk 263 4 = some (.invokevirtual 7, 3) := rfl
theorem c_296_312 : mLk 296 312 = some (.istore 5, 2) := rfl
theorem c_296_314 : mLk 296 314 = some (.aload_n 2, 1) := rfl
theorem c_296_315 : mLk 296 315 = some (.aload_n 0, 1) := rfl
theorem c_296_316 : mLk 296 316 = some (.iload 4, 2) := rfl
theorem c_296_318 : mLk 296 318 = some (.iconst 1, 1) := rfl
theorem c_296_319 : mLk 296 319 = some (.iadd, 1) := rfl
theorem c_296_320 : mLk 296 320 = some (.iaload, 1) := rfl
theorem c_296_321 : mLk 296 321 = some (.invokevirtual 133, 3) := rfl
theorem c_296_324 : mLk 296 324 = some (.istore 6, 2) := rfl
theorem c_296_326 : mLk 296 326 = some (.goto 1490, 3) := rfl
theorem c_263_7 : mLk 263 7 = some (.i2l, 1) := rfl
theorem c_263_8 : mLk 263 8 = some (.lastore, 1) := rfl
theorem c_263_9 : mLk 263 9 = some (.goto 6, 3) := rfl
theorem c_263_15 : mLk 263 15 = some (.iconst 0, 1) := rfl
theorem c_263_16 : mLk 263 16 = some (.ireturn, 1) := rfl
theorem c_296_329 : mLk 296 329 = some (.aload_n 1, 1) := rfl
theorem c_296_330 : mLk 296 330 = some (.aload_n 0, 1) := rfl
theorem c_296_331 : mLk 296 331 = some (.iload 4, 2) := rfl
theorem c_296_333 : mLk 296 333 = some (.iconst 1, 1) := rfl
theorem c_296_334 : mLk 296 334 = some (.iadd, 1) := rfl
theorem c_296_335 : mLk 296 335 = some (.iaload, 1) := rfl
theorem c_296_336 : mLk 296 336 = some (.aload_n 3, 1) := rfl
theorem c_296_337 : mLk 296 337 = some (.invokestatic 134, 3) := rfl
theorem c_264_0 : mLk 264 0 = some (.aload_n 2, 1) := rfl
theorem c_264_1 : mLk 264 1 = some (.iconst 0, 1) := rfl
theorem c_264_2 : mLk 264 2 = some (.aload_n 0, 1) := rfl
theorem c_264_3 : mLk 264 3 = some (.iload_n 1, 1) := rfl
theorem c_264_4 : mLk 264 4 = some (.invokevirtual 15, 3) := rfl
theorem c_296_340 : mLk 296 340 = some (.istore 5, 2) := rfl
theorem c_296_342 : mLk 296 342 = some (.aload_n 2, 1) := rfl
theorem c_296_343 : mLk 296 343 = some (.aload_n 0, 1) := rfl
theorem c_296_344 : mLk 296 344 = some (.iload 4, 2) := rfl
theorem c_296_346 : mLk 296 346 = some (.iconst 1, 1) := rfl
theorem c_296_347 : mLk 296 347 = some (.iadd, 1) := rfl
theorem c_296_348 : mLk 296 348 = some (.iaload, 1) := rfl
theorem c_296_349 : mLk 296 349 = some (.invokevirtual 136, 3) := rfl
theorem c_296_352 : mLk 296 352 = some (.istore 6, 2) := rfl
theorem c_296_354 : mLk 296 354 = some (.goto 1462, 3) := rfl
theorem c_264_7 : mLk 264 7 = some (.i2l, 1) := rfl
theorem c_264_8 : mLk 264 8 = some (.lastore, 1) := rfl
theorem c_264_9 : mLk 264 9 = some (.goto 6, 3) := rfl
theorem c_264_15 : mLk 264 15 = some (.iconst 0, 1) := rfl
theorem c_264_16 : mLk 264 16 = some (.ireturn, 1) := rfl
theorem c_296_357 : mLk 296 357 = some (.aload_n 1, 1) := rfl
theorem c_296_358 : mLk 296 358 = some (.aload_n 0, 1) := rfl
theorem c_296_359 : mLk 296 359 = some (.iload 4, 2) := rfl
theorem c_296_361 : mLk 296 361 = some (.iconst 1, 1) := rfl
theorem c_296_362 : mLk 296 362 = some (.iadd, 1) := rfl
theorem c_296_363 : mLk 296 363 = some (.iaload, 1) := rfl
theorem c_296_364 : mLk 296 364 = some (.aload_n 3, 1) := rfl
theorem c_296_365 : mLk 296 365 = some (.invokestatic 137, 3) := rfl
theorem c_265_0 : mLk 265 0 = some (.aload_n 2, 1) := rfl
theorem c_265_1 : mLk 265 1 = some (.iconst 0, 1) := rfl
theorem c_265_2 : mLk 265 2 = some (.aload_n 0, 1) := rfl
theorem c_265_3 : mLk 265 3 = some (.iload_n 1, 1) := rfl
theorem c_265_4 : mLk 265 4 = some (.invokevirtual 18, 3) := rfl
theorem c_296_368 : mLk 296 368 = some (.istore 5, 2) := rfl
theorem c_296_370 : mLk 296 370 = some (.aload_n 2, 1) := rfl
theorem c_296_371 : mLk 296 371 = some (.aload_n 0, 1) := rfl
theorem c_296_372 : mLk 296 372 = some (.iload 4, 2) := rfl
theorem c_296_374 : mLk 296 374 = some (.iconst 1, 1) := rfl
theorem c_296_375 : mLk 296 375 = some (.iadd, 1) := rfl
theorem c_296_376 : mLk 296 376 = some (.iaload, 1) := rfl
theorem c_296_377 : mLk 296 377 = some (.invokevirtual 139, 3) := rfl
theorem c_296_380 : mLk 296 380 = some (.istore 6, 2) := rfl
theorem c_296_382 : mLk 296 382 = some (.goto 1434, 3) := rfl
theorem c_265_7 : mLk 265 7 = some (.i2l, 1) := rfl
theorem c_265_8 : mLk 265 8 = some (.lastore, 1) := rfl
theorem c_265_9 : mLk 265 9 = some (.goto 6, 3) := rfl
theorem c_265_15 : mLk 265 15 = some (.iconst 0, 1) := rfl
theorem c_265_16 : mLk 265 16 = some (.ireturn, 1) := rfl
theorem c_296_385 : mLk 296 385 = some (.aload_n 1, 1) := rfl
theorem c_296_386 : mLk 296 386 = some (.aload_n 0, 1) := rfl
theorem c_296_387 : mLk 296 387 = some (.iload 4, 2) := rfl
theorem c_296_389 : mLk 296 389 = some (.iconst 1, 1) := rfl
theorem c_296_390 : mLk 296 390 = some (.iadd, 1) := rfl
theorem c_296_391 : mLk 296 391 = some (.iaload, 1) := rfl
theorem c_296_392 : mLk 296 392 = some (.aload_n 3, 1) := rfl
theorem c_296_393 : mLk 296 393 = some (.invokestatic 140, 3) := rfl
theorem c_266_0 : mLk 266 0 = some (.aload_n 2, 1) := rfl
theorem c_266_1 : mLk 266 1 = some (.iconst 0, 1) := rfl
theorem c_266_2 : mLk 266 2 = some (.aload_n 0, 1) := rfl
theorem c_266_3 : mLk 266 3 = some (.iload_n 1, 1) := rfl
theorem c_266_4 : mLk 266 4 = some (.invokevirtual 21, 3) := rfl
theorem c_296_396 : mLk 296 396 = some (.istore 5, 2) := rfl
theorem c_296_398 : mLk 296 398 = some (.aload_n 2, 1) := rfl
theorem c_296_399 : mLk 296 399 = some (.aload_n 0, 1) := rfl
theorem c_296_400 : mLk 296 400 = some (.iload 4, 2) := rfl
theorem c_296_402 : mLk 296 402 = some (.iconst 1, 1) := rfl
theorem c_296_403 : mLk 296 403 = some (.iadd, 1) := rfl
theorem c_296_404 : mLk 296 404 = some (.iaload, 1) := rfl
theorem c_296_405 : mLk 296 405 = some (.invokevirtual 142, 3) := rfl
theorem c_296_408 : mLk 296 408 = some (.istore 6, 2) := rfl
theorem c_296_410 : mLk 296 410 = some (.goto 1406, 3) := rfl
theorem c_266_7 : mLk 266 7 = some (.i2l, 1) := rfl
theorem c_266_8 : mLk 266 8 = some (.lastore, 1) := rfl
theorem c_266_9 : mLk 266 9 = some (.goto 6, 3) := rfl
theorem c_266_15 : mLk 266 15 = some (.iconst 0, 1) := rfl
theorem c_266_16 : mLk 266 16 = some (.ireturn, 1) := rfl
theorem c_296_413 : mLk 296 413 = some (.aload_n 1, 1) := rfl
theorem c_296_414 : mLk 296 414 = some (.aload_n 0, 1) := rfl
theorem c_296_415 : mLk 296 415 = some (.iload 4, 2) := rfl
theorem c_296_417 : mLk 296 417 = some (.iconst 1, 1) := rfl
theorem c_296_418 : mLk 296 418 = some (.iadd, 1) := rfl
theorem c_296_419 : mLk 296 419 = some (.iaload, 1) := rfl
theorem c_296_420 : mLk 296 420 = some (.aload_n 3, 1) := rfl
theorem c_296_421 : mLk 296 421 = some (.invokestatic 143, 3) := rfl
theorem c_267_0 : mLk 267 0 = some (.aload_n 2, 1) := rfl
theorem c_267_1 : mLk 267 1 = some (.iconst 0, 1) := rfl
theorem c_267_2 : mLk 267 2 = some (.aload_n 0, 1) := rfl
theorem c_267_3 : mLk 267 3 = some (.iload_n 1, 1) := rfl
theorem c_267_4 : mLk 267 4 = some (.invokevirtual 24, 3) := rfl
theorem c_296_424 : mLk 296 424 = some (.istore 5, 2) := rfl
theorem c_296_426 : mLk 296 426 = some (.aload_n 2, 1) := rfl
theorem c_296_427 : mLk 296 427 = some (.aload_n 0, 1) := rfl
theorem c_296_428 : mLk 296 428 = some (.iload 4, 2) := rfl
theorem c_296_430 : mLk 296 430 = some (.iconst 1, 1) := rfl
theorem c_296_431 : mLk 296 431 = some (.iadd, 1) := rfl
theorem c_296_432 : mLk 296 432 = some (.iaload, 1) := rfl
theorem c_296_433 : mLk 296 433 = some (.invokevirtual 145, 3) := rfl
theorem c_296_436 : mLk 296 436 = some (.istore 6, 2) := rfl
theorem c_296_438 : mLk 296 438 = some (.goto 1378, 3) := rfl
theorem c_267_7 : mLk 267 7 = some (.i2l, 1) := rfl
theorem c_267_8 : mLk 267 8 = some (.lastore, 1) := rfl
theorem c_267_9 : mLk 267 9 = some (.goto 6, 3) := rfl
theorem c_267_15 : mLk 267 15 = some (.iconst 0, 1) := rfl
theorem c_267_16 : mLk 267 16 = some (.ireturn, 1) := rfl
theorem c_296_441 : mLk 296 441 = some (.aload_n 1, 1) := rfl
theorem c_296_442 : mLk 296 442 = some (.invokevirtual 146, 3) := rfl
theorem c_296_445 : mLk 296 445 = some (.aload_n 2, 1) := rfl
theorem c_296_446 : mLk 296 446 = some (.invokevirtual 150, 3) := rfl
theorem c_296_449 : mLk 296 449 = some (.if_icmp .eq 1367, 3) := rfl
theorem c_296_454 : mLk 296 454 = some (.aload_n 1, 1) := rfl
theorem c_296_455 : mLk 296 455 = some (.invokevirtual 151, 3) := rfl
theorem c_296_458 : mLk 296 458 = some (.pop, 1) := rfl
theorem c_296_459 : mLk 296 459 = some (.aload_n 2, 1) := rfl
theorem c_296_460 : mLk 296 460 = some (.invokevirtual 154, 3) := rfl
theorem c_296_463 : mLk 296 463 = some (.pop, 1) := rfl
theorem c_296_464 : mLk 296 464 = some (.goto 1352, 3) := rfl
theorem c_296_467 : mLk 296 467 = some (.aload_n 1, 1) := rfl
theorem c_296_468 : mLk 296 468 = some (.aload_n 0, 1) := rfl
theorem c_296_469 : mLk 296 469 = some (.iload 4, 2) := rfl
theorem c_296_471 : mLk 296 471 = some (.iconst 1, 1) := rfl
theorem c_296_472 : mLk 296 472 = some (.iadd, 1) := rfl
theorem c_296_473 : mLk 296 473 = some (.iaload, 1) := rfl
theorem c_296_474 : mLk 296 474 = some (.aload_n 3, 1) := rfl
theorem c_296_475 : mLk 296 475 = some (.invokestatic 155, 3) := rfl
theorem c_268_0 : mLk 268 0 = some (.aload_n 2, 1) := rfl
theorem c_268_1 : mLk 268 1 = some (.iconst 0, 1) := rfl
theorem c_268_2 : mLk 268 2 = some (.aload_n 0, 1) := rfl
theorem c_268_3 : mLk 268 3 = some (.iload_n 1, 1) := rfl
theorem c_268_4 : mLk 268 4 = some (.invokevirtual 27, 3) := rfl
theorem c_296_478 : mLk 296 478 = some (.istore 5, 2) := rfl
theorem c_296_480 : mLk 296 480 = some (.aload_n 2, 1) := rfl
theorem c_296_481 : mLk 296 481 = some (.aload_n 0, 1) := rfl
theorem c_296_482 : mLk 296 482 = some (.iload 4, 2) := rfl
theorem c_296_484 : mLk 296 484 = some (.iconst 1, 1) := rfl
theorem c_296_485 : mLk 296 485 = some (.iadd, 1) := rfl
theorem c_296_486 : mLk 296 486 = some (.iaload, 1) := rfl
theorem c_296_487 : mLk 296 487 = some (.invokevirtual 157, 3) := rfl
theorem c_296_490 : mLk 296 490 = some (.istore 6, 2) := rfl
theorem c_296_492 : mLk 296 492 = some (.goto 1324, 3) := rfl
theorem c_268_7 : mLk 268 7 = some (.i2l, 1) := rfl
theorem c_268_8 : mLk 268 8 = some (.lastore, 1) := rfl
theorem c_268_9 : mLk 268 9 = some (.goto 6, 3) := rfl
theorem c_268_15 : mLk 268 15 = some (.iconst 0, 1) := rfl
theorem c_268_16 : mLk 268 16 = some (.ireturn, 1) := rfl
theorem km_9_133 : a_lk (kM 9) 133 = some (0, 169) := rfl
theorem km_9_136 : a_lk (kM 9) 136 = some (0, 177) := rfl
theorem km_9_139 : a_lk (kM 9) 139 = some (0, 202) := rfl
theorem km_9_142 : a_lk (kM 9) 142 = some (0, 206) := rfl
theorem km_9_145 : a_lk (kM 9) 145 = some (0, 207) := rfl
theorem km_9_146 : a_lk (kM 9) 146 = some (0, 89) := rfl
theorem km_9_15 : a_lk (kM 9) 15 = some (0, 85) := rfl
theorem km_9_150 : a_lk (kM 9) 150 = some (0, 165) := rfl
theorem km_9_151 : a_lk (kM 9) 151 = some (0, 139) := rfl
theorem km_9_154 : a_lk (kM 9) 154 = some (0, 208) := rfl
theorem km_9_157 : a_lk (kM 9) 157 = some (0, 211) := rfl
theorem km_9_18 : a_lk (kM 9) 18 = some (0, 86) := rfl
theorem km_9_21 : a_lk (kM 9) 21 = some (0, 87) := rfl
theorem km_9_24 : a_lk (kM 9) 24 = some (0, 88) := rfl
theorem km_9_27 : a_lk (kM 9) 27 = some (0, 90) := rfl
theorem km_9_7 : a_lk (kM 9) 7 = some (0, 84) := rfl
set_option maxRecDepth 100000 in
set_option maxHeartbeats 4000000 in
theorem o_1 {xs : Nat → Int32} {L i0 d nc ns P Q : Nat} {c : ME} {Z : AR → Prop} (hi : i0 + 8 ≤ L) (hL : L ≤ 100000) (hI : Iv 0 (-1) P Q c) (hR : Rq P c) (K : ∀ (P2 Q2 : Nat) (c2 : ME) (e : Nat), e ≤ 1 → Iv 0 (-1) P2 Q2 c2 → (Rq P2 c2) → Wp (a_scr L xs) (d + 90) 296 1816 [(4, vi (i0 : Int)), (3, .ref 67), (2, .ref 41), (1, .ref 0), (0, .ref a_SC)] [] (Wd P2 Q2 P2 P2 c2) (nc + e) (ns + 6 * e) Z) : Wp (a_scr L xs) (d + 90) 296 301 [(4, vi (i0 : Int)), (3, .ref 67), (2, .ref 41), (1, .ref 0), (0, .ref a_SC)] [] (Wd P Q P P c) nc ns Z := by
  obtain ⟨x1, hx1⟩ : ∃ z, (xs (i0 + 1)).toInt = z := ⟨_, rfl⟩
  have x1r := c_rng (xs (i0 + 1))
  rw [hx1] at x1r
  obtain ⟨x2, hx2⟩ : ∃ z, (xs (i0 + 2)).toInt = z := ⟨_, rfl⟩
  have x2r := c_rng (xs (i0 + 2))
  rw [hx2] at x2r
  obtain ⟨x3, hx3⟩ : ∃ z, (xs (i0 + 3)).toInt = z := ⟨_, rfl⟩
  have x3r := c_rng (xs (i0 + 3))
  rw [hx3] at x3r
  obtain ⟨x4, hx4⟩ : ∃ z, (xs (i0 + 4)).toInt = z := ⟨_, rfl⟩
  have x4r := c_rng (xs (i0 + 4))
  rw [hx4] at x4r
  obtain ⟨x5, hx5⟩ : ∃ z, (xs (i0 + 5)).toInt = z := ⟨_, rfl⟩
  have x5r := c_rng (xs (i0 + 5))
  rw [hx5] at x5r
  obtain ⟨x6, hx6⟩ : ∃ z, (xs (i0 + 6)).toInt = z := ⟨_, rfl⟩
  have x6r := c_rng (xs (i0 + 6))
  rw [hx6] at x6r
  obtain ⟨x7, hx7⟩ : ∃ z, (xs (i0 + 7)).toInt = z := ⟨_, rfl⟩
  have x7r := c_rng (xs (i0 + 7))
  rw [hx7] at x7r
  have hP := iv_P hI
  have hQ := iv_Q hI
  have hT := rl_t hR
  have hU := rl_u hR
  obtain ⟨n0, hn0⟩ : ∃ z, c P 0 = z := ⟨_, rfl⟩
  have hm0 : c 41 20 = n0 := (rl_nums hR).1.symm.trans hn0
  have hr0 := ir_p0_0 hI hP
  rw [hn0] at hr0
  obtain ⟨n1, hn1⟩ : ∃ z, c P 1 = z := ⟨_, rfl⟩
  have hm1 : c 41 21 = n1 := (rl_nums hR).2.1.symm.trans hn1
  have hr1 := ir_p0_1 hI hP
  rw [hn1] at hr1
  obtain ⟨n2, hn2⟩ : ∃ z, c P 2 = z := ⟨_, rfl⟩
  have hm2 : c 41 22 = n2 := (rl_nums hR).2.2.1.symm.trans hn2
  have hr2 := ir_p0_2 hI hP
  rw [hn2] at hr2
  obtain ⟨n3, hn3⟩ : ∃ z, c P 3 = z := ⟨_, rfl⟩
  have hm3 : c 41 23 = n3 := (rl_nums hR).2.2.2.symm.trans hn3
  have hr3 := ir_p0_3 hI hP
  rw [hn3] at hr3
  have hNimg := rl_img hR
  have hNwk := rl_wk hR
  have h_1 := ir_3_4 hI
  have hIw := rl_iw hR
  have hNplace := rl_place hR
  refine q_aload_n c_296_301 rfl (q_aload_n c_296_302 rfl (q_iload c_296_303 rfl (q_iconst c_296_305 (v_iadd (v := (i0 : Int) + 1) c_296_306 rfl (v_scr (j := i0 + 1) c_296_307 (by omega) (by omega) hL hx1 (q_aload_n c_296_308 rfl (q_call c_296_309 rfl rfl rfl ?_)))))))
  refine q_aload_n c_263_0 rfl (q_iconst c_263_1 (q_aload_n c_263_2 rfl (q_iload_n c_263_3 rfl ?_)))
  have h_2 := ir_1_3 hI
  refine v_cv c_263_4 km_9_7 rfl rfl (Nat.le_of_ble_eq_true rfl) ⟨⟨rfl, rfl⟩, Nat.le_of_ble_eq_true rfl, rfl⟩ (Nat.le_of_ble_eq_true rfl) (Nat.le_of_ble_eq_true rfl) (fn_of (s_84 (a1 := x1) hI (show (-2147483648) ≤ x1 ∧ x1 ≤ 2147483647 from ⟨by omega, by omega⟩) (fun c_3 hI_4 hF_5 h_6 h_7 => ?_) (fun P Q c_8 y_11 hI_9 hF_10 hy_11 h_12 => ?_)))
  · skip
    intro hG_106
    have h_13 := ir_1_3 hI_4
    refine bk_thr (z := Int32.ofInt 1) rfl ⟨_, _, rfl⟩ rfl (bk_inl (q_istore c_296_312 (Nat.le_of_ble_eq_true rfl) (q_aload_n c_296_314 rfl (q_aload_n c_296_315 rfl (q_iload c_296_316 rfl (q_iconst c_296_318 (v_iadd (v := (i0 : Int) + 1) c_296_319 rfl ?_)))))))
    refine v_scr (j := i0 + 1) c_296_320 (by omega) (by omega) hL hx1 (v_cv c_296_321 km_9_133 rfl rfl (Nat.le_of_ble_eq_true rfl) ⟨⟨rfl, rfl⟩, Nat.le_of_ble_eq_true rfl, rfl⟩ (Nat.le_of_ble_eq_true rfl) (Nat.le_of_ble_eq_true rfl) (q_aload_n c_169_0 rfl (q_iconst c_169_1 (v_pi (z := 0) c_169_2 kf_8_3 rfl (Nat.le_of_ble_eq_true rfl) rfl rfl rfl (by decide) (q_aload_n c_169_5 rfl (q_iload_n c_169_6 rfl ?_))))))
    by_cases h_14 : x1 < 0
    · refine v_if_lt_t (t := 22) c_169_7 rfl ⟨by first | (clear hT hNimg hNwk h_1 hNplace h_2 h_13; omega) | omega, h_14, by decide⟩ (q_iconst c_169_22 (q_iconst c_169_23 (q_iconst c_169_24 (v_cv c_169_25 km_8_203 rfl rfl (Nat.le_of_ble_eq_true rfl) ⟨⟨rfl, rfl⟩, Nat.le_of_ble_eq_true rfl, rfl⟩ (Nat.le_of_ble_eq_true rfl) (Nat.le_of_ble_eq_true rfl) (q_iload_n c_145_0 rfl (v_if_ne_f (t := 26) c_145_1 rfl (by decide) (q_aload_n c_145_4 rfl ?_)))))))
      refine v_gi (z := 0) (v := 0) c_145_5 kf_8_3 rfl (Nat.le_of_ble_eq_true rfl) rfl rfl (up_e rfl) (v_if_ne_f (t := 26) c_145_8 rfl (by decide) (q_aload_n c_145_11 rfl (q_iload_n c_145_12 rfl (v_pi (z := 0) c_145_13 kf_8_3 rfl (Nat.le_of_ble_eq_true rfl) rfl rfl rfl (by decide) (q_aload_n c_145_16 rfl (v_gr (t := 42) c_145_17 kf_8_7 rfl (Nat.le_of_ble_eq_true rfl) rfl (q_iload_n c_145_20 rfl ?_)))))))
      refine q_dup2 c_145_21 ⟨rfl, rfl⟩ ?_
      have h_15 := ir_42 hI 1
      have kn_16 : Hid (c_3 42 1 = c 42 1) := hF_5 42 1 (fun h => absurd h.1 (nn rfl))
      refine v_ia (v := c 42 1) c_145_22 rfl (by decide) (by decide) (by decide) ((up_c (nn rfl)).trans ((up_c (nn rfl)).trans (hid kn_16))) (q_iconst c_145_23 (v_iadd (v := c 42 1 + 1) c_145_24 rfl (v_nrm (fun y_17 hy_17 => (v_is c_145_25 rfl (by decide) (by decide) (by decide) (q_aload_n c_145_26 rfl (v_gi (z := 0) (v := 1) c_145_27 kf_8_3 rfl (Nat.le_of_ble_eq_true rfl) rfl rfl ((up_c (nn rfl)).trans (up_e rfl)) (v_if_ne_t (t := 37) c_145_30 rfl (by decide) ?_))))))))
      refine q_iconst c_145_37 (v_zret c_145_38 rfl (by decide) (bk_inl (v_if_ne_f (t := 33) c_169_28 rfl (by decide) (q_iconst c_169_31 (q_iret c_169_32 rfl (bk_inl (q_istore c_296_324 (Nat.le_of_ble_eq_true rfl) ?_)))))))
      refine q_goto (t := 1816) c_296_326 rfl ?_
      have hI_18 := iw_41_0 (v := 0) hI_4 ⟨by decide, by decide⟩
      have hI_19 := iw_41_0 (v := 1) hI_18 ⟨by decide, by decide⟩
      have hI_20 := iw_42 (j := 1) (v := y_17) hI_19 ⟨hy_17.1, hy_17.2⟩
      refine Wp_ls [(4, vi (i0 : Int)), (3, .ref 67), (2, .ref 41), (1, .ref 0), (0, .ref a_SC)] (lsub_cons rfl (lsub_cons rfl (lsub_cons rfl (lsub_cons rfl (lsub_cons rfl lsub_nil))))) ?_
      have kn_21 : Hid (c_3 1 3 = c 1 3) := hF_5 1 3 (fun h => absurd h.1 (nn rfl))
      have h_22 : (up (up (up c_3 41 0 0) 41 0 1) 42 1 y_17) 1 3 = c 1 3 := ((up_c (nn rfl)).trans ((up_c (nn rfl)).trans ((up_c (nn rfl)).trans (hid kn_21))))
      have h_23 := ir_41_2 hI
      have kn_24 : Hid (c_3 41 2 = c 41 2) := hF_5 41 2 (fun h => absurd h.1 (nn rfl))
      have h_25 : (up (up (up c_3 41 0 0) 41 0 1) 42 1 y_17) 41 2 = c 41 2 := ((up_c (nn rfl)).trans ((up_n (by decide)).trans ((up_n (by decide)).trans (hid kn_24))))
      have kn_26 : Hid (c_3 P 0 = n0) := (hF_5 P 0 (fun h => absurd h.1 (np0 hP rfl))).trans (hn0)
      have h_27 : (up (up (up c_3 41 0 0) 41 0 1) 42 1 y_17) P 0 = n0 := ((up_c (np0 hP rfl)).trans ((up_c (np0 hP rfl)).trans ((up_c (np0 hP rfl)).trans (hid kn_26))))
      have kn_28 : Hid (c_3 41 20 = n0) := (hF_5 41 20 (fun h => absurd h.1 (nn rfl))).trans (hm0)
      have h_29 : (up (up (up c_3 41 0 0) 41 0 1) 42 1 y_17) 41 20 = n0 := ((up_c (nn rfl)).trans ((up_n (by decide)).trans ((up_n (by decide)).trans (hid kn_28))))
      have kn_30 : Hid (c_3 P 1 = n1) := (hF_5 P 1 (fun h => absurd h.1 (np0 hP rfl))).trans (hn1)
      have h_31 : (up (up (up c_3 41 0 0) 41 0 1) 42 1 y_17) P 1 = n1 := ((up_c (np0 hP rfl)).trans ((up_c (np0 hP rfl)).trans ((up_c (np0 hP rfl)).trans (hid kn_30))))
      have kn_32 : Hid (c_3 41 21 = n1) := (hF_5 41 21 (fun h => absurd h.1 (nn rfl))).trans (hm1)
      have h_33 : (up (up (up c_3 41 0 0) 41 0 1) 42 1 y_17) 41 21 = n1 := ((up_c (nn rfl)).trans ((up_n (by decide)).trans ((up_n (by decide)).trans (hid kn_32))))
      have kn_34 : Hid (c_3 P 2 = n2) := (hF_5 P 2 (fun h => absurd h.1 (np0 hP rfl))).trans (hn2)
      have h_35 : (up (up (up c_3 41 0 0) 41 0 1) 42 1 y_17) P 2 = n2 := ((up_c (np0 hP rfl)).trans ((up_c (np0 hP rfl)).trans ((up_c (np0 hP rfl)).trans (hid kn_34))))
      have kn_36 : Hid (c_3 41 22 = n2) := (hF_5 41 22 (fun h => absurd h.1 (nn rfl))).trans (hm2)
      have h_37 : (up (up (up c_3 41 0 0) 41 0 1) 42 1 y_17) 41 22 = n2 := ((up_c (nn rfl)).trans ((up_n (by decide)).trans ((up_n (by decide)).trans (hid kn_36))))
      have kn_38 : Hid (c_3 P 3 = n3) := (hF_5 P 3 (fun h => absurd h.1 (np0 hP rfl))).trans (hn3)
      have h_39 : (up (up (up c_3 41 0 0) 41 0 1) 42 1 y_17) P 3 = n3 := ((up_c (np0 hP rfl)).trans ((up_c (np0 hP rfl)).trans ((up_c (np0 hP rfl)).trans (hid kn_38))))
      have kn_40 : Hid (c_3 41 23 = n3) := (hF_5 41 23 (fun h => absurd h.1 (nn rfl))).trans (hm3)
      have h_41 : (up (up (up c_3 41 0 0) 41 0 1) 42 1 y_17) 41 23 = n3 := ((up_c (nn rfl)).trans ((up_n (by decide)).trans ((up_n (by decide)).trans (hid kn_40))))
      have kn_42 : Hid (c_3 3 4 = c 3 4) := hF_5 3 4 (fun h => absurd h.1 (nn rfl))
      have h_43 : (up (up (up c_3 41 0 0) 41 0 1) 42 1 y_17) 3 4 = c 3 4 := ((up_c (nn rfl)).trans ((up_c (nn rfl)).trans ((up_c (nn rfl)).trans (hid kn_42))))
      have h_44 := ir_41_52 hI
      have kn_45 : Hid (c_3 41 52 = c 41 52) := hF_5 41 52 (fun h => absurd h.1 (nn rfl))
      have h_46 : (up (up (up c_3 41 0 0) 41 0 1) 42 1 y_17) 41 52 = c 41 52 := ((up_c (nn rfl)).trans ((up_n (by decide)).trans ((up_n (by decide)).trans (hid kn_45))))
      have h_47 := ir_3_3 hI
      have kn_48 : Hid (c_3 3 3 = c 3 3) := hF_5 3 3 (fun h => absurd h.1 (nn rfl))
      have h_49 : (up (up (up c_3 41 0 0) 41 0 1) 42 1 y_17) 3 3 = c 3 3 := ((up_c (nn rfl)).trans ((up_c (nn rfl)).trans ((up_c (nn rfl)).trans (hid kn_48))))
      have h_50 := ir_41_35 hI
      have kn_51 : Hid (c_3 41 35 = c 41 35) := hF_5 41 35 (fun h => absurd h.1 (nn rfl))
      have h_52 : (up (up (up c_3 41 0 0) 41 0 1) 42 1 y_17) 41 35 = c 41 35 := ((up_c (nn rfl)).trans ((up_n (by decide)).trans ((up_n (by decide)).trans (hid kn_51))))
      have h_53 : (up (up (up c_3 41 0 0) 41 0 1) 42 1 y_17) 3 4 = c 3 4 := ((up_c (nn rfl)).trans ((up_c (nn rfl)).trans ((up_c (nn rfl)).trans (hid kn_42))))
      have h_54 := ir_1_5 hI
      have kn_55 : Hid (c_3 1 5 = c 1 5) := hF_5 1 5 (fun h => absurd h.1 (nn rfl))
      have h_56 : (up (up (up c_3 41 0 0) 41 0 1) 42 1 y_17) 1 5 = c 1 5 := ((up_c (nn rfl)).trans ((up_c (nn rfl)).trans ((up_c (nn rfl)).trans (hid kn_55))))
      have h_57 := ir_41_8 hI
      have kn_58 : Hid (c_3 41 8 = c 41 8) := hF_5 41 8 (fun h => absurd h.1 (nn rfl))
      have h_59 : (up (up (up c_3 41 0 0) 41 0 1) 42 1 y_17) 41 8 = c 41 8 := ((up_c (nn rfl)).trans ((up_n (by decide)).trans ((up_n (by decide)).trans (hid kn_58))))
      exact K P Q (up (up (up c_3 41 0 0) 41 0 1) 42 1 y_17) 1 (by decide) hI_20 ⟨by omega, ub_fr hU (fun j => (up_c (nn rfl)).trans ((up_c (nn rfl)).trans ((up_c (nn rfl)).trans (hF_5 2 j (fun h => absurd h.1 (nn rfl)))))) (fun j => (up_c (nn rfl)).trans ((up_c (nn rfl)).trans ((up_c (nn rfl)).trans (hF_5 43 j (fun h => absurd h.1 (nn rfl)))))), ⟨by omega, by omega, by omega, by omega⟩, by omega, by omega, iw_fr2 hIw (by omega) (fun j => (up_c (nn rfl)).trans ((up_c (nn rfl)).trans ((up_c (nn rfl)).trans (hF_5 6 j (fun h => absurd h.1 (nn rfl)))))) (fun j => (up_c (nn rfl)).trans ((up_c (nn rfl)).trans ((up_c (nn rfl)).trans (hF_5 66 j (fun h => absurd h.1 (nn rfl)))))), by omega⟩
    · refine v_if_lt_f (t := 22) c_169_7 rfl ⟨by decide, (Int.not_lt.mp h_14), by first | (clear hT hNimg hNwk h_1 hNplace h_2 h_13; omega) | omega⟩ (q_iload_n c_169_10 rfl (q_aload_n c_169_11 rfl ?_))
      have h_60 := ir_41_2 hI
      have kn_61 : Hid (c_3 41 2 = c 41 2) := hF_5 41 2 (fun h => absurd h.1 (nn rfl))
      refine v_gi (z := 2) (v := c 41 2) c_169_12 kf_8_99 rfl (Nat.le_of_ble_eq_true rfl) rfl rfl ((up_n (by decide)).trans (hid kn_61)) (v_ic_gt_t (t := 22) c_169_15 rfl ⟨by first | exact q_3b2b08511 h_60 | omega, by omega, by first | (clear hT hNimg hNwk h_1 hNplace h_2 h_13 h_14 h_60; omega) | omega⟩ (q_iconst c_169_22 (q_iconst c_169_23 (q_iconst c_169_24 (v_cv c_169_25 km_8_203 rfl rfl (Nat.le_of_ble_eq_true rfl) ⟨⟨rfl, rfl⟩, Nat.le_of_ble_eq_true rfl, rfl⟩ (Nat.le_of_ble_eq_true rfl) (Nat.le_of_ble_eq_true rfl) (q_iload_n c_145_0 rfl (v_if_ne_f (t := 26) c_145_1 rfl (by decide) ?_)))))))
      refine q_aload_n c_145_4 rfl (v_gi (z := 0) (v := 0) c_145_5 kf_8_3 rfl (Nat.le_of_ble_eq_true rfl) rfl rfl (up_e rfl) (v_if_ne_f (t := 26) c_145_8 rfl (by decide) (q_aload_n c_145_11 rfl (q_iload_n c_145_12 rfl (v_pi (z := 0) c_145_13 kf_8_3 rfl (Nat.le_of_ble_eq_true rfl) rfl rfl rfl (by decide) (q_aload_n c_145_16 rfl (v_gr (t := 42) c_145_17 kf_8_7 rfl (Nat.le_of_ble_eq_true rfl) rfl ?_)))))))
      refine q_iload_n c_145_20 rfl (q_dup2 c_145_21 ⟨rfl, rfl⟩ ?_)
      have h_62 := ir_42 hI 1
      have kn_63 : Hid (c_3 42 1 = c 42 1) := hF_5 42 1 (fun h => absurd h.1 (nn rfl))
      refine v_ia (v := c 42 1) c_145_22 rfl (by decide) (by decide) (by decide) ((up_c (nn rfl)).trans ((up_c (nn rfl)).trans (hid kn_63))) (q_iconst c_145_23 (v_iadd (v := c 42 1 + 1) c_145_24 rfl (v_nrm (fun y_64 hy_64 => (v_is c_145_25 rfl (by decide) (by decide) (by decide) (q_aload_n c_145_26 rfl (v_gi (z := 0) (v := 1) c_145_27 kf_8_3 rfl (Nat.le_of_ble_eq_true rfl) rfl rfl ((up_c (nn rfl)).trans (up_e rfl)) (v_if_ne_t (t := 37) c_145_30 rfl (by decide) ?_))))))))
      refine q_iconst c_145_37 (v_zret c_145_38 rfl (by decide) (bk_inl (v_if_ne_f (t := 33) c_169_28 rfl (by decide) (q_iconst c_169_31 (q_iret c_169_32 rfl (bk_inl (q_istore c_296_324 (Nat.le_of_ble_eq_true rfl) ?_)))))))
      refine q_goto (t := 1816) c_296_326 rfl ?_
      have hI_65 := iw_41_0 (v := 0) hI_4 ⟨by decide, by decide⟩
      have hI_66 := iw_41_0 (v := 1) hI_65 ⟨by decide, by decide⟩
      have hI_67 := iw_42 (j := 1) (v := y_64) hI_66 ⟨hy_64.1, hy_64.2⟩
      refine Wp_ls [(4, vi (i0 : Int)), (3, .ref 67), (2, .ref 41), (1, .ref 0), (0, .ref a_SC)] (lsub_cons rfl (lsub_cons rfl (lsub_cons rfl (lsub_cons rfl (lsub_cons rfl lsub_nil))))) ?_
      have kn_68 : Hid (c_3 1 3 = c 1 3) := hF_5 1 3 (fun h => absurd h.1 (nn rfl))
      have h_69 : (up (up (up c_3 41 0 0) 41 0 1) 42 1 y_64) 1 3 = c 1 3 := ((up_c (nn rfl)).trans ((up_c (nn rfl)).trans ((up_c (nn rfl)).trans (hid kn_68))))
      have h_70 : (up (up (up c_3 41 0 0) 41 0 1) 42 1 y_64) 41 2 = c 41 2 := ((up_c (nn rfl)).trans ((up_n (by decide)).trans ((up_n (by decide)).trans (hid kn_61))))
      have kn_71 : Hid (c_3 P 0 = n0) := (hF_5 P 0 (fun h => absurd h.1 (np0 hP rfl))).trans (hn0)
      have h_72 : (up (up (up c_3 41 0 0) 41 0 1) 42 1 y_64) P 0 = n0 := ((up_c (np0 hP rfl)).trans ((up_c (np0 hP rfl)).trans ((up_c (np0 hP rfl)).trans (hid kn_71))))
      have kn_73 : Hid (c_3 41 20 = n0) := (hF_5 41 20 (fun h => absurd h.1 (nn rfl))).trans (hm0)
      have h_74 : (up (up (up c_3 41 0 0) 41 0 1) 42 1 y_64) 41 20 = n0 := ((up_c (nn rfl)).trans ((up_n (by decide)).trans ((up_n (by decide)).trans (hid kn_73))))
      have kn_75 : Hid (c_3 P 1 = n1) := (hF_5 P 1 (fun h => absurd h.1 (np0 hP rfl))).trans (hn1)
      have h_76 : (up (up (up c_3 41 0 0) 41 0 1) 42 1 y_64) P 1 = n1 := ((up_c (np0 hP rfl)).trans ((up_c (np0 hP rfl)).trans ((up_c (np0 hP rfl)).trans (hid kn_75))))
      have kn_77 : Hid (c_3 41 21 = n1) := (hF_5 41 21 (fun h => absurd h.1 (nn rfl))).trans (hm1)
      have h_78 : (up (up (up c_3 41 0 0) 41 0 1) 42 1 y_64) 41 21 = n1 := ((up_c (nn rfl)).trans ((up_n (by decide)).trans ((up_n (by decide)).trans (hid kn_77))))
      have kn_79 : Hid (c_3 P 2 = n2) := (hF_5 P 2 (fun h => absurd h.1 (np0 hP rfl))).trans (hn2)
      have h_80 : (up (up (up c_3 41 0 0) 41 0 1) 42 1 y_64) P 2 = n2 := ((up_c (np0 hP rfl)).trans ((up_c (np0 hP rfl)).trans ((up_c (np0 hP rfl)).trans (hid kn_79))))
      have kn_81 : Hid (c_3 41 22 = n2) := (hF_5 41 22 (fun h => absurd h.1 (nn rfl))).trans (hm2)
      have h_82 : (up (up (up c_3 41 0 0) 41 0 1) 42 1 y_64) 41 22 = n2 := ((up_c (nn rfl)).trans ((up_n (by decide)).trans ((up_n (by decide)).trans (hid kn_81))))
      have kn_83 : Hid (c_3 P 3 = n3) := (hF_5 P 3 (fun h => absurd h.1 (np0 hP rfl))).trans (hn3)
      have h_84 : (up (up (up c_3 41 0 0) 41 0 1) 42 1 y_64) P 3 = n3 := ((up_c (np0 hP rfl)).trans ((up_c (np0 hP rfl)).trans ((up_c (np0 hP rfl)).trans (hid kn_83))))
      have kn_85 : Hid (c_3 41 23 = n3) := (hF_5 41 23 (fun h => absurd h.1 (nn rfl))).trans (hm3)
      have h_86 : (up (up (up c_3 41 0 0) 41 0 1) 42 1 y_64) 41 23 = n3 := ((up_c (nn rfl)).trans ((up_n (by decide)).trans ((up_n (by decide)).trans (hid kn_85))))
      have kn_87 : Hid (c_3 3 4 = c 3 4) := hF_5 3 4 (fun h => absurd h.1 (nn rfl))
      have h_88 : (up (up (up c_3 41 0 0) 41 0 1) 42 1 y_64) 3 4 = c 3 4 := ((up_c (nn rfl)).trans ((up_c (nn rfl)).trans ((up_c (nn rfl)).trans (hid kn_87))))
      have h_89 := ir_41_52 hI
      have kn_90 : Hid (c_3 41 52 = c 41 52) := hF_5 41 52 (fun h => absurd h.1 (nn rfl))
      have h_91 : (up (up (up c_3 41 0 0) 41 0 1) 42 1 y_64) 41 52 = c 41 52 := ((up_c (nn rfl)).trans ((up_n (by decide)).trans ((up_n (by decide)).trans (hid kn_90))))
      have h_92 := ir_3_3 hI
      have kn_93 : Hid (c_3 3 3 = c 3 3) := hF_5 3 3 (fun h => absurd h.1 (nn rfl))
      have h_94 : (up (up (up c_3 41 0 0) 41 0 1) 42 1 y_64) 3 3 = c 3 3 := ((up_c (nn rfl)).trans ((up_c (nn rfl)).trans ((up_c (nn rfl)).trans (hid kn_93))))
      have h_95 := ir_41_35 hI
      have kn_96 : Hid (c_3 41 35 = c 41 35) := hF_5 41 35 (fun h => absurd h.1 (nn rfl))
      have h_97 : (up (up (up c_3 41 0 0) 41 0 1) 42 1 y_64) 41 35 = c 41 35 := ((up_c (nn rfl)).trans ((up_n (by decide)).trans ((up_n (by decide)).trans (hid kn_96))))
      have h_98 : (up (up (up c_3 41 0 0) 41 0 1) 42 1 y_64) 3 4 = c 3 4 := ((up_c (nn rfl)).trans ((up_c (nn rfl)).trans ((up_c (nn rfl)).trans (hid kn_87))))
      have h_99 := ir_1_5 hI
      have kn_100 : Hid (c_3 1 5 = c 1 5) := hF_5 1 5 (fun h => absurd h.1 (nn rfl))
      have h_101 : (up (up (up c_3 41 0 0) 41 0 1) 42 1 y_64) 1 5 = c 1 5 := ((up_c (nn rfl)).trans ((up_c (nn rfl)).trans ((up_c (nn rfl)).trans (hid kn_100))))
      have h_102 := ir_41_8 hI
      have kn_103 : Hid (c_3 41 8 = c 41 8) := hF_5 41 8 (fun h => absurd h.1 (nn rfl))
      have h_104 : (up (up (up c_3 41 0 0) 41 0 1) 42 1 y_64) 41 8 = c 41 8 := ((up_c (nn rfl)).trans ((up_n (by decide)).trans ((up_n (by decide)).trans (hid kn_103))))
      exact K P Q (up (up (up c_3 41 0 0) 41 0 1) 42 1 y_64) 1 (by decide) hI_67 ⟨by omega, ub_fr hU (fun j => (up_c (nn rfl)).trans ((up_c (nn rfl)).trans ((up_c (nn rfl)).trans (hF_5 2 j (fun h => absurd h.1 (nn rfl)))))) (fun j => (up_c (nn rfl)).trans ((up_c (nn rfl)).trans ((up_c (nn rfl)).trans (hF_5 43 j (fun h => absurd h.1 (nn rfl)))))), ⟨by omega, by omega, by omega, by omega⟩, by omega, by omega, iw_fr2 hIw (by omega) (fun j => (up_c (nn rfl)).trans ((up_c (nn rfl)).trans ((up_c (nn rfl)).trans (hF_5 6 j (fun h => absurd h.1 (nn rfl)))))) (fun j => (up_c (nn rfl)).trans ((up_c (nn rfl)).trans ((up_c (nn rfl)).trans (hF_5 66 j (fun h => absurd h.1 (nn rfl)))))), by omega⟩
  intro hG_106
  refine bk_inl ?_
  have hP := iv_P hI_9
  have hQ := iv_Q hI_9
  have h_105 := ir_1_3 hI_9
  refine v_i2l c_263_7 (by omega) (v_ls c_263_8 rfl (by decide) (by decide) (by decide) (q_goto (t := 15) c_263_9 rfl (q_iconst c_263_15 (q_iret c_263_16 rfl (bk_inl (q_istore c_296_312 (Nat.le_of_ble_eq_true rfl) (q_aload_n c_296_314 rfl ?_)))))))
  refine q_aload_n c_296_315 rfl (q_iload c_296_316 rfl (q_iconst c_296_318 (v_iadd (v := (i0 : Int) + 1) c_296_319 rfl (v_scr (j := i0 + 1) c_296_320 (by omega) (by omega) hL hx1 ?_))))
  have hI_107 := iw_lx (a := 67) (j := 0) (v := y_11) hI_9 (by omega)
  have h_108 := ir_41_2 hI
  have kn_109 : Hid (c_8 41 2 = c 41 2) := hF_10 41 2 qn_d1a559e74
  have kn_110 : Hid (c_8 41 20 = n0) := (hF_10 41 20 qn_d1a559e74).trans (hm0)
  have kn_111 : Hid (c_8 41 21 = n1) := (hF_10 41 21 qn_d1a559e74).trans (hm1)
  have kn_112 : Hid (c_8 41 22 = n2) := (hF_10 41 22 qn_d1a559e74).trans (hm2)
  have kn_113 : Hid (c_8 41 23 = n3) := (hF_10 41 23 qn_d1a559e74).trans (hm3)
  have h_114 := ir_41_52 hI
  have kn_115 : Hid (c_8 41 52 = c 41 52) := hF_10 41 52 qn_d1a559e74
  have h_116 := ir_3_3 hI
  have h_117 := ir_41_35 hI
  have kn_118 : Hid (c_8 41 35 = c 41 35) := hF_10 41 35 qn_d1a559e74
  refine v_cv c_296_321 km_9_133 rfl rfl (Nat.le_of_ble_eq_true rfl) ⟨⟨rfl, rfl⟩, Nat.le_of_ble_eq_true rfl, rfl⟩ (Nat.le_of_ble_eq_true rfl) (Nat.le_of_ble_eq_true rfl) (L_84w (m := c) (a1 := x1) (yg := y_11) (t9 := c 1 3) (n0 := n0) (n1 := n1) (n2 := n2) (n3 := n3) (im := c 3 4) (wk := c 3 3) (F := c 2) (H := c 43) hI_107 hI hI_9 (show (-2147483648) ≤ x1 ∧ x1 ≤ 2147483647 from ⟨by first | exact q_46e5c6368 h_12 | omega, by first | exact q_e1f83221f h_12 | omega⟩) ⟨hy_11.1, hy_11.2⟩ ⟨by first | exact q_ab5745232 h_12 | omega, by first | exact q_a3a1e4eba h_12 | omega, by first | exact q_b794499be h_12 | omega⟩ (rfl) (((show _ = c 41 2 from ((up_c (nn rfl)).trans (hid kn_109))).trans (by omega))) ((hn0)) (((up_c (nn rfl)).trans (hid kn_110))) ((hn1)) (((up_c (nn rfl)).trans (hid kn_111))) ((hn2)) (((up_c (nn rfl)).trans (hid kn_112))) ((hn3)) (((up_c (nn rfl)).trans (hid kn_113))) (rfl) (((show _ = c 41 52 from ((up_c (nn rfl)).trans (hid kn_115))).trans (by omega))) (rfl) (((show _ = c 41 35 from ((up_c (nn rfl)).trans (hid kn_118))).trans (by omega))) (fun j => rfl) (fun j => (up_c (nn rfl)).trans (hF_10 43 j qn_0d25b8d75)) hU hG_106 (fun c_119 y_122 hI_120 hF_121 hy_122 h_123 h_124 h_125 h_126 h_127 h_128 h_129 h_130 h_131 h_132 h_133 => (bk_inl ?_)))
  have hs_134 := h_123.symm
  subst hs_134
  have h_135 := ir_41_2 hI_120
  have h_136 := ir_41_8 hI_120
  have h_137 := ir_1_5 hI_9
  have h_138 := ir_41_0 hI_120
  have h_139 := ir_41_20 hI_120
  have h_140 := ir_p0_0 hI_9 hP
  have h_141 := ir_41_21 hI_120
  have h_142 := ir_p0_1 hI_9 hP
  have h_143 := ir_41_22 hI_120
  have h_144 := ir_p0_2 hI_9 hP
  have h_145 := ir_41_23 hI_120
  have h_146 := ir_p0_3 hI_9 hP
  have h_147 := ir_41_52 hI_120
  have h_148 := ir_3_4 hI_9
  have h_149 := ir_41_35 hI_120
  have h_150 := ir_3_3 hI_9
  refine q_istore c_296_324 (Nat.le_of_ble_eq_true rfl) (q_goto (t := 1816) c_296_326 rfl (Wp_ls [(4, vi (i0 : Int)), (3, .ref 67), (2, .ref 41), (1, .ref 0), (0, .ref a_SC)] (lsub_cons rfl (lsub_cons rfl (lsub_cons rfl (lsub_cons rfl (lsub_cons rfl lsub_nil))))) ?_))
  have kn_151 : Hid (c_119 1 3 = c_8 1 3) := (hF_121 1 3 qn_69e479294).trans (up_c (nn rfl))
  have h_152 : c_119 1 3 = c_8 1 3 := (hid kn_151)
  have h_153 : c_119 41 2 = c_119 41 2 := rfl
  have kn_154 : Hid (c_119 P 0 = c_8 P 0) := (hF_121 P 0 (qn_4d0c31530 hP)).trans (up_c (np0 hP rfl))
  have h_155 : c_119 P 0 = c_8 P 0 := (hid kn_154)
  have h_156 : c_119 41 20 = c_119 41 20 := rfl
  have kn_157 : Hid (c_119 P 1 = c_8 P 1) := (hF_121 P 1 (qn_4d0c31530 hP)).trans (up_c (np0 hP rfl))
  have h_158 : c_119 P 1 = c_8 P 1 := (hid kn_157)
  have h_159 : c_119 41 21 = c_119 41 21 := rfl
  have kn_160 : Hid (c_119 P 2 = c_8 P 2) := (hF_121 P 2 (qn_4d0c31530 hP)).trans (up_c (np0 hP rfl))
  have h_161 : c_119 P 2 = c_8 P 2 := (hid kn_160)
  have h_162 : c_119 41 22 = c_119 41 22 := rfl
  have kn_163 : Hid (c_119 P 3 = c_8 P 3) := (hF_121 P 3 (qn_4d0c31530 hP)).trans (up_c (np0 hP rfl))
  have h_164 : c_119 P 3 = c_8 P 3 := (hid kn_163)
  have h_165 : c_119 41 23 = c_119 41 23 := rfl
  have kn_166 : Hid (c_119 3 4 = c_8 3 4) := (hF_121 3 4 qn_dc156a346).trans (up_c (nn rfl))
  have h_167 : c_119 3 4 = c_8 3 4 := (hid kn_166)
  have h_168 : c_119 41 52 = c_119 41 52 := rfl
  have kn_169 : Hid (c_119 3 3 = c_8 3 3) := (hF_121 3 3 qn_dc156a346).trans (up_c (nn rfl))
  have h_170 : c_119 3 3 = c_8 3 3 := (hid kn_169)
  have h_171 : c_119 41 35 = c_119 41 35 := rfl
  have h_172 : c_119 3 4 = c_8 3 4 := (hid kn_166)
  have kn_173 : Hid (c_119 1 5 = c_8 1 5) := (hF_121 1 5 qn_69e479294).trans (up_c (nn rfl))
  have h_174 : c_119 1 5 = c_8 1 5 := (hid kn_173)
  have h_175 : c_119 41 8 = c_119 41 8 := rfl
  exact K P Q c_119 0 (by decide) hI_120 ⟨by omega, ub_fr hU (fun j => (hF_121 2 j qn_1ac48cb63).trans ((up_c (nn rfl)).trans (hF_10 2 j qn_e229611f6))) (fun j => (hF_121 43 j qn_b8e2be383).trans ((up_c (nn rfl)).trans (hF_10 43 j qn_0d25b8d75))), ⟨by omega, by omega, by omega, by omega⟩, by omega, by omega, iw_fr2 hIw (by omega) (fun j => (hF_121 6 j qn_716ccd88d).trans ((up_c (nn rfl)).trans (hF_10 6 j qn_bc8185036))) (fun j => (hF_121 66 j qn_0a54c67a5).trans ((up_c (nn rfl)).trans (hF_10 66 j qn_82c2f0992))), by omega⟩

set_option maxRecDepth 100000 in
set_option maxHeartbeats 4000000 in
theorem o_2 {xs : Nat → Int32} {L i0 d nc ns P Q : Nat} {c : ME} {Z : AR → Prop} (hi : i0 + 8 ≤ L) (hL : L ≤ 100000) (hI : Iv 0 (-1) P Q c) (hR : Rq P c) (K : ∀ (P2 Q2 : Nat) (c2 : ME) (e : Nat), e ≤ 1 → Iv 0 (-1) P2 Q2 c2 → (Rq P2 c2) → Wp (a_scr L xs) (d + 90) 296 1816 [(4, vi (i0 : Int)), (3, .ref 67), (2, .ref 41), (1, .ref 0), (0, .ref a_SC)] [] (Wd P2 Q2 P2 P2 c2) (nc + e) (ns + 6 * e) Z) : Wp (a_scr L xs) (d + 90) 296 329 [(4, vi (i0 : Int)), (3, .ref 67), (2, .ref 41), (1, .ref 0), (0, .ref a_SC)] [] (Wd P Q P P c) nc ns Z := by
  obtain ⟨x1, hx1⟩ : ∃ z, (xs (i0 + 1)).toInt = z := ⟨_, rfl⟩
  have x1r := c_rng (xs (i0 + 1))
  rw [hx1] at x1r
  obtain ⟨x2, hx2⟩ : ∃ z, (xs (i0 + 2)).toInt = z := ⟨_, rfl⟩
  have x2r := c_rng (xs (i0 + 2))
  rw [hx2] at x2r
  obtain ⟨x3, hx3⟩ : ∃ z, (xs (i0 + 3)).toInt = z := ⟨_, rfl⟩
  have x3r := c_rng (xs (i0 + 3))
  rw [hx3] at x3r
  obtain ⟨x4, hx4⟩ : ∃ z, (xs (i0 + 4)).toInt = z := ⟨_, rfl⟩
  have x4r := c_rng (xs (i0 + 4))
  rw [hx4] at x4r
  obtain ⟨x5, hx5⟩ : ∃ z, (xs (i0 + 5)).toInt = z := ⟨_, rfl⟩
  have x5r := c_rng (xs (i0 + 5))
  rw [hx5] at x5r
  obtain ⟨x6, hx6⟩ : ∃ z, (xs (i0 + 6)).toInt = z := ⟨_, rfl⟩
  have x6r := c_rng (xs (i0 + 6))
  rw [hx6] at x6r
  obtain ⟨x7, hx7⟩ : ∃ z, (xs (i0 + 7)).toInt = z := ⟨_, rfl⟩
  have x7r := c_rng (xs (i0 + 7))
  rw [hx7] at x7r
  have hP := iv_P hI
  have hQ := iv_Q hI
  have hT := rl_t hR
  have hU := rl_u hR
  obtain ⟨n0, hn0⟩ : ∃ z, c P 0 = z := ⟨_, rfl⟩
  have hm0 : c 41 20 = n0 := (rl_nums hR).1.symm.trans hn0
  have hr0 := ir_p0_0 hI hP
  rw [hn0] at hr0
  obtain ⟨n1, hn1⟩ : ∃ z, c P 1 = z := ⟨_, rfl⟩
  have hm1 : c 41 21 = n1 := (rl_nums hR).2.1.symm.trans hn1
  have hr1 := ir_p0_1 hI hP
  rw [hn1] at hr1
  obtain ⟨n2, hn2⟩ : ∃ z, c P 2 = z := ⟨_, rfl⟩
  have hm2 : c 41 22 = n2 := (rl_nums hR).2.2.1.symm.trans hn2
  have hr2 := ir_p0_2 hI hP
  rw [hn2] at hr2
  obtain ⟨n3, hn3⟩ : ∃ z, c P 3 = z := ⟨_, rfl⟩
  have hm3 : c 41 23 = n3 := (rl_nums hR).2.2.2.symm.trans hn3
  have hr3 := ir_p0_3 hI hP
  rw [hn3] at hr3
  have hNimg := rl_img hR
  have hNwk := rl_wk hR
  have h_1 := ir_3_4 hI
  have hIw := rl_iw hR
  have hNplace := rl_place hR
  refine q_aload_n c_296_329 rfl (q_aload_n c_296_330 rfl (q_iload c_296_331 rfl (q_iconst c_296_333 (v_iadd (v := (i0 : Int) + 1) c_296_334 rfl (v_scr (j := i0 + 1) c_296_335 (by omega) (by omega) hL hx1 (q_aload_n c_296_336 rfl (q_call c_296_337 rfl rfl rfl ?_)))))))
  refine q_aload_n c_264_0 rfl (q_iconst c_264_1 (q_aload_n c_264_2 rfl (q_iload_n c_264_3 rfl ?_)))
  have h_2 := ir_1_3 hI
  refine v_cv c_264_4 km_9_15 rfl rfl (Nat.le_of_ble_eq_true rfl) ⟨⟨rfl, rfl⟩, Nat.le_of_ble_eq_true rfl, rfl⟩ (Nat.le_of_ble_eq_true rfl) (Nat.le_of_ble_eq_true rfl) (fn_of (s_85 (a1 := x1) hI (show (-2147483648) ≤ x1 ∧ x1 ≤ 2147483647 from ⟨by omega, by omega⟩) (fun c_3 hI_4 hF_5 h_6 h_7 => ?_) (fun c_8 y_11 hI_9 hF_10 hy_11 h_12 => ?_)))
  · skip
    intro hG_150
    have h_13 := ir_1_3 hI_4
    refine bk_thr (z := Int32.ofInt 1) rfl ⟨_, _, rfl⟩ rfl (bk_inl (q_istore c_296_340 (Nat.le_of_ble_eq_true rfl) (q_aload_n c_296_342 rfl (q_aload_n c_296_343 rfl (q_iload c_296_344 rfl (q_iconst c_296_346 (v_iadd (v := (i0 : Int) + 1) c_296_347 rfl ?_)))))))
    refine v_scr (j := i0 + 1) c_296_348 (by omega) (by omega) hL hx1 (v_cv c_296_349 km_9_136 rfl rfl (Nat.le_of_ble_eq_true rfl) ⟨⟨rfl, rfl⟩, Nat.le_of_ble_eq_true rfl, rfl⟩ (Nat.le_of_ble_eq_true rfl) (Nat.le_of_ble_eq_true rfl) (q_aload_n c_177_0 rfl (q_iconst c_177_1 (v_pi (z := 0) c_177_2 kf_8_3 rfl (Nat.le_of_ble_eq_true rfl) rfl rfl rfl (by decide) (q_aload_n c_177_5 rfl (q_iload_n c_177_6 rfl ?_))))))
    by_cases h_14 : x1 < 0
    · refine v_if_lt_t (t := 29) c_177_7 rfl ⟨by first | (clear hT hNimg hNwk h_1 hNplace h_2 h_13; omega) | omega, h_14, by decide⟩ (q_iconst c_177_29 (q_iconst c_177_30 (q_iconst c_177_31 (v_cv c_177_32 km_8_203 rfl rfl (Nat.le_of_ble_eq_true rfl) ⟨⟨rfl, rfl⟩, Nat.le_of_ble_eq_true rfl, rfl⟩ (Nat.le_of_ble_eq_true rfl) (Nat.le_of_ble_eq_true rfl) (q_iload_n c_145_0 rfl (v_if_ne_f (t := 26) c_145_1 rfl (by decide) (q_aload_n c_145_4 rfl ?_)))))))
      refine v_gi (z := 0) (v := 0) c_145_5 kf_8_3 rfl (Nat.le_of_ble_eq_true rfl) rfl rfl (up_e rfl) (v_if_ne_f (t := 26) c_145_8 rfl (by decide) (q_aload_n c_145_11 rfl (q_iload_n c_145_12 rfl (v_pi (z := 0) c_145_13 kf_8_3 rfl (Nat.le_of_ble_eq_true rfl) rfl rfl rfl (by decide) (q_aload_n c_145_16 rfl (v_gr (t := 42) c_145_17 kf_8_7 rfl (Nat.le_of_ble_eq_true rfl) rfl (q_iload_n c_145_20 rfl ?_)))))))
      refine q_dup2 c_145_21 ⟨rfl, rfl⟩ ?_
      have h_15 := ir_42 hI 1
      have kn_16 : Hid (c_3 42 1 = c 42 1) := hF_5 42 1 (fun h => absurd h.1 (nn rfl))
      refine v_ia (v := c 42 1) c_145_22 rfl (by decide) (by decide) (by decide) ((up_c (nn rfl)).trans ((up_c (nn rfl)).trans (hid kn_16))) (q_iconst c_145_23 (v_iadd (v := c 42 1 + 1) c_145_24 rfl (v_nrm (fun y_17 hy_17 => (v_is c_145_25 rfl (by decide) (by decide) (by decide) (q_aload_n c_145_26 rfl (v_gi (z := 0) (v := 1) c_145_27 kf_8_3 rfl (Nat.le_of_ble_eq_true rfl) rfl rfl ((up_c (nn rfl)).trans (up_e rfl)) (v_if_ne_t (t := 37) c_145_30 rfl (by decide) ?_))))))))
      refine q_iconst c_145_37 (v_zret c_145_38 rfl (by decide) (bk_inl (v_if_ne_f (t := 40) c_177_35 rfl (by decide) (q_iconst c_177_38 (q_iret c_177_39 rfl (bk_inl (q_istore c_296_352 (Nat.le_of_ble_eq_true rfl) ?_)))))))
      refine q_goto (t := 1816) c_296_354 rfl ?_
      have hI_18 := iw_41_0 (v := 0) hI_4 ⟨by decide, by decide⟩
      have hI_19 := iw_41_0 (v := 1) hI_18 ⟨by decide, by decide⟩
      have hI_20 := iw_42 (j := 1) (v := y_17) hI_19 ⟨hy_17.1, hy_17.2⟩
      refine Wp_ls [(4, vi (i0 : Int)), (3, .ref 67), (2, .ref 41), (1, .ref 0), (0, .ref a_SC)] (lsub_cons rfl (lsub_cons rfl (lsub_cons rfl (lsub_cons rfl (lsub_cons rfl lsub_nil))))) ?_
      have kn_21 : Hid (c_3 1 3 = c 1 3) := hF_5 1 3 (fun h => absurd h.1 (nn rfl))
      have h_22 : (up (up (up c_3 41 0 0) 41 0 1) 42 1 y_17) 1 3 = c 1 3 := ((up_c (nn rfl)).trans ((up_c (nn rfl)).trans ((up_c (nn rfl)).trans (hid kn_21))))
      have h_23 := ir_41_2 hI
      have kn_24 : Hid (c_3 41 2 = c 41 2) := hF_5 41 2 (fun h => absurd h.1 (nn rfl))
      have h_25 : (up (up (up c_3 41 0 0) 41 0 1) 42 1 y_17) 41 2 = c 41 2 := ((up_c (nn rfl)).trans ((up_n (by decide)).trans ((up_n (by decide)).trans (hid kn_24))))
      have kn_26 : Hid (c_3 P 0 = n0) := (hF_5 P 0 (fun h => absurd h.1 (np0 hP rfl))).trans (hn0)
      have h_27 : (up (up (up c_3 41 0 0) 41 0 1) 42 1 y_17) P 0 = n0 := ((up_c (np0 hP rfl)).trans ((up_c (np0 hP rfl)).trans ((up_c (np0 hP rfl)).trans (hid kn_26))))
      have kn_28 : Hid (c_3 41 20 = n0) := (hF_5 41 20 (fun h => absurd h.1 (nn rfl))).trans (hm0)
      have h_29 : (up (up (up c_3 41 0 0) 41 0 1) 42 1 y_17) 41 20 = n0 := ((up_c (nn rfl)).trans ((up_n (by decide)).trans ((up_n (by decide)).trans (hid kn_28))))
      have kn_30 : Hid (c_3 P 1 = n1) := (hF_5 P 1 (fun h => absurd h.1 (np0 hP rfl))).trans (hn1)
      have h_31 : (up (up (up c_3 41 0 0) 41 0 1) 42 1 y_17) P 1 = n1 := ((up_c (np0 hP rfl)).trans ((up_c (np0 hP rfl)).trans ((up_c (np0 hP rfl)).trans (hid kn_30))))
      have kn_32 : Hid (c_3 41 21 = n1) := (hF_5 41 21 (fun h => absurd h.1 (nn rfl))).trans (hm1)
      have h_33 : (up (up (up c_3 41 0 0) 41 0 1) 42 1 y_17) 41 21 = n1 := ((up_c (nn rfl)).trans ((up_n (by decide)).trans ((up_n (by decide)).trans (hid kn_32))))
      have kn_34 : Hid (c_3 P 2 = n2) := (hF_5 P 2 (fun h => absurd h.1 (np0 hP rfl))).trans (hn2)
      have h_35 : (up (up (up c_3 41 0 0) 41 0 1) 42 1 y_17) P 2 = n2 := ((up_c (np0 hP rfl)).trans ((up_c (np0 hP rfl)).trans ((up_c (np0 hP rfl)).trans (hid kn_34))))
      have kn_36 : Hid (c_3 41 22 = n2) := (hF_5 41 22 (fun h => absurd h.1 (nn rfl))).trans (hm2)
      have h_37 : (up (up (up c_3 41 0 0) 41 0 1) 42 1 y_17) 41 22 = n2 := ((up_c (nn rfl)).trans ((up_n (by decide)).trans ((up_n (by decide)).trans (hid kn_36))))
      have kn_38 : Hid (c_3 P 3 = n3) := (hF_5 P 3 (fun h => absurd h.1 (np0 hP rfl))).trans (hn3)
      have h_39 : (up (up (up c_3 41 0 0) 41 0 1) 42 1 y_17) P 3 = n3 := ((up_c (np0 hP rfl)).trans ((up_c (np0 hP rfl)).trans ((up_c (np0 hP rfl)).trans (hid kn_38))))
      have kn_40 : Hid (c_3 41 23 = n3) := (hF_5 41 23 (fun h => absurd h.1 (nn rfl))).trans (hm3)
      have h_41 : (up (up (up c_3 41 0 0) 41 0 1) 42 1 y_17) 41 23 = n3 := ((up_c (nn rfl)).trans ((up_n (by decide)).trans ((up_n (by decide)).trans (hid kn_40))))
      have kn_42 : Hid (c_3 3 4 = c 3 4) := hF_5 3 4 (fun h => absurd h.1 (nn rfl))
      have h_43 : (up (up (up c_3 41 0 0) 41 0 1) 42 1 y_17) 3 4 = c 3 4 := ((up_c (nn rfl)).trans ((up_c (nn rfl)).trans ((up_c (nn rfl)).trans (hid kn_42))))
      have h_44 := ir_41_52 hI
      have kn_45 : Hid (c_3 41 52 = c 41 52) := hF_5 41 52 (fun h => absurd h.1 (nn rfl))
      have h_46 : (up (up (up c_3 41 0 0) 41 0 1) 42 1 y_17) 41 52 = c 41 52 := ((up_c (nn rfl)).trans ((up_n (by decide)).trans ((up_n (by decide)).trans (hid kn_45))))
      have h_47 := ir_3_3 hI
      have kn_48 : Hid (c_3 3 3 = c 3 3) := hF_5 3 3 (fun h => absurd h.1 (nn rfl))
      have h_49 : (up (up (up c_3 41 0 0) 41 0 1) 42 1 y_17) 3 3 = c 3 3 := ((up_c (nn rfl)).trans ((up_c (nn rfl)).trans ((up_c (nn rfl)).trans (hid kn_48))))
      have h_50 := ir_41_35 hI
      have kn_51 : Hid (c_3 41 35 = c 41 35) := hF_5 41 35 (fun h => absurd h.1 (nn rfl))
      have h_52 : (up (up (up c_3 41 0 0) 41 0 1) 42 1 y_17) 41 35 = c 41 35 := ((up_c (nn rfl)).trans ((up_n (by decide)).trans ((up_n (by decide)).trans (hid kn_51))))
      have h_53 : (up (up (up c_3 41 0 0) 41 0 1) 42 1 y_17) 3 4 = c 3 4 := ((up_c (nn rfl)).trans ((up_c (nn rfl)).trans ((up_c (nn rfl)).trans (hid kn_42))))
      have h_54 := ir_1_5 hI
      have kn_55 : Hid (c_3 1 5 = c 1 5) := hF_5 1 5 (fun h => absurd h.1 (nn rfl))
      have h_56 : (up (up (up c_3 41 0 0) 41 0 1) 42 1 y_17) 1 5 = c 1 5 := ((up_c (nn rfl)).trans ((up_c (nn rfl)).trans ((up_c (nn rfl)).trans (hid kn_55))))
      have h_57 := ir_41_8 hI
      have kn_58 : Hid (c_3 41 8 = c 41 8) := hF_5 41 8 (fun h => absurd h.1 (nn rfl))
      have h_59 : (up (up (up c_3 41 0 0) 41 0 1) 42 1 y_17) 41 8 = c 41 8 := ((up_c (nn rfl)).trans ((up_n (by decide)).trans ((up_n (by decide)).trans (hid kn_58))))
      exact K P Q (up (up (up c_3 41 0 0) 41 0 1) 42 1 y_17) 1 (by decide) hI_20 ⟨by omega, ub_fr hU (fun j => (up_c (nn rfl)).trans ((up_c (nn rfl)).trans ((up_c (nn rfl)).trans (hF_5 2 j (fun h => absurd h.1 (nn rfl)))))) (fun j => (up_c (nn rfl)).trans ((up_c (nn rfl)).trans ((up_c (nn rfl)).trans (hF_5 43 j (fun h => absurd h.1 (nn rfl)))))), ⟨by omega, by omega, by omega, by omega⟩, by omega, by omega, iw_fr2 hIw (by omega) (fun j => (up_c (nn rfl)).trans ((up_c (nn rfl)).trans ((up_c (nn rfl)).trans (hF_5 6 j (fun h => absurd h.1 (nn rfl)))))) (fun j => (up_c (nn rfl)).trans ((up_c (nn rfl)).trans ((up_c (nn rfl)).trans (hF_5 66 j (fun h => absurd h.1 (nn rfl)))))), by omega⟩
    · refine v_if_lt_f (t := 29) c_177_7 rfl ⟨by decide, (Int.not_lt.mp h_14), by first | (clear hT hNimg hNwk h_1 hNplace h_2 h_13; omega) | omega⟩ (q_iload_n c_177_10 rfl (q_aload_n c_177_11 rfl ?_))
      have h_60 := ir_41_2 hI
      have kn_61 : Hid (c_3 41 2 = c 41 2) := hF_5 41 2 (fun h => absurd h.1 (nn rfl))
      refine v_gi (z := 2) (v := c 41 2) c_177_12 kf_8_99 rfl (Nat.le_of_ble_eq_true rfl) rfl rfl ((up_n (by decide)).trans (hid kn_61)) ?_
      by_cases h_62 : x1 > c 41 2
      · refine v_ic_gt_t (t := 29) c_177_15 rfl ⟨by first | exact q_3b2b08511 h_60 | omega, h_62, by first | (clear hT hNimg hNwk h_1 hNplace h_2 h_13 h_14 h_60; omega) | omega⟩ (q_iconst c_177_29 (q_iconst c_177_30 (q_iconst c_177_31 (v_cv c_177_32 km_8_203 rfl rfl (Nat.le_of_ble_eq_true rfl) ⟨⟨rfl, rfl⟩, Nat.le_of_ble_eq_true rfl, rfl⟩ (Nat.le_of_ble_eq_true rfl) (Nat.le_of_ble_eq_true rfl) (q_iload_n c_145_0 rfl (v_if_ne_f (t := 26) c_145_1 rfl (by decide) (q_aload_n c_145_4 rfl ?_)))))))
        refine v_gi (z := 0) (v := 0) c_145_5 kf_8_3 rfl (Nat.le_of_ble_eq_true rfl) rfl rfl (up_e rfl) (v_if_ne_f (t := 26) c_145_8 rfl (by decide) (q_aload_n c_145_11 rfl (q_iload_n c_145_12 rfl (v_pi (z := 0) c_145_13 kf_8_3 rfl (Nat.le_of_ble_eq_true rfl) rfl rfl rfl (by decide) (q_aload_n c_145_16 rfl (v_gr (t := 42) c_145_17 kf_8_7 rfl (Nat.le_of_ble_eq_true rfl) rfl (q_iload_n c_145_20 rfl ?_)))))))
        refine q_dup2 c_145_21 ⟨rfl, rfl⟩ ?_
        have h_63 := ir_42 hI 1
        have kn_64 : Hid (c_3 42 1 = c 42 1) := hF_5 42 1 (fun h => absurd h.1 (nn rfl))
        refine v_ia (v := c 42 1) c_145_22 rfl (by decide) (by decide) (by decide) ((up_c (nn rfl)).trans ((up_c (nn rfl)).trans (hid kn_64))) (q_iconst c_145_23 (v_iadd (v := c 42 1 + 1) c_145_24 rfl (v_nrm (fun y_65 hy_65 => (v_is c_145_25 rfl (by decide) (by decide) (by decide) (q_aload_n c_145_26 rfl (v_gi (z := 0) (v := 1) c_145_27 kf_8_3 rfl (Nat.le_of_ble_eq_true rfl) rfl rfl ((up_c (nn rfl)).trans (up_e rfl)) (v_if_ne_t (t := 37) c_145_30 rfl (by decide) ?_))))))))
        refine q_iconst c_145_37 (v_zret c_145_38 rfl (by decide) (bk_inl (v_if_ne_f (t := 40) c_177_35 rfl (by decide) (q_iconst c_177_38 (q_iret c_177_39 rfl (bk_inl (q_istore c_296_352 (Nat.le_of_ble_eq_true rfl) ?_)))))))
        refine q_goto (t := 1816) c_296_354 rfl ?_
        have hI_66 := iw_41_0 (v := 0) hI_4 ⟨by decide, by decide⟩
        have hI_67 := iw_41_0 (v := 1) hI_66 ⟨by decide, by decide⟩
        have hI_68 := iw_42 (j := 1) (v := y_65) hI_67 ⟨hy_65.1, hy_65.2⟩
        refine Wp_ls [(4, vi (i0 : Int)), (3, .ref 67), (2, .ref 41), (1, .ref 0), (0, .ref a_SC)] (lsub_cons rfl (lsub_cons rfl (lsub_cons rfl (lsub_cons rfl (lsub_cons rfl lsub_nil))))) ?_
        have kn_69 : Hid (c_3 1 3 = c 1 3) := hF_5 1 3 (fun h => absurd h.1 (nn rfl))
        have h_70 : (up (up (up c_3 41 0 0) 41 0 1) 42 1 y_65) 1 3 = c 1 3 := ((up_c (nn rfl)).trans ((up_c (nn rfl)).trans ((up_c (nn rfl)).trans (hid kn_69))))
        have h_71 : (up (up (up c_3 41 0 0) 41 0 1) 42 1 y_65) 41 2 = c 41 2 := ((up_c (nn rfl)).trans ((up_n (by decide)).trans ((up_n (by decide)).trans (hid kn_61))))
        have kn_72 : Hid (c_3 P 0 = n0) := (hF_5 P 0 (fun h => absurd h.1 (np0 hP rfl))).trans (hn0)
        have h_73 : (up (up (up c_3 41 0 0) 41 0 1) 42 1 y_65) P 0 = n0 := ((up_c (np0 hP rfl)).trans ((up_c (np0 hP rfl)).trans ((up_c (np0 hP rfl)).trans (hid kn_72))))
        have kn_74 : Hid (c_3 41 20 = n0) := (hF_5 41 20 (fun h => absurd h.1 (nn rfl))).trans (hm0)
        have h_75 : (up (up (up c_3 41 0 0) 41 0 1) 42 1 y_65) 41 20 = n0 := ((up_c (nn rfl)).trans ((up_n (by decide)).trans ((up_n (by decide)).trans (hid kn_74))))
        have kn_76 : Hid (c_3 P 1 = n1) := (hF_5 P 1 (fun h => absurd h.1 (np0 hP rfl))).trans (hn1)
        have h_77 : (up (up (up c_3 41 0 0) 41 0 1) 42 1 y_65) P 1 = n1 := ((up_c (np0 hP rfl)).trans ((up_c (np0 hP rfl)).trans ((up_c (np0 hP rfl)).trans (hid kn_76))))
        have kn_78 : Hid (c_3 41 21 = n1) := (hF_5 41 21 (fun h => absurd h.1 (nn rfl))).trans (hm1)
        have h_79 : (up (up (up c_3 41 0 0) 41 0 1) 42 1 y_65) 41 21 = n1 := ((up_c (nn rfl)).trans ((up_n (by decide)).trans ((up_n (by decide)).trans (hid kn_78))))
        have kn_80 : Hid (c_3 P 2 = n2) := (hF_5 P 2 (fun h => absurd h.1 (np0 hP rfl))).trans (hn2)
        have h_81 : (up (up (up c_3 41 0 0) 41 0 1) 42 1 y_65) P 2 = n2 := ((up_c (np0 hP rfl)).trans ((up_c (np0 hP rfl)).trans ((up_c (np0 hP rfl)).trans (hid kn_80))))
        have kn_82 : Hid (c_3 41 22 = n2) := (hF_5 41 22 (fun h => absurd h.1 (nn rfl))).trans (hm2)
        have h_83 : (up (up (up c_3 41 0 0) 41 0 1) 42 1 y_65) 41 22 = n2 := ((up_c (nn rfl)).trans ((up_n (by decide)).trans ((up_n (by decide)).trans (hid kn_82))))
        have kn_84 : Hid (c_3 P 3 = n3) := (hF_5 P 3 (fun h => absurd h.1 (np0 hP rfl))).trans (hn3)
        have h_85 : (up (up (up c_3 41 0 0) 41 0 1) 42 1 y_65) P 3 = n3 := ((up_c (np0 hP rfl)).trans ((up_c (np0 hP rfl)).trans ((up_c (np0 hP rfl)).trans (hid kn_84))))
        have kn_86 : Hid (c_3 41 23 = n3) := (hF_5 41 23 (fun h => absurd h.1 (nn rfl))).trans (hm3)
        have h_87 : (up (up (up c_3 41 0 0) 41 0 1) 42 1 y_65) 41 23 = n3 := ((up_c (nn rfl)).trans ((up_n (by decide)).trans ((up_n (by decide)).trans (hid kn_86))))
        have kn_88 : Hid (c_3 3 4 = c 3 4) := hF_5 3 4 (fun h => absurd h.1 (nn rfl))
        have h_89 : (up (up (up c_3 41 0 0) 41 0 1) 42 1 y_65) 3 4 = c 3 4 := ((up_c (nn rfl)).trans ((up_c (nn rfl)).trans ((up_c (nn rfl)).trans (hid kn_88))))
        have h_90 := ir_41_52 hI
        have kn_91 : Hid (c_3 41 52 = c 41 52) := hF_5 41 52 (fun h => absurd h.1 (nn rfl))
        have h_92 : (up (up (up c_3 41 0 0) 41 0 1) 42 1 y_65) 41 52 = c 41 52 := ((up_c (nn rfl)).trans ((up_n (by decide)).trans ((up_n (by decide)).trans (hid kn_91))))
        have h_93 := ir_3_3 hI
        have kn_94 : Hid (c_3 3 3 = c 3 3) := hF_5 3 3 (fun h => absurd h.1 (nn rfl))
        have h_95 : (up (up (up c_3 41 0 0) 41 0 1) 42 1 y_65) 3 3 = c 3 3 := ((up_c (nn rfl)).trans ((up_c (nn rfl)).trans ((up_c (nn rfl)).trans (hid kn_94))))
        have h_96 := ir_41_35 hI
        have kn_97 : Hid (c_3 41 35 = c 41 35) := hF_5 41 35 (fun h => absurd h.1 (nn rfl))
        have h_98 : (up (up (up c_3 41 0 0) 41 0 1) 42 1 y_65) 41 35 = c 41 35 := ((up_c (nn rfl)).trans ((up_n (by decide)).trans ((up_n (by decide)).trans (hid kn_97))))
        have h_99 : (up (up (up c_3 41 0 0) 41 0 1) 42 1 y_65) 3 4 = c 3 4 := ((up_c (nn rfl)).trans ((up_c (nn rfl)).trans ((up_c (nn rfl)).trans (hid kn_88))))
        have h_100 := ir_1_5 hI
        have kn_101 : Hid (c_3 1 5 = c 1 5) := hF_5 1 5 (fun h => absurd h.1 (nn rfl))
        have h_102 : (up (up (up c_3 41 0 0) 41 0 1) 42 1 y_65) 1 5 = c 1 5 := ((up_c (nn rfl)).trans ((up_c (nn rfl)).trans ((up_c (nn rfl)).trans (hid kn_101))))
        have h_103 := ir_41_8 hI
        have kn_104 : Hid (c_3 41 8 = c 41 8) := hF_5 41 8 (fun h => absurd h.1 (nn rfl))
        have h_105 : (up (up (up c_3 41 0 0) 41 0 1) 42 1 y_65) 41 8 = c 41 8 := ((up_c (nn rfl)).trans ((up_n (by decide)).trans ((up_n (by decide)).trans (hid kn_104))))
        exact K P Q (up (up (up c_3 41 0 0) 41 0 1) 42 1 y_65) 1 (by decide) hI_68 ⟨by omega, ub_fr hU (fun j => (up_c (nn rfl)).trans ((up_c (nn rfl)).trans ((up_c (nn rfl)).trans (hF_5 2 j (fun h => absurd h.1 (nn rfl)))))) (fun j => (up_c (nn rfl)).trans ((up_c (nn rfl)).trans ((up_c (nn rfl)).trans (hF_5 43 j (fun h => absurd h.1 (nn rfl)))))), ⟨by omega, by omega, by omega, by omega⟩, by omega, by omega, iw_fr2 hIw (by omega) (fun j => (up_c (nn rfl)).trans ((up_c (nn rfl)).trans ((up_c (nn rfl)).trans (hF_5 6 j (fun h => absurd h.1 (nn rfl)))))) (fun j => (up_c (nn rfl)).trans ((up_c (nn rfl)).trans ((up_c (nn rfl)).trans (hF_5 66 j (fun h => absurd h.1 (nn rfl)))))), by omega⟩
      · refine v_ic_gt_f (t := 29) c_177_15 rfl ⟨by first | exact q_c05c968ed h_14 | omega, (Int.not_lt.mp h_62), by first | exact q_3885e607f h_60 | omega⟩ (q_iload_n c_177_18 rfl (v_sip c_177_19 (by decide) (v_ic_gt_t (t := 29) c_177_22 rfl ⟨by decide, by omega, by first | exact q_c2c15a399 h_60 h_62 | omega⟩ (q_iconst c_177_29 (q_iconst c_177_30 (q_iconst c_177_31 (v_cv c_177_32 km_8_203 rfl rfl (Nat.le_of_ble_eq_true rfl) ⟨⟨rfl, rfl⟩, Nat.le_of_ble_eq_true rfl, rfl⟩ (Nat.le_of_ble_eq_true rfl) (Nat.le_of_ble_eq_true rfl) ?_)))))))
        refine q_iload_n c_145_0 rfl (v_if_ne_f (t := 26) c_145_1 rfl (by decide) (q_aload_n c_145_4 rfl (v_gi (z := 0) (v := 0) c_145_5 kf_8_3 rfl (Nat.le_of_ble_eq_true rfl) rfl rfl (up_e rfl) (v_if_ne_f (t := 26) c_145_8 rfl (by decide) (q_aload_n c_145_11 rfl (q_iload_n c_145_12 rfl (v_pi (z := 0) c_145_13 kf_8_3 rfl (Nat.le_of_ble_eq_true rfl) rfl rfl rfl (by decide) ?_)))))))
        refine q_aload_n c_145_16 rfl (v_gr (t := 42) c_145_17 kf_8_7 rfl (Nat.le_of_ble_eq_true rfl) rfl (q_iload_n c_145_20 rfl (q_dup2 c_145_21 ⟨rfl, rfl⟩ ?_)))
        have h_106 := ir_42 hI 1
        have kn_107 : Hid (c_3 42 1 = c 42 1) := hF_5 42 1 (fun h => absurd h.1 (nn rfl))
        refine v_ia (v := c 42 1) c_145_22 rfl (by decide) (by decide) (by decide) ((up_c (nn rfl)).trans ((up_c (nn rfl)).trans (hid kn_107))) (q_iconst c_145_23 (v_iadd (v := c 42 1 + 1) c_145_24 rfl (v_nrm (fun y_108 hy_108 => (v_is c_145_25 rfl (by decide) (by decide) (by decide) (q_aload_n c_145_26 rfl (v_gi (z := 0) (v := 1) c_145_27 kf_8_3 rfl (Nat.le_of_ble_eq_true rfl) rfl rfl ((up_c (nn rfl)).trans (up_e rfl)) (v_if_ne_t (t := 37) c_145_30 rfl (by decide) ?_))))))))
        refine q_iconst c_145_37 (v_zret c_145_38 rfl (by decide) (bk_inl (v_if_ne_f (t := 40) c_177_35 rfl (by decide) (q_iconst c_177_38 (q_iret c_177_39 rfl (bk_inl (q_istore c_296_352 (Nat.le_of_ble_eq_true rfl) ?_)))))))
        refine q_goto (t := 1816) c_296_354 rfl ?_
        have hI_109 := iw_41_0 (v := 0) hI_4 ⟨by decide, by decide⟩
        have hI_110 := iw_41_0 (v := 1) hI_109 ⟨by decide, by decide⟩
        have hI_111 := iw_42 (j := 1) (v := y_108) hI_110 ⟨hy_108.1, hy_108.2⟩
        refine Wp_ls [(4, vi (i0 : Int)), (3, .ref 67), (2, .ref 41), (1, .ref 0), (0, .ref a_SC)] (lsub_cons rfl (lsub_cons rfl (lsub_cons rfl (lsub_cons rfl (lsub_cons rfl lsub_nil))))) ?_
        have kn_112 : Hid (c_3 1 3 = c 1 3) := hF_5 1 3 (fun h => absurd h.1 (nn rfl))
        have h_113 : (up (up (up c_3 41 0 0) 41 0 1) 42 1 y_108) 1 3 = c 1 3 := ((up_c (nn rfl)).trans ((up_c (nn rfl)).trans ((up_c (nn rfl)).trans (hid kn_112))))
        have h_114 : (up (up (up c_3 41 0 0) 41 0 1) 42 1 y_108) 41 2 = c 41 2 := ((up_c (nn rfl)).trans ((up_n (by decide)).trans ((up_n (by decide)).trans (hid kn_61))))
        have kn_115 : Hid (c_3 P 0 = n0) := (hF_5 P 0 (fun h => absurd h.1 (np0 hP rfl))).trans (hn0)
        have h_116 : (up (up (up c_3 41 0 0) 41 0 1) 42 1 y_108) P 0 = n0 := ((up_c (np0 hP rfl)).trans ((up_c (np0 hP rfl)).trans ((up_c (np0 hP rfl)).trans (hid kn_115))))
        have kn_117 : Hid (c_3 41 20 = n0) := (hF_5 41 20 (fun h => absurd h.1 (nn rfl))).trans (hm0)
        have h_118 : (up (up (up c_3 41 0 0) 41 0 1) 42 1 y_108) 41 20 = n0 := ((up_c (nn rfl)).trans ((up_n (by decide)).trans ((up_n (by decide)).trans (hid kn_117))))
        have kn_119 : Hid (c_3 P 1 = n1) := (hF_5 P 1 (fun h => absurd h.1 (np0 hP rfl))).trans (hn1)
        have h_120 : (up (up (up c_3 41 0 0) 41 0 1) 42 1 y_108) P 1 = n1 := ((up_c (np0 hP rfl)).trans ((up_c (np0 hP rfl)).trans ((up_c (np0 hP rfl)).trans (hid kn_119))))
        have kn_121 : Hid (c_3 41 21 = n1) := (hF_5 41 21 (fun h => absurd h.1 (nn rfl))).trans (hm1)
        have h_122 : (up (up (up c_3 41 0 0) 41 0 1) 42 1 y_108) 41 21 = n1 := ((up_c (nn rfl)).trans ((up_n (by decide)).trans ((up_n (by decide)).trans (hid kn_121))))
        have kn_123 : Hid (c_3 P 2 = n2) := (hF_5 P 2 (fun h => absurd h.1 (np0 hP rfl))).trans (hn2)
        have h_124 : (up (up (up c_3 41 0 0) 41 0 1) 42 1 y_108) P 2 = n2 := ((up_c (np0 hP rfl)).trans ((up_c (np0 hP rfl)).trans ((up_c (np0 hP rfl)).trans (hid kn_123))))
        have kn_125 : Hid (c_3 41 22 = n2) := (hF_5 41 22 (fun h => absurd h.1 (nn rfl))).trans (hm2)
        have h_126 : (up (up (up c_3 41 0 0) 41 0 1) 42 1 y_108) 41 22 = n2 := ((up_c (nn rfl)).trans ((up_n (by decide)).trans ((up_n (by decide)).trans (hid kn_125))))
        have kn_127 : Hid (c_3 P 3 = n3) := (hF_5 P 3 (fun h => absurd h.1 (np0 hP rfl))).trans (hn3)
        have h_128 : (up (up (up c_3 41 0 0) 41 0 1) 42 1 y_108) P 3 = n3 := ((up_c (np0 hP rfl)).trans ((up_c (np0 hP rfl)).trans ((up_c (np0 hP rfl)).trans (hid kn_127))))
        have kn_129 : Hid (c_3 41 23 = n3) := (hF_5 41 23 (fun h => absurd h.1 (nn rfl))).trans (hm3)
        have h_130 : (up (up (up c_3 41 0 0) 41 0 1) 42 1 y_108) 41 23 = n3 := ((up_c (nn rfl)).trans ((up_n (by decide)).trans ((up_n (by decide)).trans (hid kn_129))))
        have kn_131 : Hid (c_3 3 4 = c 3 4) := hF_5 3 4 (fun h => absurd h.1 (nn rfl))
        have h_132 : (up (up (up c_3 41 0 0) 41 0 1) 42 1 y_108) 3 4 = c 3 4 := ((up_c (nn rfl)).trans ((up_c (nn rfl)).trans ((up_c (nn rfl)).trans (hid kn_131))))
        have h_133 := ir_41_52 hI
        have kn_134 : Hid (c_3 41 52 = c 41 52) := hF_5 41 52 (fun h => absurd h.1 (nn rfl))
        have h_135 : (up (up (up c_3 41 0 0) 41 0 1) 42 1 y_108) 41 52 = c 41 52 := ((up_c (nn rfl)).trans ((up_n (by decide)).trans ((up_n (by decide)).trans (hid kn_134))))
        have h_136 := ir_3_3 hI
        have kn_137 : Hid (c_3 3 3 = c 3 3) := hF_5 3 3 (fun h => absurd h.1 (nn rfl))
        have h_138 : (up (up (up c_3 41 0 0) 41 0 1) 42 1 y_108) 3 3 = c 3 3 := ((up_c (nn rfl)).trans ((up_c (nn rfl)).trans ((up_c (nn rfl)).trans (hid kn_137))))
        have h_139 := ir_41_35 hI
        have kn_140 : Hid (c_3 41 35 = c 41 35) := hF_5 41 35 (fun h => absurd h.1 (nn rfl))
        have h_141 : (up (up (up c_3 41 0 0) 41 0 1) 42 1 y_108) 41 35 = c 41 35 := ((up_c (nn rfl)).trans ((up_n (by decide)).trans ((up_n (by decide)).trans (hid kn_140))))
        have h_142 : (up (up (up c_3 41 0 0) 41 0 1) 42 1 y_108) 3 4 = c 3 4 := ((up_c (nn rfl)).trans ((up_c (nn rfl)).trans ((up_c (nn rfl)).trans (hid kn_131))))
        have h_143 := ir_1_5 hI
        have kn_144 : Hid (c_3 1 5 = c 1 5) := hF_5 1 5 (fun h => absurd h.1 (nn rfl))
        have h_145 : (up (up (up c_3 41 0 0) 41 0 1) 42 1 y_108) 1 5 = c 1 5 := ((up_c (nn rfl)).trans ((up_c (nn rfl)).trans ((up_c (nn rfl)).trans (hid kn_144))))
        have h_146 := ir_41_8 hI
        have kn_147 : Hid (c_3 41 8 = c 41 8) := hF_5 41 8 (fun h => absurd h.1 (nn rfl))
        have h_148 : (up (up (up c_3 41 0 0) 41 0 1) 42 1 y_108) 41 8 = c 41 8 := ((up_c (nn rfl)).trans ((up_n (by decide)).trans ((up_n (by decide)).trans (hid kn_147))))
        exact K P Q (up (up (up c_3 41 0 0) 41 0 1) 42 1 y_108) 1 (by decide) hI_111 ⟨by omega, ub_fr hU (fun j => (up_c (nn rfl)).trans ((up_c (nn rfl)).trans ((up_c (nn rfl)).trans (hF_5 2 j (fun h => absurd h.1 (nn rfl)))))) (fun j => (up_c (nn rfl)).trans ((up_c (nn rfl)).trans ((up_c (nn rfl)).trans (hF_5 43 j (fun h => absurd h.1 (nn rfl)))))), ⟨by omega, by omega, by omega, by omega⟩, by omega, by omega, iw_fr2 hIw (by omega) (fun j => (up_c (nn rfl)).trans ((up_c (nn rfl)).trans ((up_c (nn rfl)).trans (hF_5 6 j (fun h => absurd h.1 (nn rfl)))))) (fun j => (up_c (nn rfl)).trans ((up_c (nn rfl)).trans ((up_c (nn rfl)).trans (hF_5 66 j (fun h => absurd h.1 (nn rfl)))))), by omega⟩
  intro hG_150
  refine bk_inl ?_
  have h_149 := ir_1_3 hI_9
  refine v_i2l c_264_7 (by omega) (v_ls c_264_8 rfl (by decide) (by decide) (by decide) (q_goto (t := 15) c_264_9 rfl (q_iconst c_264_15 (q_iret c_264_16 rfl (bk_inl (q_istore c_296_340 (Nat.le_of_ble_eq_true rfl) (q_aload_n c_296_342 rfl ?_)))))))
  refine q_aload_n c_296_343 rfl (q_iload c_296_344 rfl (q_iconst c_296_346 (v_iadd (v := (i0 : Int) + 1) c_296_347 rfl (v_scr (j := i0 + 1) c_296_348 (by omega) (by omega) hL hx1 ?_))))
  have hI_151 := iw_lx (a := 67) (j := 0) (v := y_11) hI_9 (by omega)
  have h_152 := ir_41_2 hI
  have kn_153 : Hid (c_8 41 2 = c 41 2) := hF_10 41 2 (qn_7f524237d hP)
  refine v_cv c_296_349 km_9_136 rfl rfl (Nat.le_of_ble_eq_true rfl) ⟨⟨rfl, rfl⟩, Nat.le_of_ble_eq_true rfl, rfl⟩ (Nat.le_of_ble_eq_true rfl) (Nat.le_of_ble_eq_true rfl) (L_85 (m := c) (a1 := x1) (yg := y_11) (t9 := c 1 3) (F := c 2) (H := c 43) hI_151 hI hI_9 (show (-2147483648) ≤ x1 ∧ x1 ≤ 2147483647 from ⟨by first | exact q_7d59b2af6 h_12 | omega, by first | exact q_307fd138a h_12 | omega⟩) ⟨hy_11.1, hy_11.2⟩ ⟨by first | exact q_4e1f9514d h_12 | omega, by first | exact q_fbc74f925 h_12 | omega, by first | exact q_bd81129bd h_12 | omega⟩ (rfl) (((show _ = c 41 2 from ((up_c (nn rfl)).trans (hid kn_153))).trans (by omega))) (fun j => rfl) (fun j => (up_c (nn rfl)).trans (hF_10 43 j (qn_3edc655a9 hP))) hU hG_150 (fun c_154 y_157 hI_155 hF_156 hy_157 h_158 h_159 h_160 h_161 => (bk_inl ?_)))
  have hs_162 := h_158.symm
  subst hs_162
  have h_163 := ir_41_2 hI_155
  have h_164 := ir_41_8 hI_155
  have h_165 := ir_1_5 hI_9
  have h_166 := ir_41_0 hI_155
  refine q_istore c_296_352 (Nat.le_of_ble_eq_true rfl) (q_goto (t := 1816) c_296_354 rfl (Wp_ls [(4, vi (i0 : Int)), (3, .ref 67), (2, .ref 41), (1, .ref 0), (0, .ref a_SC)] (lsub_cons rfl (lsub_cons rfl (lsub_cons rfl (lsub_cons rfl (lsub_cons rfl lsub_nil))))) ?_))
  have kn_167 : Hid (c_154 1 3 = c_8 1 3) := (hF_156 1 3 qn_6e098d395).trans (up_c (nn rfl))
  have h_168 : c_154 1 3 = c_8 1 3 := (hid kn_167)
  have h_169 : c_154 41 2 = c_154 41 2 := rfl
  have kn_170 : Hid (c_8 P 0 = n0) := (hF_10 P 0 (qn_c16a8cdb3 hP)).trans (hn0)
  have kn_171 : Hid (c_154 P 0 = n0) := (hF_156 P 0 (qn_6cada6812 hP)).trans ((up_c (np0 hP rfl)).trans (hid kn_170))
  have h_172 : c_154 P 0 = n0 := (hid kn_171)
  have kn_173 : Hid (c_8 41 20 = n0) := (hF_10 41 20 (qn_7f524237d hP)).trans (hm0)
  have kn_174 : Hid (c_154 41 20 = n0) := (hF_156 41 20 qn_dccf86c1c).trans ((up_c (nn rfl)).trans (hid kn_173))
  have h_175 : c_154 41 20 = n0 := (hid kn_174)
  have kn_176 : Hid (c_8 P 1 = n1) := (hF_10 P 1 (qn_c16a8cdb3 hP)).trans (hn1)
  have kn_177 : Hid (c_154 P 1 = n1) := (hF_156 P 1 (qn_6cada6812 hP)).trans ((up_c (np0 hP rfl)).trans (hid kn_176))
  have h_178 : c_154 P 1 = n1 := (hid kn_177)
  have kn_179 : Hid (c_8 41 21 = n1) := (hF_10 41 21 (qn_7f524237d hP)).trans (hm1)
  have kn_180 : Hid (c_154 41 21 = n1) := (hF_156 41 21 qn_29130c158).trans ((up_c (nn rfl)).trans (hid kn_179))
  have h_181 : c_154 41 21 = n1 := (hid kn_180)
  have kn_182 : Hid (c_8 P 2 = n2) := (hF_10 P 2 (qn_c16a8cdb3 hP)).trans (hn2)
  have kn_183 : Hid (c_154 P 2 = n2) := (hF_156 P 2 (qn_6cada6812 hP)).trans ((up_c (np0 hP rfl)).trans (hid kn_182))
  have h_184 : c_154 P 2 = n2 := (hid kn_183)
  have kn_185 : Hid (c_8 41 22 = n2) := (hF_10 41 22 (qn_7f524237d hP)).trans (hm2)
  have kn_186 : Hid (c_154 41 22 = n2) := (hF_156 41 22 qn_e543f8eca).trans ((up_c (nn rfl)).trans (hid kn_185))
  have h_187 : c_154 41 22 = n2 := (hid kn_186)
  have kn_188 : Hid (c_8 P 3 = n3) := (hF_10 P 3 (qn_c16a8cdb3 hP)).trans (hn3)
  have kn_189 : Hid (c_154 P 3 = n3) := (hF_156 P 3 (qn_6cada6812 hP)).trans ((up_c (np0 hP rfl)).trans (hid kn_188))
  have h_190 : c_154 P 3 = n3 := (hid kn_189)
  have kn_191 : Hid (c_8 41 23 = n3) := (hF_10 41 23 (qn_7f524237d hP)).trans (hm3)
  have kn_192 : Hid (c_154 41 23 = n3) := (hF_156 41 23 qn_0ec1c0dac).trans ((up_c (nn rfl)).trans (hid kn_191))
  have h_193 : c_154 41 23 = n3 := (hid kn_192)
  have kn_194 : Hid (c_8 3 4 = c 3 4) := hF_10 3 4 (qn_cee83b378 hP)
  have kn_195 : Hid (c_154 3 4 = c 3 4) := (hF_156 3 4 qn_0c1841372).trans ((up_c (nn rfl)).trans (hid kn_194))
  have h_196 : c_154 3 4 = c 3 4 := (hid kn_195)
  have h_197 := ir_41_52 hI
  have kn_198 : Hid (c_8 41 52 = c 41 52) := hF_10 41 52 (qn_7f524237d hP)
  have kn_199 : Hid (c_154 41 52 = c 41 52) := (hF_156 41 52 qn_63017ad2d).trans ((up_c (nn rfl)).trans (hid kn_198))
  have h_200 : c_154 41 52 = c 41 52 := (hid kn_199)
  have h_201 := ir_3_3 hI
  have kn_202 : Hid (c_8 3 3 = c 3 3) := hF_10 3 3 (qn_cee83b378 hP)
  have kn_203 : Hid (c_154 3 3 = c 3 3) := (hF_156 3 3 qn_0c1841372).trans ((up_c (nn rfl)).trans (hid kn_202))
  have h_204 : c_154 3 3 = c 3 3 := (hid kn_203)
  have h_205 := ir_41_35 hI
  have kn_206 : Hid (c_8 41 35 = c 41 35) := hF_10 41 35 (qn_7f524237d hP)
  have kn_207 : Hid (c_154 41 35 = c 41 35) := (hF_156 41 35 qn_7a0622093).trans ((up_c (nn rfl)).trans (hid kn_206))
  have h_208 : c_154 41 35 = c 41 35 := (hid kn_207)
  have h_209 : c_154 3 4 = c 3 4 := (hid kn_195)
  have kn_210 : Hid (c_154 1 5 = c_8 1 5) := (hF_156 1 5 qn_6e098d395).trans (up_c (nn rfl))
  have h_211 : c_154 1 5 = c_8 1 5 := (hid kn_210)
  have h_212 : c_154 41 8 = c_154 41 8 := rfl
  exact K P Q c_154 0 (by decide) hI_155 ⟨by omega, ub_fr hU (fun j => (hF_156 2 j qn_4c0255fdd).trans ((up_c (nn rfl)).trans (hF_10 2 j (qn_9c21b769a hP)))) (fun j => (hF_156 43 j qn_0c1231684).trans ((up_c (nn rfl)).trans (hF_10 43 j (qn_3edc655a9 hP)))), ⟨by omega, by omega, by omega, by omega⟩, by omega, by omega, iw_fr2 hIw (by omega) (fun j => (hF_156 6 j qn_a2ad91feb).trans ((up_c (nn rfl)).trans (hF_10 6 j (qn_f741ca3f2 hP)))) (fun j => (hF_156 66 j qn_9e422cd6b).trans ((up_c (nn rfl)).trans (hF_10 66 j (qn_572a8ec09 hP)))), by omega⟩

set_option maxRecDepth 100000 in
set_option maxHeartbeats 4000000 in
theorem o_3 {xs : Nat → Int32} {L i0 d nc ns P Q : Nat} {c : ME} {Z : AR → Prop} (hi : i0 + 8 ≤ L) (hL : L ≤ 100000) (hI : Iv 0 (-1) P Q c) (hR : Rq P c) (K : ∀ (P2 Q2 : Nat) (c2 : ME) (e : Nat), e ≤ 1 → Iv 0 (-1) P2 Q2 c2 → (Rq P2 c2) → Wp (a_scr L xs) (d + 90) 296 1816 [(4, vi (i0 : Int)), (3, .ref 67), (2, .ref 41), (1, .ref 0), (0, .ref a_SC)] [] (Wd P2 Q2 P2 P2 c2) (nc + e) (ns + 6 * e) Z) : Wp (a_scr L xs) (d + 90) 296 357 [(4, vi (i0 : Int)), (3, .ref 67), (2, .ref 41), (1, .ref 0), (0, .ref a_SC)] [] (Wd P Q P P c) nc ns Z := by
  obtain ⟨x1, hx1⟩ : ∃ z, (xs (i0 + 1)).toInt = z := ⟨_, rfl⟩
  have x1r := c_rng (xs (i0 + 1))
  rw [hx1] at x1r
  obtain ⟨x2, hx2⟩ : ∃ z, (xs (i0 + 2)).toInt = z := ⟨_, rfl⟩
  have x2r := c_rng (xs (i0 + 2))
  rw [hx2] at x2r
  obtain ⟨x3, hx3⟩ : ∃ z, (xs (i0 + 3)).toInt = z := ⟨_, rfl⟩
  have x3r := c_rng (xs (i0 + 3))
  rw [hx3] at x3r
  obtain ⟨x4, hx4⟩ : ∃ z, (xs (i0 + 4)).toInt = z := ⟨_, rfl⟩
  have x4r := c_rng (xs (i0 + 4))
  rw [hx4] at x4r
  obtain ⟨x5, hx5⟩ : ∃ z, (xs (i0 + 5)).toInt = z := ⟨_, rfl⟩
  have x5r := c_rng (xs (i0 + 5))
  rw [hx5] at x5r
  obtain ⟨x6, hx6⟩ : ∃ z, (xs (i0 + 6)).toInt = z := ⟨_, rfl⟩
  have x6r := c_rng (xs (i0 + 6))
  rw [hx6] at x6r
  obtain ⟨x7, hx7⟩ : ∃ z, (xs (i0 + 7)).toInt = z := ⟨_, rfl⟩
  have x7r := c_rng (xs (i0 + 7))
  rw [hx7] at x7r
  have hP := iv_P hI
  have hQ := iv_Q hI
  have hT := rl_t hR
  have hU := rl_u hR
  obtain ⟨n0, hn0⟩ : ∃ z, c P 0 = z := ⟨_, rfl⟩
  have hm0 : c 41 20 = n0 := (rl_nums hR).1.symm.trans hn0
  have hr0 := ir_p0_0 hI hP
  rw [hn0] at hr0
  obtain ⟨n1, hn1⟩ : ∃ z, c P 1 = z := ⟨_, rfl⟩
  have hm1 : c 41 21 = n1 := (rl_nums hR).2.1.symm.trans hn1
  have hr1 := ir_p0_1 hI hP
  rw [hn1] at hr1
  obtain ⟨n2, hn2⟩ : ∃ z, c P 2 = z := ⟨_, rfl⟩
  have hm2 : c 41 22 = n2 := (rl_nums hR).2.2.1.symm.trans hn2
  have hr2 := ir_p0_2 hI hP
  rw [hn2] at hr2
  obtain ⟨n3, hn3⟩ : ∃ z, c P 3 = z := ⟨_, rfl⟩
  have hm3 : c 41 23 = n3 := (rl_nums hR).2.2.2.symm.trans hn3
  have hr3 := ir_p0_3 hI hP
  rw [hn3] at hr3
  have hNimg := rl_img hR
  have hNwk := rl_wk hR
  have h_1 := ir_3_4 hI
  have hIw := rl_iw hR
  have hNplace := rl_place hR
  refine q_aload_n c_296_357 rfl (q_aload_n c_296_358 rfl (q_iload c_296_359 rfl (q_iconst c_296_361 (v_iadd (v := (i0 : Int) + 1) c_296_362 rfl (v_scr (j := i0 + 1) c_296_363 (by omega) (by omega) hL hx1 (q_aload_n c_296_364 rfl (q_call c_296_365 rfl rfl rfl ?_)))))))
  refine q_aload_n c_265_0 rfl (q_iconst c_265_1 (q_aload_n c_265_2 rfl (q_iload_n c_265_3 rfl ?_)))
  have h_2 := ir_1_3 hI
  refine v_cv c_265_4 km_9_18 rfl rfl (Nat.le_of_ble_eq_true rfl) ⟨⟨rfl, rfl⟩, Nat.le_of_ble_eq_true rfl, rfl⟩ (Nat.le_of_ble_eq_true rfl) (Nat.le_of_ble_eq_true rfl) (fn_of (s_86 (a1 := x1) hI (show (-2147483648) ≤ x1 ∧ x1 ≤ 2147483647 from ⟨by omega, by omega⟩) (fun c_3 hI_4 hF_5 h_6 h_7 => ?_) (fun c_8 y_11 hI_9 hF_10 hy_11 h_12 => ?_)))
  · skip
    intro hG_150
    have h_13 := ir_1_3 hI_4
    refine bk_thr (z := Int32.ofInt 1) rfl ⟨_, _, rfl⟩ rfl (bk_inl (q_istore c_296_368 (Nat.le_of_ble_eq_true rfl) (q_aload_n c_296_370 rfl (q_aload_n c_296_371 rfl (q_iload c_296_372 rfl (q_iconst c_296_374 (v_iadd (v := (i0 : Int) + 1) c_296_375 rfl ?_)))))))
    refine v_scr (j := i0 + 1) c_296_376 (by omega) (by omega) hL hx1 (v_cv c_296_377 km_9_139 rfl rfl (Nat.le_of_ble_eq_true rfl) ⟨⟨rfl, rfl⟩, Nat.le_of_ble_eq_true rfl, rfl⟩ (Nat.le_of_ble_eq_true rfl) (Nat.le_of_ble_eq_true rfl) (q_aload_n c_202_0 rfl (q_iconst c_202_1 (v_pi (z := 0) c_202_2 kf_8_3 rfl (Nat.le_of_ble_eq_true rfl) rfl rfl rfl (by decide) (q_aload_n c_202_5 rfl (q_iload_n c_202_6 rfl ?_))))))
    by_cases h_14 : x1 < 0
    · refine v_if_lt_t (t := 29) c_202_7 rfl ⟨by first | (clear hT hNimg hNwk h_1 hNplace h_2 h_13; omega) | omega, h_14, by decide⟩ (q_iconst c_202_29 (q_iconst c_202_30 (q_iconst c_202_31 (v_cv c_202_32 km_8_203 rfl rfl (Nat.le_of_ble_eq_true rfl) ⟨⟨rfl, rfl⟩, Nat.le_of_ble_eq_true rfl, rfl⟩ (Nat.le_of_ble_eq_true rfl) (Nat.le_of_ble_eq_true rfl) (q_iload_n c_145_0 rfl (v_if_ne_f (t := 26) c_145_1 rfl (by decide) (q_aload_n c_145_4 rfl ?_)))))))
      refine v_gi (z := 0) (v := 0) c_145_5 kf_8_3 rfl (Nat.le_of_ble_eq_true rfl) rfl rfl (up_e rfl) (v_if_ne_f (t := 26) c_145_8 rfl (by decide) (q_aload_n c_145_11 rfl (q_iload_n c_145_12 rfl (v_pi (z := 0) c_145_13 kf_8_3 rfl (Nat.le_of_ble_eq_true rfl) rfl rfl rfl (by decide) (q_aload_n c_145_16 rfl (v_gr (t := 42) c_145_17 kf_8_7 rfl (Nat.le_of_ble_eq_true rfl) rfl (q_iload_n c_145_20 rfl ?_)))))))
      refine q_dup2 c_145_21 ⟨rfl, rfl⟩ ?_
      have h_15 := ir_42 hI 1
      have kn_16 : Hid (c_3 42 1 = c 42 1) := hF_5 42 1 (fun h => absurd h.1 (nn rfl))
      refine v_ia (v := c 42 1) c_145_22 rfl (by decide) (by decide) (by decide) ((up_c (nn rfl)).trans ((up_c (nn rfl)).trans (hid kn_16))) (q_iconst c_145_23 (v_iadd (v := c 42 1 + 1) c_145_24 rfl (v_nrm (fun y_17 hy_17 => (v_is c_145_25 rfl (by decide) (by decide) (by decide) (q_aload_n c_145_26 rfl (v_gi (z := 0) (v := 1) c_145_27 kf_8_3 rfl (Nat.le_of_ble_eq_true rfl) rfl rfl ((up_c (nn rfl)).trans (up_e rfl)) (v_if_ne_t (t := 37) c_145_30 rfl (by decide) ?_))))))))
      refine q_iconst c_145_37 (v_zret c_145_38 rfl (by decide) (bk_inl (v_if_ne_f (t := 40) c_202_35 rfl (by decide) (q_iconst c_202_38 (q_iret c_202_39 rfl (bk_inl (q_istore c_296_380 (Nat.le_of_ble_eq_true rfl) ?_)))))))
      refine q_goto (t := 1816) c_296_382 rfl ?_
      have hI_18 := iw_41_0 (v := 0) hI_4 ⟨by decide, by decide⟩
      have hI_19 := iw_41_0 (v := 1) hI_18 ⟨by decide, by decide⟩
      have hI_20 := iw_42 (j := 1) (v := y_17) hI_19 ⟨hy_17.1, hy_17.2⟩
      refine Wp_ls [(4, vi (i0 : Int)), (3, .ref 67), (2, .ref 41), (1, .ref 0), (0, .ref a_SC)] (lsub_cons rfl (lsub_cons rfl (lsub_cons rfl (lsub_cons rfl (lsub_cons rfl lsub_nil))))) ?_
      have kn_21 : Hid (c_3 1 3 = c 1 3) := hF_5 1 3 (fun h => absurd h.1 (nn rfl))
      have h_22 : (up (up (up c_3 41 0 0) 41 0 1) 42 1 y_17) 1 3 = c 1 3 := ((up_c (nn rfl)).trans ((up_c (nn rfl)).trans ((up_c (nn rfl)).trans (hid kn_21))))
      have h_23 := ir_41_2 hI
      have kn_24 : Hid (c_3 41 2 = c 41 2) := hF_5 41 2 (fun h => absurd h.1 (nn rfl))
      have h_25 : (up (up (up c_3 41 0 0) 41 0 1) 42 1 y_17) 41 2 = c 41 2 := ((up_c (nn rfl)).trans ((up_n (by decide)).trans ((up_n (by decide)).trans (hid kn_24))))
      have kn_26 : Hid (c_3 P 0 = n0) := (hF_5 P 0 (fun h => absurd h.1 (np0 hP rfl))).trans (hn0)
      have h_27 : (up (up (up c_3 41 0 0) 41 0 1) 42 1 y_17) P 0 = n0 := ((up_c (np0 hP rfl)).trans ((up_c (np0 hP rfl)).trans ((up_c (np0 hP rfl)).trans (hid kn_26))))
      have kn_28 : Hid (c_3 41 20 = n0) := (hF_5 41 20 (fun h => absurd h.1 (nn rfl))).trans (hm0)
      have h_29 : (up (up (up c_3 41 0 0) 41 0 1) 42 1 y_17) 41 20 = n0 := ((up_c (nn rfl)).trans ((up_n (by decide)).trans ((up_n (by decide)).trans (hid kn_28))))
      have kn_30 : Hid (c_3 P 1 = n1) := (hF_5 P 1 (fun h => absurd h.1 (np0 hP rfl))).trans (hn1)
      have h_31 : (up (up (up c_3 41 0 0) 41 0 1) 42 1 y_17) P 1 = n1 := ((up_c (np0 hP rfl)).trans ((up_c (np0 hP rfl)).trans ((up_c (np0 hP rfl)).trans (hid kn_30))))
      have kn_32 : Hid (c_3 41 21 = n1) := (hF_5 41 21 (fun h => absurd h.1 (nn rfl))).trans (hm1)
      have h_33 : (up (up (up c_3 41 0 0) 41 0 1) 42 1 y_17) 41 21 = n1 := ((up_c (nn rfl)).trans ((up_n (by decide)).trans ((up_n (by decide)).trans (hid kn_32))))
      have kn_34 : Hid (c_3 P 2 = n2) := (hF_5 P 2 (fun h => absurd h.1 (np0 hP rfl))).trans (hn2)
      have h_35 : (up (up (up c_3 41 0 0) 41 0 1) 42 1 y_17) P 2 = n2 := ((up_c (np0 hP rfl)).trans ((up_c (np0 hP rfl)).trans ((up_c (np0 hP rfl)).trans (hid kn_34))))
      have kn_36 : Hid (c_3 41 22 = n2) := (hF_5 41 22 (fun h => absurd h.1 (nn rfl))).trans (hm2)
      have h_37 : (up (up (up c_3 41 0 0) 41 0 1) 42 1 y_17) 41 22 = n2 := ((up_c (nn rfl)).trans ((up_n (by decide)).trans ((up_n (by decide)).trans (hid kn_36))))
      have kn_38 : Hid (c_3 P 3 = n3) := (hF_5 P 3 (fun h => absurd h.1 (np0 hP rfl))).trans (hn3)
      have h_39 : (up (up (up c_3 41 0 0) 41 0 1) 42 1 y_17) P 3 = n3 := ((up_c (np0 hP rfl)).trans ((up_c (np0 hP rfl)).trans ((up_c (np0 hP rfl)).trans (hid kn_38))))
      have kn_40 : Hid (c_3 41 23 = n3) := (hF_5 41 23 (fun h => absurd h.1 (nn rfl))).trans (hm3)
      have h_41 : (up (up (up c_3 41 0 0) 41 0 1) 42 1 y_17) 41 23 = n3 := ((up_c (nn rfl)).trans ((up_n (by decide)).trans ((up_n (by decide)).trans (hid kn_40))))
      have kn_42 : Hid (c_3 3 4 = c 3 4) := hF_5 3 4 (fun h => absurd h.1 (nn rfl))
      have h_43 : (up (up (up c_3 41 0 0) 41 0 1) 42 1 y_17) 3 4 = c 3 4 := ((up_c (nn rfl)).trans ((up_c (nn rfl)).trans ((up_c (nn rfl)).trans (hid kn_42))))
      have h_44 := ir_41_52 hI
      have kn_45 : Hid (c_3 41 52 = c 41 52) := hF_5 41 52 (fun h => absurd h.1 (nn rfl))
      have h_46 : (up (up (up c_3 41 0 0) 41 0 1) 42 1 y_17) 41 52 = c 41 52 := ((up_c (nn rfl)).trans ((up_n (by decide)).trans ((up_n (by decide)).trans (hid kn_45))))
      have h_47 := ir_3_3 hI
      have kn_48 : Hid (c_3 3 3 = c 3 3) := hF_5 3 3 (fun h => absurd h.1 (nn rfl))
      have h_49 : (up (up (up c_3 41 0 0) 41 0 1) 42 1 y_17) 3 3 = c 3 3 := ((up_c (nn rfl)).trans ((up_c (nn rfl)).trans ((up_c (nn rfl)).trans (hid kn_48))))
      have h_50 := ir_41_35 hI
      have kn_51 : Hid (c_3 41 35 = c 41 35) := hF_5 41 35 (fun h => absurd h.1 (nn rfl))
      have h_52 : (up (up (up c_3 41 0 0) 41 0 1) 42 1 y_17) 41 35 = c 41 35 := ((up_c (nn rfl)).trans ((up_n (by decide)).trans ((up_n (by decide)).trans (hid kn_51))))
      have h_53 : (up (up (up c_3 41 0 0) 41 0 1) 42 1 y_17) 3 4 = c 3 4 := ((up_c (nn rfl)).trans ((up_c (nn rfl)).trans ((up_c (nn rfl)).trans (hid kn_42))))
      have h_54 := ir_1_5 hI
      have kn_55 : Hid (c_3 1 5 = c 1 5) := hF_5 1 5 (fun h => absurd h.1 (nn rfl))
      have h_56 : (up (up (up c_3 41 0 0) 41 0 1) 42 1 y_17) 1 5 = c 1 5 := ((up_c (nn rfl)).trans ((up_c (nn rfl)).trans ((up_c (nn rfl)).trans (hid kn_55))))
      have h_57 := ir_41_8 hI
      have kn_58 : Hid (c_3 41 8 = c 41 8) := hF_5 41 8 (fun h => absurd h.1 (nn rfl))
      have h_59 : (up (up (up c_3 41 0 0) 41 0 1) 42 1 y_17) 41 8 = c 41 8 := ((up_c (nn rfl)).trans ((up_n (by decide)).trans ((up_n (by decide)).trans (hid kn_58))))
      exact K P Q (up (up (up c_3 41 0 0) 41 0 1) 42 1 y_17) 1 (by decide) hI_20 ⟨by omega, ub_fr hU (fun j => (up_c (nn rfl)).trans ((up_c (nn rfl)).trans ((up_c (nn rfl)).trans (hF_5 2 j (fun h => absurd h.1 (nn rfl)))))) (fun j => (up_c (nn rfl)).trans ((up_c (nn rfl)).trans ((up_c (nn rfl)).trans (hF_5 43 j (fun h => absurd h.1 (nn rfl)))))), ⟨by omega, by omega, by omega, by omega⟩, by omega, by omega, iw_fr2 hIw (by omega) (fun j => (up_c (nn rfl)).trans ((up_c (nn rfl)).trans ((up_c (nn rfl)).trans (hF_5 6 j (fun h => absurd h.1 (nn rfl)))))) (fun j => (up_c (nn rfl)).trans ((up_c (nn rfl)).trans ((up_c (nn rfl)).trans (hF_5 66 j (fun h => absurd h.1 (nn rfl)))))), by omega⟩
    · refine v_if_lt_f (t := 29) c_202_7 rfl ⟨by decide, (Int.not_lt.mp h_14), by first | (clear hT hNimg hNwk h_1 hNplace h_2 h_13; omega) | omega⟩ (q_iload_n c_202_10 rfl (q_aload_n c_202_11 rfl ?_))
      have h_60 := ir_41_2 hI
      have kn_61 : Hid (c_3 41 2 = c 41 2) := hF_5 41 2 (fun h => absurd h.1 (nn rfl))
      refine v_gi (z := 2) (v := c 41 2) c_202_12 kf_8_99 rfl (Nat.le_of_ble_eq_true rfl) rfl rfl ((up_n (by decide)).trans (hid kn_61)) ?_
      by_cases h_62 : x1 > c 41 2
      · refine v_ic_gt_t (t := 29) c_202_15 rfl ⟨by first | exact q_3b2b08511 h_60 | omega, h_62, by first | (clear hT hNimg hNwk h_1 hNplace h_2 h_13 h_14 h_60; omega) | omega⟩ (q_iconst c_202_29 (q_iconst c_202_30 (q_iconst c_202_31 (v_cv c_202_32 km_8_203 rfl rfl (Nat.le_of_ble_eq_true rfl) ⟨⟨rfl, rfl⟩, Nat.le_of_ble_eq_true rfl, rfl⟩ (Nat.le_of_ble_eq_true rfl) (Nat.le_of_ble_eq_true rfl) (q_iload_n c_145_0 rfl (v_if_ne_f (t := 26) c_145_1 rfl (by decide) (q_aload_n c_145_4 rfl ?_)))))))
        refine v_gi (z := 0) (v := 0) c_145_5 kf_8_3 rfl (Nat.le_of_ble_eq_true rfl) rfl rfl (up_e rfl) (v_if_ne_f (t := 26) c_145_8 rfl (by decide) (q_aload_n c_145_11 rfl (q_iload_n c_145_12 rfl (v_pi (z := 0) c_145_13 kf_8_3 rfl (Nat.le_of_ble_eq_true rfl) rfl rfl rfl (by decide) (q_aload_n c_145_16 rfl (v_gr (t := 42) c_145_17 kf_8_7 rfl (Nat.le_of_ble_eq_true rfl) rfl (q_iload_n c_145_20 rfl ?_)))))))
        refine q_dup2 c_145_21 ⟨rfl, rfl⟩ ?_
        have h_63 := ir_42 hI 1
        have kn_64 : Hid (c_3 42 1 = c 42 1) := hF_5 42 1 (fun h => absurd h.1 (nn rfl))
        refine v_ia (v := c 42 1) c_145_22 rfl (by decide) (by decide) (by decide) ((up_c (nn rfl)).trans ((up_c (nn rfl)).trans (hid kn_64))) (q_iconst c_145_23 (v_iadd (v := c 42 1 + 1) c_145_24 rfl (v_nrm (fun y_65 hy_65 => (v_is c_145_25 rfl (by decide) (by decide) (by decide) (q_aload_n c_145_26 rfl (v_gi (z := 0) (v := 1) c_145_27 kf_8_3 rfl (Nat.le_of_ble_eq_true rfl) rfl rfl ((up_c (nn rfl)).trans (up_e rfl)) (v_if_ne_t (t := 37) c_145_30 rfl (by decide) ?_))))))))
        refine q_iconst c_145_37 (v_zret c_145_38 rfl (by decide) (bk_inl (v_if_ne_f (t := 40) c_202_35 rfl (by decide) (q_iconst c_202_38 (q_iret c_202_39 rfl (bk_inl (q_istore c_296_380 (Nat.le_of_ble_eq_true rfl) ?_)))))))
        refine q_goto (t := 1816) c_296_382 rfl ?_
        have hI_66 := iw_41_0 (v := 0) hI_4 ⟨by decide, by decide⟩
        have hI_67 := iw_41_0 (v := 1) hI_66 ⟨by decide, by decide⟩
        have hI_68 := iw_42 (j := 1) (v := y_65) hI_67 ⟨hy_65.1, hy_65.2⟩
        refine Wp_ls [(4, vi (i0 : Int)), (3, .ref 67), (2, .ref 41), (1, .ref 0), (0, .ref a_SC)] (lsub_cons rfl (lsub_cons rfl (lsub_cons rfl (lsub_cons rfl (lsub_cons rfl lsub_nil))))) ?_
        have kn_69 : Hid (c_3 1 3 = c 1 3) := hF_5 1 3 (fun h => absurd h.1 (nn rfl))
        have h_70 : (up (up (up c_3 41 0 0) 41 0 1) 42 1 y_65) 1 3 = c 1 3 := ((up_c (nn rfl)).trans ((up_c (nn rfl)).trans ((up_c (nn rfl)).trans (hid kn_69))))
        have h_71 : (up (up (up c_3 41 0 0) 41 0 1) 42 1 y_65) 41 2 = c 41 2 := ((up_c (nn rfl)).trans ((up_n (by decide)).trans ((up_n (by decide)).trans (hid kn_61))))
        have kn_72 : Hid (c_3 P 0 = n0) := (hF_5 P 0 (fun h => absurd h.1 (np0 hP rfl))).trans (hn0)
        have h_73 : (up (up (up c_3 41 0 0) 41 0 1) 42 1 y_65) P 0 = n0 := ((up_c (np0 hP rfl)).trans ((up_c (np0 hP rfl)).trans ((up_c (np0 hP rfl)).trans (hid kn_72))))
        have kn_74 : Hid (c_3 41 20 = n0) := (hF_5 41 20 (fun h => absurd h.1 (nn rfl))).trans (hm0)
        have h_75 : (up (up (up c_3 41 0 0) 41 0 1) 42 1 y_65) 41 20 = n0 := ((up_c (nn rfl)).trans ((up_n (by decide)).trans ((up_n (by decide)).trans (hid kn_74))))
        have kn_76 : Hid (c_3 P 1 = n1) := (hF_5 P 1 (fun h => absurd h.1 (np0 hP rfl))).trans (hn1)
        have h_77 : (up (up (up c_3 41 0 0) 41 0 1) 42 1 y_65) P 1 = n1 := ((up_c (np0 hP rfl)).trans ((up_c (np0 hP rfl)).trans ((up_c (np0 hP rfl)).trans (hid kn_76))))
        have kn_78 : Hid (c_3 41 21 = n1) := (hF_5 41 21 (fun h => absurd h.1 (nn rfl))).trans (hm1)
        have h_79 : (up (up (up c_3 41 0 0) 41 0 1) 42 1 y_65) 41 21 = n1 := ((up_c (nn rfl)).trans ((up_n (by decide)).trans ((up_n (by decide)).trans (hid kn_78))))
        have kn_80 : Hid (c_3 P 2 = n2) := (hF_5 P 2 (fun h => absurd h.1 (np0 hP rfl))).trans (hn2)
        have h_81 : (up (up (up c_3 41 0 0) 41 0 1) 42 1 y_65) P 2 = n2 := ((up_c (np0 hP rfl)).trans ((up_c (np0 hP rfl)).trans ((up_c (np0 hP rfl)).trans (hid kn_80))))
        have kn_82 : Hid (c_3 41 22 = n2) := (hF_5 41 22 (fun h => absurd h.1 (nn rfl))).trans (hm2)
        have h_83 : (up (up (up c_3 41 0 0) 41 0 1) 42 1 y_65) 41 22 = n2 := ((up_c (nn rfl)).trans ((up_n (by decide)).trans ((up_n (by decide)).trans (hid kn_82))))
        have kn_84 : Hid (c_3 P 3 = n3) := (hF_5 P 3 (fun h => absurd h.1 (np0 hP rfl))).trans (hn3)
        have h_85 : (up (up (up c_3 41 0 0) 41 0 1) 42 1 y_65) P 3 = n3 := ((up_c (np0 hP rfl)).trans ((up_c (np0 hP rfl)).trans ((up_c (np0 hP rfl)).trans (hid kn_84))))
        have kn_86 : Hid (c_3 41 23 = n3) := (hF_5 41 23 (fun h => absurd h.1 (nn rfl))).trans (hm3)
        have h_87 : (up (up (up c_3 41 0 0) 41 0 1) 42 1 y_65) 41 23 = n3 := ((up_c (nn rfl)).trans ((up_n (by decide)).trans ((up_n (by decide)).trans (hid kn_86))))
        have kn_88 : Hid (c_3 3 4 = c 3 4) := hF_5 3 4 (fun h => absurd h.1 (nn rfl))
        have h_89 : (up (up (up c_3 41 0 0) 41 0 1) 42 1 y_65) 3 4 = c 3 4 := ((up_c (nn rfl)).trans ((up_c (nn rfl)).trans ((up_c (nn rfl)).trans (hid kn_88))))
        have h_90 := ir_41_52 hI
        have kn_91 : Hid (c_3 41 52 = c 41 52) := hF_5 41 52 (fun h => absurd h.1 (nn rfl))
        have h_92 : (up (up (up c_3 41 0 0) 41 0 1) 42 1 y_65) 41 52 = c 41 52 := ((up_c (nn rfl)).trans ((up_n (by decide)).trans ((up_n (by decide)).trans (hid kn_91))))
        have h_93 := ir_3_3 hI
        have kn_94 : Hid (c_3 3 3 = c 3 3) := hF_5 3 3 (fun h => absurd h.1 (nn rfl))
        have h_95 : (up (up (up c_3 41 0 0) 41 0 1) 42 1 y_65) 3 3 = c 3 3 := ((up_c (nn rfl)).trans ((up_c (nn rfl)).trans ((up_c (nn rfl)).trans (hid kn_94))))
        have h_96 := ir_41_35 hI
        have kn_97 : Hid (c_3 41 35 = c 41 35) := hF_5 41 35 (fun h => absurd h.1 (nn rfl))
        have h_98 : (up (up (up c_3 41 0 0) 41 0 1) 42 1 y_65) 41 35 = c 41 35 := ((up_c (nn rfl)).trans ((up_n (by decide)).trans ((up_n (by decide)).trans (hid kn_97))))
        have h_99 : (up (up (up c_3 41 0 0) 41 0 1) 42 1 y_65) 3 4 = c 3 4 := ((up_c (nn rfl)).trans ((up_c (nn rfl)).trans ((up_c (nn rfl)).trans (hid kn_88))))
        have h_100 := ir_1_5 hI
        have kn_101 : Hid (c_3 1 5 = c 1 5) := hF_5 1 5 (fun h => absurd h.1 (nn rfl))
        have h_102 : (up (up (up c_3 41 0 0) 41 0 1) 42 1 y_65) 1 5 = c 1 5 := ((up_c (nn rfl)).trans ((up_c (nn rfl)).trans ((up_c (nn rfl)).trans (hid kn_101))))
        have h_103 := ir_41_8 hI
        have kn_104 : Hid (c_3 41 8 = c 41 8) := hF_5 41 8 (fun h => absurd h.1 (nn rfl))
        have h_105 : (up (up (up c_3 41 0 0) 41 0 1) 42 1 y_65) 41 8 = c 41 8 := ((up_c (nn rfl)).trans ((up_n (by decide)).trans ((up_n (by decide)).trans (hid kn_104))))
        exact K P Q (up (up (up c_3 41 0 0) 41 0 1) 42 1 y_65) 1 (by decide) hI_68 ⟨by omega, ub_fr hU (fun j => (up_c (nn rfl)).trans ((up_c (nn rfl)).trans ((up_c (nn rfl)).trans (hF_5 2 j (fun h => absurd h.1 (nn rfl)))))) (fun j => (up_c (nn rfl)).trans ((up_c (nn rfl)).trans ((up_c (nn rfl)).trans (hF_5 43 j (fun h => absurd h.1 (nn rfl)))))), ⟨by omega, by omega, by omega, by omega⟩, by omega, by omega, iw_fr2 hIw (by omega) (fun j => (up_c (nn rfl)).trans ((up_c (nn rfl)).trans ((up_c (nn rfl)).trans (hF_5 6 j (fun h => absurd h.1 (nn rfl)))))) (fun j => (up_c (nn rfl)).trans ((up_c (nn rfl)).trans ((up_c (nn rfl)).trans (hF_5 66 j (fun h => absurd h.1 (nn rfl)))))), by omega⟩
      · refine v_ic_gt_f (t := 29) c_202_15 rfl ⟨by first | exact q_c05c968ed h_14 | omega, (Int.not_lt.mp h_62), by first | exact q_3885e607f h_60 | omega⟩ (q_iload_n c_202_18 rfl (v_sip c_202_19 (by decide) (v_ic_gt_t (t := 29) c_202_22 rfl ⟨by decide, by omega, by first | exact q_c2c15a399 h_60 h_62 | omega⟩ (q_iconst c_202_29 (q_iconst c_202_30 (q_iconst c_202_31 (v_cv c_202_32 km_8_203 rfl rfl (Nat.le_of_ble_eq_true rfl) ⟨⟨rfl, rfl⟩, Nat.le_of_ble_eq_true rfl, rfl⟩ (Nat.le_of_ble_eq_true rfl) (Nat.le_of_ble_eq_true rfl) ?_)))))))
        refine q_iload_n c_145_0 rfl (v_if_ne_f (t := 26) c_145_1 rfl (by decide) (q_aload_n c_145_4 rfl (v_gi (z := 0) (v := 0) c_145_5 kf_8_3 rfl (Nat.le_of_ble_eq_true rfl) rfl rfl (up_e rfl) (v_if_ne_f (t := 26) c_145_8 rfl (by decide) (q_aload_n c_145_11 rfl (q_iload_n c_145_12 rfl (v_pi (z := 0) c_145_13 kf_8_3 rfl (Nat.le_of_ble_eq_true rfl) rfl rfl rfl (by decide) ?_)))))))
        refine q_aload_n c_145_16 rfl (v_gr (t := 42) c_145_17 kf_8_7 rfl (Nat.le_of_ble_eq_true rfl) rfl (q_iload_n c_145_20 rfl (q_dup2 c_145_21 ⟨rfl, rfl⟩ ?_)))
        have h_106 := ir_42 hI 1
        have kn_107 : Hid (c_3 42 1 = c 42 1) := hF_5 42 1 (fun h => absurd h.1 (nn rfl))
        refine v_ia (v := c 42 1) c_145_22 rfl (by decide) (by decide) (by decide) ((up_c (nn rfl)).trans ((up_c (nn rfl)).trans (hid kn_107))) (q_iconst c_145_23 (v_iadd (v := c 42 1 + 1) c_145_24 rfl (v_nrm (fun y_108 hy_108 => (v_is c_145_25 rfl (by decide) (by decide) (by decide) (q_aload_n c_145_26 rfl (v_gi (z := 0) (v := 1) c_145_27 kf_8_3 rfl (Nat.le_of_ble_eq_true rfl) rfl rfl ((up_c (nn rfl)).trans (up_e rfl)) (v_if_ne_t (t := 37) c_145_30 rfl (by decide) ?_))))))))
        refine q_iconst c_145_37 (v_zret c_145_38 rfl (by decide) (bk_inl (v_if_ne_f (t := 40) c_202_35 rfl (by decide) (q_iconst c_202_38 (q_iret c_202_39 rfl (bk_inl (q_istore c_296_380 (Nat.le_of_ble_eq_true rfl) ?_)))))))
        refine q_goto (t := 1816) c_296_382 rfl ?_
        have hI_109 := iw_41_0 (v := 0) hI_4 ⟨by decide, by decide⟩
        have hI_110 := iw_41_0 (v := 1) hI_109 ⟨by decide, by decide⟩
        have hI_111 := iw_42 (j := 1) (v := y_108) hI_110 ⟨hy_108.1, hy_108.2⟩
        refine Wp_ls [(4, vi (i0 : Int)), (3, .ref 67), (2, .ref 41), (1, .ref 0), (0, .ref a_SC)] (lsub_cons rfl (lsub_cons rfl (lsub_cons rfl (lsub_cons rfl (lsub_cons rfl lsub_nil))))) ?_
        have kn_112 : Hid (c_3 1 3 = c 1 3) := hF_5 1 3 (fun h => absurd h.1 (nn rfl))
        have h_113 : (up (up (up c_3 41 0 0) 41 0 1) 42 1 y_108) 1 3 = c 1 3 := ((up_c (nn rfl)).trans ((up_c (nn rfl)).trans ((up_c (nn rfl)).trans (hid kn_112))))
        have h_114 : (up (up (up c_3 41 0 0) 41 0 1) 42 1 y_108) 41 2 = c 41 2 := ((up_c (nn rfl)).trans ((up_n (by decide)).trans ((up_n (by decide)).trans (hid kn_61))))
        have kn_115 : Hid (c_3 P 0 = n0) := (hF_5 P 0 (fun h => absurd h.1 (np0 hP rfl))).trans (hn0)
        have h_116 : (up (up (up c_3 41 0 0) 41 0 1) 42 1 y_108) P 0 = n0 := ((up_c (np0 hP rfl)).trans ((up_c (np0 hP rfl)).trans ((up_c (np0 hP rfl)).trans (hid kn_115))))
        have kn_117 : Hid (c_3 41 20 = n0) := (hF_5 41 20 (fun h => absurd h.1 (nn rfl))).trans (hm0)
        have h_118 : (up (up (up c_3 41 0 0) 41 0 1) 42 1 y_108) 41 20 = n0 := ((up_c (nn rfl)).trans ((up_n (by decide)).trans ((up_n (by decide)).trans (hid kn_117))))
        have kn_119 : Hid (c_3 P 1 = n1) := (hF_5 P 1 (fun h => absurd h.1 (np0 hP rfl))).trans (hn1)
        have h_120 : (up (up (up c_3 41 0 0) 41 0 1) 42 1 y_108) P 1 = n1 := ((up_c (np0 hP rfl)).trans ((up_c (np0 hP rfl)).trans ((up_c (np0 hP rfl)).trans (hid kn_119))))
        have kn_121 : Hid (c_3 41 21 = n1) := (hF_5 41 21 (fun h => absurd h.1 (nn rfl))).trans (hm1)
        have h_122 : (up (up (up c_3 41 0 0) 41 0 1) 42 1 y_108) 41 21 = n1 := ((up_c (nn rfl)).trans ((up_n (by decide)).trans ((up_n (by decide)).trans (hid kn_121))))
        have kn_123 : Hid (c_3 P 2 = n2) := (hF_5 P 2 (fun h => absurd h.1 (np0 hP rfl))).trans (hn2)
        have h_124 : (up (up (up c_3 41 0 0) 41 0 1) 42 1 y_108) P 2 = n2 := ((up_c (np0 hP rfl)).trans ((up_c (np0 hP rfl)).trans ((up_c (np0 hP rfl)).trans (hid kn_123))))
        have kn_125 : Hid (c_3 41 22 = n2) := (hF_5 41 22 (fun h => absurd h.1 (nn rfl))).trans (hm2)
        have h_126 : (up (up (up c_3 41 0 0) 41 0 1) 42 1 y_108) 41 22 = n2 := ((up_c (nn rfl)).trans ((up_n (by decide)).trans ((up_n (by decide)).trans (hid kn_125))))
        have kn_127 : Hid (c_3 P 3 = n3) := (hF_5 P 3 (fun h => absurd h.1 (np0 hP rfl))).trans (hn3)
        have h_128 : (up (up (up c_3 41 0 0) 41 0 1) 42 1 y_108) P 3 = n3 := ((up_c (np0 hP rfl)).trans ((up_c (np0 hP rfl)).trans ((up_c (np0 hP rfl)).trans (hid kn_127))))
        have kn_129 : Hid (c_3 41 23 = n3) := (hF_5 41 23 (fun h => absurd h.1 (nn rfl))).trans (hm3)
        have h_130 : (up (up (up c_3 41 0 0) 41 0 1) 42 1 y_108) 41 23 = n3 := ((up_c (nn rfl)).trans ((up_n (by decide)).trans ((up_n (by decide)).trans (hid kn_129))))
        have kn_131 : Hid (c_3 3 4 = c 3 4) := hF_5 3 4 (fun h => absurd h.1 (nn rfl))
        have h_132 : (up (up (up c_3 41 0 0) 41 0 1) 42 1 y_108) 3 4 = c 3 4 := ((up_c (nn rfl)).trans ((up_c (nn rfl)).trans ((up_c (nn rfl)).trans (hid kn_131))))
        have h_133 := ir_41_52 hI
        have kn_134 : Hid (c_3 41 52 = c 41 52) := hF_5 41 52 (fun h => absurd h.1 (nn rfl))
        have h_135 : (up (up (up c_3 41 0 0) 41 0 1) 42 1 y_108) 41 52 = c 41 52 := ((up_c (nn rfl)).trans ((up_n (by decide)).trans ((up_n (by decide)).trans (hid kn_134))))
        have h_136 := ir_3_3 hI
        have kn_137 : Hid (c_3 3 3 = c 3 3) := hF_5 3 3 (fun h => absurd h.1 (nn rfl))
        have h_138 : (up (up (up c_3 41 0 0) 41 0 1) 42 1 y_108) 3 3 = c 3 3 := ((up_c (nn rfl)).trans ((up_c (nn rfl)).trans ((up_c (nn rfl)).trans (hid kn_137))))
        have h_139 := ir_41_35 hI
        have kn_140 : Hid (c_3 41 35 = c 41 35) := hF_5 41 35 (fun h => absurd h.1 (nn rfl))
        have h_141 : (up (up (up c_3 41 0 0) 41 0 1) 42 1 y_108) 41 35 = c 41 35 := ((up_c (nn rfl)).trans ((up_n (by decide)).trans ((up_n (by decide)).trans (hid kn_140))))
        have h_142 : (up (up (up c_3 41 0 0) 41 0 1) 42 1 y_108) 3 4 = c 3 4 := ((up_c (nn rfl)).trans ((up_c (nn rfl)).trans ((up_c (nn rfl)).trans (hid kn_131))))
        have h_143 := ir_1_5 hI
        have kn_144 : Hid (c_3 1 5 = c 1 5) := hF_5 1 5 (fun h => absurd h.1 (nn rfl))
        have h_145 : (up (up (up c_3 41 0 0) 41 0 1) 42 1 y_108) 1 5 = c 1 5 := ((up_c (nn rfl)).trans ((up_c (nn rfl)).trans ((up_c (nn rfl)).trans (hid kn_144))))
        have h_146 := ir_41_8 hI
        have kn_147 : Hid (c_3 41 8 = c 41 8) := hF_5 41 8 (fun h => absurd h.1 (nn rfl))
        have h_148 : (up (up (up c_3 41 0 0) 41 0 1) 42 1 y_108) 41 8 = c 41 8 := ((up_c (nn rfl)).trans ((up_n (by decide)).trans ((up_n (by decide)).trans (hid kn_147))))
        exact K P Q (up (up (up c_3 41 0 0) 41 0 1) 42 1 y_108) 1 (by decide) hI_111 ⟨by omega, ub_fr hU (fun j => (up_c (nn rfl)).trans ((up_c (nn rfl)).trans ((up_c (nn rfl)).trans (hF_5 2 j (fun h => absurd h.1 (nn rfl)))))) (fun j => (up_c (nn rfl)).trans ((up_c (nn rfl)).trans ((up_c (nn rfl)).trans (hF_5 43 j (fun h => absurd h.1 (nn rfl)))))), ⟨by omega, by omega, by omega, by omega⟩, by omega, by omega, iw_fr2 hIw (by omega) (fun j => (up_c (nn rfl)).trans ((up_c (nn rfl)).trans ((up_c (nn rfl)).trans (hF_5 6 j (fun h => absurd h.1 (nn rfl)))))) (fun j => (up_c (nn rfl)).trans ((up_c (nn rfl)).trans ((up_c (nn rfl)).trans (hF_5 66 j (fun h => absurd h.1 (nn rfl)))))), by omega⟩
  intro hG_150
  refine bk_inl ?_
  have h_149 := ir_1_3 hI_9
  refine v_i2l c_265_7 (by omega) (v_ls c_265_8 rfl (by decide) (by decide) (by decide) (q_goto (t := 15) c_265_9 rfl (q_iconst c_265_15 (q_iret c_265_16 rfl (bk_inl (q_istore c_296_368 (Nat.le_of_ble_eq_true rfl) (q_aload_n c_296_370 rfl ?_)))))))
  refine q_aload_n c_296_371 rfl (q_iload c_296_372 rfl (q_iconst c_296_374 (v_iadd (v := (i0 : Int) + 1) c_296_375 rfl (v_scr (j := i0 + 1) c_296_376 (by omega) (by omega) hL hx1 ?_))))
  have hI_151 := iw_lx (a := 67) (j := 0) (v := y_11) hI_9 (by omega)
  have h_152 := ir_41_2 hI
  have kn_153 : Hid (c_8 41 2 = c 41 2) := hF_10 41 2 (qn_95638b1cc hP)
  have h_154 := ir_3_3 hI
  have h_155 := ir_41_35 hI
  have kn_156 : Hid (c_8 41 35 = c 41 35) := hF_10 41 35 (qn_95638b1cc hP)
  have kn_157 : Hid (c_8 41 20 = n0) := (hF_10 41 20 (qn_95638b1cc hP)).trans (hm0)
  have kn_158 : Hid (c_8 41 21 = n1) := (hF_10 41 21 (qn_95638b1cc hP)).trans (hm1)
  have kn_159 : Hid (c_8 41 22 = n2) := (hF_10 41 22 (qn_95638b1cc hP)).trans (hm2)
  refine v_cv c_296_377 km_9_139 rfl rfl (Nat.le_of_ble_eq_true rfl) ⟨⟨rfl, rfl⟩, Nat.le_of_ble_eq_true rfl, rfl⟩ (Nat.le_of_ble_eq_true rfl) (Nat.le_of_ble_eq_true rfl) (L_86t (m := c) (a1 := x1) (yg := y_11) (t9 := c 1 3) (wk := c 3 3) (n0 := n0) (n1 := n1) (n2 := n2) (F := c 2) (H := c 43) hI_151 hI hI_9 (show (-2147483648) ≤ x1 ∧ x1 ≤ 2147483647 from ⟨by first | exact q_7d59b2af6 h_12 | omega, by first | exact q_307fd138a h_12 | omega⟩) ⟨hy_11.1, hy_11.2⟩ ⟨by first | exact q_4e1f9514d h_12 | omega, by first | exact q_fbc74f925 h_12 | omega, by first | exact q_bd81129bd h_12 | omega⟩ (rfl) (((show _ = c 41 2 from ((up_c (nn rfl)).trans (hid kn_153))).trans (by omega))) (rfl) (((show _ = c 41 35 from ((up_c (nn rfl)).trans (hid kn_156))).trans (by omega))) ((hn0)) (((up_c (nn rfl)).trans (hid kn_157))) ((hn1)) (((up_c (nn rfl)).trans (hid kn_158))) ((hn2)) (((up_c (nn rfl)).trans (hid kn_159))) (fun j => rfl) (fun j => (up_c (nn rfl)).trans (hF_10 43 j (qn_bc8c9d6b3 hP))) hU hG_150 (fun c_160 y_163 hI_161 hF_162 hy_163 h_164 h_165 h_166 h_167 => (bk_inl ?_)))
  have h_168 := ir_41_2 hI_161
  have h_169 := ir_41_8 hI_161
  have h_170 := ir_1_5 hI_9
  have h_171 := ir_41_0 hI_161
  have h_172 := ir_41_35 hI_161
  have h_173 := ir_3_3 hI_9
  refine q_istore c_296_380 (Nat.le_of_ble_eq_true rfl) (q_goto (t := 1816) c_296_382 rfl (Wp_ls [(4, vi (i0 : Int)), (3, .ref 67), (2, .ref 41), (1, .ref 0), (0, .ref a_SC)] (lsub_cons rfl (lsub_cons rfl (lsub_cons rfl (lsub_cons rfl (lsub_cons rfl lsub_nil))))) ?_))
  have kn_174 : Hid (c_160 1 3 = c_8 1 3) := (hF_162 1 3 qn_64b7cdf30).trans (up_c (nn rfl))
  have h_175 : c_160 1 3 = c_8 1 3 := (hid kn_174)
  have h_176 : c_160 41 2 = c_160 41 2 := rfl
  have kn_177 : Hid (c_8 P 0 = n0) := (hF_10 P 0 (qn_26a832cdf hP)).trans (hn0)
  have kn_178 : Hid (c_160 P 0 = n0) := (hF_162 P 0 (qn_206011cb5 hP)).trans ((up_c (np0 hP rfl)).trans (hid kn_177))
  have h_179 : c_160 P 0 = n0 := (hid kn_178)
  have kn_180 : Hid (c_160 41 20 = n0) := (hF_162 41 20 qn_77fbfa850).trans ((up_c (nn rfl)).trans (hid kn_157))
  have h_181 : c_160 41 20 = n0 := (hid kn_180)
  have kn_182 : Hid (c_8 P 1 = n1) := (hF_10 P 1 (qn_26a832cdf hP)).trans (hn1)
  have kn_183 : Hid (c_160 P 1 = n1) := (hF_162 P 1 (qn_206011cb5 hP)).trans ((up_c (np0 hP rfl)).trans (hid kn_182))
  have h_184 : c_160 P 1 = n1 := (hid kn_183)
  have kn_185 : Hid (c_160 41 21 = n1) := (hF_162 41 21 qn_a1534eb98).trans ((up_c (nn rfl)).trans (hid kn_158))
  have h_186 : c_160 41 21 = n1 := (hid kn_185)
  have kn_187 : Hid (c_8 P 2 = n2) := (hF_10 P 2 (qn_26a832cdf hP)).trans (hn2)
  have kn_188 : Hid (c_160 P 2 = n2) := (hF_162 P 2 (qn_206011cb5 hP)).trans ((up_c (np0 hP rfl)).trans (hid kn_187))
  have h_189 : c_160 P 2 = n2 := (hid kn_188)
  have kn_190 : Hid (c_160 41 22 = n2) := (hF_162 41 22 qn_382f2f2de).trans ((up_c (nn rfl)).trans (hid kn_159))
  have h_191 : c_160 41 22 = n2 := (hid kn_190)
  have kn_192 : Hid (c_8 P 3 = n3) := (hF_10 P 3 (qn_26a832cdf hP)).trans (hn3)
  have kn_193 : Hid (c_160 P 3 = n3) := (hF_162 P 3 (qn_206011cb5 hP)).trans ((up_c (np0 hP rfl)).trans (hid kn_192))
  have h_194 : c_160 P 3 = n3 := (hid kn_193)
  have kn_195 : Hid (c_8 41 23 = n3) := (hF_10 41 23 (qn_95638b1cc hP)).trans (hm3)
  have kn_196 : Hid (c_160 41 23 = n3) := (hF_162 41 23 qn_81686f29b).trans ((up_c (nn rfl)).trans (hid kn_195))
  have h_197 : c_160 41 23 = n3 := (hid kn_196)
  have kn_198 : Hid (c_8 3 4 = c 3 4) := hF_10 3 4 (qn_056d6de3c hP)
  have kn_199 : Hid (c_160 3 4 = c 3 4) := (hF_162 3 4 qn_540a8ebd9).trans ((up_c (nn rfl)).trans (hid kn_198))
  have h_200 : c_160 3 4 = c 3 4 := (hid kn_199)
  have h_201 := ir_41_52 hI
  have kn_202 : Hid (c_8 41 52 = c 41 52) := hF_10 41 52 (qn_95638b1cc hP)
  have kn_203 : Hid (c_160 41 52 = c 41 52) := (hF_162 41 52 qn_f022a3cdc).trans ((up_c (nn rfl)).trans (hid kn_202))
  have h_204 : c_160 41 52 = c 41 52 := (hid kn_203)
  have kn_205 : Hid (c_160 3 3 = c_8 3 3) := (hF_162 3 3 qn_540a8ebd9).trans (up_c (nn rfl))
  have h_206 : c_160 3 3 = c_8 3 3 := (hid kn_205)
  have h_207 : c_160 41 35 = c_160 41 35 := rfl
  have h_208 : c_160 3 4 = c 3 4 := (hid kn_199)
  have kn_209 : Hid (c_160 1 5 = c_8 1 5) := (hF_162 1 5 qn_64b7cdf30).trans (up_c (nn rfl))
  have h_210 : c_160 1 5 = c_8 1 5 := (hid kn_209)
  have h_211 : c_160 41 8 = c_160 41 8 := rfl
  exact K P Q c_160 0 (by decide) hI_161 ⟨by omega, ub_fr hU (fun j => (hF_162 2 j qn_863ce923b).trans ((up_c (nn rfl)).trans (hF_10 2 j (qn_173504b41 hP)))) (fun j => (hF_162 43 j qn_8baf1d17d).trans ((up_c (nn rfl)).trans (hF_10 43 j (qn_bc8c9d6b3 hP)))), ⟨by omega, by omega, by omega, by omega⟩, by omega, by omega, iw_fr2 hIw (by omega) (fun j => (hF_162 6 j qn_db996723a).trans ((up_c (nn rfl)).trans (hF_10 6 j (qn_04be5b8e1 hP)))) (fun j => (hF_162 66 j qn_6ae98eddc).trans ((up_c (nn rfl)).trans (hF_10 66 j (qn_e2ead8ce9 hP)))), by omega⟩

set_option maxRecDepth 100000 in
set_option maxHeartbeats 4000000 in
theorem o_4 {xs : Nat → Int32} {L i0 d nc ns P Q : Nat} {c : ME} {Z : AR → Prop} (hi : i0 + 8 ≤ L) (hL : L ≤ 100000) (hI : Iv 0 (-1) P Q c) (hR : Rq P c) (K : ∀ (P2 Q2 : Nat) (c2 : ME) (e : Nat), e ≤ 1 → Iv 0 (-1) P2 Q2 c2 → (Rq P2 c2) → Wp (a_scr L xs) (d + 90) 296 1816 [(4, vi (i0 : Int)), (3, .ref 67), (2, .ref 41), (1, .ref 0), (0, .ref a_SC)] [] (Wd P2 Q2 P2 P2 c2) (nc + e) (ns + 6 * e) Z) : Wp (a_scr L xs) (d + 90) 296 385 [(4, vi (i0 : Int)), (3, .ref 67), (2, .ref 41), (1, .ref 0), (0, .ref a_SC)] [] (Wd P Q P P c) nc ns Z := by
  obtain ⟨x1, hx1⟩ : ∃ z, (xs (i0 + 1)).toInt = z := ⟨_, rfl⟩
  have x1r := c_rng (xs (i0 + 1))
  rw [hx1] at x1r
  obtain ⟨x2, hx2⟩ : ∃ z, (xs (i0 + 2)).toInt = z := ⟨_, rfl⟩
  have x2r := c_rng (xs (i0 + 2))
  rw [hx2] at x2r
  obtain ⟨x3, hx3⟩ : ∃ z, (xs (i0 + 3)).toInt = z := ⟨_, rfl⟩
  have x3r := c_rng (xs (i0 + 3))
  rw [hx3] at x3r
  obtain ⟨x4, hx4⟩ : ∃ z, (xs (i0 + 4)).toInt = z := ⟨_, rfl⟩
  have x4r := c_rng (xs (i0 + 4))
  rw [hx4] at x4r
  obtain ⟨x5, hx5⟩ : ∃ z, (xs (i0 + 5)).toInt = z := ⟨_, rfl⟩
  have x5r := c_rng (xs (i0 + 5))
  rw [hx5] at x5r
  obtain ⟨x6, hx6⟩ : ∃ z, (xs (i0 + 6)).toInt = z := ⟨_, rfl⟩
  have x6r := c_rng (xs (i0 + 6))
  rw [hx6] at x6r
  obtain ⟨x7, hx7⟩ : ∃ z, (xs (i0 + 7)).toInt = z := ⟨_, rfl⟩
  have x7r := c_rng (xs (i0 + 7))
  rw [hx7] at x7r
  have hP := iv_P hI
  have hQ := iv_Q hI
  have hT := rl_t hR
  have hU := rl_u hR
  obtain ⟨n0, hn0⟩ : ∃ z, c P 0 = z := ⟨_, rfl⟩
  have hm0 : c 41 20 = n0 := (rl_nums hR).1.symm.trans hn0
  have hr0 := ir_p0_0 hI hP
  rw [hn0] at hr0
  obtain ⟨n1, hn1⟩ : ∃ z, c P 1 = z := ⟨_, rfl⟩
  have hm1 : c 41 21 = n1 := (rl_nums hR).2.1.symm.trans hn1
  have hr1 := ir_p0_1 hI hP
  rw [hn1] at hr1
  obtain ⟨n2, hn2⟩ : ∃ z, c P 2 = z := ⟨_, rfl⟩
  have hm2 : c 41 22 = n2 := (rl_nums hR).2.2.1.symm.trans hn2
  have hr2 := ir_p0_2 hI hP
  rw [hn2] at hr2
  obtain ⟨n3, hn3⟩ : ∃ z, c P 3 = z := ⟨_, rfl⟩
  have hm3 : c 41 23 = n3 := (rl_nums hR).2.2.2.symm.trans hn3
  have hr3 := ir_p0_3 hI hP
  rw [hn3] at hr3
  have hNimg := rl_img hR
  have hNwk := rl_wk hR
  have h_1 := ir_3_4 hI
  have hIw := rl_iw hR
  have hNplace := rl_place hR
  refine q_aload_n c_296_385 rfl (q_aload_n c_296_386 rfl (q_iload c_296_387 rfl (q_iconst c_296_389 (v_iadd (v := (i0 : Int) + 1) c_296_390 rfl (v_scr (j := i0 + 1) c_296_391 (by omega) (by omega) hL hx1 (q_aload_n c_296_392 rfl (q_call c_296_393 rfl rfl rfl ?_)))))))
  refine q_aload_n c_266_0 rfl (q_iconst c_266_1 (q_aload_n c_266_2 rfl (q_iload_n c_266_3 rfl ?_)))
  have h_2 := ir_1_3 hI
  refine v_cv c_266_4 km_9_21 rfl rfl (Nat.le_of_ble_eq_true rfl) ⟨⟨rfl, rfl⟩, Nat.le_of_ble_eq_true rfl, rfl⟩ (Nat.le_of_ble_eq_true rfl) (Nat.le_of_ble_eq_true rfl) (fn_of (s_87 (a1 := x1) hI (show (-2147483648) ≤ x1 ∧ x1 ≤ 2147483647 from ⟨by omega, by omega⟩) (fun c_3 hI_4 hF_5 h_6 h_7 => ?_) (fun c_8 y_11 hI_9 hF_10 hy_11 h_12 => ?_)))
  · skip
    intro hG_150
    have h_13 := ir_1_3 hI_4
    refine bk_thr (z := Int32.ofInt 1) rfl ⟨_, _, rfl⟩ rfl (bk_inl (q_istore c_296_396 (Nat.le_of_ble_eq_true rfl) (q_aload_n c_296_398 rfl (q_aload_n c_296_399 rfl (q_iload c_296_400 rfl (q_iconst c_296_402 (v_iadd (v := (i0 : Int) + 1) c_296_403 rfl ?_)))))))
    refine v_scr (j := i0 + 1) c_296_404 (by omega) (by omega) hL hx1 (v_cv c_296_405 km_9_142 rfl rfl (Nat.le_of_ble_eq_true rfl) ⟨⟨rfl, rfl⟩, Nat.le_of_ble_eq_true rfl, rfl⟩ (Nat.le_of_ble_eq_true rfl) (Nat.le_of_ble_eq_true rfl) (q_aload_n c_206_0 rfl (q_iconst c_206_1 (v_pi (z := 0) c_206_2 kf_8_3 rfl (Nat.le_of_ble_eq_true rfl) rfl rfl rfl (by decide) (q_aload_n c_206_5 rfl (q_iload_n c_206_6 rfl (v_cv c_206_7 km_8_381 rfl rfl (Nat.le_of_ble_eq_true rfl) ⟨⟨rfl, rfl⟩, Nat.le_of_ble_eq_true rfl, rfl⟩ (Nat.le_of_ble_eq_true rfl) (Nat.le_of_ble_eq_true rfl) ?_)))))))
    refine q_aload_n c_205_0 rfl (q_iload_n c_205_1 rfl ?_)
    by_cases h_14 : x1 < 0
    · refine v_if_lt_t (t := 23) c_205_2 rfl ⟨by first | (clear hT hNimg hNwk h_1 hNplace h_2 h_13; omega) | omega, h_14, by decide⟩ (q_iconst c_205_23 (q_iconst c_205_24 (q_iconst c_205_25 (v_cv c_205_26 km_8_203 rfl rfl (Nat.le_of_ble_eq_true rfl) ⟨⟨rfl, rfl⟩, Nat.le_of_ble_eq_true rfl, rfl⟩ (Nat.le_of_ble_eq_true rfl) (Nat.le_of_ble_eq_true rfl) (q_iload_n c_145_0 rfl (v_if_ne_f (t := 26) c_145_1 rfl (by decide) (q_aload_n c_145_4 rfl ?_)))))))
      refine v_gi (z := 0) (v := 0) c_145_5 kf_8_3 rfl (Nat.le_of_ble_eq_true rfl) rfl rfl (up_e rfl) (v_if_ne_f (t := 26) c_145_8 rfl (by decide) (q_aload_n c_145_11 rfl (q_iload_n c_145_12 rfl (v_pi (z := 0) c_145_13 kf_8_3 rfl (Nat.le_of_ble_eq_true rfl) rfl rfl rfl (by decide) (q_aload_n c_145_16 rfl (v_gr (t := 42) c_145_17 kf_8_7 rfl (Nat.le_of_ble_eq_true rfl) rfl (q_iload_n c_145_20 rfl ?_)))))))
      refine q_dup2 c_145_21 ⟨rfl, rfl⟩ ?_
      have h_15 := ir_42 hI 1
      have kn_16 : Hid (c_3 42 1 = c 42 1) := hF_5 42 1 (fun h => absurd h.1 (nn rfl))
      refine v_ia (v := c 42 1) c_145_22 rfl (by decide) (by decide) (by decide) ((up_c (nn rfl)).trans ((up_c (nn rfl)).trans (hid kn_16))) (q_iconst c_145_23 (v_iadd (v := c 42 1 + 1) c_145_24 rfl (v_nrm (fun y_17 hy_17 => (v_is c_145_25 rfl (by decide) (by decide) (by decide) (q_aload_n c_145_26 rfl (v_gi (z := 0) (v := 1) c_145_27 kf_8_3 rfl (Nat.le_of_ble_eq_true rfl) rfl rfl ((up_c (nn rfl)).trans (up_e rfl)) (v_if_ne_t (t := 37) c_145_30 rfl (by decide) ?_))))))))
      refine q_iconst c_145_37 (v_zret c_145_38 rfl (by decide) (bk_inl (v_zret c_205_29 rfl (by decide) (bk_inl (v_if_ne_f (t := 15) c_206_10 rfl (by decide) (q_iconst c_206_13 (q_iret c_206_14 rfl ?_)))))))
      refine bk_inl (q_istore c_296_408 (Nat.le_of_ble_eq_true rfl) (q_goto (t := 1816) c_296_410 rfl ?_))
      have hI_18 := iw_41_0 (v := 0) hI_4 ⟨by decide, by decide⟩
      have hI_19 := iw_41_0 (v := 1) hI_18 ⟨by decide, by decide⟩
      have hI_20 := iw_42 (j := 1) (v := y_17) hI_19 ⟨hy_17.1, hy_17.2⟩
      refine Wp_ls [(4, vi (i0 : Int)), (3, .ref 67), (2, .ref 41), (1, .ref 0), (0, .ref a_SC)] (lsub_cons rfl (lsub_cons rfl (lsub_cons rfl (lsub_cons rfl (lsub_cons rfl lsub_nil))))) ?_
      have kn_21 : Hid (c_3 1 3 = c 1 3) := hF_5 1 3 (fun h => absurd h.1 (nn rfl))
      have h_22 : (up (up (up c_3 41 0 0) 41 0 1) 42 1 y_17) 1 3 = c 1 3 := ((up_c (nn rfl)).trans ((up_c (nn rfl)).trans ((up_c (nn rfl)).trans (hid kn_21))))
      have h_23 := ir_41_2 hI
      have kn_24 : Hid (c_3 41 2 = c 41 2) := hF_5 41 2 (fun h => absurd h.1 (nn rfl))
      have h_25 : (up (up (up c_3 41 0 0) 41 0 1) 42 1 y_17) 41 2 = c 41 2 := ((up_c (nn rfl)).trans ((up_n (by decide)).trans ((up_n (by decide)).trans (hid kn_24))))
      have kn_26 : Hid (c_3 P 0 = n0) := (hF_5 P 0 (fun h => absurd h.1 (np0 hP rfl))).trans (hn0)
      have h_27 : (up (up (up c_3 41 0 0) 41 0 1) 42 1 y_17) P 0 = n0 := ((up_c (np0 hP rfl)).trans ((up_c (np0 hP rfl)).trans ((up_c (np0 hP rfl)).trans (hid kn_26))))
      have kn_28 : Hid (c_3 41 20 = n0) := (hF_5 41 20 (fun h => absurd h.1 (nn rfl))).trans (hm0)
      have h_29 : (up (up (up c_3 41 0 0) 41 0 1) 42 1 y_17) 41 20 = n0 := ((up_c (nn rfl)).trans ((up_n (by decide)).trans ((up_n (by decide)).trans (hid kn_28))))
      have kn_30 : Hid (c_3 P 1 = n1) := (hF_5 P 1 (fun h => absurd h.1 (np0 hP rfl))).trans (hn1)
      have h_31 : (up (up (up c_3 41 0 0) 41 0 1) 42 1 y_17) P 1 = n1 := ((up_c (np0 hP rfl)).trans ((up_c (np0 hP rfl)).trans ((up_c (np0 hP rfl)).trans (hid kn_30))))
      have kn_32 : Hid (c_3 41 21 = n1) := (hF_5 41 21 (fun h => absurd h.1 (nn rfl))).trans (hm1)
      have h_33 : (up (up (up c_3 41 0 0) 41 0 1) 42 1 y_17) 41 21 = n1 := ((up_c (nn rfl)).trans ((up_n (by decide)).trans ((up_n (by decide)).trans (hid kn_32))))
      have kn_34 : Hid (c_3 P 2 = n2) := (hF_5 P 2 (fun h => absurd h.1 (np0 hP rfl))).trans (hn2)
      have h_35 : (up (up (up c_3 41 0 0) 41 0 1) 42 1 y_17) P 2 = n2 := ((up_c (np0 hP rfl)).trans ((up_c (np0 hP rfl)).trans ((up_c (np0 hP rfl)).trans (hid kn_34))))
      have kn_36 : Hid (c_3 41 22 = n2) := (hF_5 41 22 (fun h => absurd h.1 (nn rfl))).trans (hm2)
      have h_37 : (up (up (up c_3 41 0 0) 41 0 1) 42 1 y_17) 41 22 = n2 := ((up_c (nn rfl)).trans ((up_n (by decide)).trans ((up_n (by decide)).trans (hid kn_36))))
      have kn_38 : Hid (c_3 P 3 = n3) := (hF_5 P 3 (fun h => absurd h.1 (np0 hP rfl))).trans (hn3)
      have h_39 : (up (up (up c_3 41 0 0) 41 0 1) 42 1 y_17) P 3 = n3 := ((up_c (np0 hP rfl)).trans ((up_c (np0 hP rfl)).trans ((up_c (np0 hP rfl)).trans (hid kn_38))))
      have kn_40 : Hid (c_3 41 23 = n3) := (hF_5 41 23 (fun h => absurd h.1 (nn rfl))).trans (hm3)
      have h_41 : (up (up (up c_3 41 0 0) 41 0 1) 42 1 y_17) 41 23 = n3 := ((up_c (nn rfl)).trans ((up_n (by decide)).trans ((up_n (by decide)).trans (hid kn_40))))
      have kn_42 : Hid (c_3 3 4 = c 3 4) := hF_5 3 4 (fun h => absurd h.1 (nn rfl))
      have h_43 : (up (up (up c_3 41 0 0) 41 0 1) 42 1 y_17) 3 4 = c 3 4 := ((up_c (nn rfl)).trans ((up_c (nn rfl)).trans ((up_c (nn rfl)).trans (hid kn_42))))
      have h_44 := ir_41_52 hI
      have kn_45 : Hid (c_3 41 52 = c 41 52) := hF_5 41 52 (fun h => absurd h.1 (nn rfl))
      have h_46 : (up (up (up c_3 41 0 0) 41 0 1) 42 1 y_17) 41 52 = c 41 52 := ((up_c (nn rfl)).trans ((up_n (by decide)).trans ((up_n (by decide)).trans (hid kn_45))))
      have h_47 := ir_3_3 hI
      have kn_48 : Hid (c_3 3 3 = c 3 3) := hF_5 3 3 (fun h => absurd h.1 (nn rfl))
      have h_49 : (up (up (up c_3 41 0 0) 41 0 1) 42 1 y_17) 3 3 = c 3 3 := ((up_c (nn rfl)).trans ((up_c (nn rfl)).trans ((up_c (nn rfl)).trans (hid kn_48))))
      have h_50 := ir_41_35 hI
      have kn_51 : Hid (c_3 41 35 = c 41 35) := hF_5 41 35 (fun h => absurd h.1 (nn rfl))
      have h_52 : (up (up (up c_3 41 0 0) 41 0 1) 42 1 y_17) 41 35 = c 41 35 := ((up_c (nn rfl)).trans ((up_n (by decide)).trans ((up_n (by decide)).trans (hid kn_51))))
      have h_53 : (up (up (up c_3 41 0 0) 41 0 1) 42 1 y_17) 3 4 = c 3 4 := ((up_c (nn rfl)).trans ((up_c (nn rfl)).trans ((up_c (nn rfl)).trans (hid kn_42))))
      have h_54 := ir_1_5 hI
      have kn_55 : Hid (c_3 1 5 = c 1 5) := hF_5 1 5 (fun h => absurd h.1 (nn rfl))
      have h_56 : (up (up (up c_3 41 0 0) 41 0 1) 42 1 y_17) 1 5 = c 1 5 := ((up_c (nn rfl)).trans ((up_c (nn rfl)).trans ((up_c (nn rfl)).trans (hid kn_55))))
      have h_57 := ir_41_8 hI
      have kn_58 : Hid (c_3 41 8 = c 41 8) := hF_5 41 8 (fun h => absurd h.1 (nn rfl))
      have h_59 : (up (up (up c_3 41 0 0) 41 0 1) 42 1 y_17) 41 8 = c 41 8 := ((up_c (nn rfl)).trans ((up_n (by decide)).trans ((up_n (by decide)).trans (hid kn_58))))
      exact K P Q (up (up (up c_3 41 0 0) 41 0 1) 42 1 y_17) 1 (by decide) hI_20 ⟨by omega, ub_fr hU (fun j => (up_c (nn rfl)).trans ((up_c (nn rfl)).trans ((up_c (nn rfl)).trans (hF_5 2 j (fun h => absurd h.1 (nn rfl)))))) (fun j => (up_c (nn rfl)).trans ((up_c (nn rfl)).trans ((up_c (nn rfl)).trans (hF_5 43 j (fun h => absurd h.1 (nn rfl)))))), ⟨by omega, by omega, by omega, by omega⟩, by omega, by omega, iw_fr2 hIw (by omega) (fun j => (up_c (nn rfl)).trans ((up_c (nn rfl)).trans ((up_c (nn rfl)).trans (hF_5 6 j (fun h => absurd h.1 (nn rfl)))))) (fun j => (up_c (nn rfl)).trans ((up_c (nn rfl)).trans ((up_c (nn rfl)).trans (hF_5 66 j (fun h => absurd h.1 (nn rfl)))))), by omega⟩
    · refine v_if_lt_f (t := 23) c_205_2 rfl ⟨by decide, (Int.not_lt.mp h_14), by first | (clear hT hNimg hNwk h_1 hNplace h_2 h_13; omega) | omega⟩ (q_iload_n c_205_5 rfl (q_aload_n c_205_6 rfl ?_))
      have h_60 := ir_41_2 hI
      have kn_61 : Hid (c_3 41 2 = c 41 2) := hF_5 41 2 (fun h => absurd h.1 (nn rfl))
      refine v_gi (z := 2) (v := c 41 2) c_205_7 kf_8_99 rfl (Nat.le_of_ble_eq_true rfl) rfl rfl ((up_n (by decide)).trans (hid kn_61)) ?_
      by_cases h_62 : x1 > c 41 2
      · refine v_ic_gt_t (t := 23) c_205_10 rfl ⟨by first | exact q_3b2b08511 h_60 | omega, h_62, by first | (clear hT hNimg hNwk h_1 hNplace h_2 h_13 h_14 h_60; omega) | omega⟩ (q_iconst c_205_23 (q_iconst c_205_24 (q_iconst c_205_25 (v_cv c_205_26 km_8_203 rfl rfl (Nat.le_of_ble_eq_true rfl) ⟨⟨rfl, rfl⟩, Nat.le_of_ble_eq_true rfl, rfl⟩ (Nat.le_of_ble_eq_true rfl) (Nat.le_of_ble_eq_true rfl) (q_iload_n c_145_0 rfl (v_if_ne_f (t := 26) c_145_1 rfl (by decide) (q_aload_n c_145_4 rfl ?_)))))))
        refine v_gi (z := 0) (v := 0) c_145_5 kf_8_3 rfl (Nat.le_of_ble_eq_true rfl) rfl rfl (up_e rfl) (v_if_ne_f (t := 26) c_145_8 rfl (by decide) (q_aload_n c_145_11 rfl (q_iload_n c_145_12 rfl (v_pi (z := 0) c_145_13 kf_8_3 rfl (Nat.le_of_ble_eq_true rfl) rfl rfl rfl (by decide) (q_aload_n c_145_16 rfl (v_gr (t := 42) c_145_17 kf_8_7 rfl (Nat.le_of_ble_eq_true rfl) rfl (q_iload_n c_145_20 rfl ?_)))))))
        refine q_dup2 c_145_21 ⟨rfl, rfl⟩ ?_
        have h_63 := ir_42 hI 1
        have kn_64 : Hid (c_3 42 1 = c 42 1) := hF_5 42 1 (fun h => absurd h.1 (nn rfl))
        refine v_ia (v := c 42 1) c_145_22 rfl (by decide) (by decide) (by decide) ((up_c (nn rfl)).trans ((up_c (nn rfl)).trans (hid kn_64))) (q_iconst c_145_23 (v_iadd (v := c 42 1 + 1) c_145_24 rfl (v_nrm (fun y_65 hy_65 => (v_is c_145_25 rfl (by decide) (by decide) (by decide) (q_aload_n c_145_26 rfl (v_gi (z := 0) (v := 1) c_145_27 kf_8_3 rfl (Nat.le_of_ble_eq_true rfl) rfl rfl ((up_c (nn rfl)).trans (up_e rfl)) (v_if_ne_t (t := 37) c_145_30 rfl (by decide) ?_))))))))
        refine q_iconst c_145_37 (v_zret c_145_38 rfl (by decide) (bk_inl (v_zret c_205_29 rfl (by decide) (bk_inl (v_if_ne_f (t := 15) c_206_10 rfl (by decide) (q_iconst c_206_13 (q_iret c_206_14 rfl ?_)))))))
        refine bk_inl (q_istore c_296_408 (Nat.le_of_ble_eq_true rfl) (q_goto (t := 1816) c_296_410 rfl ?_))
        have hI_66 := iw_41_0 (v := 0) hI_4 ⟨by decide, by decide⟩
        have hI_67 := iw_41_0 (v := 1) hI_66 ⟨by decide, by decide⟩
        have hI_68 := iw_42 (j := 1) (v := y_65) hI_67 ⟨hy_65.1, hy_65.2⟩
        refine Wp_ls [(4, vi (i0 : Int)), (3, .ref 67), (2, .ref 41), (1, .ref 0), (0, .ref a_SC)] (lsub_cons rfl (lsub_cons rfl (lsub_cons rfl (lsub_cons rfl (lsub_cons rfl lsub_nil))))) ?_
        have kn_69 : Hid (c_3 1 3 = c 1 3) := hF_5 1 3 (fun h => absurd h.1 (nn rfl))
        have h_70 : (up (up (up c_3 41 0 0) 41 0 1) 42 1 y_65) 1 3 = c 1 3 := ((up_c (nn rfl)).trans ((up_c (nn rfl)).trans ((up_c (nn rfl)).trans (hid kn_69))))
        have h_71 : (up (up (up c_3 41 0 0) 41 0 1) 42 1 y_65) 41 2 = c 41 2 := ((up_c (nn rfl)).trans ((up_n (by decide)).trans ((up_n (by decide)).trans (hid kn_61))))
        have kn_72 : Hid (c_3 P 0 = n0) := (hF_5 P 0 (fun h => absurd h.1 (np0 hP rfl))).trans (hn0)
        have h_73 : (up (up (up c_3 41 0 0) 41 0 1) 42 1 y_65) P 0 = n0 := ((up_c (np0 hP rfl)).trans ((up_c (np0 hP rfl)).trans ((up_c (np0 hP rfl)).trans (hid kn_72))))
        have kn_74 : Hid (c_3 41 20 = n0) := (hF_5 41 20 (fun h => absurd h.1 (nn rfl))).trans (hm0)
        have h_75 : (up (up (up c_3 41 0 0) 41 0 1) 42 1 y_65) 41 20 = n0 := ((up_c (nn rfl)).trans ((up_n (by decide)).trans ((up_n (by decide)).trans (hid kn_74))))
        have kn_76 : Hid (c_3 P 1 = n1) := (hF_5 P 1 (fun h => absurd h.1 (np0 hP rfl))).trans (hn1)
        have h_77 : (up (up (up c_3 41 0 0) 41 0 1) 42 1 y_65) P 1 = n1 := ((up_c (np0 hP rfl)).trans ((up_c (np0 hP rfl)).trans ((up_c (np0 hP rfl)).trans (hid kn_76))))
        have kn_78 : Hid (c_3 41 21 = n1) := (hF_5 41 21 (fun h => absurd h.1 (nn rfl))).trans (hm1)
        have h_79 : (up (up (up c_3 41 0 0) 41 0 1) 42 1 y_65) 41 21 = n1 := ((up_c (nn rfl)).trans ((up_n (by decide)).trans ((up_n (by decide)).trans (hid kn_78))))
        have kn_80 : Hid (c_3 P 2 = n2) := (hF_5 P 2 (fun h => absurd h.1 (np0 hP rfl))).trans (hn2)
        have h_81 : (up (up (up c_3 41 0 0) 41 0 1) 42 1 y_65) P 2 = n2 := ((up_c (np0 hP rfl)).trans ((up_c (np0 hP rfl)).trans ((up_c (np0 hP rfl)).trans (hid kn_80))))
        have kn_82 : Hid (c_3 41 22 = n2) := (hF_5 41 22 (fun h => absurd h.1 (nn rfl))).trans (hm2)
        have h_83 : (up (up (up c_3 41 0 0) 41 0 1) 42 1 y_65) 41 22 = n2 := ((up_c (nn rfl)).trans ((up_n (by decide)).trans ((up_n (by decide)).trans (hid kn_82))))
        have kn_84 : Hid (c_3 P 3 = n3) := (hF_5 P 3 (fun h => absurd h.1 (np0 hP rfl))).trans (hn3)
        have h_85 : (up (up (up c_3 41 0 0) 41 0 1) 42 1 y_65) P 3 = n3 := ((up_c (np0 hP rfl)).trans ((up_c (np0 hP rfl)).trans ((up_c (np0 hP rfl)).trans (hid kn_84))))
        have kn_86 : Hid (c_3 41 23 = n3) := (hF_5 41 23 (fun h => absurd h.1 (nn rfl))).trans (hm3)
        have h_87 : (up (up (up c_3 41 0 0) 41 0 1) 42 1 y_65) 41 23 = n3 := ((up_c (nn rfl)).trans ((up_n (by decide)).trans ((up_n (by decide)).trans (hid kn_86))))
        have kn_88 : Hid (c_3 3 4 = c 3 4) := hF_5 3 4 (fun h => absurd h.1 (nn rfl))
        have h_89 : (up (up (up c_3 41 0 0) 41 0 1) 42 1 y_65) 3 4 = c 3 4 := ((up_c (nn rfl)).trans ((up_c (nn rfl)).trans ((up_c (nn rfl)).trans (hid kn_88))))
        have h_90 := ir_41_52 hI
        have kn_91 : Hid (c_3 41 52 = c 41 52) := hF_5 41 52 (fun h => absurd h.1 (nn rfl))
        have h_92 : (up (up (up c_3 41 0 0) 41 0 1) 42 1 y_65) 41 52 = c 41 52 := ((up_c (nn rfl)).trans ((up_n (by decide)).trans ((up_n (by decide)).trans (hid kn_91))))
        have h_93 := ir_3_3 hI
        have kn_94 : Hid (c_3 3 3 = c 3 3) := hF_5 3 3 (fun h => absurd h.1 (nn rfl))
        have h_95 : (up (up (up c_3 41 0 0) 41 0 1) 42 1 y_65) 3 3 = c 3 3 := ((up_c (nn rfl)).trans ((up_c (nn rfl)).trans ((up_c (nn rfl)).trans (hid kn_94))))
        have h_96 := ir_41_35 hI
        have kn_97 : Hid (c_3 41 35 = c 41 35) := hF_5 41 35 (fun h => absurd h.1 (nn rfl))
        have h_98 : (up (up (up c_3 41 0 0) 41 0 1) 42 1 y_65) 41 35 = c 41 35 := ((up_c (nn rfl)).trans ((up_n (by decide)).trans ((up_n (by decide)).trans (hid kn_97))))
        have h_99 : (up (up (up c_3 41 0 0) 41 0 1) 42 1 y_65) 3 4 = c 3 4 := ((up_c (nn rfl)).trans ((up_c (nn rfl)).trans ((up_c (nn rfl)).trans (hid kn_88))))
        have h_100 := ir_1_5 hI
        have kn_101 : Hid (c_3 1 5 = c 1 5) := hF_5 1 5 (fun h => absurd h.1 (nn rfl))
        have h_102 : (up (up (up c_3 41 0 0) 41 0 1) 42 1 y_65) 1 5 = c 1 5 := ((up_c (nn rfl)).trans ((up_c (nn rfl)).trans ((up_c (nn rfl)).trans (hid kn_101))))
        have h_103 := ir_41_8 hI
        have kn_104 : Hid (c_3 41 8 = c 41 8) := hF_5 41 8 (fun h => absurd h.1 (nn rfl))
        have h_105 : (up (up (up c_3 41 0 0) 41 0 1) 42 1 y_65) 41 8 = c 41 8 := ((up_c (nn rfl)).trans ((up_n (by decide)).trans ((up_n (by decide)).trans (hid kn_104))))
        exact K P Q (up (up (up c_3 41 0 0) 41 0 1) 42 1 y_65) 1 (by decide) hI_68 ⟨by omega, ub_fr hU (fun j => (up_c (nn rfl)).trans ((up_c (nn rfl)).trans ((up_c (nn rfl)).trans (hF_5 2 j (fun h => absurd h.1 (nn rfl)))))) (fun j => (up_c (nn rfl)).trans ((up_c (nn rfl)).trans ((up_c (nn rfl)).trans (hF_5 43 j (fun h => absurd h.1 (nn rfl)))))), ⟨by omega, by omega, by omega, by omega⟩, by omega, by omega, iw_fr2 hIw (by omega) (fun j => (up_c (nn rfl)).trans ((up_c (nn rfl)).trans ((up_c (nn rfl)).trans (hF_5 6 j (fun h => absurd h.1 (nn rfl)))))) (fun j => (up_c (nn rfl)).trans ((up_c (nn rfl)).trans ((up_c (nn rfl)).trans (hF_5 66 j (fun h => absurd h.1 (nn rfl)))))), by omega⟩
      · refine v_ic_gt_f (t := 23) c_205_10 rfl ⟨by first | exact q_c05c968ed h_14 | omega, (Int.not_lt.mp h_62), by first | exact q_3885e607f h_60 | omega⟩ (q_iload_n c_205_13 rfl (v_bip c_205_14 (by decide) (v_ic_gt_t (t := 23) c_205_16 rfl ⟨by decide, by omega, by first | exact q_c2c15a399 h_60 h_62 | omega⟩ (q_iconst c_205_23 (q_iconst c_205_24 (q_iconst c_205_25 (v_cv c_205_26 km_8_203 rfl rfl (Nat.le_of_ble_eq_true rfl) ⟨⟨rfl, rfl⟩, Nat.le_of_ble_eq_true rfl, rfl⟩ (Nat.le_of_ble_eq_true rfl) (Nat.le_of_ble_eq_true rfl) ?_)))))))
        refine q_iload_n c_145_0 rfl (v_if_ne_f (t := 26) c_145_1 rfl (by decide) (q_aload_n c_145_4 rfl (v_gi (z := 0) (v := 0) c_145_5 kf_8_3 rfl (Nat.le_of_ble_eq_true rfl) rfl rfl (up_e rfl) (v_if_ne_f (t := 26) c_145_8 rfl (by decide) (q_aload_n c_145_11 rfl (q_iload_n c_145_12 rfl (v_pi (z := 0) c_145_13 kf_8_3 rfl (Nat.le_of_ble_eq_true rfl) rfl rfl rfl (by decide) ?_)))))))
        refine q_aload_n c_145_16 rfl (v_gr (t := 42) c_145_17 kf_8_7 rfl (Nat.le_of_ble_eq_true rfl) rfl (q_iload_n c_145_20 rfl (q_dup2 c_145_21 ⟨rfl, rfl⟩ ?_)))
        have h_106 := ir_42 hI 1
        have kn_107 : Hid (c_3 42 1 = c 42 1) := hF_5 42 1 (fun h => absurd h.1 (nn rfl))
        refine v_ia (v := c 42 1) c_145_22 rfl (by decide) (by decide) (by decide) ((up_c (nn rfl)).trans ((up_c (nn rfl)).trans (hid kn_107))) (q_iconst c_145_23 (v_iadd (v := c 42 1 + 1) c_145_24 rfl (v_nrm (fun y_108 hy_108 => (v_is c_145_25 rfl (by decide) (by decide) (by decide) (q_aload_n c_145_26 rfl (v_gi (z := 0) (v := 1) c_145_27 kf_8_3 rfl (Nat.le_of_ble_eq_true rfl) rfl rfl ((up_c (nn rfl)).trans (up_e rfl)) (v_if_ne_t (t := 37) c_145_30 rfl (by decide) ?_))))))))
        refine q_iconst c_145_37 (v_zret c_145_38 rfl (by decide) (bk_inl (v_zret c_205_29 rfl (by decide) (bk_inl (v_if_ne_f (t := 15) c_206_10 rfl (by decide) (q_iconst c_206_13 (q_iret c_206_14 rfl ?_)))))))
        refine bk_inl (q_istore c_296_408 (Nat.le_of_ble_eq_true rfl) (q_goto (t := 1816) c_296_410 rfl ?_))
        have hI_109 := iw_41_0 (v := 0) hI_4 ⟨by decide, by decide⟩
        have hI_110 := iw_41_0 (v := 1) hI_109 ⟨by decide, by decide⟩
        have hI_111 := iw_42 (j := 1) (v := y_108) hI_110 ⟨hy_108.1, hy_108.2⟩
        refine Wp_ls [(4, vi (i0 : Int)), (3, .ref 67), (2, .ref 41), (1, .ref 0), (0, .ref a_SC)] (lsub_cons rfl (lsub_cons rfl (lsub_cons rfl (lsub_cons rfl (lsub_cons rfl lsub_nil))))) ?_
        have kn_112 : Hid (c_3 1 3 = c 1 3) := hF_5 1 3 (fun h => absurd h.1 (nn rfl))
        have h_113 : (up (up (up c_3 41 0 0) 41 0 1) 42 1 y_108) 1 3 = c 1 3 := ((up_c (nn rfl)).trans ((up_c (nn rfl)).trans ((up_c (nn rfl)).trans (hid kn_112))))
        have h_114 : (up (up (up c_3 41 0 0) 41 0 1) 42 1 y_108) 41 2 = c 41 2 := ((up_c (nn rfl)).trans ((up_n (by decide)).trans ((up_n (by decide)).trans (hid kn_61))))
        have kn_115 : Hid (c_3 P 0 = n0) := (hF_5 P 0 (fun h => absurd h.1 (np0 hP rfl))).trans (hn0)
        have h_116 : (up (up (up c_3 41 0 0) 41 0 1) 42 1 y_108) P 0 = n0 := ((up_c (np0 hP rfl)).trans ((up_c (np0 hP rfl)).trans ((up_c (np0 hP rfl)).trans (hid kn_115))))
        have kn_117 : Hid (c_3 41 20 = n0) := (hF_5 41 20 (fun h => absurd h.1 (nn rfl))).trans (hm0)
        have h_118 : (up (up (up c_3 41 0 0) 41 0 1) 42 1 y_108) 41 20 = n0 := ((up_c (nn rfl)).trans ((up_n (by decide)).trans ((up_n (by decide)).trans (hid kn_117))))
        have kn_119 : Hid (c_3 P 1 = n1) := (hF_5 P 1 (fun h => absurd h.1 (np0 hP rfl))).trans (hn1)
        have h_120 : (up (up (up c_3 41 0 0) 41 0 1) 42 1 y_108) P 1 = n1 := ((up_c (np0 hP rfl)).trans ((up_c (np0 hP rfl)).trans ((up_c (np0 hP rfl)).trans (hid kn_119))))
        have kn_121 : Hid (c_3 41 21 = n1) := (hF_5 41 21 (fun h => absurd h.1 (nn rfl))).trans (hm1)
        have h_122 : (up (up (up c_3 41 0 0) 41 0 1) 42 1 y_108) 41 21 = n1 := ((up_c (nn rfl)).trans ((up_n (by decide)).trans ((up_n (by decide)).trans (hid kn_121))))
        have kn_123 : Hid (c_3 P 2 = n2) := (hF_5 P 2 (fun h => absurd h.1 (np0 hP rfl))).trans (hn2)
        have h_124 : (up (up (up c_3 41 0 0) 41 0 1) 42 1 y_108) P 2 = n2 := ((up_c (np0 hP rfl)).trans ((up_c (np0 hP rfl)).trans ((up_c (np0 hP rfl)).trans (hid kn_123))))
        have kn_125 : Hid (c_3 41 22 = n2) := (hF_5 41 22 (fun h => absurd h.1 (nn rfl))).trans (hm2)
        have h_126 : (up (up (up c_3 41 0 0) 41 0 1) 42 1 y_108) 41 22 = n2 := ((up_c (nn rfl)).trans ((up_n (by decide)).trans ((up_n (by decide)).trans (hid kn_125))))
        have kn_127 : Hid (c_3 P 3 = n3) := (hF_5 P 3 (fun h => absurd h.1 (np0 hP rfl))).trans (hn3)
        have h_128 : (up (up (up c_3 41 0 0) 41 0 1) 42 1 y_108) P 3 = n3 := ((up_c (np0 hP rfl)).trans ((up_c (np0 hP rfl)).trans ((up_c (np0 hP rfl)).trans (hid kn_127))))
        have kn_129 : Hid (c_3 41 23 = n3) := (hF_5 41 23 (fun h => absurd h.1 (nn rfl))).trans (hm3)
        have h_130 : (up (up (up c_3 41 0 0) 41 0 1) 42 1 y_108) 41 23 = n3 := ((up_c (nn rfl)).trans ((up_n (by decide)).trans ((up_n (by decide)).trans (hid kn_129))))
        have kn_131 : Hid (c_3 3 4 = c 3 4) := hF_5 3 4 (fun h => absurd h.1 (nn rfl))
        have h_132 : (up (up (up c_3 41 0 0) 41 0 1) 42 1 y_108) 3 4 = c 3 4 := ((up_c (nn rfl)).trans ((up_c (nn rfl)).trans ((up_c (nn rfl)).trans (hid kn_131))))
        have h_133 := ir_41_52 hI
        have kn_134 : Hid (c_3 41 52 = c 41 52) := hF_5 41 52 (fun h => absurd h.1 (nn rfl))
        have h_135 : (up (up (up c_3 41 0 0) 41 0 1) 42 1 y_108) 41 52 = c 41 52 := ((up_c (nn rfl)).trans ((up_n (by decide)).trans ((up_n (by decide)).trans (hid kn_134))))
        have h_136 := ir_3_3 hI
        have kn_137 : Hid (c_3 3 3 = c 3 3) := hF_5 3 3 (fun h => absurd h.1 (nn rfl))
        have h_138 : (up (up (up c_3 41 0 0) 41 0 1) 42 1 y_108) 3 3 = c 3 3 := ((up_c (nn rfl)).trans ((up_c (nn rfl)).trans ((up_c (nn rfl)).trans (hid kn_137))))
        have h_139 := ir_41_35 hI
        have kn_140 : Hid (c_3 41 35 = c 41 35) := hF_5 41 35 (fun h => absurd h.1 (nn rfl))
        have h_141 : (up (up (up c_3 41 0 0) 41 0 1) 42 1 y_108) 41 35 = c 41 35 := ((up_c (nn rfl)).trans ((up_n (by decide)).trans ((up_n (by decide)).trans (hid kn_140))))
        have h_142 : (up (up (up c_3 41 0 0) 41 0 1) 42 1 y_108) 3 4 = c 3 4 := ((up_c (nn rfl)).trans ((up_c (nn rfl)).trans ((up_c (nn rfl)).trans (hid kn_131))))
        have h_143 := ir_1_5 hI
        have kn_144 : Hid (c_3 1 5 = c 1 5) := hF_5 1 5 (fun h => absurd h.1 (nn rfl))
        have h_145 : (up (up (up c_3 41 0 0) 41 0 1) 42 1 y_108) 1 5 = c 1 5 := ((up_c (nn rfl)).trans ((up_c (nn rfl)).trans ((up_c (nn rfl)).trans (hid kn_144))))
        have h_146 := ir_41_8 hI
        have kn_147 : Hid (c_3 41 8 = c 41 8) := hF_5 41 8 (fun h => absurd h.1 (nn rfl))
        have h_148 : (up (up (up c_3 41 0 0) 41 0 1) 42 1 y_108) 41 8 = c 41 8 := ((up_c (nn rfl)).trans ((up_n (by decide)).trans ((up_n (by decide)).trans (hid kn_147))))
        exact K P Q (up (up (up c_3 41 0 0) 41 0 1) 42 1 y_108) 1 (by decide) hI_111 ⟨by omega, ub_fr hU (fun j => (up_c (nn rfl)).trans ((up_c (nn rfl)).trans ((up_c (nn rfl)).trans (hF_5 2 j (fun h => absurd h.1 (nn rfl)))))) (fun j => (up_c (nn rfl)).trans ((up_c (nn rfl)).trans ((up_c (nn rfl)).trans (hF_5 43 j (fun h => absurd h.1 (nn rfl)))))), ⟨by omega, by omega, by omega, by omega⟩, by omega, by omega, iw_fr2 hIw (by omega) (fun j => (up_c (nn rfl)).trans ((up_c (nn rfl)).trans ((up_c (nn rfl)).trans (hF_5 6 j (fun h => absurd h.1 (nn rfl)))))) (fun j => (up_c (nn rfl)).trans ((up_c (nn rfl)).trans ((up_c (nn rfl)).trans (hF_5 66 j (fun h => absurd h.1 (nn rfl)))))), by omega⟩
  intro hG_150
  refine bk_inl ?_
  have h_149 := ir_1_3 hI_9
  refine v_i2l c_266_7 (by omega) (v_ls c_266_8 rfl (by decide) (by decide) (by decide) (q_goto (t := 15) c_266_9 rfl (q_iconst c_266_15 (q_iret c_266_16 rfl (bk_inl (q_istore c_296_396 (Nat.le_of_ble_eq_true rfl) (q_aload_n c_296_398 rfl ?_)))))))
  refine q_aload_n c_296_399 rfl (q_iload c_296_400 rfl (q_iconst c_296_402 (v_iadd (v := (i0 : Int) + 1) c_296_403 rfl (v_scr (j := i0 + 1) c_296_404 (by omega) (by omega) hL hx1 ?_))))
  have hI_151 := iw_lx (a := 67) (j := 0) (v := y_11) hI_9 (by omega)
  have h_152 := ir_41_2 hI
  have kn_153 : Hid (c_8 41 2 = c 41 2) := hF_10 41 2 (qn_1b494c190 hP)
  have kn_154 : Hid (c_8 41 22 = n2) := (hF_10 41 22 (qn_1b494c190 hP)).trans (hm2)
  refine v_cv c_296_405 km_9_142 rfl rfl (Nat.le_of_ble_eq_true rfl) ⟨⟨rfl, rfl⟩, Nat.le_of_ble_eq_true rfl, rfl⟩ (Nat.le_of_ble_eq_true rfl) (Nat.le_of_ble_eq_true rfl) (L_87 (m := c) (a1 := x1) (yg := y_11) (t9 := c 1 3) (si := n2) (F := c 2) (H := c 43) hI_151 hI hI_9 (show (-2147483648) ≤ x1 ∧ x1 ≤ 2147483647 from ⟨by first | exact q_349ccc1a6 h_12 | omega, by first | exact q_147cf96f9 h_12 | omega⟩) ⟨hy_11.1, hy_11.2⟩ ⟨by first | exact q_58c0f0e33 h_12 | omega, by first | exact q_5dc128a52 h_12 | omega, by first | exact q_d9577e97e h_12 | omega⟩ (rfl) (((show _ = c 41 2 from ((up_c (nn rfl)).trans (hid kn_153))).trans (by omega))) ((hn2)) (((up_c (nn rfl)).trans (hid kn_154))) (fun j => rfl) (fun j => (up_c (nn rfl)).trans (hF_10 43 j (qn_451f4811a hP))) hU hG_150 (fun c_155 y_158 hI_156 hF_157 hy_158 h_159 h_160 h_161 h_162 => (bk_inl ?_)))
  have hs_163 := h_159.symm
  subst hs_163
  have h_164 := ir_41_2 hI_156
  have h_165 := ir_41_8 hI_156
  have h_166 := ir_1_5 hI_9
  have h_167 := ir_41_0 hI_156
  refine q_istore c_296_408 (Nat.le_of_ble_eq_true rfl) (q_goto (t := 1816) c_296_410 rfl (Wp_ls [(4, vi (i0 : Int)), (3, .ref 67), (2, .ref 41), (1, .ref 0), (0, .ref a_SC)] (lsub_cons rfl (lsub_cons rfl (lsub_cons rfl (lsub_cons rfl (lsub_cons rfl lsub_nil))))) ?_))
  have kn_168 : Hid (c_155 1 3 = c_8 1 3) := (hF_157 1 3 qn_ee2350d59).trans (up_c (nn rfl))
  have h_169 : c_155 1 3 = c_8 1 3 := (hid kn_168)
  have h_170 : c_155 41 2 = c_155 41 2 := rfl
  have kn_171 : Hid (c_8 P 0 = n0) := (hF_10 P 0 (qn_1fe3b6d75 hP)).trans (hn0)
  have kn_172 : Hid (c_155 P 0 = n0) := (hF_157 P 0 (qn_67aafe213 hP)).trans ((up_c (np0 hP rfl)).trans (hid kn_171))
  have h_173 : c_155 P 0 = n0 := (hid kn_172)
  have kn_174 : Hid (c_8 41 20 = n0) := (hF_10 41 20 (qn_1b494c190 hP)).trans (hm0)
  have kn_175 : Hid (c_155 41 20 = n0) := (hF_157 41 20 qn_6413bf41b).trans ((up_c (nn rfl)).trans (hid kn_174))
  have h_176 : c_155 41 20 = n0 := (hid kn_175)
  have kn_177 : Hid (c_8 P 1 = n1) := (hF_10 P 1 (qn_085b94255 hP)).trans (hn1)
  have kn_178 : Hid (c_155 P 1 = n1) := (hF_157 P 1 (qn_67aafe213 hP)).trans ((up_c (np0 hP rfl)).trans (hid kn_177))
  have h_179 : c_155 P 1 = n1 := (hid kn_178)
  have kn_180 : Hid (c_8 41 21 = n1) := (hF_10 41 21 (qn_1b494c190 hP)).trans (hm1)
  have kn_181 : Hid (c_155 41 21 = n1) := (hF_157 41 21 qn_f569a8578).trans ((up_c (nn rfl)).trans (hid kn_180))
  have h_182 : c_155 41 21 = n1 := (hid kn_181)
  have kn_183 : Hid (c_8 P 2 = n2) := (hF_10 P 2 (qn_989da5460 hP)).trans (hn2)
  have kn_184 : Hid (c_155 P 2 = n2) := (hF_157 P 2 (qn_67aafe213 hP)).trans ((up_c (np0 hP rfl)).trans (hid kn_183))
  have h_185 : c_155 P 2 = n2 := (hid kn_184)
  have kn_186 : Hid (c_155 41 22 = n2) := (hF_157 41 22 qn_702a72872).trans ((up_c (nn rfl)).trans (hid kn_154))
  have h_187 : c_155 41 22 = n2 := (hid kn_186)
  have kn_188 : Hid (c_8 P 3 = n3) := (hF_10 P 3 (qn_a34b6617d hP)).trans (hn3)
  have kn_189 : Hid (c_155 P 3 = n3) := (hF_157 P 3 (qn_67aafe213 hP)).trans ((up_c (np0 hP rfl)).trans (hid kn_188))
  have h_190 : c_155 P 3 = n3 := (hid kn_189)
  have kn_191 : Hid (c_8 41 23 = n3) := (hF_10 41 23 (qn_1b494c190 hP)).trans (hm3)
  have kn_192 : Hid (c_155 41 23 = n3) := (hF_157 41 23 qn_d599da4e2).trans ((up_c (nn rfl)).trans (hid kn_191))
  have h_193 : c_155 41 23 = n3 := (hid kn_192)
  have kn_194 : Hid (c_8 3 4 = c 3 4) := hF_10 3 4 (qn_e7f046477 hP)
  have kn_195 : Hid (c_155 3 4 = c 3 4) := (hF_157 3 4 qn_938e7f3df).trans ((up_c (nn rfl)).trans (hid kn_194))
  have h_196 : c_155 3 4 = c 3 4 := (hid kn_195)
  have h_197 := ir_41_52 hI
  have kn_198 : Hid (c_8 41 52 = c 41 52) := hF_10 41 52 (qn_1b494c190 hP)
  have kn_199 : Hid (c_155 41 52 = c 41 52) := (hF_157 41 52 qn_931493540).trans ((up_c (nn rfl)).trans (hid kn_198))
  have h_200 : c_155 41 52 = c 41 52 := (hid kn_199)
  have h_201 := ir_3_3 hI
  have kn_202 : Hid (c_8 3 3 = c 3 3) := hF_10 3 3 (qn_e7f046477 hP)
  have kn_203 : Hid (c_155 3 3 = c 3 3) := (hF_157 3 3 qn_938e7f3df).trans ((up_c (nn rfl)).trans (hid kn_202))
  have h_204 : c_155 3 3 = c 3 3 := (hid kn_203)
  have h_205 := ir_41_35 hI
  have kn_206 : Hid (c_8 41 35 = c 41 35) := hF_10 41 35 (qn_1b494c190 hP)
  have kn_207 : Hid (c_155 41 35 = c 41 35) := (hF_157 41 35 qn_e6684ab8f).trans ((up_c (nn rfl)).trans (hid kn_206))
  have h_208 : c_155 41 35 = c 41 35 := (hid kn_207)
  have h_209 : c_155 3 4 = c 3 4 := (hid kn_195)
  have kn_210 : Hid (c_155 1 5 = c_8 1 5) := (hF_157 1 5 qn_ee2350d59).trans (up_c (nn rfl))
  have h_211 : c_155 1 5 = c_8 1 5 := (hid kn_210)
  have h_212 : c_155 41 8 = c_155 41 8 := rfl
  exact K P Q c_155 0 (by decide) hI_156 ⟨by omega, ub_fr hU (fun j => (hF_157 2 j qn_b5489bdb1).trans ((up_c (nn rfl)).trans (hF_10 2 j (qn_64e884695 hP)))) (fun j => (hF_157 43 j qn_a255de46c).trans ((up_c (nn rfl)).trans (hF_10 43 j (qn_451f4811a hP)))), ⟨by omega, by omega, by omega, by omega⟩, by omega, by omega, iw_fr2 hIw (by omega) (fun j => (hF_157 6 j qn_455997b78).trans ((up_c (nn rfl)).trans (hF_10 6 j (qn_cc3ee8b1b hP)))) (fun j => (hF_157 66 j qn_b7afdffdc).trans ((up_c (nn rfl)).trans (hF_10 66 j (qn_e6749617a hP)))), by omega⟩

set_option maxRecDepth 100000 in
set_option maxHeartbeats 4000000 in
theorem o_5 {xs : Nat → Int32} {L i0 d nc ns P Q : Nat} {c : ME} {Z : AR → Prop} (hi : i0 + 8 ≤ L) (hL : L ≤ 100000) (hI : Iv 0 (-1) P Q c) (hR : Rq P c) (K : ∀ (P2 Q2 : Nat) (c2 : ME) (e : Nat), e ≤ 1 → Iv 0 (-1) P2 Q2 c2 → (Rq P2 c2) → Wp (a_scr L xs) (d + 90) 296 1816 [(4, vi (i0 : Int)), (3, .ref 67), (2, .ref 41), (1, .ref 0), (0, .ref a_SC)] [] (Wd P2 Q2 P2 P2 c2) (nc + e) (ns + 6 * e) Z) : Wp (a_scr L xs) (d + 90) 296 413 [(4, vi (i0 : Int)), (3, .ref 67), (2, .ref 41), (1, .ref 0), (0, .ref a_SC)] [] (Wd P Q P P c) nc ns Z := by
  obtain ⟨x1, hx1⟩ : ∃ z, (xs (i0 + 1)).toInt = z := ⟨_, rfl⟩
  have x1r := c_rng (xs (i0 + 1))
  rw [hx1] at x1r
  obtain ⟨x2, hx2⟩ : ∃ z, (xs (i0 + 2)).toInt = z := ⟨_, rfl⟩
  have x2r := c_rng (xs (i0 + 2))
  rw [hx2] at x2r
  obtain ⟨x3, hx3⟩ : ∃ z, (xs (i0 + 3)).toInt = z := ⟨_, rfl⟩
  have x3r := c_rng (xs (i0 + 3))
  rw [hx3] at x3r
  obtain ⟨x4, hx4⟩ : ∃ z, (xs (i0 + 4)).toInt = z := ⟨_, rfl⟩
  have x4r := c_rng (xs (i0 + 4))
  rw [hx4] at x4r
  obtain ⟨x5, hx5⟩ : ∃ z, (xs (i0 + 5)).toInt = z := ⟨_, rfl⟩
  have x5r := c_rng (xs (i0 + 5))
  rw [hx5] at x5r
  obtain ⟨x6, hx6⟩ : ∃ z, (xs (i0 + 6)).toInt = z := ⟨_, rfl⟩
  have x6r := c_rng (xs (i0 + 6))
  rw [hx6] at x6r
  obtain ⟨x7, hx7⟩ : ∃ z, (xs (i0 + 7)).toInt = z := ⟨_, rfl⟩
  have x7r := c_rng (xs (i0 + 7))
  rw [hx7] at x7r
  have hP := iv_P hI
  have hQ := iv_Q hI
  have hT := rl_t hR
  have hU := rl_u hR
  obtain ⟨n0, hn0⟩ : ∃ z, c P 0 = z := ⟨_, rfl⟩
  have hm0 : c 41 20 = n0 := (rl_nums hR).1.symm.trans hn0
  have hr0 := ir_p0_0 hI hP
  rw [hn0] at hr0
  obtain ⟨n1, hn1⟩ : ∃ z, c P 1 = z := ⟨_, rfl⟩
  have hm1 : c 41 21 = n1 := (rl_nums hR).2.1.symm.trans hn1
  have hr1 := ir_p0_1 hI hP
  rw [hn1] at hr1
  obtain ⟨n2, hn2⟩ : ∃ z, c P 2 = z := ⟨_, rfl⟩
  have hm2 : c 41 22 = n2 := (rl_nums hR).2.2.1.symm.trans hn2
  have hr2 := ir_p0_2 hI hP
  rw [hn2] at hr2
  obtain ⟨n3, hn3⟩ : ∃ z, c P 3 = z := ⟨_, rfl⟩
  have hm3 : c 41 23 = n3 := (rl_nums hR).2.2.2.symm.trans hn3
  have hr3 := ir_p0_3 hI hP
  rw [hn3] at hr3
  have hNimg := rl_img hR
  have hNwk := rl_wk hR
  have h_1 := ir_3_4 hI
  have hIw := rl_iw hR
  have hNplace := rl_place hR
  refine q_aload_n c_296_413 rfl (q_aload_n c_296_414 rfl (q_iload c_296_415 rfl (q_iconst c_296_417 (v_iadd (v := (i0 : Int) + 1) c_296_418 rfl (v_scr (j := i0 + 1) c_296_419 (by omega) (by omega) hL hx1 (q_aload_n c_296_420 rfl (q_call c_296_421 rfl rfl rfl ?_)))))))
  refine q_aload_n c_267_0 rfl (q_iconst c_267_1 (q_aload_n c_267_2 rfl (q_iload_n c_267_3 rfl ?_)))
  have h_2 := ir_1_3 hI
  refine v_cv c_267_4 km_9_24 rfl rfl (Nat.le_of_ble_eq_true rfl) ⟨⟨rfl, rfl⟩, Nat.le_of_ble_eq_true rfl, rfl⟩ (Nat.le_of_ble_eq_true rfl) (Nat.le_of_ble_eq_true rfl) (fn_of (s_88 (a1 := x1) hI (show (-2147483648) ≤ x1 ∧ x1 ≤ 2147483647 from ⟨by omega, by omega⟩) (fun c_3 hI_4 hF_5 h_6 h_7 => ?_) (fun c_8 y_11 hI_9 hF_10 hy_11 h_12 => ?_)))
  · skip
    intro hG_150
    have h_13 := ir_1_3 hI_4
    refine bk_thr (z := Int32.ofInt 1) rfl ⟨_, _, rfl⟩ rfl (bk_inl (q_istore c_296_424 (Nat.le_of_ble_eq_true rfl) (q_aload_n c_296_426 rfl (q_aload_n c_296_427 rfl (q_iload c_296_428 rfl (q_iconst c_296_430 (v_iadd (v := (i0 : Int) + 1) c_296_431 rfl ?_)))))))
    refine v_scr (j := i0 + 1) c_296_432 (by omega) (by omega) hL hx1 (v_cv c_296_433 km_9_145 rfl rfl (Nat.le_of_ble_eq_true rfl) ⟨⟨rfl, rfl⟩, Nat.le_of_ble_eq_true rfl, rfl⟩ (Nat.le_of_ble_eq_true rfl) (Nat.le_of_ble_eq_true rfl) (q_aload_n c_207_0 rfl (q_iconst c_207_1 (v_pi (z := 0) c_207_2 kf_8_3 rfl (Nat.le_of_ble_eq_true rfl) rfl rfl rfl (by decide) (q_aload_n c_207_5 rfl (q_iload_n c_207_6 rfl (v_cv c_207_7 km_8_381 rfl rfl (Nat.le_of_ble_eq_true rfl) ⟨⟨rfl, rfl⟩, Nat.le_of_ble_eq_true rfl, rfl⟩ (Nat.le_of_ble_eq_true rfl) (Nat.le_of_ble_eq_true rfl) ?_)))))))
    refine q_aload_n c_205_0 rfl (q_iload_n c_205_1 rfl ?_)
    by_cases h_14 : x1 < 0
    · refine v_if_lt_t (t := 23) c_205_2 rfl ⟨by first | (clear hT hNimg hNwk h_1 hNplace h_2 h_13; omega) | omega, h_14, by decide⟩ (q_iconst c_205_23 (q_iconst c_205_24 (q_iconst c_205_25 (v_cv c_205_26 km_8_203 rfl rfl (Nat.le_of_ble_eq_true rfl) ⟨⟨rfl, rfl⟩, Nat.le_of_ble_eq_true rfl, rfl⟩ (Nat.le_of_ble_eq_true rfl) (Nat.le_of_ble_eq_true rfl) (q_iload_n c_145_0 rfl (v_if_ne_f (t := 26) c_145_1 rfl (by decide) (q_aload_n c_145_4 rfl ?_)))))))
      refine v_gi (z := 0) (v := 0) c_145_5 kf_8_3 rfl (Nat.le_of_ble_eq_true rfl) rfl rfl (up_e rfl) (v_if_ne_f (t := 26) c_145_8 rfl (by decide) (q_aload_n c_145_11 rfl (q_iload_n c_145_12 rfl (v_pi (z := 0) c_145_13 kf_8_3 rfl (Nat.le_of_ble_eq_true rfl) rfl rfl rfl (by decide) (q_aload_n c_145_16 rfl (v_gr (t := 42) c_145_17 kf_8_7 rfl (Nat.le_of_ble_eq_true rfl) rfl (q_iload_n c_145_20 rfl ?_)))))))
      refine q_dup2 c_145_21 ⟨rfl, rfl⟩ ?_
      have h_15 := ir_42 hI 1
      have kn_16 : Hid (c_3 42 1 = c 42 1) := hF_5 42 1 (fun h => absurd h.1 (nn rfl))
      refine v_ia (v := c 42 1) c_145_22 rfl (by decide) (by decide) (by decide) ((up_c (nn rfl)).trans ((up_c (nn rfl)).trans (hid kn_16))) (q_iconst c_145_23 (v_iadd (v := c 42 1 + 1) c_145_24 rfl (v_nrm (fun y_17 hy_17 => (v_is c_145_25 rfl (by decide) (by decide) (by decide) (q_aload_n c_145_26 rfl (v_gi (z := 0) (v := 1) c_145_27 kf_8_3 rfl (Nat.le_of_ble_eq_true rfl) rfl rfl ((up_c (nn rfl)).trans (up_e rfl)) (v_if_ne_t (t := 37) c_145_30 rfl (by decide) ?_))))))))
      refine q_iconst c_145_37 (v_zret c_145_38 rfl (by decide) (bk_inl (v_zret c_205_29 rfl (by decide) (bk_inl (v_if_ne_f (t := 15) c_207_10 rfl (by decide) (q_iconst c_207_13 (q_iret c_207_14 rfl ?_)))))))
      refine bk_inl (q_istore c_296_436 (Nat.le_of_ble_eq_true rfl) (q_goto (t := 1816) c_296_438 rfl ?_))
      have hI_18 := iw_41_0 (v := 0) hI_4 ⟨by decide, by decide⟩
      have hI_19 := iw_41_0 (v := 1) hI_18 ⟨by decide, by decide⟩
      have hI_20 := iw_42 (j := 1) (v := y_17) hI_19 ⟨hy_17.1, hy_17.2⟩
      refine Wp_ls [(4, vi (i0 : Int)), (3, .ref 67), (2, .ref 41), (1, .ref 0), (0, .ref a_SC)] (lsub_cons rfl (lsub_cons rfl (lsub_cons rfl (lsub_cons rfl (lsub_cons rfl lsub_nil))))) ?_
      have kn_21 : Hid (c_3 1 3 = c 1 3) := hF_5 1 3 (fun h => absurd h.1 (nn rfl))
      have h_22 : (up (up (up c_3 41 0 0) 41 0 1) 42 1 y_17) 1 3 = c 1 3 := ((up_c (nn rfl)).trans ((up_c (nn rfl)).trans ((up_c (nn rfl)).trans (hid kn_21))))
      have h_23 := ir_41_2 hI
      have kn_24 : Hid (c_3 41 2 = c 41 2) := hF_5 41 2 (fun h => absurd h.1 (nn rfl))
      have h_25 : (up (up (up c_3 41 0 0) 41 0 1) 42 1 y_17) 41 2 = c 41 2 := ((up_c (nn rfl)).trans ((up_n (by decide)).trans ((up_n (by decide)).trans (hid kn_24))))
      have kn_26 : Hid (c_3 P 0 = n0) := (hF_5 P 0 (fun h => absurd h.1 (np0 hP rfl))).trans (hn0)
      have h_27 : (up (up (up c_3 41 0 0) 41 0 1) 42 1 y_17) P 0 = n0 := ((up_c (np0 hP rfl)).trans ((up_c (np0 hP rfl)).trans ((up_c (np0 hP rfl)).trans (hid kn_26))))
      have kn_28 : Hid (c_3 41 20 = n0) := (hF_5 41 20 (fun h => absurd h.1 (nn rfl))).trans (hm0)
      have h_29 : (up (up (up c_3 41 0 0) 41 0 1) 42 1 y_17) 41 20 = n0 := ((up_c (nn rfl)).trans ((up_n (by decide)).trans ((up_n (by decide)).trans (hid kn_28))))
      have kn_30 : Hid (c_3 P 1 = n1) := (hF_5 P 1 (fun h => absurd h.1 (np0 hP rfl))).trans (hn1)
      have h_31 : (up (up (up c_3 41 0 0) 41 0 1) 42 1 y_17) P 1 = n1 := ((up_c (np0 hP rfl)).trans ((up_c (np0 hP rfl)).trans ((up_c (np0 hP rfl)).trans (hid kn_30))))
      have kn_32 : Hid (c_3 41 21 = n1) := (hF_5 41 21 (fun h => absurd h.1 (nn rfl))).trans (hm1)
      have h_33 : (up (up (up c_3 41 0 0) 41 0 1) 42 1 y_17) 41 21 = n1 := ((up_c (nn rfl)).trans ((up_n (by decide)).trans ((up_n (by decide)).trans (hid kn_32))))
      have kn_34 : Hid (c_3 P 2 = n2) := (hF_5 P 2 (fun h => absurd h.1 (np0 hP rfl))).trans (hn2)
      have h_35 : (up (up (up c_3 41 0 0) 41 0 1) 42 1 y_17) P 2 = n2 := ((up_c (np0 hP rfl)).trans ((up_c (np0 hP rfl)).trans ((up_c (np0 hP rfl)).trans (hid kn_34))))
      have kn_36 : Hid (c_3 41 22 = n2) := (hF_5 41 22 (fun h => absurd h.1 (nn rfl))).trans (hm2)
      have h_37 : (up (up (up c_3 41 0 0) 41 0 1) 42 1 y_17) 41 22 = n2 := ((up_c (nn rfl)).trans ((up_n (by decide)).trans ((up_n (by decide)).trans (hid kn_36))))
      have kn_38 : Hid (c_3 P 3 = n3) := (hF_5 P 3 (fun h => absurd h.1 (np0 hP rfl))).trans (hn3)
      have h_39 : (up (up (up c_3 41 0 0) 41 0 1) 42 1 y_17) P 3 = n3 := ((up_c (np0 hP rfl)).trans ((up_c (np0 hP rfl)).trans ((up_c (np0 hP rfl)).trans (hid kn_38))))
      have kn_40 : Hid (c_3 41 23 = n3) := (hF_5 41 23 (fun h => absurd h.1 (nn rfl))).trans (hm3)
      have h_41 : (up (up (up c_3 41 0 0) 41 0 1) 42 1 y_17) 41 23 = n3 := ((up_c (nn rfl)).trans ((up_n (by decide)).trans ((up_n (by decide)).trans (hid kn_40))))
      have kn_42 : Hid (c_3 3 4 = c 3 4) := hF_5 3 4 (fun h => absurd h.1 (nn rfl))
      have h_43 : (up (up (up c_3 41 0 0) 41 0 1) 42 1 y_17) 3 4 = c 3 4 := ((up_c (nn rfl)).trans ((up_c (nn rfl)).trans ((up_c (nn rfl)).trans (hid kn_42))))
      have h_44 := ir_41_52 hI
      have kn_45 : Hid (c_3 41 52 = c 41 52) := hF_5 41 52 (fun h => absurd h.1 (nn rfl))
      have h_46 : (up (up (up c_3 41 0 0) 41 0 1) 42 1 y_17) 41 52 = c 41 52 := ((up_c (nn rfl)).trans ((up_n (by decide)).trans ((up_n (by decide)).trans (hid kn_45))))
      have h_47 := ir_3_3 hI
      have kn_48 : Hid (c_3 3 3 = c 3 3) := hF_5 3 3 (fun h => absurd h.1 (nn rfl))
      have h_49 : (up (up (up c_3 41 0 0) 41 0 1) 42 1 y_17) 3 3 = c 3 3 := ((up_c (nn rfl)).trans ((up_c (nn rfl)).trans ((up_c (nn rfl)).trans (hid kn_48))))
      have h_50 := ir_41_35 hI
      have kn_51 : Hid (c_3 41 35 = c 41 35) := hF_5 41 35 (fun h => absurd h.1 (nn rfl))
      have h_52 : (up (up (up c_3 41 0 0) 41 0 1) 42 1 y_17) 41 35 = c 41 35 := ((up_c (nn rfl)).trans ((up_n (by decide)).trans ((up_n (by decide)).trans (hid kn_51))))
      have h_53 : (up (up (up c_3 41 0 0) 41 0 1) 42 1 y_17) 3 4 = c 3 4 := ((up_c (nn rfl)).trans ((up_c (nn rfl)).trans ((up_c (nn rfl)).trans (hid kn_42))))
      have h_54 := ir_1_5 hI
      have kn_55 : Hid (c_3 1 5 = c 1 5) := hF_5 1 5 (fun h => absurd h.1 (nn rfl))
      have h_56 : (up (up (up c_3 41 0 0) 41 0 1) 42 1 y_17) 1 5 = c 1 5 := ((up_c (nn rfl)).trans ((up_c (nn rfl)).trans ((up_c (nn rfl)).trans (hid kn_55))))
      have h_57 := ir_41_8 hI
      have kn_58 : Hid (c_3 41 8 = c 41 8) := hF_5 41 8 (fun h => absurd h.1 (nn rfl))
      have h_59 : (up (up (up c_3 41 0 0) 41 0 1) 42 1 y_17) 41 8 = c 41 8 := ((up_c (nn rfl)).trans ((up_n (by decide)).trans ((up_n (by decide)).trans (hid kn_58))))
      exact K P Q (up (up (up c_3 41 0 0) 41 0 1) 42 1 y_17) 1 (by decide) hI_20 ⟨by omega, ub_fr hU (fun j => (up_c (nn rfl)).trans ((up_c (nn rfl)).trans ((up_c (nn rfl)).trans (hF_5 2 j (fun h => absurd h.1 (nn rfl)))))) (fun j => (up_c (nn rfl)).trans ((up_c (nn rfl)).trans ((up_c (nn rfl)).trans (hF_5 43 j (fun h => absurd h.1 (nn rfl)))))), ⟨by omega, by omega, by omega, by omega⟩, by omega, by omega, iw_fr2 hIw (by omega) (fun j => (up_c (nn rfl)).trans ((up_c (nn rfl)).trans ((up_c (nn rfl)).trans (hF_5 6 j (fun h => absurd h.1 (nn rfl)))))) (fun j => (up_c (nn rfl)).trans ((up_c (nn rfl)).trans ((up_c (nn rfl)).trans (hF_5 66 j (fun h => absurd h.1 (nn rfl)))))), by omega⟩
    · refine v_if_lt_f (t := 23) c_205_2 rfl ⟨by decide, (Int.not_lt.mp h_14), by first | (clear hT hNimg hNwk h_1 hNplace h_2 h_13; omega) | omega⟩ (q_iload_n c_205_5 rfl (q_aload_n c_205_6 rfl ?_))
      have h_60 := ir_41_2 hI
      have kn_61 : Hid (c_3 41 2 = c 41 2) := hF_5 41 2 (fun h => absurd h.1 (nn rfl))
      refine v_gi (z := 2) (v := c 41 2) c_205_7 kf_8_99 rfl (Nat.le_of_ble_eq_true rfl) rfl rfl ((up_n (by decide)).trans (hid kn_61)) ?_
      by_cases h_62 : x1 > c 41 2
      · refine v_ic_gt_t (t := 23) c_205_10 rfl ⟨by first | exact q_3b2b08511 h_60 | omega, h_62, by first | (clear hT hNimg hNwk h_1 hNplace h_2 h_13 h_14 h_60; omega) | omega⟩ (q_iconst c_205_23 (q_iconst c_205_24 (q_iconst c_205_25 (v_cv c_205_26 km_8_203 rfl rfl (Nat.le_of_ble_eq_true rfl) ⟨⟨rfl, rfl⟩, Nat.le_of_ble_eq_true rfl, rfl⟩ (Nat.le_of_ble_eq_true rfl) (Nat.le_of_ble_eq_true rfl) (q_iload_n c_145_0 rfl (v_if_ne_f (t := 26) c_145_1 rfl (by decide) (q_aload_n c_145_4 rfl ?_)))))))
        refine v_gi (z := 0) (v := 0) c_145_5 kf_8_3 rfl (Nat.le_of_ble_eq_true rfl) rfl rfl (up_e rfl) (v_if_ne_f (t := 26) c_145_8 rfl (by decide) (q_aload_n c_145_11 rfl (q_iload_n c_145_12 rfl (v_pi (z := 0) c_145_13 kf_8_3 rfl (Nat.le_of_ble_eq_true rfl) rfl rfl rfl (by decide) (q_aload_n c_145_16 rfl (v_gr (t := 42) c_145_17 kf_8_7 rfl (Nat.le_of_ble_eq_true rfl) rfl (q_iload_n c_145_20 rfl ?_)))))))
        refine q_dup2 c_145_21 ⟨rfl, rfl⟩ ?_
        have h_63 := ir_42 hI 1
        have kn_64 : Hid (c_3 42 1 = c 42 1) := hF_5 42 1 (fun h => absurd h.1 (nn rfl))
        refine v_ia (v := c 42 1) c_145_22 rfl (by decide) (by decide) (by decide) ((up_c (nn rfl)).trans ((up_c (nn rfl)).trans (hid kn_64))) (q_iconst c_145_23 (v_iadd (v := c 42 1 + 1) c_145_24 rfl (v_nrm (fun y_65 hy_65 => (v_is c_145_25 rfl (by decide) (by decide) (by decide) (q_aload_n c_145_26 rfl (v_gi (z := 0) (v := 1) c_145_27 kf_8_3 rfl (Nat.le_of_ble_eq_true rfl) rfl rfl ((up_c (nn rfl)).trans (up_e rfl)) (v_if_ne_t (t := 37) c_145_30 rfl (by decide) ?_))))))))
        refine q_iconst c_145_37 (v_zret c_145_38 rfl (by decide) (bk_inl (v_zret c_205_29 rfl (by decide) (bk_inl (v_if_ne_f (t := 15) c_207_10 rfl (by decide) (q_iconst c_207_13 (q_iret c_207_14 rfl ?_)))))))
        refine bk_inl (q_istore c_296_436 (Nat.le_of_ble_eq_true rfl) (q_goto (t := 1816) c_296_438 rfl ?_))
        have hI_66 := iw_41_0 (v := 0) hI_4 ⟨by decide, by decide⟩
        have hI_67 := iw_41_0 (v := 1) hI_66 ⟨by decide, by decide⟩
        have hI_68 := iw_42 (j := 1) (v := y_65) hI_67 ⟨hy_65.1, hy_65.2⟩
        refine Wp_ls [(4, vi (i0 : Int)), (3, .ref 67), (2, .ref 41), (1, .ref 0), (0, .ref a_SC)] (lsub_cons rfl (lsub_cons rfl (lsub_cons rfl (lsub_cons rfl (lsub_cons rfl lsub_nil))))) ?_
        have kn_69 : Hid (c_3 1 3 = c 1 3) := hF_5 1 3 (fun h => absurd h.1 (nn rfl))
        have h_70 : (up (up (up c_3 41 0 0) 41 0 1) 42 1 y_65) 1 3 = c 1 3 := ((up_c (nn rfl)).trans ((up_c (nn rfl)).trans ((up_c (nn rfl)).trans (hid kn_69))))
        have h_71 : (up (up (up c_3 41 0 0) 41 0 1) 42 1 y_65) 41 2 = c 41 2 := ((up_c (nn rfl)).trans ((up_n (by decide)).trans ((up_n (by decide)).trans (hid kn_61))))
        have kn_72 : Hid (c_3 P 0 = n0) := (hF_5 P 0 (fun h => absurd h.1 (np0 hP rfl))).trans (hn0)
        have h_73 : (up (up (up c_3 41 0 0) 41 0 1) 42 1 y_65) P 0 = n0 := ((up_c (np0 hP rfl)).trans ((up_c (np0 hP rfl)).trans ((up_c (np0 hP rfl)).trans (hid kn_72))))
        have kn_74 : Hid (c_3 41 20 = n0) := (hF_5 41 20 (fun h => absurd h.1 (nn rfl))).trans (hm0)
        have h_75 : (up (up (up c_3 41 0 0) 41 0 1) 42 1 y_65) 41 20 = n0 := ((up_c (nn rfl)).trans ((up_n (by decide)).trans ((up_n (by decide)).trans (hid kn_74))))
        have kn_76 : Hid (c_3 P 1 = n1) := (hF_5 P 1 (fun h => absurd h.1 (np0 hP rfl))).trans (hn1)
        have h_77 : (up (up (up c_3 41 0 0) 41 0 1) 42 1 y_65) P 1 = n1 := ((up_c (np0 hP rfl)).trans ((up_c (np0 hP rfl)).trans ((up_c (np0 hP rfl)).trans (hid kn_76))))
        have kn_78 : Hid (c_3 41 21 = n1) := (hF_5 41 21 (fun h => absurd h.1 (nn rfl))).trans (hm1)
        have h_79 : (up (up (up c_3 41 0 0) 41 0 1) 42 1 y_65) 41 21 = n1 := ((up_c (nn rfl)).trans ((up_n (by decide)).trans ((up_n (by decide)).trans (hid kn_78))))
        have kn_80 : Hid (c_3 P 2 = n2) := (hF_5 P 2 (fun h => absurd h.1 (np0 hP rfl))).trans (hn2)
        have h_81 : (up (up (up c_3 41 0 0) 41 0 1) 42 1 y_65) P 2 = n2 := ((up_c (np0 hP rfl)).trans ((up_c (np0 hP rfl)).trans ((up_c (np0 hP rfl)).trans (hid kn_80))))
        have kn_82 : Hid (c_3 41 22 = n2) := (hF_5 41 22 (fun h => absurd h.1 (nn rfl))).trans (hm2)
        have h_83 : (up (up (up c_3 41 0 0) 41 0 1) 42 1 y_65) 41 22 = n2 := ((up_c (nn rfl)).trans ((up_n (by decide)).trans ((up_n (by decide)).trans (hid kn_82))))
        have kn_84 : Hid (c_3 P 3 = n3) := (hF_5 P 3 (fun h => absurd h.1 (np0 hP rfl))).trans (hn3)
        have h_85 : (up (up (up c_3 41 0 0) 41 0 1) 42 1 y_65) P 3 = n3 := ((up_c (np0 hP rfl)).trans ((up_c (np0 hP rfl)).trans ((up_c (np0 hP rfl)).trans (hid kn_84))))
        have kn_86 : Hid (c_3 41 23 = n3) := (hF_5 41 23 (fun h => absurd h.1 (nn rfl))).trans (hm3)
        have h_87 : (up (up (up c_3 41 0 0) 41 0 1) 42 1 y_65) 41 23 = n3 := ((up_c (nn rfl)).trans ((up_n (by decide)).trans ((up_n (by decide)).trans (hid kn_86))))
        have kn_88 : Hid (c_3 3 4 = c 3 4) := hF_5 3 4 (fun h => absurd h.1 (nn rfl))
        have h_89 : (up (up (up c_3 41 0 0) 41 0 1) 42 1 y_65) 3 4 = c 3 4 := ((up_c (nn rfl)).trans ((up_c (nn rfl)).trans ((up_c (nn rfl)).trans (hid kn_88))))
        have h_90 := ir_41_52 hI
        have kn_91 : Hid (c_3 41 52 = c 41 52) := hF_5 41 52 (fun h => absurd h.1 (nn rfl))
        have h_92 : (up (up (up c_3 41 0 0) 41 0 1) 42 1 y_65) 41 52 = c 41 52 := ((up_c (nn rfl)).trans ((up_n (by decide)).trans ((up_n (by decide)).trans (hid kn_91))))
        have h_93 := ir_3_3 hI
        have kn_94 : Hid (c_3 3 3 = c 3 3) := hF_5 3 3 (fun h => absurd h.1 (nn rfl))
        have h_95 : (up (up (up c_3 41 0 0) 41 0 1) 42 1 y_65) 3 3 = c 3 3 := ((up_c (nn rfl)).trans ((up_c (nn rfl)).trans ((up_c (nn rfl)).trans (hid kn_94))))
        have h_96 := ir_41_35 hI
        have kn_97 : Hid (c_3 41 35 = c 41 35) := hF_5 41 35 (fun h => absurd h.1 (nn rfl))
        have h_98 : (up (up (up c_3 41 0 0) 41 0 1) 42 1 y_65) 41 35 = c 41 35 := ((up_c (nn rfl)).trans ((up_n (by decide)).trans ((up_n (by decide)).trans (hid kn_97))))
        have h_99 : (up (up (up c_3 41 0 0) 41 0 1) 42 1 y_65) 3 4 = c 3 4 := ((up_c (nn rfl)).trans ((up_c (nn rfl)).trans ((up_c (nn rfl)).trans (hid kn_88))))
        have h_100 := ir_1_5 hI
        have kn_101 : Hid (c_3 1 5 = c 1 5) := hF_5 1 5 (fun h => absurd h.1 (nn rfl))
        have h_102 : (up (up (up c_3 41 0 0) 41 0 1) 42 1 y_65) 1 5 = c 1 5 := ((up_c (nn rfl)).trans ((up_c (nn rfl)).trans ((up_c (nn rfl)).trans (hid kn_101))))
        have h_103 := ir_41_8 hI
        have kn_104 : Hid (c_3 41 8 = c 41 8) := hF_5 41 8 (fun h => absurd h.1 (nn rfl))
        have h_105 : (up (up (up c_3 41 0 0) 41 0 1) 42 1 y_65) 41 8 = c 41 8 := ((up_c (nn rfl)).trans ((up_n (by decide)).trans ((up_n (by decide)).trans (hid kn_104))))
        exact K P Q (up (up (up c_3 41 0 0) 41 0 1) 42 1 y_65) 1 (by decide) hI_68 ⟨by omega, ub_fr hU (fun j => (up_c (nn rfl)).trans ((up_c (nn rfl)).trans ((up_c (nn rfl)).trans (hF_5 2 j (fun h => absurd h.1 (nn rfl)))))) (fun j => (up_c (nn rfl)).trans ((up_c (nn rfl)).trans ((up_c (nn rfl)).trans (hF_5 43 j (fun h => absurd h.1 (nn rfl)))))), ⟨by omega, by omega, by omega, by omega⟩, by omega, by omega, iw_fr2 hIw (by omega) (fun j => (up_c (nn rfl)).trans ((up_c (nn rfl)).trans ((up_c (nn rfl)).trans (hF_5 6 j (fun h => absurd h.1 (nn rfl)))))) (fun j => (up_c (nn rfl)).trans ((up_c (nn rfl)).trans ((up_c (nn rfl)).trans (hF_5 66 j (fun h => absurd h.1 (nn rfl)))))), by omega⟩
      · refine v_ic_gt_f (t := 23) c_205_10 rfl ⟨by first | exact q_c05c968ed h_14 | omega, (Int.not_lt.mp h_62), by first | exact q_3885e607f h_60 | omega⟩ (q_iload_n c_205_13 rfl (v_bip c_205_14 (by decide) (v_ic_gt_t (t := 23) c_205_16 rfl ⟨by decide, by omega, by first | exact q_c2c15a399 h_60 h_62 | omega⟩ (q_iconst c_205_23 (q_iconst c_205_24 (q_iconst c_205_25 (v_cv c_205_26 km_8_203 rfl rfl (Nat.le_of_ble_eq_true rfl) ⟨⟨rfl, rfl⟩, Nat.le_of_ble_eq_true rfl, rfl⟩ (Nat.le_of_ble_eq_true rfl) (Nat.le_of_ble_eq_true rfl) ?_)))))))
        refine q_iload_n c_145_0 rfl (v_if_ne_f (t := 26) c_145_1 rfl (by decide) (q_aload_n c_145_4 rfl (v_gi (z := 0) (v := 0) c_145_5 kf_8_3 rfl (Nat.le_of_ble_eq_true rfl) rfl rfl (up_e rfl) (v_if_ne_f (t := 26) c_145_8 rfl (by decide) (q_aload_n c_145_11 rfl (q_iload_n c_145_12 rfl (v_pi (z := 0) c_145_13 kf_8_3 rfl (Nat.le_of_ble_eq_true rfl) rfl rfl rfl (by decide) ?_)))))))
        refine q_aload_n c_145_16 rfl (v_gr (t := 42) c_145_17 kf_8_7 rfl (Nat.le_of_ble_eq_true rfl) rfl (q_iload_n c_145_20 rfl (q_dup2 c_145_21 ⟨rfl, rfl⟩ ?_)))
        have h_106 := ir_42 hI 1
        have kn_107 : Hid (c_3 42 1 = c 42 1) := hF_5 42 1 (fun h => absurd h.1 (nn rfl))
        refine v_ia (v := c 42 1) c_145_22 rfl (by decide) (by decide) (by decide) ((up_c (nn rfl)).trans ((up_c (nn rfl)).trans (hid kn_107))) (q_iconst c_145_23 (v_iadd (v := c 42 1 + 1) c_145_24 rfl (v_nrm (fun y_108 hy_108 => (v_is c_145_25 rfl (by decide) (by decide) (by decide) (q_aload_n c_145_26 rfl (v_gi (z := 0) (v := 1) c_145_27 kf_8_3 rfl (Nat.le_of_ble_eq_true rfl) rfl rfl ((up_c (nn rfl)).trans (up_e rfl)) (v_if_ne_t (t := 37) c_145_30 rfl (by decide) ?_))))))))
        refine q_iconst c_145_37 (v_zret c_145_38 rfl (by decide) (bk_inl (v_zret c_205_29 rfl (by decide) (bk_inl (v_if_ne_f (t := 15) c_207_10 rfl (by decide) (q_iconst c_207_13 (q_iret c_207_14 rfl ?_)))))))
        refine bk_inl (q_istore c_296_436 (Nat.le_of_ble_eq_true rfl) (q_goto (t := 1816) c_296_438 rfl ?_))
        have hI_109 := iw_41_0 (v := 0) hI_4 ⟨by decide, by decide⟩
        have hI_110 := iw_41_0 (v := 1) hI_109 ⟨by decide, by decide⟩
        have hI_111 := iw_42 (j := 1) (v := y_108) hI_110 ⟨hy_108.1, hy_108.2⟩
        refine Wp_ls [(4, vi (i0 : Int)), (3, .ref 67), (2, .ref 41), (1, .ref 0), (0, .ref a_SC)] (lsub_cons rfl (lsub_cons rfl (lsub_cons rfl (lsub_cons rfl (lsub_cons rfl lsub_nil))))) ?_
        have kn_112 : Hid (c_3 1 3 = c 1 3) := hF_5 1 3 (fun h => absurd h.1 (nn rfl))
        have h_113 : (up (up (up c_3 41 0 0) 41 0 1) 42 1 y_108) 1 3 = c 1 3 := ((up_c (nn rfl)).trans ((up_c (nn rfl)).trans ((up_c (nn rfl)).trans (hid kn_112))))
        have h_114 : (up (up (up c_3 41 0 0) 41 0 1) 42 1 y_108) 41 2 = c 41 2 := ((up_c (nn rfl)).trans ((up_n (by decide)).trans ((up_n (by decide)).trans (hid kn_61))))
        have kn_115 : Hid (c_3 P 0 = n0) := (hF_5 P 0 (fun h => absurd h.1 (np0 hP rfl))).trans (hn0)
        have h_116 : (up (up (up c_3 41 0 0) 41 0 1) 42 1 y_108) P 0 = n0 := ((up_c (np0 hP rfl)).trans ((up_c (np0 hP rfl)).trans ((up_c (np0 hP rfl)).trans (hid kn_115))))
        have kn_117 : Hid (c_3 41 20 = n0) := (hF_5 41 20 (fun h => absurd h.1 (nn rfl))).trans (hm0)
        have h_118 : (up (up (up c_3 41 0 0) 41 0 1) 42 1 y_108) 41 20 = n0 := ((up_c (nn rfl)).trans ((up_n (by decide)).trans ((up_n (by decide)).trans (hid kn_117))))
        have kn_119 : Hid (c_3 P 1 = n1) := (hF_5 P 1 (fun h => absurd h.1 (np0 hP rfl))).trans (hn1)
        have h_120 : (up (up (up c_3 41 0 0) 41 0 1) 42 1 y_108) P 1 = n1 := ((up_c (np0 hP rfl)).trans ((up_c (np0 hP rfl)).trans ((up_c (np0 hP rfl)).trans (hid kn_119))))
        have kn_121 : Hid (c_3 41 21 = n1) := (hF_5 41 21 (fun h => absurd h.1 (nn rfl))).trans (hm1)
        have h_122 : (up (up (up c_3 41 0 0) 41 0 1) 42 1 y_108) 41 21 = n1 := ((up_c (nn rfl)).trans ((up_n (by decide)).trans ((up_n (by decide)).trans (hid kn_121))))
        have kn_123 : Hid (c_3 P 2 = n2) := (hF_5 P 2 (fun h => absurd h.1 (np0 hP rfl))).trans (hn2)
        have h_124 : (up (up (up c_3 41 0 0) 41 0 1) 42 1 y_108) P 2 = n2 := ((up_c (np0 hP rfl)).trans ((up_c (np0 hP rfl)).trans ((up_c (np0 hP rfl)).trans (hid kn_123))))
        have kn_125 : Hid (c_3 41 22 = n2) := (hF_5 41 22 (fun h => absurd h.1 (nn rfl))).trans (hm2)
        have h_126 : (up (up (up c_3 41 0 0) 41 0 1) 42 1 y_108) 41 22 = n2 := ((up_c (nn rfl)).trans ((up_n (by decide)).trans ((up_n (by decide)).trans (hid kn_125))))
        have kn_127 : Hid (c_3 P 3 = n3) := (hF_5 P 3 (fun h => absurd h.1 (np0 hP rfl))).trans (hn3)
        have h_128 : (up (up (up c_3 41 0 0) 41 0 1) 42 1 y_108) P 3 = n3 := ((up_c (np0 hP rfl)).trans ((up_c (np0 hP rfl)).trans ((up_c (np0 hP rfl)).trans (hid kn_127))))
        have kn_129 : Hid (c_3 41 23 = n3) := (hF_5 41 23 (fun h => absurd h.1 (nn rfl))).trans (hm3)
        have h_130 : (up (up (up c_3 41 0 0) 41 0 1) 42 1 y_108) 41 23 = n3 := ((up_c (nn rfl)).trans ((up_n (by decide)).trans ((up_n (by decide)).trans (hid kn_129))))
        have kn_131 : Hid (c_3 3 4 = c 3 4) := hF_5 3 4 (fun h => absurd h.1 (nn rfl))
        have h_132 : (up (up (up c_3 41 0 0) 41 0 1) 42 1 y_108) 3 4 = c 3 4 := ((up_c (nn rfl)).trans ((up_c (nn rfl)).trans ((up_c (nn rfl)).trans (hid kn_131))))
        have h_133 := ir_41_52 hI
        have kn_134 : Hid (c_3 41 52 = c 41 52) := hF_5 41 52 (fun h => absurd h.1 (nn rfl))
        have h_135 : (up (up (up c_3 41 0 0) 41 0 1) 42 1 y_108) 41 52 = c 41 52 := ((up_c (nn rfl)).trans ((up_n (by decide)).trans ((up_n (by decide)).trans (hid kn_134))))
        have h_136 := ir_3_3 hI
        have kn_137 : Hid (c_3 3 3 = c 3 3) := hF_5 3 3 (fun h => absurd h.1 (nn rfl))
        have h_138 : (up (up (up c_3 41 0 0) 41 0 1) 42 1 y_108) 3 3 = c 3 3 := ((up_c (nn rfl)).trans ((up_c (nn rfl)).trans ((up_c (nn rfl)).trans (hid kn_137))))
        have h_139 := ir_41_35 hI
        have kn_140 : Hid (c_3 41 35 = c 41 35) := hF_5 41 35 (fun h => absurd h.1 (nn rfl))
        have h_141 : (up (up (up c_3 41 0 0) 41 0 1) 42 1 y_108) 41 35 = c 41 35 := ((up_c (nn rfl)).trans ((up_n (by decide)).trans ((up_n (by decide)).trans (hid kn_140))))
        have h_142 : (up (up (up c_3 41 0 0) 41 0 1) 42 1 y_108) 3 4 = c 3 4 := ((up_c (nn rfl)).trans ((up_c (nn rfl)).trans ((up_c (nn rfl)).trans (hid kn_131))))
        have h_143 := ir_1_5 hI
        have kn_144 : Hid (c_3 1 5 = c 1 5) := hF_5 1 5 (fun h => absurd h.1 (nn rfl))
        have h_145 : (up (up (up c_3 41 0 0) 41 0 1) 42 1 y_108) 1 5 = c 1 5 := ((up_c (nn rfl)).trans ((up_c (nn rfl)).trans ((up_c (nn rfl)).trans (hid kn_144))))
        have h_146 := ir_41_8 hI
        have kn_147 : Hid (c_3 41 8 = c 41 8) := hF_5 41 8 (fun h => absurd h.1 (nn rfl))
        have h_148 : (up (up (up c_3 41 0 0) 41 0 1) 42 1 y_108) 41 8 = c 41 8 := ((up_c (nn rfl)).trans ((up_n (by decide)).trans ((up_n (by decide)).trans (hid kn_147))))
        exact K P Q (up (up (up c_3 41 0 0) 41 0 1) 42 1 y_108) 1 (by decide) hI_111 ⟨by omega, ub_fr hU (fun j => (up_c (nn rfl)).trans ((up_c (nn rfl)).trans ((up_c (nn rfl)).trans (hF_5 2 j (fun h => absurd h.1 (nn rfl)))))) (fun j => (up_c (nn rfl)).trans ((up_c (nn rfl)).trans ((up_c (nn rfl)).trans (hF_5 43 j (fun h => absurd h.1 (nn rfl)))))), ⟨by omega, by omega, by omega, by omega⟩, by omega, by omega, iw_fr2 hIw (by omega) (fun j => (up_c (nn rfl)).trans ((up_c (nn rfl)).trans ((up_c (nn rfl)).trans (hF_5 6 j (fun h => absurd h.1 (nn rfl)))))) (fun j => (up_c (nn rfl)).trans ((up_c (nn rfl)).trans ((up_c (nn rfl)).trans (hF_5 66 j (fun h => absurd h.1 (nn rfl)))))), by omega⟩
  intro hG_150
  refine bk_inl ?_
  have h_149 := ir_1_3 hI_9
  refine v_i2l c_267_7 (by omega) (v_ls c_267_8 rfl (by decide) (by decide) (by decide) (q_goto (t := 15) c_267_9 rfl (q_iconst c_267_15 (q_iret c_267_16 rfl (bk_inl (q_istore c_296_424 (Nat.le_of_ble_eq_true rfl) (q_aload_n c_296_426 rfl ?_)))))))
  refine q_aload_n c_296_427 rfl (q_iload c_296_428 rfl (q_iconst c_296_430 (v_iadd (v := (i0 : Int) + 1) c_296_431 rfl (v_scr (j := i0 + 1) c_296_432 (by omega) (by omega) hL hx1 ?_))))
  have hI_151 := iw_lx (a := 67) (j := 0) (v := y_11) hI_9 (by omega)
  have h_152 := ir_41_2 hI
  have kn_153 : Hid (c_8 41 2 = c 41 2) := hF_10 41 2 (qn_f46dc6fb3 hP)
  refine v_cv c_296_433 km_9_145 rfl rfl (Nat.le_of_ble_eq_true rfl) ⟨⟨rfl, rfl⟩, Nat.le_of_ble_eq_true rfl, rfl⟩ (Nat.le_of_ble_eq_true rfl) (Nat.le_of_ble_eq_true rfl) (L_88 (m := c) (a1 := x1) (yg := y_11) (t9 := c 1 3) (F := c 2) (H := c 43) hI_151 hI hI_9 (show (-2147483648) ≤ x1 ∧ x1 ≤ 2147483647 from ⟨by first | exact q_349ccc1a6 h_12 | omega, by first | exact q_147cf96f9 h_12 | omega⟩) ⟨hy_11.1, hy_11.2⟩ ⟨by first | exact q_58c0f0e33 h_12 | omega, by first | exact q_5dc128a52 h_12 | omega, by first | exact q_d9577e97e h_12 | omega⟩ (rfl) (((show _ = c 41 2 from ((up_c (nn rfl)).trans (hid kn_153))).trans (by omega))) (fun j => rfl) (fun j => (up_c (nn rfl)).trans (hF_10 43 j (qn_bcdf94085 hP))) hU hG_150 (fun c_154 y_157 hI_155 hF_156 hy_157 h_158 h_159 h_160 h_161 => (bk_inl ?_)))
  have hs_162 := h_158.symm
  subst hs_162
  have h_163 := ir_41_2 hI_155
  have h_164 := ir_41_8 hI_155
  have h_165 := ir_1_5 hI_9
  have h_166 := ir_41_0 hI_155
  refine q_istore c_296_436 (Nat.le_of_ble_eq_true rfl) (q_goto (t := 1816) c_296_438 rfl (Wp_ls [(4, vi (i0 : Int)), (3, .ref 67), (2, .ref 41), (1, .ref 0), (0, .ref a_SC)] (lsub_cons rfl (lsub_cons rfl (lsub_cons rfl (lsub_cons rfl (lsub_cons rfl lsub_nil))))) ?_))
  have kn_167 : Hid (c_154 1 3 = c_8 1 3) := (hF_156 1 3 qn_e4da0ae8c).trans (up_c (nn rfl))
  have h_168 : c_154 1 3 = c_8 1 3 := (hid kn_167)
  have h_169 : c_154 41 2 = c_154 41 2 := rfl
  have kn_170 : Hid (c_8 P 0 = n0) := (hF_10 P 0 (qn_a06c5bbb9 hP)).trans (hn0)
  have kn_171 : Hid (c_154 P 0 = n0) := (hF_156 P 0 (qn_bc95bba4c hP)).trans ((up_c (np0 hP rfl)).trans (hid kn_170))
  have h_172 : c_154 P 0 = n0 := (hid kn_171)
  have kn_173 : Hid (c_8 41 20 = n0) := (hF_10 41 20 (qn_f46dc6fb3 hP)).trans (hm0)
  have kn_174 : Hid (c_154 41 20 = n0) := (hF_156 41 20 qn_aa477815d).trans ((up_c (nn rfl)).trans (hid kn_173))
  have h_175 : c_154 41 20 = n0 := (hid kn_174)
  have kn_176 : Hid (c_8 P 1 = n1) := (hF_10 P 1 (qn_f922313e4 hP)).trans (hn1)
  have kn_177 : Hid (c_154 P 1 = n1) := (hF_156 P 1 (qn_bc95bba4c hP)).trans ((up_c (np0 hP rfl)).trans (hid kn_176))
  have h_178 : c_154 P 1 = n1 := (hid kn_177)
  have kn_179 : Hid (c_8 41 21 = n1) := (hF_10 41 21 (qn_f46dc6fb3 hP)).trans (hm1)
  have kn_180 : Hid (c_154 41 21 = n1) := (hF_156 41 21 qn_7936e07cf).trans ((up_c (nn rfl)).trans (hid kn_179))
  have h_181 : c_154 41 21 = n1 := (hid kn_180)
  have kn_182 : Hid (c_8 P 2 = n2) := (hF_10 P 2 (qn_7a4fcc1ca hP)).trans (hn2)
  have kn_183 : Hid (c_154 P 2 = n2) := (hF_156 P 2 (qn_bc95bba4c hP)).trans ((up_c (np0 hP rfl)).trans (hid kn_182))
  have h_184 : c_154 P 2 = n2 := (hid kn_183)
  have kn_185 : Hid (c_8 41 22 = n2) := (hF_10 41 22 (qn_f46dc6fb3 hP)).trans (hm2)
  have kn_186 : Hid (c_154 41 22 = n2) := (hF_156 41 22 qn_ee150294c).trans ((up_c (nn rfl)).trans (hid kn_185))
  have h_187 : c_154 41 22 = n2 := (hid kn_186)
  have kn_188 : Hid (c_8 P 3 = n3) := (hF_10 P 3 (qn_ab8d63db3 hP)).trans (hn3)
  have kn_189 : Hid (c_154 P 3 = n3) := (hF_156 P 3 (qn_bc95bba4c hP)).trans ((up_c (np0 hP rfl)).trans (hid kn_188))
  have h_190 : c_154 P 3 = n3 := (hid kn_189)
  have kn_191 : Hid (c_8 41 23 = n3) := (hF_10 41 23 (qn_f46dc6fb3 hP)).trans (hm3)
  have kn_192 : Hid (c_154 41 23 = n3) := (hF_156 41 23 qn_f079f4214).trans ((up_c (nn rfl)).trans (hid kn_191))
  have h_193 : c_154 41 23 = n3 := (hid kn_192)
  have kn_194 : Hid (c_8 3 4 = c 3 4) := hF_10 3 4 (qn_7f13ac530 hP)
  have kn_195 : Hid (c_154 3 4 = c 3 4) := (hF_156 3 4 qn_a0ddd52db).trans ((up_c (nn rfl)).trans (hid kn_194))
  have h_196 : c_154 3 4 = c 3 4 := (hid kn_195)
  have h_197 := ir_41_52 hI
  have kn_198 : Hid (c_8 41 52 = c 41 52) := hF_10 41 52 (qn_f46dc6fb3 hP)
  have kn_199 : Hid (c_154 41 52 = c 41 52) := (hF_156 41 52 qn_877774147).trans ((up_c (nn rfl)).trans (hid kn_198))
  have h_200 : c_154 41 52 = c 41 52 := (hid kn_199)
  have h_201 := ir_3_3 hI
  have kn_202 : Hid (c_8 3 3 = c 3 3) := hF_10 3 3 (qn_7f13ac530 hP)
  have kn_203 : Hid (c_154 3 3 = c 3 3) := (hF_156 3 3 qn_a0ddd52db).trans ((up_c (nn rfl)).trans (hid kn_202))
  have h_204 : c_154 3 3 = c 3 3 := (hid kn_203)
  have h_205 := ir_41_35 hI
  have kn_206 : Hid (c_8 41 35 = c 41 35) := hF_10 41 35 (qn_f46dc6fb3 hP)
  have kn_207 : Hid (c_154 41 35 = c 41 35) := (hF_156 41 35 qn_77c6ffb78).trans ((up_c (nn rfl)).trans (hid kn_206))
  have h_208 : c_154 41 35 = c 41 35 := (hid kn_207)
  have h_209 : c_154 3 4 = c 3 4 := (hid kn_195)
  have kn_210 : Hid (c_154 1 5 = c_8 1 5) := (hF_156 1 5 qn_e4da0ae8c).trans (up_c (nn rfl))
  have h_211 : c_154 1 5 = c_8 1 5 := (hid kn_210)
  have h_212 : c_154 41 8 = c_154 41 8 := rfl
  exact K P Q c_154 0 (by decide) hI_155 ⟨by omega, ub_fr hU (fun j => (hF_156 2 j qn_2fc470899).trans ((up_c (nn rfl)).trans (hF_10 2 j (qn_f75877a0d hP)))) (fun j => (hF_156 43 j qn_a1452b2ed).trans ((up_c (nn rfl)).trans (hF_10 43 j (qn_bcdf94085 hP)))), ⟨by omega, by omega, by omega, by omega⟩, by omega, by omega, iw_fr2 hIw (by omega) (fun j => (hF_156 6 j qn_3fa8cd205).trans ((up_c (nn rfl)).trans (hF_10 6 j (qn_891661a0a hP)))) (fun j => (hF_156 66 j qn_f3f9429c3).trans ((up_c (nn rfl)).trans (hF_10 66 j (qn_882c01e17 hP)))), by omega⟩

set_option maxRecDepth 100000 in
set_option maxHeartbeats 4000000 in
theorem o_6 {xs : Nat → Int32} {L i0 d nc ns P Q : Nat} {c : ME} {Z : AR → Prop} (hi : i0 + 8 ≤ L) (hL : L ≤ 100000) (hI : Iv 0 (-1) P Q c) (hR : Rq P c) (K : ∀ (P2 Q2 : Nat) (c2 : ME) (e : Nat), e ≤ 1 → Iv 0 (-1) P2 Q2 c2 → (Rq P2 c2) → Wp (a_scr L xs) (d + 90) 296 1816 [(4, vi (i0 : Int)), (3, .ref 67), (2, .ref 41), (1, .ref 0), (0, .ref a_SC)] [] (Wd P2 Q2 P2 P2 c2) (nc + e) (ns + 6 * e) Z) : Wp (a_scr L xs) (d + 90) 296 441 [(4, vi (i0 : Int)), (3, .ref 67), (2, .ref 41), (1, .ref 0), (0, .ref a_SC)] [] (Wd P Q P P c) nc ns Z := by
  obtain ⟨x1, hx1⟩ : ∃ z, (xs (i0 + 1)).toInt = z := ⟨_, rfl⟩
  have x1r := c_rng (xs (i0 + 1))
  rw [hx1] at x1r
  obtain ⟨x2, hx2⟩ : ∃ z, (xs (i0 + 2)).toInt = z := ⟨_, rfl⟩
  have x2r := c_rng (xs (i0 + 2))
  rw [hx2] at x2r
  obtain ⟨x3, hx3⟩ : ∃ z, (xs (i0 + 3)).toInt = z := ⟨_, rfl⟩
  have x3r := c_rng (xs (i0 + 3))
  rw [hx3] at x3r
  obtain ⟨x4, hx4⟩ : ∃ z, (xs (i0 + 4)).toInt = z := ⟨_, rfl⟩
  have x4r := c_rng (xs (i0 + 4))
  rw [hx4] at x4r
  obtain ⟨x5, hx5⟩ : ∃ z, (xs (i0 + 5)).toInt = z := ⟨_, rfl⟩
  have x5r := c_rng (xs (i0 + 5))
  rw [hx5] at x5r
  obtain ⟨x6, hx6⟩ : ∃ z, (xs (i0 + 6)).toInt = z := ⟨_, rfl⟩
  have x6r := c_rng (xs (i0 + 6))
  rw [hx6] at x6r
  obtain ⟨x7, hx7⟩ : ∃ z, (xs (i0 + 7)).toInt = z := ⟨_, rfl⟩
  have x7r := c_rng (xs (i0 + 7))
  rw [hx7] at x7r
  have hP := iv_P hI
  have hQ := iv_Q hI
  have hT := rl_t hR
  have hU := rl_u hR
  obtain ⟨n0, hn0⟩ : ∃ z, c P 0 = z := ⟨_, rfl⟩
  have hm0 : c 41 20 = n0 := (rl_nums hR).1.symm.trans hn0
  have hr0 := ir_p0_0 hI hP
  rw [hn0] at hr0
  obtain ⟨n1, hn1⟩ : ∃ z, c P 1 = z := ⟨_, rfl⟩
  have hm1 : c 41 21 = n1 := (rl_nums hR).2.1.symm.trans hn1
  have hr1 := ir_p0_1 hI hP
  rw [hn1] at hr1
  obtain ⟨n2, hn2⟩ : ∃ z, c P 2 = z := ⟨_, rfl⟩
  have hm2 : c 41 22 = n2 := (rl_nums hR).2.2.1.symm.trans hn2
  have hr2 := ir_p0_2 hI hP
  rw [hn2] at hr2
  obtain ⟨n3, hn3⟩ : ∃ z, c P 3 = z := ⟨_, rfl⟩
  have hm3 : c 41 23 = n3 := (rl_nums hR).2.2.2.symm.trans hn3
  have hr3 := ir_p0_3 hI hP
  rw [hn3] at hr3
  have hNimg := rl_img hR
  have hNwk := rl_wk hR
  have h_1 := ir_3_4 hI
  have hIw := rl_iw hR
  have hNplace := rl_place hR
  refine q_aload_n c_296_441 rfl (v_cv c_296_442 km_9_146 rfl rfl (Nat.le_of_ble_eq_true rfl) ⟨⟨rfl, rfl⟩, Nat.le_of_ble_eq_true rfl, rfl⟩ (Nat.le_of_ble_eq_true rfl) (Nat.le_of_ble_eq_true rfl) (q_aload_n c_89_0 rfl (v_gr (t := 1) c_89_1 kf_7_10 rfl (Nat.le_of_ble_eq_true rfl) rfl ?_)))
  have h_2 := ir_1_5 hI
  refine v_gi (z := 5) (v := c 1 5) c_89_4 kf_7_154 rfl (Nat.le_of_ble_eq_true rfl) rfl rfl rfl (q_iret c_89_7 rfl (bk_inl (q_aload_n c_296_445 rfl (v_cv c_296_446 km_9_150 rfl rfl (Nat.le_of_ble_eq_true rfl) ⟨⟨rfl, rfl⟩, Nat.le_of_ble_eq_true rfl, rfl⟩ (Nat.le_of_ble_eq_true rfl) (Nat.le_of_ble_eq_true rfl) (q_aload_n c_165_0 rfl (q_iconst c_165_1 (v_pi (z := 0) c_165_2 kf_8_3 rfl (Nat.le_of_ble_eq_true rfl) rfl rfl rfl (by decide) ?_)))))))
  refine q_aload_n c_165_5 rfl ?_
  have h_3 := ir_41_8 hI
  refine v_gi (z := 8) (v := c 41 8) c_165_6 kf_8_17 rfl (Nat.le_of_ble_eq_true rfl) rfl rfl (up_n (by decide)) (q_iret c_165_9 rfl (bk_inl (v_ic_eq_t (t := 1816) c_296_449 rfl (by omega) ?_)))
  have hI_4 := iw_41_0 (v := 0) hI ⟨by decide, by decide⟩
  refine Wp_ls [(4, vi (i0 : Int)), (3, .ref 67), (2, .ref 41), (1, .ref 0), (0, .ref a_SC)] (lsub_cons rfl (lsub_cons rfl (lsub_cons rfl (lsub_cons rfl (lsub_cons rfl lsub_nil))))) ?_
  have h_5 := ir_1_3 hI
  have h_6 : (up c 41 0 0) 1 3 = c 1 3 := (up_c (nn rfl))
  have h_7 := ir_41_2 hI
  have h_8 : (up c 41 0 0) 41 2 = c 41 2 := (up_n (by decide))
  have h_9 : (up c 41 0 0) P 0 = n0 := ((up_c (np0 hP rfl)).trans (hn0))
  have h_10 : (up c 41 0 0) 41 20 = n0 := ((up_n (by decide)).trans (hm0))
  have h_11 : (up c 41 0 0) P 1 = n1 := ((up_c (np0 hP rfl)).trans (hn1))
  have h_12 : (up c 41 0 0) 41 21 = n1 := ((up_n (by decide)).trans (hm1))
  have h_13 : (up c 41 0 0) P 2 = n2 := ((up_c (np0 hP rfl)).trans (hn2))
  have h_14 : (up c 41 0 0) 41 22 = n2 := ((up_n (by decide)).trans (hm2))
  have h_15 : (up c 41 0 0) P 3 = n3 := ((up_c (np0 hP rfl)).trans (hn3))
  have h_16 : (up c 41 0 0) 41 23 = n3 := ((up_n (by decide)).trans (hm3))
  have h_17 : (up c 41 0 0) 3 4 = c 3 4 := (up_c (nn rfl))
  have h_18 := ir_41_52 hI
  have h_19 : (up c 41 0 0) 41 52 = c 41 52 := (up_n (by decide))
  have h_20 := ir_3_3 hI
  have h_21 : (up c 41 0 0) 3 3 = c 3 3 := (up_c (nn rfl))
  have h_22 := ir_41_35 hI
  have h_23 : (up c 41 0 0) 41 35 = c 41 35 := (up_n (by decide))
  have h_24 : (up c 41 0 0) 3 4 = c 3 4 := (up_c (nn rfl))
  have h_25 : (up c 41 0 0) 1 5 = c 1 5 := (up_c (nn rfl))
  have h_26 : (up c 41 0 0) 41 8 = c 41 8 := (up_n (by decide))
  exact K P Q (up c 41 0 0) 0 (by decide) hI_4 ⟨by omega, ub_fr hU (fun j => up_c (nn rfl)) (fun j => up_c (nn rfl)), ⟨by omega, by omega, by omega, by omega⟩, by omega, by omega, iw_fr2 hIw (by omega) (fun j => up_c (nn rfl)) (fun j => up_c (nn rfl)), by omega⟩

set_option maxRecDepth 100000 in
set_option maxHeartbeats 4000000 in
theorem o_7 {xs : Nat → Int32} {L i0 d nc ns P Q : Nat} {c : ME} {Z : AR → Prop} (hi : i0 + 8 ≤ L) (hL : L ≤ 100000) (hI : Iv 0 (-1) P Q c) (hR : Rq P c) (K : ∀ (P2 Q2 : Nat) (c2 : ME) (e : Nat), e ≤ 1 → Iv 0 (-1) P2 Q2 c2 → (Rq P2 c2) → Wp (a_scr L xs) (d + 90) 296 1816 [(4, vi (i0 : Int)), (3, .ref 67), (2, .ref 41), (1, .ref 0), (0, .ref a_SC)] [] (Wd P2 Q2 P2 P2 c2) (nc + e) (ns + 6 * e) Z) : Wp (a_scr L xs) (d + 90) 296 454 [(4, vi (i0 : Int)), (3, .ref 67), (2, .ref 41), (1, .ref 0), (0, .ref a_SC)] [] (Wd P Q P P c) nc ns Z := by
  obtain ⟨x1, hx1⟩ : ∃ z, (xs (i0 + 1)).toInt = z := ⟨_, rfl⟩
  have x1r := c_rng (xs (i0 + 1))
  rw [hx1] at x1r
  obtain ⟨x2, hx2⟩ : ∃ z, (xs (i0 + 2)).toInt = z := ⟨_, rfl⟩
  have x2r := c_rng (xs (i0 + 2))
  rw [hx2] at x2r
  obtain ⟨x3, hx3⟩ : ∃ z, (xs (i0 + 3)).toInt = z := ⟨_, rfl⟩
  have x3r := c_rng (xs (i0 + 3))
  rw [hx3] at x3r
  obtain ⟨x4, hx4⟩ : ∃ z, (xs (i0 + 4)).toInt = z := ⟨_, rfl⟩
  have x4r := c_rng (xs (i0 + 4))
  rw [hx4] at x4r
  obtain ⟨x5, hx5⟩ : ∃ z, (xs (i0 + 5)).toInt = z := ⟨_, rfl⟩
  have x5r := c_rng (xs (i0 + 5))
  rw [hx5] at x5r
  obtain ⟨x6, hx6⟩ : ∃ z, (xs (i0 + 6)).toInt = z := ⟨_, rfl⟩
  have x6r := c_rng (xs (i0 + 6))
  rw [hx6] at x6r
  obtain ⟨x7, hx7⟩ : ∃ z, (xs (i0 + 7)).toInt = z := ⟨_, rfl⟩
  have x7r := c_rng (xs (i0 + 7))
  rw [hx7] at x7r
  have hP := iv_P hI
  have hQ := iv_Q hI
  have hT := rl_t hR
  have hU := rl_u hR
  obtain ⟨n0, hn0⟩ : ∃ z, c P 0 = z := ⟨_, rfl⟩
  have hm0 : c 41 20 = n0 := (rl_nums hR).1.symm.trans hn0
  have hr0 := ir_p0_0 hI hP
  rw [hn0] at hr0
  obtain ⟨n1, hn1⟩ : ∃ z, c P 1 = z := ⟨_, rfl⟩
  have hm1 : c 41 21 = n1 := (rl_nums hR).2.1.symm.trans hn1
  have hr1 := ir_p0_1 hI hP
  rw [hn1] at hr1
  obtain ⟨n2, hn2⟩ : ∃ z, c P 2 = z := ⟨_, rfl⟩
  have hm2 : c 41 22 = n2 := (rl_nums hR).2.2.1.symm.trans hn2
  have hr2 := ir_p0_2 hI hP
  rw [hn2] at hr2
  obtain ⟨n3, hn3⟩ : ∃ z, c P 3 = z := ⟨_, rfl⟩
  have hm3 : c 41 23 = n3 := (rl_nums hR).2.2.2.symm.trans hn3
  have hr3 := ir_p0_3 hI hP
  rw [hn3] at hr3
  have hNimg := rl_img hR
  have hNwk := rl_wk hR
  have h_1 := ir_3_4 hI
  have hIw := rl_iw hR
  have hNplace := rl_place hR
  refine q_aload_n c_296_454 rfl ?_
  have h_2 := ir_3_3 hI
  refine v_cv c_296_455 km_9_151 rfl rfl (Nat.le_of_ble_eq_true rfl) ⟨⟨rfl, rfl⟩, Nat.le_of_ble_eq_true rfl, rfl⟩ (Nat.le_of_ble_eq_true rfl) (Nat.le_of_ble_eq_true rfl) (s_139 hI (fun c_3 y_6 hI_4 hF_5 hy_6 h_7 => (bk_inl ?_)))
  have h_8 := ir_3_3 hI_4
  refine q_pop c_296_458 rfl (q_aload_n c_296_459 rfl ?_)
  have h_9 := ir_41_35 hI
  have kn_10 : Hid (c_3 41 35 = c 41 35) := hF_5 41 35 qn_42c22a4f3
  have h_11 : c_3 41 35 = c 41 35 := (hid kn_10)
  refine v_cv c_296_460 km_9_154 rfl rfl (Nat.le_of_ble_eq_true rfl) ⟨⟨rfl, rfl⟩, Nat.le_of_ble_eq_true rfl, rfl⟩ (Nat.le_of_ble_eq_true rfl) (Nat.le_of_ble_eq_true rfl) (s_208 hI_4 (fun c_12 y_15 hI_13 hF_14 hy_15 h_16 => (bk_inl ?_)))
  have h_17 := ir_41_35 hI_13
  refine q_pop c_296_463 rfl (q_goto (t := 1816) c_296_464 rfl (Wp_ls [(4, vi (i0 : Int)), (3, .ref 67), (2, .ref 41), (1, .ref 0), (0, .ref a_SC)] (lsub_cons rfl (lsub_cons rfl (lsub_cons rfl (lsub_cons rfl (lsub_cons rfl lsub_nil))))) ?_))
  have h_18 := ir_1_3 hI
  have kn_19 : Hid (c_3 1 3 = c 1 3) := hF_5 1 3 qn_6c6a5b112
  have kn_20 : Hid (c_12 1 3 = c 1 3) := (hF_14 1 3 qn_e809d71be).trans (hid kn_19)
  have h_21 : c_12 1 3 = c 1 3 := (hid kn_20)
  have h_22 := ir_41_2 hI
  have kn_23 : Hid (c_3 41 2 = c 41 2) := hF_5 41 2 qn_42c22a4f3
  have kn_24 : Hid (c_12 41 2 = c 41 2) := (hF_14 41 2 qn_a0e956850).trans (hid kn_23)
  have h_25 : c_12 41 2 = c 41 2 := (hid kn_24)
  have kn_26 : Hid (c_3 P 0 = n0) := (hF_5 P 0 (qn_6b590954a hP)).trans (hn0)
  have kn_27 : Hid (c_12 P 0 = n0) := (hF_14 P 0 (qn_1f11d8d5e hP)).trans (hid kn_26)
  have h_28 : c_12 P 0 = n0 := (hid kn_27)
  have kn_29 : Hid (c_3 41 20 = n0) := (hF_5 41 20 qn_42c22a4f3).trans (hm0)
  have kn_30 : Hid (c_12 41 20 = n0) := (hF_14 41 20 qn_f052b872f).trans (hid kn_29)
  have h_31 : c_12 41 20 = n0 := (hid kn_30)
  have kn_32 : Hid (c_3 P 1 = n1) := (hF_5 P 1 (qn_6b590954a hP)).trans (hn1)
  have kn_33 : Hid (c_12 P 1 = n1) := (hF_14 P 1 (qn_1f11d8d5e hP)).trans (hid kn_32)
  have h_34 : c_12 P 1 = n1 := (hid kn_33)
  have kn_35 : Hid (c_3 41 21 = n1) := (hF_5 41 21 qn_42c22a4f3).trans (hm1)
  have kn_36 : Hid (c_12 41 21 = n1) := (hF_14 41 21 qn_2b743be81).trans (hid kn_35)
  have h_37 : c_12 41 21 = n1 := (hid kn_36)
  have kn_38 : Hid (c_3 P 2 = n2) := (hF_5 P 2 (qn_6b590954a hP)).trans (hn2)
  have kn_39 : Hid (c_12 P 2 = n2) := (hF_14 P 2 (qn_1f11d8d5e hP)).trans (hid kn_38)
  have h_40 : c_12 P 2 = n2 := (hid kn_39)
  have kn_41 : Hid (c_3 41 22 = n2) := (hF_5 41 22 qn_42c22a4f3).trans (hm2)
  have kn_42 : Hid (c_12 41 22 = n2) := (hF_14 41 22 qn_447ab7c5f).trans (hid kn_41)
  have h_43 : c_12 41 22 = n2 := (hid kn_42)
  have kn_44 : Hid (c_3 P 3 = n3) := (hF_5 P 3 (qn_6b590954a hP)).trans (hn3)
  have kn_45 : Hid (c_12 P 3 = n3) := (hF_14 P 3 (qn_1f11d8d5e hP)).trans (hid kn_44)
  have h_46 : c_12 P 3 = n3 := (hid kn_45)
  have kn_47 : Hid (c_3 41 23 = n3) := (hF_5 41 23 qn_42c22a4f3).trans (hm3)
  have kn_48 : Hid (c_12 41 23 = n3) := (hF_14 41 23 qn_f6a0ac252).trans (hid kn_47)
  have h_49 : c_12 41 23 = n3 := (hid kn_48)
  have kn_50 : Hid (c_3 3 4 = c 3 4) := hF_5 3 4 qn_c9ddecc28
  have kn_51 : Hid (c_12 3 4 = c 3 4) := (hF_14 3 4 qn_e5b32c825).trans (hid kn_50)
  have h_52 : c_12 3 4 = c 3 4 := (hid kn_51)
  have h_53 := ir_41_52 hI
  have kn_54 : Hid (c_3 41 52 = c 41 52) := hF_5 41 52 qn_42c22a4f3
  have kn_55 : Hid (c_12 41 52 = c 41 52) := (hF_14 41 52 qn_be41875ab).trans (hid kn_54)
  have h_56 : c_12 41 52 = c 41 52 := (hid kn_55)
  have kn_57 : Hid (c_12 3 3 = c_3 3 3) := hF_14 3 3 qn_e5b32c825
  have h_58 : c_12 3 3 = c_3 3 3 := (hid kn_57)
  have h_59 : c_12 41 35 = c_12 41 35 := rfl
  have h_60 : c_12 3 4 = c 3 4 := (hid kn_51)
  have h_61 := ir_1_5 hI
  have kn_62 : Hid (c_3 1 5 = c 1 5) := hF_5 1 5 qn_6c6a5b112
  have kn_63 : Hid (c_12 1 5 = c 1 5) := (hF_14 1 5 qn_e809d71be).trans (hid kn_62)
  have h_64 : c_12 1 5 = c 1 5 := (hid kn_63)
  have h_65 := ir_41_8 hI
  have kn_66 : Hid (c_3 41 8 = c 41 8) := hF_5 41 8 qn_42c22a4f3
  have kn_67 : Hid (c_12 41 8 = c 41 8) := (hF_14 41 8 qn_cbe4cb7d1).trans (hid kn_66)
  have h_68 : c_12 41 8 = c 41 8 := (hid kn_67)
  exact K P Q c_12 0 (by decide) hI_13 ⟨by omega, ub_fr hU (fun j => (hF_14 2 j qn_f12bc0175).trans (hF_5 2 j qn_a6915fafb)) (fun j => (hF_14 43 j qn_8711c50f0).trans (hF_5 43 j qn_52f444696)), ⟨by omega, by omega, by omega, by omega⟩, by omega, by omega, iw_fr2 hIw (by omega) (fun j => (hF_14 6 j qn_a936f4de6).trans (hF_5 6 j qn_a85717703)) (fun j => (hF_14 66 j qn_b6b22f295).trans (hF_5 66 j qn_a8b739f8c)), by omega⟩

set_option maxRecDepth 100000 in
set_option maxHeartbeats 4000000 in
theorem o_8 {xs : Nat → Int32} {L i0 d nc ns P Q : Nat} {c : ME} {Z : AR → Prop} (hi : i0 + 8 ≤ L) (hL : L ≤ 100000) (hI : Iv 0 (-1) P Q c) (hR : Rq P c) (K : ∀ (P2 Q2 : Nat) (c2 : ME) (e : Nat), e ≤ 1 → Iv 0 (-1) P2 Q2 c2 → (Rq P2 c2) → Wp (a_scr L xs) (d + 90) 296 1816 [(4, vi (i0 : Int)), (3, .ref 67), (2, .ref 41), (1, .ref 0), (0, .ref a_SC)] [] (Wd P2 Q2 P2 P2 c2) (nc + e) (ns + 6 * e) Z) : Wp (a_scr L xs) (d + 90) 296 467 [(4, vi (i0 : Int)), (3, .ref 67), (2, .ref 41), (1, .ref 0), (0, .ref a_SC)] [] (Wd P Q P P c) nc ns Z := by
  obtain ⟨x1, hx1⟩ : ∃ z, (xs (i0 + 1)).toInt = z := ⟨_, rfl⟩
  have x1r := c_rng (xs (i0 + 1))
  rw [hx1] at x1r
  obtain ⟨x2, hx2⟩ : ∃ z, (xs (i0 + 2)).toInt = z := ⟨_, rfl⟩
  have x2r := c_rng (xs (i0 + 2))
  rw [hx2] at x2r
  obtain ⟨x3, hx3⟩ : ∃ z, (xs (i0 + 3)).toInt = z := ⟨_, rfl⟩
  have x3r := c_rng (xs (i0 + 3))
  rw [hx3] at x3r
  obtain ⟨x4, hx4⟩ : ∃ z, (xs (i0 + 4)).toInt = z := ⟨_, rfl⟩
  have x4r := c_rng (xs (i0 + 4))
  rw [hx4] at x4r
  obtain ⟨x5, hx5⟩ : ∃ z, (xs (i0 + 5)).toInt = z := ⟨_, rfl⟩
  have x5r := c_rng (xs (i0 + 5))
  rw [hx5] at x5r
  obtain ⟨x6, hx6⟩ : ∃ z, (xs (i0 + 6)).toInt = z := ⟨_, rfl⟩
  have x6r := c_rng (xs (i0 + 6))
  rw [hx6] at x6r
  obtain ⟨x7, hx7⟩ : ∃ z, (xs (i0 + 7)).toInt = z := ⟨_, rfl⟩
  have x7r := c_rng (xs (i0 + 7))
  rw [hx7] at x7r
  have hP := iv_P hI
  have hQ := iv_Q hI
  have hT := rl_t hR
  have hU := rl_u hR
  obtain ⟨n0, hn0⟩ : ∃ z, c P 0 = z := ⟨_, rfl⟩
  have hm0 : c 41 20 = n0 := (rl_nums hR).1.symm.trans hn0
  have hr0 := ir_p0_0 hI hP
  rw [hn0] at hr0
  obtain ⟨n1, hn1⟩ : ∃ z, c P 1 = z := ⟨_, rfl⟩
  have hm1 : c 41 21 = n1 := (rl_nums hR).2.1.symm.trans hn1
  have hr1 := ir_p0_1 hI hP
  rw [hn1] at hr1
  obtain ⟨n2, hn2⟩ : ∃ z, c P 2 = z := ⟨_, rfl⟩
  have hm2 : c 41 22 = n2 := (rl_nums hR).2.2.1.symm.trans hn2
  have hr2 := ir_p0_2 hI hP
  rw [hn2] at hr2
  obtain ⟨n3, hn3⟩ : ∃ z, c P 3 = z := ⟨_, rfl⟩
  have hm3 : c 41 23 = n3 := (rl_nums hR).2.2.2.symm.trans hn3
  have hr3 := ir_p0_3 hI hP
  rw [hn3] at hr3
  have hNimg := rl_img hR
  have hNwk := rl_wk hR
  have h_1 := ir_3_4 hI
  have hIw := rl_iw hR
  have hNplace := rl_place hR
  refine q_aload_n c_296_467 rfl (q_aload_n c_296_468 rfl (q_iload c_296_469 rfl (q_iconst c_296_471 (v_iadd (v := (i0 : Int) + 1) c_296_472 rfl (v_scr (j := i0 + 1) c_296_473 (by omega) (by omega) hL hx1 (q_aload_n c_296_474 rfl (q_call c_296_475 rfl rfl rfl ?_)))))))
  refine q_aload_n c_268_0 rfl (q_iconst c_268_1 (q_aload_n c_268_2 rfl (q_iload_n c_268_3 rfl ?_)))
  refine v_cv c_268_4 km_9_27 rfl rfl (Nat.le_of_ble_eq_true rfl) ⟨⟨rfl, rfl⟩, Nat.le_of_ble_eq_true rfl, rfl⟩ (Nat.le_of_ble_eq_true rfl) (Nat.le_of_ble_eq_true rfl) (s_90 (a1 := x1) hI (show (-2147483648) ≤ x1 ∧ x1 ≤ 2147483647 from ⟨by omega, by omega⟩) (fun c_2 hI_3 hF_4 => ?_) (fun c_5 y_8 hI_6 hF_7 hy_8 => ?_))
  · skip
    refine bk_thr (z := Int32.ofInt 1) rfl ⟨_, _, rfl⟩ rfl (bk_inl (q_istore c_296_478 (Nat.le_of_ble_eq_true rfl) (q_aload_n c_296_480 rfl (q_aload_n c_296_481 rfl (q_iload c_296_482 rfl (q_iconst c_296_484 (v_iadd (v := (i0 : Int) + 1) c_296_485 rfl ?_)))))))
    refine v_scr (j := i0 + 1) c_296_486 (by omega) (by omega) hL hx1 (v_cv c_296_487 km_9_157 rfl rfl (Nat.le_of_ble_eq_true rfl) ⟨⟨rfl, rfl⟩, Nat.le_of_ble_eq_true rfl, rfl⟩ (Nat.le_of_ble_eq_true rfl) (Nat.le_of_ble_eq_true rfl) (s_211 (a1 := x1) hI_3 (show (-2147483648) ≤ x1 ∧ x1 ≤ 2147483647 from ⟨by omega, by omega⟩) (fun c_9 y_12 hI_10 hF_11 hy_12 => (bk_inl (q_istore c_296_490 (Nat.le_of_ble_eq_true rfl) (q_goto (t := 1816) c_296_492 rfl (Wp_ls [(4, vi (i0 : Int)), (3, .ref 67), (2, .ref 41), (1, .ref 0), (0, .ref a_SC)] (lsub_cons rfl (lsub_cons rfl (lsub_cons rfl (lsub_cons rfl (lsub_cons rfl lsub_nil))))) ?_)))))))
    have h_13 := ir_1_3 hI
    have kn_14 : Hid (c_2 1 3 = c 1 3) := hF_4 1 3 (fun h => absurd h.1 (nn rfl))
    have kn_15 : Hid (c_9 1 3 = c 1 3) := (hF_11 1 3 qn_39cd18c3e).trans (hid kn_14)
    have h_16 : c_9 1 3 = c 1 3 := (hid kn_15)
    have h_17 := ir_41_2 hI
    have kn_18 : Hid (c_2 41 2 = c 41 2) := hF_4 41 2 (fun h => absurd h.1 (nn rfl))
    have kn_19 : Hid (c_9 41 2 = c 41 2) := (hF_11 41 2 qn_53bdb2099).trans (hid kn_18)
    have h_20 : c_9 41 2 = c 41 2 := (hid kn_19)
    have kn_21 : Hid (c_2 P 0 = n0) := (hF_4 P 0 (fun h => absurd h.1 (np0 hP rfl))).trans (hn0)
    have kn_22 : Hid (c_9 P 0 = n0) := (hF_11 P 0 (qn_857752076 hP)).trans (hid kn_21)
    have h_23 : c_9 P 0 = n0 := (hid kn_22)
    have kn_24 : Hid (c_2 41 20 = n0) := (hF_4 41 20 (fun h => absurd h.1 (nn rfl))).trans (hm0)
    have kn_25 : Hid (c_9 41 20 = n0) := (hF_11 41 20 qn_110b29ed6).trans (hid kn_24)
    have h_26 : c_9 41 20 = n0 := (hid kn_25)
    have kn_27 : Hid (c_2 P 1 = n1) := (hF_4 P 1 (fun h => absurd h.1 (np0 hP rfl))).trans (hn1)
    have kn_28 : Hid (c_9 P 1 = n1) := (hF_11 P 1 (qn_857752076 hP)).trans (hid kn_27)
    have h_29 : c_9 P 1 = n1 := (hid kn_28)
    have kn_30 : Hid (c_2 41 21 = n1) := (hF_4 41 21 (fun h => absurd h.1 (nn rfl))).trans (hm1)
    have kn_31 : Hid (c_9 41 21 = n1) := (hF_11 41 21 qn_561064c41).trans (hid kn_30)
    have h_32 : c_9 41 21 = n1 := (hid kn_31)
    have kn_33 : Hid (c_2 P 2 = n2) := (hF_4 P 2 (fun h => absurd h.1 (np0 hP rfl))).trans (hn2)
    have kn_34 : Hid (c_9 P 2 = n2) := (hF_11 P 2 (qn_857752076 hP)).trans (hid kn_33)
    have h_35 : c_9 P 2 = n2 := (hid kn_34)
    have kn_36 : Hid (c_2 41 22 = n2) := (hF_4 41 22 (fun h => absurd h.1 (nn rfl))).trans (hm2)
    have kn_37 : Hid (c_9 41 22 = n2) := (hF_11 41 22 qn_1a460b46b).trans (hid kn_36)
    have h_38 : c_9 41 22 = n2 := (hid kn_37)
    have kn_39 : Hid (c_2 P 3 = n3) := (hF_4 P 3 (fun h => absurd h.1 (np0 hP rfl))).trans (hn3)
    have kn_40 : Hid (c_9 P 3 = n3) := (hF_11 P 3 (qn_857752076 hP)).trans (hid kn_39)
    have h_41 : c_9 P 3 = n3 := (hid kn_40)
    have kn_42 : Hid (c_2 41 23 = n3) := (hF_4 41 23 (fun h => absurd h.1 (nn rfl))).trans (hm3)
    have kn_43 : Hid (c_9 41 23 = n3) := (hF_11 41 23 qn_b79f282cd).trans (hid kn_42)
    have h_44 : c_9 41 23 = n3 := (hid kn_43)
    have kn_45 : Hid (c_2 3 4 = c 3 4) := hF_4 3 4 (fun h => absurd h.1 (nn rfl))
    have kn_46 : Hid (c_9 3 4 = c 3 4) := (hF_11 3 4 qn_bf2303cc8).trans (hid kn_45)
    have h_47 : c_9 3 4 = c 3 4 := (hid kn_46)
    have h_48 := ir_41_52 hI
    have kn_49 : Hid (c_2 41 52 = c 41 52) := hF_4 41 52 (fun h => absurd h.1 (nn rfl))
    have kn_50 : Hid (c_9 41 52 = c 41 52) := (hF_11 41 52 qn_90835161a).trans (hid kn_49)
    have h_51 : c_9 41 52 = c 41 52 := (hid kn_50)
    have h_52 := ir_3_3 hI
    have kn_53 : Hid (c_2 3 3 = c 3 3) := hF_4 3 3 (fun h => absurd h.1 (nn rfl))
    have kn_54 : Hid (c_9 3 3 = c 3 3) := (hF_11 3 3 qn_bf2303cc8).trans (hid kn_53)
    have h_55 : c_9 3 3 = c 3 3 := (hid kn_54)
    have h_56 := ir_41_35 hI
    have kn_57 : Hid (c_2 41 35 = c 41 35) := hF_4 41 35 (fun h => absurd h.1 (nn rfl))
    have kn_58 : Hid (c_9 41 35 = c 41 35) := (hF_11 41 35 qn_732a91ea5).trans (hid kn_57)
    have h_59 : c_9 41 35 = c 41 35 := (hid kn_58)
    have h_60 : c_9 3 4 = c 3 4 := (hid kn_46)
    have h_61 := ir_1_5 hI
    have kn_62 : Hid (c_2 1 5 = c 1 5) := hF_4 1 5 (fun h => absurd h.1 (nn rfl))
    have kn_63 : Hid (c_9 1 5 = c 1 5) := (hF_11 1 5 qn_39cd18c3e).trans (hid kn_62)
    have h_64 : c_9 1 5 = c 1 5 := (hid kn_63)
    have h_65 := ir_41_8 hI
    have kn_66 : Hid (c_2 41 8 = c 41 8) := hF_4 41 8 (fun h => absurd h.1 (nn rfl))
    have kn_67 : Hid (c_9 41 8 = c 41 8) := (hF_11 41 8 qn_b601a9968).trans (hid kn_66)
    have h_68 : c_9 41 8 = c 41 8 := (hid kn_67)
    exact K P Q c_9 1 (by decide) hI_10 ⟨by omega, ub_fr hU (fun j => (hF_11 2 j qn_2ad67e194).trans (hF_4 2 j (fun h => absurd h.1 (nn rfl)))) (fun j => (hF_11 43 j qn_1520ff5e3).trans (hF_4 43 j (fun h => absurd h.1 (nn rfl)))), ⟨by omega, by omega, by omega, by omega⟩, by omega, by omega, iw_fr2 hIw (by omega) (fun j => (hF_11 6 j qn_e1050858a).trans (hF_4 6 j (fun h => absurd h.1 (nn rfl)))) (fun j => (hF_11 66 j qn_5616dd9ce).trans (hF_4 66 j (fun h => absurd h.1 (nn rfl)))), by omega⟩
  refine bk_inl (v_i2l c_268_7 (by omega) (v_ls c_268_8 rfl (by decide) (by decide) (by decide) (q_goto (t := 15) c_268_9 rfl (q_iconst c_268_15 (q_iret c_268_16 rfl (bk_inl (q_istore c_296_478 (Nat.le_of_ble_eq_true rfl) ?_)))))))
  refine q_aload_n c_296_480 rfl (q_aload_n c_296_481 rfl (q_iload c_296_482 rfl (q_iconst c_296_484 (v_iadd (v := (i0 : Int) + 1) c_296_485 rfl (v_scr (j := i0 + 1) c_296_486 (by omega) (by omega) hL hx1 ?_)))))
  have hI_69 := iw_lx (a := 67) (j := 0) (v := y_8) hI_6 (by omega)
  refine v_cv c_296_487 km_9_157 rfl rfl (Nat.le_of_ble_eq_true rfl) ⟨⟨rfl, rfl⟩, Nat.le_of_ble_eq_true rfl, rfl⟩ (Nat.le_of_ble_eq_true rfl) (Nat.le_of_ble_eq_true rfl) (s_211 (a1 := x1) hI_69 (show (-2147483648) ≤ x1 ∧ x1 ≤ 2147483647 from ⟨by omega, by omega⟩) (fun c_70 y_73 hI_71 hF_72 hy_73 => (bk_inl (q_istore c_296_490 (Nat.le_of_ble_eq_true rfl) (q_goto (t := 1816) c_296_492 rfl (Wp_ls [(4, vi (i0 : Int)), (3, .ref 67), (2, .ref 41), (1, .ref 0), (0, .ref a_SC)] (lsub_cons rfl (lsub_cons rfl (lsub_cons rfl (lsub_cons rfl (lsub_cons rfl lsub_nil))))) ?_))))))
  have h_74 := ir_1_3 hI
  have kn_75 : Hid (c_5 1 3 = c 1 3) := hF_7 1 3 (fun h => absurd h.1 (nn rfl))
  have kn_76 : Hid (c_70 1 3 = c 1 3) := (hF_72 1 3 qn_39cd18c3e).trans ((up_c (nn rfl)).trans (hid kn_75))
  have h_77 : c_70 1 3 = c 1 3 := (hid kn_76)
  have h_78 := ir_41_2 hI
  have kn_79 : Hid (c_5 41 2 = c 41 2) := hF_7 41 2 (fun h => absurd h.1 (nn rfl))
  have kn_80 : Hid (c_70 41 2 = c 41 2) := (hF_72 41 2 qn_53bdb2099).trans ((up_c (nn rfl)).trans (hid kn_79))
  have h_81 : c_70 41 2 = c 41 2 := (hid kn_80)
  have kn_82 : Hid (c_5 P 0 = n0) := (hF_7 P 0 (fun h => absurd h.1 (np0 hP rfl))).trans (hn0)
  have kn_83 : Hid (c_70 P 0 = n0) := (hF_72 P 0 (qn_857752076 hP)).trans ((up_c (np0 hP rfl)).trans (hid kn_82))
  have h_84 : c_70 P 0 = n0 := (hid kn_83)
  have kn_85 : Hid (c_5 41 20 = n0) := (hF_7 41 20 (fun h => absurd h.1 (nn rfl))).trans (hm0)
  have kn_86 : Hid (c_70 41 20 = n0) := (hF_72 41 20 qn_110b29ed6).trans ((up_c (nn rfl)).trans (hid kn_85))
  have h_87 : c_70 41 20 = n0 := (hid kn_86)
  have kn_88 : Hid (c_5 P 1 = n1) := (hF_7 P 1 (fun h => absurd h.1 (np0 hP rfl))).trans (hn1)
  have kn_89 : Hid (c_70 P 1 = n1) := (hF_72 P 1 (qn_857752076 hP)).trans ((up_c (np0 hP rfl)).trans (hid kn_88))
  have h_90 : c_70 P 1 = n1 := (hid kn_89)
  have kn_91 : Hid (c_5 41 21 = n1) := (hF_7 41 21 (fun h => absurd h.1 (nn rfl))).trans (hm1)
  have kn_92 : Hid (c_70 41 21 = n1) := (hF_72 41 21 qn_561064c41).trans ((up_c (nn rfl)).trans (hid kn_91))
  have h_93 : c_70 41 21 = n1 := (hid kn_92)
  have kn_94 : Hid (c_5 P 2 = n2) := (hF_7 P 2 (fun h => absurd h.1 (np0 hP rfl))).trans (hn2)
  have kn_95 : Hid (c_70 P 2 = n2) := (hF_72 P 2 (qn_857752076 hP)).trans ((up_c (np0 hP rfl)).trans (hid kn_94))
  have h_96 : c_70 P 2 = n2 := (hid kn_95)
  have kn_97 : Hid (c_5 41 22 = n2) := (hF_7 41 22 (fun h => absurd h.1 (nn rfl))).trans (hm2)
  have kn_98 : Hid (c_70 41 22 = n2) := (hF_72 41 22 qn_1a460b46b).trans ((up_c (nn rfl)).trans (hid kn_97))
  have h_99 : c_70 41 22 = n2 := (hid kn_98)
  have kn_100 : Hid (c_5 P 3 = n3) := (hF_7 P 3 (fun h => absurd h.1 (np0 hP rfl))).trans (hn3)
  have kn_101 : Hid (c_70 P 3 = n3) := (hF_72 P 3 (qn_857752076 hP)).trans ((up_c (np0 hP rfl)).trans (hid kn_100))
  have h_102 : c_70 P 3 = n3 := (hid kn_101)
  have kn_103 : Hid (c_5 41 23 = n3) := (hF_7 41 23 (fun h => absurd h.1 (nn rfl))).trans (hm3)
  have kn_104 : Hid (c_70 41 23 = n3) := (hF_72 41 23 qn_b79f282cd).trans ((up_c (nn rfl)).trans (hid kn_103))
  have h_105 : c_70 41 23 = n3 := (hid kn_104)
  have kn_106 : Hid (c_5 3 4 = c 3 4) := hF_7 3 4 (fun h => absurd h.1 (nn rfl))
  have kn_107 : Hid (c_70 3 4 = c 3 4) := (hF_72 3 4 qn_bf2303cc8).trans ((up_c (nn rfl)).trans (hid kn_106))
  have h_108 : c_70 3 4 = c 3 4 := (hid kn_107)
  have h_109 := ir_41_52 hI
  have kn_110 : Hid (c_5 41 52 = c 41 52) := hF_7 41 52 (fun h => absurd h.1 (nn rfl))
  have kn_111 : Hid (c_70 41 52 = c 41 52) := (hF_72 41 52 qn_90835161a).trans ((up_c (nn rfl)).trans (hid kn_110))
  have h_112 : c_70 41 52 = c 41 52 := (hid kn_111)
  have h_113 := ir_3_3 hI
  have kn_114 : Hid (c_5 3 3 = c 3 3) := hF_7 3 3 (fun h => absurd h.1 (nn rfl))
  have kn_115 : Hid (c_70 3 3 = c 3 3) := (hF_72 3 3 qn_bf2303cc8).trans ((up_c (nn rfl)).trans (hid kn_114))
  have h_116 : c_70 3 3 = c 3 3 := (hid kn_115)
  have h_117 := ir_41_35 hI
  have kn_118 : Hid (c_5 41 35 = c 41 35) := hF_7 41 35 (fun h => absurd h.1 (nn rfl))
  have kn_119 : Hid (c_70 41 35 = c 41 35) := (hF_72 41 35 qn_732a91ea5).trans ((up_c (nn rfl)).trans (hid kn_118))
  have h_120 : c_70 41 35 = c 41 35 := (hid kn_119)
  have h_121 : c_70 3 4 = c 3 4 := (hid kn_107)
  have h_122 := ir_1_5 hI
  have kn_123 : Hid (c_5 1 5 = c 1 5) := hF_7 1 5 (fun h => absurd h.1 (nn rfl))
  have kn_124 : Hid (c_70 1 5 = c 1 5) := (hF_72 1 5 qn_39cd18c3e).trans ((up_c (nn rfl)).trans (hid kn_123))
  have h_125 : c_70 1 5 = c 1 5 := (hid kn_124)
  have h_126 := ir_41_8 hI
  have kn_127 : Hid (c_5 41 8 = c 41 8) := hF_7 41 8 (fun h => absurd h.1 (nn rfl))
  have kn_128 : Hid (c_70 41 8 = c 41 8) := (hF_72 41 8 qn_b601a9968).trans ((up_c (nn rfl)).trans (hid kn_127))
  have h_129 : c_70 41 8 = c 41 8 := (hid kn_128)
  exact K P Q c_70 0 (by decide) hI_71 ⟨by omega, ub_fr hU (fun j => (hF_72 2 j qn_2ad67e194).trans ((up_c (nn rfl)).trans (hF_7 2 j (fun h => absurd h.1 (nn rfl))))) (fun j => (hF_72 43 j qn_1520ff5e3).trans ((up_c (nn rfl)).trans (hF_7 43 j (fun h => absurd h.1 (nn rfl))))), ⟨by omega, by omega, by omega, by omega⟩, by omega, by omega, iw_fr2 hIw (by omega) (fun j => (hF_72 6 j qn_e1050858a).trans ((up_c (nn rfl)).trans (hF_7 6 j (fun h => absurd h.1 (nn rfl))))) (fun j => (hF_72 66 j qn_5616dd9ce).trans ((up_c (nn rfl)).trans (hF_7 66 j (fun h => absurd h.1 (nn rfl))))), by omega⟩

