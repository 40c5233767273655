/-! ===== the calls of the law 1 ===== -/
theorem qn_d1a559e74 {j : Int} : ¬ (((41 : Nat) = 1 ∧ j = 1) ∨ ((41 : Nat) = 1 ∧ j = 2) ∨ ((41 : Nat) = 1 ∧ j = 3) ∨ ((41 : Nat) = 1 ∧ j = 4) ∨ ((41 : Nat) = 1 ∧ j = 5) ∨ ((41 : Nat) = 0 ∧ j = 13) ∨ (41 : Nat) = 38 ∨ (41 : Nat) = 40 ∨ ((41 : Nat) = 3 ∧ j = 3) ∨ ((41 : Nat) = 3 ∧ j = 4) ∨ ((41 : Nat) = 0 ∧ j = 11) ∨ (13 ≤ (41 : Nat) ∧ (41 : Nat) ≤ 36)) := (fun q => q.elim (fun h => absurd h.1 (nn rfl)) (fun q => q.elim (fun h => absurd h.1 (nn rfl)) (fun q => q.elim (fun h => absurd h.1 (nn rfl)) (fun q => q.elim (fun h => absurd h.1 (nn rfl)) (fun q => q.elim (fun h => absurd h.1 (nn rfl)) (fun q => q.elim (fun h => absurd h.1 (nn rfl)) (fun q => q.elim (fun h => absurd h (nn rfl)) (fun q => q.elim (fun h => absurd h (nn rfl)) (fun q => q.elim (fun h => absurd h.1 (nn rfl)) (fun q => q.elim (fun h => absurd h.1 (nn rfl)) (fun q => q.elim (fun h => absurd h.1 (nn rfl)) (fun h => absurd h.2 (by decide)))))))))))))
theorem q_46e5c6368 {x0 x1 x2 : Int} (f0 : (x0 = 0 ∧ x1 ≥ 0 ∧ x1 ≤ x2 ∧ x1 ≤ 600)) : (-2147483648) ≤ x1 := by omega
theorem q_e1f83221f {x0 x1 x2 : Int} (f0 : (x0 = 0 ∧ x1 ≥ 0 ∧ x1 ≤ x2 ∧ x1 ≤ 600)) : x1 ≤ 2147483647 := by omega
theorem q_ab5745232 {x0 x1 x2 : Int} (f0 : (x0 = 0 ∧ x1 ≥ 0 ∧ x1 ≤ x2 ∧ x1 ≤ 600)) : 0 ≤ x1 := by omega
theorem q_c78d853a5 {x0 x1 x2 : Int} (f0 : (x0 = 0 ∧ x1 ≥ 0 ∧ x1 ≤ x2 ∧ x1 ≤ 600)) : x1 ≤ x2 := by omega
theorem q_b794499be {x0 x1 x2 : Int} (f0 : (x0 = 0 ∧ x1 ≥ 0 ∧ x1 ≤ x2 ∧ x1 ≤ 600)) : x1 ≤ 600 := by omega
theorem qn_0d25b8d75 {j : Int} : ¬ (((43 : Nat) = 1 ∧ j = 1) ∨ ((43 : Nat) = 1 ∧ j = 2) ∨ ((43 : Nat) = 1 ∧ j = 3) ∨ ((43 : Nat) = 1 ∧ j = 4) ∨ ((43 : Nat) = 1 ∧ j = 5) ∨ ((43 : Nat) = 0 ∧ j = 13) ∨ (43 : Nat) = 38 ∨ (43 : Nat) = 40 ∨ ((43 : Nat) = 3 ∧ j = 3) ∨ ((43 : Nat) = 3 ∧ j = 4) ∨ ((43 : Nat) = 0 ∧ j = 11) ∨ (13 ≤ (43 : Nat) ∧ (43 : Nat) ≤ 36)) := (fun q => q.elim (fun h => absurd h.1 (nn rfl)) (fun q => q.elim (fun h => absurd h.1 (nn rfl)) (fun q => q.elim (fun h => absurd h.1 (nn rfl)) (fun q => q.elim (fun h => absurd h.1 (nn rfl)) (fun q => q.elim (fun h => absurd h.1 (nn rfl)) (fun q => q.elim (fun h => absurd h.1 (nn rfl)) (fun q => q.elim (fun h => absurd h (nn rfl)) (fun q => q.elim (fun h => absurd h (nn rfl)) (fun q => q.elim (fun h => absurd h.1 (nn rfl)) (fun q => q.elim (fun h => absurd h.1 (nn rfl)) (fun q => q.elim (fun h => absurd h.1 (nn rfl)) (fun h => absurd h.2 (by decide)))))))))))))
theorem qn_69e479294 {j : Int} : ¬ (((1 : Nat) = 41 ∧ j = 0) ∨ (1 : Nat) = 42 ∨ ((1 : Nat) = 41 ∧ j = 2) ∨ ((1 : Nat) = 41 ∧ j = 3) ∨ ((1 : Nat) = 41 ∧ j = 4) ∨ ((1 : Nat) = 41 ∧ j = 5) ∨ ((1 : Nat) = 41 ∧ j = 6) ∨ ((1 : Nat) = 41 ∧ j = 7) ∨ ((1 : Nat) = 41 ∧ j = 8) ∨ ((1 : Nat) = 41 ∧ j = 16) ∨ ((1 : Nat) = 41 ∧ j = 17) ∨ ((1 : Nat) = 41 ∧ j = 18) ∨ ((1 : Nat) = 41 ∧ j = 19) ∨ (1 : Nat) = 44 ∨ (1 : Nat) = 45 ∨ (1 : Nat) = 46 ∨ ((1 : Nat) = 41 ∧ j = 20) ∨ ((1 : Nat) = 41 ∧ j = 21) ∨ ((1 : Nat) = 41 ∧ j = 22) ∨ ((1 : Nat) = 41 ∧ j = 23) ∨ ((1 : Nat) = 41 ∧ j = 30) ∨ ((1 : Nat) = 41 ∧ j = 35) ∨ ((1 : Nat) = 41 ∧ j = 36) ∨ ((1 : Nat) = 41 ∧ j = 47) ∨ ((1 : Nat) = 41 ∧ j = 48) ∨ ((1 : Nat) = 41 ∧ j = 52) ∨ (1 : Nat) = 47 ∨ (1 : Nat) = 48 ∨ (1 : Nat) = 49 ∨ (1 : Nat) = 58 ∨ (1 : Nat) = 64) := (fun q => q.elim (fun h => absurd h.1 (nn rfl)) (fun q => q.elim (fun h => absurd h (nn rfl)) (fun q => q.elim (fun h => absurd h.1 (nn rfl)) (fun q => q.elim (fun h => absurd h.1 (nn rfl)) (fun q => q.elim (fun h => absurd h.1 (nn rfl)) (fun q => q.elim (fun h => absurd h.1 (nn rfl)) (fun q => q.elim (fun h => absurd h.1 (nn rfl)) (fun q => q.elim (fun h => absurd h.1 (nn rfl)) (fun q => q.elim (fun h => absurd h.1 (nn rfl)) (fun q => q.elim (fun h => absurd h.1 (nn rfl)) (fun q => q.elim (fun h => absurd h.1 (nn rfl)) (fun q => q.elim (fun h => absurd h.1 (nn rfl)) (fun q => q.elim (fun h => absurd h.1 (nn rfl)) (fun q => q.elim (fun h => absurd h (nn rfl)) (fun q => q.elim (fun h => absurd h (nn rfl)) (fun q => q.elim (fun h => absurd h (nn rfl)) (fun q => q.elim (fun h => absurd h.1 (nn rfl)) (fun q => q.elim (fun h => absurd h.1 (nn rfl)) (fun q => q.elim (fun h => absurd h.1 (nn rfl)) (fun q => q.elim (fun h => absurd h.1 (nn rfl)) (fun q => q.elim (fun h => absurd h.1 (nn rfl)) (fun q => q.elim (fun h => absurd h.1 (nn rfl)) (fun q => q.elim (fun h => absurd h.1 (nn rfl)) (fun q => q.elim (fun h => absurd h.1 (nn rfl)) (fun q => q.elim (fun h => absurd h.1 (nn rfl)) (fun q => q.elim (fun h => absurd h.1 (nn rfl)) (fun q => q.elim (fun h => absurd h (nn rfl)) (fun q => q.elim (fun h => absurd h (nn rfl)) (fun q => q.elim (fun h => absurd h (nn rfl)) (fun q => q.elim (fun h => absurd h (nn rfl)) (fun h => absurd h (nn rfl))))))))))))))))))))))))))))))))
theorem qn_4d0c31530 {P : Nat} {j : Int} (hP : P = 13 ∨ P = 25) : ¬ ((P = 41 ∧ j = 0) ∨ P = 42 ∨ (P = 41 ∧ j = 2) ∨ (P = 41 ∧ j = 3) ∨ (P = 41 ∧ j = 4) ∨ (P = 41 ∧ j = 5) ∨ (P = 41 ∧ j = 6) ∨ (P = 41 ∧ j = 7) ∨ (P = 41 ∧ j = 8) ∨ (P = 41 ∧ j = 16) ∨ (P = 41 ∧ j = 17) ∨ (P = 41 ∧ j = 18) ∨ (P = 41 ∧ j = 19) ∨ P = 44 ∨ P = 45 ∨ P = 46 ∨ (P = 41 ∧ j = 20) ∨ (P = 41 ∧ j = 21) ∨ (P = 41 ∧ j = 22) ∨ (P = 41 ∧ j = 23) ∨ (P = 41 ∧ j = 30) ∨ (P = 41 ∧ j = 35) ∨ (P = 41 ∧ j = 36) ∨ (P = 41 ∧ j = 47) ∨ (P = 41 ∧ j = 48) ∨ (P = 41 ∧ j = 52) ∨ P = 47 ∨ P = 48 ∨ P = 49 ∨ P = 58 ∨ P = 64) := (fun q => q.elim (fun h => absurd h.1 (np0 hP rfl)) (fun q => q.elim (fun h => absurd h (np0 hP rfl)) (fun q => q.elim (fun h => absurd h.1 (np0 hP rfl)) (fun q => q.elim (fun h => absurd h.1 (np0 hP rfl)) (fun q => q.elim (fun h => absurd h.1 (np0 hP rfl)) (fun q => q.elim (fun h => absurd h.1 (np0 hP rfl)) (fun q => q.elim (fun h => absurd h.1 (np0 hP rfl)) (fun q => q.elim (fun h => absurd h.1 (np0 hP rfl)) (fun q => q.elim (fun h => absurd h.1 (np0 hP rfl)) (fun q => q.elim (fun h => absurd h.1 (np0 hP rfl)) (fun q => q.elim (fun h => absurd h.1 (np0 hP rfl)) (fun q => q.elim (fun h => absurd h.1 (np0 hP rfl)) (fun q => q.elim (fun h => absurd h.1 (np0 hP rfl)) (fun q => q.elim (fun h => absurd h (np0 hP rfl)) (fun q => q.elim (fun h => absurd h (np0 hP rfl)) (fun q => q.elim (fun h => absurd h (np0 hP rfl)) (fun q => q.elim (fun h => absurd h.1 (np0 hP rfl)) (fun q => q.elim (fun h => absurd h.1 (np0 hP rfl)) (fun q => q.elim (fun h => absurd h.1 (np0 hP rfl)) (fun q => q.elim (fun h => absurd h.1 (np0 hP rfl)) (fun q => q.elim (fun h => absurd h.1 (np0 hP rfl)) (fun q => q.elim (fun h => absurd h.1 (np0 hP rfl)) (fun q => q.elim (fun h => absurd h.1 (np0 hP rfl)) (fun q => q.elim (fun h => absurd h.1 (np0 hP rfl)) (fun q => q.elim (fun h => absurd h.1 (np0 hP rfl)) (fun q => q.elim (fun h => absurd h.1 (np0 hP rfl)) (fun q => q.elim (fun h => absurd h (np0 hP rfl)) (fun q => q.elim (fun h => absurd h (np0 hP rfl)) (fun q => q.elim (fun h => absurd h (np0 hP rfl)) (fun q => q.elim (fun h => absurd h (np0 hP rfl)) (fun h => absurd h (np0 hP rfl))))))))))))))))))))))))))))))))
theorem qn_dc156a346 {j : Int} : ¬ (((3 : Nat) = 41 ∧ j = 0) ∨ (3 : Nat) = 42 ∨ ((3 : Nat) = 41 ∧ j = 2) ∨ ((3 : Nat) = 41 ∧ j = 3) ∨ ((3 : Nat) = 41 ∧ j = 4) ∨ ((3 : Nat) = 41 ∧ j = 5) ∨ ((3 : Nat) = 41 ∧ j = 6) ∨ ((3 : Nat) = 41 ∧ j = 7) ∨ ((3 : Nat) = 41 ∧ j = 8) ∨ ((3 : Nat) = 41 ∧ j = 16) ∨ ((3 : Nat) = 41 ∧ j = 17) ∨ ((3 : Nat) = 41 ∧ j = 18) ∨ ((3 : Nat) = 41 ∧ j = 19) ∨ (3 : Nat) = 44 ∨ (3 : Nat) = 45 ∨ (3 : Nat) = 46 ∨ ((3 : Nat) = 41 ∧ j = 20) ∨ ((3 : Nat) = 41 ∧ j = 21) ∨ ((3 : Nat) = 41 ∧ j = 22) ∨ ((3 : Nat) = 41 ∧ j = 23) ∨ ((3 : Nat) = 41 ∧ j = 30) ∨ ((3 : Nat) = 41 ∧ j = 35) ∨ ((3 : Nat) = 41 ∧ j = 36) ∨ ((3 : Nat) = 41 ∧ j = 47) ∨ ((3 : Nat) = 41 ∧ j = 48) ∨ ((3 : Nat) = 41 ∧ j = 52) ∨ (3 : Nat) = 47 ∨ (3 : Nat) = 48 ∨ (3 : Nat) = 49 ∨ (3 : Nat) = 58 ∨ (3 : Nat) = 64) := (fun q => q.elim (fun h => absurd h.1 (nn rfl)) (fun q => q.elim (fun h => absurd h (nn rfl)) (fun q => q.elim (fun h => absurd h.1 (nn rfl)) (fun q => q.elim (fun h => absurd h.1 (nn rfl)) (fun q => q.elim (fun h => absurd h.1 (nn rfl)) (fun q => q.elim (fun h => absurd h.1 (nn rfl)) (fun q => q.elim (fun h => absurd h.1 (nn rfl)) (fun q => q.elim (fun h => absurd h.1 (nn rfl)) (fun q => q.elim (fun h => absurd h.1 (nn rfl)) (fun q => q.elim (fun h => absurd h.1 (nn rfl)) (fun q => q.elim (fun h => absurd h.1 (nn rfl)) (fun q => q.elim (fun h => absurd h.1 (nn rfl)) (fun q => q.elim (fun h => absurd h.1 (nn rfl)) (fun q => q.elim (fun h => absurd h (nn rfl)) (fun q => q.elim (fun h => absurd h (nn rfl)) (fun q => q.elim (fun h => absurd h (nn rfl)) (fun q => q.elim (fun h => absurd h.1 (nn rfl)) (fun q => q.elim (fun h => absurd h.1 (nn rfl)) (fun q => q.elim (fun h => absurd h.1 (nn rfl)) (fun q => q.elim (fun h => absurd h.1 (nn rfl)) (fun q => q.elim (fun h => absurd h.1 (nn rfl)) (fun q => q.elim (fun h => absurd h.1 (nn rfl)) (fun q => q.elim (fun h => absurd h.1 (nn rfl)) (fun q => q.elim (fun h => absurd h.1 (nn rfl)) (fun q => q.elim (fun h => absurd h.1 (nn rfl)) (fun q => q.elim (fun h => absurd h.1 (nn rfl)) (fun q => q.elim (fun h => absurd h (nn rfl)) (fun q => q.elim (fun h => absurd h (nn rfl)) (fun q => q.elim (fun h => absurd h (nn rfl)) (fun q => q.elim (fun h => absurd h (nn rfl)) (fun h => absurd h (nn rfl))))))))))))))))))))))))))))))))
theorem qn_1ac48cb63 {j : Int} : ¬ (((2 : Nat) = 41 ∧ j = 0) ∨ (2 : Nat) = 42 ∨ ((2 : Nat) = 41 ∧ j = 2) ∨ ((2 : Nat) = 41 ∧ j = 3) ∨ ((2 : Nat) = 41 ∧ j = 4) ∨ ((2 : Nat) = 41 ∧ j = 5) ∨ ((2 : Nat) = 41 ∧ j = 6) ∨ ((2 : Nat) = 41 ∧ j = 7) ∨ ((2 : Nat) = 41 ∧ j = 8) ∨ ((2 : Nat) = 41 ∧ j = 16) ∨ ((2 : Nat) = 41 ∧ j = 17) ∨ ((2 : Nat) = 41 ∧ j = 18) ∨ ((2 : Nat) = 41 ∧ j = 19) ∨ (2 : Nat) = 44 ∨ (2 : Nat) = 45 ∨ (2 : Nat) = 46 ∨ ((2 : Nat) = 41 ∧ j = 20) ∨ ((2 : Nat) = 41 ∧ j = 21) ∨ ((2 : Nat) = 41 ∧ j = 22) ∨ ((2 : Nat) = 41 ∧ j = 23) ∨ ((2 : Nat) = 41 ∧ j = 30) ∨ ((2 : Nat) = 41 ∧ j = 35) ∨ ((2 : Nat) = 41 ∧ j = 36) ∨ ((2 : Nat) = 41 ∧ j = 47) ∨ ((2 : Nat) = 41 ∧ j = 48) ∨ ((2 : Nat) = 41 ∧ j = 52) ∨ (2 : Nat) = 47 ∨ (2 : Nat) = 48 ∨ (2 : Nat) = 49 ∨ (2 : Nat) = 58 ∨ (2 : Nat) = 64) := (fun q => q.elim (fun h => absurd h.1 (nn rfl)) (fun q => q.elim (fun h => absurd h (nn rfl)) (fun q => q.elim (fun h => absurd h.1 (nn rfl)) (fun q => q.elim (fun h => absurd h.1 (nn rfl)) (fun q => q.elim (fun h => absurd h.1 (nn rfl)) (fun q => q.elim (fun h => absurd h.1 (nn rfl)) (fun q => q.elim (fun h => absurd h.1 (nn rfl)) (fun q => q.elim (fun h => absurd h.1 (nn rfl)) (fun q => q.elim (fun h => absurd h.1 (nn rfl)) (fun q => q.elim (fun h => absurd h.1 (nn rfl)) (fun q => q.elim (fun h => absurd h.1 (nn rfl)) (fun q => q.elim (fun h => absurd h.1 (nn rfl)) (fun q => q.elim (fun h => absurd h.1 (nn rfl)) (fun q => q.elim (fun h => absurd h (nn rfl)) (fun q => q.elim (fun h => absurd h (nn rfl)) (fun q => q.elim (fun h => absurd h (nn rfl)) (fun q => q.elim (fun h => absurd h.1 (nn rfl)) (fun q => q.elim (fun h => absurd h.1 (nn rfl)) (fun q => q.elim (fun h => absurd h.1 (nn rfl)) (fun q => q.elim (fun h => absurd h.1 (nn rfl)) (fun q => q.elim (fun h => absurd h.1 (nn rfl)) (fun q => q.elim (fun h => absurd h.1 (nn rfl)) (fun q => q.elim (fun h => absurd h.1 (nn rfl)) (fun q => q.elim (fun h => absurd h.1 (nn rfl)) (fun q => q.elim (fun h => absurd h.1 (nn rfl)) (fun q => q.elim (fun h => absurd h.1 (nn rfl)) (fun q => q.elim (fun h => absurd h (nn rfl)) (fun q => q.elim (fun h => absurd h (nn rfl)) (fun q => q.elim (fun h => absurd h (nn rfl)) (fun q => q.elim (fun h => absurd h (nn rfl)) (fun h => absurd h (nn rfl))))))))))))))))))))))))))))))))
theorem qn_e229611f6 {j : Int} : ¬ (((2 : Nat) = 1 ∧ j = 1) ∨ ((2 : Nat) = 1 ∧ j = 2) ∨ ((2 : Nat) = 1 ∧ j = 3) ∨ ((2 : Nat) = 1 ∧ j = 4) ∨ ((2 : Nat) = 1 ∧ j = 5) ∨ ((2 : Nat) = 0 ∧ j = 13) ∨ (2 : Nat) = 38 ∨ (2 : Nat) = 40 ∨ ((2 : Nat) = 3 ∧ j = 3) ∨ ((2 : Nat) = 3 ∧ j = 4) ∨ ((2 : Nat) = 0 ∧ j = 11) ∨ (13 ≤ (2 : Nat) ∧ (2 : Nat) ≤ 36)) := (fun q => q.elim (fun h => absurd h.1 (nn rfl)) (fun q => q.elim (fun h => absurd h.1 (nn rfl)) (fun q => q.elim (fun h => absurd h.1 (nn rfl)) (fun q => q.elim (fun h => absurd h.1 (nn rfl)) (fun q => q.elim (fun h => absurd h.1 (nn rfl)) (fun q => q.elim (fun h => absurd h.1 (nn rfl)) (fun q => q.elim (fun h => absurd h (nn rfl)) (fun q => q.elim (fun h => absurd h (nn rfl)) (fun q => q.elim (fun h => absurd h.1 (nn rfl)) (fun q => q.elim (fun h => absurd h.1 (nn rfl)) (fun q => q.elim (fun h => absurd h.1 (nn rfl)) (fun h => absurd h.1 (by decide)))))))))))))
theorem qn_716ccd88d {j : Int} : ¬ (((6 : Nat) = 41 ∧ j = 0) ∨ (6 : Nat) = 42 ∨ ((6 : Nat) = 41 ∧ j = 2) ∨ ((6 : Nat) = 41 ∧ j = 3) ∨ ((6 : Nat) = 41 ∧ j = 4) ∨ ((6 : Nat) = 41 ∧ j = 5) ∨ ((6 : Nat) = 41 ∧ j = 6) ∨ ((6 : Nat) = 41 ∧ j = 7) ∨ ((6 : Nat) = 41 ∧ j = 8) ∨ ((6 : Nat) = 41 ∧ j = 16) ∨ ((6 : Nat) = 41 ∧ j = 17) ∨ ((6 : Nat) = 41 ∧ j = 18) ∨ ((6 : Nat) = 41 ∧ j = 19) ∨ (6 : Nat) = 44 ∨ (6 : Nat) = 45 ∨ (6 : Nat) = 46 ∨ ((6 : Nat) = 41 ∧ j = 20) ∨ ((6 : Nat) = 41 ∧ j = 21) ∨ ((6 : Nat) = 41 ∧ j = 22) ∨ ((6 : Nat) = 41 ∧ j = 23) ∨ ((6 : Nat) = 41 ∧ j = 30) ∨ ((6 : Nat) = 41 ∧ j = 35) ∨ ((6 : Nat) = 41 ∧ j = 36) ∨ ((6 : Nat) = 41 ∧ j = 47) ∨ ((6 : Nat) = 41 ∧ j = 48) ∨ ((6 : Nat) = 41 ∧ j = 52) ∨ (6 : Nat) = 47 ∨ (6 : Nat) = 48 ∨ (6 : Nat) = 49 ∨ (6 : Nat) = 58 ∨ (6 : Nat) = 64) := (fun q => q.elim (fun h => absurd h.1 (nn rfl)) (fun q => q.elim (fun h => absurd h (nn rfl)) (fun q => q.elim (fun h => absurd h.1 (nn rfl)) (fun q => q.elim (fun h => absurd h.1 (nn rfl)) (fun q => q.elim (fun h => absurd h.1 (nn rfl)) (fun q => q.elim (fun h => absurd h.1 (nn rfl)) (fun q => q.elim (fun h => absurd h.1 (nn rfl)) (fun q => q.elim (fun h => absurd h.1 (nn rfl)) (fun q => q.elim (fun h => absurd h.1 (nn rfl)) (fun q => q.elim (fun h => absurd h.1 (nn rfl)) (fun q => q.elim (fun h => absurd h.1 (nn rfl)) (fun q => q.elim (fun h => absurd h.1 (nn rfl)) (fun q => q.elim (fun h => absurd h.1 (nn rfl)) (fun q => q.elim (fun h => absurd h (nn rfl)) (fun q => q.elim (fun h => absurd h (nn rfl)) (fun q => q.elim (fun h => absurd h (nn rfl)) (fun q => q.elim (fun h => absurd h.1 (nn rfl)) (fun q => q.elim (fun h => absurd h.1 (nn rfl)) (fun q => q.elim (fun h => absurd h.1 (nn rfl)) (fun q => q.elim (fun h => absurd h.1 (nn rfl)) (fun q => q.elim (fun h => absurd h.1 (nn rfl)) (fun q => q.elim (fun h => absurd h.1 (nn rfl)) (fun q => q.elim (fun h => absurd h.1 (nn rfl)) (fun q => q.elim (fun h => absurd h.1 (nn rfl)) (fun q => q.elim (fun h => absurd h.1 (nn rfl)) (fun q => q.elim (fun h => absurd h.1 (nn rfl)) (fun q => q.elim (fun h => absurd h (nn rfl)) (fun q => q.elim (fun h => absurd h (nn rfl)) (fun q => q.elim (fun h => absurd h (nn rfl)) (fun q => q.elim (fun h => absurd h (nn rfl)) (fun h => absurd h (nn rfl))))))))))))))))))))))))))))))))
theorem qn_bc8185036 {j : Int} : ¬ (((6 : Nat) = 1 ∧ j = 1) ∨ ((6 : Nat) = 1 ∧ j = 2) ∨ ((6 : Nat) = 1 ∧ j = 3) ∨ ((6 : Nat) = 1 ∧ j = 4) ∨ ((6 : Nat) = 1 ∧ j = 5) ∨ ((6 : Nat) = 0 ∧ j = 13) ∨ (6 : Nat) = 38 ∨ (6 : Nat) = 40 ∨ ((6 : Nat) = 3 ∧ j = 3) ∨ ((6 : Nat) = 3 ∧ j = 4) ∨ ((6 : Nat) = 0 ∧ j = 11) ∨ (13 ≤ (6 : Nat) ∧ (6 : Nat) ≤ 36)) := (fun q => q.elim (fun h => absurd h.1 (nn rfl)) (fun q => q.elim (fun h => absurd h.1 (nn rfl)) (fun q => q.elim (fun h => absurd h.1 (nn rfl)) (fun q => q.elim (fun h => absurd h.1 (nn rfl)) (fun q => q.elim (fun h => absurd h.1 (nn rfl)) (fun q => q.elim (fun h => absurd h.1 (nn rfl)) (fun q => q.elim (fun h => absurd h (nn rfl)) (fun q => q.elim (fun h => absurd h (nn rfl)) (fun q => q.elim (fun h => absurd h.1 (nn rfl)) (fun q => q.elim (fun h => absurd h.1 (nn rfl)) (fun q => q.elim (fun h => absurd h.1 (nn rfl)) (fun h => absurd h.1 (by decide)))))))))))))
theorem qn_0a54c67a5 {j : Int} : ¬ (((66 : Nat) = 41 ∧ j = 0) ∨ (66 : Nat) = 42 ∨ ((66 : Nat) = 41 ∧ j = 2) ∨ ((66 : Nat) = 41 ∧ j = 3) ∨ ((66 : Nat) = 41 ∧ j = 4) ∨ ((66 : Nat) = 41 ∧ j = 5) ∨ ((66 : Nat) = 41 ∧ j = 6) ∨ ((66 : Nat) = 41 ∧ j = 7) ∨ ((66 : Nat) = 41 ∧ j = 8) ∨ ((66 : Nat) = 41 ∧ j = 16) ∨ ((66 : Nat) = 41 ∧ j = 17) ∨ ((66 : Nat) = 41 ∧ j = 18) ∨ ((66 : Nat) = 41 ∧ j = 19) ∨ (66 : Nat) = 44 ∨ (66 : Nat) = 45 ∨ (66 : Nat) = 46 ∨ ((66 : Nat) = 41 ∧ j = 20) ∨ ((66 : Nat) = 41 ∧ j = 21) ∨ ((66 : Nat) = 41 ∧ j = 22) ∨ ((66 : Nat) = 41 ∧ j = 23) ∨ ((66 : Nat) = 41 ∧ j = 30) ∨ ((66 : Nat) = 41 ∧ j = 35) ∨ ((66 : Nat) = 41 ∧ j = 36) ∨ ((66 : Nat) = 41 ∧ j = 47) ∨ ((66 : Nat) = 41 ∧ j = 48) ∨ ((66 : Nat) = 41 ∧ j = 52) ∨ (66 : Nat) = 47 ∨ (66 : Nat) = 48 ∨ (66 : Nat) = 49 ∨ (66 : Nat) = 58 ∨ (66 : Nat) = 64) := (fun q => q.elim (fun h => absurd h.1 (nn rfl)) (fun q => q.elim (fun h => absurd h (nn rfl)) (fun q => q.elim (fun h => absurd h.1 (nn rfl)) (fun q => q.elim (fun h => absurd h.1 (nn rfl)) (fun q => q.elim (fun h => absurd h.1 (nn rfl)) (fun q => q.elim (fun h => absurd h.1 (nn rfl)) (fun q => q.elim (fun h => absurd h.1 (nn rfl)) (fun q => q.elim (fun h => absurd h.1 (nn rfl)) (fun q => q.elim (fun h => absurd h.1 (nn rfl)) (fun q => q.elim (fun h => absurd h.1 (nn rfl)) (fun q => q.elim (fun h => absurd h.1 (nn rfl)) (fun q => q.elim (fun h => absurd h.1 (nn rfl)) (fun q => q.elim (fun h => absurd h.1 (nn rfl)) (fun q => q.elim (fun h => absurd h (nn rfl)) (fun q => q.elim (fun h => absurd h (nn rfl)) (fun q => q.elim (fun h => absurd h (nn rfl)) (fun q => q.elim (fun h => absurd h.1 (nn rfl)) (fun q => q.elim (fun h => absurd h.1 (nn rfl)) (fun q => q.elim (fun h => absurd h.1 (nn rfl)) (fun q => q.elim (fun h => absurd h.1 (nn rfl)) (fun q => q.elim (fun h => absurd h.1 (nn rfl)) (fun q => q.elim (fun h => absurd h.1 (nn rfl)) (fun q => q.elim (fun h => absurd h.1 (nn rfl)) (fun q => q.elim (fun h => absurd h.1 (nn rfl)) (fun q => q.elim (fun h => absurd h.1 (nn rfl)) (fun q => q.elim (fun h => absurd h.1 (nn rfl)) (fun q => q.elim (fun h => absurd h (nn rfl)) (fun q => q.elim (fun h => absurd h (nn rfl)) (fun q => q.elim (fun h => absurd h (nn rfl)) (fun q => q.elim (fun h => absurd h (nn rfl)) (fun h => absurd h (nn rfl))))))))))))))))))))))))))))))))
theorem qn_82c2f0992 {j : Int} : ¬ (((66 : Nat) = 1 ∧ j = 1) ∨ ((66 : Nat) = 1 ∧ j = 2) ∨ ((66 : Nat) = 1 ∧ j = 3) ∨ ((66 : Nat) = 1 ∧ j = 4) ∨ ((66 : Nat) = 1 ∧ j = 5) ∨ ((66 : Nat) = 0 ∧ j = 13) ∨ (66 : Nat) = 38 ∨ (66 : Nat) = 40 ∨ ((66 : Nat) = 3 ∧ j = 3) ∨ ((66 : Nat) = 3 ∧ j = 4) ∨ ((66 : Nat) = 0 ∧ j = 11) ∨ (13 ≤ (66 : Nat) ∧ (66 : Nat) ≤ 36)) := (fun q => q.elim (fun h => absurd h.1 (nn rfl)) (fun q => q.elim (fun h => absurd h.1 (nn rfl)) (fun q => q.elim (fun h => absurd h.1 (nn rfl)) (fun q => q.elim (fun h => absurd h.1 (nn rfl)) (fun q => q.elim (fun h => absurd h.1 (nn rfl)) (fun q => q.elim (fun h => absurd h.1 (nn rfl)) (fun q => q.elim (fun h => absurd h (nn rfl)) (fun q => q.elim (fun h => absurd h (nn rfl)) (fun q => q.elim (fun h => absurd h.1 (nn rfl)) (fun q => q.elim (fun h => absurd h.1 (nn rfl)) (fun q => q.elim (fun h => absurd h.1 (nn rfl)) (fun h => absurd h.2 (by decide)))))))))))))
theorem qn_6e098d395 {j : Int} : ¬ (((1 : Nat) = 41 ∧ j = 0) ∨ (1 : Nat) = 42 ∨ ((1 : Nat) = 41 ∧ j = 2) ∨ ((1 : Nat) = 41 ∧ j = 3) ∨ ((1 : Nat) = 41 ∧ j = 4) ∨ ((1 : Nat) = 41 ∧ j = 5) ∨ ((1 : Nat) = 41 ∧ j = 6) ∨ ((1 : Nat) = 41 ∧ j = 7) ∨ ((1 : Nat) = 41 ∧ j = 8) ∨ ((1 : Nat) = 41 ∧ j = 29) ∨ ((1 : Nat) = 41 ∧ j = 30) ∨ (1 : Nat) = 50 ∨ (1 : Nat) = 51 ∨ (1 : Nat) = 52 ∨ (1 : Nat) = 53) := (fun q => q.elim (fun h => absurd h.1 (nn rfl)) (fun q => q.elim (fun h => absurd h (nn rfl)) (fun q => q.elim (fun h => absurd h.1 (nn rfl)) (fun q => q.elim (fun h => absurd h.1 (nn rfl)) (fun q => q.elim (fun h => absurd h.1 (nn rfl)) (fun q => q.elim (fun h => absurd h.1 (nn rfl)) (fun q => q.elim (fun h => absurd h.1 (nn rfl)) (fun q => q.elim (fun h => absurd h.1 (nn rfl)) (fun q => q.elim (fun h => absurd h.1 (nn rfl)) (fun q => q.elim (fun h => absurd h.1 (nn rfl)) (fun q => q.elim (fun h => absurd h.1 (nn rfl)) (fun q => q.elim (fun h => absurd h (nn rfl)) (fun q => q.elim (fun h => absurd h (nn rfl)) (fun q => q.elim (fun h => absurd h (nn rfl)) (fun h => absurd h (nn rfl))))))))))))))))
theorem qn_6cada6812 {P : Nat} {j : Int} (hP : P = 13 ∨ P = 25) : ¬ ((P = 41 ∧ j = 0) ∨ P = 42 ∨ (P = 41 ∧ j = 2) ∨ (P = 41 ∧ j = 3) ∨ (P = 41 ∧ j = 4) ∨ (P = 41 ∧ j = 5) ∨ (P = 41 ∧ j = 6) ∨ (P = 41 ∧ j = 7) ∨ (P = 41 ∧ j = 8) ∨ (P = 41 ∧ j = 29) ∨ (P = 41 ∧ j = 30) ∨ P = 50 ∨ P = 51 ∨ P = 52 ∨ P = 53) := (fun q => q.elim (fun h => absurd h.1 (np0 hP rfl)) (fun q => q.elim (fun h => absurd h (np0 hP rfl)) (fun q => q.elim (fun h => absurd h.1 (np0 hP rfl)) (fun q => q.elim (fun h => absurd h.1 (np0 hP rfl)) (fun q => q.elim (fun h => absurd h.1 (np0 hP rfl)) (fun q => q.elim (fun h => absurd h.1 (np0 hP rfl)) (fun q => q.elim (fun h => absurd h.1 (np0 hP rfl)) (fun q => q.elim (fun h => absurd h.1 (np0 hP rfl)) (fun q => q.elim (fun h => absurd h.1 (np0 hP rfl)) (fun q => q.elim (fun h => absurd h.1 (np0 hP rfl)) (fun q => q.elim (fun h => absurd h.1 (np0 hP rfl)) (fun q => q.elim (fun h => absurd h (np0 hP rfl)) (fun q => q.elim (fun h => absurd h (np0 hP rfl)) (fun q => q.elim (fun h => absurd h (np0 hP rfl)) (fun h => absurd h (np0 hP rfl))))))))))))))))
theorem qn_dccf86c1c : ¬ (((41 : Nat) = 41 ∧ (20 : Int) = 0) ∨ (41 : Nat) = 42 ∨ ((41 : Nat) = 41 ∧ (20 : Int) = 2) ∨ ((41 : Nat) = 41 ∧ (20 : Int) = 3) ∨ ((41 : Nat) = 41 ∧ (20 : Int) = 4) ∨ ((41 : Nat) = 41 ∧ (20 : Int) = 5) ∨ ((41 : Nat) = 41 ∧ (20 : Int) = 6) ∨ ((41 : Nat) = 41 ∧ (20 : Int) = 7) ∨ ((41 : Nat) = 41 ∧ (20 : Int) = 8) ∨ ((41 : Nat) = 41 ∧ (20 : Int) = 29) ∨ ((41 : Nat) = 41 ∧ (20 : Int) = 30) ∨ (41 : Nat) = 50 ∨ (41 : Nat) = 51 ∨ (41 : Nat) = 52 ∨ (41 : Nat) = 53) := (fun q => q.elim (fun h => absurd h.2 (ni rfl)) (fun q => q.elim (fun h => absurd h (nn rfl)) (fun q => q.elim (fun h => absurd h.2 (ni rfl)) (fun q => q.elim (fun h => absurd h.2 (ni rfl)) (fun q => q.elim (fun h => absurd h.2 (ni rfl)) (fun q => q.elim (fun h => absurd h.2 (ni rfl)) (fun q => q.elim (fun h => absurd h.2 (ni rfl)) (fun q => q.elim (fun h => absurd h.2 (ni rfl)) (fun q => q.elim (fun h => absurd h.2 (ni rfl)) (fun q => q.elim (fun h => absurd h.2 (ni rfl)) (fun q => q.elim (fun h => absurd h.2 (ni rfl)) (fun q => q.elim (fun h => absurd h (nn rfl)) (fun q => q.elim (fun h => absurd h (nn rfl)) (fun q => q.elim (fun h => absurd h (nn rfl)) (fun h => absurd h (nn rfl))))))))))))))))
theorem qn_29130c158 : ¬ (((41 : Nat) = 41 ∧ (21 : Int) = 0) ∨ (41 : Nat) = 42 ∨ ((41 : Nat) = 41 ∧ (21 : Int) = 2) ∨ ((41 : Nat) = 41 ∧ (21 : Int) = 3) ∨ ((41 : Nat) = 41 ∧ (21 : Int) = 4) ∨ ((41 : Nat) = 41 ∧ (21 : Int) = 5) ∨ ((41 : Nat) = 41 ∧ (21 : Int) = 6) ∨ ((41 : Nat) = 41 ∧ (21 : Int) = 7) ∨ ((41 : Nat) = 41 ∧ (21 : Int) = 8) ∨ ((41 : Nat) = 41 ∧ (21 : Int) = 29) ∨ ((41 : Nat) = 41 ∧ (21 : Int) = 30) ∨ (41 : Nat) = 50 ∨ (41 : Nat) = 51 ∨ (41 : Nat) = 52 ∨ (41 : Nat) = 53) := (fun q => q.elim (fun h => absurd h.2 (ni rfl)) (fun q => q.elim (fun h => absurd h (nn rfl)) (fun q => q.elim (fun h => absurd h.2 (ni rfl)) (fun q => q.elim (fun h => absurd h.2 (ni rfl)) (fun q => q.elim (fun h => absurd h.2 (ni rfl)) (fun q => q.elim (fun h => absurd h.2 (ni rfl)) (fun q => q.elim (fun h => absurd h.2 (ni rfl)) (fun q => q.elim (fun h => absurd h.2 (ni rfl)) (fun q => q.elim (fun h => absurd h.2 (ni rfl)) (fun q => q.elim (fun h => absurd h.2 (ni rfl)) (fun q => q.elim (fun h => absurd h.2 (ni rfl)) (fun q => q.elim (fun h => absurd h (nn rfl)) (fun q => q.elim (fun h => absurd h (nn rfl)) (fun q => q.elim (fun h => absurd h (nn rfl)) (fun h => absurd h (nn rfl))))))))))))))))
theorem qn_e543f8eca : ¬ (((41 : Nat) = 41 ∧ (22 : Int) = 0) ∨ (41 : Nat) = 42 ∨ ((41 : Nat) = 41 ∧ (22 : Int) = 2) ∨ ((41 : Nat) = 41 ∧ (22 : Int) = 3) ∨ ((41 : Nat) = 41 ∧ (22 : Int) = 4) ∨ ((41 : Nat) = 41 ∧ (22 : Int) = 5) ∨ ((41 : Nat) = 41 ∧ (22 : Int) = 6) ∨ ((41 : Nat) = 41 ∧ (22 : Int) = 7) ∨ ((41 : Nat) = 41 ∧ (22 : Int) = 8) ∨ ((41 : Nat) = 41 ∧ (22 : Int) = 29) ∨ ((41 : Nat) = 41 ∧ (22 : Int) = 30) ∨ (41 : Nat) = 50 ∨ (41 : Nat) = 51 ∨ (41 : Nat) = 52 ∨ (41 : Nat) = 53) := (fun q => q.elim (fun h => absurd h.2 (ni rfl)) (fun q => q.elim (fun h => absurd h (nn rfl)) (fun q => q.elim (fun h => absurd h.2 (ni rfl)) (fun q => q.elim (fun h => absurd h.2 (ni rfl)) (fun q => q.elim (fun h => absurd h.2 (ni rfl)) (fun q => q.elim (fun h => absurd h.2 (ni rfl)) (fun q => q.elim (fun h => absurd h.2 (ni rfl)) (fun q => q.elim (fun h => absurd h.2 (ni rfl)) (fun q => q.elim (fun h => absurd h.2 (ni rfl)) (fun q => q.elim (fun h => absurd h.2 (ni rfl)) (fun q => q.elim (fun h => absurd h.2 (ni rfl)) (fun q => q.elim (fun h => absurd h (nn rfl)) (fun q => q.elim (fun h => absurd h (nn rfl)) (fun q => q.elim (fun h => absurd h (nn rfl)) (fun h => absurd h (nn rfl))))))))))))))))
theorem qn_0ec1c0dac : ¬ (((41 : Nat) = 41 ∧ (23 : Int) = 0) ∨ (41 : Nat) = 42 ∨ ((41 : Nat) = 41 ∧ (23 : Int) = 2) ∨ ((41 : Nat) = 41 ∧ (23 : Int) = 3) ∨ ((41 : Nat) = 41 ∧ (23 : Int) = 4) ∨ ((41 : Nat) = 41 ∧ (23 : Int) = 5) ∨ ((41 : Nat) = 41 ∧ (23 : Int) = 6) ∨ ((41 : Nat) = 41 ∧ (23 : Int) = 7) ∨ ((41 : Nat) = 41 ∧ (23 : Int) = 8) ∨ ((41 : Nat) = 41 ∧ (23 : Int) = 29) ∨ ((41 : Nat) = 41 ∧ (23 : Int) = 30) ∨ (41 : Nat) = 50 ∨ (41 : Nat) = 51 ∨ (41 : Nat) = 52 ∨ (41 : Nat) = 53) := (fun q => q.elim (fun h => absurd h.2 (ni rfl)) (fun q => q.elim (fun h => absurd h (nn rfl)) (fun q => q.elim (fun h => absurd h.2 (ni rfl)) (fun q => q.elim (fun h => absurd h.2 (ni rfl)) (fun q => q.elim (fun h => absurd h.2 (ni rfl)) (fun q => q.elim (fun h => absurd h.2 (ni rfl)) (fun q => q.elim (fun h => absurd h.2 (ni rfl)) (fun q => q.elim (fun h => absurd h.2 (ni rfl)) (fun q => q.elim (fun h => absurd h.2 (ni rfl)) (fun q => q.elim (fun h => absurd h.2 (ni rfl)) (fun q => q.elim (fun h => absurd h.2 (ni rfl)) (fun q => q.elim (fun h => absurd h (nn rfl)) (fun q => q.elim (fun h => absurd h (nn rfl)) (fun q => q.elim (fun h => absurd h (nn rfl)) (fun h => absurd h (nn rfl))))))))))))))))
theorem qn_0c1841372 {j : Int} : ¬ (((3 : Nat) = 41 ∧ j = 0) ∨ (3 : Nat) = 42 ∨ ((3 : Nat) = 41 ∧ j = 2) ∨ ((3 : Nat) = 41 ∧ j = 3) ∨ ((3 : Nat) = 41 ∧ j = 4) ∨ ((3 : Nat) = 41 ∧ j = 5) ∨ ((3 : Nat) = 41 ∧ j = 6) ∨ ((3 : Nat) = 41 ∧ j = 7) ∨ ((3 : Nat) = 41 ∧ j = 8) ∨ ((3 : Nat) = 41 ∧ j = 29) ∨ ((3 : Nat) = 41 ∧ j = 30) ∨ (3 : Nat) = 50 ∨ (3 : Nat) = 51 ∨ (3 : Nat) = 52 ∨ (3 : Nat) = 53) := (fun q => q.elim (fun h => absurd h.1 (nn rfl)) (fun q => q.elim (fun h => absurd h (nn rfl)) (fun q => q.elim (fun h => absurd h.1 (nn rfl)) (fun q => q.elim (fun h => absurd h.1 (nn rfl)) (fun q => q.elim (fun h => absurd h.1 (nn rfl)) (fun q => q.elim (fun h => absurd h.1 (nn rfl)) (fun q => q.elim (fun h => absurd h.1 (nn rfl)) (fun q => q.elim (fun h => absurd h.1 (nn rfl)) (fun q => q.elim (fun h => absurd h.1 (nn rfl)) (fun q => q.elim (fun h => absurd h.1 (nn rfl)) (fun q => q.elim (fun h => absurd h.1 (nn rfl)) (fun q => q.elim (fun h => absurd h (nn rfl)) (fun q => q.elim (fun h => absurd h (nn rfl)) (fun q => q.elim (fun h => absurd h (nn rfl)) (fun h => absurd h (nn rfl))))))))))))))))
theorem qn_63017ad2d : ¬ (((41 : Nat) = 41 ∧ (52 : Int) = 0) ∨ (41 : Nat) = 42 ∨ ((41 : Nat) = 41 ∧ (52 : Int) = 2) ∨ ((41 : Nat) = 41 ∧ (52 : Int) = 3) ∨ ((41 : Nat) = 41 ∧ (52 : Int) = 4) ∨ ((41 : Nat) = 41 ∧ (52 : Int) = 5) ∨ ((41 : Nat) = 41 ∧ (52 : Int) = 6) ∨ ((41 : Nat) = 41 ∧ (52 : Int) = 7) ∨ ((41 : Nat) = 41 ∧ (52 : Int) = 8) ∨ ((41 : Nat) = 41 ∧ (52 : Int) = 29) ∨ ((41 : Nat) = 41 ∧ (52 : Int) = 30) ∨ (41 : Nat) = 50 ∨ (41 : Nat) = 51 ∨ (41 : Nat) = 52 ∨ (41 : Nat) = 53) := (fun q => q.elim (fun h => absurd h.2 (ni rfl)) (fun q => q.elim (fun h => absurd h (nn rfl)) (fun q => q.elim (fun h => absurd h.2 (ni rfl)) (fun q => q.elim (fun h => absurd h.2 (ni rfl)) (fun q => q.elim (fun h => absurd h.2 (ni rfl)) (fun q => q.elim (fun h => absurd h.2 (ni rfl)) (fun q => q.elim (fun h => absurd h.2 (ni rfl)) (fun q => q.elim (fun h => absurd h.2 (ni rfl)) (fun q => q.elim (fun h => absurd h.2 (ni rfl)) (fun q => q.elim (fun h => absurd h.2 (ni rfl)) (fun q => q.elim (fun h => absurd h.2 (ni rfl)) (fun q => q.elim (fun h => absurd h (nn rfl)) (fun q => q.elim (fun h => absurd h (nn rfl)) (fun q => q.elim (fun h => absurd h (nn rfl)) (fun h => absurd h (nn rfl))))))))))))))))
theorem qn_7a0622093 : ¬ (((41 : Nat) = 41 ∧ (35 : Int) = 0) ∨ (41 : Nat) = 42 ∨ ((41 : Nat) = 41 ∧ (35 : Int) = 2) ∨ ((41 : Nat) = 41 ∧ (35 : Int) = 3) ∨ ((41 : Nat) = 41 ∧ (35 : Int) = 4) ∨ ((41 : Nat) = 41 ∧ (35 : Int) = 5) ∨ ((41 : Nat) = 41 ∧ (35 : Int) = 6) ∨ ((41 : Nat) = 41 ∧ (35 : Int) = 7) ∨ ((41 : Nat) = 41 ∧ (35 : Int) = 8) ∨ ((41 : Nat) = 41 ∧ (35 : Int) = 29) ∨ ((41 : Nat) = 41 ∧ (35 : Int) = 30) ∨ (41 : Nat) = 50 ∨ (41 : Nat) = 51 ∨ (41 : Nat) = 52 ∨ (41 : Nat) = 53) := (fun q => q.elim (fun h => absurd h.2 (ni rfl)) (fun q => q.elim (fun h => absurd h (nn rfl)) (fun q => q.elim (fun h => absurd h.2 (ni rfl)) (fun q => q.elim (fun h => absurd h.2 (ni rfl)) (fun q => q.elim (fun h => absurd h.2 (ni rfl)) (fun q => q.elim (fun h => absurd h.2 (ni rfl)) (fun q => q.elim (fun h => absurd h.2 (ni rfl)) (fun q => q.elim (fun h => absurd h.2 (ni rfl)) (fun q => q.elim (fun h => absurd h.2 (ni rfl)) (fun q => q.elim (fun h => absurd h.2 (ni rfl)) (fun q => q.elim (fun h => absurd h.2 (ni rfl)) (fun q => q.elim (fun h => absurd h (nn rfl)) (fun q => q.elim (fun h => absurd h (nn rfl)) (fun q => q.elim (fun h => absurd h (nn rfl)) (fun h => absurd h (nn rfl))))))))))))))))
theorem qn_4c0255fdd {j : Int} : ¬ (((2 : Nat) = 41 ∧ j = 0) ∨ (2 : Nat) = 42 ∨ ((2 : Nat) = 41 ∧ j = 2) ∨ ((2 : Nat) = 41 ∧ j = 3) ∨ ((2 : Nat) = 41 ∧ j = 4) ∨ ((2 : Nat) = 41 ∧ j = 5) ∨ ((2 : Nat) = 41 ∧ j = 6) ∨ ((2 : Nat) = 41 ∧ j = 7) ∨ ((2 : Nat) = 41 ∧ j = 8) ∨ ((2 : Nat) = 41 ∧ j = 29) ∨ ((2 : Nat) = 41 ∧ j = 30) ∨ (2 : Nat) = 50 ∨ (2 : Nat) = 51 ∨ (2 : Nat) = 52 ∨ (2 : Nat) = 53) := (fun q => q.elim (fun h => absurd h.1 (nn rfl)) (fun q => q.elim (fun h => absurd h (nn rfl)) (fun q => q.elim (fun h => absurd h.1 (nn rfl)) (fun q => q.elim (fun h => absurd h.1 (nn rfl)) (fun q => q.elim (fun h => absurd h.1 (nn rfl)) (fun q => q.elim (fun h => absurd h.1 (nn rfl)) (fun q => q.elim (fun h => absurd h.1 (nn rfl)) (fun q => q.elim (fun h => absurd h.1 (nn rfl)) (fun q => q.elim (fun h => absurd h.1 (nn rfl)) (fun q => q.elim (fun h => absurd h.1 (nn rfl)) (fun q => q.elim (fun h => absurd h.1 (nn rfl)) (fun q => q.elim (fun h => absurd h (nn rfl)) (fun q => q.elim (fun h => absurd h (nn rfl)) (fun q => q.elim (fun h => absurd h (nn rfl)) (fun h => absurd h (nn rfl))))))))))))))))
theorem qn_0c1231684 {j : Int} : ¬ (((43 : Nat) = 41 ∧ j = 0) ∨ (43 : Nat) = 42 ∨ ((43 : Nat) = 41 ∧ j = 2) ∨ ((43 : Nat) = 41 ∧ j = 3) ∨ ((43 : Nat) = 41 ∧ j = 4) ∨ ((43 : Nat) = 41 ∧ j = 5) ∨ ((43 : Nat) = 41 ∧ j = 6) ∨ ((43 : Nat) = 41 ∧ j = 7) ∨ ((43 : Nat) = 41 ∧ j = 8) ∨ ((43 : Nat) = 41 ∧ j = 29) ∨ ((43 : Nat) = 41 ∧ j = 30) ∨ (43 : Nat) = 50 ∨ (43 : Nat) = 51 ∨ (43 : Nat) = 52 ∨ (43 : Nat) = 53) := (fun q => q.elim (fun h => absurd h.1 (nn rfl)) (fun q => q.elim (fun h => absurd h (nn rfl)) (fun q => q.elim (fun h => absurd h.1 (nn rfl)) (fun q => q.elim (fun h => absurd h.1 (nn rfl)) (fun q => q.elim (fun h => absurd h.1 (nn rfl)) (fun q => q.elim (fun h => absurd h.1 (nn rfl)) (fun q => q.elim (fun h => absurd h.1 (nn rfl)) (fun q => q.elim (fun h => absurd h.1 (nn rfl)) (fun q => q.elim (fun h => absurd h.1 (nn rfl)) (fun q => q.elim (fun h => absurd h.1 (nn rfl)) (fun q => q.elim (fun h => absurd h.1 (nn rfl)) (fun q => q.elim (fun h => absurd h (nn rfl)) (fun q => q.elim (fun h => absurd h (nn rfl)) (fun q => q.elim (fun h => absurd h (nn rfl)) (fun h => absurd h (nn rfl))))))))))))))))
theorem qn_a2ad91feb {j : Int} : ¬ (((6 : Nat) = 41 ∧ j = 0) ∨ (6 : Nat) = 42 ∨ ((6 : Nat) = 41 ∧ j = 2) ∨ ((6 : Nat) = 41 ∧ j = 3) ∨ ((6 : Nat) = 41 ∧ j = 4) ∨ ((6 : Nat) = 41 ∧ j = 5) ∨ ((6 : Nat) = 41 ∧ j = 6) ∨ ((6 : Nat) = 41 ∧ j = 7) ∨ ((6 : Nat) = 41 ∧ j = 8) ∨ ((6 : Nat) = 41 ∧ j = 29) ∨ ((6 : Nat) = 41 ∧ j = 30) ∨ (6 : Nat) = 50 ∨ (6 : Nat) = 51 ∨ (6 : Nat) = 52 ∨ (6 : Nat) = 53) := (fun q => q.elim (fun h => absurd h.1 (nn rfl)) (fun q => q.elim (fun h => absurd h (nn rfl)) (fun q => q.elim (fun h => absurd h.1 (nn rfl)) (fun q => q.elim (fun h => absurd h.1 (nn rfl)) (fun q => q.elim (fun h => absurd h.1 (nn rfl)) (fun q => q.elim (fun h => absurd h.1 (nn rfl)) (fun q => q.elim (fun h => absurd h.1 (nn rfl)) (fun q => q.elim (fun h => absurd h.1 (nn rfl)) (fun q => q.elim (fun h => absurd h.1 (nn rfl)) (fun q => q.elim (fun h => absurd h.1 (nn rfl)) (fun q => q.elim (fun h => absurd h.1 (nn rfl)) (fun q => q.elim (fun h => absurd h (nn rfl)) (fun q => q.elim (fun h => absurd h (nn rfl)) (fun q => q.elim (fun h => absurd h (nn rfl)) (fun h => absurd h (nn rfl))))))))))))))))
theorem qn_9e422cd6b {j : Int} : ¬ (((66 : Nat) = 41 ∧ j = 0) ∨ (66 : Nat) = 42 ∨ ((66 : Nat) = 41 ∧ j = 2) ∨ ((66 : Nat) = 41 ∧ j = 3) ∨ ((66 : Nat) = 41 ∧ j = 4) ∨ ((66 : Nat) = 41 ∧ j = 5) ∨ ((66 : Nat) = 41 ∧ j = 6) ∨ ((66 : Nat) = 41 ∧ j = 7) ∨ ((66 : Nat) = 41 ∧ j = 8) ∨ ((66 : Nat) = 41 ∧ j = 29) ∨ ((66 : Nat) = 41 ∧ j = 30) ∨ (66 : Nat) = 50 ∨ (66 : Nat) = 51 ∨ (66 : Nat) = 52 ∨ (66 : Nat) = 53) := (fun q => q.elim (fun h => absurd h.1 (nn rfl)) (fun q => q.elim (fun h => absurd h (nn rfl)) (fun q => q.elim (fun h => absurd h.1 (nn rfl)) (fun q => q.elim (fun h => absurd h.1 (nn rfl)) (fun q => q.elim (fun h => absurd h.1 (nn rfl)) (fun q => q.elim (fun h => absurd h.1 (nn rfl)) (fun q => q.elim (fun h => absurd h.1 (nn rfl)) (fun q => q.elim (fun h => absurd h.1 (nn rfl)) (fun q => q.elim (fun h => absurd h.1 (nn rfl)) (fun q => q.elim (fun h => absurd h.1 (nn rfl)) (fun q => q.elim (fun h => absurd h.1 (nn rfl)) (fun q => q.elim (fun h => absurd h (nn rfl)) (fun q => q.elim (fun h => absurd h (nn rfl)) (fun q => q.elim (fun h => absurd h (nn rfl)) (fun h => absurd h (nn rfl))))))))))))))))
theorem qn_7f524237d {P : Nat} {j : Int} (hP : P = 13 ∨ P = 25) : ¬ (((41 : Nat) = 1 ∧ j = 1) ∨ ((41 : Nat) = 1 ∧ j = 2) ∨ ((41 : Nat) = 1 ∧ j = 3) ∨ ((41 : Nat) = 1 ∧ j = 4) ∨ ((41 : Nat) = 1 ∧ j = 5) ∨ ((41 : Nat) = 0 ∧ j = 13) ∨ ((41 : Nat) = (P + 7) ∧ j = 5) ∨ (41 : Nat) = (P + 9) ∨ ((41 : Nat) = (P + 7) ∧ j = 4) ∨ (41 : Nat) = (P + 8)) := (fun q => q.elim (fun h => absurd h.1 (nn rfl)) (fun q => q.elim (fun h => absurd h.1 (nn rfl)) (fun q => q.elim (fun h => absurd h.1 (nn rfl)) (fun q => q.elim (fun h => absurd h.1 (nn rfl)) (fun q => q.elim (fun h => absurd h.1 (nn rfl)) (fun q => q.elim (fun h => absurd h.1 (nn rfl)) (fun q => q.elim (fun h => absurd h.1 (pn hP rfl rfl)) (fun q => q.elim (fun h => absurd h (pn hP rfl rfl)) (fun q => q.elim (fun h => absurd h.1 (pn hP rfl rfl)) (fun h => absurd h (pn hP rfl rfl)))))))))))
theorem q_7d59b2af6 {x0 x1 x2 : Int} (f0 : (x0 = 0 ∧ x1 ≥ 0 ∧ x1 ≤ x2 ∧ x1 ≤ 150)) : (-2147483648) ≤ x1 := by omega
theorem q_307fd138a {x0 x1 x2 : Int} (f0 : (x0 = 0 ∧ x1 ≥ 0 ∧ x1 ≤ x2 ∧ x1 ≤ 150)) : x1 ≤ 2147483647 := by omega
theorem qn_c16a8cdb3 {P : Nat} {j : Int} (hP : P = 13 ∨ P = 25) : ¬ ((P = 1 ∧ j = 1) ∨ (P = 1 ∧ j = 2) ∨ (P = 1 ∧ j = 3) ∨ (P = 1 ∧ j = 4) ∨ (P = 1 ∧ j = 5) ∨ (P = 0 ∧ j = 13) ∨ (P = (P + 7) ∧ j = 5) ∨ P = (P + 9) ∨ (P = (P + 7) ∧ j = 4) ∨ P = (P + 8)) := (fun q => q.elim (fun h => absurd h.1 (np0 hP rfl)) (fun q => q.elim (fun h => absurd h.1 (np0 hP rfl)) (fun q => q.elim (fun h => absurd h.1 (np0 hP rfl)) (fun q => q.elim (fun h => absurd h.1 (np0 hP rfl)) (fun q => q.elim (fun h => absurd h.1 (np0 hP rfl)) (fun q => q.elim (fun h => absurd h.1 (np0 hP rfl)) (fun q => q.elim (fun h => absurd h.1 (p0p rfl)) (fun q => q.elim (fun h => absurd h (p0p rfl)) (fun q => q.elim (fun h => absurd h.1 (p0p rfl)) (fun h => absurd h (p0p rfl)))))))))))
theorem qn_cee83b378 {P : Nat} {j : Int} (hP : P = 13 ∨ P = 25) : ¬ (((3 : Nat) = 1 ∧ j = 1) ∨ ((3 : Nat) = 1 ∧ j = 2) ∨ ((3 : Nat) = 1 ∧ j = 3) ∨ ((3 : Nat) = 1 ∧ j = 4) ∨ ((3 : Nat) = 1 ∧ j = 5) ∨ ((3 : Nat) = 0 ∧ j = 13) ∨ ((3 : Nat) = (P + 7) ∧ j = 5) ∨ (3 : Nat) = (P + 9) ∨ ((3 : Nat) = (P + 7) ∧ j = 4) ∨ (3 : Nat) = (P + 8)) := (fun q => q.elim (fun h => absurd h.1 (nn rfl)) (fun q => q.elim (fun h => absurd h.1 (nn rfl)) (fun q => q.elim (fun h => absurd h.1 (nn rfl)) (fun q => q.elim (fun h => absurd h.1 (nn rfl)) (fun q => q.elim (fun h => absurd h.1 (nn rfl)) (fun q => q.elim (fun h => absurd h.1 (nn rfl)) (fun q => q.elim (fun h => absurd h.1 (pn hP rfl rfl)) (fun q => q.elim (fun h => absurd h (pn hP rfl rfl)) (fun q => q.elim (fun h => absurd h.1 (pn hP rfl rfl)) (fun h => absurd h (pn hP rfl rfl)))))))))))
theorem qn_9c21b769a {P : Nat} {j : Int} (hP : P = 13 ∨ P = 25) : ¬ (((2 : Nat) = 1 ∧ j = 1) ∨ ((2 : Nat) = 1 ∧ j = 2) ∨ ((2 : Nat) = 1 ∧ j = 3) ∨ ((2 : Nat) = 1 ∧ j = 4) ∨ ((2 : Nat) = 1 ∧ j = 5) ∨ ((2 : Nat) = 0 ∧ j = 13) ∨ ((2 : Nat) = (P + 7) ∧ j = 5) ∨ (2 : Nat) = (P + 9) ∨ ((2 : Nat) = (P + 7) ∧ j = 4) ∨ (2 : Nat) = (P + 8)) := (fun q => q.elim (fun h => absurd h.1 (nn rfl)) (fun q => q.elim (fun h => absurd h.1 (nn rfl)) (fun q => q.elim (fun h => absurd h.1 (nn rfl)) (fun q => q.elim (fun h => absurd h.1 (nn rfl)) (fun q => q.elim (fun h => absurd h.1 (nn rfl)) (fun q => q.elim (fun h => absurd h.1 (nn rfl)) (fun q => q.elim (fun h => absurd h.1 (pn hP rfl rfl)) (fun q => q.elim (fun h => absurd h (pn hP rfl rfl)) (fun q => q.elim (fun h => absurd h.1 (pn hP rfl rfl)) (fun h => absurd h (pn hP rfl rfl)))))))))))
theorem qn_3edc655a9 {P : Nat} {j : Int} (hP : P = 13 ∨ P = 25) : ¬ (((43 : Nat) = 1 ∧ j = 1) ∨ ((43 : Nat) = 1 ∧ j = 2) ∨ ((43 : Nat) = 1 ∧ j = 3) ∨ ((43 : Nat) = 1 ∧ j = 4) ∨ ((43 : Nat) = 1 ∧ j = 5) ∨ ((43 : Nat) = 0 ∧ j = 13) ∨ ((43 : Nat) = (P + 7) ∧ j = 5) ∨ (43 : Nat) = (P + 9) ∨ ((43 : Nat) = (P + 7) ∧ j = 4) ∨ (43 : Nat) = (P + 8)) := (fun q => q.elim (fun h => absurd h.1 (nn rfl)) (fun q => q.elim (fun h => absurd h.1 (nn rfl)) (fun q => q.elim (fun h => absurd h.1 (nn rfl)) (fun q => q.elim (fun h => absurd h.1 (nn rfl)) (fun q => q.elim (fun h => absurd h.1 (nn rfl)) (fun q => q.elim (fun h => absurd h.1 (nn rfl)) (fun q => q.elim (fun h => absurd h.1 (pn hP rfl rfl)) (fun q => q.elim (fun h => absurd h (pn hP rfl rfl)) (fun q => q.elim (fun h => absurd h.1 (pn hP rfl rfl)) (fun h => absurd h (pn hP rfl rfl)))))))))))
theorem qn_f741ca3f2 {P : Nat} {j : Int} (hP : P = 13 ∨ P = 25) : ¬ (((6 : Nat) = 1 ∧ j = 1) ∨ ((6 : Nat) = 1 ∧ j = 2) ∨ ((6 : Nat) = 1 ∧ j = 3) ∨ ((6 : Nat) = 1 ∧ j = 4) ∨ ((6 : Nat) = 1 ∧ j = 5) ∨ ((6 : Nat) = 0 ∧ j = 13) ∨ ((6 : Nat) = (P + 7) ∧ j = 5) ∨ (6 : Nat) = (P + 9) ∨ ((6 : Nat) = (P + 7) ∧ j = 4) ∨ (6 : Nat) = (P + 8)) := (fun q => q.elim (fun h => absurd h.1 (nn rfl)) (fun q => q.elim (fun h => absurd h.1 (nn rfl)) (fun q => q.elim (fun h => absurd h.1 (nn rfl)) (fun q => q.elim (fun h => absurd h.1 (nn rfl)) (fun q => q.elim (fun h => absurd h.1 (nn rfl)) (fun q => q.elim (fun h => absurd h.1 (nn rfl)) (fun q => q.elim (fun h => absurd h.1 (pn hP rfl rfl)) (fun q => q.elim (fun h => absurd h (pn hP rfl rfl)) (fun q => q.elim (fun h => absurd h.1 (pn hP rfl rfl)) (fun h => absurd h (pn hP rfl rfl)))))))))))
theorem qn_572a8ec09 {P : Nat} {j : Int} (hP : P = 13 ∨ P = 25) : ¬ (((66 : Nat) = 1 ∧ j = 1) ∨ ((66 : Nat) = 1 ∧ j = 2) ∨ ((66 : Nat) = 1 ∧ j = 3) ∨ ((66 : Nat) = 1 ∧ j = 4) ∨ ((66 : Nat) = 1 ∧ j = 5) ∨ ((66 : Nat) = 0 ∧ j = 13) ∨ ((66 : Nat) = (P + 7) ∧ j = 5) ∨ (66 : Nat) = (P + 9) ∨ ((66 : Nat) = (P + 7) ∧ j = 4) ∨ (66 : Nat) = (P + 8)) := (fun q => q.elim (fun h => absurd h.1 (nn rfl)) (fun q => q.elim (fun h => absurd h.1 (nn rfl)) (fun q => q.elim (fun h => absurd h.1 (nn rfl)) (fun q => q.elim (fun h => absurd h.1 (nn rfl)) (fun q => q.elim (fun h => absurd h.1 (nn rfl)) (fun q => q.elim (fun h => absurd h.1 (nn rfl)) (fun q => q.elim (fun h => absurd h.1 (pn hP rfl rfl)) (fun q => q.elim (fun h => absurd h (pn hP rfl rfl)) (fun q => q.elim (fun h => absurd h.1 (pn hP rfl rfl)) (fun h => absurd h (pn hP rfl rfl)))))))))))
theorem q_c05c968ed {x0 : Int} (f0 : ¬ (x0 < 0)) : (-2147483648) ≤ x0 := by omega
theorem q_c2c15a399 {x0 x1 : Int} (f0 : 0 ≤ x0 ∧ x0 ≤ 600) (f1 : ¬ (x1 > x0)) : x1 ≤ 2147483647 := by omega
theorem qn_95638b1cc {P : Nat} {j : Int} (hP : P = 13 ∨ P = 25) : ¬ (((41 : Nat) = 1 ∧ j = 1) ∨ ((41 : Nat) = 1 ∧ j = 2) ∨ ((41 : Nat) = 1 ∧ j = 3) ∨ ((41 : Nat) = 1 ∧ j = 4) ∨ ((41 : Nat) = 1 ∧ j = 5) ∨ ((41 : Nat) = 0 ∧ j = 13) ∨ ((41 : Nat) = 7 ∧ j = 1) ∨ ((41 : Nat) = 7 ∧ j = 2) ∨ ((41 : Nat) = 7 ∧ j = 3) ∨ ((41 : Nat) = 7 ∧ j = 4) ∨ (41 : Nat) = 8 ∨ ((41 : Nat) = 3 ∧ j = 3) ∨ (41 : Nat) = 4 ∨ (41 : Nat) = 38 ∨ ((41 : Nat) = 0 ∧ j = 11) ∨ (41 : Nat) = (P + 10) ∨ (41 : Nat) = (P + 11)) := (fun q => q.elim (fun h => absurd h.1 (nn rfl)) (fun q => q.elim (fun h => absurd h.1 (nn rfl)) (fun q => q.elim (fun h => absurd h.1 (nn rfl)) (fun q => q.elim (fun h => absurd h.1 (nn rfl)) (fun q => q.elim (fun h => absurd h.1 (nn rfl)) (fun q => q.elim (fun h => absurd h.1 (nn rfl)) (fun q => q.elim (fun h => absurd h.1 (nn rfl)) (fun q => q.elim (fun h => absurd h.1 (nn rfl)) (fun q => q.elim (fun h => absurd h.1 (nn rfl)) (fun q => q.elim (fun h => absurd h.1 (nn rfl)) (fun q => q.elim (fun h => absurd h (nn rfl)) (fun q => q.elim (fun h => absurd h.1 (nn rfl)) (fun q => q.elim (fun h => absurd h (nn rfl)) (fun q => q.elim (fun h => absurd h (nn rfl)) (fun q => q.elim (fun h => absurd h.1 (nn rfl)) (fun q => q.elim (fun h => absurd h (pn hP rfl rfl)) (fun h => absurd h (pn hP rfl rfl))))))))))))))))))
theorem q_4e1f9514d {x0 x1 x2 : Int} (f0 : (x0 = 0 ∧ x1 ≥ 0 ∧ x1 ≤ x2 ∧ x1 ≤ 150)) : 0 ≤ x1 := by omega
theorem q_6e99c2f8b {x0 x1 x2 : Int} (f0 : (x0 = 0 ∧ x1 ≥ 0 ∧ x1 ≤ x2 ∧ x1 ≤ 150)) : x1 ≤ x2 := by omega
theorem q_bd81129bd {x0 x1 x2 : Int} (f0 : (x0 = 0 ∧ x1 ≥ 0 ∧ x1 ≤ x2 ∧ x1 ≤ 150)) : x1 ≤ 150 := by omega
theorem qn_bc8c9d6b3 {P : Nat} {j : Int} (hP : P = 13 ∨ P = 25) : ¬ (((43 : Nat) = 1 ∧ j = 1) ∨ ((43 : Nat) = 1 ∧ j = 2) ∨ ((43 : Nat) = 1 ∧ j = 3) ∨ ((43 : Nat) = 1 ∧ j = 4) ∨ ((43 : Nat) = 1 ∧ j = 5) ∨ ((43 : Nat) = 0 ∧ j = 13) ∨ ((43 : Nat) = 7 ∧ j = 1) ∨ ((43 : Nat) = 7 ∧ j = 2) ∨ ((43 : Nat) = 7 ∧ j = 3) ∨ ((43 : Nat) = 7 ∧ j = 4) ∨ (43 : Nat) = 8 ∨ ((43 : Nat) = 3 ∧ j = 3) ∨ (43 : Nat) = 4 ∨ (43 : Nat) = 38 ∨ ((43 : Nat) = 0 ∧ j = 11) ∨ (43 : Nat) = (P + 10) ∨ (43 : Nat) = (P + 11)) := (fun q => q.elim (fun h => absurd h.1 (nn rfl)) (fun q => q.elim (fun h => absurd h.1 (nn rfl)) (fun q => q.elim (fun h => absurd h.1 (nn rfl)) (fun q => q.elim (fun h => absurd h.1 (nn rfl)) (fun q => q.elim (fun h => absurd h.1 (nn rfl)) (fun q => q.elim (fun h => absurd h.1 (nn rfl)) (fun q => q.elim (fun h => absurd h.1 (nn rfl)) (fun q => q.elim (fun h => absurd h.1 (nn rfl)) (fun q => q.elim (fun h => absurd h.1 (nn rfl)) (fun q => q.elim (fun h => absurd h.1 (nn rfl)) (fun q => q.elim (fun h => absurd h (nn rfl)) (fun q => q.elim (fun h => absurd h.1 (nn rfl)) (fun q => q.elim (fun h => absurd h (nn rfl)) (fun q => q.elim (fun h => absurd h (nn rfl)) (fun q => q.elim (fun h => absurd h.1 (nn rfl)) (fun q => q.elim (fun h => absurd h (pn hP rfl rfl)) (fun h => absurd h (pn hP rfl rfl))))))))))))))))))
theorem qn_64b7cdf30 {j : Int} : ¬ (((1 : Nat) = 41 ∧ j = 0) ∨ (1 : Nat) = 42 ∨ ((1 : Nat) = 41 ∧ j = 2) ∨ ((1 : Nat) = 41 ∧ j = 3) ∨ ((1 : Nat) = 41 ∧ j = 4) ∨ ((1 : Nat) = 41 ∧ j = 5) ∨ ((1 : Nat) = 41 ∧ j = 6) ∨ ((1 : Nat) = 41 ∧ j = 7) ∨ ((1 : Nat) = 41 ∧ j = 8) ∨ ((1 : Nat) = 41 ∧ j = 34) ∨ (1 : Nat) = 56 ∨ (1 : Nat) = 57 ∨ (1 : Nat) = 60 ∨ ((1 : Nat) = 41 ∧ j = 35) ∨ ((1 : Nat) = 41 ∧ j = 36) ∨ ((1 : Nat) = 41 ∧ j = 37) ∨ ((1 : Nat) = 41 ∧ j = 38) ∨ ((1 : Nat) = 41 ∧ j = 39) ∨ (1 : Nat) = 58 ∨ (1 : Nat) = 59 ∨ (1 : Nat) = 54 ∨ (1 : Nat) = 55) := (fun q => q.elim (fun h => absurd h.1 (nn rfl)) (fun q => q.elim (fun h => absurd h (nn rfl)) (fun q => q.elim (fun h => absurd h.1 (nn rfl)) (fun q => q.elim (fun h => absurd h.1 (nn rfl)) (fun q => q.elim (fun h => absurd h.1 (nn rfl)) (fun q => q.elim (fun h => absurd h.1 (nn rfl)) (fun q => q.elim (fun h => absurd h.1 (nn rfl)) (fun q => q.elim (fun h => absurd h.1 (nn rfl)) (fun q => q.elim (fun h => absurd h.1 (nn rfl)) (fun q => q.elim (fun h => absurd h.1 (nn rfl)) (fun q => q.elim (fun h => absurd h (nn rfl)) (fun q => q.elim (fun h => absurd h (nn rfl)) (fun q => q.elim (fun h => absurd h (nn rfl)) (fun q => q.elim (fun h => absurd h.1 (nn rfl)) (fun q => q.elim (fun h => absurd h.1 (nn rfl)) (fun q => q.elim (fun h => absurd h.1 (nn rfl)) (fun q => q.elim (fun h => absurd h.1 (nn rfl)) (fun q => q.elim (fun h => absurd h.1 (nn rfl)) (fun q => q.elim (fun h => absurd h (nn rfl)) (fun q => q.elim (fun h => absurd h (nn rfl)) (fun q => q.elim (fun h => absurd h (nn rfl)) (fun h => absurd h (nn rfl)))))))))))))))))))))))
theorem qn_26a832cdf {P : Nat} {j : Int} (hP : P = 13 ∨ P = 25) : ¬ ((P = 1 ∧ j = 1) ∨ (P = 1 ∧ j = 2) ∨ (P = 1 ∧ j = 3) ∨ (P = 1 ∧ j = 4) ∨ (P = 1 ∧ j = 5) ∨ (P = 0 ∧ j = 13) ∨ (P = 7 ∧ j = 1) ∨ (P = 7 ∧ j = 2) ∨ (P = 7 ∧ j = 3) ∨ (P = 7 ∧ j = 4) ∨ P = 8 ∨ (P = 3 ∧ j = 3) ∨ P = 4 ∨ P = 38 ∨ (P = 0 ∧ j = 11) ∨ P = (P + 10) ∨ P = (P + 11)) := (fun q => q.elim (fun h => absurd h.1 (np0 hP rfl)) (fun q => q.elim (fun h => absurd h.1 (np0 hP rfl)) (fun q => q.elim (fun h => absurd h.1 (np0 hP rfl)) (fun q => q.elim (fun h => absurd h.1 (np0 hP rfl)) (fun q => q.elim (fun h => absurd h.1 (np0 hP rfl)) (fun q => q.elim (fun h => absurd h.1 (np0 hP rfl)) (fun q => q.elim (fun h => absurd h.1 (np0 hP rfl)) (fun q => q.elim (fun h => absurd h.1 (np0 hP rfl)) (fun q => q.elim (fun h => absurd h.1 (np0 hP rfl)) (fun q => q.elim (fun h => absurd h.1 (np0 hP rfl)) (fun q => q.elim (fun h => absurd h (np0 hP rfl)) (fun q => q.elim (fun h => absurd h.1 (np0 hP rfl)) (fun q => q.elim (fun h => absurd h (np0 hP rfl)) (fun q => q.elim (fun h => absurd h (np0 hP rfl)) (fun q => q.elim (fun h => absurd h.1 (np0 hP rfl)) (fun q => q.elim (fun h => absurd h (p0p rfl)) (fun h => absurd h (p0p rfl))))))))))))))))))
theorem qn_206011cb5 {P : Nat} {j : Int} (hP : P = 13 ∨ P = 25) : ¬ ((P = 41 ∧ j = 0) ∨ P = 42 ∨ (P = 41 ∧ j = 2) ∨ (P = 41 ∧ j = 3) ∨ (P = 41 ∧ j = 4) ∨ (P = 41 ∧ j = 5) ∨ (P = 41 ∧ j = 6) ∨ (P = 41 ∧ j = 7) ∨ (P = 41 ∧ j = 8) ∨ (P = 41 ∧ j = 34) ∨ P = 56 ∨ P = 57 ∨ P = 60 ∨ (P = 41 ∧ j = 35) ∨ (P = 41 ∧ j = 36) ∨ (P = 41 ∧ j = 37) ∨ (P = 41 ∧ j = 38) ∨ (P = 41 ∧ j = 39) ∨ P = 58 ∨ P = 59 ∨ P = 54 ∨ P = 55) := (fun q => q.elim (fun h => absurd h.1 (np0 hP rfl)) (fun q => q.elim (fun h => absurd h (np0 hP rfl)) (fun q => q.elim (fun h => absurd h.1 (np0 hP rfl)) (fun q => q.elim (fun h => absurd h.1 (np0 hP rfl)) (fun q => q.elim (fun h => absurd h.1 (np0 hP rfl)) (fun q => q.elim (fun h => absurd h.1 (np0 hP rfl)) (fun q => q.elim (fun h => absurd h.1 (np0 hP rfl)) (fun q => q.elim (fun h => absurd h.1 (np0 hP rfl)) (fun q => q.elim (fun h => absurd h.1 (np0 hP rfl)) (fun q => q.elim (fun h => absurd h.1 (np0 hP rfl)) (fun q => q.elim (fun h => absurd h (np0 hP rfl)) (fun q => q.elim (fun h => absurd h (np0 hP rfl)) (fun q => q.elim (fun h => absurd h (np0 hP rfl)) (fun q => q.elim (fun h => absurd h.1 (np0 hP rfl)) (fun q => q.elim (fun h => absurd h.1 (np0 hP rfl)) (fun q => q.elim (fun h => absurd h.1 (np0 hP rfl)) (fun q => q.elim (fun h => absurd h.1 (np0 hP rfl)) (fun q => q.elim (fun h => absurd h.1 (np0 hP rfl)) (fun q => q.elim (fun h => absurd h (np0 hP rfl)) (fun q => q.elim (fun h => absurd h (np0 hP rfl)) (fun q => q.elim (fun h => absurd h (np0 hP rfl)) (fun h => absurd h (np0 hP rfl)))))))))))))))))))))))
theorem qn_77fbfa850 : ¬ (((41 : Nat) = 41 ∧ (20 : Int) = 0) ∨ (41 : Nat) = 42 ∨ ((41 : Nat) = 41 ∧ (20 : Int) = 2) ∨ ((41 : Nat) = 41 ∧ (20 : Int) = 3) ∨ ((41 : Nat) = 41 ∧ (20 : Int) = 4) ∨ ((41 : Nat) = 41 ∧ (20 : Int) = 5) ∨ ((41 : Nat) = 41 ∧ (20 : Int) = 6) ∨ ((41 : Nat) = 41 ∧ (20 : Int) = 7) ∨ ((41 : Nat) = 41 ∧ (20 : Int) = 8) ∨ ((41 : Nat) = 41 ∧ (20 : Int) = 34) ∨ (41 : Nat) = 56 ∨ (41 : Nat) = 57 ∨ (41 : Nat) = 60 ∨ ((41 : Nat) = 41 ∧ (20 : Int) = 35) ∨ ((41 : Nat) = 41 ∧ (20 : Int) = 36) ∨ ((41 : Nat) = 41 ∧ (20 : Int) = 37) ∨ ((41 : Nat) = 41 ∧ (20 : Int) = 38) ∨ ((41 : Nat) = 41 ∧ (20 : Int) = 39) ∨ (41 : Nat) = 58 ∨ (41 : Nat) = 59 ∨ (41 : Nat) = 54 ∨ (41 : Nat) = 55) := (fun q => q.elim (fun h => absurd h.2 (ni rfl)) (fun q => q.elim (fun h => absurd h (nn rfl)) (fun q => q.elim (fun h => absurd h.2 (ni rfl)) (fun q => q.elim (fun h => absurd h.2 (ni rfl)) (fun q => q.elim (fun h => absurd h.2 (ni rfl)) (fun q => q.elim (fun h => absurd h.2 (ni rfl)) (fun q => q.elim (fun h => absurd h.2 (ni rfl)) (fun q => q.elim (fun h => absurd h.2 (ni rfl)) (fun q => q.elim (fun h => absurd h.2 (ni rfl)) (fun q => q.elim (fun h => absurd h.2 (ni rfl)) (fun q => q.elim (fun h => absurd h (nn rfl)) (fun q => q.elim (fun h => absurd h (nn rfl)) (fun q => q.elim (fun h => absurd h (nn rfl)) (fun q => q.elim (fun h => absurd h.2 (ni rfl)) (fun q => q.elim (fun h => absurd h.2 (ni rfl)) (fun q => q.elim (fun h => absurd h.2 (ni rfl)) (fun q => q.elim (fun h => absurd h.2 (ni rfl)) (fun q => q.elim (fun h => absurd h.2 (ni rfl)) (fun q => q.elim (fun h => absurd h (nn rfl)) (fun q => q.elim (fun h => absurd h (nn rfl)) (fun q => q.elim (fun h => absurd h (nn rfl)) (fun h => absurd h (nn rfl)))))))))))))))))))))))
theorem qn_a1534eb98 : ¬ (((41 : Nat) = 41 ∧ (21 : Int) = 0) ∨ (41 : Nat) = 42 ∨ ((41 : Nat) = 41 ∧ (21 : Int) = 2) ∨ ((41 : Nat) = 41 ∧ (21 : Int) = 3) ∨ ((41 : Nat) = 41 ∧ (21 : Int) = 4) ∨ ((41 : Nat) = 41 ∧ (21 : Int) = 5) ∨ ((41 : Nat) = 41 ∧ (21 : Int) = 6) ∨ ((41 : Nat) = 41 ∧ (21 : Int) = 7) ∨ ((41 : Nat) = 41 ∧ (21 : Int) = 8) ∨ ((41 : Nat) = 41 ∧ (21 : Int) = 34) ∨ (41 : Nat) = 56 ∨ (41 : Nat) = 57 ∨ (41 : Nat) = 60 ∨ ((41 : Nat) = 41 ∧ (21 : Int) = 35) ∨ ((41 : Nat) = 41 ∧ (21 : Int) = 36) ∨ ((41 : Nat) = 41 ∧ (21 : Int) = 37) ∨ ((41 : Nat) = 41 ∧ (21 : Int) = 38) ∨ ((41 : Nat) = 41 ∧ (21 : Int) = 39) ∨ (41 : Nat) = 58 ∨ (41 : Nat) = 59 ∨ (41 : Nat) = 54 ∨ (41 : Nat) = 55) := (fun q => q.elim (fun h => absurd h.2 (ni rfl)) (fun q => q.elim (fun h => absurd h (nn rfl)) (fun q => q.elim (fun h => absurd h.2 (ni rfl)) (fun q => q.elim (fun h => absurd h.2 (ni rfl)) (fun q => q.elim (fun h => absurd h.2 (ni rfl)) (fun q => q.elim (fun h => absurd h.2 (ni rfl)) (fun q => q.elim (fun h => absurd h.2 (ni rfl)) (fun q => q.elim (fun h => absurd h.2 (ni rfl)) (fun q => q.elim (fun h => absurd h.2 (ni rfl)) (fun q => q.elim (fun h => absurd h.2 (ni rfl)) (fun q => q.elim (fun h => absurd h (nn rfl)) (fun q => q.elim (fun h => absurd h (nn rfl)) (fun q => q.elim (fun h => absurd h (nn rfl)) (fun q => q.elim (fun h => absurd h.2 (ni rfl)) (fun q => q.elim (fun h => absurd h.2 (ni rfl)) (fun q => q.elim (fun h => absurd h.2 (ni rfl)) (fun q => q.elim (fun h => absurd h.2 (ni rfl)) (fun q => q.elim (fun h => absurd h.2 (ni rfl)) (fun q => q.elim (fun h => absurd h (nn rfl)) (fun q => q.elim (fun h => absurd h (nn rfl)) (fun q => q.elim (fun h => absurd h (nn rfl)) (fun h => absurd h (nn rfl)))))))))))))))))))))))
theorem qn_382f2f2de : ¬ (((41 : Nat) = 41 ∧ (22 : Int) = 0) ∨ (41 : Nat) = 42 ∨ ((41 : Nat) = 41 ∧ (22 : Int) = 2) ∨ ((41 : Nat) = 41 ∧ (22 : Int) = 3) ∨ ((41 : Nat) = 41 ∧ (22 : Int) = 4) ∨ ((41 : Nat) = 41 ∧ (22 : Int) = 5) ∨ ((41 : Nat) = 41 ∧ (22 : Int) = 6) ∨ ((41 : Nat) = 41 ∧ (22 : Int) = 7) ∨ ((41 : Nat) = 41 ∧ (22 : Int) = 8) ∨ ((41 : Nat) = 41 ∧ (22 : Int) = 34) ∨ (41 : Nat) = 56 ∨ (41 : Nat) = 57 ∨ (41 : Nat) = 60 ∨ ((41 : Nat) = 41 ∧ (22 : Int) = 35) ∨ ((41 : Nat) = 41 ∧ (22 : Int) = 36) ∨ ((41 : Nat) = 41 ∧ (22 : Int) = 37) ∨ ((41 : Nat) = 41 ∧ (22 : Int) = 38) ∨ ((41 : Nat) = 41 ∧ (22 : Int) = 39) ∨ (41 : Nat) = 58 ∨ (41 : Nat) = 59 ∨ (41 : Nat) = 54 ∨ (41 : Nat) = 55) := (fun q => q.elim (fun h => absurd h.2 (ni rfl)) (fun q => q.elim (fun h => absurd h (nn rfl)) (fun q => q.elim (fun h => absurd h.2 (ni rfl)) (fun q => q.elim (fun h => absurd h.2 (ni rfl)) (fun q => q.elim (fun h => absurd h.2 (ni rfl)) (fun q => q.elim (fun h => absurd h.2 (ni rfl)) (fun q => q.elim (fun h => absurd h.2 (ni rfl)) (fun q => q.elim (fun h => absurd h.2 (ni rfl)) (fun q => q.elim (fun h => absurd h.2 (ni rfl)) (fun q => q.elim (fun h => absurd h.2 (ni rfl)) (fun q => q.elim (fun h => absurd h (nn rfl)) (fun q => q.elim (fun h => absurd h (nn rfl)) (fun q => q.elim (fun h => absurd h (nn rfl)) (fun q => q.elim (fun h => absurd h.2 (ni rfl)) (fun q => q.elim (fun h => absurd h.2 (ni rfl)) (fun q => q.elim (fun h => absurd h.2 (ni rfl)) (fun q => q.elim (fun h => absurd h.2 (ni rfl)) (fun q => q.elim (fun h => absurd h.2 (ni rfl)) (fun q => q.elim (fun h => absurd h (nn rfl)) (fun q => q.elim (fun h => absurd h (nn rfl)) (fun q => q.elim (fun h => absurd h (nn rfl)) (fun h => absurd h (nn rfl)))))))))))))))))))))))
theorem qn_81686f29b : ¬ (((41 : Nat) = 41 ∧ (23 : Int) = 0) ∨ (41 : Nat) = 42 ∨ ((41 : Nat) = 41 ∧ (23 : Int) = 2) ∨ ((41 : Nat) = 41 ∧ (23 : Int) = 3) ∨ ((41 : Nat) = 41 ∧ (23 : Int) = 4) ∨ ((41 : Nat) = 41 ∧ (23 : Int) = 5) ∨ ((41 : Nat) = 41 ∧ (23 : Int) = 6) ∨ ((41 : Nat) = 41 ∧ (23 : Int) = 7) ∨ ((41 : Nat) = 41 ∧ (23 : Int) = 8) ∨ ((41 : Nat) = 41 ∧ (23 : Int) = 34) ∨ (41 : Nat) = 56 ∨ (41 : Nat) = 57 ∨ (41 : Nat) = 60 ∨ ((41 : Nat) = 41 ∧ (23 : Int) = 35) ∨ ((41 : Nat) = 41 ∧ (23 : Int) = 36) ∨ ((41 : Nat) = 41 ∧ (23 : Int) = 37) ∨ ((41 : Nat) = 41 ∧ (23 : Int) = 38) ∨ ((41 : Nat) = 41 ∧ (23 : Int) = 39) ∨ (41 : Nat) = 58 ∨ (41 : Nat) = 59 ∨ (41 : Nat) = 54 ∨ (41 : Nat) = 55) := (fun q => q.elim (fun h => absurd h.2 (ni rfl)) (fun q => q.elim (fun h => absurd h (nn rfl)) (fun q => q.elim (fun h => absurd h.2 (ni rfl)) (fun q => q.elim (fun h => absurd h.2 (ni rfl)) (fun q => q.elim (fun h => absurd h.2 (ni rfl)) (fun q => q.elim (fun h => absurd h.2 (ni rfl)) (fun q => q.elim (fun h => absurd h.2 (ni rfl)) (fun q => q.elim (fun h => absurd h.2 (ni rfl)) (fun q => q.elim (fun h => absurd h.2 (ni rfl)) (fun q => q.elim (fun h => absurd h.2 (ni rfl)) (fun q => q.elim (fun h => absurd h (nn rfl)) (fun q => q.elim (fun h => absurd h (nn rfl)) (fun q => q.elim (fun h => absurd h (nn rfl)) (fun q => q.elim (fun h => absurd h.2 (ni rfl)) (fun q => q.elim (fun h => absurd h.2 (ni rfl)) (fun q => q.elim (fun h => absurd h.2 (ni rfl)) (fun q => q.elim (fun h => absurd h.2 (ni rfl)) (fun q => q.elim (fun h => absurd h.2 (ni rfl)) (fun q => q.elim (fun h => absurd h (nn rfl)) (fun q => q.elim (fun h => absurd h (nn rfl)) (fun q => q.elim (fun h => absurd h (nn rfl)) (fun h => absurd h (nn rfl)))))))))))))))))))))))
theorem qn_056d6de3c {P : Nat} (hP : P = 13 ∨ P = 25) : ¬ (((3 : Nat) = 1 ∧ (4 : Int) = 1) ∨ ((3 : Nat) = 1 ∧ (4 : Int) = 2) ∨ ((3 : Nat) = 1 ∧ (4 : Int) = 3) ∨ ((3 : Nat) = 1 ∧ (4 : Int) = 4) ∨ ((3 : Nat) = 1 ∧ (4 : Int) = 5) ∨ ((3 : Nat) = 0 ∧ (4 : Int) = 13) ∨ ((3 : Nat) = 7 ∧ (4 : Int) = 1) ∨ ((3 : Nat) = 7 ∧ (4 : Int) = 2) ∨ ((3 : Nat) = 7 ∧ (4 : Int) = 3) ∨ ((3 : Nat) = 7 ∧ (4 : Int) = 4) ∨ (3 : Nat) = 8 ∨ ((3 : Nat) = 3 ∧ (4 : Int) = 3) ∨ (3 : Nat) = 4 ∨ (3 : Nat) = 38 ∨ ((3 : Nat) = 0 ∧ (4 : Int) = 11) ∨ (3 : Nat) = (P + 10) ∨ (3 : Nat) = (P + 11)) := (fun q => q.elim (fun h => absurd h.1 (nn rfl)) (fun q => q.elim (fun h => absurd h.1 (nn rfl)) (fun q => q.elim (fun h => absurd h.1 (nn rfl)) (fun q => q.elim (fun h => absurd h.1 (nn rfl)) (fun q => q.elim (fun h => absurd h.1 (nn rfl)) (fun q => q.elim (fun h => absurd h.1 (nn rfl)) (fun q => q.elim (fun h => absurd h.1 (nn rfl)) (fun q => q.elim (fun h => absurd h.1 (nn rfl)) (fun q => q.elim (fun h => absurd h.1 (nn rfl)) (fun q => q.elim (fun h => absurd h.1 (nn rfl)) (fun q => q.elim (fun h => absurd h (nn rfl)) (fun q => q.elim (fun h => absurd h.2 (ni rfl)) (fun q => q.elim (fun h => absurd h (nn rfl)) (fun q => q.elim (fun h => absurd h (nn rfl)) (fun q => q.elim (fun h => absurd h.1 (nn rfl)) (fun q => q.elim (fun h => absurd h (pn hP rfl rfl)) (fun h => absurd h (pn hP rfl rfl))))))))))))))))))
theorem qn_540a8ebd9 {j : Int} : ¬ (((3 : Nat) = 41 ∧ j = 0) ∨ (3 : Nat) = 42 ∨ ((3 : Nat) = 41 ∧ j = 2) ∨ ((3 : Nat) = 41 ∧ j = 3) ∨ ((3 : Nat) = 41 ∧ j = 4) ∨ ((3 : Nat) = 41 ∧ j = 5) ∨ ((3 : Nat) = 41 ∧ j = 6) ∨ ((3 : Nat) = 41 ∧ j = 7) ∨ ((3 : Nat) = 41 ∧ j = 8) ∨ ((3 : Nat) = 41 ∧ j = 34) ∨ (3 : Nat) = 56 ∨ (3 : Nat) = 57 ∨ (3 : Nat) = 60 ∨ ((3 : Nat) = 41 ∧ j = 35) ∨ ((3 : Nat) = 41 ∧ j = 36) ∨ ((3 : Nat) = 41 ∧ j = 37) ∨ ((3 : Nat) = 41 ∧ j = 38) ∨ ((3 : Nat) = 41 ∧ j = 39) ∨ (3 : Nat) = 58 ∨ (3 : Nat) = 59 ∨ (3 : Nat) = 54 ∨ (3 : Nat) = 55) := (fun q => q.elim (fun h => absurd h.1 (nn rfl)) (fun q => q.elim (fun h => absurd h (nn rfl)) (fun q => q.elim (fun h => absurd h.1 (nn rfl)) (fun q => q.elim (fun h => absurd h.1 (nn rfl)) (fun q => q.elim (fun h => absurd h.1 (nn rfl)) (fun q => q.elim (fun h => absurd h.1 (nn rfl)) (fun q => q.elim (fun h => absurd h.1 (nn rfl)) (fun q => q.elim (fun h => absurd h.1 (nn rfl)) (fun q => q.elim (fun h => absurd h.1 (nn rfl)) (fun q => q.elim (fun h => absurd h.1 (nn rfl)) (fun q => q.elim (fun h => absurd h (nn rfl)) (fun q => q.elim (fun h => absurd h (nn rfl)) (fun q => q.elim (fun h => absurd h (nn rfl)) (fun q => q.elim (fun h => absurd h.1 (nn rfl)) (fun q => q.elim (fun h => absurd h.1 (nn rfl)) (fun q => q.elim (fun h => absurd h.1 (nn rfl)) (fun q => q.elim (fun h => absurd h.1 (nn rfl)) (fun q => q.elim (fun h => absurd h.1 (nn rfl)) (fun q => q.elim (fun h => absurd h (nn rfl)) (fun q => q.elim (fun h => absurd h (nn rfl)) (fun q => q.elim (fun h => absurd h (nn rfl)) (fun h => absurd h (nn rfl)))))))))))))))))))))))
theorem qn_f022a3cdc : ¬ (((41 : Nat) = 41 ∧ (52 : Int) = 0) ∨ (41 : Nat) = 42 ∨ ((41 : Nat) = 41 ∧ (52 : Int) = 2) ∨ ((41 : Nat) = 41 ∧ (52 : Int) = 3) ∨ ((41 : Nat) = 41 ∧ (52 : Int) = 4) ∨ ((41 : Nat) = 41 ∧ (52 : Int) = 5) ∨ ((41 : Nat) = 41 ∧ (52 : Int) = 6) ∨ ((41 : Nat) = 41 ∧ (52 : Int) = 7) ∨ ((41 : Nat) = 41 ∧ (52 : Int) = 8) ∨ ((41 : Nat) = 41 ∧ (52 : Int) = 34) ∨ (41 : Nat) = 56 ∨ (41 : Nat) = 57 ∨ (41 : Nat) = 60 ∨ ((41 : Nat) = 41 ∧ (52 : Int) = 35) ∨ ((41 : Nat) = 41 ∧ (52 : Int) = 36) ∨ ((41 : Nat) = 41 ∧ (52 : Int) = 37) ∨ ((41 : Nat) = 41 ∧ (52 : Int) = 38) ∨ ((41 : Nat) = 41 ∧ (52 : Int) = 39) ∨ (41 : Nat) = 58 ∨ (41 : Nat) = 59 ∨ (41 : Nat) = 54 ∨ (41 : Nat) = 55) := (fun q => q.elim (fun h => absurd h.2 (ni rfl)) (fun q => q.elim (fun h => absurd h (nn rfl)) (fun q => q.elim (fun h => absurd h.2 (ni rfl)) (fun q => q.elim (fun h => absurd h.2 (ni rfl)) (fun q => q.elim (fun h => absurd h.2 (ni rfl)) (fun q => q.elim (fun h => absurd h.2 (ni rfl)) (fun q => q.elim (fun h => absurd h.2 (ni rfl)) (fun q => q.elim (fun h => absurd h.2 (ni rfl)) (fun q => q.elim (fun h => absurd h.2 (ni rfl)) (fun q => q.elim (fun h => absurd h.2 (ni rfl)) (fun q => q.elim (fun h => absurd h (nn rfl)) (fun q => q.elim (fun h => absurd h (nn rfl)) (fun q => q.elim (fun h => absurd h (nn rfl)) (fun q => q.elim (fun h => absurd h.2 (ni rfl)) (fun q => q.elim (fun h => absurd h.2 (ni rfl)) (fun q => q.elim (fun h => absurd h.2 (ni rfl)) (fun q => q.elim (fun h => absurd h.2 (ni rfl)) (fun q => q.elim (fun h => absurd h.2 (ni rfl)) (fun q => q.elim (fun h => absurd h (nn rfl)) (fun q => q.elim (fun h => absurd h (nn rfl)) (fun q => q.elim (fun h => absurd h (nn rfl)) (fun h => absurd h (nn rfl)))))))))))))))))))))))
theorem qn_863ce923b {j : Int} : ¬ (((2 : Nat) = 41 ∧ j = 0) ∨ (2 : Nat) = 42 ∨ ((2 : Nat) = 41 ∧ j = 2) ∨ ((2 : Nat) = 41 ∧ j = 3) ∨ ((2 : Nat) = 41 ∧ j = 4) ∨ ((2 : Nat) = 41 ∧ j = 5) ∨ ((2 : Nat) = 41 ∧ j = 6) ∨ ((2 : Nat) = 41 ∧ j = 7) ∨ ((2 : Nat) = 41 ∧ j = 8) ∨ ((2 : Nat) = 41 ∧ j = 34) ∨ (2 : Nat) = 56 ∨ (2 : Nat) = 57 ∨ (2 : Nat) = 60 ∨ ((2 : Nat) = 41 ∧ j = 35) ∨ ((2 : Nat) = 41 ∧ j = 36) ∨ ((2 : Nat) = 41 ∧ j = 37) ∨ ((2 : Nat) = 41 ∧ j = 38) ∨ ((2 : Nat) = 41 ∧ j = 39) ∨ (2 : Nat) = 58 ∨ (2 : Nat) = 59 ∨ (2 : Nat) = 54 ∨ (2 : Nat) = 55) := (fun q => q.elim (fun h => absurd h.1 (nn rfl)) (fun q => q.elim (fun h => absurd h (nn rfl)) (fun q => q.elim (fun h => absurd h.1 (nn rfl)) (fun q => q.elim (fun h => absurd h.1 (nn rfl)) (fun q => q.elim (fun h => absurd h.1 (nn rfl)) (fun q => q.elim (fun h => absurd h.1 (nn rfl)) (fun q => q.elim (fun h => absurd h.1 (nn rfl)) (fun q => q.elim (fun h => absurd h.1 (nn rfl)) (fun q => q.elim (fun h => absurd h.1 (nn rfl)) (fun q => q.elim (fun h => absurd h.1 (nn rfl)) (fun q => q.elim (fun h => absurd h (nn rfl)) (fun q => q.elim (fun h => absurd h (nn rfl)) (fun q => q.elim (fun h => absurd h (nn rfl)) (fun q => q.elim (fun h => absurd h.1 (nn rfl)) (fun q => q.elim (fun h => absurd h.1 (nn rfl)) (fun q => q.elim (fun h => absurd h.1 (nn rfl)) (fun q => q.elim (fun h => absurd h.1 (nn rfl)) (fun q => q.elim (fun h => absurd h.1 (nn rfl)) (fun q => q.elim (fun h => absurd h (nn rfl)) (fun q => q.elim (fun h => absurd h (nn rfl)) (fun q => q.elim (fun h => absurd h (nn rfl)) (fun h => absurd h (nn rfl)))))))))))))))))))))))
theorem qn_173504b41 {P : Nat} {j : Int} (hP : P = 13 ∨ P = 25) : ¬ (((2 : Nat) = 1 ∧ j = 1) ∨ ((2 : Nat) = 1 ∧ j = 2) ∨ ((2 : Nat) = 1 ∧ j = 3) ∨ ((2 : Nat) = 1 ∧ j = 4) ∨ ((2 : Nat) = 1 ∧ j = 5) ∨ ((2 : Nat) = 0 ∧ j = 13) ∨ ((2 : Nat) = 7 ∧ j = 1) ∨ ((2 : Nat) = 7 ∧ j = 2) ∨ ((2 : Nat) = 7 ∧ j = 3) ∨ ((2 : Nat) = 7 ∧ j = 4) ∨ (2 : Nat) = 8 ∨ ((2 : Nat) = 3 ∧ j = 3) ∨ (2 : Nat) = 4 ∨ (2 : Nat) = 38 ∨ ((2 : Nat) = 0 ∧ j = 11) ∨ (2 : Nat) = (P + 10) ∨ (2 : Nat) = (P + 11)) := (fun q => q.elim (fun h => absurd h.1 (nn rfl)) (fun q => q.elim (fun h => absurd h.1 (nn rfl)) (fun q => q.elim (fun h => absurd h.1 (nn rfl)) (fun q => q.elim (fun h => absurd h.1 (nn rfl)) (fun q => q.elim (fun h => absurd h.1 (nn rfl)) (fun q => q.elim (fun h => absurd h.1 (nn rfl)) (fun q => q.elim (fun h => absurd h.1 (nn rfl)) (fun q => q.elim (fun h => absurd h.1 (nn rfl)) (fun q => q.elim (fun h => absurd h.1 (nn rfl)) (fun q => q.elim (fun h => absurd h.1 (nn rfl)) (fun q => q.elim (fun h => absurd h (nn rfl)) (fun q => q.elim (fun h => absurd h.1 (nn rfl)) (fun q => q.elim (fun h => absurd h (nn rfl)) (fun q => q.elim (fun h => absurd h (nn rfl)) (fun q => q.elim (fun h => absurd h.1 (nn rfl)) (fun q => q.elim (fun h => absurd h (pn hP rfl rfl)) (fun h => absurd h (pn hP rfl rfl))))))))))))))))))
theorem qn_8baf1d17d {j : Int} : ¬ (((43 : Nat) = 41 ∧ j = 0) ∨ (43 : Nat) = 42 ∨ ((43 : Nat) = 41 ∧ j = 2) ∨ ((43 : Nat) = 41 ∧ j = 3) ∨ ((43 : Nat) = 41 ∧ j = 4) ∨ ((43 : Nat) = 41 ∧ j = 5) ∨ ((43 : Nat) = 41 ∧ j = 6) ∨ ((43 : Nat) = 41 ∧ j = 7) ∨ ((43 : Nat) = 41 ∧ j = 8) ∨ ((43 : Nat) = 41 ∧ j = 34) ∨ (43 : Nat) = 56 ∨ (43 : Nat) = 57 ∨ (43 : Nat) = 60 ∨ ((43 : Nat) = 41 ∧ j = 35) ∨ ((43 : Nat) = 41 ∧ j = 36) ∨ ((43 : Nat) = 41 ∧ j = 37) ∨ ((43 : Nat) = 41 ∧ j = 38) ∨ ((43 : Nat) = 41 ∧ j = 39) ∨ (43 : Nat) = 58 ∨ (43 : Nat) = 59 ∨ (43 : Nat) = 54 ∨ (43 : Nat) = 55) := (fun q => q.elim (fun h => absurd h.1 (nn rfl)) (fun q => q.elim (fun h => absurd h (nn rfl)) (fun q => q.elim (fun h => absurd h.1 (nn rfl)) (fun q => q.elim (fun h => absurd h.1 (nn rfl)) (fun q => q.elim (fun h => absurd h.1 (nn rfl)) (fun q => q.elim (fun h => absurd h.1 (nn rfl)) (fun q => q.elim (fun h => absurd h.1 (nn rfl)) (fun q => q.elim (fun h => absurd h.1 (nn rfl)) (fun q => q.elim (fun h => absurd h.1 (nn rfl)) (fun q => q.elim (fun h => absurd h.1 (nn rfl)) (fun q => q.elim (fun h => absurd h (nn rfl)) (fun q => q.elim (fun h => absurd h (nn rfl)) (fun q => q.elim (fun h => absurd h (nn rfl)) (fun q => q.elim (fun h => absurd h.1 (nn rfl)) (fun q => q.elim (fun h => absurd h.1 (nn rfl)) (fun q => q.elim (fun h => absurd h.1 (nn rfl)) (fun q => q.elim (fun h => absurd h.1 (nn rfl)) (fun q => q.elim (fun h => absurd h.1 (nn rfl)) (fun q => q.elim (fun h => absurd h (nn rfl)) (fun q => q.elim (fun h => absurd h (nn rfl)) (fun q => q.elim (fun h => absurd h (nn rfl)) (fun h => absurd h (nn rfl)))))))))))))))))))))))
theorem qn_db996723a {j : Int} : ¬ (((6 : Nat) = 41 ∧ j = 0) ∨ (6 : Nat) = 42 ∨ ((6 : Nat) = 41 ∧ j = 2) ∨ ((6 : Nat) = 41 ∧ j = 3) ∨ ((6 : Nat) = 41 ∧ j = 4) ∨ ((6 : Nat) = 41 ∧ j = 5) ∨ ((6 : Nat) = 41 ∧ j = 6) ∨ ((6 : Nat) = 41 ∧ j = 7) ∨ ((6 : Nat) = 41 ∧ j = 8) ∨ ((6 : Nat) = 41 ∧ j = 34) ∨ (6 : Nat) = 56 ∨ (6 : Nat) = 57 ∨ (6 : Nat) = 60 ∨ ((6 : Nat) = 41 ∧ j = 35) ∨ ((6 : Nat) = 41 ∧ j = 36) ∨ ((6 : Nat) = 41 ∧ j = 37) ∨ ((6 : Nat) = 41 ∧ j = 38) ∨ ((6 : Nat) = 41 ∧ j = 39) ∨ (6 : Nat) = 58 ∨ (6 : Nat) = 59 ∨ (6 : Nat) = 54 ∨ (6 : Nat) = 55) := (fun q => q.elim (fun h => absurd h.1 (nn rfl)) (fun q => q.elim (fun h => absurd h (nn rfl)) (fun q => q.elim (fun h => absurd h.1 (nn rfl)) (fun q => q.elim (fun h => absurd h.1 (nn rfl)) (fun q => q.elim (fun h => absurd h.1 (nn rfl)) (fun q => q.elim (fun h => absurd h.1 (nn rfl)) (fun q => q.elim (fun h => absurd h.1 (nn rfl)) (fun q => q.elim (fun h => absurd h.1 (nn rfl)) (fun q => q.elim (fun h => absurd h.1 (nn rfl)) (fun q => q.elim (fun h => absurd h.1 (nn rfl)) (fun q => q.elim (fun h => absurd h (nn rfl)) (fun q => q.elim (fun h => absurd h (nn rfl)) (fun q => q.elim (fun h => absurd h (nn rfl)) (fun q => q.elim (fun h => absurd h.1 (nn rfl)) (fun q => q.elim (fun h => absurd h.1 (nn rfl)) (fun q => q.elim (fun h => absurd h.1 (nn rfl)) (fun q => q.elim (fun h => absurd h.1 (nn rfl)) (fun q => q.elim (fun h => absurd h.1 (nn rfl)) (fun q => q.elim (fun h => absurd h (nn rfl)) (fun q => q.elim (fun h => absurd h (nn rfl)) (fun q => q.elim (fun h => absurd h (nn rfl)) (fun h => absurd h (nn rfl)))))))))))))))))))))))
theorem qn_04be5b8e1 {P : Nat} {j : Int} (hP : P = 13 ∨ P = 25) : ¬ (((6 : Nat) = 1 ∧ j = 1) ∨ ((6 : Nat) = 1 ∧ j = 2) ∨ ((6 : Nat) = 1 ∧ j = 3) ∨ ((6 : Nat) = 1 ∧ j = 4) ∨ ((6 : Nat) = 1 ∧ j = 5) ∨ ((6 : Nat) = 0 ∧ j = 13) ∨ ((6 : Nat) = 7 ∧ j = 1) ∨ ((6 : Nat) = 7 ∧ j = 2) ∨ ((6 : Nat) = 7 ∧ j = 3) ∨ ((6 : Nat) = 7 ∧ j = 4) ∨ (6 : Nat) = 8 ∨ ((6 : Nat) = 3 ∧ j = 3) ∨ (6 : Nat) = 4 ∨ (6 : Nat) = 38 ∨ ((6 : Nat) = 0 ∧ j = 11) ∨ (6 : Nat) = (P + 10) ∨ (6 : Nat) = (P + 11)) := (fun q => q.elim (fun h => absurd h.1 (nn rfl)) (fun q => q.elim (fun h => absurd h.1 (nn rfl)) (fun q => q.elim (fun h => absurd h.1 (nn rfl)) (fun q => q.elim (fun h => absurd h.1 (nn rfl)) (fun q => q.elim (fun h => absurd h.1 (nn rfl)) (fun q => q.elim (fun h => absurd h.1 (nn rfl)) (fun q => q.elim (fun h => absurd h.1 (nn rfl)) (fun q => q.elim (fun h => absurd h.1 (nn rfl)) (fun q => q.elim (fun h => absurd h.1 (nn rfl)) (fun q => q.elim (fun h => absurd h.1 (nn rfl)) (fun q => q.elim (fun h => absurd h (nn rfl)) (fun q => q.elim (fun h => absurd h.1 (nn rfl)) (fun q => q.elim (fun h => absurd h (nn rfl)) (fun q => q.elim (fun h => absurd h (nn rfl)) (fun q => q.elim (fun h => absurd h.1 (nn rfl)) (fun q => q.elim (fun h => absurd h (pn hP rfl rfl)) (fun h => absurd h (pn hP rfl rfl))))))))))))))))))
theorem qn_6ae98eddc {j : Int} : ¬ (((66 : Nat) = 41 ∧ j = 0) ∨ (66 : Nat) = 42 ∨ ((66 : Nat) = 41 ∧ j = 2) ∨ ((66 : Nat) = 41 ∧ j = 3) ∨ ((66 : Nat) = 41 ∧ j = 4) ∨ ((66 : Nat) = 41 ∧ j = 5) ∨ ((66 : Nat) = 41 ∧ j = 6) ∨ ((66 : Nat) = 41 ∧ j = 7) ∨ ((66 : Nat) = 41 ∧ j = 8) ∨ ((66 : Nat) = 41 ∧ j = 34) ∨ (66 : Nat) = 56 ∨ (66 : Nat) = 57 ∨ (66 : Nat) = 60 ∨ ((66 : Nat) = 41 ∧ j = 35) ∨ ((66 : Nat) = 41 ∧ j = 36) ∨ ((66 : Nat) = 41 ∧ j = 37) ∨ ((66 : Nat) = 41 ∧ j = 38) ∨ ((66 : Nat) = 41 ∧ j = 39) ∨ (66 : Nat) = 58 ∨ (66 : Nat) = 59 ∨ (66 : Nat) = 54 ∨ (66 : Nat) = 55) := (fun q => q.elim (fun h => absurd h.1 (nn rfl)) (fun q => q.elim (fun h => absurd h (nn rfl)) (fun q => q.elim (fun h => absurd h.1 (nn rfl)) (fun q => q.elim (fun h => absurd h.1 (nn rfl)) (fun q => q.elim (fun h => absurd h.1 (nn rfl)) (fun q => q.elim (fun h => absurd h.1 (nn rfl)) (fun q => q.elim (fun h => absurd h.1 (nn rfl)) (fun q => q.elim (fun h => absurd h.1 (nn rfl)) (fun q => q.elim (fun h => absurd h.1 (nn rfl)) (fun q => q.elim (fun h => absurd h.1 (nn rfl)) (fun q => q.elim (fun h => absurd h (nn rfl)) (fun q => q.elim (fun h => absurd h (nn rfl)) (fun q => q.elim (fun h => absurd h (nn rfl)) (fun q => q.elim (fun h => absurd h.1 (nn rfl)) (fun q => q.elim (fun h => absurd h.1 (nn rfl)) (fun q => q.elim (fun h => absurd h.1 (nn rfl)) (fun q => q.elim (fun h => absurd h.1 (nn rfl)) (fun q => q.elim (fun h => absurd h.1 (nn rfl)) (fun q => q.elim (fun h => absurd h (nn rfl)) (fun q => q.elim (fun h => absurd h (nn rfl)) (fun q => q.elim (fun h => absurd h (nn rfl)) (fun h => absurd h (nn rfl)))))))))))))))))))))))
theorem qn_e2ead8ce9 {P : Nat} {j : Int} (hP : P = 13 ∨ P = 25) : ¬ (((66 : Nat) = 1 ∧ j = 1) ∨ ((66 : Nat) = 1 ∧ j = 2) ∨ ((66 : Nat) = 1 ∧ j = 3) ∨ ((66 : Nat) = 1 ∧ j = 4) ∨ ((66 : Nat) = 1 ∧ j = 5) ∨ ((66 : Nat) = 0 ∧ j = 13) ∨ ((66 : Nat) = 7 ∧ j = 1) ∨ ((66 : Nat) = 7 ∧ j = 2) ∨ ((66 : Nat) = 7 ∧ j = 3) ∨ ((66 : Nat) = 7 ∧ j = 4) ∨ (66 : Nat) = 8 ∨ ((66 : Nat) = 3 ∧ j = 3) ∨ (66 : Nat) = 4 ∨ (66 : Nat) = 38 ∨ ((66 : Nat) = 0 ∧ j = 11) ∨ (66 : Nat) = (P + 10) ∨ (66 : Nat) = (P + 11)) := (fun q => q.elim (fun h => absurd h.1 (nn rfl)) (fun q => q.elim (fun h => absurd h.1 (nn rfl)) (fun q => q.elim (fun h => absurd h.1 (nn rfl)) (fun q => q.elim (fun h => absurd h.1 (nn rfl)) (fun q => q.elim (fun h => absurd h.1 (nn rfl)) (fun q => q.elim (fun h => absurd h.1 (nn rfl)) (fun q => q.elim (fun h => absurd h.1 (nn rfl)) (fun q => q.elim (fun h => absurd h.1 (nn rfl)) (fun q => q.elim (fun h => absurd h.1 (nn rfl)) (fun q => q.elim (fun h => absurd h.1 (nn rfl)) (fun q => q.elim (fun h => absurd h (nn rfl)) (fun q => q.elim (fun h => absurd h.1 (nn rfl)) (fun q => q.elim (fun h => absurd h (nn rfl)) (fun q => q.elim (fun h => absurd h (nn rfl)) (fun q => q.elim (fun h => absurd h.1 (nn rfl)) (fun q => q.elim (fun h => absurd h (pn hP rfl rfl)) (fun h => absurd h (pn hP rfl rfl))))))))))))))))))
theorem qn_ee2350d59 {j : Int} : ¬ (((1 : Nat) = 41 ∧ j = 0) ∨ (1 : Nat) = 42 ∨ ((1 : Nat) = 41 ∧ j = 2) ∨ ((1 : Nat) = 41 ∧ j = 3) ∨ ((1 : Nat) = 41 ∧ j = 4) ∨ ((1 : Nat) = 41 ∧ j = 5) ∨ ((1 : Nat) = 41 ∧ j = 6) ∨ ((1 : Nat) = 41 ∧ j = 7) ∨ ((1 : Nat) = 41 ∧ j = 8) ∨ ((1 : Nat) = 41 ∧ j = 47) ∨ (1 : Nat) = 61 ∨ (1 : Nat) = 62) := (fun q => q.elim (fun h => absurd h.1 (nn rfl)) (fun q => q.elim (fun h => absurd h (nn rfl)) (fun q => q.elim (fun h => absurd h.1 (nn rfl)) (fun q => q.elim (fun h => absurd h.1 (nn rfl)) (fun q => q.elim (fun h => absurd h.1 (nn rfl)) (fun q => q.elim (fun h => absurd h.1 (nn rfl)) (fun q => q.elim (fun h => absurd h.1 (nn rfl)) (fun q => q.elim (fun h => absurd h.1 (nn rfl)) (fun q => q.elim (fun h => absurd h.1 (nn rfl)) (fun q => q.elim (fun h => absurd h.1 (nn rfl)) (fun q => q.elim (fun h => absurd h (nn rfl)) (fun h => absurd h (nn rfl)))))))))))))
theorem qn_67aafe213 {P : Nat} {j : Int} (hP : P = 13 ∨ P = 25) : ¬ ((P = 41 ∧ j = 0) ∨ P = 42 ∨ (P = 41 ∧ j = 2) ∨ (P = 41 ∧ j = 3) ∨ (P = 41 ∧ j = 4) ∨ (P = 41 ∧ j = 5) ∨ (P = 41 ∧ j = 6) ∨ (P = 41 ∧ j = 7) ∨ (P = 41 ∧ j = 8) ∨ (P = 41 ∧ j = 47) ∨ P = 61 ∨ P = 62) := (fun q => q.elim (fun h => absurd h.1 (np0 hP rfl)) (fun q => q.elim (fun h => absurd h (np0 hP rfl)) (fun q => q.elim (fun h => absurd h.1 (np0 hP rfl)) (fun q => q.elim (fun h => absurd h.1 (np0 hP rfl)) (fun q => q.elim (fun h => absurd h.1 (np0 hP rfl)) (fun q => q.elim (fun h => absurd h.1 (np0 hP rfl)) (fun q => q.elim (fun h => absurd h.1 (np0 hP rfl)) (fun q => q.elim (fun h => absurd h.1 (np0 hP rfl)) (fun q => q.elim (fun h => absurd h.1 (np0 hP rfl)) (fun q => q.elim (fun h => absurd h.1 (np0 hP rfl)) (fun q => q.elim (fun h => absurd h (np0 hP rfl)) (fun h => absurd h (np0 hP rfl)))))))))))))
theorem qn_6413bf41b : ¬ (((41 : Nat) = 41 ∧ (20 : Int) = 0) ∨ (41 : Nat) = 42 ∨ ((41 : Nat) = 41 ∧ (20 : Int) = 2) ∨ ((41 : Nat) = 41 ∧ (20 : Int) = 3) ∨ ((41 : Nat) = 41 ∧ (20 : Int) = 4) ∨ ((41 : Nat) = 41 ∧ (20 : Int) = 5) ∨ ((41 : Nat) = 41 ∧ (20 : Int) = 6) ∨ ((41 : Nat) = 41 ∧ (20 : Int) = 7) ∨ ((41 : Nat) = 41 ∧ (20 : Int) = 8) ∨ ((41 : Nat) = 41 ∧ (20 : Int) = 47) ∨ (41 : Nat) = 61 ∨ (41 : Nat) = 62) := (fun q => q.elim (fun h => absurd h.2 (ni rfl)) (fun q => q.elim (fun h => absurd h (nn rfl)) (fun q => q.elim (fun h => absurd h.2 (ni rfl)) (fun q => q.elim (fun h => absurd h.2 (ni rfl)) (fun q => q.elim (fun h => absurd h.2 (ni rfl)) (fun q => q.elim (fun h => absurd h.2 (ni rfl)) (fun q => q.elim (fun h => absurd h.2 (ni rfl)) (fun q => q.elim (fun h => absurd h.2 (ni rfl)) (fun q => q.elim (fun h => absurd h.2 (ni rfl)) (fun q => q.elim (fun h => absurd h.2 (ni rfl)) (fun q => q.elim (fun h => absurd h (nn rfl)) (fun h => absurd h (nn rfl)))))))))))))
theorem qn_f569a8578 : ¬ (((41 : Nat) = 41 ∧ (21 : Int) = 0) ∨ (41 : Nat) = 42 ∨ ((41 : Nat) = 41 ∧ (21 : Int) = 2) ∨ ((41 : Nat) = 41 ∧ (21 : Int) = 3) ∨ ((41 : Nat) = 41 ∧ (21 : Int) = 4) ∨ ((41 : Nat) = 41 ∧ (21 : Int) = 5) ∨ ((41 : Nat) = 41 ∧ (21 : Int) = 6) ∨ ((41 : Nat) = 41 ∧ (21 : Int) = 7) ∨ ((41 : Nat) = 41 ∧ (21 : Int) = 8) ∨ ((41 : Nat) = 41 ∧ (21 : Int) = 47) ∨ (41 : Nat) = 61 ∨ (41 : Nat) = 62) := (fun q => q.elim (fun h => absurd h.2 (ni rfl)) (fun q => q.elim (fun h => absurd h (nn rfl)) (fun q => q.elim (fun h => absurd h.2 (ni rfl)) (fun q => q.elim (fun h => absurd h.2 (ni rfl)) (fun q => q.elim (fun h => absurd h.2 (ni rfl)) (fun q => q.elim (fun h => absurd h.2 (ni rfl)) (fun q => q.elim (fun h => absurd h.2 (ni rfl)) (fun q => q.elim (fun h => absurd h.2 (ni rfl)) (fun q => q.elim (fun h => absurd h.2 (ni rfl)) (fun q => q.elim (fun h => absurd h.2 (ni rfl)) (fun q => q.elim (fun h => absurd h (nn rfl)) (fun h => absurd h (nn rfl)))))))))))))
theorem qn_d599da4e2 : ¬ (((41 : Nat) = 41 ∧ (23 : Int) = 0) ∨ (41 : Nat) = 42 ∨ ((41 : Nat) = 41 ∧ (23 : Int) = 2) ∨ ((41 : Nat) = 41 ∧ (23 : Int) = 3) ∨ ((41 : Nat) = 41 ∧ (23 : Int) = 4) ∨ ((41 : Nat) = 41 ∧ (23 : Int) = 5) ∨ ((41 : Nat) = 41 ∧ (23 : Int) = 6) ∨ ((41 : Nat) = 41 ∧ (23 : Int) = 7) ∨ ((41 : Nat) = 41 ∧ (23 : Int) = 8) ∨ ((41 : Nat) = 41 ∧ (23 : Int) = 47) ∨ (41 : Nat) = 61 ∨ (41 : Nat) = 62) := (fun q => q.elim (fun h => absurd h.2 (ni rfl)) (fun q => q.elim (fun h => absurd h (nn rfl)) (fun q => q.elim (fun h => absurd h.2 (ni rfl)) (fun q => q.elim (fun h => absurd h.2 (ni rfl)) (fun q => q.elim (fun h => absurd h.2 (ni rfl)) (fun q => q.elim (fun h => absurd h.2 (ni rfl)) (fun q => q.elim (fun h => absurd h.2 (ni rfl)) (fun q => q.elim (fun h => absurd h.2 (ni rfl)) (fun q => q.elim (fun h => absurd h.2 (ni rfl)) (fun q => q.elim (fun h => absurd h.2 (ni rfl)) (fun q => q.elim (fun h => absurd h (nn rfl)) (fun h => absurd h (nn rfl)))))))))))))
theorem qn_938e7f3df {j : Int} : ¬ (((3 : Nat) = 41 ∧ j = 0) ∨ (3 : Nat) = 42 ∨ ((3 : Nat) = 41 ∧ j = 2) ∨ ((3 : Nat) = 41 ∧ j = 3) ∨ ((3 : Nat) = 41 ∧ j = 4) ∨ ((3 : Nat) = 41 ∧ j = 5) ∨ ((3 : Nat) = 41 ∧ j = 6) ∨ ((3 : Nat) = 41 ∧ j = 7) ∨ ((3 : Nat) = 41 ∧ j = 8) ∨ ((3 : Nat) = 41 ∧ j = 47) ∨ (3 : Nat) = 61 ∨ (3 : Nat) = 62) := (fun q => q.elim (fun h => absurd h.1 (nn rfl)) (fun q => q.elim (fun h => absurd h (nn rfl)) (fun q => q.elim (fun h => absurd h.1 (nn rfl)) (fun q => q.elim (fun h => absurd h.1 (nn rfl)) (fun q => q.elim (fun h => absurd h.1 (nn rfl)) (fun q => q.elim (fun h => absurd h.1 (nn rfl)) (fun q => q.elim (fun h => absurd h.1 (nn rfl)) (fun q => q.elim (fun h => absurd h.1 (nn rfl)) (fun q => q.elim (fun h => absurd h.1 (nn rfl)) (fun q => q.elim (fun h => absurd h.1 (nn rfl)) (fun q => q.elim (fun h => absurd h (nn rfl)) (fun h => absurd h (nn rfl)))))))))))))
theorem qn_931493540 : ¬ (((41 : Nat) = 41 ∧ (52 : Int) = 0) ∨ (41 : Nat) = 42 ∨ ((41 : Nat) = 41 ∧ (52 : Int) = 2) ∨ ((41 : Nat) = 41 ∧ (52 : Int) = 3) ∨ ((41 : Nat) = 41 ∧ (52 : Int) = 4) ∨ ((41 : Nat) = 41 ∧ (52 : Int) = 5) ∨ ((41 : Nat) = 41 ∧ (52 : Int) = 6) ∨ ((41 : Nat) = 41 ∧ (52 : Int) = 7) ∨ ((41 : Nat) = 41 ∧ (52 : Int) = 8) ∨ ((41 : Nat) = 41 ∧ (52 : Int) = 47) ∨ (41 : Nat) = 61 ∨ (41 : Nat) = 62) := (fun q => q.elim (fun h => absurd h.2 (ni rfl)) (fun q => q.elim (fun h => absurd h (nn rfl)) (fun q => q.elim (fun h => absurd h.2 (ni rfl)) (fun q => q.elim (fun h => absurd h.2 (ni rfl)) (fun q => q.elim (fun h => absurd h.2 (ni rfl)) (fun q => q.elim (fun h => absurd h.2 (ni rfl)) (fun q => q.elim (fun h => absurd h.2 (ni rfl)) (fun q => q.elim (fun h => absurd h.2 (ni rfl)) (fun q => q.elim (fun h => absurd h.2 (ni rfl)) (fun q => q.elim (fun h => absurd h.2 (ni rfl)) (fun q => q.elim (fun h => absurd h (nn rfl)) (fun h => absurd h (nn rfl)))))))))))))
theorem qn_e6684ab8f : ¬ (((41 : Nat) = 41 ∧ (35 : Int) = 0) ∨ (41 : Nat) = 42 ∨ ((41 : Nat) = 41 ∧ (35 : Int) = 2) ∨ ((41 : Nat) = 41 ∧ (35 : Int) = 3) ∨ ((41 : Nat) = 41 ∧ (35 : Int) = 4) ∨ ((41 : Nat) = 41 ∧ (35 : Int) = 5) ∨ ((41 : Nat) = 41 ∧ (35 : Int) = 6) ∨ ((41 : Nat) = 41 ∧ (35 : Int) = 7) ∨ ((41 : Nat) = 41 ∧ (35 : Int) = 8) ∨ ((41 : Nat) = 41 ∧ (35 : Int) = 47) ∨ (41 : Nat) = 61 ∨ (41 : Nat) = 62) := (fun q => q.elim (fun h => absurd h.2 (ni rfl)) (fun q => q.elim (fun h => absurd h (nn rfl)) (fun q => q.elim (fun h => absurd h.2 (ni rfl)) (fun q => q.elim (fun h => absurd h.2 (ni rfl)) (fun q => q.elim (fun h => absurd h.2 (ni rfl)) (fun q => q.elim (fun h => absurd h.2 (ni rfl)) (fun q => q.elim (fun h => absurd h.2 (ni rfl)) (fun q => q.elim (fun h => absurd h.2 (ni rfl)) (fun q => q.elim (fun h => absurd h.2 (ni rfl)) (fun q => q.elim (fun h => absurd h.2 (ni rfl)) (fun q => q.elim (fun h => absurd h (nn rfl)) (fun h => absurd h (nn rfl)))))))))))))
theorem qn_b5489bdb1 {j : Int} : ¬ (((2 : Nat) = 41 ∧ j = 0) ∨ (2 : Nat) = 42 ∨ ((2 : Nat) = 41 ∧ j = 2) ∨ ((2 : Nat) = 41 ∧ j = 3) ∨ ((2 : Nat) = 41 ∧ j = 4) ∨ ((2 : Nat) = 41 ∧ j = 5) ∨ ((2 : Nat) = 41 ∧ j = 6) ∨ ((2 : Nat) = 41 ∧ j = 7) ∨ ((2 : Nat) = 41 ∧ j = 8) ∨ ((2 : Nat) = 41 ∧ j = 47) ∨ (2 : Nat) = 61 ∨ (2 : Nat) = 62) := (fun q => q.elim (fun h => absurd h.1 (nn rfl)) (fun q => q.elim (fun h => absurd h (nn rfl)) (fun q => q.elim (fun h => absurd h.1 (nn rfl)) (fun q => q.elim (fun h => absurd h.1 (nn rfl)) (fun q => q.elim (fun h => absurd h.1 (nn rfl)) (fun q => q.elim (fun h => absurd h.1 (nn rfl)) (fun q => q.elim (fun h => absurd h.1 (nn rfl)) (fun q => q.elim (fun h => absurd h.1 (nn rfl)) (fun q => q.elim (fun h => absurd h.1 (nn rfl)) (fun q => q.elim (fun h => absurd h.1 (nn rfl)) (fun q => q.elim (fun h => absurd h (nn rfl)) (fun h => absurd h (nn rfl)))))))))))))
theorem qn_a255de46c {j : Int} : ¬ (((43 : Nat) = 41 ∧ j = 0) ∨ (43 : Nat) = 42 ∨ ((43 : Nat) = 41 ∧ j = 2) ∨ ((43 : Nat) = 41 ∧ j = 3) ∨ ((43 : Nat) = 41 ∧ j = 4) ∨ ((43 : Nat) = 41 ∧ j = 5) ∨ ((43 : Nat) = 41 ∧ j = 6) ∨ ((43 : Nat) = 41 ∧ j = 7) ∨ ((43 : Nat) = 41 ∧ j = 8) ∨ ((43 : Nat) = 41 ∧ j = 47) ∨ (43 : Nat) = 61 ∨ (43 : Nat) = 62) := (fun q => q.elim (fun h => absurd h.1 (nn rfl)) (fun q => q.elim (fun h => absurd h (nn rfl)) (fun q => q.elim (fun h => absurd h.1 (nn rfl)) (fun q => q.elim (fun h => absurd h.1 (nn rfl)) (fun q => q.elim (fun h => absurd h.1 (nn rfl)) (fun q => q.elim (fun h => absurd h.1 (nn rfl)) (fun q => q.elim (fun h => absurd h.1 (nn rfl)) (fun q => q.elim (fun h => absurd h.1 (nn rfl)) (fun q => q.elim (fun h => absurd h.1 (nn rfl)) (fun q => q.elim (fun h => absurd h.1 (nn rfl)) (fun q => q.elim (fun h => absurd h (nn rfl)) (fun h => absurd h (nn rfl)))))))))))))
theorem qn_455997b78 {j : Int} : ¬ (((6 : Nat) = 41 ∧ j = 0) ∨ (6 : Nat) = 42 ∨ ((6 : Nat) = 41 ∧ j = 2) ∨ ((6 : Nat) = 41 ∧ j = 3) ∨ ((6 : Nat) = 41 ∧ j = 4) ∨ ((6 : Nat) = 41 ∧ j = 5) ∨ ((6 : Nat) = 41 ∧ j = 6) ∨ ((6 : Nat) = 41 ∧ j = 7) ∨ ((6 : Nat) = 41 ∧ j = 8) ∨ ((6 : Nat) = 41 ∧ j = 47) ∨ (6 : Nat) = 61 ∨ (6 : Nat) = 62) := (fun q => q.elim (fun h => absurd h.1 (nn rfl)) (fun q => q.elim (fun h => absurd h (nn rfl)) (fun q => q.elim (fun h => absurd h.1 (nn rfl)) (fun q => q.elim (fun h => absurd h.1 (nn rfl)) (fun q => q.elim (fun h => absurd h.1 (nn rfl)) (fun q => q.elim (fun h => absurd h.1 (nn rfl)) (fun q => q.elim (fun h => absurd h.1 (nn rfl)) (fun q => q.elim (fun h => absurd h.1 (nn rfl)) (fun q => q.elim (fun h => absurd h.1 (nn rfl)) (fun q => q.elim (fun h => absurd h.1 (nn rfl)) (fun q => q.elim (fun h => absurd h (nn rfl)) (fun h => absurd h (nn rfl)))))))))))))
theorem qn_b7afdffdc {j : Int} : ¬ (((66 : Nat) = 41 ∧ j = 0) ∨ (66 : Nat) = 42 ∨ ((66 : Nat) = 41 ∧ j = 2) ∨ ((66 : Nat) = 41 ∧ j = 3) ∨ ((66 : Nat) = 41 ∧ j = 4) ∨ ((66 : Nat) = 41 ∧ j = 5) ∨ ((66 : Nat) = 41 ∧ j = 6) ∨ ((66 : Nat) = 41 ∧ j = 7) ∨ ((66 : Nat) = 41 ∧ j = 8) ∨ ((66 : Nat) = 41 ∧ j = 47) ∨ (66 : Nat) = 61 ∨ (66 : Nat) = 62) := (fun q => q.elim (fun h => absurd h.1 (nn rfl)) (fun q => q.elim (fun h => absurd h (nn rfl)) (fun q => q.elim (fun h => absurd h.1 (nn rfl)) (fun q => q.elim (fun h => absurd h.1 (nn rfl)) (fun q => q.elim (fun h => absurd h.1 (nn rfl)) (fun q => q.elim (fun h => absurd h.1 (nn rfl)) (fun q => q.elim (fun h => absurd h.1 (nn rfl)) (fun q => q.elim (fun h => absurd h.1 (nn rfl)) (fun q => q.elim (fun h => absurd h.1 (nn rfl)) (fun q => q.elim (fun h => absurd h.1 (nn rfl)) (fun q => q.elim (fun h => absurd h (nn rfl)) (fun h => absurd h (nn rfl)))))))))))))
theorem qn_1b494c190 {P : Nat} {j : Int} (hP : P = 13 ∨ P = 25) : ¬ (((41 : Nat) = 1 ∧ j = 1) ∨ ((41 : Nat) = 1 ∧ j = 2) ∨ ((41 : Nat) = 1 ∧ j = 3) ∨ ((41 : Nat) = 1 ∧ j = 4) ∨ ((41 : Nat) = 1 ∧ j = 5) ∨ ((41 : Nat) = 0 ∧ j = 13) ∨ ((41 : Nat) = P ∧ j = 4) ∨ (41 : Nat) = (P + 4) ∨ (41 : Nat) = (P + 5)) := (fun q => q.elim (fun h => absurd h.1 (nn rfl)) (fun q => q.elim (fun h => absurd h.1 (nn rfl)) (fun q => q.elim (fun h => absurd h.1 (nn rfl)) (fun q => q.elim (fun h => absurd h.1 (nn rfl)) (fun q => q.elim (fun h => absurd h.1 (nn rfl)) (fun q => q.elim (fun h => absurd h.1 (nn rfl)) (fun q => q.elim (fun h => absurd h.1 (pn0 hP rfl)) (fun q => q.elim (fun h => absurd h (pn hP rfl rfl)) (fun h => absurd h (pn hP rfl rfl))))))))))
theorem q_349ccc1a6 {x0 x1 x2 : Int} (f0 : (x0 = 0 ∧ x1 ≥ 0 ∧ x1 ≤ x2 ∧ x1 ≤ 60)) : (-2147483648) ≤ x1 := by omega
theorem q_147cf96f9 {x0 x1 x2 : Int} (f0 : (x0 = 0 ∧ x1 ≥ 0 ∧ x1 ≤ x2 ∧ x1 ≤ 60)) : x1 ≤ 2147483647 := by omega
theorem qn_1fe3b6d75 {P : Nat} (hP : P = 13 ∨ P = 25) : ¬ ((P = 1 ∧ (0 : Int) = 1) ∨ (P = 1 ∧ (0 : Int) = 2) ∨ (P = 1 ∧ (0 : Int) = 3) ∨ (P = 1 ∧ (0 : Int) = 4) ∨ (P = 1 ∧ (0 : Int) = 5) ∨ (P = 0 ∧ (0 : Int) = 13) ∨ (P = P ∧ (0 : Int) = 4) ∨ P = (P + 4) ∨ P = (P + 5)) := (fun q => q.elim (fun h => absurd h.1 (np0 hP rfl)) (fun q => q.elim (fun h => absurd h.1 (np0 hP rfl)) (fun q => q.elim (fun h => absurd h.1 (np0 hP rfl)) (fun q => q.elim (fun h => absurd h.1 (np0 hP rfl)) (fun q => q.elim (fun h => absurd h.1 (np0 hP rfl)) (fun q => q.elim (fun h => absurd h.1 (np0 hP rfl)) (fun q => q.elim (fun h => absurd h.2 (ni rfl)) (fun q => q.elim (fun h => absurd h (p0p rfl)) (fun h => absurd h (p0p rfl))))))))))
theorem qn_085b94255 {P : Nat} (hP : P = 13 ∨ P = 25) : ¬ ((P = 1 ∧ (1 : Int) = 1) ∨ (P = 1 ∧ (1 : Int) = 2) ∨ (P = 1 ∧ (1 : Int) = 3) ∨ (P = 1 ∧ (1 : Int) = 4) ∨ (P = 1 ∧ (1 : Int) = 5) ∨ (P = 0 ∧ (1 : Int) = 13) ∨ (P = P ∧ (1 : Int) = 4) ∨ P = (P + 4) ∨ P = (P + 5)) := (fun q => q.elim (fun h => absurd h.1 (np0 hP rfl)) (fun q => q.elim (fun h => absurd h.1 (np0 hP rfl)) (fun q => q.elim (fun h => absurd h.1 (np0 hP rfl)) (fun q => q.elim (fun h => absurd h.1 (np0 hP rfl)) (fun q => q.elim (fun h => absurd h.1 (np0 hP rfl)) (fun q => q.elim (fun h => absurd h.1 (np0 hP rfl)) (fun q => q.elim (fun h => absurd h.2 (ni rfl)) (fun q => q.elim (fun h => absurd h (p0p rfl)) (fun h => absurd h (p0p rfl))))))))))
theorem qn_989da5460 {P : Nat} (hP : P = 13 ∨ P = 25) : ¬ ((P = 1 ∧ (2 : Int) = 1) ∨ (P = 1 ∧ (2 : Int) = 2) ∨ (P = 1 ∧ (2 : Int) = 3) ∨ (P = 1 ∧ (2 : Int) = 4) ∨ (P = 1 ∧ (2 : Int) = 5) ∨ (P = 0 ∧ (2 : Int) = 13) ∨ (P = P ∧ (2 : Int) = 4) ∨ P = (P + 4) ∨ P = (P + 5)) := (fun q => q.elim (fun h => absurd h.1 (np0 hP rfl)) (fun q => q.elim (fun h => absurd h.1 (np0 hP rfl)) (fun q => q.elim (fun h => absurd h.1 (np0 hP rfl)) (fun q => q.elim (fun h => absurd h.1 (np0 hP rfl)) (fun q => q.elim (fun h => absurd h.1 (np0 hP rfl)) (fun q => q.elim (fun h => absurd h.1 (np0 hP rfl)) (fun q => q.elim (fun h => absurd h.2 (ni rfl)) (fun q => q.elim (fun h => absurd h (p0p rfl)) (fun h => absurd h (p0p rfl))))))))))
theorem qn_a34b6617d {P : Nat} (hP : P = 13 ∨ P = 25) : ¬ ((P = 1 ∧ (3 : Int) = 1) ∨ (P = 1 ∧ (3 : Int) = 2) ∨ (P = 1 ∧ (3 : Int) = 3) ∨ (P = 1 ∧ (3 : Int) = 4) ∨ (P = 1 ∧ (3 : Int) = 5) ∨ (P = 0 ∧ (3 : Int) = 13) ∨ (P = P ∧ (3 : Int) = 4) ∨ P = (P + 4) ∨ P = (P + 5)) := (fun q => q.elim (fun h => absurd h.1 (np0 hP rfl)) (fun q => q.elim (fun h => absurd h.1 (np0 hP rfl)) (fun q => q.elim (fun h => absurd h.1 (np0 hP rfl)) (fun q => q.elim (fun h => absurd h.1 (np0 hP rfl)) (fun q => q.elim (fun h => absurd h.1 (np0 hP rfl)) (fun q => q.elim (fun h => absurd h.1 (np0 hP rfl)) (fun q => q.elim (fun h => absurd h.2 (ni rfl)) (fun q => q.elim (fun h => absurd h (p0p rfl)) (fun h => absurd h (p0p rfl))))))))))
theorem qn_e7f046477 {P : Nat} {j : Int} (hP : P = 13 ∨ P = 25) : ¬ (((3 : Nat) = 1 ∧ j = 1) ∨ ((3 : Nat) = 1 ∧ j = 2) ∨ ((3 : Nat) = 1 ∧ j = 3) ∨ ((3 : Nat) = 1 ∧ j = 4) ∨ ((3 : Nat) = 1 ∧ j = 5) ∨ ((3 : Nat) = 0 ∧ j = 13) ∨ ((3 : Nat) = P ∧ j = 4) ∨ (3 : Nat) = (P + 4) ∨ (3 : Nat) = (P + 5)) := (fun q => q.elim (fun h => absurd h.1 (nn rfl)) (fun q => q.elim (fun h => absurd h.1 (nn rfl)) (fun q => q.elim (fun h => absurd h.1 (nn rfl)) (fun q => q.elim (fun h => absurd h.1 (nn rfl)) (fun q => q.elim (fun h => absurd h.1 (nn rfl)) (fun q => q.elim (fun h => absurd h.1 (nn rfl)) (fun q => q.elim (fun h => absurd h.1 (pn0 hP rfl)) (fun q => q.elim (fun h => absurd h (pn hP rfl rfl)) (fun h => absurd h (pn hP rfl rfl))))))))))
theorem qn_64e884695 {P : Nat} {j : Int} (hP : P = 13 ∨ P = 25) : ¬ (((2 : Nat) = 1 ∧ j = 1) ∨ ((2 : Nat) = 1 ∧ j = 2) ∨ ((2 : Nat) = 1 ∧ j = 3) ∨ ((2 : Nat) = 1 ∧ j = 4) ∨ ((2 : Nat) = 1 ∧ j = 5) ∨ ((2 : Nat) = 0 ∧ j = 13) ∨ ((2 : Nat) = P ∧ j = 4) ∨ (2 : Nat) = (P + 4) ∨ (2 : Nat) = (P + 5)) := (fun q => q.elim (fun h => absurd h.1 (nn rfl)) (fun q => q.elim (fun h => absurd h.1 (nn rfl)) (fun q => q.elim (fun h => absurd h.1 (nn rfl)) (fun q => q.elim (fun h => absurd h.1 (nn rfl)) (fun q => q.elim (fun h => absurd h.1 (nn rfl)) (fun q => q.elim (fun h => absurd h.1 (nn rfl)) (fun q => q.elim (fun h => absurd h.1 (pn0 hP rfl)) (fun q => q.elim (fun h => absurd h (pn hP rfl rfl)) (fun h => absurd h (pn hP rfl rfl))))))))))
theorem qn_451f4811a {P : Nat} {j : Int} (hP : P = 13 ∨ P = 25) : ¬ (((43 : Nat) = 1 ∧ j = 1) ∨ ((43 : Nat) = 1 ∧ j = 2) ∨ ((43 : Nat) = 1 ∧ j = 3) ∨ ((43 : Nat) = 1 ∧ j = 4) ∨ ((43 : Nat) = 1 ∧ j = 5) ∨ ((43 : Nat) = 0 ∧ j = 13) ∨ ((43 : Nat) = P ∧ j = 4) ∨ (43 : Nat) = (P + 4) ∨ (43 : Nat) = (P + 5)) := (fun q => q.elim (fun h => absurd h.1 (nn rfl)) (fun q => q.elim (fun h => absurd h.1 (nn rfl)) (fun q => q.elim (fun h => absurd h.1 (nn rfl)) (fun q => q.elim (fun h => absurd h.1 (nn rfl)) (fun q => q.elim (fun h => absurd h.1 (nn rfl)) (fun q => q.elim (fun h => absurd h.1 (nn rfl)) (fun q => q.elim (fun h => absurd h.1 (pn0 hP rfl)) (fun q => q.elim (fun h => absurd h (pn hP rfl rfl)) (fun h => absurd h (pn hP rfl rfl))))))))))
theorem qn_cc3ee8b1b {P : Nat} {j : Int} (hP : P = 13 ∨ P = 25) : ¬ (((6 : Nat) = 1 ∧ j = 1) ∨ ((6 : Nat) = 1 ∧ j = 2) ∨ ((6 : Nat) = 1 ∧ j = 3) ∨ ((6 : Nat) = 1 ∧ j = 4) ∨ ((6 : Nat) = 1 ∧ j = 5) ∨ ((6 : Nat) = 0 ∧ j = 13) ∨ ((6 : Nat) = P ∧ j = 4) ∨ (6 : Nat) = (P + 4) ∨ (6 : Nat) = (P + 5)) := (fun q => q.elim (fun h => absurd h.1 (nn rfl)) (fun q => q.elim (fun h => absurd h.1 (nn rfl)) (fun q => q.elim (fun h => absurd h.1 (nn rfl)) (fun q => q.elim (fun h => absurd h.1 (nn rfl)) (fun q => q.elim (fun h => absurd h.1 (nn rfl)) (fun q => q.elim (fun h => absurd h.1 (nn rfl)) (fun q => q.elim (fun h => absurd h.1 (pn0 hP rfl)) (fun q => q.elim (fun h => absurd h (pn hP rfl rfl)) (fun h => absurd h (pn hP rfl rfl))))))))))
theorem qn_e6749617a {P : Nat} {j : Int} (hP : P = 13 ∨ P = 25) : ¬ (((66 : Nat) = 1 ∧ j = 1) ∨ ((66 : Nat) = 1 ∧ j = 2) ∨ ((66 : Nat) = 1 ∧ j = 3) ∨ ((66 : Nat) = 1 ∧ j = 4) ∨ ((66 : Nat) = 1 ∧ j = 5) ∨ ((66 : Nat) = 0 ∧ j = 13) ∨ ((66 : Nat) = P ∧ j = 4) ∨ (66 : Nat) = (P + 4) ∨ (66 : Nat) = (P + 5)) := (fun q => q.elim (fun h => absurd h.1 (nn rfl)) (fun q => q.elim (fun h => absurd h.1 (nn rfl)) (fun q => q.elim (fun h => absurd h.1 (nn rfl)) (fun q => q.elim (fun h => absurd h.1 (nn rfl)) (fun q => q.elim (fun h => absurd h.1 (nn rfl)) (fun q => q.elim (fun h => absurd h.1 (nn rfl)) (fun q => q.elim (fun h => absurd h.1 (pn0 hP rfl)) (fun q => q.elim (fun h => absurd h (pn hP rfl rfl)) (fun h => absurd h (pn hP rfl rfl))))))))))
theorem qn_e4da0ae8c {j : Int} : ¬ (((1 : Nat) = 41 ∧ j = 0) ∨ (1 : Nat) = 42 ∨ ((1 : Nat) = 41 ∧ j = 2) ∨ ((1 : Nat) = 41 ∧ j = 3) ∨ ((1 : Nat) = 41 ∧ j = 4) ∨ ((1 : Nat) = 41 ∧ j = 5) ∨ ((1 : Nat) = 41 ∧ j = 6) ∨ ((1 : Nat) = 41 ∧ j = 7) ∨ ((1 : Nat) = 41 ∧ j = 8) ∨ ((1 : Nat) = 41 ∧ j = 48) ∨ (1 : Nat) = 63 ∨ (1 : Nat) = 64) := (fun q => q.elim (fun h => absurd h.1 (nn rfl)) (fun q => q.elim (fun h => absurd h (nn rfl)) (fun q => q.elim (fun h => absurd h.1 (nn rfl)) (fun q => q.elim (fun h => absurd h.1 (nn rfl)) (fun q => q.elim (fun h => absurd h.1 (nn rfl)) (fun q => q.elim (fun h => absurd h.1 (nn rfl)) (fun q => q.elim (fun h => absurd h.1 (nn rfl)) (fun q => q.elim (fun h => absurd h.1 (nn rfl)) (fun q => q.elim (fun h => absurd h.1 (nn rfl)) (fun q => q.elim (fun h => absurd h.1 (nn rfl)) (fun q => q.elim (fun h => absurd h (nn rfl)) (fun h => absurd h (nn rfl)))))))))))))
theorem qn_bc95bba4c {P : Nat} {j : Int} (hP : P = 13 ∨ P = 25) : ¬ ((P = 41 ∧ j = 0) ∨ P = 42 ∨ (P = 41 ∧ j = 2) ∨ (P = 41 ∧ j = 3) ∨ (P = 41 ∧ j = 4) ∨ (P = 41 ∧ j = 5) ∨ (P = 41 ∧ j = 6) ∨ (P = 41 ∧ j = 7) ∨ (P = 41 ∧ j = 8) ∨ (P = 41 ∧ j = 48) ∨ P = 63 ∨ P = 64) := (fun q => q.elim (fun h => absurd h.1 (np0 hP rfl)) (fun q => q.elim (fun h => absurd h (np0 hP rfl)) (fun q => q.elim (fun h => absurd h.1 (np0 hP rfl)) (fun q => q.elim (fun h => absurd h.1 (np0 hP rfl)) (fun q => q.elim (fun h => absurd h.1 (np0 hP rfl)) (fun q => q.elim (fun h => absurd h.1 (np0 hP rfl)) (fun q => q.elim (fun h => absurd h.1 (np0 hP rfl)) (fun q => q.elim (fun h => absurd h.1 (np0 hP rfl)) (fun q => q.elim (fun h => absurd h.1 (np0 hP rfl)) (fun q => q.elim (fun h => absurd h.1 (np0 hP rfl)) (fun q => q.elim (fun h => absurd h (np0 hP rfl)) (fun h => absurd h (np0 hP rfl)))))))))))))
theorem qn_aa477815d : ¬ (((41 : Nat) = 41 ∧ (20 : Int) = 0) ∨ (41 : Nat) = 42 ∨ ((41 : Nat) = 41 ∧ (20 : Int) = 2) ∨ ((41 : Nat) = 41 ∧ (20 : Int) = 3) ∨ ((41 : Nat) = 41 ∧ (20 : Int) = 4) ∨ ((41 : Nat) = 41 ∧ (20 : Int) = 5) ∨ ((41 : Nat) = 41 ∧ (20 : Int) = 6) ∨ ((41 : Nat) = 41 ∧ (20 : Int) = 7) ∨ ((41 : Nat) = 41 ∧ (20 : Int) = 8) ∨ ((41 : Nat) = 41 ∧ (20 : Int) = 48) ∨ (41 : Nat) = 63 ∨ (41 : Nat) = 64) := (fun q => q.elim (fun h => absurd h.2 (ni rfl)) (fun q => q.elim (fun h => absurd h (nn rfl)) (fun q => q.elim (fun h => absurd h.2 (ni rfl)) (fun q => q.elim (fun h => absurd h.2 (ni rfl)) (fun q => q.elim (fun h => absurd h.2 (ni rfl)) (fun q => q.elim (fun h => absurd h.2 (ni rfl)) (fun q => q.elim (fun h => absurd h.2 (ni rfl)) (fun q => q.elim (fun h => absurd h.2 (ni rfl)) (fun q => q.elim (fun h => absurd h.2 (ni rfl)) (fun q => q.elim (fun h => absurd h.2 (ni rfl)) (fun q => q.elim (fun h => absurd h (nn rfl)) (fun h => absurd h (nn rfl)))))))))))))
theorem qn_7936e07cf : ¬ (((41 : Nat) = 41 ∧ (21 : Int) = 0) ∨ (41 : Nat) = 42 ∨ ((41 : Nat) = 41 ∧ (21 : Int) = 2) ∨ ((41 : Nat) = 41 ∧ (21 : Int) = 3) ∨ ((41 : Nat) = 41 ∧ (21 : Int) = 4) ∨ ((41 : Nat) = 41 ∧ (21 : Int) = 5) ∨ ((41 : Nat) = 41 ∧ (21 : Int) = 6) ∨ ((41 : Nat) = 41 ∧ (21 : Int) = 7) ∨ ((41 : Nat) = 41 ∧ (21 : Int) = 8) ∨ ((41 : Nat) = 41 ∧ (21 : Int) = 48) ∨ (41 : Nat) = 63 ∨ (41 : Nat) = 64) := (fun q => q.elim (fun h => absurd h.2 (ni rfl)) (fun q => q.elim (fun h => absurd h (nn rfl)) (fun q => q.elim (fun h => absurd h.2 (ni rfl)) (fun q => q.elim (fun h => absurd h.2 (ni rfl)) (fun q => q.elim (fun h => absurd h.2 (ni rfl)) (fun q => q.elim (fun h => absurd h.2 (ni rfl)) (fun q => q.elim (fun h => absurd h.2 (ni rfl)) (fun q => q.elim (fun h => absurd h.2 (ni rfl)) (fun q => q.elim (fun h => absurd h.2 (ni rfl)) (fun q => q.elim (fun h => absurd h.2 (ni rfl)) (fun q => q.elim (fun h => absurd h (nn rfl)) (fun h => absurd h (nn rfl)))))))))))))
theorem qn_ee150294c : ¬ (((41 : Nat) = 41 ∧ (22 : Int) = 0) ∨ (41 : Nat) = 42 ∨ ((41 : Nat) = 41 ∧ (22 : Int) = 2) ∨ ((41 : Nat) = 41 ∧ (22 : Int) = 3) ∨ ((41 : Nat) = 41 ∧ (22 : Int) = 4) ∨ ((41 : Nat) = 41 ∧ (22 : Int) = 5) ∨ ((41 : Nat) = 41 ∧ (22 : Int) = 6) ∨ ((41 : Nat) = 41 ∧ (22 : Int) = 7) ∨ ((41 : Nat) = 41 ∧ (22 : Int) = 8) ∨ ((41 : Nat) = 41 ∧ (22 : Int) = 48) ∨ (41 : Nat) = 63 ∨ (41 : Nat) = 64) := (fun q => q.elim (fun h => absurd h.2 (ni rfl)) (fun q => q.elim (fun h => absurd h (nn rfl)) (fun q => q.elim (fun h => absurd h.2 (ni rfl)) (fun q => q.elim (fun h => absurd h.2 (ni rfl)) (fun q => q.elim (fun h => absurd h.2 (ni rfl)) (fun q => q.elim (fun h => absurd h.2 (ni rfl)) (fun q => q.elim (fun h => absurd h.2 (ni rfl)) (fun q => q.elim (fun h => absurd h.2 (ni rfl)) (fun q => q.elim (fun h => absurd h.2 (ni rfl)) (fun q => q.elim (fun h => absurd h.2 (ni rfl)) (fun q => q.elim (fun h => absurd h (nn rfl)) (fun h => absurd h (nn rfl)))))))))))))
theorem qn_f079f4214 : ¬ (((41 : Nat) = 41 ∧ (23 : Int) = 0) ∨ (41 : Nat) = 42 ∨ ((41 : Nat) = 41 ∧ (23 : Int) = 2) ∨ ((41 : Nat) = 41 ∧ (23 : Int) = 3) ∨ ((41 : Nat) = 41 ∧ (23 : Int) = 4) ∨ ((41 : Nat) = 41 ∧ (23 : Int) = 5) ∨ ((41 : Nat) = 41 ∧ (23 : Int) = 6) ∨ ((41 : Nat) = 41 ∧ (23 : Int) = 7) ∨ ((41 : Nat) = 41 ∧ (23 : Int) = 8) ∨ ((41 : Nat) = 41 ∧ (23 : Int) = 48) ∨ (41 : Nat) = 63 ∨ (41 : Nat) = 64) := (fun q => q.elim (fun h => absurd h.2 (ni rfl)) (fun q => q.elim (fun h => absurd h (nn rfl)) (fun q => q.elim (fun h => absurd h.2 (ni rfl)) (fun q => q.elim (fun h => absurd h.2 (ni rfl)) (fun q => q.elim (fun h => absurd h.2 (ni rfl)) (fun q => q.elim (fun h => absurd h.2 (ni rfl)) (fun q => q.elim (fun h => absurd h.2 (ni rfl)) (fun q => q.elim (fun h => absurd h.2 (ni rfl)) (fun q => q.elim (fun h => absurd h.2 (ni rfl)) (fun q => q.elim (fun h => absurd h.2 (ni rfl)) (fun q => q.elim (fun h => absurd h (nn rfl)) (fun h => absurd h (nn rfl)))))))))))))
theorem qn_a0ddd52db {j : Int} : ¬ (((3 : Nat) = 41 ∧ j = 0) ∨ (3 : Nat) = 42 ∨ ((3 : Nat) = 41 ∧ j = 2) ∨ ((3 : Nat) = 41 ∧ j = 3) ∨ ((3 : Nat) = 41 ∧ j = 4) ∨ ((3 : Nat) = 41 ∧ j = 5) ∨ ((3 : Nat) = 41 ∧ j = 6) ∨ ((3 : Nat) = 41 ∧ j = 7) ∨ ((3 : Nat) = 41 ∧ j = 8) ∨ ((3 : Nat) = 41 ∧ j = 48) ∨ (3 : Nat) = 63 ∨ (3 : Nat) = 64) := (fun q => q.elim (fun h => absurd h.1 (nn rfl)) (fun q => q.elim (fun h => absurd h (nn rfl)) (fun q => q.elim (fun h => absurd h.1 (nn rfl)) (fun q => q.elim (fun h => absurd h.1 (nn rfl)) (fun q => q.elim (fun h => absurd h.1 (nn rfl)) (fun q => q.elim (fun h => absurd h.1 (nn rfl)) (fun q => q.elim (fun h => absurd h.1 (nn rfl)) (fun q => q.elim (fun h => absurd h.1 (nn rfl)) (fun q => q.elim (fun h => absurd h.1 (nn rfl)) (fun q => q.elim (fun h => absurd h.1 (nn rfl)) (fun q => q.elim (fun h => absurd h (nn rfl)) (fun h => absurd h (nn rfl)))))))))))))
theorem qn_877774147 : ¬ (((41 : Nat) = 41 ∧ (52 : Int) = 0) ∨ (41 : Nat) = 42 ∨ ((41 : Nat) = 41 ∧ (52 : Int) = 2) ∨ ((41 : Nat) = 41 ∧ (52 : Int) = 3) ∨ ((41 : Nat) = 41 ∧ (52 : Int) = 4) ∨ ((41 : Nat) = 41 ∧ (52 : Int) = 5) ∨ ((41 : Nat) = 41 ∧ (52 : Int) = 6) ∨ ((41 : Nat) = 41 ∧ (52 : Int) = 7) ∨ ((41 : Nat) = 41 ∧ (52 : Int) = 8) ∨ ((41 : Nat) = 41 ∧ (52 : Int) = 48) ∨ (41 : Nat) = 63 ∨ (41 : Nat) = 64) := (fun q => q.elim (fun h => absurd h.2 (ni rfl)) (fun q => q.elim (fun h => absurd h (nn rfl)) (fun q => q.elim (fun h => absurd h.2 (ni rfl)) (fun q => q.elim (fun h => absurd h.2 (ni rfl)) (fun q => q.elim (fun h => absurd h.2 (ni rfl)) (fun q => q.elim (fun h => absurd h.2 (ni rfl)) (fun q => q.elim (fun h => absurd h.2 (ni rfl)) (fun q => q.elim (fun h => absurd h.2 (ni rfl)) (fun q => q.elim (fun h => absurd h.2 (ni rfl)) (fun q => q.elim (fun h => absurd h.2 (ni rfl)) (fun q => q.elim (fun h => absurd h (nn rfl)) (fun h => absurd h (nn rfl)))))))))))))
theorem qn_77c6ffb78 : ¬ (((41 : Nat) = 41 ∧ (35 : Int) = 0) ∨ (41 : Nat) = 42 ∨ ((41 : Nat) = 41 ∧ (35 : Int) = 2) ∨ ((41 : Nat) = 41 ∧ (35 : Int) = 3) ∨ ((41 : Nat) = 41 ∧ (35 : Int) = 4) ∨ ((41 : Nat) = 41 ∧ (35 : Int) = 5) ∨ ((41 : Nat) = 41 ∧ (35 : Int) = 6) ∨ ((41 : Nat) = 41 ∧ (35 : Int) = 7) ∨ ((41 : Nat) = 41 ∧ (35 : Int) = 8) ∨ ((41 : Nat) = 41 ∧ (35 : Int) = 48) ∨ (41 : Nat) = 63 ∨ (41 : Nat) = 64) := (fun q => q.elim (fun h => absurd h.2 (ni rfl)) (fun q => q.elim (fun h => absurd h (nn rfl)) (fun q => q.elim (fun h => absurd h.2 (ni rfl)) (fun q => q.elim (fun h => absurd h.2 (ni rfl)) (fun q => q.elim (fun h => absurd h.2 (ni rfl)) (fun q => q.elim (fun h => absurd h.2 (ni rfl)) (fun q => q.elim (fun h => absurd h.2 (ni rfl)) (fun q => q.elim (fun h => absurd h.2 (ni rfl)) (fun q => q.elim (fun h => absurd h.2 (ni rfl)) (fun q => q.elim (fun h => absurd h.2 (ni rfl)) (fun q => q.elim (fun h => absurd h (nn rfl)) (fun h => absurd h (nn rfl)))))))))))))
theorem qn_2fc470899 {j : Int} : ¬ (((2 : Nat) = 41 ∧ j = 0) ∨ (2 : Nat) = 42 ∨ ((2 : Nat) = 41 ∧ j = 2) ∨ ((2 : Nat) = 41 ∧ j = 3) ∨ ((2 : Nat) = 41 ∧ j = 4) ∨ ((2 : Nat) = 41 ∧ j = 5) ∨ ((2 : Nat) = 41 ∧ j = 6) ∨ ((2 : Nat) = 41 ∧ j = 7) ∨ ((2 : Nat) = 41 ∧ j = 8) ∨ ((2 : Nat) = 41 ∧ j = 48) ∨ (2 : Nat) = 63 ∨ (2 : Nat) = 64) := (fun q => q.elim (fun h => absurd h.1 (nn rfl)) (fun q => q.elim (fun h => absurd h (nn rfl)) (fun q => q.elim (fun h => absurd h.1 (nn rfl)) (fun q => q.elim (fun h => absurd h.1 (nn rfl)) (fun q => q.elim (fun h => absurd h.1 (nn rfl)) (fun q => q.elim (fun h => absurd h.1 (nn rfl)) (fun q => q.elim (fun h => absurd h.1 (nn rfl)) (fun q => q.elim (fun h => absurd h.1 (nn rfl)) (fun q => q.elim (fun h => absurd h.1 (nn rfl)) (fun q => q.elim (fun h => absurd h.1 (nn rfl)) (fun q => q.elim (fun h => absurd h (nn rfl)) (fun h => absurd h (nn rfl)))))))))))))
theorem qn_a1452b2ed {j : Int} : ¬ (((43 : Nat) = 41 ∧ j = 0) ∨ (43 : Nat) = 42 ∨ ((43 : Nat) = 41 ∧ j = 2) ∨ ((43 : Nat) = 41 ∧ j = 3) ∨ ((43 : Nat) = 41 ∧ j = 4) ∨ ((43 : Nat) = 41 ∧ j = 5) ∨ ((43 : Nat) = 41 ∧ j = 6) ∨ ((43 : Nat) = 41 ∧ j = 7) ∨ ((43 : Nat) = 41 ∧ j = 8) ∨ ((43 : Nat) = 41 ∧ j = 48) ∨ (43 : Nat) = 63 ∨ (43 : Nat) = 64) := (fun q => q.elim (fun h => absurd h.1 (nn rfl)) (fun q => q.elim (fun h => absurd h (nn rfl)) (fun q => q.elim (fun h => absurd h.1 (nn rfl)) (fun q => q.elim (fun h => absurd h.1 (nn rfl)) (fun q => q.elim (fun h => absurd h.1 (nn rfl)) (fun q => q.elim (fun h => absurd h.1 (nn rfl)) (fun q => q.elim (fun h => absurd h.1 (nn rfl)) (fun q => q.elim (fun h => absurd h.1 (nn rfl)) (fun q => q.elim (fun h => absurd h.1 (nn rfl)) (fun q => q.elim (fun h => absurd h.1 (nn rfl)) (fun q => q.elim (fun h => absurd h (nn rfl)) (fun h => absurd h (nn rfl)))))))))))))
theorem qn_3fa8cd205 {j : Int} : ¬ (((6 : Nat) = 41 ∧ j = 0) ∨ (6 : Nat) = 42 ∨ ((6 : Nat) = 41 ∧ j = 2) ∨ ((6 : Nat) = 41 ∧ j = 3) ∨ ((6 : Nat) = 41 ∧ j = 4) ∨ ((6 : Nat) = 41 ∧ j = 5) ∨ ((6 : Nat) = 41 ∧ j = 6) ∨ ((6 : Nat) = 41 ∧ j = 7) ∨ ((6 : Nat) = 41 ∧ j = 8) ∨ ((6 : Nat) = 41 ∧ j = 48) ∨ (6 : Nat) = 63 ∨ (6 : Nat) = 64) := (fun q => q.elim (fun h => absurd h.1 (nn rfl)) (fun q => q.elim (fun h => absurd h (nn rfl)) (fun q => q.elim (fun h => absurd h.1 (nn rfl)) (fun q => q.elim (fun h => absurd h.1 (nn rfl)) (fun q => q.elim (fun h => absurd h.1 (nn rfl)) (fun q => q.elim (fun h => absurd h.1 (nn rfl)) (fun q => q.elim (fun h => absurd h.1 (nn rfl)) (fun q => q.elim (fun h => absurd h.1 (nn rfl)) (fun q => q.elim (fun h => absurd h.1 (nn rfl)) (fun q => q.elim (fun h => absurd h.1 (nn rfl)) (fun q => q.elim (fun h => absurd h (nn rfl)) (fun h => absurd h (nn rfl)))))))))))))
theorem qn_f3f9429c3 {j : Int} : ¬ (((66 : Nat) = 41 ∧ j = 0) ∨ (66 : Nat) = 42 ∨ ((66 : Nat) = 41 ∧ j = 2) ∨ ((66 : Nat) = 41 ∧ j = 3) ∨ ((66 : Nat) = 41 ∧ j = 4) ∨ ((66 : Nat) = 41 ∧ j = 5) ∨ ((66 : Nat) = 41 ∧ j = 6) ∨ ((66 : Nat) = 41 ∧ j = 7) ∨ ((66 : Nat) = 41 ∧ j = 8) ∨ ((66 : Nat) = 41 ∧ j = 48) ∨ (66 : Nat) = 63 ∨ (66 : Nat) = 64) := (fun q => q.elim (fun h => absurd h.1 (nn rfl)) (fun q => q.elim (fun h => absurd h (nn rfl)) (fun q => q.elim (fun h => absurd h.1 (nn rfl)) (fun q => q.elim (fun h => absurd h.1 (nn rfl)) (fun q => q.elim (fun h => absurd h.1 (nn rfl)) (fun q => q.elim (fun h => absurd h.1 (nn rfl)) (fun q => q.elim (fun h => absurd h.1 (nn rfl)) (fun q => q.elim (fun h => absurd h.1 (nn rfl)) (fun q => q.elim (fun h => absurd h.1 (nn rfl)) (fun q => q.elim (fun h => absurd h.1 (nn rfl)) (fun q => q.elim (fun h => absurd h (nn rfl)) (fun h => absurd h (nn rfl)))))))))))))
theorem qn_f46dc6fb3 {P : Nat} {j : Int} (hP : P = 13 ∨ P = 25) : ¬ (((41 : Nat) = 1 ∧ j = 1) ∨ ((41 : Nat) = 1 ∧ j = 2) ∨ ((41 : Nat) = 1 ∧ j = 3) ∨ ((41 : Nat) = 1 ∧ j = 4) ∨ ((41 : Nat) = 1 ∧ j = 5) ∨ ((41 : Nat) = 0 ∧ j = 13) ∨ ((41 : Nat) = P ∧ j = 5) ∨ (41 : Nat) = (P + 5) ∨ (41 : Nat) = (P + 6)) := (fun q => q.elim (fun h => absurd h.1 (nn rfl)) (fun q => q.elim (fun h => absurd h.1 (nn rfl)) (fun q => q.elim (fun h => absurd h.1 (nn rfl)) (fun q => q.elim (fun h => absurd h.1 (nn rfl)) (fun q => q.elim (fun h => absurd h.1 (nn rfl)) (fun q => q.elim (fun h => absurd h.1 (nn rfl)) (fun q => q.elim (fun h => absurd h.1 (pn0 hP rfl)) (fun q => q.elim (fun h => absurd h (pn hP rfl rfl)) (fun h => absurd h (pn hP rfl rfl))))))))))
theorem qn_a06c5bbb9 {P : Nat} (hP : P = 13 ∨ P = 25) : ¬ ((P = 1 ∧ (0 : Int) = 1) ∨ (P = 1 ∧ (0 : Int) = 2) ∨ (P = 1 ∧ (0 : Int) = 3) ∨ (P = 1 ∧ (0 : Int) = 4) ∨ (P = 1 ∧ (0 : Int) = 5) ∨ (P = 0 ∧ (0 : Int) = 13) ∨ (P = P ∧ (0 : Int) = 5) ∨ P = (P + 5) ∨ P = (P + 6)) := (fun q => q.elim (fun h => absurd h.1 (np0 hP rfl)) (fun q => q.elim (fun h => absurd h.1 (np0 hP rfl)) (fun q => q.elim (fun h => absurd h.1 (np0 hP rfl)) (fun q => q.elim (fun h => absurd h.1 (np0 hP rfl)) (fun q => q.elim (fun h => absurd h.1 (np0 hP rfl)) (fun q => q.elim (fun h => absurd h.1 (np0 hP rfl)) (fun q => q.elim (fun h => absurd h.2 (ni rfl)) (fun q => q.elim (fun h => absurd h (p0p rfl)) (fun h => absurd h (p0p rfl))))))))))
theorem qn_f922313e4 {P : Nat} (hP : P = 13 ∨ P = 25) : ¬ ((P = 1 ∧ (1 : Int) = 1) ∨ (P = 1 ∧ (1 : Int) = 2) ∨ (P = 1 ∧ (1 : Int) = 3) ∨ (P = 1 ∧ (1 : Int) = 4) ∨ (P = 1 ∧ (1 : Int) = 5) ∨ (P = 0 ∧ (1 : Int) = 13) ∨ (P = P ∧ (1 : Int) = 5) ∨ P = (P + 5) ∨ P = (P + 6)) := (fun q => q.elim (fun h => absurd h.1 (np0 hP rfl)) (fun q => q.elim (fun h => absurd h.1 (np0 hP rfl)) (fun q => q.elim (fun h => absurd h.1 (np0 hP rfl)) (fun q => q.elim (fun h => absurd h.1 (np0 hP rfl)) (fun q => q.elim (fun h => absurd h.1 (np0 hP rfl)) (fun q => q.elim (fun h => absurd h.1 (np0 hP rfl)) (fun q => q.elim (fun h => absurd h.2 (ni rfl)) (fun q => q.elim (fun h => absurd h (p0p rfl)) (fun h => absurd h (p0p rfl))))))))))
theorem qn_7a4fcc1ca {P : Nat} (hP : P = 13 ∨ P = 25) : ¬ ((P = 1 ∧ (2 : Int) = 1) ∨ (P = 1 ∧ (2 : Int) = 2) ∨ (P = 1 ∧ (2 : Int) = 3) ∨ (P = 1 ∧ (2 : Int) = 4) ∨ (P = 1 ∧ (2 : Int) = 5) ∨ (P = 0 ∧ (2 : Int) = 13) ∨ (P = P ∧ (2 : Int) = 5) ∨ P = (P + 5) ∨ P = (P + 6)) := (fun q => q.elim (fun h => absurd h.1 (np0 hP rfl)) (fun q => q.elim (fun h => absurd h.1 (np0 hP rfl)) (fun q => q.elim (fun h => absurd h.1 (np0 hP rfl)) (fun q => q.elim (fun h => absurd h.1 (np0 hP rfl)) (fun q => q.elim (fun h => absurd h.1 (np0 hP rfl)) (fun q => q.elim (fun h => absurd h.1 (np0 hP rfl)) (fun q => q.elim (fun h => absurd h.2 (ni rfl)) (fun q => q.elim (fun h => absurd h (p0p rfl)) (fun h => absurd h (p0p rfl))))))))))
theorem qn_ab8d63db3 {P : Nat} (hP : P = 13 ∨ P = 25) : ¬ ((P = 1 ∧ (3 : Int) = 1) ∨ (P = 1 ∧ (3 : Int) = 2) ∨ (P = 1 ∧ (3 : Int) = 3) ∨ (P = 1 ∧ (3 : Int) = 4) ∨ (P = 1 ∧ (3 : Int) = 5) ∨ (P = 0 ∧ (3 : Int) = 13) ∨ (P = P ∧ (3 : Int) = 5) ∨ P = (P + 5) ∨ P = (P + 6)) := (fun q => q.elim (fun h => absurd h.1 (np0 hP rfl)) (fun q => q.elim (fun h => absurd h.1 (np0 hP rfl)) (fun q => q.elim (fun h => absurd h.1 (np0 hP rfl)) (fun q => q.elim (fun h => absurd h.1 (np0 hP rfl)) (fun q => q.elim (fun h => absurd h.1 (np0 hP rfl)) (fun q => q.elim (fun h => absurd h.1 (np0 hP rfl)) (fun q => q.elim (fun h => absurd h.2 (ni rfl)) (fun q => q.elim (fun h => absurd h (p0p rfl)) (fun h => absurd h (p0p rfl))))))))))
theorem qn_7f13ac530 {P : Nat} {j : Int} (hP : P = 13 ∨ P = 25) : ¬ (((3 : Nat) = 1 ∧ j = 1) ∨ ((3 : Nat) = 1 ∧ j = 2) ∨ ((3 : Nat) = 1 ∧ j = 3) ∨ ((3 : Nat) = 1 ∧ j = 4) ∨ ((3 : Nat) = 1 ∧ j = 5) ∨ ((3 : Nat) = 0 ∧ j = 13) ∨ ((3 : Nat) = P ∧ j = 5) ∨ (3 : Nat) = (P + 5) ∨ (3 : Nat) = (P + 6)) := (fun q => q.elim (fun h => absurd h.1 (nn rfl)) (fun q => q.elim (fun h => absurd h.1 (nn rfl)) (fun q => q.elim (fun h => absurd h.1 (nn rfl)) (fun q => q.elim (fun h => absurd h.1 (nn rfl)) (fun q => q.elim (fun h => absurd h.1 (nn rfl)) (fun q => q.elim (fun h => absurd h.1 (nn rfl)) (fun q => q.elim (fun h => absurd h.1 (pn0 hP rfl)) (fun q => q.elim (fun h => absurd h (pn hP rfl rfl)) (fun h => absurd h (pn hP rfl rfl))))))))))
theorem qn_f75877a0d {P : Nat} {j : Int} (hP : P = 13 ∨ P = 25) : ¬ (((2 : Nat) = 1 ∧ j = 1) ∨ ((2 : Nat) = 1 ∧ j = 2) ∨ ((2 : Nat) = 1 ∧ j = 3) ∨ ((2 : Nat) = 1 ∧ j = 4) ∨ ((2 : Nat) = 1 ∧ j = 5) ∨ ((2 : Nat) = 0 ∧ j = 13) ∨ ((2 : Nat) = P ∧ j = 5) ∨ (2 : Nat) = (P + 5) ∨ (2 : Nat) = (P + 6)) := (fun q => q.elim (fun h => absurd h.1 (nn rfl)) (fun q => q.elim (fun h => absurd h.1 (nn rfl)) (fun q => q.elim (fun h => absurd h.1 (nn rfl)) (fun q => q.elim (fun h => absurd h.1 (nn rfl)) (fun q => q.elim (fun h => absurd h.1 (nn rfl)) (fun q => q.elim (fun h => absurd h.1 (nn rfl)) (fun q => q.elim (fun h => absurd h.1 (pn0 hP rfl)) (fun q => q.elim (fun h => absurd h (pn hP rfl rfl)) (fun h => absurd h (pn hP rfl rfl))))))))))
theorem qn_bcdf94085 {P : Nat} {j : Int} (hP : P = 13 ∨ P = 25) : ¬ (((43 : Nat) = 1 ∧ j = 1) ∨ ((43 : Nat) = 1 ∧ j = 2) ∨ ((43 : Nat) = 1 ∧ j = 3) ∨ ((43 : Nat) = 1 ∧ j = 4) ∨ ((43 : Nat) = 1 ∧ j = 5) ∨ ((43 : Nat) = 0 ∧ j = 13) ∨ ((43 : Nat) = P ∧ j = 5) ∨ (43 : Nat) = (P + 5) ∨ (43 : Nat) = (P + 6)) := (fun q => q.elim (fun h => absurd h.1 (nn rfl)) (fun q => q.elim (fun h => absurd h.1 (nn rfl)) (fun q => q.elim (fun h => absurd h.1 (nn rfl)) (fun q => q.elim (fun h => absurd h.1 (nn rfl)) (fun q => q.elim (fun h => absurd h.1 (nn rfl)) (fun q => q.elim (fun h => absurd h.1 (nn rfl)) (fun q => q.elim (fun h => absurd h.1 (pn0 hP rfl)) (fun q => q.elim (fun h => absurd h (pn hP rfl rfl)) (fun h => absurd h (pn hP rfl rfl))))))))))
theorem qn_891661a0a {P : Nat} {j : Int} (hP : P = 13 ∨ P = 25) : ¬ (((6 : Nat) = 1 ∧ j = 1) ∨ ((6 : Nat) = 1 ∧ j = 2) ∨ ((6 : Nat) = 1 ∧ j = 3) ∨ ((6 : Nat) = 1 ∧ j = 4) ∨ ((6 : Nat) = 1 ∧ j = 5) ∨ ((6 : Nat) = 0 ∧ j = 13) ∨ ((6 : Nat) = P ∧ j = 5) ∨ (6 : Nat) = (P + 5) ∨ (6 : Nat) = (P + 6)) := (fun q => q.elim (fun h => absurd h.1 (nn rfl)) (fun q => q.elim (fun h => absurd h.1 (nn rfl)) (fun q => q.elim (fun h => absurd h.1 (nn rfl)) (fun q => q.elim (fun h => absurd h.1 (nn rfl)) (fun q => q.elim (fun h => absurd h.1 (nn rfl)) (fun q => q.elim (fun h => absurd h.1 (nn rfl)) (fun q => q.elim (fun h => absurd h.1 (pn0 hP rfl)) (fun q => q.elim (fun h => absurd h (pn hP rfl rfl)) (fun h => absurd h (pn hP rfl rfl))))))))))
theorem qn_882c01e17 {P : Nat} {j : Int} (hP : P = 13 ∨ P = 25) : ¬ (((66 : Nat) = 1 ∧ j = 1) ∨ ((66 : Nat) = 1 ∧ j = 2) ∨ ((66 : Nat) = 1 ∧ j = 3) ∨ ((66 : Nat) = 1 ∧ j = 4) ∨ ((66 : Nat) = 1 ∧ j = 5) ∨ ((66 : Nat) = 0 ∧ j = 13) ∨ ((66 : Nat) = P ∧ j = 5) ∨ (66 : Nat) = (P + 5) ∨ (66 : Nat) = (P + 6)) := (fun q => q.elim (fun h => absurd h.1 (nn rfl)) (fun q => q.elim (fun h => absurd h.1 (nn rfl)) (fun q => q.elim (fun h => absurd h.1 (nn rfl)) (fun q => q.elim (fun h => absurd h.1 (nn rfl)) (fun q => q.elim (fun h => absurd h.1 (nn rfl)) (fun q => q.elim (fun h => absurd h.1 (nn rfl)) (fun q => q.elim (fun h => absurd h.1 (pn0 hP rfl)) (fun q => q.elim (fun h => absurd h (pn hP rfl rfl)) (fun h => absurd h (pn hP rfl rfl))))))))))
theorem qn_42c22a4f3 {j : Int} : ¬ (((41 : Nat) = 0 ∧ j = 11) ∨ ((41 : Nat) = 3 ∧ j = 3) ∨ (41 : Nat) = 38) := (fun q => q.elim (fun h => absurd h.1 (nn rfl)) (fun q => q.elim (fun h => absurd h.1 (nn rfl)) (fun h => absurd h (nn rfl))))
theorem qn_6c6a5b112 {j : Int} : ¬ (((1 : Nat) = 0 ∧ j = 11) ∨ ((1 : Nat) = 3 ∧ j = 3) ∨ (1 : Nat) = 38) := (fun q => q.elim (fun h => absurd h.1 (nn rfl)) (fun q => q.elim (fun h => absurd h.1 (nn rfl)) (fun h => absurd h (nn rfl))))
theorem qn_e809d71be {j : Int} : ¬ (((1 : Nat) = 41 ∧ j = 0) ∨ ((1 : Nat) = 41 ∧ j = 35) ∨ ((1 : Nat) = 41 ∧ j = 36) ∨ (1 : Nat) = 58) := (fun q => q.elim (fun h => absurd h.1 (nn rfl)) (fun q => q.elim (fun h => absurd h.1 (nn rfl)) (fun q => q.elim (fun h => absurd h.1 (nn rfl)) (fun h => absurd h (nn rfl)))))
theorem qn_a0e956850 : ¬ (((41 : Nat) = 41 ∧ (2 : Int) = 0) ∨ ((41 : Nat) = 41 ∧ (2 : Int) = 35) ∨ ((41 : Nat) = 41 ∧ (2 : Int) = 36) ∨ (41 : Nat) = 58) := (fun q => q.elim (fun h => absurd h.2 (ni rfl)) (fun q => q.elim (fun h => absurd h.2 (ni rfl)) (fun q => q.elim (fun h => absurd h.2 (ni rfl)) (fun h => absurd h (nn rfl)))))
theorem qn_6b590954a {P : Nat} {j : Int} (hP : P = 13 ∨ P = 25) : ¬ ((P = 0 ∧ j = 11) ∨ (P = 3 ∧ j = 3) ∨ P = 38) := (fun q => q.elim (fun h => absurd h.1 (np0 hP rfl)) (fun q => q.elim (fun h => absurd h.1 (np0 hP rfl)) (fun h => absurd h (np0 hP rfl))))
theorem qn_1f11d8d5e {P : Nat} {j : Int} (hP : P = 13 ∨ P = 25) : ¬ ((P = 41 ∧ j = 0) ∨ (P = 41 ∧ j = 35) ∨ (P = 41 ∧ j = 36) ∨ P = 58) := (fun q => q.elim (fun h => absurd h.1 (np0 hP rfl)) (fun q => q.elim (fun h => absurd h.1 (np0 hP rfl)) (fun q => q.elim (fun h => absurd h.1 (np0 hP rfl)) (fun h => absurd h (np0 hP rfl)))))
theorem qn_f052b872f : ¬ (((41 : Nat) = 41 ∧ (20 : Int) = 0) ∨ ((41 : Nat) = 41 ∧ (20 : Int) = 35) ∨ ((41 : Nat) = 41 ∧ (20 : Int) = 36) ∨ (41 : Nat) = 58) := (fun q => q.elim (fun h => absurd h.2 (ni rfl)) (fun q => q.elim (fun h => absurd h.2 (ni rfl)) (fun q => q.elim (fun h => absurd h.2 (ni rfl)) (fun h => absurd h (nn rfl)))))
theorem qn_2b743be81 : ¬ (((41 : Nat) = 41 ∧ (21 : Int) = 0) ∨ ((41 : Nat) = 41 ∧ (21 : Int) = 35) ∨ ((41 : Nat) = 41 ∧ (21 : Int) = 36) ∨ (41 : Nat) = 58) := (fun q => q.elim (fun h => absurd h.2 (ni rfl)) (fun q => q.elim (fun h => absurd h.2 (ni rfl)) (fun q => q.elim (fun h => absurd h.2 (ni rfl)) (fun h => absurd h (nn rfl)))))
theorem qn_447ab7c5f : ¬ (((41 : Nat) = 41 ∧ (22 : Int) = 0) ∨ ((41 : Nat) = 41 ∧ (22 : Int) = 35) ∨ ((41 : Nat) = 41 ∧ (22 : Int) = 36) ∨ (41 : Nat) = 58) := (fun q => q.elim (fun h => absurd h.2 (ni rfl)) (fun q => q.elim (fun h => absurd h.2 (ni rfl)) (fun q => q.elim (fun h => absurd h.2 (ni rfl)) (fun h => absurd h (nn rfl)))))
theorem qn_f6a0ac252 : ¬ (((41 : Nat) = 41 ∧ (23 : Int) = 0) ∨ ((41 : Nat) = 41 ∧ (23 : Int) = 35) ∨ ((41 : Nat) = 41 ∧ (23 : Int) = 36) ∨ (41 : Nat) = 58) := (fun q => q.elim (fun h => absurd h.2 (ni rfl)) (fun q => q.elim (fun h => absurd h.2 (ni rfl)) (fun q => q.elim (fun h => absurd h.2 (ni rfl)) (fun h => absurd h (nn rfl)))))
theorem qn_c9ddecc28 : ¬ (((3 : Nat) = 0 ∧ (4 : Int) = 11) ∨ ((3 : Nat) = 3 ∧ (4 : Int) = 3) ∨ (3 : Nat) = 38) := (fun q => q.elim (fun h => absurd h.1 (nn rfl)) (fun q => q.elim (fun h => absurd h.2 (ni rfl)) (fun h => absurd h (nn rfl))))
theorem qn_e5b32c825 {j : Int} : ¬ (((3 : Nat) = 41 ∧ j = 0) ∨ ((3 : Nat) = 41 ∧ j = 35) ∨ ((3 : Nat) = 41 ∧ j = 36) ∨ (3 : Nat) = 58) := (fun q => q.elim (fun h => absurd h.1 (nn rfl)) (fun q => q.elim (fun h => absurd h.1 (nn rfl)) (fun q => q.elim (fun h => absurd h.1 (nn rfl)) (fun h => absurd h (nn rfl)))))
theorem qn_be41875ab : ¬ (((41 : Nat) = 41 ∧ (52 : Int) = 0) ∨ ((41 : Nat) = 41 ∧ (52 : Int) = 35) ∨ ((41 : Nat) = 41 ∧ (52 : Int) = 36) ∨ (41 : Nat) = 58) := (fun q => q.elim (fun h => absurd h.2 (ni rfl)) (fun q => q.elim (fun h => absurd h.2 (ni rfl)) (fun q => q.elim (fun h => absurd h.2 (ni rfl)) (fun h => absurd h (nn rfl)))))
theorem qn_f12bc0175 {j : Int} : ¬ (((2 : Nat) = 41 ∧ j = 0) ∨ ((2 : Nat) = 41 ∧ j = 35) ∨ ((2 : Nat) = 41 ∧ j = 36) ∨ (2 : Nat) = 58) := (fun q => q.elim (fun h => absurd h.1 (nn rfl)) (fun q => q.elim (fun h => absurd h.1 (nn rfl)) (fun q => q.elim (fun h => absurd h.1 (nn rfl)) (fun h => absurd h (nn rfl)))))
theorem qn_a6915fafb {j : Int} : ¬ (((2 : Nat) = 0 ∧ j = 11) ∨ ((2 : Nat) = 3 ∧ j = 3) ∨ (2 : Nat) = 38) := (fun q => q.elim (fun h => absurd h.1 (nn rfl)) (fun q => q.elim (fun h => absurd h.1 (nn rfl)) (fun h => absurd h (nn rfl))))
theorem qn_8711c50f0 {j : Int} : ¬ (((43 : Nat) = 41 ∧ j = 0) ∨ ((43 : Nat) = 41 ∧ j = 35) ∨ ((43 : Nat) = 41 ∧ j = 36) ∨ (43 : Nat) = 58) := (fun q => q.elim (fun h => absurd h.1 (nn rfl)) (fun q => q.elim (fun h => absurd h.1 (nn rfl)) (fun q => q.elim (fun h => absurd h.1 (nn rfl)) (fun h => absurd h (nn rfl)))))
theorem qn_52f444696 {j : Int} : ¬ (((43 : Nat) = 0 ∧ j = 11) ∨ ((43 : Nat) = 3 ∧ j = 3) ∨ (43 : Nat) = 38) := (fun q => q.elim (fun h => absurd h.1 (nn rfl)) (fun q => q.elim (fun h => absurd h.1 (nn rfl)) (fun h => absurd h (nn rfl))))
theorem qn_a936f4de6 {j : Int} : ¬ (((6 : Nat) = 41 ∧ j = 0) ∨ ((6 : Nat) = 41 ∧ j = 35) ∨ ((6 : Nat) = 41 ∧ j = 36) ∨ (6 : Nat) = 58) := (fun q => q.elim (fun h => absurd h.1 (nn rfl)) (fun q => q.elim (fun h => absurd h.1 (nn rfl)) (fun q => q.elim (fun h => absurd h.1 (nn rfl)) (fun h => absurd h (nn rfl)))))
theorem qn_a85717703 {j : Int} : ¬ (((6 : Nat) = 0 ∧ j = 11) ∨ ((6 : Nat) = 3 ∧ j = 3) ∨ (6 : Nat) = 38) := (fun q => q.elim (fun h => absurd h.1 (nn rfl)) (fun q => q.elim (fun h => absurd h.1 (nn rfl)) (fun h => absurd h (nn rfl))))
theorem qn_b6b22f295 {j : Int} : ¬ (((66 : Nat) = 41 ∧ j = 0) ∨ ((66 : Nat) = 41 ∧ j = 35) ∨ ((66 : Nat) = 41 ∧ j = 36) ∨ (66 : Nat) = 58) := (fun q => q.elim (fun h => absurd h.1 (nn rfl)) (fun q => q.elim (fun h => absurd h.1 (nn rfl)) (fun q => q.elim (fun h => absurd h.1 (nn rfl)) (fun h => absurd h (nn rfl)))))
theorem qn_a8b739f8c {j : Int} : ¬ (((66 : Nat) = 0 ∧ j = 11) ∨ ((66 : Nat) = 3 ∧ j = 3) ∨ (66 : Nat) = 38) := (fun q => q.elim (fun h => absurd h.1 (nn rfl)) (fun q => q.elim (fun h => absurd h.1 (nn rfl)) (fun h => absurd h (nn rfl))))
theorem qn_39cd18c3e {j : Int} : ¬ (((1 : Nat) = 41 ∧ j = 0) ∨ (1 : Nat) = 42 ∨ (1 : Nat) = 59) := (fun q => q.elim (fun h => absurd h.1 (nn rfl)) (fun q => q.elim (fun h => absurd h (nn rfl)) (fun h => absurd h (nn rfl))))
theorem qn_53bdb2099 : ¬ (((41 : Nat) = 41 ∧ (2 : Int) = 0) ∨ (41 : Nat) = 42 ∨ (41 : Nat) = 59) := (fun q => q.elim (fun h => absurd h.2 (ni rfl)) (fun q => q.elim (fun h => absurd h (nn rfl)) (fun h => absurd h (nn rfl))))
theorem qn_857752076 {P : Nat} {j : Int} (hP : P = 13 ∨ P = 25) : ¬ ((P = 41 ∧ j = 0) ∨ P = 42 ∨ P = 59) := (fun q => q.elim (fun h => absurd h.1 (np0 hP rfl)) (fun q => q.elim (fun h => absurd h (np0 hP rfl)) (fun h => absurd h (np0 hP rfl))))
theorem qn_561064c41 : ¬ (((41 : Nat) = 41 ∧ (21 : Int) = 0) ∨ (41 : Nat) = 42 ∨ (41 : Nat) = 59) := (fun q => q.elim (fun h => absurd h.2 (ni rfl)) (fun q => q.elim (fun h => absurd h (nn rfl)) (fun h => absurd h (nn rfl))))
theorem qn_b79f282cd : ¬ (((41 : Nat) = 41 ∧ (23 : Int) = 0) ∨ (41 : Nat) = 42 ∨ (41 : Nat) = 59) := (fun q => q.elim (fun h => absurd h.2 (ni rfl)) (fun q => q.elim (fun h => absurd h (nn rfl)) (fun h => absurd h (nn rfl))))
theorem qn_bf2303cc8 {j : Int} : ¬ (((3 : Nat) = 41 ∧ j = 0) ∨ (3 : Nat) = 42 ∨ (3 : Nat) = 59) := (fun q => q.elim (fun h => absurd h.1 (nn rfl)) (fun q => q.elim (fun h => absurd h (nn rfl)) (fun h => absurd h (nn rfl))))
theorem qn_90835161a : ¬ (((41 : Nat) = 41 ∧ (52 : Int) = 0) ∨ (41 : Nat) = 42 ∨ (41 : Nat) = 59) := (fun q => q.elim (fun h => absurd h.2 (ni rfl)) (fun q => q.elim (fun h => absurd h (nn rfl)) (fun h => absurd h (nn rfl))))
theorem qn_732a91ea5 : ¬ (((41 : Nat) = 41 ∧ (35 : Int) = 0) ∨ (41 : Nat) = 42 ∨ (41 : Nat) = 59) := (fun q => q.elim (fun h => absurd h.2 (ni rfl)) (fun q => q.elim (fun h => absurd h (nn rfl)) (fun h => absurd h (nn rfl))))
theorem qn_2ad67e194 {j : Int} : ¬ (((2 : Nat) = 41 ∧ j = 0) ∨ (2 : Nat) = 42 ∨ (2 : Nat) = 59) := (fun q => q.elim (fun h => absurd h.1 (nn rfl)) (fun q => q.elim (fun h => absurd h (nn rfl)) (fun h => absurd h (nn rfl))))
theorem qn_1520ff5e3 {j : Int} : ¬ (((43 : Nat) = 41 ∧ j = 0) ∨ (43 : Nat) = 42 ∨ (43 : Nat) = 59) := (fun q => q.elim (fun h => absurd h.1 (nn rfl)) (fun q => q.elim (fun h => absurd h (nn rfl)) (fun h => absurd h (nn rfl))))
theorem qn_e1050858a {j : Int} : ¬ (((6 : Nat) = 41 ∧ j = 0) ∨ (6 : Nat) = 42 ∨ (6 : Nat) = 59) := (fun q => q.elim (fun h => absurd h.1 (nn rfl)) (fun q => q.elim (fun h => absurd h (nn rfl)) (fun h => absurd h (nn rfl))))
theorem qn_5616dd9ce {j : Int} : ¬ (((66 : Nat) = 41 ∧ j = 0) ∨ (66 : Nat) = 42 ∨ (66 : Nat) = 59) := (fun q => q.elim (fun h => absurd h.1 (nn rfl)) (fun q => q.elim (fun h => absurd h (nn rfl)) (fun h => absurd h (nn rfl))))
theorem qn_753ab1e1a {P : Nat} {j : Int} (hP : P = 13 ∨ P = 25) : ¬ ((P = 41 ∧ j = 0) ∨ P = 42) := (fun q => q.elim (fun h => absurd h.1 (np0 hP rfl)) (fun h => absurd h (np0 hP rfl)))
theorem c_296_301 : mLk 296 301 = some (.aload_n 1, 1) := rfl
theorem c_296_302 : mLk 296 302 = some (.aload_n 0, 1) := rfl
theorem c_296_303 : mLk 296 303 = some (.iload 4, 2) := rfl
theorem c_296_305 : mLk 296 305 = some (.iconst 1, 1) := rfl
theorem c_296_306 : mLk 296 306 = some (.iadd, 1) := rfl
theorem c_296_307 : mLk 296 307 = some (.iaload, 1) := rfl
theorem c_296_308 : mLk 296 308 = some (.aload_n 3, 1) := rfl
theorem c_296_309 : mLk 296 309 = some (.invokestatic 128, 3) := rfl
theorem c_263_0 : mLk 263 0 = some (.aload_n 2, 1) := rfl
theorem c_263_1 : mLk 263 1 = some (.iconst 0, 1) := rfl
theorem c_263_2 : mLk 263 2 = some (.aload_n 0, 1) := rfl
theorem c_263_3 : mLk 263 3 = some (.iload_n 1, 1) := rfl
theorem c_263_4 : mLk 263 4 = some (.invokevirtual 7, 3) := rfl
theorem c_296_312 : mLk 296 312 = some (.istore 5, 2) := rfl
theorem c_296_314 : mLk 296 314 = some (.aload_n 2, 1) := rfl
theorem c_296_315 : mLk 296 315 = some (.aload_n 0, 1) := rfl
theorem c_296_316 : mLk 296 316 = some (.iload 4, 2) := rfl
theorem c_296_318 : mLk 296 318 = some (.iconst 1, 1) := rfl
theorem c_296_319 : mLk 296 319 = some (.iadd, 1) := rfl
theorem c_296_320 : mLk 296 320 = some (.iaload, 1) := rfl
theorem c_296_321 : mLk 296 321 = some (.invokevirtual 133, 3) := rfl
theorem c_296_324 : mLk 296 324 = some (.istore 6, 2) := rfl
theorem c_296_326 : mLk 296 326 = some (.goto 1490, 3) := rfl
theorem c_263_7 : mLk 263 7 = some (.i2l, 1) := rfl
theorem c_263_8 : mLk 263 8 = some (.lastore, 1) := rfl
theorem c_263_9 : mLk 263 9 = some (.goto 6, 3) := rfl
theorem c_263_15 : mLk 263 15 = some (.iconst 0, 1) := rfl
theorem c_263_16 : mLk 263 16 = some (.ireturn, 1) := rfl
theorem c_296_329 : mLk 296 329 = some (.aload_n 1, 1) := rfl
theorem c_296_330 : mLk 296 330 = some (.aload_n 0, 1) := rfl
theorem c_296_331 : mLk 296 331 = some (.iload 4, 2) := rfl
theorem c_296_333 : mLk 296 333 = some (.iconst 1, 1) := rfl
theorem c_296_334 : mLk 296 334 = some (.iadd, 1) := rfl
theorem c_296_335 : mLk 296 335 = some (.iaload, 1) := rfl
theorem c_296_336 : mLk 296 336 = some (.aload_n 3, 1) := rfl
theorem c_296_337 : mLk 296 337 = some (.invokestatic 134, 3) := rfl
theorem c_264_0 : mLk 264 0 = some (.aload_n 2, 1) := rfl
theorem c_264_1 : mLk 264 1 = some (.iconst 0, 1) := rfl
theorem c_264_2 : mLk 264 2 = some (.aload_n 0, 1) := rfl
theorem c_264_3 : mLk 264 3 = some (.iload_n 1, 1) := rfl
theorem c_264_4 : mLk 264 4 = some (.invokevirtual 15, 3) := rfl
theorem c_296_340 : mLk 296 340 = some (.istore 5, 2) := rfl
theorem c_296_342 : mLk 296 342 = some (.aload_n 2, 1) := rfl
theorem c_296_343 : mLk 296 343 = some (.aload_n 0, 1) := rfl
theorem c_296_344 : mLk 296 344 = some (.iload 4, 2) := rfl
theorem c_296_346 : mLk 296 346 = some (.iconst 1, 1) := rfl
theorem c_296_347 : mLk 296 347 = some (.iadd, 1) := rfl
theorem c_296_348 : mLk 296 348 = some (.iaload, 1) := rfl
theorem c_296_349 : mLk 296 349 = some (.invokevirtual 136, 3) := rfl
theorem c_296_352 : mLk 296 352 = some (.istore 6, 2) := rfl
theorem c_296_354 : mLk 296 354 = some (.goto 1462, 3) := rfl
theorem c_264_7 : mLk 264 7 = some (.i2l, 1) := rfl
theorem c_264_8 : mLk 264 8 = some (.lastore, 1) := rfl
theorem c_264_9 : mLk 264 9 = some (.goto 6, 3) := rfl
theorem c_264_15 : mLk 264 15 = some (.iconst 0, 1) := rfl
theorem c_264_16 : mLk 264 16 = some (.ireturn, 1) := rfl
theorem c_296_357 : mLk 296 357 = some (.aload_n 1, 1) := rfl
theorem c_296_358 : mLk 296 358 = some (.aload_n 0, 1) := rfl
theorem c_296_359 : mLk 296 359 = some (.iload 4, 2) := rfl
theorem c_296_361 : mLk 296 361 = some (.iconst 1, 1) := rfl
theorem c_296_362 : mLk 296 362 = some (.iadd, 1) := rfl
theorem c_296_363 : mLk 296 363 = some (.iaload, 1) := rfl
theorem c_296_364 : mLk 296 364 = some (.aload_n 3, 1) := rfl
theorem c_296_365 : mLk 296 365 = some (.invokestatic 137, 3) := rfl
theorem c_265_0 : mLk 265 0 = some (.aload_n 2, 1) := rfl
theorem c_265_1 : mLk 265 1 = some (.iconst 0, 1) := rfl
theorem c_265_2 : mLk 265 2 = some (.aload_n 0, 1) := rfl
theorem c_265_3 : mLk 265 3 = some (.iload_n 1, 1) := rfl
theorem c_265_4 : mLk 265 4 = some (.invokevirtual 18, 3) := rfl
theorem c_296_368 : mLk 296 368 = some (.istore 5, 2) := rfl
theorem c_296_370 : mLk 296 370 = some (.aload_n 2, 1) := rfl
theorem c_296_371 : mLk 296 371 = some (.aload_n 0, 1) := rfl
theorem c_296_372 : mLk 296 372 = some (.iload 4, 2) := rfl
theorem c_296_374 : mLk 296 374 = some (.iconst 1, 1) := rfl
theorem c_296_375 : mLk 296 375 = some (.iadd, 1) := rfl
theorem c_296_376 : mLk 296 376 = some (.iaload, 1) := rfl
theorem c_296_377 : mLk 296 377 = some (.invokevirtual 139, 3) := rfl
theorem c_296_380 : mLk 296 380 = some (.istore 6, 2) := rfl
theorem c_296_382 : mLk 296 382 = some (.goto 1434, 3) := rfl
theorem c_265_7 : mLk 265 7 = some (.i2l, 1) := rfl
theorem c_265_8 : mLk 265 8 = some (.lastore, 1) := rfl
theorem c_265_9 : mLk 265 9 = some (.goto 6, 3) := rfl
theorem c_265_15 : mLk 265 15 = some (.iconst 0, 1) := rfl
theorem c_265_16 : mLk 265 16 = some (.ireturn, 1) := rfl
theorem c_296_385 : mLk 296 385 = some (.aload_n 1, 1) := rfl
theorem c_296_386 : mLk 296 386 = some (.aload_n 0, 1) := rfl
theorem c_296_387 : mLk 296 387 = some (.iload 4, 2) := rfl
theorem c_296_389 : mLk 296 389 = some (.iconst 1, 1) := rfl
theorem c_296_390 : mLk 296 390 = some (.iadd, 1) := rfl
theorem c_296_391 : mLk 296 391 = some (.iaload, 1) := rfl
theorem c_296_392 : mLk 296 392 = some (.aload_n 3, 1) := rfl
theorem c_296_393 : mLk 296 393 = some (.invokestatic 140, 3) := rfl
theorem c_266_0 : mLk 266 0 = some (.aload_n 2, 1) := rfl
theorem c_266_1 : mLk 266 1 = some (.iconst 0, 1) := rfl
theorem c_266_2 : mLk 266 2 = some (.aload_n 0, 1) := rfl
theorem c_266_3 : mLk 266 3 = some (.iload_n 1, 1) := rfl
theorem c_266_4 : mLk 266 4 = some (.invokevirtual 21, 3) := rfl
theorem c_296_396 : mLk 296 396 = some (.istore 5, 2) := rfl
theorem c_296_398 : mLk 296 398 = some (.aload_n 2, 1) := rfl
theorem c_296_399 : mLk 296 399 = some (.aload_n 0, 1) := rfl
theorem c_296_400 : mLk 296 400 = some (.iload 4, 2) := rfl
theorem c_296_402 : mLk 296 402 = some (.iconst 1, 1) := rfl
theorem c_296_403 : mLk 296 403 = some (.iadd, 1) := rfl
theorem c_296_404 : mLk 296 404 = some (.iaload, 1) := rfl
theorem c_296_405 : mLk 296 405 = some (.invokevirtual 142, 3) := rfl
theorem c_296_408 : mLk 296 408 = some (.istore 6, 2) := rfl
theorem c_296_410 : mLk 296 410 = some (.goto 1406, 3) := rfl
theorem c_266_7 : mLk 266 7 = some (.i2l, 1) := rfl
theorem c_266_8 : mLk 266 8 = some (.lastore, 1) := rfl
theorem c_266_9 : mLk 266 9 = some (.goto 6, 3) := rfl
theorem c_266_15 : mLk 266 15 = some (.iconst 0, 1) := rfl
theorem c_266_16 : mLk 266 16 = some (.ireturn, 1) := rfl
theorem c_296_413 : mLk 296 413 = some (.aload_n 1, 1) := rfl
theorem c_296_414 : mLk 296 414 = some (.aload_n 0, 1) := rfl
theorem c_296_415 : mLk 296 415 = some (.iload 4, 2) := rfl
theorem c_296_417 : mLk 296 417 = some (.iconst 1, 1) := rfl
theorem c_296_418 : mLk 296 418 = some (.iadd, 1) := rfl
theorem c_296_419 : mLk 296 419 = some (.iaload, 1) := rfl
theorem c_296_420 : mLk 296 420 = some (.aload_n 3, 1) := rfl
theorem c_296_421 : mLk 296 421 = some (.invokestatic 143, 3) := rfl
theorem c_267_0 : mLk 267 0 = some (.aload_n 2, 1) := rfl
theorem c_267_1 : mLk 267 1 = some (.iconst 0, 1) := rfl
theorem c_267_2 : mLk 267 2 = some (.aload_n 0, 1) := rfl
theorem c_267_3 : mLk 267 3 = some (.iload_n 1, 1) := rfl
theorem c_267_4 : mLk 267 4 = some (.invokevirtual 24, 3) := rfl
theorem c_296_424 : mLk 296 424 = some (.istore 5, 2) := rfl
theorem c_296_426 : mLk 296 426 = some (.aload_n 2, 1) := rfl
theorem c_296_427 : mLk 296 427 = some (.aload_n 0, 1) := rfl
theorem c_296_428 : mLk 296 428 = some (.iload 4, 2) := rfl
theorem c_296_430 : mLk 296 430 = some (.iconst 1, 1) := rfl
theorem c_296_431 : mLk 296 431 = some (.iadd, 1) := rfl
theorem c_296_432 : mLk 296 432 = some (.iaload, 1) := rfl
theorem c_296_433 : mLk 296 433 = some (.invokevirtual 145, 3) := rfl
theorem c_296_436 : mLk 296 436 = some (.istore 6, 2) := rfl
theorem c_296_438 : mLk 296 438 = some (.goto 1378, 3) := rfl
theorem c_267_7 : mLk 267 7 = some (.i2l, 1) := rfl
theorem c_267_8 : mLk 267 8 = some (.lastore, 1) := rfl
theorem c_267_9 : mLk 267 9 = some (.goto 6, 3) := rfl
theorem c_267_15 : mLk 267 15 = some (.iconst 0, 1) := rfl
theorem c_267_16 : mLk 267 16 = some (.ireturn, 1) := rfl
theorem c_296_441 : mLk 296 441 = some (.aload_n 1, 1) := rfl
theorem c_296_442 : mLk 296 442 = some (.invokevirtual 146, 3) := rfl
theorem c_296_445 : mLk 296 445 = some (.pop, 1) := rfl
theorem c_296_446 : mLk 296 446 = some (.aload_n 2, 1) := rfl
theorem c_296_447 : mLk 296 447 = some (.invokevirtual 150, 3) := rfl
theorem c_296_450 : mLk 296 450 = some (.pop, 1) := rfl
theorem c_296_451 : mLk 296 451 = some (.goto 1365, 3) := rfl
theorem c_296_454 : mLk 296 454 = some (.aload_n 1, 1) := rfl
theorem c_296_455 : mLk 296 455 = some (.invokevirtual 151, 3) := rfl
theorem c_296_458 : mLk 296 458 = some (.pop, 1) := rfl
theorem c_296_459 : mLk 296 459 = some (.aload_n 2, 1) := rfl
theorem c_296_460 : mLk 296 460 = some (.invokevirtual 154, 3) := rfl
theorem c_296_463 : mLk 296 463 = some (.pop, 1) := rfl
theorem c_296_464 : mLk 296 464 = some (.goto 1352, 3) := rfl
theorem c_296_467 : mLk 296 467 = some (.aload_n 1, 1) := rfl
theorem c_296_468 : mLk 296 468 = some (.aload_n 0, 1) := rfl
theorem c_296_469 : mLk 296 469 = some (.iload 4, 2) := rfl
theorem c_296_471 : mLk 296 471 = some (.iconst 1, 1) := rfl
theorem c_296_472 : mLk 296 472 = some (.iadd, 1) := rfl
theorem c_296_473 : mLk 296 473 = some (.iaload, 1) := rfl
theorem c_296_474 : mLk 296 474 = some (.aload_n 3, 1) := rfl
theorem c_296_475 : mLk 296 475 = some (.invokestatic 155, 3) := rfl
theorem c_268_0 : mLk 268 0 = some (.aload_n 2, 1) := rfl
theorem c_268_1 : mLk 268 1 = some (.iconst 0, 1) := rfl
theorem c_268_2 : mLk 268 2 = some (.aload_n 0, 1) := rfl
theorem c_268_3 : mLk 268 3 = some (.iload_n 1, 1) := rfl
theorem c_268_4 : mLk 268 4 = some (.invokevirtual 27, 3) := rfl
theorem c_296_478 : mLk 296 478 = some (.istore 5, 2) := rfl
theorem c_296_480 : mLk 296 480 = some (.aload_n 2, 1) := rfl
theorem c_296_481 : mLk 296 481 = some (.aload_n 0, 1) := rfl
theorem c_296_482 : mLk 296 482 = some (.iload 4, 2) := rfl
theorem c_296_484 : mLk 296 484 = some (.iconst 1, 1) := rfl
theorem c_296_485 : mLk 296 485 = some (.iadd, 1) := rfl
theorem c_296_486 : mLk 296 486 = some (.iaload, 1) := rfl
theorem c_296_487 : mLk 296 487 = some (.invokevirtual 157, 3) := rfl
theorem c_296_490 : mLk 296 490 = some (.istore 6, 2) := rfl
theorem c_296_492 : mLk 296 492 = some (.goto 1324, 3) := rfl
theorem c_268_7 : mLk 268 7 = some (.i2l, 1) := rfl
theorem c_268_8 : mLk 268 8 = some (.lastore, 1) := rfl
theorem c_268_9 : mLk 268 9 = some (.goto 6, 3) := rfl
theorem c_268_15 : mLk 268 15 = some (.iconst 0, 1) := rfl
theorem c_268_16 : mLk 268 16 = some (.ireturn, 1) := rfl
theorem c_296_495 : mLk 296 495 = some (.aload_n 1, 1) := rfl
theorem c_296_496 : mLk 296 496 = some (.aload_n 0, 1) := rfl
theorem c_296_497 : mLk 296 497 = some (.iload 4, 2) := rfl
theorem c_296_499 : mLk 296 499 = some (.iconst 1, 1) := rfl
theorem c_296_500 : mLk 296 500 = some (.iadd, 1) := rfl
theorem c_296_501 : mLk 296 501 = some (.iaload, 1) := rfl
theorem c_296_502 : mLk 296 502 = some (.aload_n 0, 1) := rfl
theorem c_296_503 : mLk 296 503 = some (.iload 4, 2) := rfl
theorem c_296_505 : mLk 296 505 = some (.iconst 2, 1) := rfl
theorem c_296_506 : mLk 296 506 = some (.iadd, 1) := rfl
theorem c_296_507 : mLk 296 507 = some (.iaload, 1) := rfl
theorem c_296_508 : mLk 296 508 = some (.aload_n 3, 1) := rfl
theorem c_296_509 : mLk 296 509 = some (.invokestatic 158, 3) := rfl
theorem c_269_0 : mLk 269 0 = some (.aload_n 3, 1) := rfl
theorem c_269_1 : mLk 269 1 = some (.iconst 0, 1) := rfl
theorem c_269_2 : mLk 269 2 = some (.aload_n 0, 1) := rfl
theorem c_269_3 : mLk 269 3 = some (.iload_n 1, 1) := rfl
theorem c_269_4 : mLk 269 4 = some (.iload_n 2, 1) := rfl
theorem c_269_5 : mLk 269 5 = some (.invokevirtual 30, 3) := rfl
theorem c_296_512 : mLk 296 512 = some (.istore 5, 2) := rfl
theorem c_296_514 : mLk 296 514 = some (.aload_n 2, 1) := rfl
theorem c_296_515 : mLk 296 515 = some (.aload_n 0, 1) := rfl
theorem c_296_516 : mLk 296 516 = some (.iload 4, 2) := rfl
theorem c_296_518 : mLk 296 518 = some (.iconst 1, 1) := rfl
theorem c_296_519 : mLk 296 519 = some (.iadd, 1) := rfl
theorem c_296_520 : mLk 296 520 = some (.iaload, 1) := rfl
theorem c_296_521 : mLk 296 521 = some (.aload_n 0, 1) := rfl
theorem c_296_522 : mLk 296 522 = some (.iload 4, 2) := rfl
theorem c_296_524 : mLk 296 524 = some (.iconst 2, 1) := rfl
theorem c_296_525 : mLk 296 525 = some (.iadd, 1) := rfl
theorem c_296_526 : mLk 296 526 = some (.iaload, 1) := rfl
theorem c_296_527 : mLk 296 527 = some (.invokevirtual 161, 3) := rfl
theorem c_296_530 : mLk 296 530 = some (.istore 6, 2) := rfl
theorem c_296_532 : mLk 296 532 = some (.goto 1284, 3) := rfl
theorem c_269_8 : mLk 269 8 = some (.i2l, 1) := rfl
theorem c_269_9 : mLk 269 9 = some (.lastore, 1) := rfl
theorem c_269_10 : mLk 269 10 = some (.goto 11, 3) := rfl
theorem c_269_21 : mLk 269 21 = some (.iconst 0, 1) := rfl
theorem c_269_22 : mLk 269 22 = some (.ireturn, 1) := rfl
theorem c_296_535 : mLk 296 535 = some (.aload_n 1, 1) := rfl
theorem c_296_536 : mLk 296 536 = some (.aload_n 0, 1) := rfl
theorem c_296_537 : mLk 296 537 = some (.iload 4, 2) := rfl
theorem c_296_539 : mLk 296 539 = some (.iconst 1, 1) := rfl
theorem c_296_540 : mLk 296 540 = some (.iadd, 1) := rfl
theorem c_296_541 : mLk 296 541 = some (.iaload, 1) := rfl
theorem c_296_542 : mLk 296 542 = some (.aload_n 0, 1) := rfl
theorem c_296_543 : mLk 296 543 = some (.iload 4, 2) := rfl
theorem c_296_545 : mLk 296 545 = some (.iconst 2, 1) := rfl
theorem c_296_546 : mLk 296 546 = some (.iadd, 1) := rfl
theorem c_296_547 : mLk 296 547 = some (.iaload, 1) := rfl
theorem c_296_548 : mLk 296 548 = some (.aload_n 3, 1) := rfl
theorem c_296_549 : mLk 296 549 = some (.invokestatic 162, 3) := rfl
theorem c_270_0 : mLk 270 0 = some (.aload_n 3, 1) := rfl
theorem c_270_1 : mLk 270 1 = some (.iconst 0, 1) := rfl
theorem c_270_2 : mLk 270 2 = some (.aload_n 0, 1) := rfl
theorem c_270_3 : mLk 270 3 = some (.iload_n 1, 1) := rfl
theorem c_270_4 : mLk 270 4 = some (.iload_n 2, 1) := rfl
theorem c_270_5 : mLk 270 5 = some (.invokevirtual 36, 3) := rfl
theorem c_296_552 : mLk 296 552 = some (.istore 5, 2) := rfl
theorem c_296_554 : mLk 296 554 = some (.aload_n 2, 1) := rfl
theorem c_296_555 : mLk 296 555 = some (.aload_n 0, 1) := rfl
theorem c_296_556 : mLk 296 556 = some (.iload 4, 2) := rfl
theorem c_296_558 : mLk 296 558 = some (.iconst 1, 1) := rfl
theorem c_296_559 : mLk 296 559 = some (.iadd, 1) := rfl
theorem c_296_560 : mLk 296 560 = some (.iaload, 1) := rfl
theorem c_296_561 : mLk 296 561 = some (.aload_n 0, 1) := rfl
theorem c_296_562 : mLk 296 562 = some (.iload 4, 2) := rfl
theorem c_296_564 : mLk 296 564 = some (.iconst 2, 1) := rfl
theorem c_296_565 : mLk 296 565 = some (.iadd, 1) := rfl
theorem c_296_566 : mLk 296 566 = some (.iaload, 1) := rfl
theorem c_296_567 : mLk 296 567 = some (.invokevirtual 164, 3) := rfl
theorem c_296_570 : mLk 296 570 = some (.istore 6, 2) := rfl
theorem c_296_572 : mLk 296 572 = some (.goto 1244, 3) := rfl
theorem c_270_8 : mLk 270 8 = some (.i2l, 1) := rfl
theorem c_270_9 : mLk 270 9 = some (.lastore, 1) := rfl
theorem c_270_10 : mLk 270 10 = some (.goto 11, 3) := rfl
theorem c_270_21 : mLk 270 21 = some (.iconst 0, 1) := rfl
theorem c_270_22 : mLk 270 22 = some (.ireturn, 1) := rfl
theorem km_9_133 : a_lk (kM 9) 133 = some (0, 169) := rfl
theorem km_9_136 : a_lk (kM 9) 136 = some (0, 177) := rfl
theorem km_9_139 : a_lk (kM 9) 139 = some (0, 202) := rfl
theorem km_9_142 : a_lk (kM 9) 142 = some (0, 206) := rfl
theorem km_9_145 : a_lk (kM 9) 145 = some (0, 207) := rfl
theorem km_9_146 : a_lk (kM 9) 146 = some (0, 89) := rfl
theorem km_9_15 : a_lk (kM 9) 15 = some (0, 85) := rfl
theorem km_9_150 : a_lk (kM 9) 150 = some (0, 165) := rfl
theorem km_9_151 : a_lk (kM 9) 151 = some (0, 139) := rfl
theorem km_9_154 : a_lk (kM 9) 154 = some (0, 208) := rfl
theorem km_9_157 : a_lk (kM 9) 157 = some (0, 211) := rfl
theorem km_9_161 : a_lk (kM 9) 161 = some (0, 213) := rfl
theorem km_9_164 : a_lk (kM 9) 164 = some (0, 214) := rfl
theorem km_9_18 : a_lk (kM 9) 18 = some (0, 86) := rfl
theorem km_9_21 : a_lk (kM 9) 21 = some (0, 87) := rfl
theorem km_9_24 : a_lk (kM 9) 24 = some (0, 88) := rfl
theorem km_9_27 : a_lk (kM 9) 27 = some (0, 90) := rfl
theorem km_9_30 : a_lk (kM 9) 30 = some (0, 93) := rfl
theorem km_9_36 : a_lk (kM 9) 36 = some (0, 95) := rfl
theorem km_9_7 : a_lk (kM 9) 7 = some (0, 84) := rfl
set_option maxRecDepth 100000 in
set_option maxHeartbeats 4000000 in
theorem o_1 {xs : Nat → Int32} {L i0 d nc ns P Q : Nat} {c : ME} {Z : AR → Prop} (hi : i0 + 8 ≤ L) (hL : L ≤ 100000) (hI : Iv 0 (-1) P Q c) (hR : Rq P c) (K : ∀ (P2 Q2 : Nat) (c2 : ME) (e : Nat), e ≤ 1 → Iv 0 (-1) P2 Q2 c2 → (Rq P2 c2) → Wp (a_scr L xs) (d + 90) 296 1816 [(4, vi (i0 : Int)), (3, .ref 67), (2, .ref 41), (1, .ref 0), (0, .ref a_SC)] [] (Wd P2 Q2 P2 P2 c2) (nc + e) (ns + 6 * e) Z) : Wp (a_scr L xs) (d + 90) 296 301 [(4, vi (i0 : Int)), (3, .ref 67), (2, .ref 41), (1, .ref 0), (0, .ref a_SC)] [] (Wd P Q P P c) nc ns Z := by
  obtain ⟨x1, hx1⟩ : ∃ z, (xs (i0 + 1)).toInt = z := ⟨_, rfl⟩
  have x1r := c_rng (xs (i0 + 1))
  rw [hx1] at x1r
  obtain ⟨x2, hx2⟩ : ∃ z, (xs (i0 + 2)).toInt = z := ⟨_, rfl⟩
  have x2r := c_rng (xs (i0 + 2))
  rw [hx2] at x2r
  obtain ⟨x3, hx3⟩ : ∃ z, (xs (i0 + 3)).toInt = z := ⟨_, rfl⟩
  have x3r := c_rng (xs (i0 + 3))
  rw [hx3] at x3r
  obtain ⟨x4, hx4⟩ : ∃ z, (xs (i0 + 4)).toInt = z := ⟨_, rfl⟩
  have x4r := c_rng (xs (i0 + 4))
  rw [hx4] at x4r
  obtain ⟨x5, hx5⟩ : ∃ z, (xs (i0 + 5)).toInt = z := ⟨_, rfl⟩
  have x5r := c_rng (xs (i0 + 5))
  rw [hx5] at x5r
  obtain ⟨x6, hx6⟩ : ∃ z, (xs (i0 + 6)).toInt = z := ⟨_, rfl⟩
  have x6r := c_rng (xs (i0 + 6))
  rw [hx6] at x6r
  obtain ⟨x7, hx7⟩ : ∃ z, (xs (i0 + 7)).toInt = z := ⟨_, rfl⟩
  have x7r := c_rng (xs (i0 + 7))
  rw [hx7] at x7r
  have hP := iv_P hI
  have hQ := iv_Q hI
  have hT := rl_t hR
  have hU := rl_u hR
  obtain ⟨n0, hn0⟩ : ∃ z, c P 0 = z := ⟨_, rfl⟩
  have hm0 : c 41 20 = n0 := (rl_nums hR).1.symm.trans hn0
  have hr0 := ir_p0_0 hI hP
  rw [hn0] at hr0
  obtain ⟨n1, hn1⟩ : ∃ z, c P 1 = z := ⟨_, rfl⟩
  have hm1 : c 41 21 = n1 := (rl_nums hR).2.1.symm.trans hn1
  have hr1 := ir_p0_1 hI hP
  rw [hn1] at hr1
  obtain ⟨n2, hn2⟩ : ∃ z, c P 2 = z := ⟨_, rfl⟩
  have hm2 : c 41 22 = n2 := (rl_nums hR).2.2.1.symm.trans hn2
  have hr2 := ir_p0_2 hI hP
  rw [hn2] at hr2
  obtain ⟨n3, hn3⟩ : ∃ z, c P 3 = z := ⟨_, rfl⟩
  have hm3 : c 41 23 = n3 := (rl_nums hR).2.2.2.symm.trans hn3
  have hr3 := ir_p0_3 hI hP
  rw [hn3] at hr3
  have hNimg := rl_img hR
  have hNwk := rl_wk hR
  have h_1 := ir_3_4 hI
  have hIw := rl_iw hR
  refine q_aload_n c_296_301 rfl (q_aload_n c_296_302 rfl (q_iload c_296_303 rfl (q_iconst c_296_305 (v_iadd (v := (i0 : Int) + 1) c_296_306 rfl (v_scr (j := i0 + 1) c_296_307 (by omega) (by omega) hL hx1 (q_aload_n c_296_308 rfl (q_call c_296_309 rfl rfl rfl ?_)))))))
  refine q_aload_n c_263_0 rfl (q_iconst c_263_1 (q_aload_n c_263_2 rfl (q_iload_n c_263_3 rfl ?_)))
  have h_2 := ir_1_3 hI
  refine v_cv c_263_4 km_9_7 rfl rfl (Nat.le_of_ble_eq_true rfl) ⟨⟨rfl, rfl⟩, Nat.le_of_ble_eq_true rfl, rfl⟩ (Nat.le_of_ble_eq_true rfl) (Nat.le_of_ble_eq_true rfl) (fn_of (s_84 (a1 := x1) hI (show (-2147483648) ≤ x1 ∧ x1 ≤ 2147483647 from ⟨by omega, by omega⟩) (fun c_3 hI_4 hF_5 h_6 h_7 => ?_) (fun P Q c_8 y_11 hI_9 hF_10 hy_11 h_12 => ?_)))
  · skip
    intro hG_94
    have h_13 := ir_1_3 hI_4
    refine bk_thr (z := Int32.ofInt 1) rfl ⟨_, _, rfl⟩ rfl (bk_inl (q_istore c_296_312 (Nat.le_of_ble_eq_true rfl) (q_aload_n c_296_314 rfl (q_aload_n c_296_315 rfl (q_iload c_296_316 rfl (q_iconst c_296_318 (v_iadd (v := (i0 : Int) + 1) c_296_319 rfl ?_)))))))
    refine v_scr (j := i0 + 1) c_296_320 (by omega) (by omega) hL hx1 (v_cv c_296_321 km_9_133 rfl rfl (Nat.le_of_ble_eq_true rfl) ⟨⟨rfl, rfl⟩, Nat.le_of_ble_eq_true rfl, rfl⟩ (Nat.le_of_ble_eq_true rfl) (Nat.le_of_ble_eq_true rfl) (q_aload_n c_169_0 rfl (q_iconst c_169_1 (v_pi (z := 0) c_169_2 kf_8_3 rfl (Nat.le_of_ble_eq_true rfl) rfl rfl rfl (by decide) (q_aload_n c_169_5 rfl (q_iload_n c_169_6 rfl ?_))))))
    by_cases h_14 : x1 < 0
    · refine v_if_lt_t (t := 22) c_169_7 rfl ⟨by first | (clear hT hNimg hNwk h_1 h_2 h_13; omega) | omega, h_14, by decide⟩ (q_iconst c_169_22 (q_iconst c_169_23 (q_iconst c_169_24 (v_cv c_169_25 km_8_203 rfl rfl (Nat.le_of_ble_eq_true rfl) ⟨⟨rfl, rfl⟩, Nat.le_of_ble_eq_true rfl, rfl⟩ (Nat.le_of_ble_eq_true rfl) (Nat.le_of_ble_eq_true rfl) (q_iload_n c_145_0 rfl (v_if_ne_f (t := 26) c_145_1 rfl (by decide) (q_aload_n c_145_4 rfl ?_)))))))
      refine v_gi (z := 0) (v := 0) c_145_5 kf_8_3 rfl (Nat.le_of_ble_eq_true rfl) rfl rfl (up_e rfl) (v_if_ne_f (t := 26) c_145_8 rfl (by decide) (q_aload_n c_145_11 rfl (q_iload_n c_145_12 rfl (v_pi (z := 0) c_145_13 kf_8_3 rfl (Nat.le_of_ble_eq_true rfl) rfl rfl rfl (by decide) (q_aload_n c_145_16 rfl (v_gr (t := 42) c_145_17 kf_8_7 rfl (Nat.le_of_ble_eq_true rfl) rfl (q_iload_n c_145_20 rfl ?_)))))))
      refine q_dup2 c_145_21 ⟨rfl, rfl⟩ ?_
      have h_15 := ir_42 hI 1
      have kn_16 : Hid (c_3 42 1 = c 42 1) := hF_5 42 1 (fun h => absurd h.1 (nn rfl))
      refine v_ia (v := c 42 1) c_145_22 rfl (by decide) (by decide) (by decide) ((up_c (nn rfl)).trans ((up_c (nn rfl)).trans (hid kn_16))) (q_iconst c_145_23 (v_iadd (v := c 42 1 + 1) c_145_24 rfl (v_nrm (fun y_17 hy_17 => (v_is c_145_25 rfl (by decide) (by decide) (by decide) (q_aload_n c_145_26 rfl (v_gi (z := 0) (v := 1) c_145_27 kf_8_3 rfl (Nat.le_of_ble_eq_true rfl) rfl rfl ((up_c (nn rfl)).trans (up_e rfl)) (v_if_ne_t (t := 37) c_145_30 rfl (by decide) ?_))))))))
      refine q_iconst c_145_37 (v_zret c_145_38 rfl (by decide) (bk_inl (v_if_ne_f (t := 33) c_169_28 rfl (by decide) (q_iconst c_169_31 (q_iret c_169_32 rfl (bk_inl (q_istore c_296_324 (Nat.le_of_ble_eq_true rfl) ?_)))))))
      refine q_goto (t := 1816) c_296_326 rfl ?_
      have hI_18 := iw_41_0 (v := 0) hI_4 ⟨by decide, by decide⟩
      have hI_19 := iw_41_0 (v := 1) hI_18 ⟨by decide, by decide⟩
      have hI_20 := iw_42 (j := 1) (v := y_17) hI_19 ⟨hy_17.1, hy_17.2⟩
      refine Wp_ls [(4, vi (i0 : Int)), (3, .ref 67), (2, .ref 41), (1, .ref 0), (0, .ref a_SC)] (lsub_cons rfl (lsub_cons rfl (lsub_cons rfl (lsub_cons rfl (lsub_cons rfl lsub_nil))))) ?_
      have kn_21 : Hid (c_3 1 3 = c 1 3) := hF_5 1 3 (fun h => absurd h.1 (nn rfl))
      have h_22 : (up (up (up c_3 41 0 0) 41 0 1) 42 1 y_17) 1 3 = c 1 3 := ((up_c (nn rfl)).trans ((up_c (nn rfl)).trans ((up_c (nn rfl)).trans (hid kn_21))))
      have h_23 := ir_41_2 hI
      have kn_24 : Hid (c_3 41 2 = c 41 2) := hF_5 41 2 (fun h => absurd h.1 (nn rfl))
      have h_25 : (up (up (up c_3 41 0 0) 41 0 1) 42 1 y_17) 41 2 = c 41 2 := ((up_c (nn rfl)).trans ((up_n (by decide)).trans ((up_n (by decide)).trans (hid kn_24))))
      have kn_26 : Hid (c_3 P 0 = n0) := (hF_5 P 0 (fun h => absurd h.1 (np0 hP rfl))).trans (hn0)
      have h_27 : (up (up (up c_3 41 0 0) 41 0 1) 42 1 y_17) P 0 = n0 := ((up_c (np0 hP rfl)).trans ((up_c (np0 hP rfl)).trans ((up_c (np0 hP rfl)).trans (hid kn_26))))
      have kn_28 : Hid (c_3 41 20 = n0) := (hF_5 41 20 (fun h => absurd h.1 (nn rfl))).trans (hm0)
      have h_29 : (up (up (up c_3 41 0 0) 41 0 1) 42 1 y_17) 41 20 = n0 := ((up_c (nn rfl)).trans ((up_n (by decide)).trans ((up_n (by decide)).trans (hid kn_28))))
      have kn_30 : Hid (c_3 P 1 = n1) := (hF_5 P 1 (fun h => absurd h.1 (np0 hP rfl))).trans (hn1)
      have h_31 : (up (up (up c_3 41 0 0) 41 0 1) 42 1 y_17) P 1 = n1 := ((up_c (np0 hP rfl)).trans ((up_c (np0 hP rfl)).trans ((up_c (np0 hP rfl)).trans (hid kn_30))))
      have kn_32 : Hid (c_3 41 21 = n1) := (hF_5 41 21 (fun h => absurd h.1 (nn rfl))).trans (hm1)
      have h_33 : (up (up (up c_3 41 0 0) 41 0 1) 42 1 y_17) 41 21 = n1 := ((up_c (nn rfl)).trans ((up_n (by decide)).trans ((up_n (by decide)).trans (hid kn_32))))
      have kn_34 : Hid (c_3 P 2 = n2) := (hF_5 P 2 (fun h => absurd h.1 (np0 hP rfl))).trans (hn2)
      have h_35 : (up (up (up c_3 41 0 0) 41 0 1) 42 1 y_17) P 2 = n2 := ((up_c (np0 hP rfl)).trans ((up_c (np0 hP rfl)).trans ((up_c (np0 hP rfl)).trans (hid kn_34))))
      have kn_36 : Hid (c_3 41 22 = n2) := (hF_5 41 22 (fun h => absurd h.1 (nn rfl))).trans (hm2)
      have h_37 : (up (up (up c_3 41 0 0) 41 0 1) 42 1 y_17) 41 22 = n2 := ((up_c (nn rfl)).trans ((up_n (by decide)).trans ((up_n (by decide)).trans (hid kn_36))))
      have kn_38 : Hid (c_3 P 3 = n3) := (hF_5 P 3 (fun h => absurd h.1 (np0 hP rfl))).trans (hn3)
      have h_39 : (up (up (up c_3 41 0 0) 41 0 1) 42 1 y_17) P 3 = n3 := ((up_c (np0 hP rfl)).trans ((up_c (np0 hP rfl)).trans ((up_c (np0 hP rfl)).trans (hid kn_38))))
      have kn_40 : Hid (c_3 41 23 = n3) := (hF_5 41 23 (fun h => absurd h.1 (nn rfl))).trans (hm3)
      have h_41 : (up (up (up c_3 41 0 0) 41 0 1) 42 1 y_17) 41 23 = n3 := ((up_c (nn rfl)).trans ((up_n (by decide)).trans ((up_n (by decide)).trans (hid kn_40))))
      have kn_42 : Hid (c_3 3 4 = c 3 4) := hF_5 3 4 (fun h => absurd h.1 (nn rfl))
      have h_43 : (up (up (up c_3 41 0 0) 41 0 1) 42 1 y_17) 3 4 = c 3 4 := ((up_c (nn rfl)).trans ((up_c (nn rfl)).trans ((up_c (nn rfl)).trans (hid kn_42))))
      have h_44 := ir_41_52 hI
      have kn_45 : Hid (c_3 41 52 = c 41 52) := hF_5 41 52 (fun h => absurd h.1 (nn rfl))
      have h_46 : (up (up (up c_3 41 0 0) 41 0 1) 42 1 y_17) 41 52 = c 41 52 := ((up_c (nn rfl)).trans ((up_n (by decide)).trans ((up_n (by decide)).trans (hid kn_45))))
      have h_47 := ir_3_3 hI
      have kn_48 : Hid (c_3 3 3 = c 3 3) := hF_5 3 3 (fun h => absurd h.1 (nn rfl))
      have h_49 : (up (up (up c_3 41 0 0) 41 0 1) 42 1 y_17) 3 3 = c 3 3 := ((up_c (nn rfl)).trans ((up_c (nn rfl)).trans ((up_c (nn rfl)).trans (hid kn_48))))
      have h_50 := ir_41_35 hI
      have kn_51 : Hid (c_3 41 35 = c 41 35) := hF_5 41 35 (fun h => absurd h.1 (nn rfl))
      have h_52 : (up (up (up c_3 41 0 0) 41 0 1) 42 1 y_17) 41 35 = c 41 35 := ((up_c (nn rfl)).trans ((up_n (by decide)).trans ((up_n (by decide)).trans (hid kn_51))))
      have h_53 : (up (up (up c_3 41 0 0) 41 0 1) 42 1 y_17) 3 4 = c 3 4 := ((up_c (nn rfl)).trans ((up_c (nn rfl)).trans ((up_c (nn rfl)).trans (hid kn_42))))
      exact K P Q (up (up (up c_3 41 0 0) 41 0 1) 42 1 y_17) 1 (by decide) hI_20 ⟨by omega, ub_fr hU (fun j => (up_c (nn rfl)).trans ((up_c (nn rfl)).trans ((up_c (nn rfl)).trans (hF_5 2 j (fun h => absurd h.1 (nn rfl)))))) (fun j => (up_c (nn rfl)).trans ((up_c (nn rfl)).trans ((up_c (nn rfl)).trans (hF_5 43 j (fun h => absurd h.1 (nn rfl)))))), ⟨by omega, by omega, by omega, by omega⟩, by omega, by omega, iw_fr2 hIw (by omega) (fun j => (up_c (nn rfl)).trans ((up_c (nn rfl)).trans ((up_c (nn rfl)).trans (hF_5 6 j (fun h => absurd h.1 (nn rfl)))))) (fun j => (up_c (nn rfl)).trans ((up_c (nn rfl)).trans ((up_c (nn rfl)).trans (hF_5 66 j (fun h => absurd h.1 (nn rfl))))))⟩
    · refine v_if_lt_f (t := 22) c_169_7 rfl ⟨by decide, (Int.not_lt.mp h_14), by first | (clear hT hNimg hNwk h_1 h_2 h_13; omega) | omega⟩ (q_iload_n c_169_10 rfl (q_aload_n c_169_11 rfl ?_))
      have h_54 := ir_41_2 hI
      have kn_55 : Hid (c_3 41 2 = c 41 2) := hF_5 41 2 (fun h => absurd h.1 (nn rfl))
      refine v_gi (z := 2) (v := c 41 2) c_169_12 kf_8_99 rfl (Nat.le_of_ble_eq_true rfl) rfl rfl ((up_n (by decide)).trans (hid kn_55)) (v_ic_gt_t (t := 22) c_169_15 rfl ⟨by first | exact q_3b2b08511 h_54 | (clear hT hNimg hNwk h_1 h_2 h_13 h_14; omega) | omega, by omega, by first | (clear hT hNimg hNwk h_1 h_2 h_13 h_14 h_54; omega) | omega⟩ (q_iconst c_169_22 (q_iconst c_169_23 (q_iconst c_169_24 (v_cv c_169_25 km_8_203 rfl rfl (Nat.le_of_ble_eq_true rfl) ⟨⟨rfl, rfl⟩, Nat.le_of_ble_eq_true rfl, rfl⟩ (Nat.le_of_ble_eq_true rfl) (Nat.le_of_ble_eq_true rfl) (q_iload_n c_145_0 rfl (v_if_ne_f (t := 26) c_145_1 rfl (by decide) ?_)))))))
      refine q_aload_n c_145_4 rfl (v_gi (z := 0) (v := 0) c_145_5 kf_8_3 rfl (Nat.le_of_ble_eq_true rfl) rfl rfl (up_e rfl) (v_if_ne_f (t := 26) c_145_8 rfl (by decide) (q_aload_n c_145_11 rfl (q_iload_n c_145_12 rfl (v_pi (z := 0) c_145_13 kf_8_3 rfl (Nat.le_of_ble_eq_true rfl) rfl rfl rfl (by decide) (q_aload_n c_145_16 rfl (v_gr (t := 42) c_145_17 kf_8_7 rfl (Nat.le_of_ble_eq_true rfl) rfl ?_)))))))
      refine q_iload_n c_145_20 rfl (q_dup2 c_145_21 ⟨rfl, rfl⟩ ?_)
      have h_56 := ir_42 hI 1
      have kn_57 : Hid (c_3 42 1 = c 42 1) := hF_5 42 1 (fun h => absurd h.1 (nn rfl))
      refine v_ia (v := c 42 1) c_145_22 rfl (by decide) (by decide) (by decide) ((up_c (nn rfl)).trans ((up_c (nn rfl)).trans (hid kn_57))) (q_iconst c_145_23 (v_iadd (v := c 42 1 + 1) c_145_24 rfl (v_nrm (fun y_58 hy_58 => (v_is c_145_25 rfl (by decide) (by decide) (by decide) (q_aload_n c_145_26 rfl (v_gi (z := 0) (v := 1) c_145_27 kf_8_3 rfl (Nat.le_of_ble_eq_true rfl) rfl rfl ((up_c (nn rfl)).trans (up_e rfl)) (v_if_ne_t (t := 37) c_145_30 rfl (by decide) ?_))))))))
      refine q_iconst c_145_37 (v_zret c_145_38 rfl (by decide) (bk_inl (v_if_ne_f (t := 33) c_169_28 rfl (by decide) (q_iconst c_169_31 (q_iret c_169_32 rfl (bk_inl (q_istore c_296_324 (Nat.le_of_ble_eq_true rfl) ?_)))))))
      refine q_goto (t := 1816) c_296_326 rfl ?_
      have hI_59 := iw_41_0 (v := 0) hI_4 ⟨by decide, by decide⟩
      have hI_60 := iw_41_0 (v := 1) hI_59 ⟨by decide, by decide⟩
      have hI_61 := iw_42 (j := 1) (v := y_58) hI_60 ⟨hy_58.1, hy_58.2⟩
      refine Wp_ls [(4, vi (i0 : Int)), (3, .ref 67), (2, .ref 41), (1, .ref 0), (0, .ref a_SC)] (lsub_cons rfl (lsub_cons rfl (lsub_cons rfl (lsub_cons rfl (lsub_cons rfl lsub_nil))))) ?_
      have kn_62 : Hid (c_3 1 3 = c 1 3) := hF_5 1 3 (fun h => absurd h.1 (nn rfl))
      have h_63 : (up (up (up c_3 41 0 0) 41 0 1) 42 1 y_58) 1 3 = c 1 3 := ((up_c (nn rfl)).trans ((up_c (nn rfl)).trans ((up_c (nn rfl)).trans (hid kn_62))))
      have h_64 : (up (up (up c_3 41 0 0) 41 0 1) 42 1 y_58) 41 2 = c 41 2 := ((up_c (nn rfl)).trans ((up_n (by decide)).trans ((up_n (by decide)).trans (hid kn_55))))
      have kn_65 : Hid (c_3 P 0 = n0) := (hF_5 P 0 (fun h => absurd h.1 (np0 hP rfl))).trans (hn0)
      have h_66 : (up (up (up c_3 41 0 0) 41 0 1) 42 1 y_58) P 0 = n0 := ((up_c (np0 hP rfl)).trans ((up_c (np0 hP rfl)).trans ((up_c (np0 hP rfl)).trans (hid kn_65))))
      have kn_67 : Hid (c_3 41 20 = n0) := (hF_5 41 20 (fun h => absurd h.1 (nn rfl))).trans (hm0)
      have h_68 : (up (up (up c_3 41 0 0) 41 0 1) 42 1 y_58) 41 20 = n0 := ((up_c (nn rfl)).trans ((up_n (by decide)).trans ((up_n (by decide)).trans (hid kn_67))))
      have kn_69 : Hid (c_3 P 1 = n1) := (hF_5 P 1 (fun h => absurd h.1 (np0 hP rfl))).trans (hn1)
      have h_70 : (up (up (up c_3 41 0 0) 41 0 1) 42 1 y_58) P 1 = n1 := ((up_c (np0 hP rfl)).trans ((up_c (np0 hP rfl)).trans ((up_c (np0 hP rfl)).trans (hid kn_69))))
      have kn_71 : Hid (c_3 41 21 = n1) := (hF_5 41 21 (fun h => absurd h.1 (nn rfl))).trans (hm1)
      have h_72 : (up (up (up c_3 41 0 0) 41 0 1) 42 1 y_58) 41 21 = n1 := ((up_c (nn rfl)).trans ((up_n (by decide)).trans ((up_n (by decide)).trans (hid kn_71))))
      have kn_73 : Hid (c_3 P 2 = n2) := (hF_5 P 2 (fun h => absurd h.1 (np0 hP rfl))).trans (hn2)
      have h_74 : (up (up (up c_3 41 0 0) 41 0 1) 42 1 y_58) P 2 = n2 := ((up_c (np0 hP rfl)).trans ((up_c (np0 hP rfl)).trans ((up_c (np0 hP rfl)).trans (hid kn_73))))
      have kn_75 : Hid (c_3 41 22 = n2) := (hF_5 41 22 (fun h => absurd h.1 (nn rfl))).trans (hm2)
      have h_76 : (up (up (up c_3 41 0 0) 41 0 1) 42 1 y_58) 41 22 = n2 := ((up_c (nn rfl)).trans ((up_n (by decide)).trans ((up_n (by decide)).trans (hid kn_75))))
      have kn_77 : Hid (c_3 P 3 = n3) := (hF_5 P 3 (fun h => absurd h.1 (np0 hP rfl))).trans (hn3)
      have h_78 : (up (up (up c_3 41 0 0) 41 0 1) 42 1 y_58) P 3 = n3 := ((up_c (np0 hP rfl)).trans ((up_c (np0 hP rfl)).trans ((up_c (np0 hP rfl)).trans (hid kn_77))))
      have kn_79 : Hid (c_3 41 23 = n3) := (hF_5 41 23 (fun h => absurd h.1 (nn rfl))).trans (hm3)
      have h_80 : (up (up (up c_3 41 0 0) 41 0 1) 42 1 y_58) 41 23 = n3 := ((up_c (nn rfl)).trans ((up_n (by decide)).trans ((up_n (by decide)).trans (hid kn_79))))
      have kn_81 : Hid (c_3 3 4 = c 3 4) := hF_5 3 4 (fun h => absurd h.1 (nn rfl))
      have h_82 : (up (up (up c_3 41 0 0) 41 0 1) 42 1 y_58) 3 4 = c 3 4 := ((up_c (nn rfl)).trans ((up_c (nn rfl)).trans ((up_c (nn rfl)).trans (hid kn_81))))
      have h_83 := ir_41_52 hI
      have kn_84 : Hid (c_3 41 52 = c 41 52) := hF_5 41 52 (fun h => absurd h.1 (nn rfl))
      have h_85 : (up (up (up c_3 41 0 0) 41 0 1) 42 1 y_58) 41 52 = c 41 52 := ((up_c (nn rfl)).trans ((up_n (by decide)).trans ((up_n (by decide)).trans (hid kn_84))))
      have h_86 := ir_3_3 hI
      have kn_87 : Hid (c_3 3 3 = c 3 3) := hF_5 3 3 (fun h => absurd h.1 (nn rfl))
      have h_88 : (up (up (up c_3 41 0 0) 41 0 1) 42 1 y_58) 3 3 = c 3 3 := ((up_c (nn rfl)).trans ((up_c (nn rfl)).trans ((up_c (nn rfl)).trans (hid kn_87))))
      have h_89 := ir_41_35 hI
      have kn_90 : Hid (c_3 41 35 = c 41 35) := hF_5 41 35 (fun h => absurd h.1 (nn rfl))
      have h_91 : (up (up (up c_3 41 0 0) 41 0 1) 42 1 y_58) 41 35 = c 41 35 := ((up_c (nn rfl)).trans ((up_n (by decide)).trans ((up_n (by decide)).trans (hid kn_90))))
      have h_92 : (up (up (up c_3 41 0 0) 41 0 1) 42 1 y_58) 3 4 = c 3 4 := ((up_c (nn rfl)).trans ((up_c (nn rfl)).trans ((up_c (nn rfl)).trans (hid kn_81))))
      exact K P Q (up (up (up c_3 41 0 0) 41 0 1) 42 1 y_58) 1 (by decide) hI_61 ⟨by omega, ub_fr hU (fun j => (up_c (nn rfl)).trans ((up_c (nn rfl)).trans ((up_c (nn rfl)).trans (hF_5 2 j (fun h => absurd h.1 (nn rfl)))))) (fun j => (up_c (nn rfl)).trans ((up_c (nn rfl)).trans ((up_c (nn rfl)).trans (hF_5 43 j (fun h => absurd h.1 (nn rfl)))))), ⟨by omega, by omega, by omega, by omega⟩, by omega, by omega, iw_fr2 hIw (by omega) (fun j => (up_c (nn rfl)).trans ((up_c (nn rfl)).trans ((up_c (nn rfl)).trans (hF_5 6 j (fun h => absurd h.1 (nn rfl)))))) (fun j => (up_c (nn rfl)).trans ((up_c (nn rfl)).trans ((up_c (nn rfl)).trans (hF_5 66 j (fun h => absurd h.1 (nn rfl))))))⟩
  intro hG_94
  refine bk_inl ?_
  have hP := iv_P hI_9
  have hQ := iv_Q hI_9
  have h_93 := ir_1_3 hI_9
  refine v_i2l c_263_7 (by omega) (v_ls c_263_8 rfl (by decide) (by decide) (by decide) (q_goto (t := 15) c_263_9 rfl (q_iconst c_263_15 (q_iret c_263_16 rfl (bk_inl (q_istore c_296_312 (Nat.le_of_ble_eq_true rfl) (q_aload_n c_296_314 rfl ?_)))))))
  refine q_aload_n c_296_315 rfl (q_iload c_296_316 rfl (q_iconst c_296_318 (v_iadd (v := (i0 : Int) + 1) c_296_319 rfl (v_scr (j := i0 + 1) c_296_320 (by omega) (by omega) hL hx1 ?_))))
  have hI_95 := iw_lx (a := 67) (j := 0) (v := y_11) hI_9 (by omega)
  have h_96 := ir_41_2 hI
  have kn_97 : Hid (c_8 41 2 = c 41 2) := hF_10 41 2 qn_d1a559e74
  have kn_98 : Hid (c_8 41 20 = n0) := (hF_10 41 20 qn_d1a559e74).trans (hm0)
  have kn_99 : Hid (c_8 41 21 = n1) := (hF_10 41 21 qn_d1a559e74).trans (hm1)
  have kn_100 : Hid (c_8 41 22 = n2) := (hF_10 41 22 qn_d1a559e74).trans (hm2)
  have kn_101 : Hid (c_8 41 23 = n3) := (hF_10 41 23 qn_d1a559e74).trans (hm3)
  have h_102 := ir_41_52 hI
  have kn_103 : Hid (c_8 41 52 = c 41 52) := hF_10 41 52 qn_d1a559e74
  have h_104 := ir_3_3 hI
  have h_105 := ir_41_35 hI
  have kn_106 : Hid (c_8 41 35 = c 41 35) := hF_10 41 35 qn_d1a559e74
  refine v_cv c_296_321 km_9_133 rfl rfl (Nat.le_of_ble_eq_true rfl) ⟨⟨rfl, rfl⟩, Nat.le_of_ble_eq_true rfl, rfl⟩ (Nat.le_of_ble_eq_true rfl) (Nat.le_of_ble_eq_true rfl) (L_84w (m := c) (a1 := x1) (yg := y_11) (t9 := c 1 3) (n0 := n0) (n1 := n1) (n2 := n2) (n3 := n3) (im := c 3 4) (wk := c 3 3) (F := c 2) (H := c 43) hI_95 hI hI_9 (show (-2147483648) ≤ x1 ∧ x1 ≤ 2147483647 from ⟨by first | exact q_46e5c6368 h_12 | omega, by first | exact q_e1f83221f h_12 | omega⟩) ⟨hy_11.1, hy_11.2⟩ ⟨by first | exact q_ab5745232 h_12 | omega, by first | exact q_c78d853a5 h_12 | omega, by first | exact q_b794499be h_12 | omega⟩ (rfl) (((show _ = c 41 2 from ((up_c (nn rfl)).trans (hid kn_97))).trans (by omega))) ((hn0)) (((up_c (nn rfl)).trans (hid kn_98))) ((hn1)) (((up_c (nn rfl)).trans (hid kn_99))) ((hn2)) (((up_c (nn rfl)).trans (hid kn_100))) ((hn3)) (((up_c (nn rfl)).trans (hid kn_101))) (rfl) (((show _ = c 41 52 from ((up_c (nn rfl)).trans (hid kn_103))).trans (by omega))) (rfl) (((show _ = c 41 35 from ((up_c (nn rfl)).trans (hid kn_106))).trans (by omega))) (fun j => rfl) (fun j => (up_c (nn rfl)).trans (hF_10 43 j qn_0d25b8d75)) hU hG_94 (fun c_107 y_110 hI_108 hF_109 hy_110 h_111 h_112 h_113 h_114 h_115 h_116 h_117 h_118 h_119 h_120 h_121 => (bk_inl ?_)))
  have hs_122 := h_111.symm
  subst hs_122
  have h_123 := ir_41_2 hI_108
  have h_124 := ir_41_8 hI_108
  have h_125 := ir_1_5 hI_9
  have h_126 := ir_41_0 hI_108
  have h_127 := ir_41_20 hI_108
  have h_128 := ir_p0_0 hI_9 hP
  have h_129 := ir_41_21 hI_108
  have h_130 := ir_p0_1 hI_9 hP
  have h_131 := ir_41_22 hI_108
  have h_132 := ir_p0_2 hI_9 hP
  have h_133 := ir_41_23 hI_108
  have h_134 := ir_p0_3 hI_9 hP
  have h_135 := ir_41_52 hI_108
  have h_136 := ir_3_4 hI_9
  have h_137 := ir_41_35 hI_108
  have h_138 := ir_3_3 hI_9
  refine q_istore c_296_324 (Nat.le_of_ble_eq_true rfl) (q_goto (t := 1816) c_296_326 rfl (Wp_ls [(4, vi (i0 : Int)), (3, .ref 67), (2, .ref 41), (1, .ref 0), (0, .ref a_SC)] (lsub_cons rfl (lsub_cons rfl (lsub_cons rfl (lsub_cons rfl (lsub_cons rfl lsub_nil))))) ?_))
  have kn_139 : Hid (c_107 1 3 = c_8 1 3) := (hF_109 1 3 qn_69e479294).trans (up_c (nn rfl))
  have h_140 : c_107 1 3 = c_8 1 3 := (hid kn_139)
  have h_141 : c_107 41 2 = c_107 41 2 := rfl
  have kn_142 : Hid (c_107 P 0 = c_8 P 0) := (hF_109 P 0 (qn_4d0c31530 hP)).trans (up_c (np0 hP rfl))
  have h_143 : c_107 P 0 = c_8 P 0 := (hid kn_142)
  have h_144 : c_107 41 20 = c_107 41 20 := rfl
  have kn_145 : Hid (c_107 P 1 = c_8 P 1) := (hF_109 P 1 (qn_4d0c31530 hP)).trans (up_c (np0 hP rfl))
  have h_146 : c_107 P 1 = c_8 P 1 := (hid kn_145)
  have h_147 : c_107 41 21 = c_107 41 21 := rfl
  have kn_148 : Hid (c_107 P 2 = c_8 P 2) := (hF_109 P 2 (qn_4d0c31530 hP)).trans (up_c (np0 hP rfl))
  have h_149 : c_107 P 2 = c_8 P 2 := (hid kn_148)
  have h_150 : c_107 41 22 = c_107 41 22 := rfl
  have kn_151 : Hid (c_107 P 3 = c_8 P 3) := (hF_109 P 3 (qn_4d0c31530 hP)).trans (up_c (np0 hP rfl))
  have h_152 : c_107 P 3 = c_8 P 3 := (hid kn_151)
  have h_153 : c_107 41 23 = c_107 41 23 := rfl
  have kn_154 : Hid (c_107 3 4 = c_8 3 4) := (hF_109 3 4 qn_dc156a346).trans (up_c (nn rfl))
  have h_155 : c_107 3 4 = c_8 3 4 := (hid kn_154)
  have h_156 : c_107 41 52 = c_107 41 52 := rfl
  have kn_157 : Hid (c_107 3 3 = c_8 3 3) := (hF_109 3 3 qn_dc156a346).trans (up_c (nn rfl))
  have h_158 : c_107 3 3 = c_8 3 3 := (hid kn_157)
  have h_159 : c_107 41 35 = c_107 41 35 := rfl
  have h_160 : c_107 3 4 = c_8 3 4 := (hid kn_154)
  exact K P Q c_107 0 (by decide) hI_108 ⟨by omega, ub_fr hU (fun j => (hF_109 2 j qn_1ac48cb63).trans ((up_c (nn rfl)).trans (hF_10 2 j qn_e229611f6))) (fun j => (hF_109 43 j qn_b8e2be383).trans ((up_c (nn rfl)).trans (hF_10 43 j qn_0d25b8d75))), ⟨by omega, by omega, by omega, by omega⟩, by omega, by omega, iw_fr2 hIw (by omega) (fun j => (hF_109 6 j qn_716ccd88d).trans ((up_c (nn rfl)).trans (hF_10 6 j qn_bc8185036))) (fun j => (hF_109 66 j qn_0a54c67a5).trans ((up_c (nn rfl)).trans (hF_10 66 j qn_82c2f0992)))⟩

set_option maxRecDepth 100000 in
set_option maxHeartbeats 4000000 in
theorem o_2 {xs : Nat → Int32} {L i0 d nc ns P Q : Nat} {c : ME} {Z : AR → Prop} (hi : i0 + 8 ≤ L) (hL : L ≤ 100000) (hI : Iv 0 (-1) P Q c) (hR : Rq P c) (K : ∀ (P2 Q2 : Nat) (c2 : ME) (e : Nat), e ≤ 1 → Iv 0 (-1) P2 Q2 c2 → (Rq P2 c2) → Wp (a_scr L xs) (d + 90) 296 1816 [(4, vi (i0 : Int)), (3, .ref 67), (2, .ref 41), (1, .ref 0), (0, .ref a_SC)] [] (Wd P2 Q2 P2 P2 c2) (nc + e) (ns + 6 * e) Z) : Wp (a_scr L xs) (d + 90) 296 329 [(4, vi (i0 : Int)), (3, .ref 67), (2, .ref 41), (1, .ref 0), (0, .ref a_SC)] [] (Wd P Q P P c) nc ns Z := by
  obtain ⟨x1, hx1⟩ : ∃ z, (xs (i0 + 1)).toInt = z := ⟨_, rfl⟩
  have x1r := c_rng (xs (i0 + 1))
  rw [hx1] at x1r
  obtain ⟨x2, hx2⟩ : ∃ z, (xs (i0 + 2)).toInt = z := ⟨_, rfl⟩
  have x2r := c_rng (xs (i0 + 2))
  rw [hx2] at x2r
  obtain ⟨x3, hx3⟩ : ∃ z, (xs (i0 + 3)).toInt = z := ⟨_, rfl⟩
  have x3r := c_rng (xs (i0 + 3))
  rw [hx3] at x3r
  obtain ⟨x4, hx4⟩ : ∃ z, (xs (i0 + 4)).toInt = z := ⟨_, rfl⟩
  have x4r := c_rng (xs (i0 + 4))
  rw [hx4] at x4r
  obtain ⟨x5, hx5⟩ : ∃ z, (xs (i0 + 5)).toInt = z := ⟨_, rfl⟩
  have x5r := c_rng (xs (i0 + 5))
  rw [hx5] at x5r
  obtain ⟨x6, hx6⟩ : ∃ z, (xs (i0 + 6)).toInt = z := ⟨_, rfl⟩
  have x6r := c_rng (xs (i0 + 6))
  rw [hx6] at x6r
  obtain ⟨x7, hx7⟩ : ∃ z, (xs (i0 + 7)).toInt = z := ⟨_, rfl⟩
  have x7r := c_rng (xs (i0 + 7))
  rw [hx7] at x7r
  have hP := iv_P hI
  have hQ := iv_Q hI
  have hT := rl_t hR
  have hU := rl_u hR
  obtain ⟨n0, hn0⟩ : ∃ z, c P 0 = z := ⟨_, rfl⟩
  have hm0 : c 41 20 = n0 := (rl_nums hR).1.symm.trans hn0
  have hr0 := ir_p0_0 hI hP
  rw [hn0] at hr0
  obtain ⟨n1, hn1⟩ : ∃ z, c P 1 = z := ⟨_, rfl⟩
  have hm1 : c 41 21 = n1 := (rl_nums hR).2.1.symm.trans hn1
  have hr1 := ir_p0_1 hI hP
  rw [hn1] at hr1
  obtain ⟨n2, hn2⟩ : ∃ z, c P 2 = z := ⟨_, rfl⟩
  have hm2 : c 41 22 = n2 := (rl_nums hR).2.2.1.symm.trans hn2
  have hr2 := ir_p0_2 hI hP
  rw [hn2] at hr2
  obtain ⟨n3, hn3⟩ : ∃ z, c P 3 = z := ⟨_, rfl⟩
  have hm3 : c 41 23 = n3 := (rl_nums hR).2.2.2.symm.trans hn3
  have hr3 := ir_p0_3 hI hP
  rw [hn3] at hr3
  have hNimg := rl_img hR
  have hNwk := rl_wk hR
  have h_1 := ir_3_4 hI
  have hIw := rl_iw hR
  refine q_aload_n c_296_329 rfl (q_aload_n c_296_330 rfl (q_iload c_296_331 rfl (q_iconst c_296_333 (v_iadd (v := (i0 : Int) + 1) c_296_334 rfl (v_scr (j := i0 + 1) c_296_335 (by omega) (by omega) hL hx1 (q_aload_n c_296_336 rfl (q_call c_296_337 rfl rfl rfl ?_)))))))
  refine q_aload_n c_264_0 rfl (q_iconst c_264_1 (q_aload_n c_264_2 rfl (q_iload_n c_264_3 rfl ?_)))
  have h_2 := ir_1_3 hI
  refine v_cv c_264_4 km_9_15 rfl rfl (Nat.le_of_ble_eq_true rfl) ⟨⟨rfl, rfl⟩, Nat.le_of_ble_eq_true rfl, rfl⟩ (Nat.le_of_ble_eq_true rfl) (Nat.le_of_ble_eq_true rfl) (s_85 (a1 := x1) hI (show (-2147483648) ≤ x1 ∧ x1 ≤ 2147483647 from ⟨by omega, by omega⟩) (fun c_3 hI_4 hF_5 h_6 h_7 => ?_) (fun c_8 y_11 hI_9 hF_10 hy_11 h_12 => ?_))
  · skip
    have h_13 := ir_1_3 hI_4
    refine bk_thr (z := Int32.ofInt 1) rfl ⟨_, _, rfl⟩ rfl (bk_inl (q_istore c_296_340 (Nat.le_of_ble_eq_true rfl) (q_aload_n c_296_342 rfl (q_aload_n c_296_343 rfl (q_iload c_296_344 rfl (q_iconst c_296_346 (v_iadd (v := (i0 : Int) + 1) c_296_347 rfl ?_)))))))
    refine v_scr (j := i0 + 1) c_296_348 (by omega) (by omega) hL hx1 ?_
    have h_14 := ir_41_2 hI
    have kn_15 : Hid (c_3 41 2 = c 41 2) := hF_5 41 2 (fun h => absurd h.1 (nn rfl))
    have h_16 : c_3 41 2 = c 41 2 := (hid kn_15)
    refine v_cv c_296_349 km_9_136 rfl rfl (Nat.le_of_ble_eq_true rfl) ⟨⟨rfl, rfl⟩, Nat.le_of_ble_eq_true rfl, rfl⟩ (Nat.le_of_ble_eq_true rfl) (Nat.le_of_ble_eq_true rfl) (s_177 (a1 := x1) hI_4 (show (-2147483648) ≤ x1 ∧ x1 ≤ 2147483647 from ⟨by first | (clear hT hNimg hNwk h_1 h_2 h_13; omega) | omega, by first | (clear hT hNimg hNwk h_1 h_2 h_13; omega) | omega⟩) (fun c_17 y_20 hI_18 hF_19 hy_20 h_21 => (bk_inl ?_)))
    have h_22 := ir_41_2 hI_18
    refine q_istore c_296_352 (Nat.le_of_ble_eq_true rfl) (q_goto (t := 1816) c_296_354 rfl (Wp_ls [(4, vi (i0 : Int)), (3, .ref 67), (2, .ref 41), (1, .ref 0), (0, .ref a_SC)] (lsub_cons rfl (lsub_cons rfl (lsub_cons rfl (lsub_cons rfl (lsub_cons rfl lsub_nil))))) ?_))
    have kn_23 : Hid (c_3 1 3 = c 1 3) := hF_5 1 3 (fun h => absurd h.1 (nn rfl))
    have kn_24 : Hid (c_17 1 3 = c 1 3) := (hF_19 1 3 qn_6e098d395).trans (hid kn_23)
    have h_25 : c_17 1 3 = c 1 3 := (hid kn_24)
    have h_26 : c_17 41 2 = c_17 41 2 := rfl
    have kn_27 : Hid (c_3 P 0 = n0) := (hF_5 P 0 (fun h => absurd h.1 (np0 hP rfl))).trans (hn0)
    have kn_28 : Hid (c_17 P 0 = n0) := (hF_19 P 0 (qn_6cada6812 hP)).trans (hid kn_27)
    have h_29 : c_17 P 0 = n0 := (hid kn_28)
    have kn_30 : Hid (c_3 41 20 = n0) := (hF_5 41 20 (fun h => absurd h.1 (nn rfl))).trans (hm0)
    have kn_31 : Hid (c_17 41 20 = n0) := (hF_19 41 20 qn_dccf86c1c).trans (hid kn_30)
    have h_32 : c_17 41 20 = n0 := (hid kn_31)
    have kn_33 : Hid (c_3 P 1 = n1) := (hF_5 P 1 (fun h => absurd h.1 (np0 hP rfl))).trans (hn1)
    have kn_34 : Hid (c_17 P 1 = n1) := (hF_19 P 1 (qn_6cada6812 hP)).trans (hid kn_33)
    have h_35 : c_17 P 1 = n1 := (hid kn_34)
    have kn_36 : Hid (c_3 41 21 = n1) := (hF_5 41 21 (fun h => absurd h.1 (nn rfl))).trans (hm1)
    have kn_37 : Hid (c_17 41 21 = n1) := (hF_19 41 21 qn_29130c158).trans (hid kn_36)
    have h_38 : c_17 41 21 = n1 := (hid kn_37)
    have kn_39 : Hid (c_3 P 2 = n2) := (hF_5 P 2 (fun h => absurd h.1 (np0 hP rfl))).trans (hn2)
    have kn_40 : Hid (c_17 P 2 = n2) := (hF_19 P 2 (qn_6cada6812 hP)).trans (hid kn_39)
    have h_41 : c_17 P 2 = n2 := (hid kn_40)
    have kn_42 : Hid (c_3 41 22 = n2) := (hF_5 41 22 (fun h => absurd h.1 (nn rfl))).trans (hm2)
    have kn_43 : Hid (c_17 41 22 = n2) := (hF_19 41 22 qn_e543f8eca).trans (hid kn_42)
    have h_44 : c_17 41 22 = n2 := (hid kn_43)
    have kn_45 : Hid (c_3 P 3 = n3) := (hF_5 P 3 (fun h => absurd h.1 (np0 hP rfl))).trans (hn3)
    have kn_46 : Hid (c_17 P 3 = n3) := (hF_19 P 3 (qn_6cada6812 hP)).trans (hid kn_45)
    have h_47 : c_17 P 3 = n3 := (hid kn_46)
    have kn_48 : Hid (c_3 41 23 = n3) := (hF_5 41 23 (fun h => absurd h.1 (nn rfl))).trans (hm3)
    have kn_49 : Hid (c_17 41 23 = n3) := (hF_19 41 23 qn_0ec1c0dac).trans (hid kn_48)
    have h_50 : c_17 41 23 = n3 := (hid kn_49)
    have kn_51 : Hid (c_3 3 4 = c 3 4) := hF_5 3 4 (fun h => absurd h.1 (nn rfl))
    have kn_52 : Hid (c_17 3 4 = c 3 4) := (hF_19 3 4 qn_0c1841372).trans (hid kn_51)
    have h_53 : c_17 3 4 = c 3 4 := (hid kn_52)
    have h_54 := ir_41_52 hI
    have kn_55 : Hid (c_3 41 52 = c 41 52) := hF_5 41 52 (fun h => absurd h.1 (nn rfl))
    have kn_56 : Hid (c_17 41 52 = c 41 52) := (hF_19 41 52 qn_63017ad2d).trans (hid kn_55)
    have h_57 : c_17 41 52 = c 41 52 := (hid kn_56)
    have h_58 := ir_3_3 hI
    have kn_59 : Hid (c_3 3 3 = c 3 3) := hF_5 3 3 (fun h => absurd h.1 (nn rfl))
    have kn_60 : Hid (c_17 3 3 = c 3 3) := (hF_19 3 3 qn_0c1841372).trans (hid kn_59)
    have h_61 : c_17 3 3 = c 3 3 := (hid kn_60)
    have h_62 := ir_41_35 hI
    have kn_63 : Hid (c_3 41 35 = c 41 35) := hF_5 41 35 (fun h => absurd h.1 (nn rfl))
    have kn_64 : Hid (c_17 41 35 = c 41 35) := (hF_19 41 35 qn_7a0622093).trans (hid kn_63)
    have h_65 : c_17 41 35 = c 41 35 := (hid kn_64)
    have h_66 : c_17 3 4 = c 3 4 := (hid kn_52)
    exact K P Q c_17 1 (by decide) hI_18 ⟨by omega, ub_fr hU (fun j => (hF_19 2 j qn_4c0255fdd).trans (hF_5 2 j (fun h => absurd h.1 (nn rfl)))) (fun j => (hF_19 43 j qn_0c1231684).trans (hF_5 43 j (fun h => absurd h.1 (nn rfl)))), ⟨by omega, by omega, by omega, by omega⟩, by omega, by omega, iw_fr2 hIw (by omega) (fun j => (hF_19 6 j qn_a2ad91feb).trans (hF_5 6 j (fun h => absurd h.1 (nn rfl)))) (fun j => (hF_19 66 j qn_9e422cd6b).trans (hF_5 66 j (fun h => absurd h.1 (nn rfl))))⟩
  refine bk_inl ?_
  have h_67 := ir_1_3 hI_9
  refine v_i2l c_264_7 (by omega) (v_ls c_264_8 rfl (by decide) (by decide) (by decide) (q_goto (t := 15) c_264_9 rfl (q_iconst c_264_15 (q_iret c_264_16 rfl (bk_inl (q_istore c_296_340 (Nat.le_of_ble_eq_true rfl) (q_aload_n c_296_342 rfl ?_)))))))
  refine q_aload_n c_296_343 rfl (q_iload c_296_344 rfl (q_iconst c_296_346 (v_iadd (v := (i0 : Int) + 1) c_296_347 rfl (v_scr (j := i0 + 1) c_296_348 (by omega) (by omega) hL hx1 ?_))))
  have hI_68 := iw_lx (a := 67) (j := 0) (v := y_11) hI_9 (by omega)
  have h_69 := ir_41_2 hI
  have kn_70 : Hid (c_8 41 2 = c 41 2) := hF_10 41 2 (qn_7f524237d hP)
  have h_71 : (up c_8 67 0 y_11) 41 2 = c 41 2 := ((up_c (nn rfl)).trans (hid kn_70))
  refine v_cv c_296_349 km_9_136 rfl rfl (Nat.le_of_ble_eq_true rfl) ⟨⟨rfl, rfl⟩, Nat.le_of_ble_eq_true rfl, rfl⟩ (Nat.le_of_ble_eq_true rfl) (Nat.le_of_ble_eq_true rfl) (s_177 (a1 := x1) hI_68 (show (-2147483648) ≤ x1 ∧ x1 ≤ 2147483647 from ⟨by first | exact q_7d59b2af6 h_12 | omega, by first | exact q_307fd138a h_12 | omega⟩) (fun c_72 y_75 hI_73 hF_74 hy_75 h_76 => (bk_inl ?_)))
  have h_77 := ir_41_2 hI_73
  refine q_istore c_296_352 (Nat.le_of_ble_eq_true rfl) (q_goto (t := 1816) c_296_354 rfl (Wp_ls [(4, vi (i0 : Int)), (3, .ref 67), (2, .ref 41), (1, .ref 0), (0, .ref a_SC)] (lsub_cons rfl (lsub_cons rfl (lsub_cons rfl (lsub_cons rfl (lsub_cons rfl lsub_nil))))) ?_))
  have kn_78 : Hid (c_72 1 3 = c_8 1 3) := (hF_74 1 3 qn_6e098d395).trans (up_c (nn rfl))
  have h_79 : c_72 1 3 = c_8 1 3 := (hid kn_78)
  have h_80 : c_72 41 2 = c_72 41 2 := rfl
  have kn_81 : Hid (c_8 P 0 = n0) := (hF_10 P 0 (qn_c16a8cdb3 hP)).trans (hn0)
  have kn_82 : Hid (c_72 P 0 = n0) := (hF_74 P 0 (qn_6cada6812 hP)).trans ((up_c (np0 hP rfl)).trans (hid kn_81))
  have h_83 : c_72 P 0 = n0 := (hid kn_82)
  have kn_84 : Hid (c_8 41 20 = n0) := (hF_10 41 20 (qn_7f524237d hP)).trans (hm0)
  have kn_85 : Hid (c_72 41 20 = n0) := (hF_74 41 20 qn_dccf86c1c).trans ((up_c (nn rfl)).trans (hid kn_84))
  have h_86 : c_72 41 20 = n0 := (hid kn_85)
  have kn_87 : Hid (c_8 P 1 = n1) := (hF_10 P 1 (qn_c16a8cdb3 hP)).trans (hn1)
  have kn_88 : Hid (c_72 P 1 = n1) := (hF_74 P 1 (qn_6cada6812 hP)).trans ((up_c (np0 hP rfl)).trans (hid kn_87))
  have h_89 : c_72 P 1 = n1 := (hid kn_88)
  have kn_90 : Hid (c_8 41 21 = n1) := (hF_10 41 21 (qn_7f524237d hP)).trans (hm1)
  have kn_91 : Hid (c_72 41 21 = n1) := (hF_74 41 21 qn_29130c158).trans ((up_c (nn rfl)).trans (hid kn_90))
  have h_92 : c_72 41 21 = n1 := (hid kn_91)
  have kn_93 : Hid (c_8 P 2 = n2) := (hF_10 P 2 (qn_c16a8cdb3 hP)).trans (hn2)
  have kn_94 : Hid (c_72 P 2 = n2) := (hF_74 P 2 (qn_6cada6812 hP)).trans ((up_c (np0 hP rfl)).trans (hid kn_93))
  have h_95 : c_72 P 2 = n2 := (hid kn_94)
  have kn_96 : Hid (c_8 41 22 = n2) := (hF_10 41 22 (qn_7f524237d hP)).trans (hm2)
  have kn_97 : Hid (c_72 41 22 = n2) := (hF_74 41 22 qn_e543f8eca).trans ((up_c (nn rfl)).trans (hid kn_96))
  have h_98 : c_72 41 22 = n2 := (hid kn_97)
  have kn_99 : Hid (c_8 P 3 = n3) := (hF_10 P 3 (qn_c16a8cdb3 hP)).trans (hn3)
  have kn_100 : Hid (c_72 P 3 = n3) := (hF_74 P 3 (qn_6cada6812 hP)).trans ((up_c (np0 hP rfl)).trans (hid kn_99))
  have h_101 : c_72 P 3 = n3 := (hid kn_100)
  have kn_102 : Hid (c_8 41 23 = n3) := (hF_10 41 23 (qn_7f524237d hP)).trans (hm3)
  have kn_103 : Hid (c_72 41 23 = n3) := (hF_74 41 23 qn_0ec1c0dac).trans ((up_c (nn rfl)).trans (hid kn_102))
  have h_104 : c_72 41 23 = n3 := (hid kn_103)
  have kn_105 : Hid (c_8 3 4 = c 3 4) := hF_10 3 4 (qn_cee83b378 hP)
  have kn_106 : Hid (c_72 3 4 = c 3 4) := (hF_74 3 4 qn_0c1841372).trans ((up_c (nn rfl)).trans (hid kn_105))
  have h_107 : c_72 3 4 = c 3 4 := (hid kn_106)
  have h_108 := ir_41_52 hI
  have kn_109 : Hid (c_8 41 52 = c 41 52) := hF_10 41 52 (qn_7f524237d hP)
  have kn_110 : Hid (c_72 41 52 = c 41 52) := (hF_74 41 52 qn_63017ad2d).trans ((up_c (nn rfl)).trans (hid kn_109))
  have h_111 : c_72 41 52 = c 41 52 := (hid kn_110)
  have h_112 := ir_3_3 hI
  have kn_113 : Hid (c_8 3 3 = c 3 3) := hF_10 3 3 (qn_cee83b378 hP)
  have kn_114 : Hid (c_72 3 3 = c 3 3) := (hF_74 3 3 qn_0c1841372).trans ((up_c (nn rfl)).trans (hid kn_113))
  have h_115 : c_72 3 3 = c 3 3 := (hid kn_114)
  have h_116 := ir_41_35 hI
  have kn_117 : Hid (c_8 41 35 = c 41 35) := hF_10 41 35 (qn_7f524237d hP)
  have kn_118 : Hid (c_72 41 35 = c 41 35) := (hF_74 41 35 qn_7a0622093).trans ((up_c (nn rfl)).trans (hid kn_117))
  have h_119 : c_72 41 35 = c 41 35 := (hid kn_118)
  have h_120 : c_72 3 4 = c 3 4 := (hid kn_106)
  exact K P Q c_72 0 (by decide) hI_73 ⟨by omega, ub_fr hU (fun j => (hF_74 2 j qn_4c0255fdd).trans ((up_c (nn rfl)).trans (hF_10 2 j (qn_9c21b769a hP)))) (fun j => (hF_74 43 j qn_0c1231684).trans ((up_c (nn rfl)).trans (hF_10 43 j (qn_3edc655a9 hP)))), ⟨by omega, by omega, by omega, by omega⟩, by omega, by omega, iw_fr2 hIw (by omega) (fun j => (hF_74 6 j qn_a2ad91feb).trans ((up_c (nn rfl)).trans (hF_10 6 j (qn_f741ca3f2 hP)))) (fun j => (hF_74 66 j qn_9e422cd6b).trans ((up_c (nn rfl)).trans (hF_10 66 j (qn_572a8ec09 hP))))⟩

set_option maxRecDepth 100000 in
set_option maxHeartbeats 4000000 in
theorem o_3 {xs : Nat → Int32} {L i0 d nc ns P Q : Nat} {c : ME} {Z : AR → Prop} (hi : i0 + 8 ≤ L) (hL : L ≤ 100000) (hI : Iv 0 (-1) P Q c) (hR : Rq P c) (K : ∀ (P2 Q2 : Nat) (c2 : ME) (e : Nat), e ≤ 1 → Iv 0 (-1) P2 Q2 c2 → (Rq P2 c2) → Wp (a_scr L xs) (d + 90) 296 1816 [(4, vi (i0 : Int)), (3, .ref 67), (2, .ref 41), (1, .ref 0), (0, .ref a_SC)] [] (Wd P2 Q2 P2 P2 c2) (nc + e) (ns + 6 * e) Z) : Wp (a_scr L xs) (d + 90) 296 357 [(4, vi (i0 : Int)), (3, .ref 67), (2, .ref 41), (1, .ref 0), (0, .ref a_SC)] [] (Wd P Q P P c) nc ns Z := by
  obtain ⟨x1, hx1⟩ : ∃ z, (xs (i0 + 1)).toInt = z := ⟨_, rfl⟩
  have x1r := c_rng (xs (i0 + 1))
  rw [hx1] at x1r
  obtain ⟨x2, hx2⟩ : ∃ z, (xs (i0 + 2)).toInt = z := ⟨_, rfl⟩
  have x2r := c_rng (xs (i0 + 2))
  rw [hx2] at x2r
  obtain ⟨x3, hx3⟩ : ∃ z, (xs (i0 + 3)).toInt = z := ⟨_, rfl⟩
  have x3r := c_rng (xs (i0 + 3))
  rw [hx3] at x3r
  obtain ⟨x4, hx4⟩ : ∃ z, (xs (i0 + 4)).toInt = z := ⟨_, rfl⟩
  have x4r := c_rng (xs (i0 + 4))
  rw [hx4] at x4r
  obtain ⟨x5, hx5⟩ : ∃ z, (xs (i0 + 5)).toInt = z := ⟨_, rfl⟩
  have x5r := c_rng (xs (i0 + 5))
  rw [hx5] at x5r
  obtain ⟨x6, hx6⟩ : ∃ z, (xs (i0 + 6)).toInt = z := ⟨_, rfl⟩
  have x6r := c_rng (xs (i0 + 6))
  rw [hx6] at x6r
  obtain ⟨x7, hx7⟩ : ∃ z, (xs (i0 + 7)).toInt = z := ⟨_, rfl⟩
  have x7r := c_rng (xs (i0 + 7))
  rw [hx7] at x7r
  have hP := iv_P hI
  have hQ := iv_Q hI
  have hT := rl_t hR
  have hU := rl_u hR
  obtain ⟨n0, hn0⟩ : ∃ z, c P 0 = z := ⟨_, rfl⟩
  have hm0 : c 41 20 = n0 := (rl_nums hR).1.symm.trans hn0
  have hr0 := ir_p0_0 hI hP
  rw [hn0] at hr0
  obtain ⟨n1, hn1⟩ : ∃ z, c P 1 = z := ⟨_, rfl⟩
  have hm1 : c 41 21 = n1 := (rl_nums hR).2.1.symm.trans hn1
  have hr1 := ir_p0_1 hI hP
  rw [hn1] at hr1
  obtain ⟨n2, hn2⟩ : ∃ z, c P 2 = z := ⟨_, rfl⟩
  have hm2 : c 41 22 = n2 := (rl_nums hR).2.2.1.symm.trans hn2
  have hr2 := ir_p0_2 hI hP
  rw [hn2] at hr2
  obtain ⟨n3, hn3⟩ : ∃ z, c P 3 = z := ⟨_, rfl⟩
  have hm3 : c 41 23 = n3 := (rl_nums hR).2.2.2.symm.trans hn3
  have hr3 := ir_p0_3 hI hP
  rw [hn3] at hr3
  have hNimg := rl_img hR
  have hNwk := rl_wk hR
  have h_1 := ir_3_4 hI
  have hIw := rl_iw hR
  refine q_aload_n c_296_357 rfl (q_aload_n c_296_358 rfl (q_iload c_296_359 rfl (q_iconst c_296_361 (v_iadd (v := (i0 : Int) + 1) c_296_362 rfl (v_scr (j := i0 + 1) c_296_363 (by omega) (by omega) hL hx1 (q_aload_n c_296_364 rfl (q_call c_296_365 rfl rfl rfl ?_)))))))
  refine q_aload_n c_265_0 rfl (q_iconst c_265_1 (q_aload_n c_265_2 rfl (q_iload_n c_265_3 rfl ?_)))
  have h_2 := ir_1_3 hI
  refine v_cv c_265_4 km_9_18 rfl rfl (Nat.le_of_ble_eq_true rfl) ⟨⟨rfl, rfl⟩, Nat.le_of_ble_eq_true rfl, rfl⟩ (Nat.le_of_ble_eq_true rfl) (Nat.le_of_ble_eq_true rfl) (fn_of (s_86 (a1 := x1) hI (show (-2147483648) ≤ x1 ∧ x1 ≤ 2147483647 from ⟨by omega, by omega⟩) (fun c_3 hI_4 hF_5 h_6 h_7 => ?_) (fun c_8 y_11 hI_9 hF_10 hy_11 h_12 => ?_)))
  · skip
    intro hG_132
    have h_13 := ir_1_3 hI_4
    refine bk_thr (z := Int32.ofInt 1) rfl ⟨_, _, rfl⟩ rfl (bk_inl (q_istore c_296_368 (Nat.le_of_ble_eq_true rfl) (q_aload_n c_296_370 rfl (q_aload_n c_296_371 rfl (q_iload c_296_372 rfl (q_iconst c_296_374 (v_iadd (v := (i0 : Int) + 1) c_296_375 rfl ?_)))))))
    refine v_scr (j := i0 + 1) c_296_376 (by omega) (by omega) hL hx1 (v_cv c_296_377 km_9_139 rfl rfl (Nat.le_of_ble_eq_true rfl) ⟨⟨rfl, rfl⟩, Nat.le_of_ble_eq_true rfl, rfl⟩ (Nat.le_of_ble_eq_true rfl) (Nat.le_of_ble_eq_true rfl) (q_aload_n c_202_0 rfl (q_iconst c_202_1 (v_pi (z := 0) c_202_2 kf_8_3 rfl (Nat.le_of_ble_eq_true rfl) rfl rfl rfl (by decide) (q_aload_n c_202_5 rfl (q_iload_n c_202_6 rfl ?_))))))
    by_cases h_14 : x1 < 0
    · refine v_if_lt_t (t := 29) c_202_7 rfl ⟨by first | (clear hT hNimg hNwk h_1 h_2 h_13; omega) | omega, h_14, by decide⟩ (q_iconst c_202_29 (q_iconst c_202_30 (q_iconst c_202_31 (v_cv c_202_32 km_8_203 rfl rfl (Nat.le_of_ble_eq_true rfl) ⟨⟨rfl, rfl⟩, Nat.le_of_ble_eq_true rfl, rfl⟩ (Nat.le_of_ble_eq_true rfl) (Nat.le_of_ble_eq_true rfl) (q_iload_n c_145_0 rfl (v_if_ne_f (t := 26) c_145_1 rfl (by decide) (q_aload_n c_145_4 rfl ?_)))))))
      refine v_gi (z := 0) (v := 0) c_145_5 kf_8_3 rfl (Nat.le_of_ble_eq_true rfl) rfl rfl (up_e rfl) (v_if_ne_f (t := 26) c_145_8 rfl (by decide) (q_aload_n c_145_11 rfl (q_iload_n c_145_12 rfl (v_pi (z := 0) c_145_13 kf_8_3 rfl (Nat.le_of_ble_eq_true rfl) rfl rfl rfl (by decide) (q_aload_n c_145_16 rfl (v_gr (t := 42) c_145_17 kf_8_7 rfl (Nat.le_of_ble_eq_true rfl) rfl (q_iload_n c_145_20 rfl ?_)))))))
      refine q_dup2 c_145_21 ⟨rfl, rfl⟩ ?_
      have h_15 := ir_42 hI 1
      have kn_16 : Hid (c_3 42 1 = c 42 1) := hF_5 42 1 (fun h => absurd h.1 (nn rfl))
      refine v_ia (v := c 42 1) c_145_22 rfl (by decide) (by decide) (by decide) ((up_c (nn rfl)).trans ((up_c (nn rfl)).trans (hid kn_16))) (q_iconst c_145_23 (v_iadd (v := c 42 1 + 1) c_145_24 rfl (v_nrm (fun y_17 hy_17 => (v_is c_145_25 rfl (by decide) (by decide) (by decide) (q_aload_n c_145_26 rfl (v_gi (z := 0) (v := 1) c_145_27 kf_8_3 rfl (Nat.le_of_ble_eq_true rfl) rfl rfl ((up_c (nn rfl)).trans (up_e rfl)) (v_if_ne_t (t := 37) c_145_30 rfl (by decide) ?_))))))))
      refine q_iconst c_145_37 (v_zret c_145_38 rfl (by decide) (bk_inl (v_if_ne_f (t := 40) c_202_35 rfl (by decide) (q_iconst c_202_38 (q_iret c_202_39 rfl (bk_inl (q_istore c_296_380 (Nat.le_of_ble_eq_true rfl) ?_)))))))
      refine q_goto (t := 1816) c_296_382 rfl ?_
      have hI_18 := iw_41_0 (v := 0) hI_4 ⟨by decide, by decide⟩
      have hI_19 := iw_41_0 (v := 1) hI_18 ⟨by decide, by decide⟩
      have hI_20 := iw_42 (j := 1) (v := y_17) hI_19 ⟨hy_17.1, hy_17.2⟩
      refine Wp_ls [(4, vi (i0 : Int)), (3, .ref 67), (2, .ref 41), (1, .ref 0), (0, .ref a_SC)] (lsub_cons rfl (lsub_cons rfl (lsub_cons rfl (lsub_cons rfl (lsub_cons rfl lsub_nil))))) ?_
      have kn_21 : Hid (c_3 1 3 = c 1 3) := hF_5 1 3 (fun h => absurd h.1 (nn rfl))
      have h_22 : (up (up (up c_3 41 0 0) 41 0 1) 42 1 y_17) 1 3 = c 1 3 := ((up_c (nn rfl)).trans ((up_c (nn rfl)).trans ((up_c (nn rfl)).trans (hid kn_21))))
      have h_23 := ir_41_2 hI
      have kn_24 : Hid (c_3 41 2 = c 41 2) := hF_5 41 2 (fun h => absurd h.1 (nn rfl))
      have h_25 : (up (up (up c_3 41 0 0) 41 0 1) 42 1 y_17) 41 2 = c 41 2 := ((up_c (nn rfl)).trans ((up_n (by decide)).trans ((up_n (by decide)).trans (hid kn_24))))
      have kn_26 : Hid (c_3 P 0 = n0) := (hF_5 P 0 (fun h => absurd h.1 (np0 hP rfl))).trans (hn0)
      have h_27 : (up (up (up c_3 41 0 0) 41 0 1) 42 1 y_17) P 0 = n0 := ((up_c (np0 hP rfl)).trans ((up_c (np0 hP rfl)).trans ((up_c (np0 hP rfl)).trans (hid kn_26))))
      have kn_28 : Hid (c_3 41 20 = n0) := (hF_5 41 20 (fun h => absurd h.1 (nn rfl))).trans (hm0)
      have h_29 : (up (up (up c_3 41 0 0) 41 0 1) 42 1 y_17) 41 20 = n0 := ((up_c (nn rfl)).trans ((up_n (by decide)).trans ((up_n (by decide)).trans (hid kn_28))))
      have kn_30 : Hid (c_3 P 1 = n1) := (hF_5 P 1 (fun h => absurd h.1 (np0 hP rfl))).trans (hn1)
      have h_31 : (up (up (up c_3 41 0 0) 41 0 1) 42 1 y_17) P 1 = n1 := ((up_c (np0 hP rfl)).trans ((up_c (np0 hP rfl)).trans ((up_c (np0 hP rfl)).trans (hid kn_30))))
      have kn_32 : Hid (c_3 41 21 = n1) := (hF_5 41 21 (fun h => absurd h.1 (nn rfl))).trans (hm1)
      have h_33 : (up (up (up c_3 41 0 0) 41 0 1) 42 1 y_17) 41 21 = n1 := ((up_c (nn rfl)).trans ((up_n (by decide)).trans ((up_n (by decide)).trans (hid kn_32))))
      have kn_34 : Hid (c_3 P 2 = n2) := (hF_5 P 2 (fun h => absurd h.1 (np0 hP rfl))).trans (hn2)
      have h_35 : (up (up (up c_3 41 0 0) 41 0 1) 42 1 y_17) P 2 = n2 := ((up_c (np0 hP rfl)).trans ((up_c (np0 hP rfl)).trans ((up_c (np0 hP rfl)).trans (hid kn_34))))
      have kn_36 : Hid (c_3 41 22 = n2) := (hF_5 41 22 (fun h => absurd h.1 (nn rfl))).trans (hm2)
      have h_37 : (up (up (up c_3 41 0 0) 41 0 1) 42 1 y_17) 41 22 = n2 := ((up_c (nn rfl)).trans ((up_n (by decide)).trans ((up_n (by decide)).trans (hid kn_36))))
      have kn_38 : Hid (c_3 P 3 = n3) := (hF_5 P 3 (fun h => absurd h.1 (np0 hP rfl))).trans (hn3)
      have h_39 : (up (up (up c_3 41 0 0) 41 0 1) 42 1 y_17) P 3 = n3 := ((up_c (np0 hP rfl)).trans ((up_c (np0 hP rfl)).trans ((up_c (np0 hP rfl)).trans (hid kn_38))))
      have kn_40 : Hid (c_3 41 23 = n3) := (hF_5 41 23 (fun h => absurd h.1 (nn rfl))).trans (hm3)
      have h_41 : (up (up (up c_3 41 0 0) 41 0 1) 42 1 y_17) 41 23 = n3 := ((up_c (nn rfl)).trans ((up_n (by decide)).trans ((up_n (by decide)).trans (hid kn_40))))
      have kn_42 : Hid (c_3 3 4 = c 3 4) := hF_5 3 4 (fun h => absurd h.1 (nn rfl))
      have h_43 : (up (up (up c_3 41 0 0) 41 0 1) 42 1 y_17) 3 4 = c 3 4 := ((up_c (nn rfl)).trans ((up_c (nn rfl)).trans ((up_c (nn rfl)).trans (hid kn_42))))
      have h_44 := ir_41_52 hI
      have kn_45 : Hid (c_3 41 52 = c 41 52) := hF_5 41 52 (fun h => absurd h.1 (nn rfl))
      have h_46 : (up (up (up c_3 41 0 0) 41 0 1) 42 1 y_17) 41 52 = c 41 52 := ((up_c (nn rfl)).trans ((up_n (by decide)).trans ((up_n (by decide)).trans (hid kn_45))))
      have h_47 := ir_3_3 hI
      have kn_48 : Hid (c_3 3 3 = c 3 3) := hF_5 3 3 (fun h => absurd h.1 (nn rfl))
      have h_49 : (up (up (up c_3 41 0 0) 41 0 1) 42 1 y_17) 3 3 = c 3 3 := ((up_c (nn rfl)).trans ((up_c (nn rfl)).trans ((up_c (nn rfl)).trans (hid kn_48))))
      have h_50 := ir_41_35 hI
      have kn_51 : Hid (c_3 41 35 = c 41 35) := hF_5 41 35 (fun h => absurd h.1 (nn rfl))
      have h_52 : (up (up (up c_3 41 0 0) 41 0 1) 42 1 y_17) 41 35 = c 41 35 := ((up_c (nn rfl)).trans ((up_n (by decide)).trans ((up_n (by decide)).trans (hid kn_51))))
      have h_53 : (up (up (up c_3 41 0 0) 41 0 1) 42 1 y_17) 3 4 = c 3 4 := ((up_c (nn rfl)).trans ((up_c (nn rfl)).trans ((up_c (nn rfl)).trans (hid kn_42))))
      exact K P Q (up (up (up c_3 41 0 0) 41 0 1) 42 1 y_17) 1 (by decide) hI_20 ⟨by omega, ub_fr hU (fun j => (up_c (nn rfl)).trans ((up_c (nn rfl)).trans ((up_c (nn rfl)).trans (hF_5 2 j (fun h => absurd h.1 (nn rfl)))))) (fun j => (up_c (nn rfl)).trans ((up_c (nn rfl)).trans ((up_c (nn rfl)).trans (hF_5 43 j (fun h => absurd h.1 (nn rfl)))))), ⟨by omega, by omega, by omega, by omega⟩, by omega, by omega, iw_fr2 hIw (by omega) (fun j => (up_c (nn rfl)).trans ((up_c (nn rfl)).trans ((up_c (nn rfl)).trans (hF_5 6 j (fun h => absurd h.1 (nn rfl)))))) (fun j => (up_c (nn rfl)).trans ((up_c (nn rfl)).trans ((up_c (nn rfl)).trans (hF_5 66 j (fun h => absurd h.1 (nn rfl))))))⟩
    · refine v_if_lt_f (t := 29) c_202_7 rfl ⟨by decide, (Int.not_lt.mp h_14), by first | (clear hT hNimg hNwk h_1 h_2 h_13; omega) | omega⟩ (q_iload_n c_202_10 rfl (q_aload_n c_202_11 rfl ?_))
      have h_54 := ir_41_2 hI
      have kn_55 : Hid (c_3 41 2 = c 41 2) := hF_5 41 2 (fun h => absurd h.1 (nn rfl))
      refine v_gi (z := 2) (v := c 41 2) c_202_12 kf_8_99 rfl (Nat.le_of_ble_eq_true rfl) rfl rfl ((up_n (by decide)).trans (hid kn_55)) ?_
      by_cases h_56 : x1 > c 41 2
      · refine v_ic_gt_t (t := 29) c_202_15 rfl ⟨by first | exact q_3b2b08511 h_54 | (clear hT hNimg hNwk h_1 h_2 h_13 h_14; omega) | omega, h_56, by first | (clear hT hNimg hNwk h_1 h_2 h_13 h_14 h_54; omega) | omega⟩ (q_iconst c_202_29 (q_iconst c_202_30 (q_iconst c_202_31 (v_cv c_202_32 km_8_203 rfl rfl (Nat.le_of_ble_eq_true rfl) ⟨⟨rfl, rfl⟩, Nat.le_of_ble_eq_true rfl, rfl⟩ (Nat.le_of_ble_eq_true rfl) (Nat.le_of_ble_eq_true rfl) (q_iload_n c_145_0 rfl (v_if_ne_f (t := 26) c_145_1 rfl (by decide) (q_aload_n c_145_4 rfl ?_)))))))
        refine v_gi (z := 0) (v := 0) c_145_5 kf_8_3 rfl (Nat.le_of_ble_eq_true rfl) rfl rfl (up_e rfl) (v_if_ne_f (t := 26) c_145_8 rfl (by decide) (q_aload_n c_145_11 rfl (q_iload_n c_145_12 rfl (v_pi (z := 0) c_145_13 kf_8_3 rfl (Nat.le_of_ble_eq_true rfl) rfl rfl rfl (by decide) (q_aload_n c_145_16 rfl (v_gr (t := 42) c_145_17 kf_8_7 rfl (Nat.le_of_ble_eq_true rfl) rfl (q_iload_n c_145_20 rfl ?_)))))))
        refine q_dup2 c_145_21 ⟨rfl, rfl⟩ ?_
        have h_57 := ir_42 hI 1
        have kn_58 : Hid (c_3 42 1 = c 42 1) := hF_5 42 1 (fun h => absurd h.1 (nn rfl))
        refine v_ia (v := c 42 1) c_145_22 rfl (by decide) (by decide) (by decide) ((up_c (nn rfl)).trans ((up_c (nn rfl)).trans (hid kn_58))) (q_iconst c_145_23 (v_iadd (v := c 42 1 + 1) c_145_24 rfl (v_nrm (fun y_59 hy_59 => (v_is c_145_25 rfl (by decide) (by decide) (by decide) (q_aload_n c_145_26 rfl (v_gi (z := 0) (v := 1) c_145_27 kf_8_3 rfl (Nat.le_of_ble_eq_true rfl) rfl rfl ((up_c (nn rfl)).trans (up_e rfl)) (v_if_ne_t (t := 37) c_145_30 rfl (by decide) ?_))))))))
        refine q_iconst c_145_37 (v_zret c_145_38 rfl (by decide) (bk_inl (v_if_ne_f (t := 40) c_202_35 rfl (by decide) (q_iconst c_202_38 (q_iret c_202_39 rfl (bk_inl (q_istore c_296_380 (Nat.le_of_ble_eq_true rfl) ?_)))))))
        refine q_goto (t := 1816) c_296_382 rfl ?_
        have hI_60 := iw_41_0 (v := 0) hI_4 ⟨by decide, by decide⟩
        have hI_61 := iw_41_0 (v := 1) hI_60 ⟨by decide, by decide⟩
        have hI_62 := iw_42 (j := 1) (v := y_59) hI_61 ⟨hy_59.1, hy_59.2⟩
        refine Wp_ls [(4, vi (i0 : Int)), (3, .ref 67), (2, .ref 41), (1, .ref 0), (0, .ref a_SC)] (lsub_cons rfl (lsub_cons rfl (lsub_cons rfl (lsub_cons rfl (lsub_cons rfl lsub_nil))))) ?_
        have kn_63 : Hid (c_3 1 3 = c 1 3) := hF_5 1 3 (fun h => absurd h.1 (nn rfl))
        have h_64 : (up (up (up c_3 41 0 0) 41 0 1) 42 1 y_59) 1 3 = c 1 3 := ((up_c (nn rfl)).trans ((up_c (nn rfl)).trans ((up_c (nn rfl)).trans (hid kn_63))))
        have h_65 : (up (up (up c_3 41 0 0) 41 0 1) 42 1 y_59) 41 2 = c 41 2 := ((up_c (nn rfl)).trans ((up_n (by decide)).trans ((up_n (by decide)).trans (hid kn_55))))
        have kn_66 : Hid (c_3 P 0 = n0) := (hF_5 P 0 (fun h => absurd h.1 (np0 hP rfl))).trans (hn0)
        have h_67 : (up (up (up c_3 41 0 0) 41 0 1) 42 1 y_59) P 0 = n0 := ((up_c (np0 hP rfl)).trans ((up_c (np0 hP rfl)).trans ((up_c (np0 hP rfl)).trans (hid kn_66))))
        have kn_68 : Hid (c_3 41 20 = n0) := (hF_5 41 20 (fun h => absurd h.1 (nn rfl))).trans (hm0)
        have h_69 : (up (up (up c_3 41 0 0) 41 0 1) 42 1 y_59) 41 20 = n0 := ((up_c (nn rfl)).trans ((up_n (by decide)).trans ((up_n (by decide)).trans (hid kn_68))))
        have kn_70 : Hid (c_3 P 1 = n1) := (hF_5 P 1 (fun h => absurd h.1 (np0 hP rfl))).trans (hn1)
        have h_71 : (up (up (up c_3 41 0 0) 41 0 1) 42 1 y_59) P 1 = n1 := ((up_c (np0 hP rfl)).trans ((up_c (np0 hP rfl)).trans ((up_c (np0 hP rfl)).trans (hid kn_70))))
        have kn_72 : Hid (c_3 41 21 = n1) := (hF_5 41 21 (fun h => absurd h.1 (nn rfl))).trans (hm1)
        have h_73 : (up (up (up c_3 41 0 0) 41 0 1) 42 1 y_59) 41 21 = n1 := ((up_c (nn rfl)).trans ((up_n (by decide)).trans ((up_n (by decide)).trans (hid kn_72))))
        have kn_74 : Hid (c_3 P 2 = n2) := (hF_5 P 2 (fun h => absurd h.1 (np0 hP rfl))).trans (hn2)
        have h_75 : (up (up (up c_3 41 0 0) 41 0 1) 42 1 y_59) P 2 = n2 := ((up_c (np0 hP rfl)).trans ((up_c (np0 hP rfl)).trans ((up_c (np0 hP rfl)).trans (hid kn_74))))
        have kn_76 : Hid (c_3 41 22 = n2) := (hF_5 41 22 (fun h => absurd h.1 (nn rfl))).trans (hm2)
        have h_77 : (up (up (up c_3 41 0 0) 41 0 1) 42 1 y_59) 41 22 = n2 := ((up_c (nn rfl)).trans ((up_n (by decide)).trans ((up_n (by decide)).trans (hid kn_76))))
        have kn_78 : Hid (c_3 P 3 = n3) := (hF_5 P 3 (fun h => absurd h.1 (np0 hP rfl))).trans (hn3)
        have h_79 : (up (up (up c_3 41 0 0) 41 0 1) 42 1 y_59) P 3 = n3 := ((up_c (np0 hP rfl)).trans ((up_c (np0 hP rfl)).trans ((up_c (np0 hP rfl)).trans (hid kn_78))))
        have kn_80 : Hid (c_3 41 23 = n3) := (hF_5 41 23 (fun h => absurd h.1 (nn rfl))).trans (hm3)
        have h_81 : (up (up (up c_3 41 0 0) 41 0 1) 42 1 y_59) 41 23 = n3 := ((up_c (nn rfl)).trans ((up_n (by decide)).trans ((up_n (by decide)).trans (hid kn_80))))
        have kn_82 : Hid (c_3 3 4 = c 3 4) := hF_5 3 4 (fun h => absurd h.1 (nn rfl))
        have h_83 : (up (up (up c_3 41 0 0) 41 0 1) 42 1 y_59) 3 4 = c 3 4 := ((up_c (nn rfl)).trans ((up_c (nn rfl)).trans ((up_c (nn rfl)).trans (hid kn_82))))
        have h_84 := ir_41_52 hI
        have kn_85 : Hid (c_3 41 52 = c 41 52) := hF_5 41 52 (fun h => absurd h.1 (nn rfl))
        have h_86 : (up (up (up c_3 41 0 0) 41 0 1) 42 1 y_59) 41 52 = c 41 52 := ((up_c (nn rfl)).trans ((up_n (by decide)).trans ((up_n (by decide)).trans (hid kn_85))))
        have h_87 := ir_3_3 hI
        have kn_88 : Hid (c_3 3 3 = c 3 3) := hF_5 3 3 (fun h => absurd h.1 (nn rfl))
        have h_89 : (up (up (up c_3 41 0 0) 41 0 1) 42 1 y_59) 3 3 = c 3 3 := ((up_c (nn rfl)).trans ((up_c (nn rfl)).trans ((up_c (nn rfl)).trans (hid kn_88))))
        have h_90 := ir_41_35 hI
        have kn_91 : Hid (c_3 41 35 = c 41 35) := hF_5 41 35 (fun h => absurd h.1 (nn rfl))
        have h_92 : (up (up (up c_3 41 0 0) 41 0 1) 42 1 y_59) 41 35 = c 41 35 := ((up_c (nn rfl)).trans ((up_n (by decide)).trans ((up_n (by decide)).trans (hid kn_91))))
        have h_93 : (up (up (up c_3 41 0 0) 41 0 1) 42 1 y_59) 3 4 = c 3 4 := ((up_c (nn rfl)).trans ((up_c (nn rfl)).trans ((up_c (nn rfl)).trans (hid kn_82))))
        exact K P Q (up (up (up c_3 41 0 0) 41 0 1) 42 1 y_59) 1 (by decide) hI_62 ⟨by omega, ub_fr hU (fun j => (up_c (nn rfl)).trans ((up_c (nn rfl)).trans ((up_c (nn rfl)).trans (hF_5 2 j (fun h => absurd h.1 (nn rfl)))))) (fun j => (up_c (nn rfl)).trans ((up_c (nn rfl)).trans ((up_c (nn rfl)).trans (hF_5 43 j (fun h => absurd h.1 (nn rfl)))))), ⟨by omega, by omega, by omega, by omega⟩, by omega, by omega, iw_fr2 hIw (by omega) (fun j => (up_c (nn rfl)).trans ((up_c (nn rfl)).trans ((up_c (nn rfl)).trans (hF_5 6 j (fun h => absurd h.1 (nn rfl)))))) (fun j => (up_c (nn rfl)).trans ((up_c (nn rfl)).trans ((up_c (nn rfl)).trans (hF_5 66 j (fun h => absurd h.1 (nn rfl))))))⟩
      · refine v_ic_gt_f (t := 29) c_202_15 rfl ⟨by first | exact q_c05c968ed h_14 | (clear hT hNimg hNwk h_1 h_2 h_13 h_54; omega) | omega, (Int.not_lt.mp h_56), by first | exact q_3885e607f h_54 | (clear hT hNimg hNwk h_1 h_2 h_13 h_14; omega) | omega⟩ (q_iload_n c_202_18 rfl (v_sip c_202_19 (by decide) (v_ic_gt_t (t := 29) c_202_22 rfl ⟨by decide, by omega, by first | exact q_c2c15a399 h_54 h_56 | (clear hT hNimg hNwk h_1 h_2 h_13 h_14; omega) | omega⟩ (q_iconst c_202_29 (q_iconst c_202_30 (q_iconst c_202_31 (v_cv c_202_32 km_8_203 rfl rfl (Nat.le_of_ble_eq_true rfl) ⟨⟨rfl, rfl⟩, Nat.le_of_ble_eq_true rfl, rfl⟩ (Nat.le_of_ble_eq_true rfl) (Nat.le_of_ble_eq_true rfl) ?_)))))))
        refine q_iload_n c_145_0 rfl (v_if_ne_f (t := 26) c_145_1 rfl (by decide) (q_aload_n c_145_4 rfl (v_gi (z := 0) (v := 0) c_145_5 kf_8_3 rfl (Nat.le_of_ble_eq_true rfl) rfl rfl (up_e rfl) (v_if_ne_f (t := 26) c_145_8 rfl (by decide) (q_aload_n c_145_11 rfl (q_iload_n c_145_12 rfl (v_pi (z := 0) c_145_13 kf_8_3 rfl (Nat.le_of_ble_eq_true rfl) rfl rfl rfl (by decide) ?_)))))))
        refine q_aload_n c_145_16 rfl (v_gr (t := 42) c_145_17 kf_8_7 rfl (Nat.le_of_ble_eq_true rfl) rfl (q_iload_n c_145_20 rfl (q_dup2 c_145_21 ⟨rfl, rfl⟩ ?_)))
        have h_94 := ir_42 hI 1
        have kn_95 : Hid (c_3 42 1 = c 42 1) := hF_5 42 1 (fun h => absurd h.1 (nn rfl))
        refine v_ia (v := c 42 1) c_145_22 rfl (by decide) (by decide) (by decide) ((up_c (nn rfl)).trans ((up_c (nn rfl)).trans (hid kn_95))) (q_iconst c_145_23 (v_iadd (v := c 42 1 + 1) c_145_24 rfl (v_nrm (fun y_96 hy_96 => (v_is c_145_25 rfl (by decide) (by decide) (by decide) (q_aload_n c_145_26 rfl (v_gi (z := 0) (v := 1) c_145_27 kf_8_3 rfl (Nat.le_of_ble_eq_true rfl) rfl rfl ((up_c (nn rfl)).trans (up_e rfl)) (v_if_ne_t (t := 37) c_145_30 rfl (by decide) ?_))))))))
        refine q_iconst c_145_37 (v_zret c_145_38 rfl (by decide) (bk_inl (v_if_ne_f (t := 40) c_202_35 rfl (by decide) (q_iconst c_202_38 (q_iret c_202_39 rfl (bk_inl (q_istore c_296_380 (Nat.le_of_ble_eq_true rfl) ?_)))))))
        refine q_goto (t := 1816) c_296_382 rfl ?_
        have hI_97 := iw_41_0 (v := 0) hI_4 ⟨by decide, by decide⟩
        have hI_98 := iw_41_0 (v := 1) hI_97 ⟨by decide, by decide⟩
        have hI_99 := iw_42 (j := 1) (v := y_96) hI_98 ⟨hy_96.1, hy_96.2⟩
        refine Wp_ls [(4, vi (i0 : Int)), (3, .ref 67), (2, .ref 41), (1, .ref 0), (0, .ref a_SC)] (lsub_cons rfl (lsub_cons rfl (lsub_cons rfl (lsub_cons rfl (lsub_cons rfl lsub_nil))))) ?_
        have kn_100 : Hid (c_3 1 3 = c 1 3) := hF_5 1 3 (fun h => absurd h.1 (nn rfl))
        have h_101 : (up (up (up c_3 41 0 0) 41 0 1) 42 1 y_96) 1 3 = c 1 3 := ((up_c (nn rfl)).trans ((up_c (nn rfl)).trans ((up_c (nn rfl)).trans (hid kn_100))))
        have h_102 : (up (up (up c_3 41 0 0) 41 0 1) 42 1 y_96) 41 2 = c 41 2 := ((up_c (nn rfl)).trans ((up_n (by decide)).trans ((up_n (by decide)).trans (hid kn_55))))
        have kn_103 : Hid (c_3 P 0 = n0) := (hF_5 P 0 (fun h => absurd h.1 (np0 hP rfl))).trans (hn0)
        have h_104 : (up (up (up c_3 41 0 0) 41 0 1) 42 1 y_96) P 0 = n0 := ((up_c (np0 hP rfl)).trans ((up_c (np0 hP rfl)).trans ((up_c (np0 hP rfl)).trans (hid kn_103))))
        have kn_105 : Hid (c_3 41 20 = n0) := (hF_5 41 20 (fun h => absurd h.1 (nn rfl))).trans (hm0)
        have h_106 : (up (up (up c_3 41 0 0) 41 0 1) 42 1 y_96) 41 20 = n0 := ((up_c (nn rfl)).trans ((up_n (by decide)).trans ((up_n (by decide)).trans (hid kn_105))))
        have kn_107 : Hid (c_3 P 1 = n1) := (hF_5 P 1 (fun h => absurd h.1 (np0 hP rfl))).trans (hn1)
        have h_108 : (up (up (up c_3 41 0 0) 41 0 1) 42 1 y_96) P 1 = n1 := ((up_c (np0 hP rfl)).trans ((up_c (np0 hP rfl)).trans ((up_c (np0 hP rfl)).trans (hid kn_107))))
        have kn_109 : Hid (c_3 41 21 = n1) := (hF_5 41 21 (fun h => absurd h.1 (nn rfl))).trans (hm1)
        have h_110 : (up (up (up c_3 41 0 0) 41 0 1) 42 1 y_96) 41 21 = n1 := ((up_c (nn rfl)).trans ((up_n (by decide)).trans ((up_n (by decide)).trans (hid kn_109))))
        have kn_111 : Hid (c_3 P 2 = n2) := (hF_5 P 2 (fun h => absurd h.1 (np0 hP rfl))).trans (hn2)
        have h_112 : (up (up (up c_3 41 0 0) 41 0 1) 42 1 y_96) P 2 = n2 := ((up_c (np0 hP rfl)).trans ((up_c (np0 hP rfl)).trans ((up_c (np0 hP rfl)).trans (hid kn_111))))
        have kn_113 : Hid (c_3 41 22 = n2) := (hF_5 41 22 (fun h => absurd h.1 (nn rfl))).trans (hm2)
        have h_114 : (up (up (up c_3 41 0 0) 41 0 1) 42 1 y_96) 41 22 = n2 := ((up_c (nn rfl)).trans ((up_n (by decide)).trans ((up_n (by decide)).trans (hid kn_113))))
        have kn_115 : Hid (c_3 P 3 = n3) := (hF_5 P 3 (fun h => absurd h.1 (np0 hP rfl))).trans (hn3)
        have h_116 : (up (up (up c_3 41 0 0) 41 0 1) 42 1 y_96) P 3 = n3 := ((up_c (np0 hP rfl)).trans ((up_c (np0 hP rfl)).trans ((up_c (np0 hP rfl)).trans (hid kn_115))))
        have kn_117 : Hid (c_3 41 23 = n3) := (hF_5 41 23 (fun h => absurd h.1 (nn rfl))).trans (hm3)
        have h_118 : (up (up (up c_3 41 0 0) 41 0 1) 42 1 y_96) 41 23 = n3 := ((up_c (nn rfl)).trans ((up_n (by decide)).trans ((up_n (by decide)).trans (hid kn_117))))
        have kn_119 : Hid (c_3 3 4 = c 3 4) := hF_5 3 4 (fun h => absurd h.1 (nn rfl))
        have h_120 : (up (up (up c_3 41 0 0) 41 0 1) 42 1 y_96) 3 4 = c 3 4 := ((up_c (nn rfl)).trans ((up_c (nn rfl)).trans ((up_c (nn rfl)).trans (hid kn_119))))
        have h_121 := ir_41_52 hI
        have kn_122 : Hid (c_3 41 52 = c 41 52) := hF_5 41 52 (fun h => absurd h.1 (nn rfl))
        have h_123 : (up (up (up c_3 41 0 0) 41 0 1) 42 1 y_96) 41 52 = c 41 52 := ((up_c (nn rfl)).trans ((up_n (by decide)).trans ((up_n (by decide)).trans (hid kn_122))))
        have h_124 := ir_3_3 hI
        have kn_125 : Hid (c_3 3 3 = c 3 3) := hF_5 3 3 (fun h => absurd h.1 (nn rfl))
        have h_126 : (up (up (up c_3 41 0 0) 41 0 1) 42 1 y_96) 3 3 = c 3 3 := ((up_c (nn rfl)).trans ((up_c (nn rfl)).trans ((up_c (nn rfl)).trans (hid kn_125))))
        have h_127 := ir_41_35 hI
        have kn_128 : Hid (c_3 41 35 = c 41 35) := hF_5 41 35 (fun h => absurd h.1 (nn rfl))
        have h_129 : (up (up (up c_3 41 0 0) 41 0 1) 42 1 y_96) 41 35 = c 41 35 := ((up_c (nn rfl)).trans ((up_n (by decide)).trans ((up_n (by decide)).trans (hid kn_128))))
        have h_130 : (up (up (up c_3 41 0 0) 41 0 1) 42 1 y_96) 3 4 = c 3 4 := ((up_c (nn rfl)).trans ((up_c (nn rfl)).trans ((up_c (nn rfl)).trans (hid kn_119))))
        exact K P Q (up (up (up c_3 41 0 0) 41 0 1) 42 1 y_96) 1 (by decide) hI_99 ⟨by omega, ub_fr hU (fun j => (up_c (nn rfl)).trans ((up_c (nn rfl)).trans ((up_c (nn rfl)).trans (hF_5 2 j (fun h => absurd h.1 (nn rfl)))))) (fun j => (up_c (nn rfl)).trans ((up_c (nn rfl)).trans ((up_c (nn rfl)).trans (hF_5 43 j (fun h => absurd h.1 (nn rfl)))))), ⟨by omega, by omega, by omega, by omega⟩, by omega, by omega, iw_fr2 hIw (by omega) (fun j => (up_c (nn rfl)).trans ((up_c (nn rfl)).trans ((up_c (nn rfl)).trans (hF_5 6 j (fun h => absurd h.1 (nn rfl)))))) (fun j => (up_c (nn rfl)).trans ((up_c (nn rfl)).trans ((up_c (nn rfl)).trans (hF_5 66 j (fun h => absurd h.1 (nn rfl))))))⟩
  intro hG_132
  refine bk_inl ?_
  have h_131 := ir_1_3 hI_9
  refine v_i2l c_265_7 (by omega) (v_ls c_265_8 rfl (by decide) (by decide) (by decide) (q_goto (t := 15) c_265_9 rfl (q_iconst c_265_15 (q_iret c_265_16 rfl (bk_inl (q_istore c_296_368 (Nat.le_of_ble_eq_true rfl) (q_aload_n c_296_370 rfl ?_)))))))
  refine q_aload_n c_296_371 rfl (q_iload c_296_372 rfl (q_iconst c_296_374 (v_iadd (v := (i0 : Int) + 1) c_296_375 rfl (v_scr (j := i0 + 1) c_296_376 (by omega) (by omega) hL hx1 ?_))))
  have hI_133 := iw_lx (a := 67) (j := 0) (v := y_11) hI_9 (by omega)
  have h_134 := ir_41_2 hI
  have kn_135 : Hid (c_8 41 2 = c 41 2) := hF_10 41 2 (qn_95638b1cc hP)
  have h_136 := ir_3_3 hI
  have h_137 := ir_41_35 hI
  have kn_138 : Hid (c_8 41 35 = c 41 35) := hF_10 41 35 (qn_95638b1cc hP)
  have kn_139 : Hid (c_8 41 20 = n0) := (hF_10 41 20 (qn_95638b1cc hP)).trans (hm0)
  have kn_140 : Hid (c_8 41 21 = n1) := (hF_10 41 21 (qn_95638b1cc hP)).trans (hm1)
  have kn_141 : Hid (c_8 41 22 = n2) := (hF_10 41 22 (qn_95638b1cc hP)).trans (hm2)
  refine v_cv c_296_377 km_9_139 rfl rfl (Nat.le_of_ble_eq_true rfl) ⟨⟨rfl, rfl⟩, Nat.le_of_ble_eq_true rfl, rfl⟩ (Nat.le_of_ble_eq_true rfl) (Nat.le_of_ble_eq_true rfl) (L_86t (m := c) (a1 := x1) (yg := y_11) (t9 := c 1 3) (wk := c 3 3) (n0 := n0) (n1 := n1) (n2 := n2) (F := c 2) (H := c 43) hI_133 hI hI_9 (show (-2147483648) ≤ x1 ∧ x1 ≤ 2147483647 from ⟨by first | exact q_7d59b2af6 h_12 | omega, by first | exact q_307fd138a h_12 | omega⟩) ⟨hy_11.1, hy_11.2⟩ ⟨by first | exact q_4e1f9514d h_12 | omega, by first | exact q_6e99c2f8b h_12 | omega, by first | exact q_bd81129bd h_12 | omega⟩ (rfl) (((show _ = c 41 2 from ((up_c (nn rfl)).trans (hid kn_135))).trans (by omega))) (rfl) (((show _ = c 41 35 from ((up_c (nn rfl)).trans (hid kn_138))).trans (by omega))) ((hn0)) (((up_c (nn rfl)).trans (hid kn_139))) ((hn1)) (((up_c (nn rfl)).trans (hid kn_140))) ((hn2)) (((up_c (nn rfl)).trans (hid kn_141))) (fun j => rfl) (fun j => (up_c (nn rfl)).trans (hF_10 43 j (qn_bc8c9d6b3 hP))) hU hG_132 (fun c_142 y_145 hI_143 hF_144 hy_145 h_146 h_147 h_148 h_149 => (bk_inl ?_)))
  have h_150 := ir_41_2 hI_143
  have h_151 := ir_41_8 hI_143
  have h_152 := ir_1_5 hI_9
  have h_153 := ir_41_0 hI_143
  have h_154 := ir_41_35 hI_143
  have h_155 := ir_3_3 hI_9
  refine q_istore c_296_380 (Nat.le_of_ble_eq_true rfl) (q_goto (t := 1816) c_296_382 rfl (Wp_ls [(4, vi (i0 : Int)), (3, .ref 67), (2, .ref 41), (1, .ref 0), (0, .ref a_SC)] (lsub_cons rfl (lsub_cons rfl (lsub_cons rfl (lsub_cons rfl (lsub_cons rfl lsub_nil))))) ?_))
  have kn_156 : Hid (c_142 1 3 = c_8 1 3) := (hF_144 1 3 qn_64b7cdf30).trans (up_c (nn rfl))
  have h_157 : c_142 1 3 = c_8 1 3 := (hid kn_156)
  have h_158 : c_142 41 2 = c_142 41 2 := rfl
  have kn_159 : Hid (c_8 P 0 = n0) := (hF_10 P 0 (qn_26a832cdf hP)).trans (hn0)
  have kn_160 : Hid (c_142 P 0 = n0) := (hF_144 P 0 (qn_206011cb5 hP)).trans ((up_c (np0 hP rfl)).trans (hid kn_159))
  have h_161 : c_142 P 0 = n0 := (hid kn_160)
  have kn_162 : Hid (c_142 41 20 = n0) := (hF_144 41 20 qn_77fbfa850).trans ((up_c (nn rfl)).trans (hid kn_139))
  have h_163 : c_142 41 20 = n0 := (hid kn_162)
  have kn_164 : Hid (c_8 P 1 = n1) := (hF_10 P 1 (qn_26a832cdf hP)).trans (hn1)
  have kn_165 : Hid (c_142 P 1 = n1) := (hF_144 P 1 (qn_206011cb5 hP)).trans ((up_c (np0 hP rfl)).trans (hid kn_164))
  have h_166 : c_142 P 1 = n1 := (hid kn_165)
  have kn_167 : Hid (c_142 41 21 = n1) := (hF_144 41 21 qn_a1534eb98).trans ((up_c (nn rfl)).trans (hid kn_140))
  have h_168 : c_142 41 21 = n1 := (hid kn_167)
  have kn_169 : Hid (c_8 P 2 = n2) := (hF_10 P 2 (qn_26a832cdf hP)).trans (hn2)
  have kn_170 : Hid (c_142 P 2 = n2) := (hF_144 P 2 (qn_206011cb5 hP)).trans ((up_c (np0 hP rfl)).trans (hid kn_169))
  have h_171 : c_142 P 2 = n2 := (hid kn_170)
  have kn_172 : Hid (c_142 41 22 = n2) := (hF_144 41 22 qn_382f2f2de).trans ((up_c (nn rfl)).trans (hid kn_141))
  have h_173 : c_142 41 22 = n2 := (hid kn_172)
  have kn_174 : Hid (c_8 P 3 = n3) := (hF_10 P 3 (qn_26a832cdf hP)).trans (hn3)
  have kn_175 : Hid (c_142 P 3 = n3) := (hF_144 P 3 (qn_206011cb5 hP)).trans ((up_c (np0 hP rfl)).trans (hid kn_174))
  have h_176 : c_142 P 3 = n3 := (hid kn_175)
  have kn_177 : Hid (c_8 41 23 = n3) := (hF_10 41 23 (qn_95638b1cc hP)).trans (hm3)
  have kn_178 : Hid (c_142 41 23 = n3) := (hF_144 41 23 qn_81686f29b).trans ((up_c (nn rfl)).trans (hid kn_177))
  have h_179 : c_142 41 23 = n3 := (hid kn_178)
  have kn_180 : Hid (c_8 3 4 = c 3 4) := hF_10 3 4 (qn_056d6de3c hP)
  have kn_181 : Hid (c_142 3 4 = c 3 4) := (hF_144 3 4 qn_540a8ebd9).trans ((up_c (nn rfl)).trans (hid kn_180))
  have h_182 : c_142 3 4 = c 3 4 := (hid kn_181)
  have h_183 := ir_41_52 hI
  have kn_184 : Hid (c_8 41 52 = c 41 52) := hF_10 41 52 (qn_95638b1cc hP)
  have kn_185 : Hid (c_142 41 52 = c 41 52) := (hF_144 41 52 qn_f022a3cdc).trans ((up_c (nn rfl)).trans (hid kn_184))
  have h_186 : c_142 41 52 = c 41 52 := (hid kn_185)
  have kn_187 : Hid (c_142 3 3 = c_8 3 3) := (hF_144 3 3 qn_540a8ebd9).trans (up_c (nn rfl))
  have h_188 : c_142 3 3 = c_8 3 3 := (hid kn_187)
  have h_189 : c_142 41 35 = c_142 41 35 := rfl
  have h_190 : c_142 3 4 = c 3 4 := (hid kn_181)
  exact K P Q c_142 0 (by decide) hI_143 ⟨by omega, ub_fr hU (fun j => (hF_144 2 j qn_863ce923b).trans ((up_c (nn rfl)).trans (hF_10 2 j (qn_173504b41 hP)))) (fun j => (hF_144 43 j qn_8baf1d17d).trans ((up_c (nn rfl)).trans (hF_10 43 j (qn_bc8c9d6b3 hP)))), ⟨by omega, by omega, by omega, by omega⟩, by omega, by omega, iw_fr2 hIw (by omega) (fun j => (hF_144 6 j qn_db996723a).trans ((up_c (nn rfl)).trans (hF_10 6 j (qn_04be5b8e1 hP)))) (fun j => (hF_144 66 j qn_6ae98eddc).trans ((up_c (nn rfl)).trans (hF_10 66 j (qn_e2ead8ce9 hP))))⟩

set_option maxRecDepth 100000 in
set_option maxHeartbeats 4000000 in
theorem o_4 {xs : Nat → Int32} {L i0 d nc ns P Q : Nat} {c : ME} {Z : AR → Prop} (hi : i0 + 8 ≤ L) (hL : L ≤ 100000) (hI : Iv 0 (-1) P Q c) (hR : Rq P c) (K : ∀ (P2 Q2 : Nat) (c2 : ME) (e : Nat), e ≤ 1 → Iv 0 (-1) P2 Q2 c2 → (Rq P2 c2) → Wp (a_scr L xs) (d + 90) 296 1816 [(4, vi (i0 : Int)), (3, .ref 67), (2, .ref 41), (1, .ref 0), (0, .ref a_SC)] [] (Wd P2 Q2 P2 P2 c2) (nc + e) (ns + 6 * e) Z) : Wp (a_scr L xs) (d + 90) 296 385 [(4, vi (i0 : Int)), (3, .ref 67), (2, .ref 41), (1, .ref 0), (0, .ref a_SC)] [] (Wd P Q P P c) nc ns Z := by
  obtain ⟨x1, hx1⟩ : ∃ z, (xs (i0 + 1)).toInt = z := ⟨_, rfl⟩
  have x1r := c_rng (xs (i0 + 1))
  rw [hx1] at x1r
  obtain ⟨x2, hx2⟩ : ∃ z, (xs (i0 + 2)).toInt = z := ⟨_, rfl⟩
  have x2r := c_rng (xs (i0 + 2))
  rw [hx2] at x2r
  obtain ⟨x3, hx3⟩ : ∃ z, (xs (i0 + 3)).toInt = z := ⟨_, rfl⟩
  have x3r := c_rng (xs (i0 + 3))
  rw [hx3] at x3r
  obtain ⟨x4, hx4⟩ : ∃ z, (xs (i0 + 4)).toInt = z := ⟨_, rfl⟩
  have x4r := c_rng (xs (i0 + 4))
  rw [hx4] at x4r
  obtain ⟨x5, hx5⟩ : ∃ z, (xs (i0 + 5)).toInt = z := ⟨_, rfl⟩
  have x5r := c_rng (xs (i0 + 5))
  rw [hx5] at x5r
  obtain ⟨x6, hx6⟩ : ∃ z, (xs (i0 + 6)).toInt = z := ⟨_, rfl⟩
  have x6r := c_rng (xs (i0 + 6))
  rw [hx6] at x6r
  obtain ⟨x7, hx7⟩ : ∃ z, (xs (i0 + 7)).toInt = z := ⟨_, rfl⟩
  have x7r := c_rng (xs (i0 + 7))
  rw [hx7] at x7r
  have hP := iv_P hI
  have hQ := iv_Q hI
  have hT := rl_t hR
  have hU := rl_u hR
  obtain ⟨n0, hn0⟩ : ∃ z, c P 0 = z := ⟨_, rfl⟩
  have hm0 : c 41 20 = n0 := (rl_nums hR).1.symm.trans hn0
  have hr0 := ir_p0_0 hI hP
  rw [hn0] at hr0
  obtain ⟨n1, hn1⟩ : ∃ z, c P 1 = z := ⟨_, rfl⟩
  have hm1 : c 41 21 = n1 := (rl_nums hR).2.1.symm.trans hn1
  have hr1 := ir_p0_1 hI hP
  rw [hn1] at hr1
  obtain ⟨n2, hn2⟩ : ∃ z, c P 2 = z := ⟨_, rfl⟩
  have hm2 : c 41 22 = n2 := (rl_nums hR).2.2.1.symm.trans hn2
  have hr2 := ir_p0_2 hI hP
  rw [hn2] at hr2
  obtain ⟨n3, hn3⟩ : ∃ z, c P 3 = z := ⟨_, rfl⟩
  have hm3 : c 41 23 = n3 := (rl_nums hR).2.2.2.symm.trans hn3
  have hr3 := ir_p0_3 hI hP
  rw [hn3] at hr3
  have hNimg := rl_img hR
  have hNwk := rl_wk hR
  have h_1 := ir_3_4 hI
  have hIw := rl_iw hR
  refine q_aload_n c_296_385 rfl (q_aload_n c_296_386 rfl (q_iload c_296_387 rfl (q_iconst c_296_389 (v_iadd (v := (i0 : Int) + 1) c_296_390 rfl (v_scr (j := i0 + 1) c_296_391 (by omega) (by omega) hL hx1 (q_aload_n c_296_392 rfl (q_call c_296_393 rfl rfl rfl ?_)))))))
  refine q_aload_n c_266_0 rfl (q_iconst c_266_1 (q_aload_n c_266_2 rfl (q_iload_n c_266_3 rfl ?_)))
  have h_2 := ir_1_3 hI
  refine v_cv c_266_4 km_9_21 rfl rfl (Nat.le_of_ble_eq_true rfl) ⟨⟨rfl, rfl⟩, Nat.le_of_ble_eq_true rfl, rfl⟩ (Nat.le_of_ble_eq_true rfl) (Nat.le_of_ble_eq_true rfl) (s_87 (a1 := x1) hI (show (-2147483648) ≤ x1 ∧ x1 ≤ 2147483647 from ⟨by omega, by omega⟩) (fun c_3 hI_4 hF_5 h_6 h_7 => ?_) (fun c_8 y_11 hI_9 hF_10 hy_11 h_12 => ?_))
  · skip
    have h_13 := ir_1_3 hI_4
    refine bk_thr (z := Int32.ofInt 1) rfl ⟨_, _, rfl⟩ rfl (bk_inl (q_istore c_296_396 (Nat.le_of_ble_eq_true rfl) (q_aload_n c_296_398 rfl (q_aload_n c_296_399 rfl (q_iload c_296_400 rfl (q_iconst c_296_402 (v_iadd (v := (i0 : Int) + 1) c_296_403 rfl ?_)))))))
    refine v_scr (j := i0 + 1) c_296_404 (by omega) (by omega) hL hx1 ?_
    have h_14 := ir_41_2 hI
    have kn_15 : Hid (c_3 41 2 = c 41 2) := hF_5 41 2 (fun h => absurd h.1 (nn rfl))
    have h_16 : c_3 41 2 = c 41 2 := (hid kn_15)
    refine v_cv c_296_405 km_9_142 rfl rfl (Nat.le_of_ble_eq_true rfl) ⟨⟨rfl, rfl⟩, Nat.le_of_ble_eq_true rfl, rfl⟩ (Nat.le_of_ble_eq_true rfl) (Nat.le_of_ble_eq_true rfl) (s_206 (a1 := x1) hI_4 (show (-2147483648) ≤ x1 ∧ x1 ≤ 2147483647 from ⟨by first | (clear hT hNimg hNwk h_1 h_2 h_13; omega) | omega, by first | (clear hT hNimg hNwk h_1 h_2 h_13; omega) | omega⟩) (fun c_17 y_20 hI_18 hF_19 hy_20 h_21 => (bk_inl ?_)))
    have h_22 := ir_41_2 hI_18
    refine q_istore c_296_408 (Nat.le_of_ble_eq_true rfl) (q_goto (t := 1816) c_296_410 rfl (Wp_ls [(4, vi (i0 : Int)), (3, .ref 67), (2, .ref 41), (1, .ref 0), (0, .ref a_SC)] (lsub_cons rfl (lsub_cons rfl (lsub_cons rfl (lsub_cons rfl (lsub_cons rfl lsub_nil))))) ?_))
    have kn_23 : Hid (c_3 1 3 = c 1 3) := hF_5 1 3 (fun h => absurd h.1 (nn rfl))
    have kn_24 : Hid (c_17 1 3 = c 1 3) := (hF_19 1 3 qn_ee2350d59).trans (hid kn_23)
    have h_25 : c_17 1 3 = c 1 3 := (hid kn_24)
    have h_26 : c_17 41 2 = c_17 41 2 := rfl
    have kn_27 : Hid (c_3 P 0 = n0) := (hF_5 P 0 (fun h => absurd h.1 (np0 hP rfl))).trans (hn0)
    have kn_28 : Hid (c_17 P 0 = n0) := (hF_19 P 0 (qn_67aafe213 hP)).trans (hid kn_27)
    have h_29 : c_17 P 0 = n0 := (hid kn_28)
    have kn_30 : Hid (c_3 41 20 = n0) := (hF_5 41 20 (fun h => absurd h.1 (nn rfl))).trans (hm0)
    have kn_31 : Hid (c_17 41 20 = n0) := (hF_19 41 20 qn_6413bf41b).trans (hid kn_30)
    have h_32 : c_17 41 20 = n0 := (hid kn_31)
    have kn_33 : Hid (c_3 P 1 = n1) := (hF_5 P 1 (fun h => absurd h.1 (np0 hP rfl))).trans (hn1)
    have kn_34 : Hid (c_17 P 1 = n1) := (hF_19 P 1 (qn_67aafe213 hP)).trans (hid kn_33)
    have h_35 : c_17 P 1 = n1 := (hid kn_34)
    have kn_36 : Hid (c_3 41 21 = n1) := (hF_5 41 21 (fun h => absurd h.1 (nn rfl))).trans (hm1)
    have kn_37 : Hid (c_17 41 21 = n1) := (hF_19 41 21 qn_f569a8578).trans (hid kn_36)
    have h_38 : c_17 41 21 = n1 := (hid kn_37)
    have kn_39 : Hid (c_3 P 2 = n2) := (hF_5 P 2 (fun h => absurd h.1 (np0 hP rfl))).trans (hn2)
    have kn_40 : Hid (c_17 P 2 = n2) := (hF_19 P 2 (qn_67aafe213 hP)).trans (hid kn_39)
    have h_41 : c_17 P 2 = n2 := (hid kn_40)
    have kn_42 : Hid (c_3 41 22 = n2) := (hF_5 41 22 (fun h => absurd h.1 (nn rfl))).trans (hm2)
    have kn_43 : Hid (c_17 41 22 = n2) := (hF_19 41 22 qn_702a72872).trans (hid kn_42)
    have h_44 : c_17 41 22 = n2 := (hid kn_43)
    have kn_45 : Hid (c_3 P 3 = n3) := (hF_5 P 3 (fun h => absurd h.1 (np0 hP rfl))).trans (hn3)
    have kn_46 : Hid (c_17 P 3 = n3) := (hF_19 P 3 (qn_67aafe213 hP)).trans (hid kn_45)
    have h_47 : c_17 P 3 = n3 := (hid kn_46)
    have kn_48 : Hid (c_3 41 23 = n3) := (hF_5 41 23 (fun h => absurd h.1 (nn rfl))).trans (hm3)
    have kn_49 : Hid (c_17 41 23 = n3) := (hF_19 41 23 qn_d599da4e2).trans (hid kn_48)
    have h_50 : c_17 41 23 = n3 := (hid kn_49)
    have kn_51 : Hid (c_3 3 4 = c 3 4) := hF_5 3 4 (fun h => absurd h.1 (nn rfl))
    have kn_52 : Hid (c_17 3 4 = c 3 4) := (hF_19 3 4 qn_938e7f3df).trans (hid kn_51)
    have h_53 : c_17 3 4 = c 3 4 := (hid kn_52)
    have h_54 := ir_41_52 hI
    have kn_55 : Hid (c_3 41 52 = c 41 52) := hF_5 41 52 (fun h => absurd h.1 (nn rfl))
    have kn_56 : Hid (c_17 41 52 = c 41 52) := (hF_19 41 52 qn_931493540).trans (hid kn_55)
    have h_57 : c_17 41 52 = c 41 52 := (hid kn_56)
    have h_58 := ir_3_3 hI
    have kn_59 : Hid (c_3 3 3 = c 3 3) := hF_5 3 3 (fun h => absurd h.1 (nn rfl))
    have kn_60 : Hid (c_17 3 3 = c 3 3) := (hF_19 3 3 qn_938e7f3df).trans (hid kn_59)
    have h_61 : c_17 3 3 = c 3 3 := (hid kn_60)
    have h_62 := ir_41_35 hI
    have kn_63 : Hid (c_3 41 35 = c 41 35) := hF_5 41 35 (fun h => absurd h.1 (nn rfl))
    have kn_64 : Hid (c_17 41 35 = c 41 35) := (hF_19 41 35 qn_e6684ab8f).trans (hid kn_63)
    have h_65 : c_17 41 35 = c 41 35 := (hid kn_64)
    have h_66 : c_17 3 4 = c 3 4 := (hid kn_52)
    exact K P Q c_17 1 (by decide) hI_18 ⟨by omega, ub_fr hU (fun j => (hF_19 2 j qn_b5489bdb1).trans (hF_5 2 j (fun h => absurd h.1 (nn rfl)))) (fun j => (hF_19 43 j qn_a255de46c).trans (hF_5 43 j (fun h => absurd h.1 (nn rfl)))), ⟨by omega, by omega, by omega, by omega⟩, by omega, by omega, iw_fr2 hIw (by omega) (fun j => (hF_19 6 j qn_455997b78).trans (hF_5 6 j (fun h => absurd h.1 (nn rfl)))) (fun j => (hF_19 66 j qn_b7afdffdc).trans (hF_5 66 j (fun h => absurd h.1 (nn rfl))))⟩
  refine bk_inl ?_
  have h_67 := ir_1_3 hI_9
  refine v_i2l c_266_7 (by omega) (v_ls c_266_8 rfl (by decide) (by decide) (by decide) (q_goto (t := 15) c_266_9 rfl (q_iconst c_266_15 (q_iret c_266_16 rfl (bk_inl (q_istore c_296_396 (Nat.le_of_ble_eq_true rfl) (q_aload_n c_296_398 rfl ?_)))))))
  refine q_aload_n c_296_399 rfl (q_iload c_296_400 rfl (q_iconst c_296_402 (v_iadd (v := (i0 : Int) + 1) c_296_403 rfl (v_scr (j := i0 + 1) c_296_404 (by omega) (by omega) hL hx1 ?_))))
  have hI_68 := iw_lx (a := 67) (j := 0) (v := y_11) hI_9 (by omega)
  have h_69 := ir_41_2 hI
  have kn_70 : Hid (c_8 41 2 = c 41 2) := hF_10 41 2 (qn_1b494c190 hP)
  have h_71 : (up c_8 67 0 y_11) 41 2 = c 41 2 := ((up_c (nn rfl)).trans (hid kn_70))
  refine v_cv c_296_405 km_9_142 rfl rfl (Nat.le_of_ble_eq_true rfl) ⟨⟨rfl, rfl⟩, Nat.le_of_ble_eq_true rfl, rfl⟩ (Nat.le_of_ble_eq_true rfl) (Nat.le_of_ble_eq_true rfl) (s_206 (a1 := x1) hI_68 (show (-2147483648) ≤ x1 ∧ x1 ≤ 2147483647 from ⟨by first | exact q_349ccc1a6 h_12 | omega, by first | exact q_147cf96f9 h_12 | omega⟩) (fun c_72 y_75 hI_73 hF_74 hy_75 h_76 => (bk_inl ?_)))
  have h_77 := ir_41_2 hI_73
  refine q_istore c_296_408 (Nat.le_of_ble_eq_true rfl) (q_goto (t := 1816) c_296_410 rfl (Wp_ls [(4, vi (i0 : Int)), (3, .ref 67), (2, .ref 41), (1, .ref 0), (0, .ref a_SC)] (lsub_cons rfl (lsub_cons rfl (lsub_cons rfl (lsub_cons rfl (lsub_cons rfl lsub_nil))))) ?_))
  have kn_78 : Hid (c_72 1 3 = c_8 1 3) := (hF_74 1 3 qn_ee2350d59).trans (up_c (nn rfl))
  have h_79 : c_72 1 3 = c_8 1 3 := (hid kn_78)
  have h_80 : c_72 41 2 = c_72 41 2 := rfl
  have kn_81 : Hid (c_8 P 0 = n0) := (hF_10 P 0 (qn_1fe3b6d75 hP)).trans (hn0)
  have kn_82 : Hid (c_72 P 0 = n0) := (hF_74 P 0 (qn_67aafe213 hP)).trans ((up_c (np0 hP rfl)).trans (hid kn_81))
  have h_83 : c_72 P 0 = n0 := (hid kn_82)
  have kn_84 : Hid (c_8 41 20 = n0) := (hF_10 41 20 (qn_1b494c190 hP)).trans (hm0)
  have kn_85 : Hid (c_72 41 20 = n0) := (hF_74 41 20 qn_6413bf41b).trans ((up_c (nn rfl)).trans (hid kn_84))
  have h_86 : c_72 41 20 = n0 := (hid kn_85)
  have kn_87 : Hid (c_8 P 1 = n1) := (hF_10 P 1 (qn_085b94255 hP)).trans (hn1)
  have kn_88 : Hid (c_72 P 1 = n1) := (hF_74 P 1 (qn_67aafe213 hP)).trans ((up_c (np0 hP rfl)).trans (hid kn_87))
  have h_89 : c_72 P 1 = n1 := (hid kn_88)
  have kn_90 : Hid (c_8 41 21 = n1) := (hF_10 41 21 (qn_1b494c190 hP)).trans (hm1)
  have kn_91 : Hid (c_72 41 21 = n1) := (hF_74 41 21 qn_f569a8578).trans ((up_c (nn rfl)).trans (hid kn_90))
  have h_92 : c_72 41 21 = n1 := (hid kn_91)
  have kn_93 : Hid (c_8 P 2 = n2) := (hF_10 P 2 (qn_989da5460 hP)).trans (hn2)
  have kn_94 : Hid (c_72 P 2 = n2) := (hF_74 P 2 (qn_67aafe213 hP)).trans ((up_c (np0 hP rfl)).trans (hid kn_93))
  have h_95 : c_72 P 2 = n2 := (hid kn_94)
  have kn_96 : Hid (c_8 41 22 = n2) := (hF_10 41 22 (qn_1b494c190 hP)).trans (hm2)
  have kn_97 : Hid (c_72 41 22 = n2) := (hF_74 41 22 qn_702a72872).trans ((up_c (nn rfl)).trans (hid kn_96))
  have h_98 : c_72 41 22 = n2 := (hid kn_97)
  have kn_99 : Hid (c_8 P 3 = n3) := (hF_10 P 3 (qn_a34b6617d hP)).trans (hn3)
  have kn_100 : Hid (c_72 P 3 = n3) := (hF_74 P 3 (qn_67aafe213 hP)).trans ((up_c (np0 hP rfl)).trans (hid kn_99))
  have h_101 : c_72 P 3 = n3 := (hid kn_100)
  have kn_102 : Hid (c_8 41 23 = n3) := (hF_10 41 23 (qn_1b494c190 hP)).trans (hm3)
  have kn_103 : Hid (c_72 41 23 = n3) := (hF_74 41 23 qn_d599da4e2).trans ((up_c (nn rfl)).trans (hid kn_102))
  have h_104 : c_72 41 23 = n3 := (hid kn_103)
  have kn_105 : Hid (c_8 3 4 = c 3 4) := hF_10 3 4 (qn_e7f046477 hP)
  have kn_106 : Hid (c_72 3 4 = c 3 4) := (hF_74 3 4 qn_938e7f3df).trans ((up_c (nn rfl)).trans (hid kn_105))
  have h_107 : c_72 3 4 = c 3 4 := (hid kn_106)
  have h_108 := ir_41_52 hI
  have kn_109 : Hid (c_8 41 52 = c 41 52) := hF_10 41 52 (qn_1b494c190 hP)
  have kn_110 : Hid (c_72 41 52 = c 41 52) := (hF_74 41 52 qn_931493540).trans ((up_c (nn rfl)).trans (hid kn_109))
  have h_111 : c_72 41 52 = c 41 52 := (hid kn_110)
  have h_112 := ir_3_3 hI
  have kn_113 : Hid (c_8 3 3 = c 3 3) := hF_10 3 3 (qn_e7f046477 hP)
  have kn_114 : Hid (c_72 3 3 = c 3 3) := (hF_74 3 3 qn_938e7f3df).trans ((up_c (nn rfl)).trans (hid kn_113))
  have h_115 : c_72 3 3 = c 3 3 := (hid kn_114)
  have h_116 := ir_41_35 hI
  have kn_117 : Hid (c_8 41 35 = c 41 35) := hF_10 41 35 (qn_1b494c190 hP)
  have kn_118 : Hid (c_72 41 35 = c 41 35) := (hF_74 41 35 qn_e6684ab8f).trans ((up_c (nn rfl)).trans (hid kn_117))
  have h_119 : c_72 41 35 = c 41 35 := (hid kn_118)
  have h_120 : c_72 3 4 = c 3 4 := (hid kn_106)
  exact K P Q c_72 0 (by decide) hI_73 ⟨by omega, ub_fr hU (fun j => (hF_74 2 j qn_b5489bdb1).trans ((up_c (nn rfl)).trans (hF_10 2 j (qn_64e884695 hP)))) (fun j => (hF_74 43 j qn_a255de46c).trans ((up_c (nn rfl)).trans (hF_10 43 j (qn_451f4811a hP)))), ⟨by omega, by omega, by omega, by omega⟩, by omega, by omega, iw_fr2 hIw (by omega) (fun j => (hF_74 6 j qn_455997b78).trans ((up_c (nn rfl)).trans (hF_10 6 j (qn_cc3ee8b1b hP)))) (fun j => (hF_74 66 j qn_b7afdffdc).trans ((up_c (nn rfl)).trans (hF_10 66 j (qn_e6749617a hP))))⟩

set_option maxRecDepth 100000 in
set_option maxHeartbeats 4000000 in
theorem o_5 {xs : Nat → Int32} {L i0 d nc ns P Q : Nat} {c : ME} {Z : AR → Prop} (hi : i0 + 8 ≤ L) (hL : L ≤ 100000) (hI : Iv 0 (-1) P Q c) (hR : Rq P c) (K : ∀ (P2 Q2 : Nat) (c2 : ME) (e : Nat), e ≤ 1 → Iv 0 (-1) P2 Q2 c2 → (Rq P2 c2) → Wp (a_scr L xs) (d + 90) 296 1816 [(4, vi (i0 : Int)), (3, .ref 67), (2, .ref 41), (1, .ref 0), (0, .ref a_SC)] [] (Wd P2 Q2 P2 P2 c2) (nc + e) (ns + 6 * e) Z) : Wp (a_scr L xs) (d + 90) 296 413 [(4, vi (i0 : Int)), (3, .ref 67), (2, .ref 41), (1, .ref 0), (0, .ref a_SC)] [] (Wd P Q P P c) nc ns Z := by
  obtain ⟨x1, hx1⟩ : ∃ z, (xs (i0 + 1)).toInt = z := ⟨_, rfl⟩
  have x1r := c_rng (xs (i0 + 1))
  rw [hx1] at x1r
  obtain ⟨x2, hx2⟩ : ∃ z, (xs (i0 + 2)).toInt = z := ⟨_, rfl⟩
  have x2r := c_rng (xs (i0 + 2))
  rw [hx2] at x2r
  obtain ⟨x3, hx3⟩ : ∃ z, (xs (i0 + 3)).toInt = z := ⟨_, rfl⟩
  have x3r := c_rng (xs (i0 + 3))
  rw [hx3] at x3r
  obtain ⟨x4, hx4⟩ : ∃ z, (xs (i0 + 4)).toInt = z := ⟨_, rfl⟩
  have x4r := c_rng (xs (i0 + 4))
  rw [hx4] at x4r
  obtain ⟨x5, hx5⟩ : ∃ z, (xs (i0 + 5)).toInt = z := ⟨_, rfl⟩
  have x5r := c_rng (xs (i0 + 5))
  rw [hx5] at x5r
  obtain ⟨x6, hx6⟩ : ∃ z, (xs (i0 + 6)).toInt = z := ⟨_, rfl⟩
  have x6r := c_rng (xs (i0 + 6))
  rw [hx6] at x6r
  obtain ⟨x7, hx7⟩ : ∃ z, (xs (i0 + 7)).toInt = z := ⟨_, rfl⟩
  have x7r := c_rng (xs (i0 + 7))
  rw [hx7] at x7r
  have hP := iv_P hI
  have hQ := iv_Q hI
  have hT := rl_t hR
  have hU := rl_u hR
  obtain ⟨n0, hn0⟩ : ∃ z, c P 0 = z := ⟨_, rfl⟩
  have hm0 : c 41 20 = n0 := (rl_nums hR).1.symm.trans hn0
  have hr0 := ir_p0_0 hI hP
  rw [hn0] at hr0
  obtain ⟨n1, hn1⟩ : ∃ z, c P 1 = z := ⟨_, rfl⟩
  have hm1 : c 41 21 = n1 := (rl_nums hR).2.1.symm.trans hn1
  have hr1 := ir_p0_1 hI hP
  rw [hn1] at hr1
  obtain ⟨n2, hn2⟩ : ∃ z, c P 2 = z := ⟨_, rfl⟩
  have hm2 : c 41 22 = n2 := (rl_nums hR).2.2.1.symm.trans hn2
  have hr2 := ir_p0_2 hI hP
  rw [hn2] at hr2
  obtain ⟨n3, hn3⟩ : ∃ z, c P 3 = z := ⟨_, rfl⟩
  have hm3 : c 41 23 = n3 := (rl_nums hR).2.2.2.symm.trans hn3
  have hr3 := ir_p0_3 hI hP
  rw [hn3] at hr3
  have hNimg := rl_img hR
  have hNwk := rl_wk hR
  have h_1 := ir_3_4 hI
  have hIw := rl_iw hR
  refine q_aload_n c_296_413 rfl (q_aload_n c_296_414 rfl (q_iload c_296_415 rfl (q_iconst c_296_417 (v_iadd (v := (i0 : Int) + 1) c_296_418 rfl (v_scr (j := i0 + 1) c_296_419 (by omega) (by omega) hL hx1 (q_aload_n c_296_420 rfl (q_call c_296_421 rfl rfl rfl ?_)))))))
  refine q_aload_n c_267_0 rfl (q_iconst c_267_1 (q_aload_n c_267_2 rfl (q_iload_n c_267_3 rfl ?_)))
  have h_2 := ir_1_3 hI
  refine v_cv c_267_4 km_9_24 rfl rfl (Nat.le_of_ble_eq_true rfl) ⟨⟨rfl, rfl⟩, Nat.le_of_ble_eq_true rfl, rfl⟩ (Nat.le_of_ble_eq_true rfl) (Nat.le_of_ble_eq_true rfl) (s_88 (a1 := x1) hI (show (-2147483648) ≤ x1 ∧ x1 ≤ 2147483647 from ⟨by omega, by omega⟩) (fun c_3 hI_4 hF_5 h_6 h_7 => ?_) (fun c_8 y_11 hI_9 hF_10 hy_11 h_12 => ?_))
  · skip
    have h_13 := ir_1_3 hI_4
    refine bk_thr (z := Int32.ofInt 1) rfl ⟨_, _, rfl⟩ rfl (bk_inl (q_istore c_296_424 (Nat.le_of_ble_eq_true rfl) (q_aload_n c_296_426 rfl (q_aload_n c_296_427 rfl (q_iload c_296_428 rfl (q_iconst c_296_430 (v_iadd (v := (i0 : Int) + 1) c_296_431 rfl ?_)))))))
    refine v_scr (j := i0 + 1) c_296_432 (by omega) (by omega) hL hx1 ?_
    have h_14 := ir_41_2 hI
    have kn_15 : Hid (c_3 41 2 = c 41 2) := hF_5 41 2 (fun h => absurd h.1 (nn rfl))
    have h_16 : c_3 41 2 = c 41 2 := (hid kn_15)
    refine v_cv c_296_433 km_9_145 rfl rfl (Nat.le_of_ble_eq_true rfl) ⟨⟨rfl, rfl⟩, Nat.le_of_ble_eq_true rfl, rfl⟩ (Nat.le_of_ble_eq_true rfl) (Nat.le_of_ble_eq_true rfl) (s_207 (a1 := x1) hI_4 (show (-2147483648) ≤ x1 ∧ x1 ≤ 2147483647 from ⟨by first | (clear hT hNimg hNwk h_1 h_2 h_13; omega) | omega, by first | (clear hT hNimg hNwk h_1 h_2 h_13; omega) | omega⟩) (fun c_17 y_20 hI_18 hF_19 hy_20 h_21 => (bk_inl ?_)))
    have h_22 := ir_41_2 hI_18
    refine q_istore c_296_436 (Nat.le_of_ble_eq_true rfl) (q_goto (t := 1816) c_296_438 rfl (Wp_ls [(4, vi (i0 : Int)), (3, .ref 67), (2, .ref 41), (1, .ref 0), (0, .ref a_SC)] (lsub_cons rfl (lsub_cons rfl (lsub_cons rfl (lsub_cons rfl (lsub_cons rfl lsub_nil))))) ?_))
    have kn_23 : Hid (c_3 1 3 = c 1 3) := hF_5 1 3 (fun h => absurd h.1 (nn rfl))
    have kn_24 : Hid (c_17 1 3 = c 1 3) := (hF_19 1 3 qn_e4da0ae8c).trans (hid kn_23)
    have h_25 : c_17 1 3 = c 1 3 := (hid kn_24)
    have h_26 : c_17 41 2 = c_17 41 2 := rfl
    have kn_27 : Hid (c_3 P 0 = n0) := (hF_5 P 0 (fun h => absurd h.1 (np0 hP rfl))).trans (hn0)
    have kn_28 : Hid (c_17 P 0 = n0) := (hF_19 P 0 (qn_bc95bba4c hP)).trans (hid kn_27)
    have h_29 : c_17 P 0 = n0 := (hid kn_28)
    have kn_30 : Hid (c_3 41 20 = n0) := (hF_5 41 20 (fun h => absurd h.1 (nn rfl))).trans (hm0)
    have kn_31 : Hid (c_17 41 20 = n0) := (hF_19 41 20 qn_aa477815d).trans (hid kn_30)
    have h_32 : c_17 41 20 = n0 := (hid kn_31)
    have kn_33 : Hid (c_3 P 1 = n1) := (hF_5 P 1 (fun h => absurd h.1 (np0 hP rfl))).trans (hn1)
    have kn_34 : Hid (c_17 P 1 = n1) := (hF_19 P 1 (qn_bc95bba4c hP)).trans (hid kn_33)
    have h_35 : c_17 P 1 = n1 := (hid kn_34)
    have kn_36 : Hid (c_3 41 21 = n1) := (hF_5 41 21 (fun h => absurd h.1 (nn rfl))).trans (hm1)
    have kn_37 : Hid (c_17 41 21 = n1) := (hF_19 41 21 qn_7936e07cf).trans (hid kn_36)
    have h_38 : c_17 41 21 = n1 := (hid kn_37)
    have kn_39 : Hid (c_3 P 2 = n2) := (hF_5 P 2 (fun h => absurd h.1 (np0 hP rfl))).trans (hn2)
    have kn_40 : Hid (c_17 P 2 = n2) := (hF_19 P 2 (qn_bc95bba4c hP)).trans (hid kn_39)
    have h_41 : c_17 P 2 = n2 := (hid kn_40)
    have kn_42 : Hid (c_3 41 22 = n2) := (hF_5 41 22 (fun h => absurd h.1 (nn rfl))).trans (hm2)
    have kn_43 : Hid (c_17 41 22 = n2) := (hF_19 41 22 qn_ee150294c).trans (hid kn_42)
    have h_44 : c_17 41 22 = n2 := (hid kn_43)
    have kn_45 : Hid (c_3 P 3 = n3) := (hF_5 P 3 (fun h => absurd h.1 (np0 hP rfl))).trans (hn3)
    have kn_46 : Hid (c_17 P 3 = n3) := (hF_19 P 3 (qn_bc95bba4c hP)).trans (hid kn_45)
    have h_47 : c_17 P 3 = n3 := (hid kn_46)
    have kn_48 : Hid (c_3 41 23 = n3) := (hF_5 41 23 (fun h => absurd h.1 (nn rfl))).trans (hm3)
    have kn_49 : Hid (c_17 41 23 = n3) := (hF_19 41 23 qn_f079f4214).trans (hid kn_48)
    have h_50 : c_17 41 23 = n3 := (hid kn_49)
    have kn_51 : Hid (c_3 3 4 = c 3 4) := hF_5 3 4 (fun h => absurd h.1 (nn rfl))
    have kn_52 : Hid (c_17 3 4 = c 3 4) := (hF_19 3 4 qn_a0ddd52db).trans (hid kn_51)
    have h_53 : c_17 3 4 = c 3 4 := (hid kn_52)
    have h_54 := ir_41_52 hI
    have kn_55 : Hid (c_3 41 52 = c 41 52) := hF_5 41 52 (fun h => absurd h.1 (nn rfl))
    have kn_56 : Hid (c_17 41 52 = c 41 52) := (hF_19 41 52 qn_877774147).trans (hid kn_55)
    have h_57 : c_17 41 52 = c 41 52 := (hid kn_56)
    have h_58 := ir_3_3 hI
    have kn_59 : Hid (c_3 3 3 = c 3 3) := hF_5 3 3 (fun h => absurd h.1 (nn rfl))
    have kn_60 : Hid (c_17 3 3 = c 3 3) := (hF_19 3 3 qn_a0ddd52db).trans (hid kn_59)
    have h_61 : c_17 3 3 = c 3 3 := (hid kn_60)
    have h_62 := ir_41_35 hI
    have kn_63 : Hid (c_3 41 35 = c 41 35) := hF_5 41 35 (fun h => absurd h.1 (nn rfl))
    have kn_64 : Hid (c_17 41 35 = c 41 35) := (hF_19 41 35 qn_77c6ffb78).trans (hid kn_63)
    have h_65 : c_17 41 35 = c 41 35 := (hid kn_64)
    have h_66 : c_17 3 4 = c 3 4 := (hid kn_52)
    exact K P Q c_17 1 (by decide) hI_18 ⟨by omega, ub_fr hU (fun j => (hF_19 2 j qn_2fc470899).trans (hF_5 2 j (fun h => absurd h.1 (nn rfl)))) (fun j => (hF_19 43 j qn_a1452b2ed).trans (hF_5 43 j (fun h => absurd h.1 (nn rfl)))), ⟨by omega, by omega, by omega, by omega⟩, by omega, by omega, iw_fr2 hIw (by omega) (fun j => (hF_19 6 j qn_3fa8cd205).trans (hF_5 6 j (fun h => absurd h.1 (nn rfl)))) (fun j => (hF_19 66 j qn_f3f9429c3).trans (hF_5 66 j (fun h => absurd h.1 (nn rfl))))⟩
  refine bk_inl ?_
  have h_67 := ir_1_3 hI_9
  refine v_i2l c_267_7 (by omega) (v_ls c_267_8 rfl (by decide) (by decide) (by decide) (q_goto (t := 15) c_267_9 rfl (q_iconst c_267_15 (q_iret c_267_16 rfl (bk_inl (q_istore c_296_424 (Nat.le_of_ble_eq_true rfl) (q_aload_n c_296_426 rfl ?_)))))))
  refine q_aload_n c_296_427 rfl (q_iload c_296_428 rfl (q_iconst c_296_430 (v_iadd (v := (i0 : Int) + 1) c_296_431 rfl (v_scr (j := i0 + 1) c_296_432 (by omega) (by omega) hL hx1 ?_))))
  have hI_68 := iw_lx (a := 67) (j := 0) (v := y_11) hI_9 (by omega)
  have h_69 := ir_41_2 hI
  have kn_70 : Hid (c_8 41 2 = c 41 2) := hF_10 41 2 (qn_f46dc6fb3 hP)
  have h_71 : (up c_8 67 0 y_11) 41 2 = c 41 2 := ((up_c (nn rfl)).trans (hid kn_70))
  refine v_cv c_296_433 km_9_145 rfl rfl (Nat.le_of_ble_eq_true rfl) ⟨⟨rfl, rfl⟩, Nat.le_of_ble_eq_true rfl, rfl⟩ (Nat.le_of_ble_eq_true rfl) (Nat.le_of_ble_eq_true rfl) (s_207 (a1 := x1) hI_68 (show (-2147483648) ≤ x1 ∧ x1 ≤ 2147483647 from ⟨by first | exact q_349ccc1a6 h_12 | omega, by first | exact q_147cf96f9 h_12 | omega⟩) (fun c_72 y_75 hI_73 hF_74 hy_75 h_76 => (bk_inl ?_)))
  have h_77 := ir_41_2 hI_73
  refine q_istore c_296_436 (Nat.le_of_ble_eq_true rfl) (q_goto (t := 1816) c_296_438 rfl (Wp_ls [(4, vi (i0 : Int)), (3, .ref 67), (2, .ref 41), (1, .ref 0), (0, .ref a_SC)] (lsub_cons rfl (lsub_cons rfl (lsub_cons rfl (lsub_cons rfl (lsub_cons rfl lsub_nil))))) ?_))
  have kn_78 : Hid (c_72 1 3 = c_8 1 3) := (hF_74 1 3 qn_e4da0ae8c).trans (up_c (nn rfl))
  have h_79 : c_72 1 3 = c_8 1 3 := (hid kn_78)
  have h_80 : c_72 41 2 = c_72 41 2 := rfl
  have kn_81 : Hid (c_8 P 0 = n0) := (hF_10 P 0 (qn_a06c5bbb9 hP)).trans (hn0)
  have kn_82 : Hid (c_72 P 0 = n0) := (hF_74 P 0 (qn_bc95bba4c hP)).trans ((up_c (np0 hP rfl)).trans (hid kn_81))
  have h_83 : c_72 P 0 = n0 := (hid kn_82)
  have kn_84 : Hid (c_8 41 20 = n0) := (hF_10 41 20 (qn_f46dc6fb3 hP)).trans (hm0)
  have kn_85 : Hid (c_72 41 20 = n0) := (hF_74 41 20 qn_aa477815d).trans ((up_c (nn rfl)).trans (hid kn_84))
  have h_86 : c_72 41 20 = n0 := (hid kn_85)
  have kn_87 : Hid (c_8 P 1 = n1) := (hF_10 P 1 (qn_f922313e4 hP)).trans (hn1)
  have kn_88 : Hid (c_72 P 1 = n1) := (hF_74 P 1 (qn_bc95bba4c hP)).trans ((up_c (np0 hP rfl)).trans (hid kn_87))
  have h_89 : c_72 P 1 = n1 := (hid kn_88)
  have kn_90 : Hid (c_8 41 21 = n1) := (hF_10 41 21 (qn_f46dc6fb3 hP)).trans (hm1)
  have kn_91 : Hid (c_72 41 21 = n1) := (hF_74 41 21 qn_7936e07cf).trans ((up_c (nn rfl)).trans (hid kn_90))
  have h_92 : c_72 41 21 = n1 := (hid kn_91)
  have kn_93 : Hid (c_8 P 2 = n2) := (hF_10 P 2 (qn_7a4fcc1ca hP)).trans (hn2)
  have kn_94 : Hid (c_72 P 2 = n2) := (hF_74 P 2 (qn_bc95bba4c hP)).trans ((up_c (np0 hP rfl)).trans (hid kn_93))
  have h_95 : c_72 P 2 = n2 := (hid kn_94)
  have kn_96 : Hid (c_8 41 22 = n2) := (hF_10 41 22 (qn_f46dc6fb3 hP)).trans (hm2)
  have kn_97 : Hid (c_72 41 22 = n2) := (hF_74 41 22 qn_ee150294c).trans ((up_c (nn rfl)).trans (hid kn_96))
  have h_98 : c_72 41 22 = n2 := (hid kn_97)
  have kn_99 : Hid (c_8 P 3 = n3) := (hF_10 P 3 (qn_ab8d63db3 hP)).trans (hn3)
  have kn_100 : Hid (c_72 P 3 = n3) := (hF_74 P 3 (qn_bc95bba4c hP)).trans ((up_c (np0 hP rfl)).trans (hid kn_99))
  have h_101 : c_72 P 3 = n3 := (hid kn_100)
  have kn_102 : Hid (c_8 41 23 = n3) := (hF_10 41 23 (qn_f46dc6fb3 hP)).trans (hm3)
  have kn_103 : Hid (c_72 41 23 = n3) := (hF_74 41 23 qn_f079f4214).trans ((up_c (nn rfl)).trans (hid kn_102))
  have h_104 : c_72 41 23 = n3 := (hid kn_103)
  have kn_105 : Hid (c_8 3 4 = c 3 4) := hF_10 3 4 (qn_7f13ac530 hP)
  have kn_106 : Hid (c_72 3 4 = c 3 4) := (hF_74 3 4 qn_a0ddd52db).trans ((up_c (nn rfl)).trans (hid kn_105))
  have h_107 : c_72 3 4 = c 3 4 := (hid kn_106)
  have h_108 := ir_41_52 hI
  have kn_109 : Hid (c_8 41 52 = c 41 52) := hF_10 41 52 (qn_f46dc6fb3 hP)
  have kn_110 : Hid (c_72 41 52 = c 41 52) := (hF_74 41 52 qn_877774147).trans ((up_c (nn rfl)).trans (hid kn_109))
  have h_111 : c_72 41 52 = c 41 52 := (hid kn_110)
  have h_112 := ir_3_3 hI
  have kn_113 : Hid (c_8 3 3 = c 3 3) := hF_10 3 3 (qn_7f13ac530 hP)
  have kn_114 : Hid (c_72 3 3 = c 3 3) := (hF_74 3 3 qn_a0ddd52db).trans ((up_c (nn rfl)).trans (hid kn_113))
  have h_115 : c_72 3 3 = c 3 3 := (hid kn_114)
  have h_116 := ir_41_35 hI
  have kn_117 : Hid (c_8 41 35 = c 41 35) := hF_10 41 35 (qn_f46dc6fb3 hP)
  have kn_118 : Hid (c_72 41 35 = c 41 35) := (hF_74 41 35 qn_77c6ffb78).trans ((up_c (nn rfl)).trans (hid kn_117))
  have h_119 : c_72 41 35 = c 41 35 := (hid kn_118)
  have h_120 : c_72 3 4 = c 3 4 := (hid kn_106)
  exact K P Q c_72 0 (by decide) hI_73 ⟨by omega, ub_fr hU (fun j => (hF_74 2 j qn_2fc470899).trans ((up_c (nn rfl)).trans (hF_10 2 j (qn_f75877a0d hP)))) (fun j => (hF_74 43 j qn_a1452b2ed).trans ((up_c (nn rfl)).trans (hF_10 43 j (qn_bcdf94085 hP)))), ⟨by omega, by omega, by omega, by omega⟩, by omega, by omega, iw_fr2 hIw (by omega) (fun j => (hF_74 6 j qn_3fa8cd205).trans ((up_c (nn rfl)).trans (hF_10 6 j (qn_891661a0a hP)))) (fun j => (hF_74 66 j qn_f3f9429c3).trans ((up_c (nn rfl)).trans (hF_10 66 j (qn_882c01e17 hP))))⟩

set_option maxRecDepth 100000 in
set_option maxHeartbeats 4000000 in
theorem o_6 {xs : Nat → Int32} {L i0 d nc ns P Q : Nat} {c : ME} {Z : AR → Prop} (hi : i0 + 8 ≤ L) (hL : L ≤ 100000) (hI : Iv 0 (-1) P Q c) (hR : Rq P c) (K : ∀ (P2 Q2 : Nat) (c2 : ME) (e : Nat), e ≤ 1 → Iv 0 (-1) P2 Q2 c2 → (Rq P2 c2) → Wp (a_scr L xs) (d + 90) 296 1816 [(4, vi (i0 : Int)), (3, .ref 67), (2, .ref 41), (1, .ref 0), (0, .ref a_SC)] [] (Wd P2 Q2 P2 P2 c2) (nc + e) (ns + 6 * e) Z) : Wp (a_scr L xs) (d + 90) 296 441 [(4, vi (i0 : Int)), (3, .ref 67), (2, .ref 41), (1, .ref 0), (0, .ref a_SC)] [] (Wd P Q P P c) nc ns Z := by
  obtain ⟨x1, hx1⟩ : ∃ z, (xs (i0 + 1)).toInt = z := ⟨_, rfl⟩
  have x1r := c_rng (xs (i0 + 1))
  rw [hx1] at x1r
  obtain ⟨x2, hx2⟩ : ∃ z, (xs (i0 + 2)).toInt = z := ⟨_, rfl⟩
  have x2r := c_rng (xs (i0 + 2))
  rw [hx2] at x2r
  obtain ⟨x3, hx3⟩ : ∃ z, (xs (i0 + 3)).toInt = z := ⟨_, rfl⟩
  have x3r := c_rng (xs (i0 + 3))
  rw [hx3] at x3r
  obtain ⟨x4, hx4⟩ : ∃ z, (xs (i0 + 4)).toInt = z := ⟨_, rfl⟩
  have x4r := c_rng (xs (i0 + 4))
  rw [hx4] at x4r
  obtain ⟨x5, hx5⟩ : ∃ z, (xs (i0 + 5)).toInt = z := ⟨_, rfl⟩
  have x5r := c_rng (xs (i0 + 5))
  rw [hx5] at x5r
  obtain ⟨x6, hx6⟩ : ∃ z, (xs (i0 + 6)).toInt = z := ⟨_, rfl⟩
  have x6r := c_rng (xs (i0 + 6))
  rw [hx6] at x6r
  obtain ⟨x7, hx7⟩ : ∃ z, (xs (i0 + 7)).toInt = z := ⟨_, rfl⟩
  have x7r := c_rng (xs (i0 + 7))
  rw [hx7] at x7r
  have hP := iv_P hI
  have hQ := iv_Q hI
  have hT := rl_t hR
  have hU := rl_u hR
  obtain ⟨n0, hn0⟩ : ∃ z, c P 0 = z := ⟨_, rfl⟩
  have hm0 : c 41 20 = n0 := (rl_nums hR).1.symm.trans hn0
  have hr0 := ir_p0_0 hI hP
  rw [hn0] at hr0
  obtain ⟨n1, hn1⟩ : ∃ z, c P 1 = z := ⟨_, rfl⟩
  have hm1 : c 41 21 = n1 := (rl_nums hR).2.1.symm.trans hn1
  have hr1 := ir_p0_1 hI hP
  rw [hn1] at hr1
  obtain ⟨n2, hn2⟩ : ∃ z, c P 2 = z := ⟨_, rfl⟩
  have hm2 : c 41 22 = n2 := (rl_nums hR).2.2.1.symm.trans hn2
  have hr2 := ir_p0_2 hI hP
  rw [hn2] at hr2
  obtain ⟨n3, hn3⟩ : ∃ z, c P 3 = z := ⟨_, rfl⟩
  have hm3 : c 41 23 = n3 := (rl_nums hR).2.2.2.symm.trans hn3
  have hr3 := ir_p0_3 hI hP
  rw [hn3] at hr3
  have hNimg := rl_img hR
  have hNwk := rl_wk hR
  have h_1 := ir_3_4 hI
  have hIw := rl_iw hR
  refine q_aload_n c_296_441 rfl (v_cv c_296_442 km_9_146 rfl rfl (Nat.le_of_ble_eq_true rfl) ⟨⟨rfl, rfl⟩, Nat.le_of_ble_eq_true rfl, rfl⟩ (Nat.le_of_ble_eq_true rfl) (Nat.le_of_ble_eq_true rfl) (s_89 hI (fun y_2 hy_2 => (bk_inl (q_pop c_296_445 rfl (q_aload_n c_296_446 rfl (v_cv c_296_447 km_9_150 rfl rfl (Nat.le_of_ble_eq_true rfl) ⟨⟨rfl, rfl⟩, Nat.le_of_ble_eq_true rfl, rfl⟩ (Nat.le_of_ble_eq_true rfl) (Nat.le_of_ble_eq_true rfl) (s_165 hI (fun c_3 y_6 hI_4 hF_5 hy_6 => (bk_inl (q_pop c_296_450 rfl ?_)))))))))))
  refine q_goto (t := 1816) c_296_451 rfl (Wp_ls [(4, vi (i0 : Int)), (3, .ref 67), (2, .ref 41), (1, .ref 0), (0, .ref a_SC)] (lsub_cons rfl (lsub_cons rfl (lsub_cons rfl (lsub_cons rfl (lsub_cons rfl lsub_nil))))) ?_)
  have h_7 := ir_1_3 hI
  have kn_8 : Hid (c_3 1 3 = c 1 3) := hF_5 1 3 (fun h => absurd h.1 (nn rfl))
  have h_9 : c_3 1 3 = c 1 3 := (hid kn_8)
  have h_10 := ir_41_2 hI
  have kn_11 : Hid (c_3 41 2 = c 41 2) := hF_5 41 2 (fun h => absurd h.2 (ni rfl))
  have h_12 : c_3 41 2 = c 41 2 := (hid kn_11)
  have kn_13 : Hid (c_3 P 0 = n0) := (hF_5 P 0 (fun h => absurd h.1 (np0 hP rfl))).trans (hn0)
  have h_14 : c_3 P 0 = n0 := (hid kn_13)
  have kn_15 : Hid (c_3 41 20 = n0) := (hF_5 41 20 (fun h => absurd h.2 (ni rfl))).trans (hm0)
  have h_16 : c_3 41 20 = n0 := (hid kn_15)
  have kn_17 : Hid (c_3 P 1 = n1) := (hF_5 P 1 (fun h => absurd h.1 (np0 hP rfl))).trans (hn1)
  have h_18 : c_3 P 1 = n1 := (hid kn_17)
  have kn_19 : Hid (c_3 41 21 = n1) := (hF_5 41 21 (fun h => absurd h.2 (ni rfl))).trans (hm1)
  have h_20 : c_3 41 21 = n1 := (hid kn_19)
  have kn_21 : Hid (c_3 P 2 = n2) := (hF_5 P 2 (fun h => absurd h.1 (np0 hP rfl))).trans (hn2)
  have h_22 : c_3 P 2 = n2 := (hid kn_21)
  have kn_23 : Hid (c_3 41 22 = n2) := (hF_5 41 22 (fun h => absurd h.2 (ni rfl))).trans (hm2)
  have h_24 : c_3 41 22 = n2 := (hid kn_23)
  have kn_25 : Hid (c_3 P 3 = n3) := (hF_5 P 3 (fun h => absurd h.1 (np0 hP rfl))).trans (hn3)
  have h_26 : c_3 P 3 = n3 := (hid kn_25)
  have kn_27 : Hid (c_3 41 23 = n3) := (hF_5 41 23 (fun h => absurd h.2 (ni rfl))).trans (hm3)
  have h_28 : c_3 41 23 = n3 := (hid kn_27)
  have kn_29 : Hid (c_3 3 4 = c 3 4) := hF_5 3 4 (fun h => absurd h.1 (nn rfl))
  have h_30 : c_3 3 4 = c 3 4 := (hid kn_29)
  have h_31 := ir_41_52 hI
  have kn_32 : Hid (c_3 41 52 = c 41 52) := hF_5 41 52 (fun h => absurd h.2 (ni rfl))
  have h_33 : c_3 41 52 = c 41 52 := (hid kn_32)
  have h_34 := ir_3_3 hI
  have kn_35 : Hid (c_3 3 3 = c 3 3) := hF_5 3 3 (fun h => absurd h.1 (nn rfl))
  have h_36 : c_3 3 3 = c 3 3 := (hid kn_35)
  have h_37 := ir_41_35 hI
  have kn_38 : Hid (c_3 41 35 = c 41 35) := hF_5 41 35 (fun h => absurd h.2 (ni rfl))
  have h_39 : c_3 41 35 = c 41 35 := (hid kn_38)
  have h_40 : c_3 3 4 = c 3 4 := (hid kn_29)
  exact K P Q c_3 0 (by decide) hI_4 ⟨by omega, ub_fr hU (fun j => hF_5 2 j (fun h => absurd h.1 (nn rfl))) (fun j => hF_5 43 j (fun h => absurd h.1 (nn rfl))), ⟨by omega, by omega, by omega, by omega⟩, by omega, by omega, iw_fr2 hIw (by omega) (fun j => hF_5 6 j (fun h => absurd h.1 (nn rfl))) (fun j => hF_5 66 j (fun h => absurd h.1 (nn rfl)))⟩

set_option maxRecDepth 100000 in
set_option maxHeartbeats 4000000 in
theorem o_7 {xs : Nat → Int32} {L i0 d nc ns P Q : Nat} {c : ME} {Z : AR → Prop} (hi : i0 + 8 ≤ L) (hL : L ≤ 100000) (hI : Iv 0 (-1) P Q c) (hR : Rq P c) (K : ∀ (P2 Q2 : Nat) (c2 : ME) (e : Nat), e ≤ 1 → Iv 0 (-1) P2 Q2 c2 → (Rq P2 c2) → Wp (a_scr L xs) (d + 90) 296 1816 [(4, vi (i0 : Int)), (3, .ref 67), (2, .ref 41), (1, .ref 0), (0, .ref a_SC)] [] (Wd P2 Q2 P2 P2 c2) (nc + e) (ns + 6 * e) Z) : Wp (a_scr L xs) (d + 90) 296 454 [(4, vi (i0 : Int)), (3, .ref 67), (2, .ref 41), (1, .ref 0), (0, .ref a_SC)] [] (Wd P Q P P c) nc ns Z := by
  obtain ⟨x1, hx1⟩ : ∃ z, (xs (i0 + 1)).toInt = z := ⟨_, rfl⟩
  have x1r := c_rng (xs (i0 + 1))
  rw [hx1] at x1r
  obtain ⟨x2, hx2⟩ : ∃ z, (xs (i0 + 2)).toInt = z := ⟨_, rfl⟩
  have x2r := c_rng (xs (i0 + 2))
  rw [hx2] at x2r
  obtain ⟨x3, hx3⟩ : ∃ z, (xs (i0 + 3)).toInt = z := ⟨_, rfl⟩
  have x3r := c_rng (xs (i0 + 3))
  rw [hx3] at x3r
  obtain ⟨x4, hx4⟩ : ∃ z, (xs (i0 + 4)).toInt = z := ⟨_, rfl⟩
  have x4r := c_rng (xs (i0 + 4))
  rw [hx4] at x4r
  obtain ⟨x5, hx5⟩ : ∃ z, (xs (i0 + 5)).toInt = z := ⟨_, rfl⟩
  have x5r := c_rng (xs (i0 + 5))
  rw [hx5] at x5r
  obtain ⟨x6, hx6⟩ : ∃ z, (xs (i0 + 6)).toInt = z := ⟨_, rfl⟩
  have x6r := c_rng (xs (i0 + 6))
  rw [hx6] at x6r
  obtain ⟨x7, hx7⟩ : ∃ z, (xs (i0 + 7)).toInt = z := ⟨_, rfl⟩
  have x7r := c_rng (xs (i0 + 7))
  rw [hx7] at x7r
  have hP := iv_P hI
  have hQ := iv_Q hI
  have hT := rl_t hR
  have hU := rl_u hR
  obtain ⟨n0, hn0⟩ : ∃ z, c P 0 = z := ⟨_, rfl⟩
  have hm0 : c 41 20 = n0 := (rl_nums hR).1.symm.trans hn0
  have hr0 := ir_p0_0 hI hP
  rw [hn0] at hr0
  obtain ⟨n1, hn1⟩ : ∃ z, c P 1 = z := ⟨_, rfl⟩
  have hm1 : c 41 21 = n1 := (rl_nums hR).2.1.symm.trans hn1
  have hr1 := ir_p0_1 hI hP
  rw [hn1] at hr1
  obtain ⟨n2, hn2⟩ : ∃ z, c P 2 = z := ⟨_, rfl⟩
  have hm2 : c 41 22 = n2 := (rl_nums hR).2.2.1.symm.trans hn2
  have hr2 := ir_p0_2 hI hP
  rw [hn2] at hr2
  obtain ⟨n3, hn3⟩ : ∃ z, c P 3 = z := ⟨_, rfl⟩
  have hm3 : c 41 23 = n3 := (rl_nums hR).2.2.2.symm.trans hn3
  have hr3 := ir_p0_3 hI hP
  rw [hn3] at hr3
  have hNimg := rl_img hR
  have hNwk := rl_wk hR
  have h_1 := ir_3_4 hI
  have hIw := rl_iw hR
  refine q_aload_n c_296_454 rfl ?_
  have h_2 := ir_3_3 hI
  refine v_cv c_296_455 km_9_151 rfl rfl (Nat.le_of_ble_eq_true rfl) ⟨⟨rfl, rfl⟩, Nat.le_of_ble_eq_true rfl, rfl⟩ (Nat.le_of_ble_eq_true rfl) (Nat.le_of_ble_eq_true rfl) (s_139 hI (fun c_3 y_6 hI_4 hF_5 hy_6 h_7 => (bk_inl ?_)))
  have h_8 := ir_3_3 hI_4
  refine q_pop c_296_458 rfl (q_aload_n c_296_459 rfl ?_)
  have h_9 := ir_41_35 hI
  have kn_10 : Hid (c_3 41 35 = c 41 35) := hF_5 41 35 qn_42c22a4f3
  have h_11 : c_3 41 35 = c 41 35 := (hid kn_10)
  refine v_cv c_296_460 km_9_154 rfl rfl (Nat.le_of_ble_eq_true rfl) ⟨⟨rfl, rfl⟩, Nat.le_of_ble_eq_true rfl, rfl⟩ (Nat.le_of_ble_eq_true rfl) (Nat.le_of_ble_eq_true rfl) (s_208 hI_4 (fun c_12 y_15 hI_13 hF_14 hy_15 h_16 => (bk_inl ?_)))
  have h_17 := ir_41_35 hI_13
  refine q_pop c_296_463 rfl (q_goto (t := 1816) c_296_464 rfl (Wp_ls [(4, vi (i0 : Int)), (3, .ref 67), (2, .ref 41), (1, .ref 0), (0, .ref a_SC)] (lsub_cons rfl (lsub_cons rfl (lsub_cons rfl (lsub_cons rfl (lsub_cons rfl lsub_nil))))) ?_))
  have h_18 := ir_1_3 hI
  have kn_19 : Hid (c_3 1 3 = c 1 3) := hF_5 1 3 qn_6c6a5b112
  have kn_20 : Hid (c_12 1 3 = c 1 3) := (hF_14 1 3 qn_e809d71be).trans (hid kn_19)
  have h_21 : c_12 1 3 = c 1 3 := (hid kn_20)
  have h_22 := ir_41_2 hI
  have kn_23 : Hid (c_3 41 2 = c 41 2) := hF_5 41 2 qn_42c22a4f3
  have kn_24 : Hid (c_12 41 2 = c 41 2) := (hF_14 41 2 qn_a0e956850).trans (hid kn_23)
  have h_25 : c_12 41 2 = c 41 2 := (hid kn_24)
  have kn_26 : Hid (c_3 P 0 = n0) := (hF_5 P 0 (qn_6b590954a hP)).trans (hn0)
  have kn_27 : Hid (c_12 P 0 = n0) := (hF_14 P 0 (qn_1f11d8d5e hP)).trans (hid kn_26)
  have h_28 : c_12 P 0 = n0 := (hid kn_27)
  have kn_29 : Hid (c_3 41 20 = n0) := (hF_5 41 20 qn_42c22a4f3).trans (hm0)
  have kn_30 : Hid (c_12 41 20 = n0) := (hF_14 41 20 qn_f052b872f).trans (hid kn_29)
  have h_31 : c_12 41 20 = n0 := (hid kn_30)
  have kn_32 : Hid (c_3 P 1 = n1) := (hF_5 P 1 (qn_6b590954a hP)).trans (hn1)
  have kn_33 : Hid (c_12 P 1 = n1) := (hF_14 P 1 (qn_1f11d8d5e hP)).trans (hid kn_32)
  have h_34 : c_12 P 1 = n1 := (hid kn_33)
  have kn_35 : Hid (c_3 41 21 = n1) := (hF_5 41 21 qn_42c22a4f3).trans (hm1)
  have kn_36 : Hid (c_12 41 21 = n1) := (hF_14 41 21 qn_2b743be81).trans (hid kn_35)
  have h_37 : c_12 41 21 = n1 := (hid kn_36)
  have kn_38 : Hid (c_3 P 2 = n2) := (hF_5 P 2 (qn_6b590954a hP)).trans (hn2)
  have kn_39 : Hid (c_12 P 2 = n2) := (hF_14 P 2 (qn_1f11d8d5e hP)).trans (hid kn_38)
  have h_40 : c_12 P 2 = n2 := (hid kn_39)
  have kn_41 : Hid (c_3 41 22 = n2) := (hF_5 41 22 qn_42c22a4f3).trans (hm2)
  have kn_42 : Hid (c_12 41 22 = n2) := (hF_14 41 22 qn_447ab7c5f).trans (hid kn_41)
  have h_43 : c_12 41 22 = n2 := (hid kn_42)
  have kn_44 : Hid (c_3 P 3 = n3) := (hF_5 P 3 (qn_6b590954a hP)).trans (hn3)
  have kn_45 : Hid (c_12 P 3 = n3) := (hF_14 P 3 (qn_1f11d8d5e hP)).trans (hid kn_44)
  have h_46 : c_12 P 3 = n3 := (hid kn_45)
  have kn_47 : Hid (c_3 41 23 = n3) := (hF_5 41 23 qn_42c22a4f3).trans (hm3)
  have kn_48 : Hid (c_12 41 23 = n3) := (hF_14 41 23 qn_f6a0ac252).trans (hid kn_47)
  have h_49 : c_12 41 23 = n3 := (hid kn_48)
  have kn_50 : Hid (c_3 3 4 = c 3 4) := hF_5 3 4 qn_c9ddecc28
  have kn_51 : Hid (c_12 3 4 = c 3 4) := (hF_14 3 4 qn_e5b32c825).trans (hid kn_50)
  have h_52 : c_12 3 4 = c 3 4 := (hid kn_51)
  have h_53 := ir_41_52 hI
  have kn_54 : Hid (c_3 41 52 = c 41 52) := hF_5 41 52 qn_42c22a4f3
  have kn_55 : Hid (c_12 41 52 = c 41 52) := (hF_14 41 52 qn_be41875ab).trans (hid kn_54)
  have h_56 : c_12 41 52 = c 41 52 := (hid kn_55)
  have kn_57 : Hid (c_12 3 3 = c_3 3 3) := hF_14 3 3 qn_e5b32c825
  have h_58 : c_12 3 3 = c_3 3 3 := (hid kn_57)
  have h_59 : c_12 41 35 = c_12 41 35 := rfl
  have h_60 : c_12 3 4 = c 3 4 := (hid kn_51)
  exact K P Q c_12 0 (by decide) hI_13 ⟨by omega, ub_fr hU (fun j => (hF_14 2 j qn_f12bc0175).trans (hF_5 2 j qn_a6915fafb)) (fun j => (hF_14 43 j qn_8711c50f0).trans (hF_5 43 j qn_52f444696)), ⟨by omega, by omega, by omega, by omega⟩, by omega, by omega, iw_fr2 hIw (by omega) (fun j => (hF_14 6 j qn_a936f4de6).trans (hF_5 6 j qn_a85717703)) (fun j => (hF_14 66 j qn_b6b22f295).trans (hF_5 66 j qn_a8b739f8c))⟩

set_option maxRecDepth 100000 in
set_option maxHeartbeats 4000000 in
theorem o_8 {xs : Nat → Int32} {L i0 d nc ns P Q : Nat} {c : ME} {Z : AR → Prop} (hi : i0 + 8 ≤ L) (hL : L ≤ 100000) (hI : Iv 0 (-1) P Q c) (hR : Rq P c) (K : ∀ (P2 Q2 : Nat) (c2 : ME) (e : Nat), e ≤ 1 → Iv 0 (-1) P2 Q2 c2 → (Rq P2 c2) → Wp (a_scr L xs) (d + 90) 296 1816 [(4, vi (i0 : Int)), (3, .ref 67), (2, .ref 41), (1, .ref 0), (0, .ref a_SC)] [] (Wd P2 Q2 P2 P2 c2) (nc + e) (ns + 6 * e) Z) : Wp (a_scr L xs) (d + 90) 296 467 [(4, vi (i0 : Int)), (3, .ref 67), (2, .ref 41), (1, .ref 0), (0, .ref a_SC)] [] (Wd P Q P P c) nc ns Z := by
  obtain ⟨x1, hx1⟩ : ∃ z, (xs (i0 + 1)).toInt = z := ⟨_, rfl⟩
  have x1r := c_rng (xs (i0 + 1))
  rw [hx1] at x1r
  obtain ⟨x2, hx2⟩ : ∃ z, (xs (i0 + 2)).toInt = z := ⟨_, rfl⟩
  have x2r := c_rng (xs (i0 + 2))
  rw [hx2] at x2r
  obtain ⟨x3, hx3⟩ : ∃ z, (xs (i0 + 3)).toInt = z := ⟨_, rfl⟩
  have x3r := c_rng (xs (i0 + 3))
  rw [hx3] at x3r
  obtain ⟨x4, hx4⟩ : ∃ z, (xs (i0 + 4)).toInt = z := ⟨_, rfl⟩
  have x4r := c_rng (xs (i0 + 4))
  rw [hx4] at x4r
  obtain ⟨x5, hx5⟩ : ∃ z, (xs (i0 + 5)).toInt = z := ⟨_, rfl⟩
  have x5r := c_rng (xs (i0 + 5))
  rw [hx5] at x5r
  obtain ⟨x6, hx6⟩ : ∃ z, (xs (i0 + 6)).toInt = z := ⟨_, rfl⟩
  have x6r := c_rng (xs (i0 + 6))
  rw [hx6] at x6r
  obtain ⟨x7, hx7⟩ : ∃ z, (xs (i0 + 7)).toInt = z := ⟨_, rfl⟩
  have x7r := c_rng (xs (i0 + 7))
  rw [hx7] at x7r
  have hP := iv_P hI
  have hQ := iv_Q hI
  have hT := rl_t hR
  have hU := rl_u hR
  obtain ⟨n0, hn0⟩ : ∃ z, c P 0 = z := ⟨_, rfl⟩
  have hm0 : c 41 20 = n0 := (rl_nums hR).1.symm.trans hn0
  have hr0 := ir_p0_0 hI hP
  rw [hn0] at hr0
  obtain ⟨n1, hn1⟩ : ∃ z, c P 1 = z := ⟨_, rfl⟩
  have hm1 : c 41 21 = n1 := (rl_nums hR).2.1.symm.trans hn1
  have hr1 := ir_p0_1 hI hP
  rw [hn1] at hr1
  obtain ⟨n2, hn2⟩ : ∃ z, c P 2 = z := ⟨_, rfl⟩
  have hm2 : c 41 22 = n2 := (rl_nums hR).2.2.1.symm.trans hn2
  have hr2 := ir_p0_2 hI hP
  rw [hn2] at hr2
  obtain ⟨n3, hn3⟩ : ∃ z, c P 3 = z := ⟨_, rfl⟩
  have hm3 : c 41 23 = n3 := (rl_nums hR).2.2.2.symm.trans hn3
  have hr3 := ir_p0_3 hI hP
  rw [hn3] at hr3
  have hNimg := rl_img hR
  have hNwk := rl_wk hR
  have h_1 := ir_3_4 hI
  have hIw := rl_iw hR
  refine q_aload_n c_296_467 rfl (q_aload_n c_296_468 rfl (q_iload c_296_469 rfl (q_iconst c_296_471 (v_iadd (v := (i0 : Int) + 1) c_296_472 rfl (v_scr (j := i0 + 1) c_296_473 (by omega) (by omega) hL hx1 (q_aload_n c_296_474 rfl (q_call c_296_475 rfl rfl rfl ?_)))))))
  refine q_aload_n c_268_0 rfl (q_iconst c_268_1 (q_aload_n c_268_2 rfl (q_iload_n c_268_3 rfl ?_)))
  refine v_cv c_268_4 km_9_27 rfl rfl (Nat.le_of_ble_eq_true rfl) ⟨⟨rfl, rfl⟩, Nat.le_of_ble_eq_true rfl, rfl⟩ (Nat.le_of_ble_eq_true rfl) (Nat.le_of_ble_eq_true rfl) (s_90 (a1 := x1) hI (show (-2147483648) ≤ x1 ∧ x1 ≤ 2147483647 from ⟨by omega, by omega⟩) (fun c_2 hI_3 hF_4 => ?_) (fun c_5 y_8 hI_6 hF_7 hy_8 => ?_))
  · skip
    refine bk_thr (z := Int32.ofInt 1) rfl ⟨_, _, rfl⟩ rfl (bk_inl (q_istore c_296_478 (Nat.le_of_ble_eq_true rfl) (q_aload_n c_296_480 rfl (q_aload_n c_296_481 rfl (q_iload c_296_482 rfl (q_iconst c_296_484 (v_iadd (v := (i0 : Int) + 1) c_296_485 rfl ?_)))))))
    refine v_scr (j := i0 + 1) c_296_486 (by omega) (by omega) hL hx1 (v_cv c_296_487 km_9_157 rfl rfl (Nat.le_of_ble_eq_true rfl) ⟨⟨rfl, rfl⟩, Nat.le_of_ble_eq_true rfl, rfl⟩ (Nat.le_of_ble_eq_true rfl) (Nat.le_of_ble_eq_true rfl) (s_211 (a1 := x1) hI_3 (show (-2147483648) ≤ x1 ∧ x1 ≤ 2147483647 from ⟨by omega, by omega⟩) (fun c_9 y_12 hI_10 hF_11 hy_12 => (bk_inl (q_istore c_296_490 (Nat.le_of_ble_eq_true rfl) (q_goto (t := 1816) c_296_492 rfl (Wp_ls [(4, vi (i0 : Int)), (3, .ref 67), (2, .ref 41), (1, .ref 0), (0, .ref a_SC)] (lsub_cons rfl (lsub_cons rfl (lsub_cons rfl (lsub_cons rfl (lsub_cons rfl lsub_nil))))) ?_)))))))
    have h_13 := ir_1_3 hI
    have kn_14 : Hid (c_2 1 3 = c 1 3) := hF_4 1 3 (fun h => absurd h.1 (nn rfl))
    have kn_15 : Hid (c_9 1 3 = c 1 3) := (hF_11 1 3 qn_39cd18c3e).trans (hid kn_14)
    have h_16 : c_9 1 3 = c 1 3 := (hid kn_15)
    have h_17 := ir_41_2 hI
    have kn_18 : Hid (c_2 41 2 = c 41 2) := hF_4 41 2 (fun h => absurd h.1 (nn rfl))
    have kn_19 : Hid (c_9 41 2 = c 41 2) := (hF_11 41 2 qn_53bdb2099).trans (hid kn_18)
    have h_20 : c_9 41 2 = c 41 2 := (hid kn_19)
    have kn_21 : Hid (c_2 P 0 = n0) := (hF_4 P 0 (fun h => absurd h.1 (np0 hP rfl))).trans (hn0)
    have kn_22 : Hid (c_9 P 0 = n0) := (hF_11 P 0 (qn_857752076 hP)).trans (hid kn_21)
    have h_23 : c_9 P 0 = n0 := (hid kn_22)
    have kn_24 : Hid (c_2 41 20 = n0) := (hF_4 41 20 (fun h => absurd h.1 (nn rfl))).trans (hm0)
    have kn_25 : Hid (c_9 41 20 = n0) := (hF_11 41 20 qn_110b29ed6).trans (hid kn_24)
    have h_26 : c_9 41 20 = n0 := (hid kn_25)
    have kn_27 : Hid (c_2 P 1 = n1) := (hF_4 P 1 (fun h => absurd h.1 (np0 hP rfl))).trans (hn1)
    have kn_28 : Hid (c_9 P 1 = n1) := (hF_11 P 1 (qn_857752076 hP)).trans (hid kn_27)
    have h_29 : c_9 P 1 = n1 := (hid kn_28)
    have kn_30 : Hid (c_2 41 21 = n1) := (hF_4 41 21 (fun h => absurd h.1 (nn rfl))).trans (hm1)
    have kn_31 : Hid (c_9 41 21 = n1) := (hF_11 41 21 qn_561064c41).trans (hid kn_30)
    have h_32 : c_9 41 21 = n1 := (hid kn_31)
    have kn_33 : Hid (c_2 P 2 = n2) := (hF_4 P 2 (fun h => absurd h.1 (np0 hP rfl))).trans (hn2)
    have kn_34 : Hid (c_9 P 2 = n2) := (hF_11 P 2 (qn_857752076 hP)).trans (hid kn_33)
    have h_35 : c_9 P 2 = n2 := (hid kn_34)
    have kn_36 : Hid (c_2 41 22 = n2) := (hF_4 41 22 (fun h => absurd h.1 (nn rfl))).trans (hm2)
    have kn_37 : Hid (c_9 41 22 = n2) := (hF_11 41 22 qn_1a460b46b).trans (hid kn_36)
    have h_38 : c_9 41 22 = n2 := (hid kn_37)
    have kn_39 : Hid (c_2 P 3 = n3) := (hF_4 P 3 (fun h => absurd h.1 (np0 hP rfl))).trans (hn3)
    have kn_40 : Hid (c_9 P 3 = n3) := (hF_11 P 3 (qn_857752076 hP)).trans (hid kn_39)
    have h_41 : c_9 P 3 = n3 := (hid kn_40)
    have kn_42 : Hid (c_2 41 23 = n3) := (hF_4 41 23 (fun h => absurd h.1 (nn rfl))).trans (hm3)
    have kn_43 : Hid (c_9 41 23 = n3) := (hF_11 41 23 qn_b79f282cd).trans (hid kn_42)
    have h_44 : c_9 41 23 = n3 := (hid kn_43)
    have kn_45 : Hid (c_2 3 4 = c 3 4) := hF_4 3 4 (fun h => absurd h.1 (nn rfl))
    have kn_46 : Hid (c_9 3 4 = c 3 4) := (hF_11 3 4 qn_bf2303cc8).trans (hid kn_45)
    have h_47 : c_9 3 4 = c 3 4 := (hid kn_46)
    have h_48 := ir_41_52 hI
    have kn_49 : Hid (c_2 41 52 = c 41 52) := hF_4 41 52 (fun h => absurd h.1 (nn rfl))
    have kn_50 : Hid (c_9 41 52 = c 41 52) := (hF_11 41 52 qn_90835161a).trans (hid kn_49)
    have h_51 : c_9 41 52 = c 41 52 := (hid kn_50)
    have h_52 := ir_3_3 hI
    have kn_53 : Hid (c_2 3 3 = c 3 3) := hF_4 3 3 (fun h => absurd h.1 (nn rfl))
    have kn_54 : Hid (c_9 3 3 = c 3 3) := (hF_11 3 3 qn_bf2303cc8).trans (hid kn_53)
    have h_55 : c_9 3 3 = c 3 3 := (hid kn_54)
    have h_56 := ir_41_35 hI
    have kn_57 : Hid (c_2 41 35 = c 41 35) := hF_4 41 35 (fun h => absurd h.1 (nn rfl))
    have kn_58 : Hid (c_9 41 35 = c 41 35) := (hF_11 41 35 qn_732a91ea5).trans (hid kn_57)
    have h_59 : c_9 41 35 = c 41 35 := (hid kn_58)
    have h_60 : c_9 3 4 = c 3 4 := (hid kn_46)
    exact K P Q c_9 1 (by decide) hI_10 ⟨by omega, ub_fr hU (fun j => (hF_11 2 j qn_2ad67e194).trans (hF_4 2 j (fun h => absurd h.1 (nn rfl)))) (fun j => (hF_11 43 j qn_1520ff5e3).trans (hF_4 43 j (fun h => absurd h.1 (nn rfl)))), ⟨by omega, by omega, by omega, by omega⟩, by omega, by omega, iw_fr2 hIw (by omega) (fun j => (hF_11 6 j qn_e1050858a).trans (hF_4 6 j (fun h => absurd h.1 (nn rfl)))) (fun j => (hF_11 66 j qn_5616dd9ce).trans (hF_4 66 j (fun h => absurd h.1 (nn rfl))))⟩
  refine bk_inl (v_i2l c_268_7 (by omega) (v_ls c_268_8 rfl (by decide) (by decide) (by decide) (q_goto (t := 15) c_268_9 rfl (q_iconst c_268_15 (q_iret c_268_16 rfl (bk_inl (q_istore c_296_478 (Nat.le_of_ble_eq_true rfl) ?_)))))))
  refine q_aload_n c_296_480 rfl (q_aload_n c_296_481 rfl (q_iload c_296_482 rfl (q_iconst c_296_484 (v_iadd (v := (i0 : Int) + 1) c_296_485 rfl (v_scr (j := i0 + 1) c_296_486 (by omega) (by omega) hL hx1 ?_)))))
  have hI_61 := iw_lx (a := 67) (j := 0) (v := y_8) hI_6 (by omega)
  refine v_cv c_296_487 km_9_157 rfl rfl (Nat.le_of_ble_eq_true rfl) ⟨⟨rfl, rfl⟩, Nat.le_of_ble_eq_true rfl, rfl⟩ (Nat.le_of_ble_eq_true rfl) (Nat.le_of_ble_eq_true rfl) (s_211 (a1 := x1) hI_61 (show (-2147483648) ≤ x1 ∧ x1 ≤ 2147483647 from ⟨by omega, by omega⟩) (fun c_62 y_65 hI_63 hF_64 hy_65 => (bk_inl (q_istore c_296_490 (Nat.le_of_ble_eq_true rfl) (q_goto (t := 1816) c_296_492 rfl (Wp_ls [(4, vi (i0 : Int)), (3, .ref 67), (2, .ref 41), (1, .ref 0), (0, .ref a_SC)] (lsub_cons rfl (lsub_cons rfl (lsub_cons rfl (lsub_cons rfl (lsub_cons rfl lsub_nil))))) ?_))))))
  have h_66 := ir_1_3 hI
  have kn_67 : Hid (c_5 1 3 = c 1 3) := hF_7 1 3 (fun h => absurd h.1 (nn rfl))
  have kn_68 : Hid (c_62 1 3 = c 1 3) := (hF_64 1 3 qn_39cd18c3e).trans ((up_c (nn rfl)).trans (hid kn_67))
  have h_69 : c_62 1 3 = c 1 3 := (hid kn_68)
  have h_70 := ir_41_2 hI
  have kn_71 : Hid (c_5 41 2 = c 41 2) := hF_7 41 2 (fun h => absurd h.1 (nn rfl))
  have kn_72 : Hid (c_62 41 2 = c 41 2) := (hF_64 41 2 qn_53bdb2099).trans ((up_c (nn rfl)).trans (hid kn_71))
  have h_73 : c_62 41 2 = c 41 2 := (hid kn_72)
  have kn_74 : Hid (c_5 P 0 = n0) := (hF_7 P 0 (fun h => absurd h.1 (np0 hP rfl))).trans (hn0)
  have kn_75 : Hid (c_62 P 0 = n0) := (hF_64 P 0 (qn_857752076 hP)).trans ((up_c (np0 hP rfl)).trans (hid kn_74))
  have h_76 : c_62 P 0 = n0 := (hid kn_75)
  have kn_77 : Hid (c_5 41 20 = n0) := (hF_7 41 20 (fun h => absurd h.1 (nn rfl))).trans (hm0)
  have kn_78 : Hid (c_62 41 20 = n0) := (hF_64 41 20 qn_110b29ed6).trans ((up_c (nn rfl)).trans (hid kn_77))
  have h_79 : c_62 41 20 = n0 := (hid kn_78)
  have kn_80 : Hid (c_5 P 1 = n1) := (hF_7 P 1 (fun h => absurd h.1 (np0 hP rfl))).trans (hn1)
  have kn_81 : Hid (c_62 P 1 = n1) := (hF_64 P 1 (qn_857752076 hP)).trans ((up_c (np0 hP rfl)).trans (hid kn_80))
  have h_82 : c_62 P 1 = n1 := (hid kn_81)
  have kn_83 : Hid (c_5 41 21 = n1) := (hF_7 41 21 (fun h => absurd h.1 (nn rfl))).trans (hm1)
  have kn_84 : Hid (c_62 41 21 = n1) := (hF_64 41 21 qn_561064c41).trans ((up_c (nn rfl)).trans (hid kn_83))
  have h_85 : c_62 41 21 = n1 := (hid kn_84)
  have kn_86 : Hid (c_5 P 2 = n2) := (hF_7 P 2 (fun h => absurd h.1 (np0 hP rfl))).trans (hn2)
  have kn_87 : Hid (c_62 P 2 = n2) := (hF_64 P 2 (qn_857752076 hP)).trans ((up_c (np0 hP rfl)).trans (hid kn_86))
  have h_88 : c_62 P 2 = n2 := (hid kn_87)
  have kn_89 : Hid (c_5 41 22 = n2) := (hF_7 41 22 (fun h => absurd h.1 (nn rfl))).trans (hm2)
  have kn_90 : Hid (c_62 41 22 = n2) := (hF_64 41 22 qn_1a460b46b).trans ((up_c (nn rfl)).trans (hid kn_89))
  have h_91 : c_62 41 22 = n2 := (hid kn_90)
  have kn_92 : Hid (c_5 P 3 = n3) := (hF_7 P 3 (fun h => absurd h.1 (np0 hP rfl))).trans (hn3)
  have kn_93 : Hid (c_62 P 3 = n3) := (hF_64 P 3 (qn_857752076 hP)).trans ((up_c (np0 hP rfl)).trans (hid kn_92))
  have h_94 : c_62 P 3 = n3 := (hid kn_93)
  have kn_95 : Hid (c_5 41 23 = n3) := (hF_7 41 23 (fun h => absurd h.1 (nn rfl))).trans (hm3)
  have kn_96 : Hid (c_62 41 23 = n3) := (hF_64 41 23 qn_b79f282cd).trans ((up_c (nn rfl)).trans (hid kn_95))
  have h_97 : c_62 41 23 = n3 := (hid kn_96)
  have kn_98 : Hid (c_5 3 4 = c 3 4) := hF_7 3 4 (fun h => absurd h.1 (nn rfl))
  have kn_99 : Hid (c_62 3 4 = c 3 4) := (hF_64 3 4 qn_bf2303cc8).trans ((up_c (nn rfl)).trans (hid kn_98))
  have h_100 : c_62 3 4 = c 3 4 := (hid kn_99)
  have h_101 := ir_41_52 hI
  have kn_102 : Hid (c_5 41 52 = c 41 52) := hF_7 41 52 (fun h => absurd h.1 (nn rfl))
  have kn_103 : Hid (c_62 41 52 = c 41 52) := (hF_64 41 52 qn_90835161a).trans ((up_c (nn rfl)).trans (hid kn_102))
  have h_104 : c_62 41 52 = c 41 52 := (hid kn_103)
  have h_105 := ir_3_3 hI
  have kn_106 : Hid (c_5 3 3 = c 3 3) := hF_7 3 3 (fun h => absurd h.1 (nn rfl))
  have kn_107 : Hid (c_62 3 3 = c 3 3) := (hF_64 3 3 qn_bf2303cc8).trans ((up_c (nn rfl)).trans (hid kn_106))
  have h_108 : c_62 3 3 = c 3 3 := (hid kn_107)
  have h_109 := ir_41_35 hI
  have kn_110 : Hid (c_5 41 35 = c 41 35) := hF_7 41 35 (fun h => absurd h.1 (nn rfl))
  have kn_111 : Hid (c_62 41 35 = c 41 35) := (hF_64 41 35 qn_732a91ea5).trans ((up_c (nn rfl)).trans (hid kn_110))
  have h_112 : c_62 41 35 = c 41 35 := (hid kn_111)
  have h_113 : c_62 3 4 = c 3 4 := (hid kn_99)
  exact K P Q c_62 0 (by decide) hI_63 ⟨by omega, ub_fr hU (fun j => (hF_64 2 j qn_2ad67e194).trans ((up_c (nn rfl)).trans (hF_7 2 j (fun h => absurd h.1 (nn rfl))))) (fun j => (hF_64 43 j qn_1520ff5e3).trans ((up_c (nn rfl)).trans (hF_7 43 j (fun h => absurd h.1 (nn rfl))))), ⟨by omega, by omega, by omega, by omega⟩, by omega, by omega, iw_fr2 hIw (by omega) (fun j => (hF_64 6 j qn_e1050858a).trans ((up_c (nn rfl)).trans (hF_7 6 j (fun h => absurd h.1 (nn rfl))))) (fun j => (hF_64 66 j qn_5616dd9ce).trans ((up_c (nn rfl)).trans (hF_7 66 j (fun h => absurd h.1 (nn rfl)))))⟩

set_option maxRecDepth 100000 in
set_option maxHeartbeats 4000000 in
theorem o_9 {xs : Nat → Int32} {L i0 d nc ns P Q : Nat} {c : ME} {Z : AR → Prop} (hi : i0 + 8 ≤ L) (hL : L ≤ 100000) (hI : Iv 0 (-1) P Q c) (hR : Rq P c) (K : ∀ (P2 Q2 : Nat) (c2 : ME) (e : Nat), e ≤ 1 → Iv 0 (-1) P2 Q2 c2 → (Rq P2 c2) → Wp (a_scr L xs) (d + 90) 296 1816 [(4, vi (i0 : Int)), (3, .ref 67), (2, .ref 41), (1, .ref 0), (0, .ref a_SC)] [] (Wd P2 Q2 P2 P2 c2) (nc + e) (ns + 6 * e) Z) : Wp (a_scr L xs) (d + 90) 296 495 [(4, vi (i0 : Int)), (3, .ref 67), (2, .ref 41), (1, .ref 0), (0, .ref a_SC)] [] (Wd P Q P P c) nc ns Z := by
  obtain ⟨x1, hx1⟩ : ∃ z, (xs (i0 + 1)).toInt = z := ⟨_, rfl⟩
  have x1r := c_rng (xs (i0 + 1))
  rw [hx1] at x1r
  obtain ⟨x2, hx2⟩ : ∃ z, (xs (i0 + 2)).toInt = z := ⟨_, rfl⟩
  have x2r := c_rng (xs (i0 + 2))
  rw [hx2] at x2r
  obtain ⟨x3, hx3⟩ : ∃ z, (xs (i0 + 3)).toInt = z := ⟨_, rfl⟩
  have x3r := c_rng (xs (i0 + 3))
  rw [hx3] at x3r
  obtain ⟨x4, hx4⟩ : ∃ z, (xs (i0 + 4)).toInt = z := ⟨_, rfl⟩
  have x4r := c_rng (xs (i0 + 4))
  rw [hx4] at x4r
  obtain ⟨x5, hx5⟩ : ∃ z, (xs (i0 + 5)).toInt = z := ⟨_, rfl⟩
  have x5r := c_rng (xs (i0 + 5))
  rw [hx5] at x5r
  obtain ⟨x6, hx6⟩ : ∃ z, (xs (i0 + 6)).toInt = z := ⟨_, rfl⟩
  have x6r := c_rng (xs (i0 + 6))
  rw [hx6] at x6r
  obtain ⟨x7, hx7⟩ : ∃ z, (xs (i0 + 7)).toInt = z := ⟨_, rfl⟩
  have x7r := c_rng (xs (i0 + 7))
  rw [hx7] at x7r
  have hP := iv_P hI
  have hQ := iv_Q hI
  have hT := rl_t hR
  have hU := rl_u hR
  obtain ⟨n0, hn0⟩ : ∃ z, c P 0 = z := ⟨_, rfl⟩
  have hm0 : c 41 20 = n0 := (rl_nums hR).1.symm.trans hn0
  have hr0 := ir_p0_0 hI hP
  rw [hn0] at hr0
  obtain ⟨n1, hn1⟩ : ∃ z, c P 1 = z := ⟨_, rfl⟩
  have hm1 : c 41 21 = n1 := (rl_nums hR).2.1.symm.trans hn1
  have hr1 := ir_p0_1 hI hP
  rw [hn1] at hr1
  obtain ⟨n2, hn2⟩ : ∃ z, c P 2 = z := ⟨_, rfl⟩
  have hm2 : c 41 22 = n2 := (rl_nums hR).2.2.1.symm.trans hn2
  have hr2 := ir_p0_2 hI hP
  rw [hn2] at hr2
  obtain ⟨n3, hn3⟩ : ∃ z, c P 3 = z := ⟨_, rfl⟩
  have hm3 : c 41 23 = n3 := (rl_nums hR).2.2.2.symm.trans hn3
  have hr3 := ir_p0_3 hI hP
  rw [hn3] at hr3
  have hNimg := rl_img hR
  have hNwk := rl_wk hR
  have h_1 := ir_3_4 hI
  have hIw := rl_iw hR
  refine q_aload_n c_296_495 rfl (q_aload_n c_296_496 rfl (q_iload c_296_497 rfl (q_iconst c_296_499 (v_iadd (v := (i0 : Int) + 1) c_296_500 rfl (v_scr (j := i0 + 1) c_296_501 (by omega) (by omega) hL hx1 (q_aload_n c_296_502 rfl (q_iload c_296_503 rfl ?_)))))))
  refine q_iconst c_296_505 (v_iadd (v := (i0 : Int) + 2) c_296_506 rfl (v_scr (j := i0 + 2) c_296_507 (by omega) (by omega) hL hx2 (q_aload_n c_296_508 rfl (q_call c_296_509 rfl rfl rfl (q_aload_n c_269_0 rfl (q_iconst c_269_1 (q_aload_n c_269_2 rfl ?_)))))))
  refine q_iload_n c_269_3 rfl (q_iload_n c_269_4 rfl ?_)
  refine v_cv c_269_5 km_9_30 rfl rfl (Nat.le_of_ble_eq_true rfl) ⟨⟨rfl, rfl⟩, Nat.le_of_ble_eq_true rfl, rfl⟩ (Nat.le_of_ble_eq_true rfl) (Nat.le_of_ble_eq_true rfl) (s_93 (a1 := x1) (a2 := x2) hI (show (-2147483648) ≤ x1 ∧ x1 ≤ 2147483647 from ⟨by omega, by omega⟩) (show (-2147483648) ≤ x2 ∧ x2 ≤ 2147483647 from ⟨by omega, by omega⟩) (fun c_2 hI_3 hF_4 => ?_) (fun c_5 hI_6 hF_7 => ?_) (fun c_8 y_11 hI_9 hF_10 hy_11 => ?_))
  · skip
    refine bk_thr (z := Int32.ofInt 1) rfl ⟨_, _, rfl⟩ rfl (bk_inl (q_istore c_296_512 (Nat.le_of_ble_eq_true rfl) (q_aload_n c_296_514 rfl (q_aload_n c_296_515 rfl (q_iload c_296_516 rfl (q_iconst c_296_518 (v_iadd (v := (i0 : Int) + 1) c_296_519 rfl ?_)))))))
    refine v_scr (j := i0 + 1) c_296_520 (by omega) (by omega) hL hx1 (q_aload_n c_296_521 rfl (q_iload c_296_522 rfl (q_iconst c_296_524 (v_iadd (v := (i0 : Int) + 2) c_296_525 rfl (v_scr (j := i0 + 2) c_296_526 (by omega) (by omega) hL hx2 (v_cv c_296_527 km_9_161 rfl rfl (Nat.le_of_ble_eq_true rfl) ⟨⟨rfl, rfl⟩, Nat.le_of_ble_eq_true rfl, rfl⟩ (Nat.le_of_ble_eq_true rfl) (Nat.le_of_ble_eq_true rfl) (s_213 (a1 := x1) (a2 := x2) hI_3 (show (-2147483648) ≤ x1 ∧ x1 ≤ 2147483647 from ⟨by omega, by omega⟩) (show (-2147483648) ≤ x2 ∧ x2 ≤ 2147483647 from ⟨by omega, by omega⟩) (fun c_12 y_15 hI_13 hF_14 hy_15 => (bk_inl ?_)))))))))
    refine q_istore c_296_530 (Nat.le_of_ble_eq_true rfl) (q_goto (t := 1816) c_296_532 rfl (Wp_ls [(4, vi (i0 : Int)), (3, .ref 67), (2, .ref 41), (1, .ref 0), (0, .ref a_SC)] (lsub_cons rfl (lsub_cons rfl (lsub_cons rfl (lsub_cons rfl (lsub_cons rfl lsub_nil))))) ?_))
    have h_16 := ir_1_3 hI
    have kn_17 : Hid (c_2 1 3 = c 1 3) := hF_4 1 3 (fun q => q.elim (fun h => absurd h.1 (nn rfl)) (fun h => absurd h.1 (nn rfl)))
    have kn_18 : Hid (c_12 1 3 = c 1 3) := (hF_14 1 3 qn_39cd18c3e).trans (hid kn_17)
    have h_19 : c_12 1 3 = c 1 3 := (hid kn_18)
    have h_20 := ir_41_2 hI
    have kn_21 : Hid (c_2 41 2 = c 41 2) := hF_4 41 2 (fun q => q.elim (fun h => absurd h.1 (nn rfl)) (fun h => absurd h.1 (nn rfl)))
    have kn_22 : Hid (c_12 41 2 = c 41 2) := (hF_14 41 2 qn_53bdb2099).trans (hid kn_21)
    have h_23 : c_12 41 2 = c 41 2 := (hid kn_22)
    have kn_24 : Hid (c_2 P 0 = n0) := (hF_4 P 0 (qn_7ba88e57e hP)).trans (hn0)
    have kn_25 : Hid (c_12 P 0 = n0) := (hF_14 P 0 (qn_857752076 hP)).trans (hid kn_24)
    have h_26 : c_12 P 0 = n0 := (hid kn_25)
    have kn_27 : Hid (c_2 41 20 = n0) := (hF_4 41 20 (fun q => q.elim (fun h => absurd h.1 (nn rfl)) (fun h => absurd h.1 (nn rfl)))).trans (hm0)
    have kn_28 : Hid (c_12 41 20 = n0) := (hF_14 41 20 qn_110b29ed6).trans (hid kn_27)
    have h_29 : c_12 41 20 = n0 := (hid kn_28)
    have kn_30 : Hid (c_2 P 1 = n1) := (hF_4 P 1 (qn_7ba88e57e hP)).trans (hn1)
    have kn_31 : Hid (c_12 P 1 = n1) := (hF_14 P 1 (qn_857752076 hP)).trans (hid kn_30)
    have h_32 : c_12 P 1 = n1 := (hid kn_31)
    have kn_33 : Hid (c_2 41 21 = n1) := (hF_4 41 21 (fun q => q.elim (fun h => absurd h.1 (nn rfl)) (fun h => absurd h.1 (nn rfl)))).trans (hm1)
    have kn_34 : Hid (c_12 41 21 = n1) := (hF_14 41 21 qn_561064c41).trans (hid kn_33)
    have h_35 : c_12 41 21 = n1 := (hid kn_34)
    have kn_36 : Hid (c_2 P 2 = n2) := (hF_4 P 2 (qn_7ba88e57e hP)).trans (hn2)
    have kn_37 : Hid (c_12 P 2 = n2) := (hF_14 P 2 (qn_857752076 hP)).trans (hid kn_36)
    have h_38 : c_12 P 2 = n2 := (hid kn_37)
    have kn_39 : Hid (c_2 41 22 = n2) := (hF_4 41 22 (fun q => q.elim (fun h => absurd h.1 (nn rfl)) (fun h => absurd h.1 (nn rfl)))).trans (hm2)
    have kn_40 : Hid (c_12 41 22 = n2) := (hF_14 41 22 qn_1a460b46b).trans (hid kn_39)
    have h_41 : c_12 41 22 = n2 := (hid kn_40)
    have kn_42 : Hid (c_2 P 3 = n3) := (hF_4 P 3 (qn_7ba88e57e hP)).trans (hn3)
    have kn_43 : Hid (c_12 P 3 = n3) := (hF_14 P 3 (qn_857752076 hP)).trans (hid kn_42)
    have h_44 : c_12 P 3 = n3 := (hid kn_43)
    have kn_45 : Hid (c_2 41 23 = n3) := (hF_4 41 23 (fun q => q.elim (fun h => absurd h.1 (nn rfl)) (fun h => absurd h.1 (nn rfl)))).trans (hm3)
    have kn_46 : Hid (c_12 41 23 = n3) := (hF_14 41 23 qn_b79f282cd).trans (hid kn_45)
    have h_47 : c_12 41 23 = n3 := (hid kn_46)
    have kn_48 : Hid (c_2 3 4 = c 3 4) := hF_4 3 4 (fun q => q.elim (fun h => absurd h.1 (nn rfl)) (fun h => absurd h.1 (nn rfl)))
    have kn_49 : Hid (c_12 3 4 = c 3 4) := (hF_14 3 4 qn_bf2303cc8).trans (hid kn_48)
    have h_50 : c_12 3 4 = c 3 4 := (hid kn_49)
    have h_51 := ir_41_52 hI
    have kn_52 : Hid (c_2 41 52 = c 41 52) := hF_4 41 52 (fun q => q.elim (fun h => absurd h.1 (nn rfl)) (fun h => absurd h.1 (nn rfl)))
    have kn_53 : Hid (c_12 41 52 = c 41 52) := (hF_14 41 52 qn_90835161a).trans (hid kn_52)
    have h_54 : c_12 41 52 = c 41 52 := (hid kn_53)
    have h_55 := ir_3_3 hI
    have kn_56 : Hid (c_2 3 3 = c 3 3) := hF_4 3 3 (fun q => q.elim (fun h => absurd h.1 (nn rfl)) (fun h => absurd h.1 (nn rfl)))
    have kn_57 : Hid (c_12 3 3 = c 3 3) := (hF_14 3 3 qn_bf2303cc8).trans (hid kn_56)
    have h_58 : c_12 3 3 = c 3 3 := (hid kn_57)
    have h_59 := ir_41_35 hI
    have kn_60 : Hid (c_2 41 35 = c 41 35) := hF_4 41 35 (fun q => q.elim (fun h => absurd h.1 (nn rfl)) (fun h => absurd h.1 (nn rfl)))
    have kn_61 : Hid (c_12 41 35 = c 41 35) := (hF_14 41 35 qn_732a91ea5).trans (hid kn_60)
    have h_62 : c_12 41 35 = c 41 35 := (hid kn_61)
    have h_63 : c_12 3 4 = c 3 4 := (hid kn_49)
    exact K P Q c_12 1 (by decide) hI_13 ⟨by omega, ub_fr hU (fun j => (hF_14 2 j qn_2ad67e194).trans (hF_4 2 j (fun q => q.elim (fun h => absurd h.1 (nn rfl)) (fun h => absurd h.1 (nn rfl))))) (fun j => (hF_14 43 j qn_1520ff5e3).trans (hF_4 43 j (fun q => q.elim (fun h => absurd h.1 (nn rfl)) (fun h => absurd h.1 (nn rfl))))), ⟨by omega, by omega, by omega, by omega⟩, by omega, by omega, iw_fr2 hIw (by omega) (fun j => (hF_14 6 j qn_e1050858a).trans (hF_4 6 j (fun q => q.elim (fun h => absurd h.1 (nn rfl)) (fun h => absurd h.1 (nn rfl))))) (fun j => (hF_14 66 j qn_5616dd9ce).trans (hF_4 66 j (fun q => q.elim (fun h => absurd h.1 (nn rfl)) (fun h => absurd h.1 (nn rfl)))))⟩
  · skip
    refine bk_thr (z := Int32.ofInt 2) rfl ⟨_, _, rfl⟩ rfl (bk_inl (q_istore c_296_512 (Nat.le_of_ble_eq_true rfl) (q_aload_n c_296_514 rfl (q_aload_n c_296_515 rfl (q_iload c_296_516 rfl (q_iconst c_296_518 (v_iadd (v := (i0 : Int) + 1) c_296_519 rfl ?_)))))))
    refine v_scr (j := i0 + 1) c_296_520 (by omega) (by omega) hL hx1 (q_aload_n c_296_521 rfl (q_iload c_296_522 rfl (q_iconst c_296_524 (v_iadd (v := (i0 : Int) + 2) c_296_525 rfl (v_scr (j := i0 + 2) c_296_526 (by omega) (by omega) hL hx2 (v_cv c_296_527 km_9_161 rfl rfl (Nat.le_of_ble_eq_true rfl) ⟨⟨rfl, rfl⟩, Nat.le_of_ble_eq_true rfl, rfl⟩ (Nat.le_of_ble_eq_true rfl) (Nat.le_of_ble_eq_true rfl) (s_213 (a1 := x1) (a2 := x2) hI_6 (show (-2147483648) ≤ x1 ∧ x1 ≤ 2147483647 from ⟨by omega, by omega⟩) (show (-2147483648) ≤ x2 ∧ x2 ≤ 2147483647 from ⟨by omega, by omega⟩) (fun c_64 y_67 hI_65 hF_66 hy_67 => (bk_inl ?_)))))))))
    refine q_istore c_296_530 (Nat.le_of_ble_eq_true rfl) (q_goto (t := 1816) c_296_532 rfl (Wp_ls [(4, vi (i0 : Int)), (3, .ref 67), (2, .ref 41), (1, .ref 0), (0, .ref a_SC)] (lsub_cons rfl (lsub_cons rfl (lsub_cons rfl (lsub_cons rfl (lsub_cons rfl lsub_nil))))) ?_))
    have h_68 := ir_1_3 hI
    have kn_69 : Hid (c_5 1 3 = c 1 3) := hF_7 1 3 (fun q => q.elim (fun h => absurd h.1 (nn rfl)) (fun h => absurd h.1 (nn rfl)))
    have kn_70 : Hid (c_64 1 3 = c 1 3) := (hF_66 1 3 qn_39cd18c3e).trans (hid kn_69)
    have h_71 : c_64 1 3 = c 1 3 := (hid kn_70)
    have h_72 := ir_41_2 hI
    have kn_73 : Hid (c_5 41 2 = c 41 2) := hF_7 41 2 (fun q => q.elim (fun h => absurd h.1 (nn rfl)) (fun h => absurd h.1 (nn rfl)))
    have kn_74 : Hid (c_64 41 2 = c 41 2) := (hF_66 41 2 qn_53bdb2099).trans (hid kn_73)
    have h_75 : c_64 41 2 = c 41 2 := (hid kn_74)
    have kn_76 : Hid (c_5 P 0 = n0) := (hF_7 P 0 (qn_7ba88e57e hP)).trans (hn0)
    have kn_77 : Hid (c_64 P 0 = n0) := (hF_66 P 0 (qn_857752076 hP)).trans (hid kn_76)
    have h_78 : c_64 P 0 = n0 := (hid kn_77)
    have kn_79 : Hid (c_5 41 20 = n0) := (hF_7 41 20 (fun q => q.elim (fun h => absurd h.1 (nn rfl)) (fun h => absurd h.1 (nn rfl)))).trans (hm0)
    have kn_80 : Hid (c_64 41 20 = n0) := (hF_66 41 20 qn_110b29ed6).trans (hid kn_79)
    have h_81 : c_64 41 20 = n0 := (hid kn_80)
    have kn_82 : Hid (c_5 P 1 = n1) := (hF_7 P 1 (qn_7ba88e57e hP)).trans (hn1)
    have kn_83 : Hid (c_64 P 1 = n1) := (hF_66 P 1 (qn_857752076 hP)).trans (hid kn_82)
    have h_84 : c_64 P 1 = n1 := (hid kn_83)
    have kn_85 : Hid (c_5 41 21 = n1) := (hF_7 41 21 (fun q => q.elim (fun h => absurd h.1 (nn rfl)) (fun h => absurd h.1 (nn rfl)))).trans (hm1)
    have kn_86 : Hid (c_64 41 21 = n1) := (hF_66 41 21 qn_561064c41).trans (hid kn_85)
    have h_87 : c_64 41 21 = n1 := (hid kn_86)
    have kn_88 : Hid (c_5 P 2 = n2) := (hF_7 P 2 (qn_7ba88e57e hP)).trans (hn2)
    have kn_89 : Hid (c_64 P 2 = n2) := (hF_66 P 2 (qn_857752076 hP)).trans (hid kn_88)
    have h_90 : c_64 P 2 = n2 := (hid kn_89)
    have kn_91 : Hid (c_5 41 22 = n2) := (hF_7 41 22 (fun q => q.elim (fun h => absurd h.1 (nn rfl)) (fun h => absurd h.1 (nn rfl)))).trans (hm2)
    have kn_92 : Hid (c_64 41 22 = n2) := (hF_66 41 22 qn_1a460b46b).trans (hid kn_91)
    have h_93 : c_64 41 22 = n2 := (hid kn_92)
    have kn_94 : Hid (c_5 P 3 = n3) := (hF_7 P 3 (qn_7ba88e57e hP)).trans (hn3)
    have kn_95 : Hid (c_64 P 3 = n3) := (hF_66 P 3 (qn_857752076 hP)).trans (hid kn_94)
    have h_96 : c_64 P 3 = n3 := (hid kn_95)
    have kn_97 : Hid (c_5 41 23 = n3) := (hF_7 41 23 (fun q => q.elim (fun h => absurd h.1 (nn rfl)) (fun h => absurd h.1 (nn rfl)))).trans (hm3)
    have kn_98 : Hid (c_64 41 23 = n3) := (hF_66 41 23 qn_b79f282cd).trans (hid kn_97)
    have h_99 : c_64 41 23 = n3 := (hid kn_98)
    have kn_100 : Hid (c_5 3 4 = c 3 4) := hF_7 3 4 (fun q => q.elim (fun h => absurd h.1 (nn rfl)) (fun h => absurd h.1 (nn rfl)))
    have kn_101 : Hid (c_64 3 4 = c 3 4) := (hF_66 3 4 qn_bf2303cc8).trans (hid kn_100)
    have h_102 : c_64 3 4 = c 3 4 := (hid kn_101)
    have h_103 := ir_41_52 hI
    have kn_104 : Hid (c_5 41 52 = c 41 52) := hF_7 41 52 (fun q => q.elim (fun h => absurd h.1 (nn rfl)) (fun h => absurd h.1 (nn rfl)))
    have kn_105 : Hid (c_64 41 52 = c 41 52) := (hF_66 41 52 qn_90835161a).trans (hid kn_104)
    have h_106 : c_64 41 52 = c 41 52 := (hid kn_105)
    have h_107 := ir_3_3 hI
    have kn_108 : Hid (c_5 3 3 = c 3 3) := hF_7 3 3 (fun q => q.elim (fun h => absurd h.1 (nn rfl)) (fun h => absurd h.1 (nn rfl)))
    have kn_109 : Hid (c_64 3 3 = c 3 3) := (hF_66 3 3 qn_bf2303cc8).trans (hid kn_108)
    have h_110 : c_64 3 3 = c 3 3 := (hid kn_109)
    have h_111 := ir_41_35 hI
    have kn_112 : Hid (c_5 41 35 = c 41 35) := hF_7 41 35 (fun q => q.elim (fun h => absurd h.1 (nn rfl)) (fun h => absurd h.1 (nn rfl)))
    have kn_113 : Hid (c_64 41 35 = c 41 35) := (hF_66 41 35 qn_732a91ea5).trans (hid kn_112)
    have h_114 : c_64 41 35 = c 41 35 := (hid kn_113)
    have h_115 : c_64 3 4 = c 3 4 := (hid kn_101)
    exact K P Q c_64 1 (by decide) hI_65 ⟨by omega, ub_fr hU (fun j => (hF_66 2 j qn_2ad67e194).trans (hF_7 2 j (fun q => q.elim (fun h => absurd h.1 (nn rfl)) (fun h => absurd h.1 (nn rfl))))) (fun j => (hF_66 43 j qn_1520ff5e3).trans (hF_7 43 j (fun q => q.elim (fun h => absurd h.1 (nn rfl)) (fun h => absurd h.1 (nn rfl))))), ⟨by omega, by omega, by omega, by omega⟩, by omega, by omega, iw_fr2 hIw (by omega) (fun j => (hF_66 6 j qn_e1050858a).trans (hF_7 6 j (fun q => q.elim (fun h => absurd h.1 (nn rfl)) (fun h => absurd h.1 (nn rfl))))) (fun j => (hF_66 66 j qn_5616dd9ce).trans (hF_7 66 j (fun q => q.elim (fun h => absurd h.1 (nn rfl)) (fun h => absurd h.1 (nn rfl)))))⟩
  refine bk_inl (v_i2l c_269_8 (by omega) (v_ls c_269_9 rfl (by decide) (by decide) (by decide) (q_goto (t := 21) c_269_10 rfl (q_iconst c_269_21 (q_iret c_269_22 rfl (bk_inl (q_istore c_296_512 (Nat.le_of_ble_eq_true rfl) ?_)))))))
  refine q_aload_n c_296_514 rfl (q_aload_n c_296_515 rfl (q_iload c_296_516 rfl (q_iconst c_296_518 (v_iadd (v := (i0 : Int) + 1) c_296_519 rfl (v_scr (j := i0 + 1) c_296_520 (by omega) (by omega) hL hx1 (q_aload_n c_296_521 rfl (q_iload c_296_522 rfl ?_)))))))
  refine q_iconst c_296_524 (v_iadd (v := (i0 : Int) + 2) c_296_525 rfl (v_scr (j := i0 + 2) c_296_526 (by omega) (by omega) hL hx2 ?_))
  have hI_116 := iw_lx (a := 67) (j := 0) (v := y_11) hI_9 (by omega)
  refine v_cv c_296_527 km_9_161 rfl rfl (Nat.le_of_ble_eq_true rfl) ⟨⟨rfl, rfl⟩, Nat.le_of_ble_eq_true rfl, rfl⟩ (Nat.le_of_ble_eq_true rfl) (Nat.le_of_ble_eq_true rfl) (s_213 (a1 := x1) (a2 := x2) hI_116 (show (-2147483648) ≤ x1 ∧ x1 ≤ 2147483647 from ⟨by omega, by omega⟩) (show (-2147483648) ≤ x2 ∧ x2 ≤ 2147483647 from ⟨by omega, by omega⟩) (fun c_117 y_120 hI_118 hF_119 hy_120 => (bk_inl (q_istore c_296_530 (Nat.le_of_ble_eq_true rfl) (q_goto (t := 1816) c_296_532 rfl (Wp_ls [(4, vi (i0 : Int)), (3, .ref 67), (2, .ref 41), (1, .ref 0), (0, .ref a_SC)] (lsub_cons rfl (lsub_cons rfl (lsub_cons rfl (lsub_cons rfl (lsub_cons rfl lsub_nil))))) ?_))))))
  have h_121 := ir_1_3 hI
  have kn_122 : Hid (c_8 1 3 = c 1 3) := hF_10 1 3 (fun q => q.elim (fun h => absurd h.1 (nn rfl)) (fun h => absurd h.1 (nn rfl)))
  have kn_123 : Hid (c_117 1 3 = c 1 3) := (hF_119 1 3 qn_39cd18c3e).trans ((up_c (nn rfl)).trans (hid kn_122))
  have h_124 : c_117 1 3 = c 1 3 := (hid kn_123)
  have h_125 := ir_41_2 hI
  have kn_126 : Hid (c_8 41 2 = c 41 2) := hF_10 41 2 (fun q => q.elim (fun h => absurd h.1 (nn rfl)) (fun h => absurd h.1 (nn rfl)))
  have kn_127 : Hid (c_117 41 2 = c 41 2) := (hF_119 41 2 qn_53bdb2099).trans ((up_c (nn rfl)).trans (hid kn_126))
  have h_128 : c_117 41 2 = c 41 2 := (hid kn_127)
  have kn_129 : Hid (c_8 P 0 = n0) := (hF_10 P 0 (qn_7ba88e57e hP)).trans (hn0)
  have kn_130 : Hid (c_117 P 0 = n0) := (hF_119 P 0 (qn_857752076 hP)).trans ((up_c (np0 hP rfl)).trans (hid kn_129))
  have h_131 : c_117 P 0 = n0 := (hid kn_130)
  have kn_132 : Hid (c_8 41 20 = n0) := (hF_10 41 20 (fun q => q.elim (fun h => absurd h.1 (nn rfl)) (fun h => absurd h.1 (nn rfl)))).trans (hm0)
  have kn_133 : Hid (c_117 41 20 = n0) := (hF_119 41 20 qn_110b29ed6).trans ((up_c (nn rfl)).trans (hid kn_132))
  have h_134 : c_117 41 20 = n0 := (hid kn_133)
  have kn_135 : Hid (c_8 P 1 = n1) := (hF_10 P 1 (qn_7ba88e57e hP)).trans (hn1)
  have kn_136 : Hid (c_117 P 1 = n1) := (hF_119 P 1 (qn_857752076 hP)).trans ((up_c (np0 hP rfl)).trans (hid kn_135))
  have h_137 : c_117 P 1 = n1 := (hid kn_136)
  have kn_138 : Hid (c_8 41 21 = n1) := (hF_10 41 21 (fun q => q.elim (fun h => absurd h.1 (nn rfl)) (fun h => absurd h.1 (nn rfl)))).trans (hm1)
  have kn_139 : Hid (c_117 41 21 = n1) := (hF_119 41 21 qn_561064c41).trans ((up_c (nn rfl)).trans (hid kn_138))
  have h_140 : c_117 41 21 = n1 := (hid kn_139)
  have kn_141 : Hid (c_8 P 2 = n2) := (hF_10 P 2 (qn_7ba88e57e hP)).trans (hn2)
  have kn_142 : Hid (c_117 P 2 = n2) := (hF_119 P 2 (qn_857752076 hP)).trans ((up_c (np0 hP rfl)).trans (hid kn_141))
  have h_143 : c_117 P 2 = n2 := (hid kn_142)
  have kn_144 : Hid (c_8 41 22 = n2) := (hF_10 41 22 (fun q => q.elim (fun h => absurd h.1 (nn rfl)) (fun h => absurd h.1 (nn rfl)))).trans (hm2)
  have kn_145 : Hid (c_117 41 22 = n2) := (hF_119 41 22 qn_1a460b46b).trans ((up_c (nn rfl)).trans (hid kn_144))
  have h_146 : c_117 41 22 = n2 := (hid kn_145)
  have kn_147 : Hid (c_8 P 3 = n3) := (hF_10 P 3 (qn_7ba88e57e hP)).trans (hn3)
  have kn_148 : Hid (c_117 P 3 = n3) := (hF_119 P 3 (qn_857752076 hP)).trans ((up_c (np0 hP rfl)).trans (hid kn_147))
  have h_149 : c_117 P 3 = n3 := (hid kn_148)
  have kn_150 : Hid (c_8 41 23 = n3) := (hF_10 41 23 (fun q => q.elim (fun h => absurd h.1 (nn rfl)) (fun h => absurd h.1 (nn rfl)))).trans (hm3)
  have kn_151 : Hid (c_117 41 23 = n3) := (hF_119 41 23 qn_b79f282cd).trans ((up_c (nn rfl)).trans (hid kn_150))
  have h_152 : c_117 41 23 = n3 := (hid kn_151)
  have kn_153 : Hid (c_8 3 4 = c 3 4) := hF_10 3 4 (fun q => q.elim (fun h => absurd h.1 (nn rfl)) (fun h => absurd h.1 (nn rfl)))
  have kn_154 : Hid (c_117 3 4 = c 3 4) := (hF_119 3 4 qn_bf2303cc8).trans ((up_c (nn rfl)).trans (hid kn_153))
  have h_155 : c_117 3 4 = c 3 4 := (hid kn_154)
  have h_156 := ir_41_52 hI
  have kn_157 : Hid (c_8 41 52 = c 41 52) := hF_10 41 52 (fun q => q.elim (fun h => absurd h.1 (nn rfl)) (fun h => absurd h.1 (nn rfl)))
  have kn_158 : Hid (c_117 41 52 = c 41 52) := (hF_119 41 52 qn_90835161a).trans ((up_c (nn rfl)).trans (hid kn_157))
  have h_159 : c_117 41 52 = c 41 52 := (hid kn_158)
  have h_160 := ir_3_3 hI
  have kn_161 : Hid (c_8 3 3 = c 3 3) := hF_10 3 3 (fun q => q.elim (fun h => absurd h.1 (nn rfl)) (fun h => absurd h.1 (nn rfl)))
  have kn_162 : Hid (c_117 3 3 = c 3 3) := (hF_119 3 3 qn_bf2303cc8).trans ((up_c (nn rfl)).trans (hid kn_161))
  have h_163 : c_117 3 3 = c 3 3 := (hid kn_162)
  have h_164 := ir_41_35 hI
  have kn_165 : Hid (c_8 41 35 = c 41 35) := hF_10 41 35 (fun q => q.elim (fun h => absurd h.1 (nn rfl)) (fun h => absurd h.1 (nn rfl)))
  have kn_166 : Hid (c_117 41 35 = c 41 35) := (hF_119 41 35 qn_732a91ea5).trans ((up_c (nn rfl)).trans (hid kn_165))
  have h_167 : c_117 41 35 = c 41 35 := (hid kn_166)
  have h_168 : c_117 3 4 = c 3 4 := (hid kn_154)
  exact K P Q c_117 0 (by decide) hI_118 ⟨by omega, ub_fr hU (fun j => (hF_119 2 j qn_2ad67e194).trans ((up_c (nn rfl)).trans (hF_10 2 j (fun q => q.elim (fun h => absurd h.1 (nn rfl)) (fun h => absurd h.1 (nn rfl)))))) (fun j => (hF_119 43 j qn_1520ff5e3).trans ((up_c (nn rfl)).trans (hF_10 43 j (fun q => q.elim (fun h => absurd h.1 (nn rfl)) (fun h => absurd h.1 (nn rfl)))))), ⟨by omega, by omega, by omega, by omega⟩, by omega, by omega, iw_fr2 hIw (by omega) (fun j => (hF_119 6 j qn_e1050858a).trans ((up_c (nn rfl)).trans (hF_10 6 j (fun q => q.elim (fun h => absurd h.1 (nn rfl)) (fun h => absurd h.1 (nn rfl)))))) (fun j => (hF_119 66 j qn_5616dd9ce).trans ((up_c (nn rfl)).trans (hF_10 66 j (fun q => q.elim (fun h => absurd h.1 (nn rfl)) (fun h => absurd h.1 (nn rfl))))))⟩

set_option maxRecDepth 100000 in
set_option maxHeartbeats 4000000 in
theorem o_10 {xs : Nat → Int32} {L i0 d nc ns P Q : Nat} {c : ME} {Z : AR → Prop} (hi : i0 + 8 ≤ L) (hL : L ≤ 100000) (hI : Iv 0 (-1) P Q c) (hR : Rq P c) (K : ∀ (P2 Q2 : Nat) (c2 : ME) (e : Nat), e ≤ 1 → Iv 0 (-1) P2 Q2 c2 → (Rq P2 c2) → Wp (a_scr L xs) (d + 90) 296 1816 [(4, vi (i0 : Int)), (3, .ref 67), (2, .ref 41), (1, .ref 0), (0, .ref a_SC)] [] (Wd P2 Q2 P2 P2 c2) (nc + e) (ns + 6 * e) Z) : Wp (a_scr L xs) (d + 90) 296 535 [(4, vi (i0 : Int)), (3, .ref 67), (2, .ref 41), (1, .ref 0), (0, .ref a_SC)] [] (Wd P Q P P c) nc ns Z := by
  obtain ⟨x1, hx1⟩ : ∃ z, (xs (i0 + 1)).toInt = z := ⟨_, rfl⟩
  have x1r := c_rng (xs (i0 + 1))
  rw [hx1] at x1r
  obtain ⟨x2, hx2⟩ : ∃ z, (xs (i0 + 2)).toInt = z := ⟨_, rfl⟩
  have x2r := c_rng (xs (i0 + 2))
  rw [hx2] at x2r
  obtain ⟨x3, hx3⟩ : ∃ z, (xs (i0 + 3)).toInt = z := ⟨_, rfl⟩
  have x3r := c_rng (xs (i0 + 3))
  rw [hx3] at x3r
  obtain ⟨x4, hx4⟩ : ∃ z, (xs (i0 + 4)).toInt = z := ⟨_, rfl⟩
  have x4r := c_rng (xs (i0 + 4))
  rw [hx4] at x4r
  obtain ⟨x5, hx5⟩ : ∃ z, (xs (i0 + 5)).toInt = z := ⟨_, rfl⟩
  have x5r := c_rng (xs (i0 + 5))
  rw [hx5] at x5r
  obtain ⟨x6, hx6⟩ : ∃ z, (xs (i0 + 6)).toInt = z := ⟨_, rfl⟩
  have x6r := c_rng (xs (i0 + 6))
  rw [hx6] at x6r
  obtain ⟨x7, hx7⟩ : ∃ z, (xs (i0 + 7)).toInt = z := ⟨_, rfl⟩
  have x7r := c_rng (xs (i0 + 7))
  rw [hx7] at x7r
  have hP := iv_P hI
  have hQ := iv_Q hI
  have hT := rl_t hR
  have hU := rl_u hR
  obtain ⟨n0, hn0⟩ : ∃ z, c P 0 = z := ⟨_, rfl⟩
  have hm0 : c 41 20 = n0 := (rl_nums hR).1.symm.trans hn0
  have hr0 := ir_p0_0 hI hP
  rw [hn0] at hr0
  obtain ⟨n1, hn1⟩ : ∃ z, c P 1 = z := ⟨_, rfl⟩
  have hm1 : c 41 21 = n1 := (rl_nums hR).2.1.symm.trans hn1
  have hr1 := ir_p0_1 hI hP
  rw [hn1] at hr1
  obtain ⟨n2, hn2⟩ : ∃ z, c P 2 = z := ⟨_, rfl⟩
  have hm2 : c 41 22 = n2 := (rl_nums hR).2.2.1.symm.trans hn2
  have hr2 := ir_p0_2 hI hP
  rw [hn2] at hr2
  obtain ⟨n3, hn3⟩ : ∃ z, c P 3 = z := ⟨_, rfl⟩
  have hm3 : c 41 23 = n3 := (rl_nums hR).2.2.2.symm.trans hn3
  have hr3 := ir_p0_3 hI hP
  rw [hn3] at hr3
  have hNimg := rl_img hR
  have hNwk := rl_wk hR
  have h_1 := ir_3_4 hI
  have hIw := rl_iw hR
  refine q_aload_n c_296_535 rfl (q_aload_n c_296_536 rfl (q_iload c_296_537 rfl (q_iconst c_296_539 (v_iadd (v := (i0 : Int) + 1) c_296_540 rfl (v_scr (j := i0 + 1) c_296_541 (by omega) (by omega) hL hx1 (q_aload_n c_296_542 rfl (q_iload c_296_543 rfl ?_)))))))
  refine q_iconst c_296_545 (v_iadd (v := (i0 : Int) + 2) c_296_546 rfl (v_scr (j := i0 + 2) c_296_547 (by omega) (by omega) hL hx2 (q_aload_n c_296_548 rfl (q_call c_296_549 rfl rfl rfl (q_aload_n c_270_0 rfl (q_iconst c_270_1 (q_aload_n c_270_2 rfl ?_)))))))
  refine q_iload_n c_270_3 rfl (q_iload_n c_270_4 rfl ?_)
  refine v_cv c_270_5 km_9_36 rfl rfl (Nat.le_of_ble_eq_true rfl) ⟨⟨rfl, rfl⟩, Nat.le_of_ble_eq_true rfl, rfl⟩ (Nat.le_of_ble_eq_true rfl) (Nat.le_of_ble_eq_true rfl) (s_95 (a1 := x1) (a2 := x2) hI (show (-2147483648) ≤ x1 ∧ x1 ≤ 2147483647 from ⟨by omega, by omega⟩) (show (-2147483648) ≤ x2 ∧ x2 ≤ 2147483647 from ⟨by omega, by omega⟩) (fun c_2 hI_3 hF_4 => ?_) (fun c_5 hI_6 hF_7 => ?_) (fun c_8 y_11 hI_9 hF_10 hy_11 => ?_))
  · skip
    refine bk_thr (z := Int32.ofInt 1) rfl ⟨_, _, rfl⟩ rfl (bk_inl (q_istore c_296_552 (Nat.le_of_ble_eq_true rfl) (q_aload_n c_296_554 rfl (q_aload_n c_296_555 rfl (q_iload c_296_556 rfl (q_iconst c_296_558 (v_iadd (v := (i0 : Int) + 1) c_296_559 rfl ?_)))))))
    refine v_scr (j := i0 + 1) c_296_560 (by omega) (by omega) hL hx1 (q_aload_n c_296_561 rfl (q_iload c_296_562 rfl (q_iconst c_296_564 (v_iadd (v := (i0 : Int) + 2) c_296_565 rfl (v_scr (j := i0 + 2) c_296_566 (by omega) (by omega) hL hx2 (v_cv c_296_567 km_9_164 rfl rfl (Nat.le_of_ble_eq_true rfl) ⟨⟨rfl, rfl⟩, Nat.le_of_ble_eq_true rfl, rfl⟩ (Nat.le_of_ble_eq_true rfl) (Nat.le_of_ble_eq_true rfl) (s_214 (a1 := x1) (a2 := x2) hI_3 (show (-2147483648) ≤ x1 ∧ x1 ≤ 2147483647 from ⟨by omega, by omega⟩) (show (-2147483648) ≤ x2 ∧ x2 ≤ 2147483647 from ⟨by omega, by omega⟩) (fun c_12 y_15 hI_13 hF_14 hy_15 => (bk_inl ?_)))))))))
    refine q_istore c_296_570 (Nat.le_of_ble_eq_true rfl) (q_goto (t := 1816) c_296_572 rfl (Wp_ls [(4, vi (i0 : Int)), (3, .ref 67), (2, .ref 41), (1, .ref 0), (0, .ref a_SC)] (lsub_cons rfl (lsub_cons rfl (lsub_cons rfl (lsub_cons rfl (lsub_cons rfl lsub_nil))))) ?_))
    have h_16 := ir_1_3 hI
    have kn_17 : Hid (c_2 1 3 = c 1 3) := hF_4 1 3 (fun q => q.elim (fun h => absurd h.1 (nn rfl)) (fun h => absurd h.1 (nn rfl)))
    have kn_18 : Hid (c_12 1 3 = c 1 3) := (hF_14 1 3 (fun q => q.elim (fun h => absurd h.1 (nn rfl)) (fun h => absurd h (nn rfl)))).trans (hid kn_17)
    have h_19 : c_12 1 3 = c 1 3 := (hid kn_18)
    have h_20 := ir_41_2 hI
    have kn_21 : Hid (c_2 41 2 = c 41 2) := hF_4 41 2 (fun q => q.elim (fun h => absurd h.1 (nn rfl)) (fun h => absurd h.1 (nn rfl)))
    have kn_22 : Hid (c_12 41 2 = c 41 2) := (hF_14 41 2 (fun q => q.elim (fun h => absurd h.2 (ni rfl)) (fun h => absurd h (nn rfl)))).trans (hid kn_21)
    have h_23 : c_12 41 2 = c 41 2 := (hid kn_22)
    have kn_24 : Hid (c_2 P 0 = n0) := (hF_4 P 0 (qn_7ba88e57e hP)).trans (hn0)
    have kn_25 : Hid (c_12 P 0 = n0) := (hF_14 P 0 (qn_753ab1e1a hP)).trans (hid kn_24)
    have h_26 : c_12 P 0 = n0 := (hid kn_25)
    have kn_27 : Hid (c_2 41 20 = n0) := (hF_4 41 20 (fun q => q.elim (fun h => absurd h.1 (nn rfl)) (fun h => absurd h.1 (nn rfl)))).trans (hm0)
    have kn_28 : Hid (c_12 41 20 = n0) := (hF_14 41 20 (fun q => q.elim (fun h => absurd h.2 (ni rfl)) (fun h => absurd h (nn rfl)))).trans (hid kn_27)
    have h_29 : c_12 41 20 = n0 := (hid kn_28)
    have kn_30 : Hid (c_2 P 1 = n1) := (hF_4 P 1 (qn_7ba88e57e hP)).trans (hn1)
    have kn_31 : Hid (c_12 P 1 = n1) := (hF_14 P 1 (qn_753ab1e1a hP)).trans (hid kn_30)
    have h_32 : c_12 P 1 = n1 := (hid kn_31)
    have kn_33 : Hid (c_2 41 21 = n1) := (hF_4 41 21 (fun q => q.elim (fun h => absurd h.1 (nn rfl)) (fun h => absurd h.1 (nn rfl)))).trans (hm1)
    have kn_34 : Hid (c_12 41 21 = n1) := (hF_14 41 21 (fun q => q.elim (fun h => absurd h.2 (ni rfl)) (fun h => absurd h (nn rfl)))).trans (hid kn_33)
    have h_35 : c_12 41 21 = n1 := (hid kn_34)
    have kn_36 : Hid (c_2 P 2 = n2) := (hF_4 P 2 (qn_7ba88e57e hP)).trans (hn2)
    have kn_37 : Hid (c_12 P 2 = n2) := (hF_14 P 2 (qn_753ab1e1a hP)).trans (hid kn_36)
    have h_38 : c_12 P 2 = n2 := (hid kn_37)
    have kn_39 : Hid (c_2 41 22 = n2) := (hF_4 41 22 (fun q => q.elim (fun h => absurd h.1 (nn rfl)) (fun h => absurd h.1 (nn rfl)))).trans (hm2)
    have kn_40 : Hid (c_12 41 22 = n2) := (hF_14 41 22 (fun q => q.elim (fun h => absurd h.2 (ni rfl)) (fun h => absurd h (nn rfl)))).trans (hid kn_39)
    have h_41 : c_12 41 22 = n2 := (hid kn_40)
    have kn_42 : Hid (c_2 P 3 = n3) := (hF_4 P 3 (qn_7ba88e57e hP)).trans (hn3)
    have kn_43 : Hid (c_12 P 3 = n3) := (hF_14 P 3 (qn_753ab1e1a hP)).trans (hid kn_42)
    have h_44 : c_12 P 3 = n3 := (hid kn_43)
    have kn_45 : Hid (c_2 41 23 = n3) := (hF_4 41 23 (fun q => q.elim (fun h => absurd h.1 (nn rfl)) (fun h => absurd h.1 (nn rfl)))).trans (hm3)
    have kn_46 : Hid (c_12 41 23 = n3) := (hF_14 41 23 (fun q => q.elim (fun h => absurd h.2 (ni rfl)) (fun h => absurd h (nn rfl)))).trans (hid kn_45)
    have h_47 : c_12 41 23 = n3 := (hid kn_46)
    have kn_48 : Hid (c_2 3 4 = c 3 4) := hF_4 3 4 (fun q => q.elim (fun h => absurd h.1 (nn rfl)) (fun h => absurd h.1 (nn rfl)))
    have kn_49 : Hid (c_12 3 4 = c 3 4) := (hF_14 3 4 (fun q => q.elim (fun h => absurd h.1 (nn rfl)) (fun h => absurd h (nn rfl)))).trans (hid kn_48)
    have h_50 : c_12 3 4 = c 3 4 := (hid kn_49)
    have h_51 := ir_41_52 hI
    have kn_52 : Hid (c_2 41 52 = c 41 52) := hF_4 41 52 (fun q => q.elim (fun h => absurd h.1 (nn rfl)) (fun h => absurd h.1 (nn rfl)))
    have kn_53 : Hid (c_12 41 52 = c 41 52) := (hF_14 41 52 (fun q => q.elim (fun h => absurd h.2 (ni rfl)) (fun h => absurd h (nn rfl)))).trans (hid kn_52)
    have h_54 : c_12 41 52 = c 41 52 := (hid kn_53)
    have h_55 := ir_3_3 hI
    have kn_56 : Hid (c_2 3 3 = c 3 3) := hF_4 3 3 (fun q => q.elim (fun h => absurd h.1 (nn rfl)) (fun h => absurd h.1 (nn rfl)))
    have kn_57 : Hid (c_12 3 3 = c 3 3) := (hF_14 3 3 (fun q => q.elim (fun h => absurd h.1 (nn rfl)) (fun h => absurd h (nn rfl)))).trans (hid kn_56)
    have h_58 : c_12 3 3 = c 3 3 := (hid kn_57)
    have h_59 := ir_41_35 hI
    have kn_60 : Hid (c_2 41 35 = c 41 35) := hF_4 41 35 (fun q => q.elim (fun h => absurd h.1 (nn rfl)) (fun h => absurd h.1 (nn rfl)))
    have kn_61 : Hid (c_12 41 35 = c 41 35) := (hF_14 41 35 (fun q => q.elim (fun h => absurd h.2 (ni rfl)) (fun h => absurd h (nn rfl)))).trans (hid kn_60)
    have h_62 : c_12 41 35 = c 41 35 := (hid kn_61)
    have h_63 : c_12 3 4 = c 3 4 := (hid kn_49)
    exact K P Q c_12 1 (by decide) hI_13 ⟨by omega, ub_fr hU (fun j => (hF_14 2 j (fun q => q.elim (fun h => absurd h.1 (nn rfl)) (fun h => absurd h (nn rfl)))).trans (hF_4 2 j (fun q => q.elim (fun h => absurd h.1 (nn rfl)) (fun h => absurd h.1 (nn rfl))))) (fun j => (hF_14 43 j (fun q => q.elim (fun h => absurd h.1 (nn rfl)) (fun h => absurd h (nn rfl)))).trans (hF_4 43 j (fun q => q.elim (fun h => absurd h.1 (nn rfl)) (fun h => absurd h.1 (nn rfl))))), ⟨by omega, by omega, by omega, by omega⟩, by omega, by omega, iw_fr2 hIw (by omega) (fun j => (hF_14 6 j (fun q => q.elim (fun h => absurd h.1 (nn rfl)) (fun h => absurd h (nn rfl)))).trans (hF_4 6 j (fun q => q.elim (fun h => absurd h.1 (nn rfl)) (fun h => absurd h.1 (nn rfl))))) (fun j => (hF_14 66 j (fun q => q.elim (fun h => absurd h.1 (nn rfl)) (fun h => absurd h (nn rfl)))).trans (hF_4 66 j (fun q => q.elim (fun h => absurd h.1 (nn rfl)) (fun h => absurd h.1 (nn rfl)))))⟩
  · skip
    refine bk_thr (z := Int32.ofInt 2) rfl ⟨_, _, rfl⟩ rfl (bk_inl (q_istore c_296_552 (Nat.le_of_ble_eq_true rfl) (q_aload_n c_296_554 rfl (q_aload_n c_296_555 rfl (q_iload c_296_556 rfl (q_iconst c_296_558 (v_iadd (v := (i0 : Int) + 1) c_296_559 rfl ?_)))))))
    refine v_scr (j := i0 + 1) c_296_560 (by omega) (by omega) hL hx1 (q_aload_n c_296_561 rfl (q_iload c_296_562 rfl (q_iconst c_296_564 (v_iadd (v := (i0 : Int) + 2) c_296_565 rfl (v_scr (j := i0 + 2) c_296_566 (by omega) (by omega) hL hx2 (v_cv c_296_567 km_9_164 rfl rfl (Nat.le_of_ble_eq_true rfl) ⟨⟨rfl, rfl⟩, Nat.le_of_ble_eq_true rfl, rfl⟩ (Nat.le_of_ble_eq_true rfl) (Nat.le_of_ble_eq_true rfl) (s_214 (a1 := x1) (a2 := x2) hI_6 (show (-2147483648) ≤ x1 ∧ x1 ≤ 2147483647 from ⟨by omega, by omega⟩) (show (-2147483648) ≤ x2 ∧ x2 ≤ 2147483647 from ⟨by omega, by omega⟩) (fun c_64 y_67 hI_65 hF_66 hy_67 => (bk_inl ?_)))))))))
    refine q_istore c_296_570 (Nat.le_of_ble_eq_true rfl) (q_goto (t := 1816) c_296_572 rfl (Wp_ls [(4, vi (i0 : Int)), (3, .ref 67), (2, .ref 41), (1, .ref 0), (0, .ref a_SC)] (lsub_cons rfl (lsub_cons rfl (lsub_cons rfl (lsub_cons rfl (lsub_cons rfl lsub_nil))))) ?_))
    have h_68 := ir_1_3 hI
    have kn_69 : Hid (c_5 1 3 = c 1 3) := hF_7 1 3 (fun q => q.elim (fun h => absurd h.1 (nn rfl)) (fun h => absurd h.1 (nn rfl)))
    have kn_70 : Hid (c_64 1 3 = c 1 3) := (hF_66 1 3 (fun q => q.elim (fun h => absurd h.1 (nn rfl)) (fun h => absurd h (nn rfl)))).trans (hid kn_69)
    have h_71 : c_64 1 3 = c 1 3 := (hid kn_70)
    have h_72 := ir_41_2 hI
    have kn_73 : Hid (c_5 41 2 = c 41 2) := hF_7 41 2 (fun q => q.elim (fun h => absurd h.1 (nn rfl)) (fun h => absurd h.1 (nn rfl)))
    have kn_74 : Hid (c_64 41 2 = c 41 2) := (hF_66 41 2 (fun q => q.elim (fun h => absurd h.2 (ni rfl)) (fun h => absurd h (nn rfl)))).trans (hid kn_73)
    have h_75 : c_64 41 2 = c 41 2 := (hid kn_74)
    have kn_76 : Hid (c_5 P 0 = n0) := (hF_7 P 0 (qn_7ba88e57e hP)).trans (hn0)
    have kn_77 : Hid (c_64 P 0 = n0) := (hF_66 P 0 (qn_753ab1e1a hP)).trans (hid kn_76)
    have h_78 : c_64 P 0 = n0 := (hid kn_77)
    have kn_79 : Hid (c_5 41 20 = n0) := (hF_7 41 20 (fun q => q.elim (fun h => absurd h.1 (nn rfl)) (fun h => absurd h.1 (nn rfl)))).trans (hm0)
    have kn_80 : Hid (c_64 41 20 = n0) := (hF_66 41 20 (fun q => q.elim (fun h => absurd h.2 (ni rfl)) (fun h => absurd h (nn rfl)))).trans (hid kn_79)
    have h_81 : c_64 41 20 = n0 := (hid kn_80)
    have kn_82 : Hid (c_5 P 1 = n1) := (hF_7 P 1 (qn_7ba88e57e hP)).trans (hn1)
    have kn_83 : Hid (c_64 P 1 = n1) := (hF_66 P 1 (qn_753ab1e1a hP)).trans (hid kn_82)
    have h_84 : c_64 P 1 = n1 := (hid kn_83)
    have kn_85 : Hid (c_5 41 21 = n1) := (hF_7 41 21 (fun q => q.elim (fun h => absurd h.1 (nn rfl)) (fun h => absurd h.1 (nn rfl)))).trans (hm1)
    have kn_86 : Hid (c_64 41 21 = n1) := (hF_66 41 21 (fun q => q.elim (fun h => absurd h.2 (ni rfl)) (fun h => absurd h (nn rfl)))).trans (hid kn_85)
    have h_87 : c_64 41 21 = n1 := (hid kn_86)
    have kn_88 : Hid (c_5 P 2 = n2) := (hF_7 P 2 (qn_7ba88e57e hP)).trans (hn2)
    have kn_89 : Hid (c_64 P 2 = n2) := (hF_66 P 2 (qn_753ab1e1a hP)).trans (hid kn_88)
    have h_90 : c_64 P 2 = n2 := (hid kn_89)
    have kn_91 : Hid (c_5 41 22 = n2) := (hF_7 41 22 (fun q => q.elim (fun h => absurd h.1 (nn rfl)) (fun h => absurd h.1 (nn rfl)))).trans (hm2)
    have kn_92 : Hid (c_64 41 22 = n2) := (hF_66 41 22 (fun q => q.elim (fun h => absurd h.2 (ni rfl)) (fun h => absurd h (nn rfl)))).trans (hid kn_91)
    have h_93 : c_64 41 22 = n2 := (hid kn_92)
    have kn_94 : Hid (c_5 P 3 = n3) := (hF_7 P 3 (qn_7ba88e57e hP)).trans (hn3)
    have kn_95 : Hid (c_64 P 3 = n3) := (hF_66 P 3 (qn_753ab1e1a hP)).trans (hid kn_94)
    have h_96 : c_64 P 3 = n3 := (hid kn_95)
    have kn_97 : Hid (c_5 41 23 = n3) := (hF_7 41 23 (fun q => q.elim (fun h => absurd h.1 (nn rfl)) (fun h => absurd h.1 (nn rfl)))).trans (hm3)
    have kn_98 : Hid (c_64 41 23 = n3) := (hF_66 41 23 (fun q => q.elim (fun h => absurd h.2 (ni rfl)) (fun h => absurd h (nn rfl)))).trans (hid kn_97)
    have h_99 : c_64 41 23 = n3 := (hid kn_98)
    have kn_100 : Hid (c_5 3 4 = c 3 4) := hF_7 3 4 (fun q => q.elim (fun h => absurd h.1 (nn rfl)) (fun h => absurd h.1 (nn rfl)))
    have kn_101 : Hid (c_64 3 4 = c 3 4) := (hF_66 3 4 (fun q => q.elim (fun h => absurd h.1 (nn rfl)) (fun h => absurd h (nn rfl)))).trans (hid kn_100)
    have h_102 : c_64 3 4 = c 3 4 := (hid kn_101)
    have h_103 := ir_41_52 hI
    have kn_104 : Hid (c_5 41 52 = c 41 52) := hF_7 41 52 (fun q => q.elim (fun h => absurd h.1 (nn rfl)) (fun h => absurd h.1 (nn rfl)))
    have kn_105 : Hid (c_64 41 52 = c 41 52) := (hF_66 41 52 (fun q => q.elim (fun h => absurd h.2 (ni rfl)) (fun h => absurd h (nn rfl)))).trans (hid kn_104)
    have h_106 : c_64 41 52 = c 41 52 := (hid kn_105)
    have h_107 := ir_3_3 hI
    have kn_108 : Hid (c_5 3 3 = c 3 3) := hF_7 3 3 (fun q => q.elim (fun h => absurd h.1 (nn rfl)) (fun h => absurd h.1 (nn rfl)))
    have kn_109 : Hid (c_64 3 3 = c 3 3) := (hF_66 3 3 (fun q => q.elim (fun h => absurd h.1 (nn rfl)) (fun h => absurd h (nn rfl)))).trans (hid kn_108)
    have h_110 : c_64 3 3 = c 3 3 := (hid kn_109)
    have h_111 := ir_41_35 hI
    have kn_112 : Hid (c_5 41 35 = c 41 35) := hF_7 41 35 (fun q => q.elim (fun h => absurd h.1 (nn rfl)) (fun h => absurd h.1 (nn rfl)))
    have kn_113 : Hid (c_64 41 35 = c 41 35) := (hF_66 41 35 (fun q => q.elim (fun h => absurd h.2 (ni rfl)) (fun h => absurd h (nn rfl)))).trans (hid kn_112)
    have h_114 : c_64 41 35 = c 41 35 := (hid kn_113)
    have h_115 : c_64 3 4 = c 3 4 := (hid kn_101)
    exact K P Q c_64 1 (by decide) hI_65 ⟨by omega, ub_fr hU (fun j => (hF_66 2 j (fun q => q.elim (fun h => absurd h.1 (nn rfl)) (fun h => absurd h (nn rfl)))).trans (hF_7 2 j (fun q => q.elim (fun h => absurd h.1 (nn rfl)) (fun h => absurd h.1 (nn rfl))))) (fun j => (hF_66 43 j (fun q => q.elim (fun h => absurd h.1 (nn rfl)) (fun h => absurd h (nn rfl)))).trans (hF_7 43 j (fun q => q.elim (fun h => absurd h.1 (nn rfl)) (fun h => absurd h.1 (nn rfl))))), ⟨by omega, by omega, by omega, by omega⟩, by omega, by omega, iw_fr2 hIw (by omega) (fun j => (hF_66 6 j (fun q => q.elim (fun h => absurd h.1 (nn rfl)) (fun h => absurd h (nn rfl)))).trans (hF_7 6 j (fun q => q.elim (fun h => absurd h.1 (nn rfl)) (fun h => absurd h.1 (nn rfl))))) (fun j => (hF_66 66 j (fun q => q.elim (fun h => absurd h.1 (nn rfl)) (fun h => absurd h (nn rfl)))).trans (hF_7 66 j (fun q => q.elim (fun h => absurd h.1 (nn rfl)) (fun h => absurd h.1 (nn rfl)))))⟩
  refine bk_inl (v_i2l c_270_8 (by omega) (v_ls c_270_9 rfl (by decide) (by decide) (by decide) (q_goto (t := 21) c_270_10 rfl (q_iconst c_270_21 (q_iret c_270_22 rfl (bk_inl (q_istore c_296_552 (Nat.le_of_ble_eq_true rfl) ?_)))))))
  refine q_aload_n c_296_554 rfl (q_aload_n c_296_555 rfl (q_iload c_296_556 rfl (q_iconst c_296_558 (v_iadd (v := (i0 : Int) + 1) c_296_559 rfl (v_scr (j := i0 + 1) c_296_560 (by omega) (by omega) hL hx1 (q_aload_n c_296_561 rfl (q_iload c_296_562 rfl ?_)))))))
  refine q_iconst c_296_564 (v_iadd (v := (i0 : Int) + 2) c_296_565 rfl (v_scr (j := i0 + 2) c_296_566 (by omega) (by omega) hL hx2 ?_))
  have hI_116 := iw_lx (a := 67) (j := 0) (v := y_11) hI_9 (by omega)
  refine v_cv c_296_567 km_9_164 rfl rfl (Nat.le_of_ble_eq_true rfl) ⟨⟨rfl, rfl⟩, Nat.le_of_ble_eq_true rfl, rfl⟩ (Nat.le_of_ble_eq_true rfl) (Nat.le_of_ble_eq_true rfl) (s_214 (a1 := x1) (a2 := x2) hI_116 (show (-2147483648) ≤ x1 ∧ x1 ≤ 2147483647 from ⟨by omega, by omega⟩) (show (-2147483648) ≤ x2 ∧ x2 ≤ 2147483647 from ⟨by omega, by omega⟩) (fun c_117 y_120 hI_118 hF_119 hy_120 => (bk_inl (q_istore c_296_570 (Nat.le_of_ble_eq_true rfl) (q_goto (t := 1816) c_296_572 rfl (Wp_ls [(4, vi (i0 : Int)), (3, .ref 67), (2, .ref 41), (1, .ref 0), (0, .ref a_SC)] (lsub_cons rfl (lsub_cons rfl (lsub_cons rfl (lsub_cons rfl (lsub_cons rfl lsub_nil))))) ?_))))))
  have h_121 := ir_1_3 hI
  have kn_122 : Hid (c_8 1 3 = c 1 3) := hF_10 1 3 (fun q => q.elim (fun h => absurd h.1 (nn rfl)) (fun h => absurd h.1 (nn rfl)))
  have kn_123 : Hid (c_117 1 3 = c 1 3) := (hF_119 1 3 (fun q => q.elim (fun h => absurd h.1 (nn rfl)) (fun h => absurd h (nn rfl)))).trans ((up_c (nn rfl)).trans (hid kn_122))
  have h_124 : c_117 1 3 = c 1 3 := (hid kn_123)
  have h_125 := ir_41_2 hI
  have kn_126 : Hid (c_8 41 2 = c 41 2) := hF_10 41 2 (fun q => q.elim (fun h => absurd h.1 (nn rfl)) (fun h => absurd h.1 (nn rfl)))
  have kn_127 : Hid (c_117 41 2 = c 41 2) := (hF_119 41 2 (fun q => q.elim (fun h => absurd h.2 (ni rfl)) (fun h => absurd h (nn rfl)))).trans ((up_c (nn rfl)).trans (hid kn_126))
  have h_128 : c_117 41 2 = c 41 2 := (hid kn_127)
  have kn_129 : Hid (c_8 P 0 = n0) := (hF_10 P 0 (qn_7ba88e57e hP)).trans (hn0)
  have kn_130 : Hid (c_117 P 0 = n0) := (hF_119 P 0 (qn_753ab1e1a hP)).trans ((up_c (np0 hP rfl)).trans (hid kn_129))
  have h_131 : c_117 P 0 = n0 := (hid kn_130)
  have kn_132 : Hid (c_8 41 20 = n0) := (hF_10 41 20 (fun q => q.elim (fun h => absurd h.1 (nn rfl)) (fun h => absurd h.1 (nn rfl)))).trans (hm0)
  have kn_133 : Hid (c_117 41 20 = n0) := (hF_119 41 20 (fun q => q.elim (fun h => absurd h.2 (ni rfl)) (fun h => absurd h (nn rfl)))).trans ((up_c (nn rfl)).trans (hid kn_132))
  have h_134 : c_117 41 20 = n0 := (hid kn_133)
  have kn_135 : Hid (c_8 P 1 = n1) := (hF_10 P 1 (qn_7ba88e57e hP)).trans (hn1)
  have kn_136 : Hid (c_117 P 1 = n1) := (hF_119 P 1 (qn_753ab1e1a hP)).trans ((up_c (np0 hP rfl)).trans (hid kn_135))
  have h_137 : c_117 P 1 = n1 := (hid kn_136)
  have kn_138 : Hid (c_8 41 21 = n1) := (hF_10 41 21 (fun q => q.elim (fun h => absurd h.1 (nn rfl)) (fun h => absurd h.1 (nn rfl)))).trans (hm1)
  have kn_139 : Hid (c_117 41 21 = n1) := (hF_119 41 21 (fun q => q.elim (fun h => absurd h.2 (ni rfl)) (fun h => absurd h (nn rfl)))).trans ((up_c (nn rfl)).trans (hid kn_138))
  have h_140 : c_117 41 21 = n1 := (hid kn_139)
  have kn_141 : Hid (c_8 P 2 = n2) := (hF_10 P 2 (qn_7ba88e57e hP)).trans (hn2)
  have kn_142 : Hid (c_117 P 2 = n2) := (hF_119 P 2 (qn_753ab1e1a hP)).trans ((up_c (np0 hP rfl)).trans (hid kn_141))
  have h_143 : c_117 P 2 = n2 := (hid kn_142)
  have kn_144 : Hid (c_8 41 22 = n2) := (hF_10 41 22 (fun q => q.elim (fun h => absurd h.1 (nn rfl)) (fun h => absurd h.1 (nn rfl)))).trans (hm2)
  have kn_145 : Hid (c_117 41 22 = n2) := (hF_119 41 22 (fun q => q.elim (fun h => absurd h.2 (ni rfl)) (fun h => absurd h (nn rfl)))).trans ((up_c (nn rfl)).trans (hid kn_144))
  have h_146 : c_117 41 22 = n2 := (hid kn_145)
  have kn_147 : Hid (c_8 P 3 = n3) := (hF_10 P 3 (qn_7ba88e57e hP)).trans (hn3)
  have kn_148 : Hid (c_117 P 3 = n3) := (hF_119 P 3 (qn_753ab1e1a hP)).trans ((up_c (np0 hP rfl)).trans (hid kn_147))
  have h_149 : c_117 P 3 = n3 := (hid kn_148)
  have kn_150 : Hid (c_8 41 23 = n3) := (hF_10 41 23 (fun q => q.elim (fun h => absurd h.1 (nn rfl)) (fun h => absurd h.1 (nn rfl)))).trans (hm3)
  have kn_151 : Hid (c_117 41 23 = n3) := (hF_119 41 23 (fun q => q.elim (fun h => absurd h.2 (ni rfl)) (fun h => absurd h (nn rfl)))).trans ((up_c (nn rfl)).trans (hid kn_150))
  have h_152 : c_117 41 23 = n3 := (hid kn_151)
  have kn_153 : Hid (c_8 3 4 = c 3 4) := hF_10 3 4 (fun q => q.elim (fun h => absurd h.1 (nn rfl)) (fun h => absurd h.1 (nn rfl)))
  have kn_154 : Hid (c_117 3 4 = c 3 4) := (hF_119 3 4 (fun q => q.elim (fun h => absurd h.1 (nn rfl)) (fun h => absurd h (nn rfl)))).trans ((up_c (nn rfl)).trans (hid kn_153))
  have h_155 : c_117 3 4 = c 3 4 := (hid kn_154)
  have h_156 := ir_41_52 hI
  have kn_157 : Hid (c_8 41 52 = c 41 52) := hF_10 41 52 (fun q => q.elim (fun h => absurd h.1 (nn rfl)) (fun h => absurd h.1 (nn rfl)))
  have kn_158 : Hid (c_117 41 52 = c 41 52) := (hF_119 41 52 (fun q => q.elim (fun h => absurd h.2 (ni rfl)) (fun h => absurd h (nn rfl)))).trans ((up_c (nn rfl)).trans (hid kn_157))
  have h_159 : c_117 41 52 = c 41 52 := (hid kn_158)
  have h_160 := ir_3_3 hI
  have kn_161 : Hid (c_8 3 3 = c 3 3) := hF_10 3 3 (fun q => q.elim (fun h => absurd h.1 (nn rfl)) (fun h => absurd h.1 (nn rfl)))
  have kn_162 : Hid (c_117 3 3 = c 3 3) := (hF_119 3 3 (fun q => q.elim (fun h => absurd h.1 (nn rfl)) (fun h => absurd h (nn rfl)))).trans ((up_c (nn rfl)).trans (hid kn_161))
  have h_163 : c_117 3 3 = c 3 3 := (hid kn_162)
  have h_164 := ir_41_35 hI
  have kn_165 : Hid (c_8 41 35 = c 41 35) := hF_10 41 35 (fun q => q.elim (fun h => absurd h.1 (nn rfl)) (fun h => absurd h.1 (nn rfl)))
  have kn_166 : Hid (c_117 41 35 = c 41 35) := (hF_119 41 35 (fun q => q.elim (fun h => absurd h.2 (ni rfl)) (fun h => absurd h (nn rfl)))).trans ((up_c (nn rfl)).trans (hid kn_165))
  have h_167 : c_117 41 35 = c 41 35 := (hid kn_166)
  have h_168 : c_117 3 4 = c 3 4 := (hid kn_154)
  exact K P Q c_117 0 (by decide) hI_118 ⟨by omega, ub_fr hU (fun j => (hF_119 2 j (fun q => q.elim (fun h => absurd h.1 (nn rfl)) (fun h => absurd h (nn rfl)))).trans ((up_c (nn rfl)).trans (hF_10 2 j (fun q => q.elim (fun h => absurd h.1 (nn rfl)) (fun h => absurd h.1 (nn rfl)))))) (fun j => (hF_119 43 j (fun q => q.elim (fun h => absurd h.1 (nn rfl)) (fun h => absurd h (nn rfl)))).trans ((up_c (nn rfl)).trans (hF_10 43 j (fun q => q.elim (fun h => absurd h.1 (nn rfl)) (fun h => absurd h.1 (nn rfl)))))), ⟨by omega, by omega, by omega, by omega⟩, by omega, by omega, iw_fr2 hIw (by omega) (fun j => (hF_119 6 j (fun q => q.elim (fun h => absurd h.1 (nn rfl)) (fun h => absurd h (nn rfl)))).trans ((up_c (nn rfl)).trans (hF_10 6 j (fun q => q.elim (fun h => absurd h.1 (nn rfl)) (fun h => absurd h.1 (nn rfl)))))) (fun j => (hF_119 66 j (fun q => q.elim (fun h => absurd h.1 (nn rfl)) (fun h => absurd h (nn rfl)))).trans ((up_c (nn rfl)).trans (hF_10 66 j (fun q => q.elim (fun h => absurd h.1 (nn rfl)) (fun h => absurd h.1 (nn rfl))))))⟩

