/-! ===== the calls of the law 2 ===== -/
theorem qn_384c17487 {P : Nat} {j : Int} (hP : P = 13 ∨ P = 25) : ¬ (((41 : Nat) = 0 ∧ j = 12) ∨ (41 : Nat) = (P + 10) ∨ (41 : Nat) = (P + 11)) := (fun q => q.elim (fun h => absurd h.1 (nn rfl)) (fun q => q.elim (fun h => absurd h (pn hP rfl rfl)) (fun h => absurd h (pn hP rfl rfl))))
theorem qn_35050d239 {P : Nat} {j : Int} (hP : P = 13 ∨ P = 25) : ¬ (((42 : Nat) = 0 ∧ j = 12) ∨ (42 : Nat) = (P + 10) ∨ (42 : Nat) = (P + 11)) := (fun q => q.elim (fun h => absurd h.1 (nn rfl)) (fun q => q.elim (fun h => absurd h (pn hP rfl rfl)) (fun h => absurd h (pn hP rfl rfl))))
theorem qn_0dbc1df78 {P : Nat} {j : Int} (hP : P = 13 ∨ P = 25) : ¬ (((1 : Nat) = 0 ∧ j = 12) ∨ (1 : Nat) = (P + 10) ∨ (1 : Nat) = (P + 11)) := (fun q => q.elim (fun h => absurd h.1 (nn rfl)) (fun q => q.elim (fun h => absurd h (pn hP rfl rfl)) (fun h => absurd h (pn hP rfl rfl))))
theorem qn_44683f5fa {j : Int} : ¬ (((1 : Nat) = 41 ∧ j = 0) ∨ (1 : Nat) = 42 ∨ (1 : Nat) = 59 ∨ (1 : Nat) = 54 ∨ (1 : Nat) = 55) := (fun q => q.elim (fun h => absurd h.1 (nn rfl)) (fun q => q.elim (fun h => absurd h (nn rfl)) (fun q => q.elim (fun h => absurd h (nn rfl)) (fun q => q.elim (fun h => absurd h (nn rfl)) (fun h => absurd h (nn rfl))))))
theorem qn_7a112a690 : ¬ (((41 : Nat) = 41 ∧ (2 : Int) = 0) ∨ (41 : Nat) = 42 ∨ (41 : Nat) = 59 ∨ (41 : Nat) = 54 ∨ (41 : Nat) = 55) := (fun q => q.elim (fun h => absurd h.2 (ni rfl)) (fun q => q.elim (fun h => absurd h (nn rfl)) (fun q => q.elim (fun h => absurd h (nn rfl)) (fun q => q.elim (fun h => absurd h (nn rfl)) (fun h => absurd h (nn rfl))))))
theorem qn_d6466f82c {P : Nat} {j : Int} (hP : P = 13 ∨ P = 25) : ¬ ((P = 0 ∧ j = 12) ∨ P = (P + 10) ∨ P = (P + 11)) := (fun q => q.elim (fun h => absurd h.1 (np0 hP rfl)) (fun q => q.elim (fun h => absurd h (p0p rfl)) (fun h => absurd h (p0p rfl))))
theorem qn_70fec742f {P : Nat} {j : Int} (hP : P = 13 ∨ P = 25) : ¬ ((P = 41 ∧ j = 0) ∨ P = 42 ∨ P = 59 ∨ P = 54 ∨ P = 55) := (fun q => q.elim (fun h => absurd h.1 (np0 hP rfl)) (fun q => q.elim (fun h => absurd h (np0 hP rfl)) (fun q => q.elim (fun h => absurd h (np0 hP rfl)) (fun q => q.elim (fun h => absurd h (np0 hP rfl)) (fun h => absurd h (np0 hP rfl))))))
theorem qn_2dba34809 : ¬ (((41 : Nat) = 41 ∧ (21 : Int) = 0) ∨ (41 : Nat) = 42 ∨ (41 : Nat) = 59 ∨ (41 : Nat) = 54 ∨ (41 : Nat) = 55) := (fun q => q.elim (fun h => absurd h.2 (ni rfl)) (fun q => q.elim (fun h => absurd h (nn rfl)) (fun q => q.elim (fun h => absurd h (nn rfl)) (fun q => q.elim (fun h => absurd h (nn rfl)) (fun h => absurd h (nn rfl))))))
theorem qn_0d1137165 : ¬ (((41 : Nat) = 41 ∧ (22 : Int) = 0) ∨ (41 : Nat) = 42 ∨ (41 : Nat) = 59 ∨ (41 : Nat) = 54 ∨ (41 : Nat) = 55) := (fun q => q.elim (fun h => absurd h.2 (ni rfl)) (fun q => q.elim (fun h => absurd h (nn rfl)) (fun q => q.elim (fun h => absurd h (nn rfl)) (fun q => q.elim (fun h => absurd h (nn rfl)) (fun h => absurd h (nn rfl))))))
theorem qn_ca1c2b99e : ¬ (((41 : Nat) = 41 ∧ (23 : Int) = 0) ∨ (41 : Nat) = 42 ∨ (41 : Nat) = 59 ∨ (41 : Nat) = 54 ∨ (41 : Nat) = 55) := (fun q => q.elim (fun h => absurd h.2 (ni rfl)) (fun q => q.elim (fun h => absurd h (nn rfl)) (fun q => q.elim (fun h => absurd h (nn rfl)) (fun q => q.elim (fun h => absurd h (nn rfl)) (fun h => absurd h (nn rfl))))))
theorem qn_37cffd657 {j : Int} : ¬ (((0 : Nat) = 41 ∧ j = 0) ∨ (0 : Nat) = 42 ∨ (0 : Nat) = 59 ∨ (0 : Nat) = 54 ∨ (0 : Nat) = 55) := (fun q => q.elim (fun h => absurd h.1 (nn rfl)) (fun q => q.elim (fun h => absurd h (nn rfl)) (fun q => q.elim (fun h => absurd h (nn rfl)) (fun q => q.elim (fun h => absurd h (nn rfl)) (fun h => absurd h (nn rfl))))))
theorem qn_5e7410fc8 {P : Nat} (hP : P = 13 ∨ P = 25) : ¬ (((0 : Nat) = 0 ∧ (13 : Int) = 12) ∨ (0 : Nat) = (P + 10) ∨ (0 : Nat) = (P + 11)) := (fun q => q.elim (fun h => absurd h.2 (ni rfl)) (fun q => q.elim (fun h => absurd h (pn hP rfl rfl)) (fun h => absurd h (pn hP rfl rfl))))
theorem qn_d0e66b3bf {j : Int} : ¬ (((2 : Nat) = 41 ∧ j = 0) ∨ (2 : Nat) = 42 ∨ (2 : Nat) = 59 ∨ (2 : Nat) = 54 ∨ (2 : Nat) = 55) := (fun q => q.elim (fun h => absurd h.1 (nn rfl)) (fun q => q.elim (fun h => absurd h (nn rfl)) (fun q => q.elim (fun h => absurd h (nn rfl)) (fun q => q.elim (fun h => absurd h (nn rfl)) (fun h => absurd h (nn rfl))))))
theorem qn_371ad3962 {P : Nat} {j : Int} (hP : P = 13 ∨ P = 25) : ¬ (((2 : Nat) = 0 ∧ j = 12) ∨ (2 : Nat) = (P + 10) ∨ (2 : Nat) = (P + 11)) := (fun q => q.elim (fun h => absurd h.1 (nn rfl)) (fun q => q.elim (fun h => absurd h (pn hP rfl rfl)) (fun h => absurd h (pn hP rfl rfl))))
theorem qn_5a77d9750 {j : Int} : ¬ (((43 : Nat) = 41 ∧ j = 0) ∨ (43 : Nat) = 42 ∨ (43 : Nat) = 59 ∨ (43 : Nat) = 54 ∨ (43 : Nat) = 55) := (fun q => q.elim (fun h => absurd h.1 (nn rfl)) (fun q => q.elim (fun h => absurd h (nn rfl)) (fun q => q.elim (fun h => absurd h (nn rfl)) (fun q => q.elim (fun h => absurd h (nn rfl)) (fun h => absurd h (nn rfl))))))
theorem qn_e10256050 {P : Nat} {j : Int} (hP : P = 13 ∨ P = 25) : ¬ (((43 : Nat) = 0 ∧ j = 12) ∨ (43 : Nat) = (P + 10) ∨ (43 : Nat) = (P + 11)) := (fun q => q.elim (fun h => absurd h.1 (nn rfl)) (fun q => q.elim (fun h => absurd h (pn hP rfl rfl)) (fun h => absurd h (pn hP rfl rfl))))
theorem q_7f52907d5 {x0 x1 x2 : Int} (f0 : (x0 ≥ 0 ∧ x0 ≤ x1 - 1)) (f1 : x1 = x2) : (-2147483648) ≤ x0 := by omega
theorem qn_c82d74c43 {P : Nat} {j : Int} (hP : P = 13 ∨ P = 25) : ¬ (((42 : Nat) = 0 ∧ j = 13) ∨ (42 : Nat) = (P + 10) ∨ (42 : Nat) = (P + 11)) := (fun q => q.elim (fun h => absurd h.1 (nn rfl)) (fun q => q.elim (fun h => absurd h (pn hP rfl rfl)) (fun h => absurd h (pn hP rfl rfl))))
theorem qn_573365727 {P : Nat} {j : Int} (hP : P = 13 ∨ P = 25) : ¬ (((1 : Nat) = 0 ∧ j = 13) ∨ (1 : Nat) = (P + 10) ∨ (1 : Nat) = (P + 11)) := (fun q => q.elim (fun h => absurd h.1 (nn rfl)) (fun q => q.elim (fun h => absurd h (pn hP rfl rfl)) (fun h => absurd h (pn hP rfl rfl))))
theorem qn_37c5d22e3 {j : Int} : ¬ (((1 : Nat) = 41 ∧ j = 0) ∨ (1 : Nat) = 42 ∨ (1 : Nat) = 54 ∨ (1 : Nat) = 55) := (fun q => q.elim (fun h => absurd h.1 (nn rfl)) (fun q => q.elim (fun h => absurd h (nn rfl)) (fun q => q.elim (fun h => absurd h (nn rfl)) (fun h => absurd h (nn rfl)))))
theorem qn_69be8c781 {P : Nat} {j : Int} (hP : P = 13 ∨ P = 25) : ¬ (((41 : Nat) = 0 ∧ j = 13) ∨ (41 : Nat) = (P + 10) ∨ (41 : Nat) = (P + 11)) := (fun q => q.elim (fun h => absurd h.1 (nn rfl)) (fun q => q.elim (fun h => absurd h (pn hP rfl rfl)) (fun h => absurd h (pn hP rfl rfl))))
theorem qn_8a9509c06 : ¬ (((41 : Nat) = 41 ∧ (2 : Int) = 0) ∨ (41 : Nat) = 42 ∨ (41 : Nat) = 54 ∨ (41 : Nat) = 55) := (fun q => q.elim (fun h => absurd h.2 (ni rfl)) (fun q => q.elim (fun h => absurd h (nn rfl)) (fun q => q.elim (fun h => absurd h (nn rfl)) (fun h => absurd h (nn rfl)))))
theorem qn_7262c0794 {P : Nat} {j : Int} (hP : P = 13 ∨ P = 25) : ¬ ((P = 41 ∧ j = 0) ∨ P = 42 ∨ P = 54 ∨ P = 55) := (fun q => q.elim (fun h => absurd h.1 (np0 hP rfl)) (fun q => q.elim (fun h => absurd h (np0 hP rfl)) (fun q => q.elim (fun h => absurd h (np0 hP rfl)) (fun h => absurd h (np0 hP rfl)))))
theorem qn_635eb2508 : ¬ (((41 : Nat) = 41 ∧ (20 : Int) = 0) ∨ (41 : Nat) = 42 ∨ (41 : Nat) = 54 ∨ (41 : Nat) = 55) := (fun q => q.elim (fun h => absurd h.2 (ni rfl)) (fun q => q.elim (fun h => absurd h (nn rfl)) (fun q => q.elim (fun h => absurd h (nn rfl)) (fun h => absurd h (nn rfl)))))
theorem qn_a2a3c278c : ¬ (((41 : Nat) = 41 ∧ (21 : Int) = 0) ∨ (41 : Nat) = 42 ∨ (41 : Nat) = 54 ∨ (41 : Nat) = 55) := (fun q => q.elim (fun h => absurd h.2 (ni rfl)) (fun q => q.elim (fun h => absurd h (nn rfl)) (fun q => q.elim (fun h => absurd h (nn rfl)) (fun h => absurd h (nn rfl)))))
theorem qn_b0cd305d3 : ¬ (((41 : Nat) = 41 ∧ (22 : Int) = 0) ∨ (41 : Nat) = 42 ∨ (41 : Nat) = 54 ∨ (41 : Nat) = 55) := (fun q => q.elim (fun h => absurd h.2 (ni rfl)) (fun q => q.elim (fun h => absurd h (nn rfl)) (fun q => q.elim (fun h => absurd h (nn rfl)) (fun h => absurd h (nn rfl)))))
theorem qn_b2ba88a22 : ¬ (((41 : Nat) = 41 ∧ (23 : Int) = 0) ∨ (41 : Nat) = 42 ∨ (41 : Nat) = 54 ∨ (41 : Nat) = 55) := (fun q => q.elim (fun h => absurd h.2 (ni rfl)) (fun q => q.elim (fun h => absurd h (nn rfl)) (fun q => q.elim (fun h => absurd h (nn rfl)) (fun h => absurd h (nn rfl)))))
theorem qn_bbb7747f7 {j : Int} : ¬ (((0 : Nat) = 41 ∧ j = 0) ∨ (0 : Nat) = 42 ∨ (0 : Nat) = 54 ∨ (0 : Nat) = 55) := (fun q => q.elim (fun h => absurd h.1 (nn rfl)) (fun q => q.elim (fun h => absurd h (nn rfl)) (fun q => q.elim (fun h => absurd h (nn rfl)) (fun h => absurd h (nn rfl)))))
theorem qn_e0cc749b3 {j : Int} : ¬ (((2 : Nat) = 41 ∧ j = 0) ∨ (2 : Nat) = 42 ∨ (2 : Nat) = 54 ∨ (2 : Nat) = 55) := (fun q => q.elim (fun h => absurd h.1 (nn rfl)) (fun q => q.elim (fun h => absurd h (nn rfl)) (fun q => q.elim (fun h => absurd h (nn rfl)) (fun h => absurd h (nn rfl)))))
theorem qn_aaebe4308 {P : Nat} {j : Int} (hP : P = 13 ∨ P = 25) : ¬ (((2 : Nat) = 0 ∧ j = 13) ∨ (2 : Nat) = (P + 10) ∨ (2 : Nat) = (P + 11)) := (fun q => q.elim (fun h => absurd h.1 (nn rfl)) (fun q => q.elim (fun h => absurd h (pn hP rfl rfl)) (fun h => absurd h (pn hP rfl rfl))))
theorem qn_53d487302 {j : Int} : ¬ (((43 : Nat) = 41 ∧ j = 0) ∨ (43 : Nat) = 42 ∨ (43 : Nat) = 54 ∨ (43 : Nat) = 55) := (fun q => q.elim (fun h => absurd h.1 (nn rfl)) (fun q => q.elim (fun h => absurd h (nn rfl)) (fun q => q.elim (fun h => absurd h (nn rfl)) (fun h => absurd h (nn rfl)))))
theorem qn_3e58b8819 {P : Nat} {j : Int} (hP : P = 13 ∨ P = 25) : ¬ (((43 : Nat) = 0 ∧ j = 13) ∨ (43 : Nat) = (P + 10) ∨ (43 : Nat) = (P + 11)) := (fun q => q.elim (fun h => absurd h.1 (nn rfl)) (fun q => q.elim (fun h => absurd h (pn hP rfl rfl)) (fun h => absurd h (pn hP rfl rfl))))
theorem q_da03c47a7 {x0 x1 x2 x3 x4 x5 x6 : Int} (f0 : (x0 ≥ 0 ∧ x0 ≤ 9999 ∧ x1 ≥ 0 ∧ x1 ≤ 9999 ∧ x2 ≥ 0 ∧ x2 ≤ 9999 ∧ x3 ≥ 0 ∧ x3 ≤ 9999 ∧ x4 ≥ 0 ∧ x4 ≤ 400 ∧ x5 ≥ 0 ∧ x5 ≤ 400 ∧ x6 ≥ 0 ∧ x6 ≤ 5)) : (-2147483648) ≤ x0 := by omega
theorem q_f285d6b17 {x0 x1 x2 x3 x4 x5 x6 : Int} (f0 : (x0 ≥ 0 ∧ x0 ≤ 9999 ∧ x1 ≥ 0 ∧ x1 ≤ 9999 ∧ x2 ≥ 0 ∧ x2 ≤ 9999 ∧ x3 ≥ 0 ∧ x3 ≤ 9999 ∧ x4 ≥ 0 ∧ x4 ≤ 400 ∧ x5 ≥ 0 ∧ x5 ≤ 400 ∧ x6 ≥ 0 ∧ x6 ≤ 5)) : x0 ≤ 2147483647 := by omega
theorem q_cbfd1ab31 {x0 x1 x2 x3 x4 x5 x6 : Int} (f0 : (x0 ≥ 0 ∧ x0 ≤ 9999 ∧ x1 ≥ 0 ∧ x1 ≤ 9999 ∧ x2 ≥ 0 ∧ x2 ≤ 9999 ∧ x3 ≥ 0 ∧ x3 ≤ 9999 ∧ x4 ≥ 0 ∧ x4 ≤ 400 ∧ x5 ≥ 0 ∧ x5 ≤ 400 ∧ x6 ≥ 0 ∧ x6 ≤ 5)) : (-2147483648) ≤ x1 := by omega
theorem q_aa30b0323 {x0 x1 x2 x3 x4 x5 x6 : Int} (f0 : (x0 ≥ 0 ∧ x0 ≤ 9999 ∧ x1 ≥ 0 ∧ x1 ≤ 9999 ∧ x2 ≥ 0 ∧ x2 ≤ 9999 ∧ x3 ≥ 0 ∧ x3 ≤ 9999 ∧ x4 ≥ 0 ∧ x4 ≤ 400 ∧ x5 ≥ 0 ∧ x5 ≤ 400 ∧ x6 ≥ 0 ∧ x6 ≤ 5)) : x1 ≤ 2147483647 := by omega
theorem q_cf34cca7e {x0 x1 x2 x3 x4 x5 x6 : Int} (f0 : (x0 ≥ 0 ∧ x0 ≤ 9999 ∧ x1 ≥ 0 ∧ x1 ≤ 9999 ∧ x2 ≥ 0 ∧ x2 ≤ 9999 ∧ x3 ≥ 0 ∧ x3 ≤ 9999 ∧ x4 ≥ 0 ∧ x4 ≤ 400 ∧ x5 ≥ 0 ∧ x5 ≤ 400 ∧ x6 ≥ 0 ∧ x6 ≤ 5)) : (-2147483648) ≤ x2 := by omega
theorem q_61e21d23b {x0 x1 x2 x3 x4 x5 x6 : Int} (f0 : (x0 ≥ 0 ∧ x0 ≤ 9999 ∧ x1 ≥ 0 ∧ x1 ≤ 9999 ∧ x2 ≥ 0 ∧ x2 ≤ 9999 ∧ x3 ≥ 0 ∧ x3 ≤ 9999 ∧ x4 ≥ 0 ∧ x4 ≤ 400 ∧ x5 ≥ 0 ∧ x5 ≤ 400 ∧ x6 ≥ 0 ∧ x6 ≤ 5)) : x2 ≤ 2147483647 := by omega
theorem q_d20fec8a0 {x0 x1 x2 x3 x4 x5 x6 : Int} (f0 : (x0 ≥ 0 ∧ x0 ≤ 9999 ∧ x1 ≥ 0 ∧ x1 ≤ 9999 ∧ x2 ≥ 0 ∧ x2 ≤ 9999 ∧ x3 ≥ 0 ∧ x3 ≤ 9999 ∧ x4 ≥ 0 ∧ x4 ≤ 400 ∧ x5 ≥ 0 ∧ x5 ≤ 400 ∧ x6 ≥ 0 ∧ x6 ≤ 5)) : (-2147483648) ≤ x3 := by omega
theorem q_049e512da {x0 x1 x2 x3 x4 x5 x6 : Int} (f0 : (x0 ≥ 0 ∧ x0 ≤ 9999 ∧ x1 ≥ 0 ∧ x1 ≤ 9999 ∧ x2 ≥ 0 ∧ x2 ≤ 9999 ∧ x3 ≥ 0 ∧ x3 ≤ 9999 ∧ x4 ≥ 0 ∧ x4 ≤ 400 ∧ x5 ≥ 0 ∧ x5 ≤ 400 ∧ x6 ≥ 0 ∧ x6 ≤ 5)) : x3 ≤ 2147483647 := by omega
theorem q_52ff8e19b {x0 x1 x2 x3 x4 x5 x6 : Int} (f0 : (x0 ≥ 0 ∧ x0 ≤ 9999 ∧ x1 ≥ 0 ∧ x1 ≤ 9999 ∧ x2 ≥ 0 ∧ x2 ≤ 9999 ∧ x3 ≥ 0 ∧ x3 ≤ 9999 ∧ x4 ≥ 0 ∧ x4 ≤ 400 ∧ x5 ≥ 0 ∧ x5 ≤ 400 ∧ x6 ≥ 0 ∧ x6 ≤ 5)) : (-2147483648) ≤ x4 := by omega
theorem q_228a68fd2 {x0 x1 x2 x3 x4 x5 x6 : Int} (f0 : (x0 ≥ 0 ∧ x0 ≤ 9999 ∧ x1 ≥ 0 ∧ x1 ≤ 9999 ∧ x2 ≥ 0 ∧ x2 ≤ 9999 ∧ x3 ≥ 0 ∧ x3 ≤ 9999 ∧ x4 ≥ 0 ∧ x4 ≤ 400 ∧ x5 ≥ 0 ∧ x5 ≤ 400 ∧ x6 ≥ 0 ∧ x6 ≤ 5)) : x4 ≤ 2147483647 := by omega
theorem q_df972efe5 {x0 x1 x2 x3 x4 x5 x6 : Int} (f0 : (x0 ≥ 0 ∧ x0 ≤ 9999 ∧ x1 ≥ 0 ∧ x1 ≤ 9999 ∧ x2 ≥ 0 ∧ x2 ≤ 9999 ∧ x3 ≥ 0 ∧ x3 ≤ 9999 ∧ x4 ≥ 0 ∧ x4 ≤ 400 ∧ x5 ≥ 0 ∧ x5 ≤ 400 ∧ x6 ≥ 0 ∧ x6 ≤ 5)) : (-2147483648) ≤ x5 := by omega
theorem q_edfbc4481 {x0 x1 x2 x3 x4 x5 x6 : Int} (f0 : (x0 ≥ 0 ∧ x0 ≤ 9999 ∧ x1 ≥ 0 ∧ x1 ≤ 9999 ∧ x2 ≥ 0 ∧ x2 ≤ 9999 ∧ x3 ≥ 0 ∧ x3 ≤ 9999 ∧ x4 ≥ 0 ∧ x4 ≤ 400 ∧ x5 ≥ 0 ∧ x5 ≤ 400 ∧ x6 ≥ 0 ∧ x6 ≤ 5)) : x5 ≤ 2147483647 := by omega
theorem q_1be3c0783 {x0 x1 x2 x3 x4 x5 x6 : Int} (f0 : (x0 ≥ 0 ∧ x0 ≤ 9999 ∧ x1 ≥ 0 ∧ x1 ≤ 9999 ∧ x2 ≥ 0 ∧ x2 ≤ 9999 ∧ x3 ≥ 0 ∧ x3 ≤ 9999 ∧ x4 ≥ 0 ∧ x4 ≤ 400 ∧ x5 ≥ 0 ∧ x5 ≤ 400 ∧ x6 ≥ 0 ∧ x6 ≤ 5)) : (-2147483648) ≤ x6 := by omega
theorem q_e7c18f7b3 {x0 x1 x2 x3 x4 x5 x6 : Int} (f0 : (x0 ≥ 0 ∧ x0 ≤ 9999 ∧ x1 ≥ 0 ∧ x1 ≤ 9999 ∧ x2 ≥ 0 ∧ x2 ≤ 9999 ∧ x3 ≥ 0 ∧ x3 ≤ 9999 ∧ x4 ≥ 0 ∧ x4 ≤ 400 ∧ x5 ≥ 0 ∧ x5 ≤ 400 ∧ x6 ≥ 0 ∧ x6 ≤ 5)) : x6 ≤ 2147483647 := by omega
theorem qn_f6e9e9f23 {j : Int} : ¬ (((41 : Nat) = 0 ∧ j = 12) ∨ ((41 : Nat) = 0 ∧ j = 13) ∨ (41 : Nat) = 40) := (fun q => q.elim (fun h => absurd h.1 (nn rfl)) (fun q => q.elim (fun h => absurd h.1 (nn rfl)) (fun h => absurd h (nn rfl))))
theorem qn_f10b7be0a {j : Int} : ¬ (((42 : Nat) = 0 ∧ j = 12) ∨ ((42 : Nat) = 0 ∧ j = 13) ∨ (42 : Nat) = 40) := (fun q => q.elim (fun h => absurd h.1 (nn rfl)) (fun q => q.elim (fun h => absurd h.1 (nn rfl)) (fun h => absurd h (nn rfl))))
theorem qn_ab545a015 {j : Int} : ¬ (((1 : Nat) = 0 ∧ j = 12) ∨ ((1 : Nat) = 0 ∧ j = 13) ∨ (1 : Nat) = 40) := (fun q => q.elim (fun h => absurd h.1 (nn rfl)) (fun q => q.elim (fun h => absurd h.1 (nn rfl)) (fun h => absurd h (nn rfl))))
theorem qn_2ab083081 {P : Nat} {j : Int} (hP : P = 13 ∨ P = 25) : ¬ ((P = 0 ∧ j = 12) ∨ (P = 0 ∧ j = 13) ∨ P = 40) := (fun q => q.elim (fun h => absurd h.1 (np0 hP rfl)) (fun q => q.elim (fun h => absurd h.1 (np0 hP rfl)) (fun h => absurd h (np0 hP rfl))))
theorem qn_326a9cf27 {j : Int} : ¬ (((2 : Nat) = 0 ∧ j = 12) ∨ ((2 : Nat) = 0 ∧ j = 13) ∨ (2 : Nat) = 40) := (fun q => q.elim (fun h => absurd h.1 (nn rfl)) (fun q => q.elim (fun h => absurd h.1 (nn rfl)) (fun h => absurd h (nn rfl))))
theorem qn_dee8a76c5 {j : Int} : ¬ (((43 : Nat) = 0 ∧ j = 12) ∨ ((43 : Nat) = 0 ∧ j = 13) ∨ (43 : Nat) = 40) := (fun q => q.elim (fun h => absurd h.1 (nn rfl)) (fun q => q.elim (fun h => absurd h.1 (nn rfl)) (fun h => absurd h (nn rfl))))
theorem q_8223dcfca {x0 x1 x2 x3 x4 x5 x6 : Int} (f0 : (x0 ≥ 0 ∧ x0 ≤ x1 - 1 ∧ x2 ≥ 0 ∧ x2 ≤ x3 - 1 ∧ x4 ≥ 0 ∧ x4 ≤ 4)) (f1 : x1 = x5) (f2 : x3 = x6) : (-2147483648) ≤ x0 := by omega
theorem q_db7026135 {x0 x1 x2 x3 x4 x5 x6 : Int} (f0 : (x0 ≥ 0 ∧ x0 ≤ x1 - 1 ∧ x2 ≥ 0 ∧ x2 ≤ x3 - 1 ∧ x4 ≥ 0 ∧ x4 ≤ 4)) (f1 : x1 = x5) (f2 : x3 = x6) : (-2147483648) ≤ x2 := by omega
theorem q_4cd816883 {x0 x1 x2 x3 x4 x5 x6 : Int} (f0 : (x0 ≥ 0 ∧ x0 ≤ x1 - 1 ∧ x2 ≥ 0 ∧ x2 ≤ x3 - 1 ∧ x4 ≥ 0 ∧ x4 ≤ 4)) (f1 : x1 = x5) (f2 : x3 = x6) : (-2147483648) ≤ x4 := by omega
theorem q_53b6c2f48 {x0 x1 x2 x3 x4 x5 x6 : Int} (f0 : (x0 ≥ 0 ∧ x0 ≤ x1 - 1 ∧ x2 ≥ 0 ∧ x2 ≤ x3 - 1 ∧ x4 ≥ 0 ∧ x4 ≤ 4)) (f1 : x1 = x5) (f2 : x3 = x6) : x4 ≤ 2147483647 := by omega
theorem q_8cf7d7746 {x0 x1 x2 x3 x4 x5 x6 : Int} (f0 : (x0 ≥ 0 ∧ x0 ≤ x1 - 1 ∧ x2 ≥ 0 ∧ x2 ≤ x3 - 1 ∧ x4 ≥ 0 ∧ x4 ≤ 1000)) (f1 : x1 = x5) (f2 : x3 = x6) : (-2147483648) ≤ x0 := by omega
theorem q_ecc7373e2 {x0 x1 x2 x3 x4 x5 x6 : Int} (f0 : (x0 ≥ 0 ∧ x0 ≤ x1 - 1 ∧ x2 ≥ 0 ∧ x2 ≤ x3 - 1 ∧ x4 ≥ 0 ∧ x4 ≤ 1000)) (f1 : x1 = x5) (f2 : x3 = x6) : (-2147483648) ≤ x2 := by omega
theorem q_8d6de6396 {x0 x1 x2 x3 x4 x5 x6 : Int} (f0 : (x0 ≥ 0 ∧ x0 ≤ x1 - 1 ∧ x2 ≥ 0 ∧ x2 ≤ x3 - 1 ∧ x4 ≥ 0 ∧ x4 ≤ 1000)) (f1 : x1 = x5) (f2 : x3 = x6) : (-2147483648) ≤ x4 := by omega
theorem q_dd1ed5f38 {x0 x1 x2 x3 x4 x5 x6 : Int} (f0 : (x0 ≥ 0 ∧ x0 ≤ x1 - 1 ∧ x2 ≥ 0 ∧ x2 ≤ x3 - 1 ∧ x4 ≥ 0 ∧ x4 ≤ 1000)) (f1 : x1 = x5) (f2 : x3 = x6) : x4 ≤ 2147483647 := by omega
theorem qn_ad6320866 {j : Int} : ¬ (((41 : Nat) = 0 ∧ j = 12) ∨ ((41 : Nat) = 0 ∧ j = 13) ∨ (41 : Nat) = 12) := (fun q => q.elim (fun h => absurd h.1 (nn rfl)) (fun q => q.elim (fun h => absurd h.1 (nn rfl)) (fun h => absurd h (nn rfl))))
theorem qn_f997813ab {j : Int} : ¬ (((42 : Nat) = 0 ∧ j = 12) ∨ ((42 : Nat) = 0 ∧ j = 13) ∨ (42 : Nat) = 12) := (fun q => q.elim (fun h => absurd h.1 (nn rfl)) (fun q => q.elim (fun h => absurd h.1 (nn rfl)) (fun h => absurd h (nn rfl))))
theorem qn_eae2a9dd9 {j : Int} : ¬ (((1 : Nat) = 0 ∧ j = 12) ∨ ((1 : Nat) = 0 ∧ j = 13) ∨ (1 : Nat) = 12) := (fun q => q.elim (fun h => absurd h.1 (nn rfl)) (fun q => q.elim (fun h => absurd h.1 (nn rfl)) (fun h => absurd h (nn rfl))))
theorem qn_37f624f87 {j : Int} : ¬ (((2 : Nat) = 0 ∧ j = 12) ∨ ((2 : Nat) = 0 ∧ j = 13) ∨ (2 : Nat) = 12) := (fun q => q.elim (fun h => absurd h.1 (nn rfl)) (fun q => q.elim (fun h => absurd h.1 (nn rfl)) (fun h => absurd h (nn rfl))))
theorem qn_f1cf9021e {j : Int} : ¬ (((43 : Nat) = 0 ∧ j = 12) ∨ ((43 : Nat) = 0 ∧ j = 13) ∨ (43 : Nat) = 12) := (fun q => q.elim (fun h => absurd h.1 (nn rfl)) (fun q => q.elim (fun h => absurd h.1 (nn rfl)) (fun h => absurd h (nn rfl))))
theorem q_fb094900f {x0 x1 x2 x3 : Int} (f0 : (x0 ≥ 0 ∧ x0 ≤ x1 - 1 ∧ x2 ≥ 0)) (f1 : x1 = x3) : (-2147483648) ≤ x0 := by omega
theorem q_ffbf3d451 {x0 x1 x2 x3 : Int} (f0 : (x0 ≥ 0 ∧ x0 ≤ x1 - 1 ∧ x2 ≥ 0)) (f1 : x1 = x3) : (-2147483648) ≤ x2 := by omega
theorem qn_691fb4e77 {P : Nat} {j : Int} (hP : P = 13 ∨ P = 25) : ¬ (((41 : Nat) = 0 ∧ j = 13) ∨ (41 : Nat) = (P + 10) ∨ (41 : Nat) = (P + 11) ∨ (41 : Nat) = 11) := (fun q => q.elim (fun h => absurd h.1 (nn rfl)) (fun q => q.elim (fun h => absurd h (pn hP rfl rfl)) (fun q => q.elim (fun h => absurd h (pn hP rfl rfl)) (fun h => absurd h (nn rfl)))))
theorem qn_e34b2ab27 {P : Nat} {j : Int} (hP : P = 13 ∨ P = 25) : ¬ (((42 : Nat) = 0 ∧ j = 13) ∨ (42 : Nat) = (P + 10) ∨ (42 : Nat) = (P + 11) ∨ (42 : Nat) = 11) := (fun q => q.elim (fun h => absurd h.1 (nn rfl)) (fun q => q.elim (fun h => absurd h (pn hP rfl rfl)) (fun q => q.elim (fun h => absurd h (pn hP rfl rfl)) (fun h => absurd h (nn rfl)))))
theorem qn_3770fd1a9 {P : Nat} {j : Int} (hP : P = 13 ∨ P = 25) : ¬ (((1 : Nat) = 0 ∧ j = 13) ∨ (1 : Nat) = (P + 10) ∨ (1 : Nat) = (P + 11) ∨ (1 : Nat) = 11) := (fun q => q.elim (fun h => absurd h.1 (nn rfl)) (fun q => q.elim (fun h => absurd h (pn hP rfl rfl)) (fun q => q.elim (fun h => absurd h (pn hP rfl rfl)) (fun h => absurd h (nn rfl)))))
theorem qn_75dcb717b {P : Nat} {j : Int} (hP : P = 13 ∨ P = 25) : ¬ ((P = 0 ∧ j = 13) ∨ P = (P + 10) ∨ P = (P + 11) ∨ P = 11) := (fun q => q.elim (fun h => absurd h.1 (np0 hP rfl)) (fun q => q.elim (fun h => absurd h (p0p rfl)) (fun q => q.elim (fun h => absurd h (p0p rfl)) (fun h => absurd h (np0 hP rfl)))))
theorem qn_28c0e9630 {P : Nat} {j : Int} (hP : P = 13 ∨ P = 25) : ¬ (((2 : Nat) = 0 ∧ j = 13) ∨ (2 : Nat) = (P + 10) ∨ (2 : Nat) = (P + 11) ∨ (2 : Nat) = 11) := (fun q => q.elim (fun h => absurd h.1 (nn rfl)) (fun q => q.elim (fun h => absurd h (pn hP rfl rfl)) (fun q => q.elim (fun h => absurd h (pn hP rfl rfl)) (fun h => absurd h (nn rfl)))))
theorem qn_824e8473b {P : Nat} {j : Int} (hP : P = 13 ∨ P = 25) : ¬ (((43 : Nat) = 0 ∧ j = 13) ∨ (43 : Nat) = (P + 10) ∨ (43 : Nat) = (P + 11) ∨ (43 : Nat) = 11) := (fun q => q.elim (fun h => absurd h.1 (nn rfl)) (fun q => q.elim (fun h => absurd h (pn hP rfl rfl)) (fun q => q.elim (fun h => absurd h (pn hP rfl rfl)) (fun h => absurd h (nn rfl)))))
theorem qn_e391c0369 {P : Nat} {j : Int} (hP : P = 13 ∨ P = 25) : ¬ ((P = 0 ∧ j = 13) ∨ P = 10) := (fun q => q.elim (fun h => absurd h.1 (np0 hP rfl)) (fun h => absurd h (np0 hP rfl)))
theorem q_946aba308 {x0 : Int} (f0 : (x0 ≥ 0 ∧ x0 ≤ 1)) : (-2147483648) ≤ x0 := by omega
theorem q_fe021046e {x0 : Int} (f0 : (x0 ≥ 0 ∧ x0 ≤ 1)) : x0 ≤ 2147483647 := by omega
theorem c_296_615 : mLk 296 615 = some (.aload_n 1, 1) := rfl
theorem c_296_616 : mLk 296 616 = some (.aload_n 0, 1) := rfl
theorem c_296_617 : mLk 296 617 = some (.iload 4, 2) := rfl
theorem c_296_619 : mLk 296 619 = some (.iconst 1, 1) := rfl
theorem c_296_620 : mLk 296 620 = some (.iadd, 1) := rfl
theorem c_296_621 : mLk 296 621 = some (.iaload, 1) := rfl
theorem c_296_622 : mLk 296 622 = some (.aload_n 3, 1) := rfl
theorem c_296_623 : mLk 296 623 = some (.invokestatic 168, 3) := rfl
theorem c_272_0 : mLk 272 0 = some (.aload_n 2, 1) := rfl
theorem c_272_1 : mLk 272 1 = some (.iconst 0, 1) := rfl
theorem c_272_2 : mLk 272 2 = some (.aload_n 0, 1) := rfl
theorem c_272_3 : mLk 272 3 = some (.iload_n 1, 1) := rfl
theorem c_272_4 : mLk 272 4 = some (.invokevirtual 42, 3) := rfl
theorem c_296_626 : mLk 296 626 = some (.istore 5, 2) := rfl
theorem c_296_628 : mLk 296 628 = some (.aload_n 2, 1) := rfl
theorem c_296_629 : mLk 296 629 = some (.aload_n 0, 1) := rfl
theorem c_296_630 : mLk 296 630 = some (.iload 4, 2) := rfl
theorem c_296_632 : mLk 296 632 = some (.iconst 1, 1) := rfl
theorem c_296_633 : mLk 296 633 = some (.iadd, 1) := rfl
theorem c_296_634 : mLk 296 634 = some (.iaload, 1) := rfl
theorem c_296_635 : mLk 296 635 = some (.invokevirtual 170, 3) := rfl
theorem c_296_638 : mLk 296 638 = some (.istore 6, 2) := rfl
theorem c_296_640 : mLk 296 640 = some (.goto 1176, 3) := rfl
theorem c_272_7 : mLk 272 7 = some (.i2l, 1) := rfl
theorem c_272_8 : mLk 272 8 = some (.lastore, 1) := rfl
theorem c_272_9 : mLk 272 9 = some (.goto 6, 3) := rfl
theorem c_272_15 : mLk 272 15 = some (.iconst 0, 1) := rfl
theorem c_272_16 : mLk 272 16 = some (.ireturn, 1) := rfl
theorem c_296_643 : mLk 296 643 = some (.aload_n 1, 1) := rfl
theorem c_296_644 : mLk 296 644 = some (.aload_n 0, 1) := rfl
theorem c_296_645 : mLk 296 645 = some (.iload 4, 2) := rfl
theorem c_296_647 : mLk 296 647 = some (.iconst 1, 1) := rfl
theorem c_296_648 : mLk 296 648 = some (.iadd, 1) := rfl
theorem c_296_649 : mLk 296 649 = some (.iaload, 1) := rfl
theorem c_296_650 : mLk 296 650 = some (.aload_n 0, 1) := rfl
theorem c_296_651 : mLk 296 651 = some (.iload 4, 2) := rfl
theorem c_296_653 : mLk 296 653 = some (.iconst 2, 1) := rfl
theorem c_296_654 : mLk 296 654 = some (.iadd, 1) := rfl
theorem c_296_655 : mLk 296 655 = some (.iaload, 1) := rfl
theorem c_296_656 : mLk 296 656 = some (.aload_n 0, 1) := rfl
theorem c_296_657 : mLk 296 657 = some (.iload 4, 2) := rfl
theorem c_296_659 : mLk 296 659 = some (.iconst 3, 1) := rfl
theorem c_296_660 : mLk 296 660 = some (.iadd, 1) := rfl
theorem c_296_661 : mLk 296 661 = some (.iaload, 1) := rfl
theorem c_296_662 : mLk 296 662 = some (.aload_n 0, 1) := rfl
theorem c_296_663 : mLk 296 663 = some (.iload 4, 2) := rfl
theorem c_296_665 : mLk 296 665 = some (.iconst 4, 1) := rfl
theorem c_296_666 : mLk 296 666 = some (.iadd, 1) := rfl
theorem c_296_667 : mLk 296 667 = some (.iaload, 1) := rfl
theorem c_296_668 : mLk 296 668 = some (.aload_n 0, 1) := rfl
theorem c_296_669 : mLk 296 669 = some (.iload 4, 2) := rfl
theorem c_296_671 : mLk 296 671 = some (.iconst 5, 1) := rfl
theorem c_296_672 : mLk 296 672 = some (.iadd, 1) := rfl
theorem c_296_673 : mLk 296 673 = some (.iaload, 1) := rfl
theorem c_296_674 : mLk 296 674 = some (.aload_n 0, 1) := rfl
theorem c_296_675 : mLk 296 675 = some (.iload 4, 2) := rfl
theorem c_296_677 : mLk 296 677 = some (.bipush 6, 2) := rfl
theorem c_296_679 : mLk 296 679 = some (.iadd, 1) := rfl
theorem c_296_680 : mLk 296 680 = some (.iaload, 1) := rfl
theorem c_296_681 : mLk 296 681 = some (.aload_n 0, 1) := rfl
theorem c_296_682 : mLk 296 682 = some (.iload 4, 2) := rfl
theorem c_296_684 : mLk 296 684 = some (.bipush 7, 2) := rfl
theorem c_296_686 : mLk 296 686 = some (.iadd, 1) := rfl
theorem c_296_687 : mLk 296 687 = some (.iaload, 1) := rfl
theorem c_296_688 : mLk 296 688 = some (.aload_n 3, 1) := rfl
theorem c_296_689 : mLk 296 689 = some (.invokestatic 171, 3) := rfl
theorem c_273_0 : mLk 273 0 = some (.aload 8, 2) := rfl
theorem c_273_2 : mLk 273 2 = some (.iconst 0, 1) := rfl
theorem c_273_3 : mLk 273 3 = some (.aload_n 0, 1) := rfl
theorem c_273_4 : mLk 273 4 = some (.iload_n 1, 1) := rfl
theorem c_273_5 : mLk 273 5 = some (.iload_n 2, 1) := rfl
theorem c_273_6 : mLk 273 6 = some (.iload_n 3, 1) := rfl
theorem c_273_7 : mLk 273 7 = some (.iload 4, 2) := rfl
theorem c_273_9 : mLk 273 9 = some (.iload 5, 2) := rfl
theorem c_273_11 : mLk 273 11 = some (.iload 6, 2) := rfl
theorem c_273_13 : mLk 273 13 = some (.iload 7, 2) := rfl
theorem c_273_15 : mLk 273 15 = some (.invokevirtual 45, 3) := rfl
theorem c_296_692 : mLk 296 692 = some (.istore 5, 2) := rfl
theorem c_296_694 : mLk 296 694 = some (.aload_n 2, 1) := rfl
theorem c_296_695 : mLk 296 695 = some (.aload_n 0, 1) := rfl
theorem c_296_696 : mLk 296 696 = some (.iload 4, 2) := rfl
theorem c_296_698 : mLk 296 698 = some (.iconst 1, 1) := rfl
theorem c_296_699 : mLk 296 699 = some (.iadd, 1) := rfl
theorem c_296_700 : mLk 296 700 = some (.iaload, 1) := rfl
theorem c_296_701 : mLk 296 701 = some (.aload_n 0, 1) := rfl
theorem c_296_702 : mLk 296 702 = some (.iload 4, 2) := rfl
theorem c_296_704 : mLk 296 704 = some (.iconst 2, 1) := rfl
theorem c_296_705 : mLk 296 705 = some (.iadd, 1) := rfl
theorem c_296_706 : mLk 296 706 = some (.iaload, 1) := rfl
theorem c_296_707 : mLk 296 707 = some (.aload_n 0, 1) := rfl
theorem c_296_708 : mLk 296 708 = some (.iload 4, 2) := rfl
theorem c_296_710 : mLk 296 710 = some (.iconst 3, 1) := rfl
theorem c_296_711 : mLk 296 711 = some (.iadd, 1) := rfl
theorem c_296_712 : mLk 296 712 = some (.iaload, 1) := rfl
theorem c_296_713 : mLk 296 713 = some (.aload_n 0, 1) := rfl
theorem c_296_714 : mLk 296 714 = some (.iload 4, 2) := rfl
theorem c_296_716 : mLk 296 716 = some (.iconst 4, 1) := rfl
theorem c_296_717 : mLk 296 717 = some (.iadd, 1) := rfl
theorem c_296_718 : mLk 296 718 = some (.iaload, 1) := rfl
theorem c_296_719 : mLk 296 719 = some (.aload_n 0, 1) := rfl
theorem c_296_720 : mLk 296 720 = some (.iload 4, 2) := rfl
theorem c_296_722 : mLk 296 722 = some (.iconst 5, 1) := rfl
theorem c_296_723 : mLk 296 723 = some (.iadd, 1) := rfl
theorem c_296_724 : mLk 296 724 = some (.iaload, 1) := rfl
theorem c_296_725 : mLk 296 725 = some (.aload_n 0, 1) := rfl
theorem c_296_726 : mLk 296 726 = some (.iload 4, 2) := rfl
theorem c_296_728 : mLk 296 728 = some (.bipush 6, 2) := rfl
theorem c_296_730 : mLk 296 730 = some (.iadd, 1) := rfl
theorem c_296_731 : mLk 296 731 = some (.iaload, 1) := rfl
theorem c_296_732 : mLk 296 732 = some (.aload_n 0, 1) := rfl
theorem c_296_733 : mLk 296 733 = some (.iload 4, 2) := rfl
theorem c_296_735 : mLk 296 735 = some (.bipush 7, 2) := rfl
theorem c_296_737 : mLk 296 737 = some (.iadd, 1) := rfl
theorem c_296_738 : mLk 296 738 = some (.iaload, 1) := rfl
theorem c_296_739 : mLk 296 739 = some (.invokevirtual 174, 3) := rfl
theorem c_296_742 : mLk 296 742 = some (.istore 6, 2) := rfl
theorem c_296_744 : mLk 296 744 = some (.goto 1072, 3) := rfl
theorem c_273_18 : mLk 273 18 = some (.i2l, 1) := rfl
theorem c_273_19 : mLk 273 19 = some (.lastore, 1) := rfl
theorem c_273_20 : mLk 273 20 = some (.goto 7, 3) := rfl
theorem c_273_27 : mLk 273 27 = some (.iconst 0, 1) := rfl
theorem c_273_28 : mLk 273 28 = some (.ireturn, 1) := rfl
theorem c_296_747 : mLk 296 747 = some (.aload_n 1, 1) := rfl
theorem c_296_748 : mLk 296 748 = some (.aload_n 0, 1) := rfl
theorem c_296_749 : mLk 296 749 = some (.iload 4, 2) := rfl
theorem c_296_751 : mLk 296 751 = some (.iconst 1, 1) := rfl
theorem c_296_752 : mLk 296 752 = some (.iadd, 1) := rfl
theorem c_296_753 : mLk 296 753 = some (.iaload, 1) := rfl
theorem c_296_754 : mLk 296 754 = some (.aload_n 0, 1) := rfl
theorem c_296_755 : mLk 296 755 = some (.iload 4, 2) := rfl
theorem c_296_757 : mLk 296 757 = some (.iconst 2, 1) := rfl
theorem c_296_758 : mLk 296 758 = some (.iadd, 1) := rfl
theorem c_296_759 : mLk 296 759 = some (.iaload, 1) := rfl
theorem c_296_760 : mLk 296 760 = some (.aload_n 0, 1) := rfl
theorem c_296_761 : mLk 296 761 = some (.iload 4, 2) := rfl
theorem c_296_763 : mLk 296 763 = some (.iconst 3, 1) := rfl
theorem c_296_764 : mLk 296 764 = some (.iadd, 1) := rfl
theorem c_296_765 : mLk 296 765 = some (.iaload, 1) := rfl
theorem c_296_766 : mLk 296 766 = some (.aload_n 3, 1) := rfl
theorem c_296_767 : mLk 296 767 = some (.invokestatic 175, 3) := rfl
theorem c_274_0 : mLk 274 0 = some (.aload 4, 2) := rfl
theorem c_274_2 : mLk 274 2 = some (.iconst 0, 1) := rfl
theorem c_274_3 : mLk 274 3 = some (.aload_n 0, 1) := rfl
theorem c_274_4 : mLk 274 4 = some (.iload_n 1, 1) := rfl
theorem c_274_5 : mLk 274 5 = some (.iload_n 2, 1) := rfl
theorem c_274_6 : mLk 274 6 = some (.iload_n 3, 1) := rfl
theorem c_274_7 : mLk 274 7 = some (.invokevirtual 49, 3) := rfl
theorem c_296_770 : mLk 296 770 = some (.istore 5, 2) := rfl
theorem c_296_772 : mLk 296 772 = some (.aload_n 2, 1) := rfl
theorem c_296_773 : mLk 296 773 = some (.aload_n 0, 1) := rfl
theorem c_296_774 : mLk 296 774 = some (.iload 4, 2) := rfl
theorem c_296_776 : mLk 296 776 = some (.iconst 1, 1) := rfl
theorem c_296_777 : mLk 296 777 = some (.iadd, 1) := rfl
theorem c_296_778 : mLk 296 778 = some (.iaload, 1) := rfl
theorem c_296_779 : mLk 296 779 = some (.aload_n 0, 1) := rfl
theorem c_296_780 : mLk 296 780 = some (.iload 4, 2) := rfl
theorem c_296_782 : mLk 296 782 = some (.iconst 2, 1) := rfl
theorem c_296_783 : mLk 296 783 = some (.iadd, 1) := rfl
theorem c_296_784 : mLk 296 784 = some (.iaload, 1) := rfl
theorem c_296_785 : mLk 296 785 = some (.aload_n 0, 1) := rfl
theorem c_296_786 : mLk 296 786 = some (.iload 4, 2) := rfl
theorem c_296_788 : mLk 296 788 = some (.iconst 3, 1) := rfl
theorem c_296_789 : mLk 296 789 = some (.iadd, 1) := rfl
theorem c_296_790 : mLk 296 790 = some (.iaload, 1) := rfl
theorem c_296_791 : mLk 296 791 = some (.invokevirtual 178, 3) := rfl
theorem c_296_794 : mLk 296 794 = some (.istore 6, 2) := rfl
theorem c_296_796 : mLk 296 796 = some (.goto 1020, 3) := rfl
theorem c_274_10 : mLk 274 10 = some (.i2l, 1) := rfl
theorem c_274_11 : mLk 274 11 = some (.lastore, 1) := rfl
theorem c_274_12 : mLk 274 12 = some (.goto 11, 3) := rfl
theorem c_274_23 : mLk 274 23 = some (.iconst 0, 1) := rfl
theorem c_274_24 : mLk 274 24 = some (.ireturn, 1) := rfl
theorem c_296_799 : mLk 296 799 = some (.aload_n 1, 1) := rfl
theorem c_296_800 : mLk 296 800 = some (.aload_n 0, 1) := rfl
theorem c_296_801 : mLk 296 801 = some (.iload 4, 2) := rfl
theorem c_296_803 : mLk 296 803 = some (.iconst 1, 1) := rfl
theorem c_296_804 : mLk 296 804 = some (.iadd, 1) := rfl
theorem c_296_805 : mLk 296 805 = some (.iaload, 1) := rfl
theorem c_296_806 : mLk 296 806 = some (.aload_n 0, 1) := rfl
theorem c_296_807 : mLk 296 807 = some (.iload 4, 2) := rfl
theorem c_296_809 : mLk 296 809 = some (.iconst 2, 1) := rfl
theorem c_296_810 : mLk 296 810 = some (.iadd, 1) := rfl
theorem c_296_811 : mLk 296 811 = some (.iaload, 1) := rfl
theorem c_296_812 : mLk 296 812 = some (.aload_n 0, 1) := rfl
theorem c_296_813 : mLk 296 813 = some (.iload 4, 2) := rfl
theorem c_296_815 : mLk 296 815 = some (.iconst 3, 1) := rfl
theorem c_296_816 : mLk 296 816 = some (.iadd, 1) := rfl
theorem c_296_817 : mLk 296 817 = some (.iaload, 1) := rfl
theorem c_296_818 : mLk 296 818 = some (.aload_n 3, 1) := rfl
theorem c_296_819 : mLk 296 819 = some (.invokestatic 179, 3) := rfl
theorem c_275_0 : mLk 275 0 = some (.aload 4, 2) := rfl
theorem c_275_2 : mLk 275 2 = some (.iconst 0, 1) := rfl
theorem c_275_3 : mLk 275 3 = some (.aload_n 0, 1) := rfl
theorem c_275_4 : mLk 275 4 = some (.iload_n 1, 1) := rfl
theorem c_275_5 : mLk 275 5 = some (.iload_n 2, 1) := rfl
theorem c_275_6 : mLk 275 6 = some (.iload_n 3, 1) := rfl
theorem c_275_7 : mLk 275 7 = some (.invokevirtual 53, 3) := rfl
theorem c_296_822 : mLk 296 822 = some (.istore 5, 2) := rfl
theorem c_296_824 : mLk 296 824 = some (.aload_n 2, 1) := rfl
theorem c_296_825 : mLk 296 825 = some (.aload_n 0, 1) := rfl
theorem c_296_826 : mLk 296 826 = some (.iload 4, 2) := rfl
theorem c_296_828 : mLk 296 828 = some (.iconst 1, 1) := rfl
theorem c_296_829 : mLk 296 829 = some (.iadd, 1) := rfl
theorem c_296_830 : mLk 296 830 = some (.iaload, 1) := rfl
theorem c_296_831 : mLk 296 831 = some (.aload_n 0, 1) := rfl
theorem c_296_832 : mLk 296 832 = some (.iload 4, 2) := rfl
theorem c_296_834 : mLk 296 834 = some (.iconst 2, 1) := rfl
theorem c_296_835 : mLk 296 835 = some (.iadd, 1) := rfl
theorem c_296_836 : mLk 296 836 = some (.iaload, 1) := rfl
theorem c_296_837 : mLk 296 837 = some (.aload_n 0, 1) := rfl
theorem c_296_838 : mLk 296 838 = some (.iload 4, 2) := rfl
theorem c_296_840 : mLk 296 840 = some (.iconst 3, 1) := rfl
theorem c_296_841 : mLk 296 841 = some (.iadd, 1) := rfl
theorem c_296_842 : mLk 296 842 = some (.iaload, 1) := rfl
theorem c_296_843 : mLk 296 843 = some (.invokevirtual 181, 3) := rfl
theorem c_296_846 : mLk 296 846 = some (.istore 6, 2) := rfl
theorem c_296_848 : mLk 296 848 = some (.goto 968, 3) := rfl
theorem c_275_10 : mLk 275 10 = some (.i2l, 1) := rfl
theorem c_275_11 : mLk 275 11 = some (.lastore, 1) := rfl
theorem c_275_12 : mLk 275 12 = some (.goto 11, 3) := rfl
theorem c_275_23 : mLk 275 23 = some (.iconst 0, 1) := rfl
theorem c_275_24 : mLk 275 24 = some (.ireturn, 1) := rfl
theorem c_296_851 : mLk 296 851 = some (.aload_n 1, 1) := rfl
theorem c_296_852 : mLk 296 852 = some (.aload_n 0, 1) := rfl
theorem c_296_853 : mLk 296 853 = some (.iload 4, 2) := rfl
theorem c_296_855 : mLk 296 855 = some (.iconst 1, 1) := rfl
theorem c_296_856 : mLk 296 856 = some (.iadd, 1) := rfl
theorem c_296_857 : mLk 296 857 = some (.iaload, 1) := rfl
theorem c_296_858 : mLk 296 858 = some (.aload_n 0, 1) := rfl
theorem c_296_859 : mLk 296 859 = some (.iload 4, 2) := rfl
theorem c_296_861 : mLk 296 861 = some (.iconst 2, 1) := rfl
theorem c_296_862 : mLk 296 862 = some (.iadd, 1) := rfl
theorem c_296_863 : mLk 296 863 = some (.iaload, 1) := rfl
theorem c_296_864 : mLk 296 864 = some (.aload_n 0, 1) := rfl
theorem c_296_865 : mLk 296 865 = some (.iload 4, 2) := rfl
theorem c_296_867 : mLk 296 867 = some (.iconst 3, 1) := rfl
theorem c_296_868 : mLk 296 868 = some (.iadd, 1) := rfl
theorem c_296_869 : mLk 296 869 = some (.iaload, 1) := rfl
theorem c_296_870 : mLk 296 870 = some (.aload_n 3, 1) := rfl
theorem c_296_871 : mLk 296 871 = some (.invokestatic 182, 3) := rfl
theorem c_276_0 : mLk 276 0 = some (.aload 4, 2) := rfl
theorem c_276_2 : mLk 276 2 = some (.iconst 0, 1) := rfl
theorem c_276_3 : mLk 276 3 = some (.aload_n 0, 1) := rfl
theorem c_276_4 : mLk 276 4 = some (.iload_n 1, 1) := rfl
theorem c_276_5 : mLk 276 5 = some (.iload_n 2, 1) := rfl
theorem c_276_6 : mLk 276 6 = some (.iload_n 3, 1) := rfl
theorem c_276_7 : mLk 276 7 = some (.invokevirtual 56, 3) := rfl
theorem c_296_874 : mLk 296 874 = some (.istore 5, 2) := rfl
theorem c_296_876 : mLk 296 876 = some (.aload_n 2, 1) := rfl
theorem c_296_877 : mLk 296 877 = some (.aload_n 0, 1) := rfl
theorem c_296_878 : mLk 296 878 = some (.iload 4, 2) := rfl
theorem c_296_880 : mLk 296 880 = some (.iconst 1, 1) := rfl
theorem c_296_881 : mLk 296 881 = some (.iadd, 1) := rfl
theorem c_296_882 : mLk 296 882 = some (.iaload, 1) := rfl
theorem c_296_883 : mLk 296 883 = some (.aload_n 0, 1) := rfl
theorem c_296_884 : mLk 296 884 = some (.iload 4, 2) := rfl
theorem c_296_886 : mLk 296 886 = some (.iconst 2, 1) := rfl
theorem c_296_887 : mLk 296 887 = some (.iadd, 1) := rfl
theorem c_296_888 : mLk 296 888 = some (.iaload, 1) := rfl
theorem c_296_889 : mLk 296 889 = some (.aload_n 0, 1) := rfl
theorem c_296_890 : mLk 296 890 = some (.iload 4, 2) := rfl
theorem c_296_892 : mLk 296 892 = some (.iconst 3, 1) := rfl
theorem c_296_893 : mLk 296 893 = some (.iadd, 1) := rfl
theorem c_296_894 : mLk 296 894 = some (.iaload, 1) := rfl
theorem c_296_895 : mLk 296 895 = some (.invokevirtual 184, 3) := rfl
theorem c_296_898 : mLk 296 898 = some (.istore 6, 2) := rfl
theorem c_296_900 : mLk 296 900 = some (.goto 916, 3) := rfl
theorem c_276_10 : mLk 276 10 = some (.i2l, 1) := rfl
theorem c_276_11 : mLk 276 11 = some (.lastore, 1) := rfl
theorem c_276_12 : mLk 276 12 = some (.goto 11, 3) := rfl
theorem c_276_23 : mLk 276 23 = some (.iconst 0, 1) := rfl
theorem c_276_24 : mLk 276 24 = some (.ireturn, 1) := rfl
theorem c_296_903 : mLk 296 903 = some (.aload_n 1, 1) := rfl
theorem c_296_904 : mLk 296 904 = some (.aload_n 0, 1) := rfl
theorem c_296_905 : mLk 296 905 = some (.iload 4, 2) := rfl
theorem c_296_907 : mLk 296 907 = some (.iconst 1, 1) := rfl
theorem c_296_908 : mLk 296 908 = some (.iadd, 1) := rfl
theorem c_296_909 : mLk 296 909 = some (.iaload, 1) := rfl
theorem c_296_910 : mLk 296 910 = some (.aload_n 0, 1) := rfl
theorem c_296_911 : mLk 296 911 = some (.iload 4, 2) := rfl
theorem c_296_913 : mLk 296 913 = some (.iconst 2, 1) := rfl
theorem c_296_914 : mLk 296 914 = some (.iadd, 1) := rfl
theorem c_296_915 : mLk 296 915 = some (.iaload, 1) := rfl
theorem c_296_916 : mLk 296 916 = some (.aload_n 3, 1) := rfl
theorem c_296_917 : mLk 296 917 = some (.invokestatic 185, 3) := rfl
theorem c_277_0 : mLk 277 0 = some (.aload_n 3, 1) := rfl
theorem c_277_1 : mLk 277 1 = some (.iconst 0, 1) := rfl
theorem c_277_2 : mLk 277 2 = some (.aload_n 0, 1) := rfl
theorem c_277_3 : mLk 277 3 = some (.iload_n 1, 1) := rfl
theorem c_277_4 : mLk 277 4 = some (.iload_n 2, 1) := rfl
theorem c_277_5 : mLk 277 5 = some (.invokevirtual 59, 3) := rfl
theorem c_296_920 : mLk 296 920 = some (.istore 5, 2) := rfl
theorem c_296_922 : mLk 296 922 = some (.aload_n 2, 1) := rfl
theorem c_296_923 : mLk 296 923 = some (.aload_n 0, 1) := rfl
theorem c_296_924 : mLk 296 924 = some (.iload 4, 2) := rfl
theorem c_296_926 : mLk 296 926 = some (.iconst 1, 1) := rfl
theorem c_296_927 : mLk 296 927 = some (.iadd, 1) := rfl
theorem c_296_928 : mLk 296 928 = some (.iaload, 1) := rfl
theorem c_296_929 : mLk 296 929 = some (.aload_n 0, 1) := rfl
theorem c_296_930 : mLk 296 930 = some (.iload 4, 2) := rfl
theorem c_296_932 : mLk 296 932 = some (.iconst 2, 1) := rfl
theorem c_296_933 : mLk 296 933 = some (.iadd, 1) := rfl
theorem c_296_934 : mLk 296 934 = some (.iaload, 1) := rfl
theorem c_296_935 : mLk 296 935 = some (.invokevirtual 187, 3) := rfl
theorem c_296_938 : mLk 296 938 = some (.istore 6, 2) := rfl
theorem c_296_940 : mLk 296 940 = some (.goto 876, 3) := rfl
theorem c_277_8 : mLk 277 8 = some (.i2l, 1) := rfl
theorem c_277_9 : mLk 277 9 = some (.lastore, 1) := rfl
theorem c_277_10 : mLk 277 10 = some (.goto 11, 3) := rfl
theorem c_277_21 : mLk 277 21 = some (.iconst 0, 1) := rfl
theorem c_277_22 : mLk 277 22 = some (.ireturn, 1) := rfl
theorem c_296_943 : mLk 296 943 = some (.aload_n 1, 1) := rfl
theorem c_296_944 : mLk 296 944 = some (.aload_n 0, 1) := rfl
theorem c_296_945 : mLk 296 945 = some (.iload 4, 2) := rfl
theorem c_296_947 : mLk 296 947 = some (.iconst 1, 1) := rfl
theorem c_296_948 : mLk 296 948 = some (.iadd, 1) := rfl
theorem c_296_949 : mLk 296 949 = some (.iaload, 1) := rfl
theorem c_296_950 : mLk 296 950 = some (.aload_n 0, 1) := rfl
theorem c_296_951 : mLk 296 951 = some (.iload 4, 2) := rfl
theorem c_296_953 : mLk 296 953 = some (.iconst 2, 1) := rfl
theorem c_296_954 : mLk 296 954 = some (.iadd, 1) := rfl
theorem c_296_955 : mLk 296 955 = some (.iaload, 1) := rfl
theorem c_296_956 : mLk 296 956 = some (.aload_n 3, 1) := rfl
theorem c_296_957 : mLk 296 957 = some (.invokestatic 188, 3) := rfl
theorem c_278_0 : mLk 278 0 = some (.aload_n 3, 1) := rfl
theorem c_278_1 : mLk 278 1 = some (.iconst 0, 1) := rfl
theorem c_278_2 : mLk 278 2 = some (.aload_n 0, 1) := rfl
theorem c_278_3 : mLk 278 3 = some (.iload_n 1, 1) := rfl
theorem c_278_4 : mLk 278 4 = some (.iload_n 2, 1) := rfl
theorem c_278_5 : mLk 278 5 = some (.invokevirtual 62, 3) := rfl
theorem c_296_960 : mLk 296 960 = some (.istore 5, 2) := rfl
theorem c_296_962 : mLk 296 962 = some (.aload_n 2, 1) := rfl
theorem c_296_963 : mLk 296 963 = some (.aload_n 0, 1) := rfl
theorem c_296_964 : mLk 296 964 = some (.iload 4, 2) := rfl
theorem c_296_966 : mLk 296 966 = some (.iconst 1, 1) := rfl
theorem c_296_967 : mLk 296 967 = some (.iadd, 1) := rfl
theorem c_296_968 : mLk 296 968 = some (.iaload, 1) := rfl
theorem c_296_969 : mLk 296 969 = some (.aload_n 0, 1) := rfl
theorem c_296_970 : mLk 296 970 = some (.iload 4, 2) := rfl
theorem c_296_972 : mLk 296 972 = some (.iconst 2, 1) := rfl
theorem c_296_973 : mLk 296 973 = some (.iadd, 1) := rfl
theorem c_296_974 : mLk 296 974 = some (.iaload, 1) := rfl
theorem c_296_975 : mLk 296 975 = some (.invokevirtual 190, 3) := rfl
theorem c_296_978 : mLk 296 978 = some (.istore 6, 2) := rfl
theorem c_296_980 : mLk 296 980 = some (.goto 836, 3) := rfl
theorem c_278_8 : mLk 278 8 = some (.i2l, 1) := rfl
theorem c_278_9 : mLk 278 9 = some (.lastore, 1) := rfl
theorem c_278_10 : mLk 278 10 = some (.goto 7, 3) := rfl
theorem c_278_17 : mLk 278 17 = some (.iconst 0, 1) := rfl
theorem c_278_18 : mLk 278 18 = some (.ireturn, 1) := rfl
theorem c_296_983 : mLk 296 983 = some (.aload_n 1, 1) := rfl
theorem c_296_984 : mLk 296 984 = some (.aload_n 0, 1) := rfl
theorem c_296_985 : mLk 296 985 = some (.iload 4, 2) := rfl
theorem c_296_987 : mLk 296 987 = some (.iconst 1, 1) := rfl
theorem c_296_988 : mLk 296 988 = some (.iadd, 1) := rfl
theorem c_296_989 : mLk 296 989 = some (.iaload, 1) := rfl
theorem c_296_990 : mLk 296 990 = some (.aload_n 0, 1) := rfl
theorem c_296_991 : mLk 296 991 = some (.iload 4, 2) := rfl
theorem c_296_993 : mLk 296 993 = some (.iconst 2, 1) := rfl
theorem c_296_994 : mLk 296 994 = some (.iadd, 1) := rfl
theorem c_296_995 : mLk 296 995 = some (.iaload, 1) := rfl
theorem c_296_996 : mLk 296 996 = some (.aload_n 0, 1) := rfl
theorem c_296_997 : mLk 296 997 = some (.iload 4, 2) := rfl
theorem c_296_999 : mLk 296 999 = some (.iconst 3, 1) := rfl
theorem c_296_1000 : mLk 296 1000 = some (.iadd, 1) := rfl
theorem c_296_1001 : mLk 296 1001 = some (.iaload, 1) := rfl
theorem c_296_1002 : mLk 296 1002 = some (.aload_n 3, 1) := rfl
theorem c_296_1003 : mLk 296 1003 = some (.invokestatic 191, 3) := rfl
theorem c_279_0 : mLk 279 0 = some (.aload 4, 2) := rfl
theorem c_279_2 : mLk 279 2 = some (.iconst 0, 1) := rfl
theorem c_279_3 : mLk 279 3 = some (.aload_n 0, 1) := rfl
theorem c_279_4 : mLk 279 4 = some (.iload_n 1, 1) := rfl
theorem c_279_5 : mLk 279 5 = some (.iload_n 2, 1) := rfl
theorem c_279_6 : mLk 279 6 = some (.iload_n 3, 1) := rfl
theorem c_279_7 : mLk 279 7 = some (.invokevirtual 65, 3) := rfl
theorem c_296_1006 : mLk 296 1006 = some (.istore 5, 2) := rfl
theorem c_296_1008 : mLk 296 1008 = some (.aload_n 2, 1) := rfl
theorem c_296_1009 : mLk 296 1009 = some (.aload_n 0, 1) := rfl
theorem c_296_1010 : mLk 296 1010 = some (.iload 4, 2) := rfl
theorem c_296_1012 : mLk 296 1012 = some (.iconst 1, 1) := rfl
theorem c_296_1013 : mLk 296 1013 = some (.iadd, 1) := rfl
theorem c_296_1014 : mLk 296 1014 = some (.iaload, 1) := rfl
theorem c_296_1015 : mLk 296 1015 = some (.aload_n 0, 1) := rfl
theorem c_296_1016 : mLk 296 1016 = some (.iload 4, 2) := rfl
theorem c_296_1018 : mLk 296 1018 = some (.iconst 2, 1) := rfl
theorem c_296_1019 : mLk 296 1019 = some (.iadd, 1) := rfl
theorem c_296_1020 : mLk 296 1020 = some (.iaload, 1) := rfl
theorem c_296_1021 : mLk 296 1021 = some (.aload_n 0, 1) := rfl
theorem c_296_1022 : mLk 296 1022 = some (.iload 4, 2) := rfl
theorem c_296_1024 : mLk 296 1024 = some (.iconst 3, 1) := rfl
theorem c_296_1025 : mLk 296 1025 = some (.iadd, 1) := rfl
theorem c_296_1026 : mLk 296 1026 = some (.iaload, 1) := rfl
theorem c_296_1027 : mLk 296 1027 = some (.invokevirtual 193, 3) := rfl
theorem c_296_1030 : mLk 296 1030 = some (.istore 6, 2) := rfl
theorem c_296_1032 : mLk 296 1032 = some (.goto 784, 3) := rfl
theorem c_279_10 : mLk 279 10 = some (.i2l, 1) := rfl
theorem c_279_11 : mLk 279 11 = some (.lastore, 1) := rfl
theorem c_279_12 : mLk 279 12 = some (.goto 7, 3) := rfl
theorem c_279_19 : mLk 279 19 = some (.iconst 0, 1) := rfl
theorem c_279_20 : mLk 279 20 = some (.ireturn, 1) := rfl
theorem c_296_1035 : mLk 296 1035 = some (.aload_n 1, 1) := rfl
theorem c_296_1036 : mLk 296 1036 = some (.aload_n 0, 1) := rfl
theorem c_296_1037 : mLk 296 1037 = some (.iload 4, 2) := rfl
theorem c_296_1039 : mLk 296 1039 = some (.iconst 1, 1) := rfl
theorem c_296_1040 : mLk 296 1040 = some (.iadd, 1) := rfl
theorem c_296_1041 : mLk 296 1041 = some (.iaload, 1) := rfl
theorem c_296_1042 : mLk 296 1042 = some (.aload_n 3, 1) := rfl
theorem c_296_1043 : mLk 296 1043 = some (.invokestatic 194, 3) := rfl
theorem c_280_0 : mLk 280 0 = some (.aload_n 2, 1) := rfl
theorem c_280_1 : mLk 280 1 = some (.iconst 0, 1) := rfl
theorem c_280_2 : mLk 280 2 = some (.aload_n 0, 1) := rfl
theorem c_280_3 : mLk 280 3 = some (.iload_n 1, 1) := rfl
theorem c_280_4 : mLk 280 4 = some (.invokevirtual 68, 3) := rfl
theorem c_296_1046 : mLk 296 1046 = some (.istore 5, 2) := rfl
theorem c_296_1048 : mLk 296 1048 = some (.aload_n 2, 1) := rfl
theorem c_296_1049 : mLk 296 1049 = some (.aload_n 0, 1) := rfl
theorem c_296_1050 : mLk 296 1050 = some (.iload 4, 2) := rfl
theorem c_296_1052 : mLk 296 1052 = some (.iconst 1, 1) := rfl
theorem c_296_1053 : mLk 296 1053 = some (.iadd, 1) := rfl
theorem c_296_1054 : mLk 296 1054 = some (.iaload, 1) := rfl
theorem c_296_1055 : mLk 296 1055 = some (.invokevirtual 196, 3) := rfl
theorem c_296_1058 : mLk 296 1058 = some (.istore 6, 2) := rfl
theorem c_296_1060 : mLk 296 1060 = some (.goto 756, 3) := rfl
theorem c_280_7 : mLk 280 7 = some (.i2l, 1) := rfl
theorem c_280_8 : mLk 280 8 = some (.lastore, 1) := rfl
theorem c_280_9 : mLk 280 9 = some (.goto 6, 3) := rfl
theorem c_280_15 : mLk 280 15 = some (.iconst 0, 1) := rfl
theorem c_280_16 : mLk 280 16 = some (.ireturn, 1) := rfl
theorem km_9_170 : a_lk (kM 9) 170 = some (0, 216) := rfl
theorem km_9_174 : a_lk (kM 9) 174 = some (0, 217) := rfl
theorem km_9_178 : a_lk (kM 9) 178 = some (0, 218) := rfl
theorem km_9_181 : a_lk (kM 9) 181 = some (0, 219) := rfl
theorem km_9_184 : a_lk (kM 9) 184 = some (0, 220) := rfl
theorem km_9_187 : a_lk (kM 9) 187 = some (0, 221) := rfl
theorem km_9_190 : a_lk (kM 9) 190 = some (0, 227) := rfl
theorem km_9_193 : a_lk (kM 9) 193 = some (0, 228) := rfl
theorem km_9_196 : a_lk (kM 9) 196 = some (0, 230) := rfl
theorem km_9_42 : a_lk (kM 9) 42 = some (0, 103) := rfl
theorem km_9_45 : a_lk (kM 9) 45 = some (0, 104) := rfl
theorem km_9_49 : a_lk (kM 9) 49 = some (0, 110) := rfl
theorem km_9_53 : a_lk (kM 9) 53 = some (0, 111) := rfl
theorem km_9_56 : a_lk (kM 9) 56 = some (0, 112) := rfl
theorem km_9_59 : a_lk (kM 9) 59 = some (0, 114) := rfl
theorem km_9_62 : a_lk (kM 9) 62 = some (0, 119) := rfl
theorem km_9_65 : a_lk (kM 9) 65 = some (0, 123) := rfl
theorem km_9_68 : a_lk (kM 9) 68 = some (0, 128) := rfl
set_option maxRecDepth 100000 in
set_option maxHeartbeats 4000000 in
theorem o_12 {xs : Nat → Int32} {L i0 d nc ns P Q : Nat} {c : ME} {Z : AR → Prop} (hi : i0 + 8 ≤ L) (hL : L ≤ 100000) (hI : Iv 0 (-1) P Q c) (hR : Rq P c) (K : ∀ (P2 Q2 : Nat) (c2 : ME) (e : Nat), e ≤ 1 → Iv 0 (-1) P2 Q2 c2 → (Rq P2 c2) → Wp (a_scr L xs) (d + 90) 296 1816 [(4, vi (i0 : Int)), (3, .ref 67), (2, .ref 41), (1, .ref 0), (0, .ref a_SC)] [] (Wd P2 Q2 P2 P2 c2) (nc + e) (ns + 6 * e) Z) : Wp (a_scr L xs) (d + 90) 296 615 [(4, vi (i0 : Int)), (3, .ref 67), (2, .ref 41), (1, .ref 0), (0, .ref a_SC)] [] (Wd P Q P P c) nc ns Z := by
  obtain ⟨x1, hx1⟩ : ∃ z, (xs (i0 + 1)).toInt = z := ⟨_, rfl⟩
  refine hv_ (c_rng (xs (i0 + 1))) (fun x1r => ?_)
  rw [hx1] at x1r
  obtain ⟨x2, hx2⟩ : ∃ z, (xs (i0 + 2)).toInt = z := ⟨_, rfl⟩
  refine hv_ (c_rng (xs (i0 + 2))) (fun x2r => ?_)
  rw [hx2] at x2r
  obtain ⟨x3, hx3⟩ : ∃ z, (xs (i0 + 3)).toInt = z := ⟨_, rfl⟩
  refine hv_ (c_rng (xs (i0 + 3))) (fun x3r => ?_)
  rw [hx3] at x3r
  obtain ⟨x4, hx4⟩ : ∃ z, (xs (i0 + 4)).toInt = z := ⟨_, rfl⟩
  refine hv_ (c_rng (xs (i0 + 4))) (fun x4r => ?_)
  rw [hx4] at x4r
  obtain ⟨x5, hx5⟩ : ∃ z, (xs (i0 + 5)).toInt = z := ⟨_, rfl⟩
  refine hv_ (c_rng (xs (i0 + 5))) (fun x5r => ?_)
  rw [hx5] at x5r
  obtain ⟨x6, hx6⟩ : ∃ z, (xs (i0 + 6)).toInt = z := ⟨_, rfl⟩
  refine hv_ (c_rng (xs (i0 + 6))) (fun x6r => ?_)
  rw [hx6] at x6r
  obtain ⟨x7, hx7⟩ : ∃ z, (xs (i0 + 7)).toInt = z := ⟨_, rfl⟩
  refine hv_ (c_rng (xs (i0 + 7))) (fun x7r => ?_)
  rw [hx7] at x7r
  refine hv_ (iv_P hI) (fun hP => (hv_ (iv_Q hI) (fun hQ => (hv_ (rl_t hR) (fun hT => (hv_ (rl_u hR) (fun hU => ?_)))))))
  obtain ⟨n0, hn0⟩ : ∃ z, c P 0 = z := ⟨_, rfl⟩
  refine hv_ (p := c 41 20 = n0) ((rl_nums hR).1.symm.trans hn0) (fun hm0 => (hv_ (ir_p0_0 hI hP) (fun hr0 => ?_)))
  rw [hn0] at hr0
  obtain ⟨n1, hn1⟩ : ∃ z, c P 1 = z := ⟨_, rfl⟩
  refine hv_ (p := c 41 21 = n1) ((rl_nums hR).2.1.symm.trans hn1) (fun hm1 => (hv_ (ir_p0_1 hI hP) (fun hr1 => ?_)))
  rw [hn1] at hr1
  obtain ⟨n2, hn2⟩ : ∃ z, c P 2 = z := ⟨_, rfl⟩
  refine hv_ (p := c 41 22 = n2) ((rl_nums hR).2.2.1.symm.trans hn2) (fun hm2 => (hv_ (ir_p0_2 hI hP) (fun hr2 => ?_)))
  rw [hn2] at hr2
  obtain ⟨n3, hn3⟩ : ∃ z, c P 3 = z := ⟨_, rfl⟩
  refine hv_ (p := c 41 23 = n3) ((rl_nums hR).2.2.2.symm.trans hn3) (fun hm3 => (hv_ (ir_p0_3 hI hP) (fun hr3 => ?_)))
  rw [hn3] at hr3
  refine hv_ (rl_cnt2 hR) (fun hNcnt2 => (hv_ (rl_cnt2 hR) (fun hNcnt2 => (q_aload_n c_296_615 rfl (q_aload_n c_296_616 rfl (q_iload c_296_617 rfl (q_iconst c_296_619 (v_iadd (v := (i0 : Int) + 1) c_296_620 rfl (v_scr (j := i0 + 1) c_296_621 (by omega) (by omega) hL hx1 ?_)))))))))
  refine q_aload_n c_296_622 rfl (q_call c_296_623 rfl rfl rfl (q_aload_n c_272_0 rfl (q_iconst c_272_1 (q_aload_n c_272_2 rfl (q_iload_n c_272_3 rfl (hv_ (p := c P 0 = n0) ((hn0)) (fun h_1 => (hv_ (ir_0_12 hI) (fun h_2 => ?_)))))))))
  refine hv_ (ir_0_13 hI) (fun h_3 => ?_)
  refine v_cv c_272_4 km_9_42 rfl rfl (Nat.le_of_ble_eq_true rfl) ⟨⟨rfl, rfl⟩, Nat.le_of_ble_eq_true rfl, rfl⟩ (Nat.le_of_ble_eq_true rfl) (Nat.le_of_ble_eq_true rfl) (s_103S (a1 := x1) hI (show (-2147483648) ≤ x1 ∧ x1 ≤ 2147483647 from ⟨by omega, by omega⟩) (fun c_4 hI_5 hF_6 h_7 h_8 h_9 => ?_) (fun c_10 y_13 hI_11 hF_12 hy_13 h_14 h_15 h_16 => ?_))
  · skip
    refine hv_ (ir_0_12 hI_5) (fun h_17 => (hv_ (ir_0_13 hI_5) (fun h_18 => (bk_thr (z := Int32.ofInt 1) rfl ⟨_, _, rfl⟩ rfl (bk_inl (q_istore c_296_626 (Nat.le_of_ble_eq_true rfl) (q_aload_n c_296_628 rfl (q_aload_n c_296_629 rfl (q_iload c_296_630 rfl ?_)))))))))
    refine q_iconst c_296_632 (v_iadd (v := (i0 : Int) + 1) c_296_633 rfl (v_scr (j := i0 + 1) c_296_634 (by omega) (by omega) hL hx1 (hv_ (p := Hid (c_4 41 20 = n0)) ((hF_6 41 20 (qn_384c17487 hP)).trans (hm0)) (fun kn_19 => (hv_ (p := c_4 41 20 = n0) ((hid kn_19)) (fun h_20 => (hv_ (ir_42 hI 0) (fun h_21 => (hv_ (p := Hid (c_4 42 0 = c 42 0)) (hF_6 42 0 (qn_35050d239 hP)) (fun kn_22 => (hv_ (p := c_4 42 0 = c 42 0) ((hid kn_22)) (fun h_23 => ?_))))))))))))
    refine hv_ (ir_42 hI 1) (fun h_24 => (hv_ (p := Hid (c_4 42 1 = c 42 1)) (hF_6 42 1 (qn_35050d239 hP)) (fun kn_25 => (hv_ (p := c_4 42 1 = c 42 1) ((hid kn_25)) (fun h_26 => (v_cv c_296_635 km_9_170 rfl rfl (Nat.le_of_ble_eq_true rfl) ⟨⟨rfl, rfl⟩, Nat.le_of_ble_eq_true rfl, rfl⟩ (Nat.le_of_ble_eq_true rfl) (Nat.le_of_ble_eq_true rfl) (s_216S (a1 := x1) hI_5 (show (-2147483648) ≤ x1 ∧ x1 ≤ 2147483647 from ⟨by first | (clear hT hNcnt2 h_2 h_3 h_17 h_18; omega) | omega, by first | (clear hT hNcnt2 h_2 h_3 h_17 h_18; omega) | omega⟩) (fun c_27 y_30 hI_28 hF_29 hy_30 h_31 => (bk_inl (hv_ (ir_42 hI_28 0) (fun h_32 => (hv_ (ir_42 hI_28 1) (fun h_33 => (q_istore c_296_638 (Nat.le_of_ble_eq_true rfl) ?_))))))))))))))
    refine q_goto (t := 1816) c_296_640 rfl (Wp_ls [(4, vi (i0 : Int)), (3, .ref 67), (2, .ref 41), (1, .ref 0), (0, .ref a_SC)] (lsub_cons rfl (lsub_cons rfl (lsub_cons rfl (lsub_cons rfl (lsub_cons rfl lsub_nil))))) (hv_ (ir_1_3 hI) (fun h_34 => (hv_ (p := Hid (c_4 1 3 = c 1 3)) (hF_6 1 3 (qn_0dbc1df78 hP)) (fun kn_35 => (hv_ (p := Hid (c_27 1 3 = c 1 3)) ((hF_29 1 3 qn_44683f5fa).trans (hid kn_35)) (fun kn_36 => (hv_ (p := c_27 1 3 = c 1 3) ((hid kn_36)) (fun h_37 => (hv_ (ir_41_2 hI) (fun h_38 => (hv_ (p := Hid (c_4 41 2 = c 41 2)) (hF_6 41 2 (qn_384c17487 hP)) (fun kn_39 => ?_)))))))))))))
    refine hv_ (p := Hid (c_27 41 2 = c 41 2)) ((hF_29 41 2 qn_7a112a690).trans (hid kn_39)) (fun kn_40 => (hv_ (p := c_27 41 2 = c 41 2) ((hid kn_40)) (fun h_41 => (hv_ (p := Hid (c_4 P 0 = n0)) ((hF_6 P 0 (qn_d6466f82c hP)).trans (hn0)) (fun kn_42 => (hv_ (p := Hid (c_27 P 0 = n0)) ((hF_29 P 0 (qn_70fec742f hP)).trans (hid kn_42)) (fun kn_43 => (hv_ (p := c_27 P 0 = n0) ((hid kn_43)) (fun h_44 => (hv_ (p := Hid (c_27 41 20 = n0)) ((hF_29 41 20 qn_d0753a96c).trans (hid kn_19)) (fun kn_45 => (hv_ (p := c_27 41 20 = n0) ((hid kn_45)) (fun h_46 => (hv_ (p := Hid (c_4 P 1 = n1)) ((hF_6 P 1 (qn_d6466f82c hP)).trans (hn1)) (fun kn_47 => ?_)))))))))))))))
    refine hv_ (p := Hid (c_27 P 1 = n1)) ((hF_29 P 1 (qn_70fec742f hP)).trans (hid kn_47)) (fun kn_48 => (hv_ (p := c_27 P 1 = n1) ((hid kn_48)) (fun h_49 => (hv_ (p := Hid (c_4 41 21 = n1)) ((hF_6 41 21 (qn_384c17487 hP)).trans (hm1)) (fun kn_50 => (hv_ (p := Hid (c_27 41 21 = n1)) ((hF_29 41 21 qn_2dba34809).trans (hid kn_50)) (fun kn_51 => (hv_ (p := c_27 41 21 = n1) ((hid kn_51)) (fun h_52 => (hv_ (p := Hid (c_4 P 2 = n2)) ((hF_6 P 2 (qn_d6466f82c hP)).trans (hn2)) (fun kn_53 => (hv_ (p := Hid (c_27 P 2 = n2)) ((hF_29 P 2 (qn_70fec742f hP)).trans (hid kn_53)) (fun kn_54 => (hv_ (p := c_27 P 2 = n2) ((hid kn_54)) (fun h_55 => ?_)))))))))))))))
    refine hv_ (p := Hid (c_4 41 22 = n2)) ((hF_6 41 22 (qn_384c17487 hP)).trans (hm2)) (fun kn_56 => (hv_ (p := Hid (c_27 41 22 = n2)) ((hF_29 41 22 qn_0d1137165).trans (hid kn_56)) (fun kn_57 => (hv_ (p := c_27 41 22 = n2) ((hid kn_57)) (fun h_58 => (hv_ (p := Hid (c_4 P 3 = n3)) ((hF_6 P 3 (qn_d6466f82c hP)).trans (hn3)) (fun kn_59 => (hv_ (p := Hid (c_27 P 3 = n3)) ((hF_29 P 3 (qn_70fec742f hP)).trans (hid kn_59)) (fun kn_60 => (hv_ (p := c_27 P 3 = n3) ((hid kn_60)) (fun h_61 => (hv_ (p := Hid (c_4 41 23 = n3)) ((hF_6 41 23 (qn_384c17487 hP)).trans (hm3)) (fun kn_62 => (hv_ (p := Hid (c_27 41 23 = n3)) ((hF_29 41 23 qn_ca1c2b99e).trans (hid kn_62)) (fun kn_63 => ?_)))))))))))))))
    refine hv_ (p := c_27 41 23 = n3) ((hid kn_63)) (fun h_64 => (hv_ (p := Hid (c_27 0 12 = c_4 0 12)) (hF_29 0 12 qn_37cffd657) (fun kn_65 => (hv_ (p := c_27 0 12 = c_4 0 12) ((hid kn_65)) (fun h_66 => (hv_ (p := c_27 42 0 = c_27 42 0) (rfl) (fun h_67 => (hv_ (p := Hid (c_4 0 13 = c 0 13)) (hF_6 0 13 (qn_5e7410fc8 hP)) (fun kn_68 => (hv_ (p := Hid (c_27 0 13 = c 0 13)) ((hF_29 0 13 qn_37cffd657).trans (hid kn_68)) (fun kn_69 => (hv_ (p := c_27 0 13 = c 0 13) ((hid kn_69)) (fun h_70 => (hv_ (p := c_27 42 1 = c_27 42 1) (rfl) (fun h_71 => ?_)))))))))))))))
    exact K P Q c_27 1 (of_decide_eq_true rfl) hI_28 ⟨by omega, ub_fr hU (fun j => (hF_29 2 j qn_d0e66b3bf).trans (hF_6 2 j (qn_371ad3962 hP))) (fun j => (hF_29 43 j qn_5a77d9750).trans (hF_6 43 j (qn_e10256050 hP))), ⟨by omega, by omega, by omega, by omega⟩, ⟨by omega, by omega⟩⟩
  refine bk_inl (hv_ (ir_0_12 hI_11) (fun h_72 => (hv_ (ir_0_13 hI_11) (fun h_73 => (v_i2l c_272_7 (by omega) (v_ls c_272_8 rfl (of_decide_eq_true rfl) (of_decide_eq_true rfl) (of_decide_eq_true rfl) (q_goto (t := 15) c_272_9 rfl (q_iconst c_272_15 (q_iret c_272_16 rfl ?_)))))))))
  refine bk_inl (q_istore c_296_626 (Nat.le_of_ble_eq_true rfl) (q_aload_n c_296_628 rfl (q_aload_n c_296_629 rfl (q_iload c_296_630 rfl (q_iconst c_296_632 (v_iadd (v := (i0 : Int) + 1) c_296_633 rfl (v_scr (j := i0 + 1) c_296_634 (by omega) (by omega) hL hx1 ?_)))))))
  refine hv_ (iw_lx (a := 67) (j := 0) (v := y_13) hI_11 (by omega)) (fun hI_74 => (hv_ (p := Hid (c_10 41 20 = n0)) ((hF_12 41 20 (qn_384c17487 hP)).trans (hm0)) (fun kn_75 => (hv_ (p := (up c_10 67 0 y_13) 41 20 = n0) (((up_c (nn rfl)).trans (hid kn_75))) (fun h_76 => (hv_ (ir_42 hI 0) (fun h_77 => (hv_ (p := Hid (c_10 42 0 = c 42 0)) (hF_12 42 0 (qn_35050d239 hP)) (fun kn_78 => (hv_ (p := (up c_10 67 0 y_13) 42 0 = c 42 0) (((up_c (nn rfl)).trans (hid kn_78))) (fun h_79 => (hv_ (ir_42 hI 1) (fun h_80 => (hv_ (p := Hid (c_10 42 1 = c 42 1)) (hF_12 42 1 (qn_35050d239 hP)) (fun kn_81 => ?_)))))))))))))))
  refine hv_ (p := (up c_10 67 0 y_13) 42 1 = c 42 1) (((up_c (nn rfl)).trans (hid kn_81))) (fun h_82 => (v_cv c_296_635 km_9_170 rfl rfl (Nat.le_of_ble_eq_true rfl) ⟨⟨rfl, rfl⟩, Nat.le_of_ble_eq_true rfl, rfl⟩ (Nat.le_of_ble_eq_true rfl) (Nat.le_of_ble_eq_true rfl) (s_216S (a1 := x1) hI_74 (show (-2147483648) ≤ x1 ∧ x1 ≤ 2147483647 from ⟨by first | exact q_7f52907d5 h_14 h_1 | omega, by omega⟩) (fun c_83 y_86 hI_84 hF_85 hy_86 h_87 => (bk_inl (hv_ (ir_42 hI_84 0) (fun h_88 => (hv_ (ir_42 hI_84 1) (fun h_89 => (q_istore c_296_638 (Nat.le_of_ble_eq_true rfl) (q_goto (t := 1816) c_296_640 rfl (Wp_ls [(4, vi (i0 : Int)), (3, .ref 67), (2, .ref 41), (1, .ref 0), (0, .ref a_SC)] (lsub_cons rfl (lsub_cons rfl (lsub_cons rfl (lsub_cons rfl (lsub_cons rfl lsub_nil))))) ?_))))))))))))
  refine hv_ (ir_1_3 hI) (fun h_90 => (hv_ (p := Hid (c_10 1 3 = c 1 3)) (hF_12 1 3 (qn_0dbc1df78 hP)) (fun kn_91 => (hv_ (p := Hid (c_83 1 3 = c 1 3)) ((hF_85 1 3 qn_44683f5fa).trans ((up_c (nn rfl)).trans (hid kn_91))) (fun kn_92 => (hv_ (p := c_83 1 3 = c 1 3) ((hid kn_92)) (fun h_93 => (hv_ (ir_41_2 hI) (fun h_94 => (hv_ (p := Hid (c_10 41 2 = c 41 2)) (hF_12 41 2 (qn_384c17487 hP)) (fun kn_95 => (hv_ (p := Hid (c_83 41 2 = c 41 2)) ((hF_85 41 2 qn_7a112a690).trans ((up_c (nn rfl)).trans (hid kn_95))) (fun kn_96 => (hv_ (p := c_83 41 2 = c 41 2) ((hid kn_96)) (fun h_97 => ?_)))))))))))))))
  refine hv_ (p := Hid (c_10 P 0 = n0)) ((hF_12 P 0 (qn_d6466f82c hP)).trans (hn0)) (fun kn_98 => (hv_ (p := Hid (c_83 P 0 = n0)) ((hF_85 P 0 (qn_70fec742f hP)).trans ((up_c (np0 hP rfl)).trans (hid kn_98))) (fun kn_99 => (hv_ (p := c_83 P 0 = n0) ((hid kn_99)) (fun h_100 => (hv_ (p := Hid (c_83 41 20 = n0)) ((hF_85 41 20 qn_d0753a96c).trans ((up_c (nn rfl)).trans (hid kn_75))) (fun kn_101 => (hv_ (p := c_83 41 20 = n0) ((hid kn_101)) (fun h_102 => (hv_ (p := Hid (c_10 P 1 = n1)) ((hF_12 P 1 (qn_d6466f82c hP)).trans (hn1)) (fun kn_103 => (hv_ (p := Hid (c_83 P 1 = n1)) ((hF_85 P 1 (qn_70fec742f hP)).trans ((up_c (np0 hP rfl)).trans (hid kn_103))) (fun kn_104 => (hv_ (p := c_83 P 1 = n1) ((hid kn_104)) (fun h_105 => ?_)))))))))))))))
  refine hv_ (p := Hid (c_10 41 21 = n1)) ((hF_12 41 21 (qn_384c17487 hP)).trans (hm1)) (fun kn_106 => (hv_ (p := Hid (c_83 41 21 = n1)) ((hF_85 41 21 qn_2dba34809).trans ((up_c (nn rfl)).trans (hid kn_106))) (fun kn_107 => (hv_ (p := c_83 41 21 = n1) ((hid kn_107)) (fun h_108 => (hv_ (p := Hid (c_10 P 2 = n2)) ((hF_12 P 2 (qn_d6466f82c hP)).trans (hn2)) (fun kn_109 => (hv_ (p := Hid (c_83 P 2 = n2)) ((hF_85 P 2 (qn_70fec742f hP)).trans ((up_c (np0 hP rfl)).trans (hid kn_109))) (fun kn_110 => (hv_ (p := c_83 P 2 = n2) ((hid kn_110)) (fun h_111 => (hv_ (p := Hid (c_10 41 22 = n2)) ((hF_12 41 22 (qn_384c17487 hP)).trans (hm2)) (fun kn_112 => (hv_ (p := Hid (c_83 41 22 = n2)) ((hF_85 41 22 qn_0d1137165).trans ((up_c (nn rfl)).trans (hid kn_112))) (fun kn_113 => ?_)))))))))))))))
  refine hv_ (p := c_83 41 22 = n2) ((hid kn_113)) (fun h_114 => (hv_ (p := Hid (c_10 P 3 = n3)) ((hF_12 P 3 (qn_d6466f82c hP)).trans (hn3)) (fun kn_115 => (hv_ (p := Hid (c_83 P 3 = n3)) ((hF_85 P 3 (qn_70fec742f hP)).trans ((up_c (np0 hP rfl)).trans (hid kn_115))) (fun kn_116 => (hv_ (p := c_83 P 3 = n3) ((hid kn_116)) (fun h_117 => (hv_ (p := Hid (c_10 41 23 = n3)) ((hF_12 41 23 (qn_384c17487 hP)).trans (hm3)) (fun kn_118 => (hv_ (p := Hid (c_83 41 23 = n3)) ((hF_85 41 23 qn_ca1c2b99e).trans ((up_c (nn rfl)).trans (hid kn_118))) (fun kn_119 => (hv_ (p := c_83 41 23 = n3) ((hid kn_119)) (fun h_120 => (hv_ (p := Hid (c_83 0 12 = c_10 0 12)) ((hF_85 0 12 qn_37cffd657).trans (up_c (nn rfl))) (fun kn_121 => ?_)))))))))))))))
  refine hv_ (p := c_83 0 12 = c_10 0 12) ((hid kn_121)) (fun h_122 => (hv_ (p := c_83 42 0 = c_83 42 0) (rfl) (fun h_123 => (hv_ (p := Hid (c_10 0 13 = c 0 13)) (hF_12 0 13 (qn_5e7410fc8 hP)) (fun kn_124 => (hv_ (p := Hid (c_83 0 13 = c 0 13)) ((hF_85 0 13 qn_37cffd657).trans ((up_c (nn rfl)).trans (hid kn_124))) (fun kn_125 => (hv_ (p := c_83 0 13 = c 0 13) ((hid kn_125)) (fun h_126 => (hv_ (p := c_83 42 1 = c_83 42 1) (rfl) (fun h_127 => ?_)))))))))))
  exact K P Q c_83 0 (of_decide_eq_true rfl) hI_84 ⟨by omega, ub_fr hU (fun j => (hF_85 2 j qn_d0e66b3bf).trans ((up_c (nn rfl)).trans (hF_12 2 j (qn_371ad3962 hP)))) (fun j => (hF_85 43 j qn_5a77d9750).trans ((up_c (nn rfl)).trans (hF_12 43 j (qn_e10256050 hP)))), ⟨by omega, by omega, by omega, by omega⟩, ⟨by omega, by omega⟩⟩

set_option maxRecDepth 100000 in
set_option maxHeartbeats 4000000 in
theorem o_13 {xs : Nat → Int32} {L i0 d nc ns P Q : Nat} {c : ME} {Z : AR → Prop} (hi : i0 + 8 ≤ L) (hL : L ≤ 100000) (hI : Iv 0 (-1) P Q c) (hR : Rq P c) (K : ∀ (P2 Q2 : Nat) (c2 : ME) (e : Nat), e ≤ 1 → Iv 0 (-1) P2 Q2 c2 → (Rq P2 c2) → Wp (a_scr L xs) (d + 90) 296 1816 [(4, vi (i0 : Int)), (3, .ref 67), (2, .ref 41), (1, .ref 0), (0, .ref a_SC)] [] (Wd P2 Q2 P2 P2 c2) (nc + e) (ns + 6 * e) Z) : Wp (a_scr L xs) (d + 90) 296 643 [(4, vi (i0 : Int)), (3, .ref 67), (2, .ref 41), (1, .ref 0), (0, .ref a_SC)] [] (Wd P Q P P c) nc ns Z := by
  obtain ⟨x1, hx1⟩ : ∃ z, (xs (i0 + 1)).toInt = z := ⟨_, rfl⟩
  refine hv_ (c_rng (xs (i0 + 1))) (fun x1r => ?_)
  rw [hx1] at x1r
  obtain ⟨x2, hx2⟩ : ∃ z, (xs (i0 + 2)).toInt = z := ⟨_, rfl⟩
  refine hv_ (c_rng (xs (i0 + 2))) (fun x2r => ?_)
  rw [hx2] at x2r
  obtain ⟨x3, hx3⟩ : ∃ z, (xs (i0 + 3)).toInt = z := ⟨_, rfl⟩
  refine hv_ (c_rng (xs (i0 + 3))) (fun x3r => ?_)
  rw [hx3] at x3r
  obtain ⟨x4, hx4⟩ : ∃ z, (xs (i0 + 4)).toInt = z := ⟨_, rfl⟩
  refine hv_ (c_rng (xs (i0 + 4))) (fun x4r => ?_)
  rw [hx4] at x4r
  obtain ⟨x5, hx5⟩ : ∃ z, (xs (i0 + 5)).toInt = z := ⟨_, rfl⟩
  refine hv_ (c_rng (xs (i0 + 5))) (fun x5r => ?_)
  rw [hx5] at x5r
  obtain ⟨x6, hx6⟩ : ∃ z, (xs (i0 + 6)).toInt = z := ⟨_, rfl⟩
  refine hv_ (c_rng (xs (i0 + 6))) (fun x6r => ?_)
  rw [hx6] at x6r
  obtain ⟨x7, hx7⟩ : ∃ z, (xs (i0 + 7)).toInt = z := ⟨_, rfl⟩
  refine hv_ (c_rng (xs (i0 + 7))) (fun x7r => ?_)
  rw [hx7] at x7r
  refine hv_ (iv_P hI) (fun hP => (hv_ (iv_Q hI) (fun hQ => (hv_ (rl_t hR) (fun hT => (hv_ (rl_u hR) (fun hU => ?_)))))))
  obtain ⟨n0, hn0⟩ : ∃ z, c P 0 = z := ⟨_, rfl⟩
  refine hv_ (p := c 41 20 = n0) ((rl_nums hR).1.symm.trans hn0) (fun hm0 => (hv_ (ir_p0_0 hI hP) (fun hr0 => ?_)))
  rw [hn0] at hr0
  obtain ⟨n1, hn1⟩ : ∃ z, c P 1 = z := ⟨_, rfl⟩
  refine hv_ (p := c 41 21 = n1) ((rl_nums hR).2.1.symm.trans hn1) (fun hm1 => (hv_ (ir_p0_1 hI hP) (fun hr1 => ?_)))
  rw [hn1] at hr1
  obtain ⟨n2, hn2⟩ : ∃ z, c P 2 = z := ⟨_, rfl⟩
  refine hv_ (p := c 41 22 = n2) ((rl_nums hR).2.2.1.symm.trans hn2) (fun hm2 => (hv_ (ir_p0_2 hI hP) (fun hr2 => ?_)))
  rw [hn2] at hr2
  obtain ⟨n3, hn3⟩ : ∃ z, c P 3 = z := ⟨_, rfl⟩
  refine hv_ (p := c 41 23 = n3) ((rl_nums hR).2.2.2.symm.trans hn3) (fun hm3 => (hv_ (ir_p0_3 hI hP) (fun hr3 => ?_)))
  rw [hn3] at hr3
  refine hv_ (rl_cnt2 hR) (fun hNcnt2 => (hv_ (rl_cnt2 hR) (fun hNcnt2 => (q_aload_n c_296_643 rfl (q_aload_n c_296_644 rfl (q_iload c_296_645 rfl (q_iconst c_296_647 (v_iadd (v := (i0 : Int) + 1) c_296_648 rfl (v_scr (j := i0 + 1) c_296_649 (by omega) (by omega) hL hx1 ?_)))))))))
  refine q_aload_n c_296_650 rfl (q_iload c_296_651 rfl (q_iconst c_296_653 (v_iadd (v := (i0 : Int) + 2) c_296_654 rfl (v_scr (j := i0 + 2) c_296_655 (by omega) (by omega) hL hx2 (q_aload_n c_296_656 rfl (q_iload c_296_657 rfl (q_iconst c_296_659 ?_)))))))
  refine v_iadd (v := (i0 : Int) + 3) c_296_660 rfl (v_scr (j := i0 + 3) c_296_661 (by omega) (by omega) hL hx3 (q_aload_n c_296_662 rfl (q_iload c_296_663 rfl (q_iconst c_296_665 (v_iadd (v := (i0 : Int) + 4) c_296_666 rfl (v_scr (j := i0 + 4) c_296_667 (by omega) (by omega) hL hx4 (q_aload_n c_296_668 rfl ?_)))))))
  refine q_iload c_296_669 rfl (q_iconst c_296_671 (v_iadd (v := (i0 : Int) + 5) c_296_672 rfl (v_scr (j := i0 + 5) c_296_673 (by omega) (by omega) hL hx5 (q_aload_n c_296_674 rfl (q_iload c_296_675 rfl (v_bip c_296_677 (of_decide_eq_true rfl) (v_iadd (v := (i0 : Int) + 6) c_296_679 rfl ?_)))))))
  refine v_scr (j := i0 + 6) c_296_680 (by omega) (by omega) hL hx6 (q_aload_n c_296_681 rfl (q_iload c_296_682 rfl (v_bip c_296_684 (of_decide_eq_true rfl) (v_iadd (v := (i0 : Int) + 7) c_296_686 rfl (v_scr (j := i0 + 7) c_296_687 (by omega) (by omega) hL hx7 (q_aload_n c_296_688 rfl (q_call c_296_689 rfl rfl rfl ?_)))))))
  refine q_aload c_273_0 rfl (q_iconst c_273_2 (q_aload_n c_273_3 rfl (q_iload_n c_273_4 rfl (q_iload_n c_273_5 rfl (q_iload_n c_273_6 rfl (q_iload c_273_7 rfl (q_iload c_273_9 rfl ?_)))))))
  refine q_iload c_273_11 rfl (q_iload c_273_13 rfl (hv_ (ir_0_12 hI) (fun h_1 => (hv_ (ir_0_13 hI) (fun h_2 => ?_)))))
  refine v_cv c_273_15 km_9_45 rfl rfl (Nat.le_of_ble_eq_true rfl) ⟨⟨rfl, rfl⟩, Nat.le_of_ble_eq_true rfl, rfl⟩ (Nat.le_of_ble_eq_true rfl) (Nat.le_of_ble_eq_true rfl) (s_104S (a1 := x1) (a2 := x2) (a3 := x3) (a4 := x4) (a5 := x5) (a6 := x6) (a7 := x7) hI (show (-2147483648) ≤ x1 ∧ x1 ≤ 2147483647 from ⟨by omega, by omega⟩) (show (-2147483648) ≤ x2 ∧ x2 ≤ 2147483647 from ⟨by omega, by omega⟩) (show (-2147483648) ≤ x3 ∧ x3 ≤ 2147483647 from ⟨by omega, by omega⟩) (show (-2147483648) ≤ x4 ∧ x4 ≤ 2147483647 from ⟨by omega, by omega⟩) (show (-2147483648) ≤ x5 ∧ x5 ≤ 2147483647 from ⟨by omega, by omega⟩) (show (-2147483648) ≤ x6 ∧ x6 ≤ 2147483647 from ⟨by omega, by omega⟩) (show (-2147483648) ≤ x7 ∧ x7 ≤ 2147483647 from ⟨by omega, by omega⟩) (fun c_3 hI_4 hF_5 h_6 h_7 h_8 => ?_) (fun c_9 y_12 hI_10 hF_11 hy_12 h_13 h_14 h_15 => ?_))
  · skip
    refine hv_ (ir_0_13 hI_4) (fun h_16 => (hv_ (ir_0_12 hI_4) (fun h_17 => (bk_thr (z := Int32.ofInt 1) rfl ⟨_, _, rfl⟩ rfl (bk_inl (q_istore c_296_692 (Nat.le_of_ble_eq_true rfl) (q_aload_n c_296_694 rfl (q_aload_n c_296_695 rfl (q_iload c_296_696 rfl ?_)))))))))
    refine q_iconst c_296_698 (v_iadd (v := (i0 : Int) + 1) c_296_699 rfl (v_scr (j := i0 + 1) c_296_700 (by omega) (by omega) hL hx1 (q_aload_n c_296_701 rfl (q_iload c_296_702 rfl (q_iconst c_296_704 (v_iadd (v := (i0 : Int) + 2) c_296_705 rfl (v_scr (j := i0 + 2) c_296_706 (by omega) (by omega) hL hx2 ?_)))))))
    refine q_aload_n c_296_707 rfl (q_iload c_296_708 rfl (q_iconst c_296_710 (v_iadd (v := (i0 : Int) + 3) c_296_711 rfl (v_scr (j := i0 + 3) c_296_712 (by omega) (by omega) hL hx3 (q_aload_n c_296_713 rfl (q_iload c_296_714 rfl (q_iconst c_296_716 ?_)))))))
    refine v_iadd (v := (i0 : Int) + 4) c_296_717 rfl (v_scr (j := i0 + 4) c_296_718 (by omega) (by omega) hL hx4 (q_aload_n c_296_719 rfl (q_iload c_296_720 rfl (q_iconst c_296_722 (v_iadd (v := (i0 : Int) + 5) c_296_723 rfl (v_scr (j := i0 + 5) c_296_724 (by omega) (by omega) hL hx5 (q_aload_n c_296_725 rfl ?_)))))))
    refine q_iload c_296_726 rfl (v_bip c_296_728 (of_decide_eq_true rfl) (v_iadd (v := (i0 : Int) + 6) c_296_730 rfl (v_scr (j := i0 + 6) c_296_731 (by omega) (by omega) hL hx6 (q_aload_n c_296_732 rfl (q_iload c_296_733 rfl (v_bip c_296_735 (of_decide_eq_true rfl) (v_iadd (v := (i0 : Int) + 7) c_296_737 rfl ?_)))))))
    refine v_scr (j := i0 + 7) c_296_738 (by omega) (by omega) hL hx7 (hv_ (ir_42 hI 0) (fun h_18 => (hv_ (p := Hid (c_3 42 0 = c 42 0)) (hF_5 42 0 (qn_c82d74c43 hP)) (fun kn_19 => (hv_ (p := c_3 42 0 = c 42 0) ((hid kn_19)) (fun h_20 => (hv_ (ir_42 hI 1) (fun h_21 => (hv_ (p := Hid (c_3 42 1 = c 42 1)) (hF_5 42 1 (qn_c82d74c43 hP)) (fun kn_22 => (hv_ (p := c_3 42 1 = c 42 1) ((hid kn_22)) (fun h_23 => ?_))))))))))))
    refine v_cv c_296_739 km_9_174 rfl rfl (Nat.le_of_ble_eq_true rfl) ⟨⟨rfl, rfl⟩, Nat.le_of_ble_eq_true rfl, rfl⟩ (Nat.le_of_ble_eq_true rfl) (Nat.le_of_ble_eq_true rfl) (s_217S (a1 := x1) (a2 := x2) (a3 := x3) (a4 := x4) (a5 := x5) (a6 := x6) (a7 := x7) hI_4 (show (-2147483648) ≤ x1 ∧ x1 ≤ 2147483647 from ⟨by first | (clear hT hNcnt2 h_1 h_2 h_16 h_17; omega) | omega, by first | (clear hT hNcnt2 h_1 h_2 h_16 h_17; omega) | omega⟩) (show (-2147483648) ≤ x2 ∧ x2 ≤ 2147483647 from ⟨by first | (clear hT hNcnt2 h_1 h_2 h_16 h_17; omega) | omega, by first | (clear hT hNcnt2 h_1 h_2 h_16 h_17; omega) | omega⟩) (show (-2147483648) ≤ x3 ∧ x3 ≤ 2147483647 from ⟨by first | (clear hT hNcnt2 h_1 h_2 h_16 h_17; omega) | omega, by first | (clear hT hNcnt2 h_1 h_2 h_16 h_17; omega) | omega⟩) (show (-2147483648) ≤ x4 ∧ x4 ≤ 2147483647 from ⟨by first | (clear hT hNcnt2 h_1 h_2 h_16 h_17; omega) | omega, by first | (clear hT hNcnt2 h_1 h_2 h_16 h_17; omega) | omega⟩) (show (-2147483648) ≤ x5 ∧ x5 ≤ 2147483647 from ⟨by first | (clear hT hNcnt2 h_1 h_2 h_16 h_17; omega) | omega, by first | (clear hT hNcnt2 h_1 h_2 h_16 h_17; omega) | omega⟩) (show (-2147483648) ≤ x6 ∧ x6 ≤ 2147483647 from ⟨by first | (clear hT hNcnt2 h_1 h_2 h_16 h_17; omega) | omega, by first | (clear hT hNcnt2 h_1 h_2 h_16 h_17; omega) | omega⟩) (show (-2147483648) ≤ x7 ∧ x7 ≤ 2147483647 from ⟨by first | (clear hT hNcnt2 h_1 h_2 h_16 h_17; omega) | omega, by first | (clear hT hNcnt2 h_1 h_2 h_16 h_17; omega) | omega⟩) (fun c_24 y_27 hI_25 hF_26 hy_27 h_28 => (bk_inl (hv_ (ir_42 hI_25 0) (fun h_29 => ?_)))))
    refine hv_ (ir_42 hI_25 1) (fun h_30 => (q_istore c_296_742 (Nat.le_of_ble_eq_true rfl) (q_goto (t := 1816) c_296_744 rfl (Wp_ls [(4, vi (i0 : Int)), (3, .ref 67), (2, .ref 41), (1, .ref 0), (0, .ref a_SC)] (lsub_cons rfl (lsub_cons rfl (lsub_cons rfl (lsub_cons rfl (lsub_cons rfl lsub_nil))))) (hv_ (ir_1_3 hI) (fun h_31 => (hv_ (p := Hid (c_3 1 3 = c 1 3)) (hF_5 1 3 (qn_573365727 hP)) (fun kn_32 => (hv_ (p := Hid (c_24 1 3 = c 1 3)) ((hF_26 1 3 qn_37c5d22e3).trans (hid kn_32)) (fun kn_33 => (hv_ (p := c_24 1 3 = c 1 3) ((hid kn_33)) (fun h_34 => ?_))))))))))))
    refine hv_ (ir_41_2 hI) (fun h_35 => (hv_ (p := Hid (c_3 41 2 = c 41 2)) (hF_5 41 2 (qn_69be8c781 hP)) (fun kn_36 => (hv_ (p := Hid (c_24 41 2 = c 41 2)) ((hF_26 41 2 qn_8a9509c06).trans (hid kn_36)) (fun kn_37 => (hv_ (p := c_24 41 2 = c 41 2) ((hid kn_37)) (fun h_38 => (hv_ (p := Hid (c_3 P 0 = n0)) ((hF_5 P 0 (qn_ab81a8ac9 hP)).trans (hn0)) (fun kn_39 => (hv_ (p := Hid (c_24 P 0 = n0)) ((hF_26 P 0 (qn_7262c0794 hP)).trans (hid kn_39)) (fun kn_40 => (hv_ (p := c_24 P 0 = n0) ((hid kn_40)) (fun h_41 => (hv_ (p := Hid (c_3 41 20 = n0)) ((hF_5 41 20 (qn_69be8c781 hP)).trans (hm0)) (fun kn_42 => ?_)))))))))))))))
    refine hv_ (p := Hid (c_24 41 20 = n0)) ((hF_26 41 20 qn_635eb2508).trans (hid kn_42)) (fun kn_43 => (hv_ (p := c_24 41 20 = n0) ((hid kn_43)) (fun h_44 => (hv_ (p := Hid (c_3 P 1 = n1)) ((hF_5 P 1 (qn_ab81a8ac9 hP)).trans (hn1)) (fun kn_45 => (hv_ (p := Hid (c_24 P 1 = n1)) ((hF_26 P 1 (qn_7262c0794 hP)).trans (hid kn_45)) (fun kn_46 => (hv_ (p := c_24 P 1 = n1) ((hid kn_46)) (fun h_47 => (hv_ (p := Hid (c_3 41 21 = n1)) ((hF_5 41 21 (qn_69be8c781 hP)).trans (hm1)) (fun kn_48 => (hv_ (p := Hid (c_24 41 21 = n1)) ((hF_26 41 21 qn_a2a3c278c).trans (hid kn_48)) (fun kn_49 => (hv_ (p := c_24 41 21 = n1) ((hid kn_49)) (fun h_50 => ?_)))))))))))))))
    refine hv_ (p := Hid (c_3 P 2 = n2)) ((hF_5 P 2 (qn_ab81a8ac9 hP)).trans (hn2)) (fun kn_51 => (hv_ (p := Hid (c_24 P 2 = n2)) ((hF_26 P 2 (qn_7262c0794 hP)).trans (hid kn_51)) (fun kn_52 => (hv_ (p := c_24 P 2 = n2) ((hid kn_52)) (fun h_53 => (hv_ (p := Hid (c_3 41 22 = n2)) ((hF_5 41 22 (qn_69be8c781 hP)).trans (hm2)) (fun kn_54 => (hv_ (p := Hid (c_24 41 22 = n2)) ((hF_26 41 22 qn_b0cd305d3).trans (hid kn_54)) (fun kn_55 => (hv_ (p := c_24 41 22 = n2) ((hid kn_55)) (fun h_56 => (hv_ (p := Hid (c_3 P 3 = n3)) ((hF_5 P 3 (qn_ab81a8ac9 hP)).trans (hn3)) (fun kn_57 => (hv_ (p := Hid (c_24 P 3 = n3)) ((hF_26 P 3 (qn_7262c0794 hP)).trans (hid kn_57)) (fun kn_58 => ?_)))))))))))))))
    refine hv_ (p := c_24 P 3 = n3) ((hid kn_58)) (fun h_59 => (hv_ (p := Hid (c_3 41 23 = n3)) ((hF_5 41 23 (qn_69be8c781 hP)).trans (hm3)) (fun kn_60 => (hv_ (p := Hid (c_24 41 23 = n3)) ((hF_26 41 23 qn_b2ba88a22).trans (hid kn_60)) (fun kn_61 => (hv_ (p := c_24 41 23 = n3) ((hid kn_61)) (fun h_62 => (hv_ (p := Hid (c_3 0 12 = c 0 12)) (hF_5 0 12 (qn_7c8fc4285 hP)) (fun kn_63 => (hv_ (p := Hid (c_24 0 12 = c 0 12)) ((hF_26 0 12 qn_bbb7747f7).trans (hid kn_63)) (fun kn_64 => (hv_ (p := c_24 0 12 = c 0 12) ((hid kn_64)) (fun h_65 => (hv_ (p := c_24 42 0 = c_24 42 0) (rfl) (fun h_66 => ?_)))))))))))))))
    refine hv_ (p := Hid (c_24 0 13 = c_3 0 13)) (hF_26 0 13 qn_bbb7747f7) (fun kn_67 => (hv_ (p := c_24 0 13 = c_3 0 13) ((hid kn_67)) (fun h_68 => (hv_ (p := c_24 42 1 = c_24 42 1) (rfl) (fun h_69 => ?_)))))
    exact K P Q c_24 1 (of_decide_eq_true rfl) hI_25 ⟨by omega, ub_fr hU (fun j => (hF_26 2 j qn_e0cc749b3).trans (hF_5 2 j (qn_aaebe4308 hP))) (fun j => (hF_26 43 j qn_53d487302).trans (hF_5 43 j (qn_3e58b8819 hP))), ⟨by omega, by omega, by omega, by omega⟩, ⟨by omega, by omega⟩⟩
  refine bk_inl (hv_ (ir_0_12 hI_10) (fun h_70 => (hv_ (ir_0_13 hI_10) (fun h_71 => (v_i2l c_273_18 (by omega) (v_ls c_273_19 rfl (of_decide_eq_true rfl) (of_decide_eq_true rfl) (of_decide_eq_true rfl) (q_goto (t := 27) c_273_20 rfl (q_iconst c_273_27 (q_iret c_273_28 rfl ?_)))))))))
  refine bk_inl (q_istore c_296_692 (Nat.le_of_ble_eq_true rfl) (q_aload_n c_296_694 rfl (q_aload_n c_296_695 rfl (q_iload c_296_696 rfl (q_iconst c_296_698 (v_iadd (v := (i0 : Int) + 1) c_296_699 rfl (v_scr (j := i0 + 1) c_296_700 (by omega) (by omega) hL hx1 ?_)))))))
  refine q_aload_n c_296_701 rfl (q_iload c_296_702 rfl (q_iconst c_296_704 (v_iadd (v := (i0 : Int) + 2) c_296_705 rfl (v_scr (j := i0 + 2) c_296_706 (by omega) (by omega) hL hx2 (q_aload_n c_296_707 rfl (q_iload c_296_708 rfl (q_iconst c_296_710 ?_)))))))
  refine v_iadd (v := (i0 : Int) + 3) c_296_711 rfl (v_scr (j := i0 + 3) c_296_712 (by omega) (by omega) hL hx3 (q_aload_n c_296_713 rfl (q_iload c_296_714 rfl (q_iconst c_296_716 (v_iadd (v := (i0 : Int) + 4) c_296_717 rfl (v_scr (j := i0 + 4) c_296_718 (by omega) (by omega) hL hx4 (q_aload_n c_296_719 rfl ?_)))))))
  refine q_iload c_296_720 rfl (q_iconst c_296_722 (v_iadd (v := (i0 : Int) + 5) c_296_723 rfl (v_scr (j := i0 + 5) c_296_724 (by omega) (by omega) hL hx5 (q_aload_n c_296_725 rfl (q_iload c_296_726 rfl (v_bip c_296_728 (of_decide_eq_true rfl) (v_iadd (v := (i0 : Int) + 6) c_296_730 rfl ?_)))))))
  refine v_scr (j := i0 + 6) c_296_731 (by omega) (by omega) hL hx6 (q_aload_n c_296_732 rfl (q_iload c_296_733 rfl (v_bip c_296_735 (of_decide_eq_true rfl) (v_iadd (v := (i0 : Int) + 7) c_296_737 rfl (v_scr (j := i0 + 7) c_296_738 (by omega) (by omega) hL hx7 (hv_ (iw_lx (a := 67) (j := 0) (v := y_12) hI_10 (by omega)) (fun hI_72 => (hv_ (ir_42 hI 0) (fun h_73 => ?_)))))))))
  refine hv_ (p := Hid (c_9 42 0 = c 42 0)) (hF_11 42 0 (qn_c82d74c43 hP)) (fun kn_74 => (hv_ (p := (up c_9 67 0 y_12) 42 0 = c 42 0) (((up_c (nn rfl)).trans (hid kn_74))) (fun h_75 => (hv_ (ir_42 hI 1) (fun h_76 => (hv_ (p := Hid (c_9 42 1 = c 42 1)) (hF_11 42 1 (qn_c82d74c43 hP)) (fun kn_77 => (hv_ (p := (up c_9 67 0 y_12) 42 1 = c 42 1) (((up_c (nn rfl)).trans (hid kn_77))) (fun h_78 => ?_)))))))))
  refine v_cv c_296_739 km_9_174 rfl rfl (Nat.le_of_ble_eq_true rfl) ⟨⟨rfl, rfl⟩, Nat.le_of_ble_eq_true rfl, rfl⟩ (Nat.le_of_ble_eq_true rfl) (Nat.le_of_ble_eq_true rfl) (s_217S (a1 := x1) (a2 := x2) (a3 := x3) (a4 := x4) (a5 := x5) (a6 := x6) (a7 := x7) hI_72 (show (-2147483648) ≤ x1 ∧ x1 ≤ 2147483647 from ⟨by first | exact q_da03c47a7 h_13 | omega, by first | exact q_f285d6b17 h_13 | omega⟩) (show (-2147483648) ≤ x2 ∧ x2 ≤ 2147483647 from ⟨by first | exact q_cbfd1ab31 h_13 | omega, by first | exact q_aa30b0323 h_13 | omega⟩) (show (-2147483648) ≤ x3 ∧ x3 ≤ 2147483647 from ⟨by first | exact q_cf34cca7e h_13 | omega, by first | exact q_61e21d23b h_13 | omega⟩) (show (-2147483648) ≤ x4 ∧ x4 ≤ 2147483647 from ⟨by first | exact q_d20fec8a0 h_13 | omega, by first | exact q_049e512da h_13 | omega⟩) (show (-2147483648) ≤ x5 ∧ x5 ≤ 2147483647 from ⟨by first | exact q_52ff8e19b h_13 | omega, by first | exact q_228a68fd2 h_13 | omega⟩) (show (-2147483648) ≤ x6 ∧ x6 ≤ 2147483647 from ⟨by first | exact q_df972efe5 h_13 | omega, by first | exact q_edfbc4481 h_13 | omega⟩) (show (-2147483648) ≤ x7 ∧ x7 ≤ 2147483647 from ⟨by first | exact q_1be3c0783 h_13 | omega, by first | exact q_e7c18f7b3 h_13 | omega⟩) (fun c_79 y_82 hI_80 hF_81 hy_82 h_83 => (bk_inl (hv_ (ir_42 hI_80 0) (fun h_84 => (hv_ (ir_42 hI_80 1) (fun h_85 => (q_istore c_296_742 (Nat.le_of_ble_eq_true rfl) (q_goto (t := 1816) c_296_744 rfl (Wp_ls [(4, vi (i0 : Int)), (3, .ref 67), (2, .ref 41), (1, .ref 0), (0, .ref a_SC)] (lsub_cons rfl (lsub_cons rfl (lsub_cons rfl (lsub_cons rfl (lsub_cons rfl lsub_nil))))) ?_))))))))))
  refine hv_ (ir_1_3 hI) (fun h_86 => (hv_ (p := Hid (c_9 1 3 = c 1 3)) (hF_11 1 3 (qn_573365727 hP)) (fun kn_87 => (hv_ (p := Hid (c_79 1 3 = c 1 3)) ((hF_81 1 3 qn_37c5d22e3).trans ((up_c (nn rfl)).trans (hid kn_87))) (fun kn_88 => (hv_ (p := c_79 1 3 = c 1 3) ((hid kn_88)) (fun h_89 => (hv_ (ir_41_2 hI) (fun h_90 => (hv_ (p := Hid (c_9 41 2 = c 41 2)) (hF_11 41 2 (qn_69be8c781 hP)) (fun kn_91 => (hv_ (p := Hid (c_79 41 2 = c 41 2)) ((hF_81 41 2 qn_8a9509c06).trans ((up_c (nn rfl)).trans (hid kn_91))) (fun kn_92 => (hv_ (p := c_79 41 2 = c 41 2) ((hid kn_92)) (fun h_93 => ?_)))))))))))))))
  refine hv_ (p := Hid (c_9 P 0 = n0)) ((hF_11 P 0 (qn_ab81a8ac9 hP)).trans (hn0)) (fun kn_94 => (hv_ (p := Hid (c_79 P 0 = n0)) ((hF_81 P 0 (qn_7262c0794 hP)).trans ((up_c (np0 hP rfl)).trans (hid kn_94))) (fun kn_95 => (hv_ (p := c_79 P 0 = n0) ((hid kn_95)) (fun h_96 => (hv_ (p := Hid (c_9 41 20 = n0)) ((hF_11 41 20 (qn_69be8c781 hP)).trans (hm0)) (fun kn_97 => (hv_ (p := Hid (c_79 41 20 = n0)) ((hF_81 41 20 qn_635eb2508).trans ((up_c (nn rfl)).trans (hid kn_97))) (fun kn_98 => (hv_ (p := c_79 41 20 = n0) ((hid kn_98)) (fun h_99 => (hv_ (p := Hid (c_9 P 1 = n1)) ((hF_11 P 1 (qn_ab81a8ac9 hP)).trans (hn1)) (fun kn_100 => (hv_ (p := Hid (c_79 P 1 = n1)) ((hF_81 P 1 (qn_7262c0794 hP)).trans ((up_c (np0 hP rfl)).trans (hid kn_100))) (fun kn_101 => ?_)))))))))))))))
  refine hv_ (p := c_79 P 1 = n1) ((hid kn_101)) (fun h_102 => (hv_ (p := Hid (c_9 41 21 = n1)) ((hF_11 41 21 (qn_69be8c781 hP)).trans (hm1)) (fun kn_103 => (hv_ (p := Hid (c_79 41 21 = n1)) ((hF_81 41 21 qn_a2a3c278c).trans ((up_c (nn rfl)).trans (hid kn_103))) (fun kn_104 => (hv_ (p := c_79 41 21 = n1) ((hid kn_104)) (fun h_105 => (hv_ (p := Hid (c_9 P 2 = n2)) ((hF_11 P 2 (qn_ab81a8ac9 hP)).trans (hn2)) (fun kn_106 => (hv_ (p := Hid (c_79 P 2 = n2)) ((hF_81 P 2 (qn_7262c0794 hP)).trans ((up_c (np0 hP rfl)).trans (hid kn_106))) (fun kn_107 => (hv_ (p := c_79 P 2 = n2) ((hid kn_107)) (fun h_108 => (hv_ (p := Hid (c_9 41 22 = n2)) ((hF_11 41 22 (qn_69be8c781 hP)).trans (hm2)) (fun kn_109 => ?_)))))))))))))))
  refine hv_ (p := Hid (c_79 41 22 = n2)) ((hF_81 41 22 qn_b0cd305d3).trans ((up_c (nn rfl)).trans (hid kn_109))) (fun kn_110 => (hv_ (p := c_79 41 22 = n2) ((hid kn_110)) (fun h_111 => (hv_ (p := Hid (c_9 P 3 = n3)) ((hF_11 P 3 (qn_ab81a8ac9 hP)).trans (hn3)) (fun kn_112 => (hv_ (p := Hid (c_79 P 3 = n3)) ((hF_81 P 3 (qn_7262c0794 hP)).trans ((up_c (np0 hP rfl)).trans (hid kn_112))) (fun kn_113 => (hv_ (p := c_79 P 3 = n3) ((hid kn_113)) (fun h_114 => (hv_ (p := Hid (c_9 41 23 = n3)) ((hF_11 41 23 (qn_69be8c781 hP)).trans (hm3)) (fun kn_115 => (hv_ (p := Hid (c_79 41 23 = n3)) ((hF_81 41 23 qn_b2ba88a22).trans ((up_c (nn rfl)).trans (hid kn_115))) (fun kn_116 => (hv_ (p := c_79 41 23 = n3) ((hid kn_116)) (fun h_117 => ?_)))))))))))))))
  refine hv_ (p := Hid (c_9 0 12 = c 0 12)) (hF_11 0 12 (qn_7c8fc4285 hP)) (fun kn_118 => (hv_ (p := Hid (c_79 0 12 = c 0 12)) ((hF_81 0 12 qn_bbb7747f7).trans ((up_c (nn rfl)).trans (hid kn_118))) (fun kn_119 => (hv_ (p := c_79 0 12 = c 0 12) ((hid kn_119)) (fun h_120 => (hv_ (p := c_79 42 0 = c_79 42 0) (rfl) (fun h_121 => (hv_ (p := Hid (c_79 0 13 = c_9 0 13)) ((hF_81 0 13 qn_bbb7747f7).trans (up_c (nn rfl))) (fun kn_122 => (hv_ (p := c_79 0 13 = c_9 0 13) ((hid kn_122)) (fun h_123 => (hv_ (p := c_79 42 1 = c_79 42 1) (rfl) (fun h_124 => ?_)))))))))))))
  exact K P Q c_79 0 (of_decide_eq_true rfl) hI_80 ⟨by omega, ub_fr hU (fun j => (hF_81 2 j qn_e0cc749b3).trans ((up_c (nn rfl)).trans (hF_11 2 j (qn_aaebe4308 hP)))) (fun j => (hF_81 43 j qn_53d487302).trans ((up_c (nn rfl)).trans (hF_11 43 j (qn_3e58b8819 hP)))), ⟨by omega, by omega, by omega, by omega⟩, ⟨by omega, by omega⟩⟩

set_option maxRecDepth 100000 in
set_option maxHeartbeats 4000000 in
theorem o_14 {xs : Nat → Int32} {L i0 d nc ns P Q : Nat} {c : ME} {Z : AR → Prop} (hi : i0 + 8 ≤ L) (hL : L ≤ 100000) (hI : Iv 0 (-1) P Q c) (hR : Rq P c) (K : ∀ (P2 Q2 : Nat) (c2 : ME) (e : Nat), e ≤ 1 → Iv 0 (-1) P2 Q2 c2 → (Rq P2 c2) → Wp (a_scr L xs) (d + 90) 296 1816 [(4, vi (i0 : Int)), (3, .ref 67), (2, .ref 41), (1, .ref 0), (0, .ref a_SC)] [] (Wd P2 Q2 P2 P2 c2) (nc + e) (ns + 6 * e) Z) : Wp (a_scr L xs) (d + 90) 296 747 [(4, vi (i0 : Int)), (3, .ref 67), (2, .ref 41), (1, .ref 0), (0, .ref a_SC)] [] (Wd P Q P P c) nc ns Z := by
  obtain ⟨x1, hx1⟩ : ∃ z, (xs (i0 + 1)).toInt = z := ⟨_, rfl⟩
  refine hv_ (c_rng (xs (i0 + 1))) (fun x1r => ?_)
  rw [hx1] at x1r
  obtain ⟨x2, hx2⟩ : ∃ z, (xs (i0 + 2)).toInt = z := ⟨_, rfl⟩
  refine hv_ (c_rng (xs (i0 + 2))) (fun x2r => ?_)
  rw [hx2] at x2r
  obtain ⟨x3, hx3⟩ : ∃ z, (xs (i0 + 3)).toInt = z := ⟨_, rfl⟩
  refine hv_ (c_rng (xs (i0 + 3))) (fun x3r => ?_)
  rw [hx3] at x3r
  obtain ⟨x4, hx4⟩ : ∃ z, (xs (i0 + 4)).toInt = z := ⟨_, rfl⟩
  refine hv_ (c_rng (xs (i0 + 4))) (fun x4r => ?_)
  rw [hx4] at x4r
  obtain ⟨x5, hx5⟩ : ∃ z, (xs (i0 + 5)).toInt = z := ⟨_, rfl⟩
  refine hv_ (c_rng (xs (i0 + 5))) (fun x5r => ?_)
  rw [hx5] at x5r
  obtain ⟨x6, hx6⟩ : ∃ z, (xs (i0 + 6)).toInt = z := ⟨_, rfl⟩
  refine hv_ (c_rng (xs (i0 + 6))) (fun x6r => ?_)
  rw [hx6] at x6r
  obtain ⟨x7, hx7⟩ : ∃ z, (xs (i0 + 7)).toInt = z := ⟨_, rfl⟩
  refine hv_ (c_rng (xs (i0 + 7))) (fun x7r => ?_)
  rw [hx7] at x7r
  refine hv_ (iv_P hI) (fun hP => (hv_ (iv_Q hI) (fun hQ => (hv_ (rl_t hR) (fun hT => (hv_ (rl_u hR) (fun hU => ?_)))))))
  obtain ⟨n0, hn0⟩ : ∃ z, c P 0 = z := ⟨_, rfl⟩
  refine hv_ (p := c 41 20 = n0) ((rl_nums hR).1.symm.trans hn0) (fun hm0 => (hv_ (ir_p0_0 hI hP) (fun hr0 => ?_)))
  rw [hn0] at hr0
  obtain ⟨n1, hn1⟩ : ∃ z, c P 1 = z := ⟨_, rfl⟩
  refine hv_ (p := c 41 21 = n1) ((rl_nums hR).2.1.symm.trans hn1) (fun hm1 => (hv_ (ir_p0_1 hI hP) (fun hr1 => ?_)))
  rw [hn1] at hr1
  obtain ⟨n2, hn2⟩ : ∃ z, c P 2 = z := ⟨_, rfl⟩
  refine hv_ (p := c 41 22 = n2) ((rl_nums hR).2.2.1.symm.trans hn2) (fun hm2 => (hv_ (ir_p0_2 hI hP) (fun hr2 => ?_)))
  rw [hn2] at hr2
  obtain ⟨n3, hn3⟩ : ∃ z, c P 3 = z := ⟨_, rfl⟩
  refine hv_ (p := c 41 23 = n3) ((rl_nums hR).2.2.2.symm.trans hn3) (fun hm3 => (hv_ (ir_p0_3 hI hP) (fun hr3 => ?_)))
  rw [hn3] at hr3
  refine hv_ (rl_cnt2 hR) (fun hNcnt2 => (hv_ (rl_cnt2 hR) (fun hNcnt2 => (q_aload_n c_296_747 rfl (q_aload_n c_296_748 rfl (q_iload c_296_749 rfl (q_iconst c_296_751 (v_iadd (v := (i0 : Int) + 1) c_296_752 rfl (v_scr (j := i0 + 1) c_296_753 (by omega) (by omega) hL hx1 ?_)))))))))
  refine q_aload_n c_296_754 rfl (q_iload c_296_755 rfl (q_iconst c_296_757 (v_iadd (v := (i0 : Int) + 2) c_296_758 rfl (v_scr (j := i0 + 2) c_296_759 (by omega) (by omega) hL hx2 (q_aload_n c_296_760 rfl (q_iload c_296_761 rfl (q_iconst c_296_763 ?_)))))))
  refine v_iadd (v := (i0 : Int) + 3) c_296_764 rfl (v_scr (j := i0 + 3) c_296_765 (by omega) (by omega) hL hx3 (q_aload_n c_296_766 rfl (q_call c_296_767 rfl rfl rfl (q_aload c_274_0 rfl (q_iconst c_274_2 (q_aload_n c_274_3 rfl (q_iload_n c_274_4 rfl ?_)))))))
  refine q_iload_n c_274_5 rfl (q_iload_n c_274_6 rfl (hv_ (p := c P 0 = n0) ((hn0)) (fun h_1 => (hv_ (p := c P 1 = n1) ((hn1)) (fun h_2 => (hv_ (ir_0_12 hI) (fun h_3 => (hv_ (ir_0_13 hI) (fun h_4 => ?_)))))))))
  refine v_cv c_274_7 km_9_49 rfl rfl (Nat.le_of_ble_eq_true rfl) ⟨⟨rfl, rfl⟩, Nat.le_of_ble_eq_true rfl, rfl⟩ (Nat.le_of_ble_eq_true rfl) (Nat.le_of_ble_eq_true rfl) (s_110S (a1 := x1) (a2 := x2) (a3 := x3) hI (show (-2147483648) ≤ x1 ∧ x1 ≤ 2147483647 from ⟨by omega, by omega⟩) (show (-2147483648) ≤ x2 ∧ x2 ≤ 2147483647 from ⟨by omega, by omega⟩) (show (-2147483648) ≤ x3 ∧ x3 ≤ 2147483647 from ⟨by omega, by omega⟩) (fun c_5 hI_6 hF_7 h_8 h_9 h_10 => ?_) (fun c_11 hI_12 hF_13 h_14 h_15 h_16 => ?_) (fun c_17 y_20 hI_18 hF_19 hy_20 h_21 h_22 h_23 => ?_))
  · skip
    refine hv_ (ir_0_12 hI_6) (fun h_24 => (hv_ (ir_0_13 hI_6) (fun h_25 => (bk_thr (z := Int32.ofInt 1) rfl ⟨_, _, rfl⟩ rfl (bk_inl (q_istore c_296_770 (Nat.le_of_ble_eq_true rfl) (q_aload_n c_296_772 rfl (q_aload_n c_296_773 rfl (q_iload c_296_774 rfl ?_)))))))))
    refine q_iconst c_296_776 (v_iadd (v := (i0 : Int) + 1) c_296_777 rfl (v_scr (j := i0 + 1) c_296_778 (by omega) (by omega) hL hx1 (q_aload_n c_296_779 rfl (q_iload c_296_780 rfl (q_iconst c_296_782 (v_iadd (v := (i0 : Int) + 2) c_296_783 rfl (v_scr (j := i0 + 2) c_296_784 (by omega) (by omega) hL hx2 ?_)))))))
    refine q_aload_n c_296_785 rfl (q_iload c_296_786 rfl (q_iconst c_296_788 (v_iadd (v := (i0 : Int) + 3) c_296_789 rfl (v_scr (j := i0 + 3) c_296_790 (by omega) (by omega) hL hx3 (hv_ (p := Hid (c_5 41 20 = n0)) ((hF_7 41 20 qn_f6e9e9f23).trans (hm0)) (fun kn_26 => (hv_ (p := c_5 41 20 = n0) ((hid kn_26)) (fun h_27 => (hv_ (p := Hid (c_5 41 21 = n1)) ((hF_7 41 21 qn_f6e9e9f23).trans (hm1)) (fun kn_28 => ?_))))))))))
    refine hv_ (p := c_5 41 21 = n1) ((hid kn_28)) (fun h_29 => (hv_ (ir_42 hI 0) (fun h_30 => (hv_ (p := Hid (c_5 42 0 = c 42 0)) (hF_7 42 0 qn_f10b7be0a) (fun kn_31 => (hv_ (p := c_5 42 0 = c 42 0) ((hid kn_31)) (fun h_32 => (hv_ (ir_42 hI 1) (fun h_33 => (hv_ (p := Hid (c_5 42 1 = c 42 1)) (hF_7 42 1 qn_f10b7be0a) (fun kn_34 => (hv_ (p := c_5 42 1 = c 42 1) ((hid kn_34)) (fun h_35 => (v_cv c_296_791 km_9_178 rfl rfl (Nat.le_of_ble_eq_true rfl) ⟨⟨rfl, rfl⟩, Nat.le_of_ble_eq_true rfl, rfl⟩ (Nat.le_of_ble_eq_true rfl) (Nat.le_of_ble_eq_true rfl) (s_218S (a1 := x1) (a2 := x2) (a3 := x3) hI_6 (show (-2147483648) ≤ x1 ∧ x1 ≤ 2147483647 from ⟨by first | (clear hT hNcnt2 h_3 h_4 h_24 h_25; omega) | omega, by first | (clear hT hNcnt2 h_3 h_4 h_24 h_25; omega) | omega⟩) (show (-2147483648) ≤ x2 ∧ x2 ≤ 2147483647 from ⟨by first | (clear hT hNcnt2 h_3 h_4 h_24 h_25; omega) | omega, by first | (clear hT hNcnt2 h_3 h_4 h_24 h_25; omega) | omega⟩) (show (-2147483648) ≤ x3 ∧ x3 ≤ 2147483647 from ⟨by first | (clear hT hNcnt2 h_3 h_4 h_24 h_25; omega) | omega, by first | (clear hT hNcnt2 h_3 h_4 h_24 h_25; omega) | omega⟩) (fun c_36 y_39 hI_37 hF_38 hy_39 h_40 => ?_))))))))))))))))
    refine bk_inl (hv_ (ir_42 hI_37 0) (fun h_41 => (hv_ (ir_42 hI_37 1) (fun h_42 => (q_istore c_296_794 (Nat.le_of_ble_eq_true rfl) (q_goto (t := 1816) c_296_796 rfl (Wp_ls [(4, vi (i0 : Int)), (3, .ref 67), (2, .ref 41), (1, .ref 0), (0, .ref a_SC)] (lsub_cons rfl (lsub_cons rfl (lsub_cons rfl (lsub_cons rfl (lsub_cons rfl lsub_nil))))) (hv_ (ir_1_3 hI) (fun h_43 => (hv_ (p := Hid (c_5 1 3 = c 1 3)) (hF_7 1 3 qn_ab545a015) (fun kn_44 => ?_)))))))))))
    refine hv_ (p := Hid (c_36 1 3 = c 1 3)) ((hF_38 1 3 qn_39cd18c3e).trans (hid kn_44)) (fun kn_45 => (hv_ (p := c_36 1 3 = c 1 3) ((hid kn_45)) (fun h_46 => (hv_ (ir_41_2 hI) (fun h_47 => (hv_ (p := Hid (c_5 41 2 = c 41 2)) (hF_7 41 2 qn_f6e9e9f23) (fun kn_48 => (hv_ (p := Hid (c_36 41 2 = c 41 2)) ((hF_38 41 2 qn_53bdb2099).trans (hid kn_48)) (fun kn_49 => (hv_ (p := c_36 41 2 = c 41 2) ((hid kn_49)) (fun h_50 => (hv_ (p := Hid (c_5 P 0 = n0)) ((hF_7 P 0 (qn_2ab083081 hP)).trans (hn0)) (fun kn_51 => (hv_ (p := Hid (c_36 P 0 = n0)) ((hF_38 P 0 (qn_857752076 hP)).trans (hid kn_51)) (fun kn_52 => ?_)))))))))))))))
    refine hv_ (p := c_36 P 0 = n0) ((hid kn_52)) (fun h_53 => (hv_ (p := Hid (c_36 41 20 = n0)) ((hF_38 41 20 qn_110b29ed6).trans (hid kn_26)) (fun kn_54 => (hv_ (p := c_36 41 20 = n0) ((hid kn_54)) (fun h_55 => (hv_ (p := Hid (c_5 P 1 = n1)) ((hF_7 P 1 (qn_2ab083081 hP)).trans (hn1)) (fun kn_56 => (hv_ (p := Hid (c_36 P 1 = n1)) ((hF_38 P 1 (qn_857752076 hP)).trans (hid kn_56)) (fun kn_57 => (hv_ (p := c_36 P 1 = n1) ((hid kn_57)) (fun h_58 => (hv_ (p := Hid (c_36 41 21 = n1)) ((hF_38 41 21 qn_561064c41).trans (hid kn_28)) (fun kn_59 => (hv_ (p := c_36 41 21 = n1) ((hid kn_59)) (fun h_60 => ?_)))))))))))))))
    refine hv_ (p := Hid (c_5 P 2 = n2)) ((hF_7 P 2 (qn_2ab083081 hP)).trans (hn2)) (fun kn_61 => (hv_ (p := Hid (c_36 P 2 = n2)) ((hF_38 P 2 (qn_857752076 hP)).trans (hid kn_61)) (fun kn_62 => (hv_ (p := c_36 P 2 = n2) ((hid kn_62)) (fun h_63 => (hv_ (p := Hid (c_5 41 22 = n2)) ((hF_7 41 22 qn_f6e9e9f23).trans (hm2)) (fun kn_64 => (hv_ (p := Hid (c_36 41 22 = n2)) ((hF_38 41 22 qn_1a460b46b).trans (hid kn_64)) (fun kn_65 => (hv_ (p := c_36 41 22 = n2) ((hid kn_65)) (fun h_66 => (hv_ (p := Hid (c_5 P 3 = n3)) ((hF_7 P 3 (qn_2ab083081 hP)).trans (hn3)) (fun kn_67 => (hv_ (p := Hid (c_36 P 3 = n3)) ((hF_38 P 3 (qn_857752076 hP)).trans (hid kn_67)) (fun kn_68 => ?_)))))))))))))))
    refine hv_ (p := c_36 P 3 = n3) ((hid kn_68)) (fun h_69 => (hv_ (p := Hid (c_5 41 23 = n3)) ((hF_7 41 23 qn_f6e9e9f23).trans (hm3)) (fun kn_70 => (hv_ (p := Hid (c_36 41 23 = n3)) ((hF_38 41 23 qn_b79f282cd).trans (hid kn_70)) (fun kn_71 => (hv_ (p := c_36 41 23 = n3) ((hid kn_71)) (fun h_72 => (hv_ (p := Hid (c_36 0 12 = c_5 0 12)) (hF_38 0 12 qn_666ded271) (fun kn_73 => (hv_ (p := c_36 0 12 = c_5 0 12) ((hid kn_73)) (fun h_74 => (hv_ (p := c_36 42 0 = c_36 42 0) (rfl) (fun h_75 => (hv_ (p := Hid (c_36 0 13 = c_5 0 13)) (hF_38 0 13 qn_666ded271) (fun kn_76 => ?_)))))))))))))))
    refine hv_ (p := c_36 0 13 = c_5 0 13) ((hid kn_76)) (fun h_77 => (hv_ (p := c_36 42 1 = c_36 42 1) (rfl) (fun h_78 => ?_)))
    exact K P Q c_36 1 (of_decide_eq_true rfl) hI_37 ⟨by omega, ub_fr hU (fun j => (hF_38 2 j qn_2ad67e194).trans (hF_7 2 j qn_326a9cf27)) (fun j => (hF_38 43 j qn_1520ff5e3).trans (hF_7 43 j qn_dee8a76c5)), ⟨by omega, by omega, by omega, by omega⟩, ⟨by omega, by omega⟩⟩
  · skip
    refine hv_ (ir_0_13 hI_12) (fun h_79 => (hv_ (ir_0_12 hI_12) (fun h_80 => (bk_thr (z := Int32.ofInt 2) rfl ⟨_, _, rfl⟩ rfl (bk_inl (q_istore c_296_770 (Nat.le_of_ble_eq_true rfl) (q_aload_n c_296_772 rfl (q_aload_n c_296_773 rfl (q_iload c_296_774 rfl ?_)))))))))
    refine q_iconst c_296_776 (v_iadd (v := (i0 : Int) + 1) c_296_777 rfl (v_scr (j := i0 + 1) c_296_778 (by omega) (by omega) hL hx1 (q_aload_n c_296_779 rfl (q_iload c_296_780 rfl (q_iconst c_296_782 (v_iadd (v := (i0 : Int) + 2) c_296_783 rfl (v_scr (j := i0 + 2) c_296_784 (by omega) (by omega) hL hx2 ?_)))))))
    refine q_aload_n c_296_785 rfl (q_iload c_296_786 rfl (q_iconst c_296_788 (v_iadd (v := (i0 : Int) + 3) c_296_789 rfl (v_scr (j := i0 + 3) c_296_790 (by omega) (by omega) hL hx3 (hv_ (p := Hid (c_11 41 20 = n0)) ((hF_13 41 20 qn_f6e9e9f23).trans (hm0)) (fun kn_81 => (hv_ (p := c_11 41 20 = n0) ((hid kn_81)) (fun h_82 => (hv_ (p := Hid (c_11 41 21 = n1)) ((hF_13 41 21 qn_f6e9e9f23).trans (hm1)) (fun kn_83 => ?_))))))))))
    refine hv_ (p := c_11 41 21 = n1) ((hid kn_83)) (fun h_84 => (hv_ (ir_42 hI 0) (fun h_85 => (hv_ (p := Hid (c_11 42 0 = c 42 0)) (hF_13 42 0 qn_f10b7be0a) (fun kn_86 => (hv_ (p := c_11 42 0 = c 42 0) ((hid kn_86)) (fun h_87 => (hv_ (ir_42 hI 1) (fun h_88 => (hv_ (p := Hid (c_11 42 1 = c 42 1)) (hF_13 42 1 qn_f10b7be0a) (fun kn_89 => (hv_ (p := c_11 42 1 = c 42 1) ((hid kn_89)) (fun h_90 => (v_cv c_296_791 km_9_178 rfl rfl (Nat.le_of_ble_eq_true rfl) ⟨⟨rfl, rfl⟩, Nat.le_of_ble_eq_true rfl, rfl⟩ (Nat.le_of_ble_eq_true rfl) (Nat.le_of_ble_eq_true rfl) (s_218S (a1 := x1) (a2 := x2) (a3 := x3) hI_12 (show (-2147483648) ≤ x1 ∧ x1 ≤ 2147483647 from ⟨by first | (clear hT hNcnt2 h_3 h_4 h_79 h_80; omega) | omega, by first | (clear hT hNcnt2 h_3 h_4 h_79 h_80; omega) | omega⟩) (show (-2147483648) ≤ x2 ∧ x2 ≤ 2147483647 from ⟨by first | (clear hT hNcnt2 h_3 h_4 h_79 h_80; omega) | omega, by first | (clear hT hNcnt2 h_3 h_4 h_79 h_80; omega) | omega⟩) (show (-2147483648) ≤ x3 ∧ x3 ≤ 2147483647 from ⟨by first | (clear hT hNcnt2 h_3 h_4 h_79 h_80; omega) | omega, by first | (clear hT hNcnt2 h_3 h_4 h_79 h_80; omega) | omega⟩) (fun c_91 y_94 hI_92 hF_93 hy_94 h_95 => ?_))))))))))))))))
    refine bk_inl (hv_ (ir_42 hI_92 0) (fun h_96 => (hv_ (ir_42 hI_92 1) (fun h_97 => (q_istore c_296_794 (Nat.le_of_ble_eq_true rfl) (q_goto (t := 1816) c_296_796 rfl (Wp_ls [(4, vi (i0 : Int)), (3, .ref 67), (2, .ref 41), (1, .ref 0), (0, .ref a_SC)] (lsub_cons rfl (lsub_cons rfl (lsub_cons rfl (lsub_cons rfl (lsub_cons rfl lsub_nil))))) (hv_ (ir_1_3 hI) (fun h_98 => (hv_ (p := Hid (c_11 1 3 = c 1 3)) (hF_13 1 3 qn_ab545a015) (fun kn_99 => ?_)))))))))))
    refine hv_ (p := Hid (c_91 1 3 = c 1 3)) ((hF_93 1 3 qn_39cd18c3e).trans (hid kn_99)) (fun kn_100 => (hv_ (p := c_91 1 3 = c 1 3) ((hid kn_100)) (fun h_101 => (hv_ (ir_41_2 hI) (fun h_102 => (hv_ (p := Hid (c_11 41 2 = c 41 2)) (hF_13 41 2 qn_f6e9e9f23) (fun kn_103 => (hv_ (p := Hid (c_91 41 2 = c 41 2)) ((hF_93 41 2 qn_53bdb2099).trans (hid kn_103)) (fun kn_104 => (hv_ (p := c_91 41 2 = c 41 2) ((hid kn_104)) (fun h_105 => (hv_ (p := Hid (c_11 P 0 = n0)) ((hF_13 P 0 (qn_2ab083081 hP)).trans (hn0)) (fun kn_106 => (hv_ (p := Hid (c_91 P 0 = n0)) ((hF_93 P 0 (qn_857752076 hP)).trans (hid kn_106)) (fun kn_107 => ?_)))))))))))))))
    refine hv_ (p := c_91 P 0 = n0) ((hid kn_107)) (fun h_108 => (hv_ (p := Hid (c_91 41 20 = n0)) ((hF_93 41 20 qn_110b29ed6).trans (hid kn_81)) (fun kn_109 => (hv_ (p := c_91 41 20 = n0) ((hid kn_109)) (fun h_110 => (hv_ (p := Hid (c_11 P 1 = n1)) ((hF_13 P 1 (qn_2ab083081 hP)).trans (hn1)) (fun kn_111 => (hv_ (p := Hid (c_91 P 1 = n1)) ((hF_93 P 1 (qn_857752076 hP)).trans (hid kn_111)) (fun kn_112 => (hv_ (p := c_91 P 1 = n1) ((hid kn_112)) (fun h_113 => (hv_ (p := Hid (c_91 41 21 = n1)) ((hF_93 41 21 qn_561064c41).trans (hid kn_83)) (fun kn_114 => (hv_ (p := c_91 41 21 = n1) ((hid kn_114)) (fun h_115 => ?_)))))))))))))))
    refine hv_ (p := Hid (c_11 P 2 = n2)) ((hF_13 P 2 (qn_2ab083081 hP)).trans (hn2)) (fun kn_116 => (hv_ (p := Hid (c_91 P 2 = n2)) ((hF_93 P 2 (qn_857752076 hP)).trans (hid kn_116)) (fun kn_117 => (hv_ (p := c_91 P 2 = n2) ((hid kn_117)) (fun h_118 => (hv_ (p := Hid (c_11 41 22 = n2)) ((hF_13 41 22 qn_f6e9e9f23).trans (hm2)) (fun kn_119 => (hv_ (p := Hid (c_91 41 22 = n2)) ((hF_93 41 22 qn_1a460b46b).trans (hid kn_119)) (fun kn_120 => (hv_ (p := c_91 41 22 = n2) ((hid kn_120)) (fun h_121 => (hv_ (p := Hid (c_11 P 3 = n3)) ((hF_13 P 3 (qn_2ab083081 hP)).trans (hn3)) (fun kn_122 => (hv_ (p := Hid (c_91 P 3 = n3)) ((hF_93 P 3 (qn_857752076 hP)).trans (hid kn_122)) (fun kn_123 => ?_)))))))))))))))
    refine hv_ (p := c_91 P 3 = n3) ((hid kn_123)) (fun h_124 => (hv_ (p := Hid (c_11 41 23 = n3)) ((hF_13 41 23 qn_f6e9e9f23).trans (hm3)) (fun kn_125 => (hv_ (p := Hid (c_91 41 23 = n3)) ((hF_93 41 23 qn_b79f282cd).trans (hid kn_125)) (fun kn_126 => (hv_ (p := c_91 41 23 = n3) ((hid kn_126)) (fun h_127 => (hv_ (p := Hid (c_91 0 12 = c_11 0 12)) (hF_93 0 12 qn_666ded271) (fun kn_128 => (hv_ (p := c_91 0 12 = c_11 0 12) ((hid kn_128)) (fun h_129 => (hv_ (p := c_91 42 0 = c_91 42 0) (rfl) (fun h_130 => (hv_ (p := Hid (c_91 0 13 = c_11 0 13)) (hF_93 0 13 qn_666ded271) (fun kn_131 => ?_)))))))))))))))
    refine hv_ (p := c_91 0 13 = c_11 0 13) ((hid kn_131)) (fun h_132 => (hv_ (p := c_91 42 1 = c_91 42 1) (rfl) (fun h_133 => ?_)))
    exact K P Q c_91 1 (of_decide_eq_true rfl) hI_92 ⟨by omega, ub_fr hU (fun j => (hF_93 2 j qn_2ad67e194).trans (hF_13 2 j qn_326a9cf27)) (fun j => (hF_93 43 j qn_1520ff5e3).trans (hF_13 43 j qn_dee8a76c5)), ⟨by omega, by omega, by omega, by omega⟩, ⟨by omega, by omega⟩⟩
  refine bk_inl (hv_ (ir_0_12 hI_18) (fun h_134 => (hv_ (ir_0_13 hI_18) (fun h_135 => (v_i2l c_274_10 (by omega) (v_ls c_274_11 rfl (of_decide_eq_true rfl) (of_decide_eq_true rfl) (of_decide_eq_true rfl) (q_goto (t := 23) c_274_12 rfl (q_iconst c_274_23 (q_iret c_274_24 rfl ?_)))))))))
  refine bk_inl (q_istore c_296_770 (Nat.le_of_ble_eq_true rfl) (q_aload_n c_296_772 rfl (q_aload_n c_296_773 rfl (q_iload c_296_774 rfl (q_iconst c_296_776 (v_iadd (v := (i0 : Int) + 1) c_296_777 rfl (v_scr (j := i0 + 1) c_296_778 (by omega) (by omega) hL hx1 ?_)))))))
  refine q_aload_n c_296_779 rfl (q_iload c_296_780 rfl (q_iconst c_296_782 (v_iadd (v := (i0 : Int) + 2) c_296_783 rfl (v_scr (j := i0 + 2) c_296_784 (by omega) (by omega) hL hx2 (q_aload_n c_296_785 rfl (q_iload c_296_786 rfl (q_iconst c_296_788 ?_)))))))
  refine v_iadd (v := (i0 : Int) + 3) c_296_789 rfl (v_scr (j := i0 + 3) c_296_790 (by omega) (by omega) hL hx3 (hv_ (iw_lx (a := 67) (j := 0) (v := y_20) hI_18 (by omega)) (fun hI_136 => (hv_ (p := Hid (c_17 41 20 = n0)) ((hF_19 41 20 qn_f6e9e9f23).trans (hm0)) (fun kn_137 => (hv_ (p := (up c_17 67 0 y_20) 41 20 = n0) (((up_c (nn rfl)).trans (hid kn_137))) (fun h_138 => (hv_ (p := Hid (c_17 41 21 = n1)) ((hF_19 41 21 qn_f6e9e9f23).trans (hm1)) (fun kn_139 => (hv_ (p := (up c_17 67 0 y_20) 41 21 = n1) (((up_c (nn rfl)).trans (hid kn_139))) (fun h_140 => (hv_ (ir_42 hI 0) (fun h_141 => ?_)))))))))))))
  refine hv_ (p := Hid (c_17 42 0 = c 42 0)) (hF_19 42 0 qn_f10b7be0a) (fun kn_142 => (hv_ (p := (up c_17 67 0 y_20) 42 0 = c 42 0) (((up_c (nn rfl)).trans (hid kn_142))) (fun h_143 => (hv_ (ir_42 hI 1) (fun h_144 => (hv_ (p := Hid (c_17 42 1 = c 42 1)) (hF_19 42 1 qn_f10b7be0a) (fun kn_145 => (hv_ (p := (up c_17 67 0 y_20) 42 1 = c 42 1) (((up_c (nn rfl)).trans (hid kn_145))) (fun h_146 => (v_cv c_296_791 km_9_178 rfl rfl (Nat.le_of_ble_eq_true rfl) ⟨⟨rfl, rfl⟩, Nat.le_of_ble_eq_true rfl, rfl⟩ (Nat.le_of_ble_eq_true rfl) (Nat.le_of_ble_eq_true rfl) (s_218S (a1 := x1) (a2 := x2) (a3 := x3) hI_136 (show (-2147483648) ≤ x1 ∧ x1 ≤ 2147483647 from ⟨by first | exact q_8223dcfca h_21 h_2 h_1 | omega, by omega⟩) (show (-2147483648) ≤ x2 ∧ x2 ≤ 2147483647 from ⟨by first | exact q_db7026135 h_21 h_2 h_1 | omega, by omega⟩) (show (-2147483648) ≤ x3 ∧ x3 ≤ 2147483647 from ⟨by first | exact q_4cd816883 h_21 h_2 h_1 | omega, by first | exact q_53b6c2f48 h_21 h_2 h_1 | omega⟩) (fun c_147 y_150 hI_148 hF_149 hy_150 h_151 => (bk_inl (hv_ (ir_42 hI_148 0) (fun h_152 => ?_)))))))))))))))
  refine hv_ (ir_42 hI_148 1) (fun h_153 => (q_istore c_296_794 (Nat.le_of_ble_eq_true rfl) (q_goto (t := 1816) c_296_796 rfl (Wp_ls [(4, vi (i0 : Int)), (3, .ref 67), (2, .ref 41), (1, .ref 0), (0, .ref a_SC)] (lsub_cons rfl (lsub_cons rfl (lsub_cons rfl (lsub_cons rfl (lsub_cons rfl lsub_nil))))) (hv_ (ir_1_3 hI) (fun h_154 => (hv_ (p := Hid (c_17 1 3 = c 1 3)) (hF_19 1 3 qn_ab545a015) (fun kn_155 => (hv_ (p := Hid (c_147 1 3 = c 1 3)) ((hF_149 1 3 qn_39cd18c3e).trans ((up_c (nn rfl)).trans (hid kn_155))) (fun kn_156 => (hv_ (p := c_147 1 3 = c 1 3) ((hid kn_156)) (fun h_157 => ?_))))))))))))
  refine hv_ (ir_41_2 hI) (fun h_158 => (hv_ (p := Hid (c_17 41 2 = c 41 2)) (hF_19 41 2 qn_f6e9e9f23) (fun kn_159 => (hv_ (p := Hid (c_147 41 2 = c 41 2)) ((hF_149 41 2 qn_53bdb2099).trans ((up_c (nn rfl)).trans (hid kn_159))) (fun kn_160 => (hv_ (p := c_147 41 2 = c 41 2) ((hid kn_160)) (fun h_161 => (hv_ (p := Hid (c_17 P 0 = n0)) ((hF_19 P 0 (qn_2ab083081 hP)).trans (hn0)) (fun kn_162 => (hv_ (p := Hid (c_147 P 0 = n0)) ((hF_149 P 0 (qn_857752076 hP)).trans ((up_c (np0 hP rfl)).trans (hid kn_162))) (fun kn_163 => (hv_ (p := c_147 P 0 = n0) ((hid kn_163)) (fun h_164 => (hv_ (p := Hid (c_147 41 20 = n0)) ((hF_149 41 20 qn_110b29ed6).trans ((up_c (nn rfl)).trans (hid kn_137))) (fun kn_165 => ?_)))))))))))))))
  refine hv_ (p := c_147 41 20 = n0) ((hid kn_165)) (fun h_166 => (hv_ (p := Hid (c_17 P 1 = n1)) ((hF_19 P 1 (qn_2ab083081 hP)).trans (hn1)) (fun kn_167 => (hv_ (p := Hid (c_147 P 1 = n1)) ((hF_149 P 1 (qn_857752076 hP)).trans ((up_c (np0 hP rfl)).trans (hid kn_167))) (fun kn_168 => (hv_ (p := c_147 P 1 = n1) ((hid kn_168)) (fun h_169 => (hv_ (p := Hid (c_147 41 21 = n1)) ((hF_149 41 21 qn_561064c41).trans ((up_c (nn rfl)).trans (hid kn_139))) (fun kn_170 => (hv_ (p := c_147 41 21 = n1) ((hid kn_170)) (fun h_171 => (hv_ (p := Hid (c_17 P 2 = n2)) ((hF_19 P 2 (qn_2ab083081 hP)).trans (hn2)) (fun kn_172 => (hv_ (p := Hid (c_147 P 2 = n2)) ((hF_149 P 2 (qn_857752076 hP)).trans ((up_c (np0 hP rfl)).trans (hid kn_172))) (fun kn_173 => ?_)))))))))))))))
  refine hv_ (p := c_147 P 2 = n2) ((hid kn_173)) (fun h_174 => (hv_ (p := Hid (c_17 41 22 = n2)) ((hF_19 41 22 qn_f6e9e9f23).trans (hm2)) (fun kn_175 => (hv_ (p := Hid (c_147 41 22 = n2)) ((hF_149 41 22 qn_1a460b46b).trans ((up_c (nn rfl)).trans (hid kn_175))) (fun kn_176 => (hv_ (p := c_147 41 22 = n2) ((hid kn_176)) (fun h_177 => (hv_ (p := Hid (c_17 P 3 = n3)) ((hF_19 P 3 (qn_2ab083081 hP)).trans (hn3)) (fun kn_178 => (hv_ (p := Hid (c_147 P 3 = n3)) ((hF_149 P 3 (qn_857752076 hP)).trans ((up_c (np0 hP rfl)).trans (hid kn_178))) (fun kn_179 => (hv_ (p := c_147 P 3 = n3) ((hid kn_179)) (fun h_180 => (hv_ (p := Hid (c_17 41 23 = n3)) ((hF_19 41 23 qn_f6e9e9f23).trans (hm3)) (fun kn_181 => ?_)))))))))))))))
  refine hv_ (p := Hid (c_147 41 23 = n3)) ((hF_149 41 23 qn_b79f282cd).trans ((up_c (nn rfl)).trans (hid kn_181))) (fun kn_182 => (hv_ (p := c_147 41 23 = n3) ((hid kn_182)) (fun h_183 => (hv_ (p := Hid (c_147 0 12 = c_17 0 12)) ((hF_149 0 12 qn_666ded271).trans (up_c (nn rfl))) (fun kn_184 => (hv_ (p := c_147 0 12 = c_17 0 12) ((hid kn_184)) (fun h_185 => (hv_ (p := c_147 42 0 = c_147 42 0) (rfl) (fun h_186 => (hv_ (p := Hid (c_147 0 13 = c_17 0 13)) ((hF_149 0 13 qn_666ded271).trans (up_c (nn rfl))) (fun kn_187 => (hv_ (p := c_147 0 13 = c_17 0 13) ((hid kn_187)) (fun h_188 => (hv_ (p := c_147 42 1 = c_147 42 1) (rfl) (fun h_189 => ?_)))))))))))))))
  exact K P Q c_147 0 (of_decide_eq_true rfl) hI_148 ⟨by omega, ub_fr hU (fun j => (hF_149 2 j qn_2ad67e194).trans ((up_c (nn rfl)).trans (hF_19 2 j qn_326a9cf27))) (fun j => (hF_149 43 j qn_1520ff5e3).trans ((up_c (nn rfl)).trans (hF_19 43 j qn_dee8a76c5))), ⟨by omega, by omega, by omega, by omega⟩, ⟨by omega, by omega⟩⟩

set_option maxRecDepth 100000 in
set_option maxHeartbeats 4000000 in
theorem o_15 {xs : Nat → Int32} {L i0 d nc ns P Q : Nat} {c : ME} {Z : AR → Prop} (hi : i0 + 8 ≤ L) (hL : L ≤ 100000) (hI : Iv 0 (-1) P Q c) (hR : Rq P c) (K : ∀ (P2 Q2 : Nat) (c2 : ME) (e : Nat), e ≤ 1 → Iv 0 (-1) P2 Q2 c2 → (Rq P2 c2) → Wp (a_scr L xs) (d + 90) 296 1816 [(4, vi (i0 : Int)), (3, .ref 67), (2, .ref 41), (1, .ref 0), (0, .ref a_SC)] [] (Wd P2 Q2 P2 P2 c2) (nc + e) (ns + 6 * e) Z) : Wp (a_scr L xs) (d + 90) 296 799 [(4, vi (i0 : Int)), (3, .ref 67), (2, .ref 41), (1, .ref 0), (0, .ref a_SC)] [] (Wd P Q P P c) nc ns Z := by
  obtain ⟨x1, hx1⟩ : ∃ z, (xs (i0 + 1)).toInt = z := ⟨_, rfl⟩
  refine hv_ (c_rng (xs (i0 + 1))) (fun x1r => ?_)
  rw [hx1] at x1r
  obtain ⟨x2, hx2⟩ : ∃ z, (xs (i0 + 2)).toInt = z := ⟨_, rfl⟩
  refine hv_ (c_rng (xs (i0 + 2))) (fun x2r => ?_)
  rw [hx2] at x2r
  obtain ⟨x3, hx3⟩ : ∃ z, (xs (i0 + 3)).toInt = z := ⟨_, rfl⟩
  refine hv_ (c_rng (xs (i0 + 3))) (fun x3r => ?_)
  rw [hx3] at x3r
  obtain ⟨x4, hx4⟩ : ∃ z, (xs (i0 + 4)).toInt = z := ⟨_, rfl⟩
  refine hv_ (c_rng (xs (i0 + 4))) (fun x4r => ?_)
  rw [hx4] at x4r
  obtain ⟨x5, hx5⟩ : ∃ z, (xs (i0 + 5)).toInt = z := ⟨_, rfl⟩
  refine hv_ (c_rng (xs (i0 + 5))) (fun x5r => ?_)
  rw [hx5] at x5r
  obtain ⟨x6, hx6⟩ : ∃ z, (xs (i0 + 6)).toInt = z := ⟨_, rfl⟩
  refine hv_ (c_rng (xs (i0 + 6))) (fun x6r => ?_)
  rw [hx6] at x6r
  obtain ⟨x7, hx7⟩ : ∃ z, (xs (i0 + 7)).toInt = z := ⟨_, rfl⟩
  refine hv_ (c_rng (xs (i0 + 7))) (fun x7r => ?_)
  rw [hx7] at x7r
  refine hv_ (iv_P hI) (fun hP => (hv_ (iv_Q hI) (fun hQ => (hv_ (rl_t hR) (fun hT => (hv_ (rl_u hR) (fun hU => ?_)))))))
  obtain ⟨n0, hn0⟩ : ∃ z, c P 0 = z := ⟨_, rfl⟩
  refine hv_ (p := c 41 20 = n0) ((rl_nums hR).1.symm.trans hn0) (fun hm0 => (hv_ (ir_p0_0 hI hP) (fun hr0 => ?_)))
  rw [hn0] at hr0
  obtain ⟨n1, hn1⟩ : ∃ z, c P 1 = z := ⟨_, rfl⟩
  refine hv_ (p := c 41 21 = n1) ((rl_nums hR).2.1.symm.trans hn1) (fun hm1 => (hv_ (ir_p0_1 hI hP) (fun hr1 => ?_)))
  rw [hn1] at hr1
  obtain ⟨n2, hn2⟩ : ∃ z, c P 2 = z := ⟨_, rfl⟩
  refine hv_ (p := c 41 22 = n2) ((rl_nums hR).2.2.1.symm.trans hn2) (fun hm2 => (hv_ (ir_p0_2 hI hP) (fun hr2 => ?_)))
  rw [hn2] at hr2
  obtain ⟨n3, hn3⟩ : ∃ z, c P 3 = z := ⟨_, rfl⟩
  refine hv_ (p := c 41 23 = n3) ((rl_nums hR).2.2.2.symm.trans hn3) (fun hm3 => (hv_ (ir_p0_3 hI hP) (fun hr3 => ?_)))
  rw [hn3] at hr3
  refine hv_ (rl_cnt2 hR) (fun hNcnt2 => (hv_ (rl_cnt2 hR) (fun hNcnt2 => (q_aload_n c_296_799 rfl (q_aload_n c_296_800 rfl (q_iload c_296_801 rfl (q_iconst c_296_803 (v_iadd (v := (i0 : Int) + 1) c_296_804 rfl (v_scr (j := i0 + 1) c_296_805 (by omega) (by omega) hL hx1 ?_)))))))))
  refine q_aload_n c_296_806 rfl (q_iload c_296_807 rfl (q_iconst c_296_809 (v_iadd (v := (i0 : Int) + 2) c_296_810 rfl (v_scr (j := i0 + 2) c_296_811 (by omega) (by omega) hL hx2 (q_aload_n c_296_812 rfl (q_iload c_296_813 rfl (q_iconst c_296_815 ?_)))))))
  refine v_iadd (v := (i0 : Int) + 3) c_296_816 rfl (v_scr (j := i0 + 3) c_296_817 (by omega) (by omega) hL hx3 (q_aload_n c_296_818 rfl (q_call c_296_819 rfl rfl rfl (q_aload c_275_0 rfl (q_iconst c_275_2 (q_aload_n c_275_3 rfl (q_iload_n c_275_4 rfl ?_)))))))
  refine q_iload_n c_275_5 rfl (q_iload_n c_275_6 rfl (hv_ (p := c P 0 = n0) ((hn0)) (fun h_1 => (hv_ (p := c P 2 = n2) ((hn2)) (fun h_2 => (hv_ (ir_0_12 hI) (fun h_3 => (hv_ (ir_0_13 hI) (fun h_4 => ?_)))))))))
  refine v_cv c_275_7 km_9_53 rfl rfl (Nat.le_of_ble_eq_true rfl) ⟨⟨rfl, rfl⟩, Nat.le_of_ble_eq_true rfl, rfl⟩ (Nat.le_of_ble_eq_true rfl) (Nat.le_of_ble_eq_true rfl) (s_111S (a1 := x1) (a2 := x2) (a3 := x3) hI (show (-2147483648) ≤ x1 ∧ x1 ≤ 2147483647 from ⟨by omega, by omega⟩) (show (-2147483648) ≤ x2 ∧ x2 ≤ 2147483647 from ⟨by omega, by omega⟩) (show (-2147483648) ≤ x3 ∧ x3 ≤ 2147483647 from ⟨by omega, by omega⟩) (fun c_5 hI_6 hF_7 h_8 h_9 h_10 => ?_) (fun c_11 hI_12 hF_13 h_14 h_15 h_16 => ?_) (fun c_17 y_20 hI_18 hF_19 hy_20 h_21 h_22 h_23 => ?_))
  · skip
    refine hv_ (ir_0_12 hI_6) (fun h_24 => (hv_ (ir_0_13 hI_6) (fun h_25 => (bk_thr (z := Int32.ofInt 1) rfl ⟨_, _, rfl⟩ rfl (bk_inl (q_istore c_296_822 (Nat.le_of_ble_eq_true rfl) (q_aload_n c_296_824 rfl (q_aload_n c_296_825 rfl (q_iload c_296_826 rfl ?_)))))))))
    refine q_iconst c_296_828 (v_iadd (v := (i0 : Int) + 1) c_296_829 rfl (v_scr (j := i0 + 1) c_296_830 (by omega) (by omega) hL hx1 (q_aload_n c_296_831 rfl (q_iload c_296_832 rfl (q_iconst c_296_834 (v_iadd (v := (i0 : Int) + 2) c_296_835 rfl (v_scr (j := i0 + 2) c_296_836 (by omega) (by omega) hL hx2 ?_)))))))
    refine q_aload_n c_296_837 rfl (q_iload c_296_838 rfl (q_iconst c_296_840 (v_iadd (v := (i0 : Int) + 3) c_296_841 rfl (v_scr (j := i0 + 3) c_296_842 (by omega) (by omega) hL hx3 (hv_ (p := Hid (c_5 41 20 = n0)) ((hF_7 41 20 (fun q => q.elim (fun h => absurd h.1 (nn rfl)) (fun h => absurd h.1 (nn rfl)))).trans (hm0)) (fun kn_26 => (hv_ (p := c_5 41 20 = n0) ((hid kn_26)) (fun h_27 => (hv_ (p := Hid (c_5 41 22 = n2)) ((hF_7 41 22 (fun q => q.elim (fun h => absurd h.1 (nn rfl)) (fun h => absurd h.1 (nn rfl)))).trans (hm2)) (fun kn_28 => ?_))))))))))
    refine hv_ (p := c_5 41 22 = n2) ((hid kn_28)) (fun h_29 => (hv_ (ir_42 hI 0) (fun h_30 => (hv_ (p := Hid (c_5 42 0 = c 42 0)) (hF_7 42 0 (fun q => q.elim (fun h => absurd h.1 (nn rfl)) (fun h => absurd h.1 (nn rfl)))) (fun kn_31 => (hv_ (p := c_5 42 0 = c 42 0) ((hid kn_31)) (fun h_32 => (hv_ (ir_42 hI 1) (fun h_33 => (hv_ (p := Hid (c_5 42 1 = c 42 1)) (hF_7 42 1 (fun q => q.elim (fun h => absurd h.1 (nn rfl)) (fun h => absurd h.1 (nn rfl)))) (fun kn_34 => (hv_ (p := c_5 42 1 = c 42 1) ((hid kn_34)) (fun h_35 => (v_cv c_296_843 km_9_181 rfl rfl (Nat.le_of_ble_eq_true rfl) ⟨⟨rfl, rfl⟩, Nat.le_of_ble_eq_true rfl, rfl⟩ (Nat.le_of_ble_eq_true rfl) (Nat.le_of_ble_eq_true rfl) (s_219S (a1 := x1) (a2 := x2) (a3 := x3) hI_6 (show (-2147483648) ≤ x1 ∧ x1 ≤ 2147483647 from ⟨by first | (clear hT hNcnt2 h_3 h_4 h_24 h_25; omega) | omega, by first | (clear hT hNcnt2 h_3 h_4 h_24 h_25; omega) | omega⟩) (show (-2147483648) ≤ x2 ∧ x2 ≤ 2147483647 from ⟨by first | (clear hT hNcnt2 h_3 h_4 h_24 h_25; omega) | omega, by first | (clear hT hNcnt2 h_3 h_4 h_24 h_25; omega) | omega⟩) (show (-2147483648) ≤ x3 ∧ x3 ≤ 2147483647 from ⟨by first | (clear hT hNcnt2 h_3 h_4 h_24 h_25; omega) | omega, by first | (clear hT hNcnt2 h_3 h_4 h_24 h_25; omega) | omega⟩) (fun c_36 y_39 hI_37 hF_38 hy_39 h_40 => ?_))))))))))))))))
    refine bk_inl (hv_ (ir_42 hI_37 0) (fun h_41 => (hv_ (ir_42 hI_37 1) (fun h_42 => (q_istore c_296_846 (Nat.le_of_ble_eq_true rfl) (q_goto (t := 1816) c_296_848 rfl (Wp_ls [(4, vi (i0 : Int)), (3, .ref 67), (2, .ref 41), (1, .ref 0), (0, .ref a_SC)] (lsub_cons rfl (lsub_cons rfl (lsub_cons rfl (lsub_cons rfl (lsub_cons rfl lsub_nil))))) (hv_ (ir_1_3 hI) (fun h_43 => (hv_ (p := Hid (c_5 1 3 = c 1 3)) (hF_7 1 3 (fun q => q.elim (fun h => absurd h.1 (nn rfl)) (fun h => absurd h.1 (nn rfl)))) (fun kn_44 => ?_)))))))))))
    refine hv_ (p := Hid (c_36 1 3 = c 1 3)) ((hF_38 1 3 qn_39cd18c3e).trans (hid kn_44)) (fun kn_45 => (hv_ (p := c_36 1 3 = c 1 3) ((hid kn_45)) (fun h_46 => (hv_ (ir_41_2 hI) (fun h_47 => (hv_ (p := Hid (c_5 41 2 = c 41 2)) (hF_7 41 2 (fun q => q.elim (fun h => absurd h.1 (nn rfl)) (fun h => absurd h.1 (nn rfl)))) (fun kn_48 => (hv_ (p := Hid (c_36 41 2 = c 41 2)) ((hF_38 41 2 qn_53bdb2099).trans (hid kn_48)) (fun kn_49 => (hv_ (p := c_36 41 2 = c 41 2) ((hid kn_49)) (fun h_50 => (hv_ (p := Hid (c_5 P 0 = n0)) ((hF_7 P 0 (qn_7ba88e57e hP)).trans (hn0)) (fun kn_51 => (hv_ (p := Hid (c_36 P 0 = n0)) ((hF_38 P 0 (qn_857752076 hP)).trans (hid kn_51)) (fun kn_52 => ?_)))))))))))))))
    refine hv_ (p := c_36 P 0 = n0) ((hid kn_52)) (fun h_53 => (hv_ (p := Hid (c_36 41 20 = n0)) ((hF_38 41 20 qn_110b29ed6).trans (hid kn_26)) (fun kn_54 => (hv_ (p := c_36 41 20 = n0) ((hid kn_54)) (fun h_55 => (hv_ (p := Hid (c_5 P 1 = n1)) ((hF_7 P 1 (qn_7ba88e57e hP)).trans (hn1)) (fun kn_56 => (hv_ (p := Hid (c_36 P 1 = n1)) ((hF_38 P 1 (qn_857752076 hP)).trans (hid kn_56)) (fun kn_57 => (hv_ (p := c_36 P 1 = n1) ((hid kn_57)) (fun h_58 => (hv_ (p := Hid (c_5 41 21 = n1)) ((hF_7 41 21 (fun q => q.elim (fun h => absurd h.1 (nn rfl)) (fun h => absurd h.1 (nn rfl)))).trans (hm1)) (fun kn_59 => (hv_ (p := Hid (c_36 41 21 = n1)) ((hF_38 41 21 qn_561064c41).trans (hid kn_59)) (fun kn_60 => ?_)))))))))))))))
    refine hv_ (p := c_36 41 21 = n1) ((hid kn_60)) (fun h_61 => (hv_ (p := Hid (c_5 P 2 = n2)) ((hF_7 P 2 (qn_7ba88e57e hP)).trans (hn2)) (fun kn_62 => (hv_ (p := Hid (c_36 P 2 = n2)) ((hF_38 P 2 (qn_857752076 hP)).trans (hid kn_62)) (fun kn_63 => (hv_ (p := c_36 P 2 = n2) ((hid kn_63)) (fun h_64 => (hv_ (p := Hid (c_36 41 22 = n2)) ((hF_38 41 22 qn_1a460b46b).trans (hid kn_28)) (fun kn_65 => (hv_ (p := c_36 41 22 = n2) ((hid kn_65)) (fun h_66 => (hv_ (p := Hid (c_5 P 3 = n3)) ((hF_7 P 3 (qn_7ba88e57e hP)).trans (hn3)) (fun kn_67 => (hv_ (p := Hid (c_36 P 3 = n3)) ((hF_38 P 3 (qn_857752076 hP)).trans (hid kn_67)) (fun kn_68 => ?_)))))))))))))))
    refine hv_ (p := c_36 P 3 = n3) ((hid kn_68)) (fun h_69 => (hv_ (p := Hid (c_5 41 23 = n3)) ((hF_7 41 23 (fun q => q.elim (fun h => absurd h.1 (nn rfl)) (fun h => absurd h.1 (nn rfl)))).trans (hm3)) (fun kn_70 => (hv_ (p := Hid (c_36 41 23 = n3)) ((hF_38 41 23 qn_b79f282cd).trans (hid kn_70)) (fun kn_71 => (hv_ (p := c_36 41 23 = n3) ((hid kn_71)) (fun h_72 => (hv_ (p := Hid (c_36 0 12 = c_5 0 12)) (hF_38 0 12 qn_666ded271) (fun kn_73 => (hv_ (p := c_36 0 12 = c_5 0 12) ((hid kn_73)) (fun h_74 => (hv_ (p := c_36 42 0 = c_36 42 0) (rfl) (fun h_75 => (hv_ (p := Hid (c_36 0 13 = c_5 0 13)) (hF_38 0 13 qn_666ded271) (fun kn_76 => ?_)))))))))))))))
    refine hv_ (p := c_36 0 13 = c_5 0 13) ((hid kn_76)) (fun h_77 => (hv_ (p := c_36 42 1 = c_36 42 1) (rfl) (fun h_78 => ?_)))
    exact K P Q c_36 1 (of_decide_eq_true rfl) hI_37 ⟨by omega, ub_fr hU (fun j => (hF_38 2 j qn_2ad67e194).trans (hF_7 2 j (fun q => q.elim (fun h => absurd h.1 (nn rfl)) (fun h => absurd h.1 (nn rfl))))) (fun j => (hF_38 43 j qn_1520ff5e3).trans (hF_7 43 j (fun q => q.elim (fun h => absurd h.1 (nn rfl)) (fun h => absurd h.1 (nn rfl))))), ⟨by omega, by omega, by omega, by omega⟩, ⟨by omega, by omega⟩⟩
  · skip
    refine hv_ (ir_0_13 hI_12) (fun h_79 => (hv_ (ir_0_12 hI_12) (fun h_80 => (bk_thr (z := Int32.ofInt 2) rfl ⟨_, _, rfl⟩ rfl (bk_inl (q_istore c_296_822 (Nat.le_of_ble_eq_true rfl) (q_aload_n c_296_824 rfl (q_aload_n c_296_825 rfl (q_iload c_296_826 rfl ?_)))))))))
    refine q_iconst c_296_828 (v_iadd (v := (i0 : Int) + 1) c_296_829 rfl (v_scr (j := i0 + 1) c_296_830 (by omega) (by omega) hL hx1 (q_aload_n c_296_831 rfl (q_iload c_296_832 rfl (q_iconst c_296_834 (v_iadd (v := (i0 : Int) + 2) c_296_835 rfl (v_scr (j := i0 + 2) c_296_836 (by omega) (by omega) hL hx2 ?_)))))))
    refine q_aload_n c_296_837 rfl (q_iload c_296_838 rfl (q_iconst c_296_840 (v_iadd (v := (i0 : Int) + 3) c_296_841 rfl (v_scr (j := i0 + 3) c_296_842 (by omega) (by omega) hL hx3 (hv_ (p := Hid (c_11 41 20 = n0)) ((hF_13 41 20 (fun q => q.elim (fun h => absurd h.1 (nn rfl)) (fun h => absurd h.1 (nn rfl)))).trans (hm0)) (fun kn_81 => (hv_ (p := c_11 41 20 = n0) ((hid kn_81)) (fun h_82 => (hv_ (p := Hid (c_11 41 22 = n2)) ((hF_13 41 22 (fun q => q.elim (fun h => absurd h.1 (nn rfl)) (fun h => absurd h.1 (nn rfl)))).trans (hm2)) (fun kn_83 => ?_))))))))))
    refine hv_ (p := c_11 41 22 = n2) ((hid kn_83)) (fun h_84 => (hv_ (ir_42 hI 0) (fun h_85 => (hv_ (p := Hid (c_11 42 0 = c 42 0)) (hF_13 42 0 (fun q => q.elim (fun h => absurd h.1 (nn rfl)) (fun h => absurd h.1 (nn rfl)))) (fun kn_86 => (hv_ (p := c_11 42 0 = c 42 0) ((hid kn_86)) (fun h_87 => (hv_ (ir_42 hI 1) (fun h_88 => (hv_ (p := Hid (c_11 42 1 = c 42 1)) (hF_13 42 1 (fun q => q.elim (fun h => absurd h.1 (nn rfl)) (fun h => absurd h.1 (nn rfl)))) (fun kn_89 => (hv_ (p := c_11 42 1 = c 42 1) ((hid kn_89)) (fun h_90 => (v_cv c_296_843 km_9_181 rfl rfl (Nat.le_of_ble_eq_true rfl) ⟨⟨rfl, rfl⟩, Nat.le_of_ble_eq_true rfl, rfl⟩ (Nat.le_of_ble_eq_true rfl) (Nat.le_of_ble_eq_true rfl) (s_219S (a1 := x1) (a2 := x2) (a3 := x3) hI_12 (show (-2147483648) ≤ x1 ∧ x1 ≤ 2147483647 from ⟨by first | (clear hT hNcnt2 h_3 h_4 h_79 h_80; omega) | omega, by first | (clear hT hNcnt2 h_3 h_4 h_79 h_80; omega) | omega⟩) (show (-2147483648) ≤ x2 ∧ x2 ≤ 2147483647 from ⟨by first | (clear hT hNcnt2 h_3 h_4 h_79 h_80; omega) | omega, by first | (clear hT hNcnt2 h_3 h_4 h_79 h_80; omega) | omega⟩) (show (-2147483648) ≤ x3 ∧ x3 ≤ 2147483647 from ⟨by first | (clear hT hNcnt2 h_3 h_4 h_79 h_80; omega) | omega, by first | (clear hT hNcnt2 h_3 h_4 h_79 h_80; omega) | omega⟩) (fun c_91 y_94 hI_92 hF_93 hy_94 h_95 => ?_))))))))))))))))
    refine bk_inl (hv_ (ir_42 hI_92 0) (fun h_96 => (hv_ (ir_42 hI_92 1) (fun h_97 => (q_istore c_296_846 (Nat.le_of_ble_eq_true rfl) (q_goto (t := 1816) c_296_848 rfl (Wp_ls [(4, vi (i0 : Int)), (3, .ref 67), (2, .ref 41), (1, .ref 0), (0, .ref a_SC)] (lsub_cons rfl (lsub_cons rfl (lsub_cons rfl (lsub_cons rfl (lsub_cons rfl lsub_nil))))) (hv_ (ir_1_3 hI) (fun h_98 => (hv_ (p := Hid (c_11 1 3 = c 1 3)) (hF_13 1 3 (fun q => q.elim (fun h => absurd h.1 (nn rfl)) (fun h => absurd h.1 (nn rfl)))) (fun kn_99 => ?_)))))))))))
    refine hv_ (p := Hid (c_91 1 3 = c 1 3)) ((hF_93 1 3 qn_39cd18c3e).trans (hid kn_99)) (fun kn_100 => (hv_ (p := c_91 1 3 = c 1 3) ((hid kn_100)) (fun h_101 => (hv_ (ir_41_2 hI) (fun h_102 => (hv_ (p := Hid (c_11 41 2 = c 41 2)) (hF_13 41 2 (fun q => q.elim (fun h => absurd h.1 (nn rfl)) (fun h => absurd h.1 (nn rfl)))) (fun kn_103 => (hv_ (p := Hid (c_91 41 2 = c 41 2)) ((hF_93 41 2 qn_53bdb2099).trans (hid kn_103)) (fun kn_104 => (hv_ (p := c_91 41 2 = c 41 2) ((hid kn_104)) (fun h_105 => (hv_ (p := Hid (c_11 P 0 = n0)) ((hF_13 P 0 (qn_7ba88e57e hP)).trans (hn0)) (fun kn_106 => (hv_ (p := Hid (c_91 P 0 = n0)) ((hF_93 P 0 (qn_857752076 hP)).trans (hid kn_106)) (fun kn_107 => ?_)))))))))))))))
    refine hv_ (p := c_91 P 0 = n0) ((hid kn_107)) (fun h_108 => (hv_ (p := Hid (c_91 41 20 = n0)) ((hF_93 41 20 qn_110b29ed6).trans (hid kn_81)) (fun kn_109 => (hv_ (p := c_91 41 20 = n0) ((hid kn_109)) (fun h_110 => (hv_ (p := Hid (c_11 P 1 = n1)) ((hF_13 P 1 (qn_7ba88e57e hP)).trans (hn1)) (fun kn_111 => (hv_ (p := Hid (c_91 P 1 = n1)) ((hF_93 P 1 (qn_857752076 hP)).trans (hid kn_111)) (fun kn_112 => (hv_ (p := c_91 P 1 = n1) ((hid kn_112)) (fun h_113 => (hv_ (p := Hid (c_11 41 21 = n1)) ((hF_13 41 21 (fun q => q.elim (fun h => absurd h.1 (nn rfl)) (fun h => absurd h.1 (nn rfl)))).trans (hm1)) (fun kn_114 => (hv_ (p := Hid (c_91 41 21 = n1)) ((hF_93 41 21 qn_561064c41).trans (hid kn_114)) (fun kn_115 => ?_)))))))))))))))
    refine hv_ (p := c_91 41 21 = n1) ((hid kn_115)) (fun h_116 => (hv_ (p := Hid (c_11 P 2 = n2)) ((hF_13 P 2 (qn_7ba88e57e hP)).trans (hn2)) (fun kn_117 => (hv_ (p := Hid (c_91 P 2 = n2)) ((hF_93 P 2 (qn_857752076 hP)).trans (hid kn_117)) (fun kn_118 => (hv_ (p := c_91 P 2 = n2) ((hid kn_118)) (fun h_119 => (hv_ (p := Hid (c_91 41 22 = n2)) ((hF_93 41 22 qn_1a460b46b).trans (hid kn_83)) (fun kn_120 => (hv_ (p := c_91 41 22 = n2) ((hid kn_120)) (fun h_121 => (hv_ (p := Hid (c_11 P 3 = n3)) ((hF_13 P 3 (qn_7ba88e57e hP)).trans (hn3)) (fun kn_122 => (hv_ (p := Hid (c_91 P 3 = n3)) ((hF_93 P 3 (qn_857752076 hP)).trans (hid kn_122)) (fun kn_123 => ?_)))))))))))))))
    refine hv_ (p := c_91 P 3 = n3) ((hid kn_123)) (fun h_124 => (hv_ (p := Hid (c_11 41 23 = n3)) ((hF_13 41 23 (fun q => q.elim (fun h => absurd h.1 (nn rfl)) (fun h => absurd h.1 (nn rfl)))).trans (hm3)) (fun kn_125 => (hv_ (p := Hid (c_91 41 23 = n3)) ((hF_93 41 23 qn_b79f282cd).trans (hid kn_125)) (fun kn_126 => (hv_ (p := c_91 41 23 = n3) ((hid kn_126)) (fun h_127 => (hv_ (p := Hid (c_91 0 12 = c_11 0 12)) (hF_93 0 12 qn_666ded271) (fun kn_128 => (hv_ (p := c_91 0 12 = c_11 0 12) ((hid kn_128)) (fun h_129 => (hv_ (p := c_91 42 0 = c_91 42 0) (rfl) (fun h_130 => (hv_ (p := Hid (c_91 0 13 = c_11 0 13)) (hF_93 0 13 qn_666ded271) (fun kn_131 => ?_)))))))))))))))
    refine hv_ (p := c_91 0 13 = c_11 0 13) ((hid kn_131)) (fun h_132 => (hv_ (p := c_91 42 1 = c_91 42 1) (rfl) (fun h_133 => ?_)))
    exact K P Q c_91 1 (of_decide_eq_true rfl) hI_92 ⟨by omega, ub_fr hU (fun j => (hF_93 2 j qn_2ad67e194).trans (hF_13 2 j (fun q => q.elim (fun h => absurd h.1 (nn rfl)) (fun h => absurd h.1 (nn rfl))))) (fun j => (hF_93 43 j qn_1520ff5e3).trans (hF_13 43 j (fun q => q.elim (fun h => absurd h.1 (nn rfl)) (fun h => absurd h.1 (nn rfl))))), ⟨by omega, by omega, by omega, by omega⟩, ⟨by omega, by omega⟩⟩
  refine bk_inl (hv_ (ir_0_12 hI_18) (fun h_134 => (hv_ (ir_0_13 hI_18) (fun h_135 => (v_i2l c_275_10 (by omega) (v_ls c_275_11 rfl (of_decide_eq_true rfl) (of_decide_eq_true rfl) (of_decide_eq_true rfl) (q_goto (t := 23) c_275_12 rfl (q_iconst c_275_23 (q_iret c_275_24 rfl ?_)))))))))
  refine bk_inl (q_istore c_296_822 (Nat.le_of_ble_eq_true rfl) (q_aload_n c_296_824 rfl (q_aload_n c_296_825 rfl (q_iload c_296_826 rfl (q_iconst c_296_828 (v_iadd (v := (i0 : Int) + 1) c_296_829 rfl (v_scr (j := i0 + 1) c_296_830 (by omega) (by omega) hL hx1 ?_)))))))
  refine q_aload_n c_296_831 rfl (q_iload c_296_832 rfl (q_iconst c_296_834 (v_iadd (v := (i0 : Int) + 2) c_296_835 rfl (v_scr (j := i0 + 2) c_296_836 (by omega) (by omega) hL hx2 (q_aload_n c_296_837 rfl (q_iload c_296_838 rfl (q_iconst c_296_840 ?_)))))))
  refine v_iadd (v := (i0 : Int) + 3) c_296_841 rfl (v_scr (j := i0 + 3) c_296_842 (by omega) (by omega) hL hx3 (hv_ (iw_lx (a := 67) (j := 0) (v := y_20) hI_18 (by omega)) (fun hI_136 => (hv_ (p := Hid (c_17 41 20 = n0)) ((hF_19 41 20 (fun q => q.elim (fun h => absurd h.1 (nn rfl)) (fun h => absurd h.1 (nn rfl)))).trans (hm0)) (fun kn_137 => (hv_ (p := (up c_17 67 0 y_20) 41 20 = n0) (((up_c (nn rfl)).trans (hid kn_137))) (fun h_138 => (hv_ (p := Hid (c_17 41 22 = n2)) ((hF_19 41 22 (fun q => q.elim (fun h => absurd h.1 (nn rfl)) (fun h => absurd h.1 (nn rfl)))).trans (hm2)) (fun kn_139 => (hv_ (p := (up c_17 67 0 y_20) 41 22 = n2) (((up_c (nn rfl)).trans (hid kn_139))) (fun h_140 => (hv_ (ir_42 hI 0) (fun h_141 => ?_)))))))))))))
  refine hv_ (p := Hid (c_17 42 0 = c 42 0)) (hF_19 42 0 (fun q => q.elim (fun h => absurd h.1 (nn rfl)) (fun h => absurd h.1 (nn rfl)))) (fun kn_142 => (hv_ (p := (up c_17 67 0 y_20) 42 0 = c 42 0) (((up_c (nn rfl)).trans (hid kn_142))) (fun h_143 => (hv_ (ir_42 hI 1) (fun h_144 => (hv_ (p := Hid (c_17 42 1 = c 42 1)) (hF_19 42 1 (fun q => q.elim (fun h => absurd h.1 (nn rfl)) (fun h => absurd h.1 (nn rfl)))) (fun kn_145 => (hv_ (p := (up c_17 67 0 y_20) 42 1 = c 42 1) (((up_c (nn rfl)).trans (hid kn_145))) (fun h_146 => (v_cv c_296_843 km_9_181 rfl rfl (Nat.le_of_ble_eq_true rfl) ⟨⟨rfl, rfl⟩, Nat.le_of_ble_eq_true rfl, rfl⟩ (Nat.le_of_ble_eq_true rfl) (Nat.le_of_ble_eq_true rfl) (s_219S (a1 := x1) (a2 := x2) (a3 := x3) hI_136 (show (-2147483648) ≤ x1 ∧ x1 ≤ 2147483647 from ⟨by first | exact q_8223dcfca h_21 h_2 h_1 | omega, by omega⟩) (show (-2147483648) ≤ x2 ∧ x2 ≤ 2147483647 from ⟨by first | exact q_db7026135 h_21 h_2 h_1 | omega, by omega⟩) (show (-2147483648) ≤ x3 ∧ x3 ≤ 2147483647 from ⟨by first | exact q_4cd816883 h_21 h_2 h_1 | omega, by first | exact q_53b6c2f48 h_21 h_2 h_1 | omega⟩) (fun c_147 y_150 hI_148 hF_149 hy_150 h_151 => (bk_inl (hv_ (ir_42 hI_148 0) (fun h_152 => ?_)))))))))))))))
  refine hv_ (ir_42 hI_148 1) (fun h_153 => (q_istore c_296_846 (Nat.le_of_ble_eq_true rfl) (q_goto (t := 1816) c_296_848 rfl (Wp_ls [(4, vi (i0 : Int)), (3, .ref 67), (2, .ref 41), (1, .ref 0), (0, .ref a_SC)] (lsub_cons rfl (lsub_cons rfl (lsub_cons rfl (lsub_cons rfl (lsub_cons rfl lsub_nil))))) (hv_ (ir_1_3 hI) (fun h_154 => (hv_ (p := Hid (c_17 1 3 = c 1 3)) (hF_19 1 3 (fun q => q.elim (fun h => absurd h.1 (nn rfl)) (fun h => absurd h.1 (nn rfl)))) (fun kn_155 => (hv_ (p := Hid (c_147 1 3 = c 1 3)) ((hF_149 1 3 qn_39cd18c3e).trans ((up_c (nn rfl)).trans (hid kn_155))) (fun kn_156 => (hv_ (p := c_147 1 3 = c 1 3) ((hid kn_156)) (fun h_157 => ?_))))))))))))
  refine hv_ (ir_41_2 hI) (fun h_158 => (hv_ (p := Hid (c_17 41 2 = c 41 2)) (hF_19 41 2 (fun q => q.elim (fun h => absurd h.1 (nn rfl)) (fun h => absurd h.1 (nn rfl)))) (fun kn_159 => (hv_ (p := Hid (c_147 41 2 = c 41 2)) ((hF_149 41 2 qn_53bdb2099).trans ((up_c (nn rfl)).trans (hid kn_159))) (fun kn_160 => (hv_ (p := c_147 41 2 = c 41 2) ((hid kn_160)) (fun h_161 => (hv_ (p := Hid (c_17 P 0 = n0)) ((hF_19 P 0 (qn_7ba88e57e hP)).trans (hn0)) (fun kn_162 => (hv_ (p := Hid (c_147 P 0 = n0)) ((hF_149 P 0 (qn_857752076 hP)).trans ((up_c (np0 hP rfl)).trans (hid kn_162))) (fun kn_163 => (hv_ (p := c_147 P 0 = n0) ((hid kn_163)) (fun h_164 => (hv_ (p := Hid (c_147 41 20 = n0)) ((hF_149 41 20 qn_110b29ed6).trans ((up_c (nn rfl)).trans (hid kn_137))) (fun kn_165 => ?_)))))))))))))))
  refine hv_ (p := c_147 41 20 = n0) ((hid kn_165)) (fun h_166 => (hv_ (p := Hid (c_17 P 1 = n1)) ((hF_19 P 1 (qn_7ba88e57e hP)).trans (hn1)) (fun kn_167 => (hv_ (p := Hid (c_147 P 1 = n1)) ((hF_149 P 1 (qn_857752076 hP)).trans ((up_c (np0 hP rfl)).trans (hid kn_167))) (fun kn_168 => (hv_ (p := c_147 P 1 = n1) ((hid kn_168)) (fun h_169 => (hv_ (p := Hid (c_17 41 21 = n1)) ((hF_19 41 21 (fun q => q.elim (fun h => absurd h.1 (nn rfl)) (fun h => absurd h.1 (nn rfl)))).trans (hm1)) (fun kn_170 => (hv_ (p := Hid (c_147 41 21 = n1)) ((hF_149 41 21 qn_561064c41).trans ((up_c (nn rfl)).trans (hid kn_170))) (fun kn_171 => (hv_ (p := c_147 41 21 = n1) ((hid kn_171)) (fun h_172 => (hv_ (p := Hid (c_17 P 2 = n2)) ((hF_19 P 2 (qn_7ba88e57e hP)).trans (hn2)) (fun kn_173 => ?_)))))))))))))))
  refine hv_ (p := Hid (c_147 P 2 = n2)) ((hF_149 P 2 (qn_857752076 hP)).trans ((up_c (np0 hP rfl)).trans (hid kn_173))) (fun kn_174 => (hv_ (p := c_147 P 2 = n2) ((hid kn_174)) (fun h_175 => (hv_ (p := Hid (c_147 41 22 = n2)) ((hF_149 41 22 qn_1a460b46b).trans ((up_c (nn rfl)).trans (hid kn_139))) (fun kn_176 => (hv_ (p := c_147 41 22 = n2) ((hid kn_176)) (fun h_177 => (hv_ (p := Hid (c_17 P 3 = n3)) ((hF_19 P 3 (qn_7ba88e57e hP)).trans (hn3)) (fun kn_178 => (hv_ (p := Hid (c_147 P 3 = n3)) ((hF_149 P 3 (qn_857752076 hP)).trans ((up_c (np0 hP rfl)).trans (hid kn_178))) (fun kn_179 => (hv_ (p := c_147 P 3 = n3) ((hid kn_179)) (fun h_180 => (hv_ (p := Hid (c_17 41 23 = n3)) ((hF_19 41 23 (fun q => q.elim (fun h => absurd h.1 (nn rfl)) (fun h => absurd h.1 (nn rfl)))).trans (hm3)) (fun kn_181 => ?_)))))))))))))))
  refine hv_ (p := Hid (c_147 41 23 = n3)) ((hF_149 41 23 qn_b79f282cd).trans ((up_c (nn rfl)).trans (hid kn_181))) (fun kn_182 => (hv_ (p := c_147 41 23 = n3) ((hid kn_182)) (fun h_183 => (hv_ (p := Hid (c_147 0 12 = c_17 0 12)) ((hF_149 0 12 qn_666ded271).trans (up_c (nn rfl))) (fun kn_184 => (hv_ (p := c_147 0 12 = c_17 0 12) ((hid kn_184)) (fun h_185 => (hv_ (p := c_147 42 0 = c_147 42 0) (rfl) (fun h_186 => (hv_ (p := Hid (c_147 0 13 = c_17 0 13)) ((hF_149 0 13 qn_666ded271).trans (up_c (nn rfl))) (fun kn_187 => (hv_ (p := c_147 0 13 = c_17 0 13) ((hid kn_187)) (fun h_188 => (hv_ (p := c_147 42 1 = c_147 42 1) (rfl) (fun h_189 => ?_)))))))))))))))
  exact K P Q c_147 0 (of_decide_eq_true rfl) hI_148 ⟨by omega, ub_fr hU (fun j => (hF_149 2 j qn_2ad67e194).trans ((up_c (nn rfl)).trans (hF_19 2 j (fun q => q.elim (fun h => absurd h.1 (nn rfl)) (fun h => absurd h.1 (nn rfl)))))) (fun j => (hF_149 43 j qn_1520ff5e3).trans ((up_c (nn rfl)).trans (hF_19 43 j (fun q => q.elim (fun h => absurd h.1 (nn rfl)) (fun h => absurd h.1 (nn rfl)))))), ⟨by omega, by omega, by omega, by omega⟩, ⟨by omega, by omega⟩⟩

set_option maxRecDepth 100000 in
set_option maxHeartbeats 4000000 in
theorem o_16 {xs : Nat → Int32} {L i0 d nc ns P Q : Nat} {c : ME} {Z : AR → Prop} (hi : i0 + 8 ≤ L) (hL : L ≤ 100000) (hI : Iv 0 (-1) P Q c) (hR : Rq P c) (K : ∀ (P2 Q2 : Nat) (c2 : ME) (e : Nat), e ≤ 1 → Iv 0 (-1) P2 Q2 c2 → (Rq P2 c2) → Wp (a_scr L xs) (d + 90) 296 1816 [(4, vi (i0 : Int)), (3, .ref 67), (2, .ref 41), (1, .ref 0), (0, .ref a_SC)] [] (Wd P2 Q2 P2 P2 c2) (nc + e) (ns + 6 * e) Z) : Wp (a_scr L xs) (d + 90) 296 851 [(4, vi (i0 : Int)), (3, .ref 67), (2, .ref 41), (1, .ref 0), (0, .ref a_SC)] [] (Wd P Q P P c) nc ns Z := by
  obtain ⟨x1, hx1⟩ : ∃ z, (xs (i0 + 1)).toInt = z := ⟨_, rfl⟩
  refine hv_ (c_rng (xs (i0 + 1))) (fun x1r => ?_)
  rw [hx1] at x1r
  obtain ⟨x2, hx2⟩ : ∃ z, (xs (i0 + 2)).toInt = z := ⟨_, rfl⟩
  refine hv_ (c_rng (xs (i0 + 2))) (fun x2r => ?_)
  rw [hx2] at x2r
  obtain ⟨x3, hx3⟩ : ∃ z, (xs (i0 + 3)).toInt = z := ⟨_, rfl⟩
  refine hv_ (c_rng (xs (i0 + 3))) (fun x3r => ?_)
  rw [hx3] at x3r
  obtain ⟨x4, hx4⟩ : ∃ z, (xs (i0 + 4)).toInt = z := ⟨_, rfl⟩
  refine hv_ (c_rng (xs (i0 + 4))) (fun x4r => ?_)
  rw [hx4] at x4r
  obtain ⟨x5, hx5⟩ : ∃ z, (xs (i0 + 5)).toInt = z := ⟨_, rfl⟩
  refine hv_ (c_rng (xs (i0 + 5))) (fun x5r => ?_)
  rw [hx5] at x5r
  obtain ⟨x6, hx6⟩ : ∃ z, (xs (i0 + 6)).toInt = z := ⟨_, rfl⟩
  refine hv_ (c_rng (xs (i0 + 6))) (fun x6r => ?_)
  rw [hx6] at x6r
  obtain ⟨x7, hx7⟩ : ∃ z, (xs (i0 + 7)).toInt = z := ⟨_, rfl⟩
  refine hv_ (c_rng (xs (i0 + 7))) (fun x7r => ?_)
  rw [hx7] at x7r
  refine hv_ (iv_P hI) (fun hP => (hv_ (iv_Q hI) (fun hQ => (hv_ (rl_t hR) (fun hT => (hv_ (rl_u hR) (fun hU => ?_)))))))
  obtain ⟨n0, hn0⟩ : ∃ z, c P 0 = z := ⟨_, rfl⟩
  refine hv_ (p := c 41 20 = n0) ((rl_nums hR).1.symm.trans hn0) (fun hm0 => (hv_ (ir_p0_0 hI hP) (fun hr0 => ?_)))
  rw [hn0] at hr0
  obtain ⟨n1, hn1⟩ : ∃ z, c P 1 = z := ⟨_, rfl⟩
  refine hv_ (p := c 41 21 = n1) ((rl_nums hR).2.1.symm.trans hn1) (fun hm1 => (hv_ (ir_p0_1 hI hP) (fun hr1 => ?_)))
  rw [hn1] at hr1
  obtain ⟨n2, hn2⟩ : ∃ z, c P 2 = z := ⟨_, rfl⟩
  refine hv_ (p := c 41 22 = n2) ((rl_nums hR).2.2.1.symm.trans hn2) (fun hm2 => (hv_ (ir_p0_2 hI hP) (fun hr2 => ?_)))
  rw [hn2] at hr2
  obtain ⟨n3, hn3⟩ : ∃ z, c P 3 = z := ⟨_, rfl⟩
  refine hv_ (p := c 41 23 = n3) ((rl_nums hR).2.2.2.symm.trans hn3) (fun hm3 => (hv_ (ir_p0_3 hI hP) (fun hr3 => ?_)))
  rw [hn3] at hr3
  refine hv_ (rl_cnt2 hR) (fun hNcnt2 => (hv_ (rl_cnt2 hR) (fun hNcnt2 => (q_aload_n c_296_851 rfl (q_aload_n c_296_852 rfl (q_iload c_296_853 rfl (q_iconst c_296_855 (v_iadd (v := (i0 : Int) + 1) c_296_856 rfl (v_scr (j := i0 + 1) c_296_857 (by omega) (by omega) hL hx1 ?_)))))))))
  refine q_aload_n c_296_858 rfl (q_iload c_296_859 rfl (q_iconst c_296_861 (v_iadd (v := (i0 : Int) + 2) c_296_862 rfl (v_scr (j := i0 + 2) c_296_863 (by omega) (by omega) hL hx2 (q_aload_n c_296_864 rfl (q_iload c_296_865 rfl (q_iconst c_296_867 ?_)))))))
  refine v_iadd (v := (i0 : Int) + 3) c_296_868 rfl (v_scr (j := i0 + 3) c_296_869 (by omega) (by omega) hL hx3 (q_aload_n c_296_870 rfl (q_call c_296_871 rfl rfl rfl (q_aload c_276_0 rfl (q_iconst c_276_2 (q_aload_n c_276_3 rfl (q_iload_n c_276_4 rfl ?_)))))))
  refine q_iload_n c_276_5 rfl (q_iload_n c_276_6 rfl (hv_ (p := c P 0 = n0) ((hn0)) (fun h_1 => (hv_ (p := c P 1 = n1) ((hn1)) (fun h_2 => (hv_ (ir_0_12 hI) (fun h_3 => (hv_ (ir_0_13 hI) (fun h_4 => ?_)))))))))
  refine v_cv c_276_7 km_9_56 rfl rfl (Nat.le_of_ble_eq_true rfl) ⟨⟨rfl, rfl⟩, Nat.le_of_ble_eq_true rfl, rfl⟩ (Nat.le_of_ble_eq_true rfl) (Nat.le_of_ble_eq_true rfl) (s_112S (a1 := x1) (a2 := x2) (a3 := x3) hI (show (-2147483648) ≤ x1 ∧ x1 ≤ 2147483647 from ⟨by omega, by omega⟩) (show (-2147483648) ≤ x2 ∧ x2 ≤ 2147483647 from ⟨by omega, by omega⟩) (show (-2147483648) ≤ x3 ∧ x3 ≤ 2147483647 from ⟨by omega, by omega⟩) (fun c_5 hI_6 hF_7 h_8 h_9 h_10 => ?_) (fun c_11 hI_12 hF_13 h_14 h_15 h_16 => ?_) (fun c_17 y_20 hI_18 hF_19 hy_20 h_21 h_22 h_23 => ?_))
  · skip
    refine hv_ (ir_0_12 hI_6) (fun h_24 => (hv_ (ir_0_13 hI_6) (fun h_25 => (bk_thr (z := Int32.ofInt 1) rfl ⟨_, _, rfl⟩ rfl (bk_inl (q_istore c_296_874 (Nat.le_of_ble_eq_true rfl) (q_aload_n c_296_876 rfl (q_aload_n c_296_877 rfl (q_iload c_296_878 rfl ?_)))))))))
    refine q_iconst c_296_880 (v_iadd (v := (i0 : Int) + 1) c_296_881 rfl (v_scr (j := i0 + 1) c_296_882 (by omega) (by omega) hL hx1 (q_aload_n c_296_883 rfl (q_iload c_296_884 rfl (q_iconst c_296_886 (v_iadd (v := (i0 : Int) + 2) c_296_887 rfl (v_scr (j := i0 + 2) c_296_888 (by omega) (by omega) hL hx2 ?_)))))))
    refine q_aload_n c_296_889 rfl (q_iload c_296_890 rfl (q_iconst c_296_892 (v_iadd (v := (i0 : Int) + 3) c_296_893 rfl (v_scr (j := i0 + 3) c_296_894 (by omega) (by omega) hL hx3 (hv_ (p := Hid (c_5 41 20 = n0)) ((hF_7 41 20 qn_f6e9e9f23).trans (hm0)) (fun kn_26 => (hv_ (p := c_5 41 20 = n0) ((hid kn_26)) (fun h_27 => (hv_ (p := Hid (c_5 41 21 = n1)) ((hF_7 41 21 qn_f6e9e9f23).trans (hm1)) (fun kn_28 => ?_))))))))))
    refine hv_ (p := c_5 41 21 = n1) ((hid kn_28)) (fun h_29 => (hv_ (ir_42 hI 0) (fun h_30 => (hv_ (p := Hid (c_5 42 0 = c 42 0)) (hF_7 42 0 qn_f10b7be0a) (fun kn_31 => (hv_ (p := c_5 42 0 = c 42 0) ((hid kn_31)) (fun h_32 => (hv_ (ir_42 hI 1) (fun h_33 => (hv_ (p := Hid (c_5 42 1 = c 42 1)) (hF_7 42 1 qn_f10b7be0a) (fun kn_34 => (hv_ (p := c_5 42 1 = c 42 1) ((hid kn_34)) (fun h_35 => (v_cv c_296_895 km_9_184 rfl rfl (Nat.le_of_ble_eq_true rfl) ⟨⟨rfl, rfl⟩, Nat.le_of_ble_eq_true rfl, rfl⟩ (Nat.le_of_ble_eq_true rfl) (Nat.le_of_ble_eq_true rfl) (s_220S (a1 := x1) (a2 := x2) (a3 := x3) hI_6 (show (-2147483648) ≤ x1 ∧ x1 ≤ 2147483647 from ⟨by first | (clear hT hNcnt2 h_3 h_4 h_24 h_25; omega) | omega, by first | (clear hT hNcnt2 h_3 h_4 h_24 h_25; omega) | omega⟩) (show (-2147483648) ≤ x2 ∧ x2 ≤ 2147483647 from ⟨by first | (clear hT hNcnt2 h_3 h_4 h_24 h_25; omega) | omega, by first | (clear hT hNcnt2 h_3 h_4 h_24 h_25; omega) | omega⟩) (show (-2147483648) ≤ x3 ∧ x3 ≤ 2147483647 from ⟨by first | (clear hT hNcnt2 h_3 h_4 h_24 h_25; omega) | omega, by first | (clear hT hNcnt2 h_3 h_4 h_24 h_25; omega) | omega⟩) (fun c_36 y_39 hI_37 hF_38 hy_39 h_40 => ?_))))))))))))))))
    refine bk_inl (hv_ (ir_42 hI_37 0) (fun h_41 => (hv_ (ir_42 hI_37 1) (fun h_42 => (q_istore c_296_898 (Nat.le_of_ble_eq_true rfl) (q_goto (t := 1816) c_296_900 rfl (Wp_ls [(4, vi (i0 : Int)), (3, .ref 67), (2, .ref 41), (1, .ref 0), (0, .ref a_SC)] (lsub_cons rfl (lsub_cons rfl (lsub_cons rfl (lsub_cons rfl (lsub_cons rfl lsub_nil))))) (hv_ (ir_1_3 hI) (fun h_43 => (hv_ (p := Hid (c_5 1 3 = c 1 3)) (hF_7 1 3 qn_ab545a015) (fun kn_44 => ?_)))))))))))
    refine hv_ (p := Hid (c_36 1 3 = c 1 3)) ((hF_38 1 3 qn_39cd18c3e).trans (hid kn_44)) (fun kn_45 => (hv_ (p := c_36 1 3 = c 1 3) ((hid kn_45)) (fun h_46 => (hv_ (ir_41_2 hI) (fun h_47 => (hv_ (p := Hid (c_5 41 2 = c 41 2)) (hF_7 41 2 qn_f6e9e9f23) (fun kn_48 => (hv_ (p := Hid (c_36 41 2 = c 41 2)) ((hF_38 41 2 qn_53bdb2099).trans (hid kn_48)) (fun kn_49 => (hv_ (p := c_36 41 2 = c 41 2) ((hid kn_49)) (fun h_50 => (hv_ (p := Hid (c_5 P 0 = n0)) ((hF_7 P 0 (qn_2ab083081 hP)).trans (hn0)) (fun kn_51 => (hv_ (p := Hid (c_36 P 0 = n0)) ((hF_38 P 0 (qn_857752076 hP)).trans (hid kn_51)) (fun kn_52 => ?_)))))))))))))))
    refine hv_ (p := c_36 P 0 = n0) ((hid kn_52)) (fun h_53 => (hv_ (p := Hid (c_36 41 20 = n0)) ((hF_38 41 20 qn_110b29ed6).trans (hid kn_26)) (fun kn_54 => (hv_ (p := c_36 41 20 = n0) ((hid kn_54)) (fun h_55 => (hv_ (p := Hid (c_5 P 1 = n1)) ((hF_7 P 1 (qn_2ab083081 hP)).trans (hn1)) (fun kn_56 => (hv_ (p := Hid (c_36 P 1 = n1)) ((hF_38 P 1 (qn_857752076 hP)).trans (hid kn_56)) (fun kn_57 => (hv_ (p := c_36 P 1 = n1) ((hid kn_57)) (fun h_58 => (hv_ (p := Hid (c_36 41 21 = n1)) ((hF_38 41 21 qn_561064c41).trans (hid kn_28)) (fun kn_59 => (hv_ (p := c_36 41 21 = n1) ((hid kn_59)) (fun h_60 => ?_)))))))))))))))
    refine hv_ (p := Hid (c_5 P 2 = n2)) ((hF_7 P 2 (qn_2ab083081 hP)).trans (hn2)) (fun kn_61 => (hv_ (p := Hid (c_36 P 2 = n2)) ((hF_38 P 2 (qn_857752076 hP)).trans (hid kn_61)) (fun kn_62 => (hv_ (p := c_36 P 2 = n2) ((hid kn_62)) (fun h_63 => (hv_ (p := Hid (c_5 41 22 = n2)) ((hF_7 41 22 qn_f6e9e9f23).trans (hm2)) (fun kn_64 => (hv_ (p := Hid (c_36 41 22 = n2)) ((hF_38 41 22 qn_1a460b46b).trans (hid kn_64)) (fun kn_65 => (hv_ (p := c_36 41 22 = n2) ((hid kn_65)) (fun h_66 => (hv_ (p := Hid (c_5 P 3 = n3)) ((hF_7 P 3 (qn_2ab083081 hP)).trans (hn3)) (fun kn_67 => (hv_ (p := Hid (c_36 P 3 = n3)) ((hF_38 P 3 (qn_857752076 hP)).trans (hid kn_67)) (fun kn_68 => ?_)))))))))))))))
    refine hv_ (p := c_36 P 3 = n3) ((hid kn_68)) (fun h_69 => (hv_ (p := Hid (c_5 41 23 = n3)) ((hF_7 41 23 qn_f6e9e9f23).trans (hm3)) (fun kn_70 => (hv_ (p := Hid (c_36 41 23 = n3)) ((hF_38 41 23 qn_b79f282cd).trans (hid kn_70)) (fun kn_71 => (hv_ (p := c_36 41 23 = n3) ((hid kn_71)) (fun h_72 => (hv_ (p := Hid (c_36 0 12 = c_5 0 12)) (hF_38 0 12 qn_666ded271) (fun kn_73 => (hv_ (p := c_36 0 12 = c_5 0 12) ((hid kn_73)) (fun h_74 => (hv_ (p := c_36 42 0 = c_36 42 0) (rfl) (fun h_75 => (hv_ (p := Hid (c_36 0 13 = c_5 0 13)) (hF_38 0 13 qn_666ded271) (fun kn_76 => ?_)))))))))))))))
    refine hv_ (p := c_36 0 13 = c_5 0 13) ((hid kn_76)) (fun h_77 => (hv_ (p := c_36 42 1 = c_36 42 1) (rfl) (fun h_78 => ?_)))
    exact K P Q c_36 1 (of_decide_eq_true rfl) hI_37 ⟨by omega, ub_fr hU (fun j => (hF_38 2 j qn_2ad67e194).trans (hF_7 2 j qn_326a9cf27)) (fun j => (hF_38 43 j qn_1520ff5e3).trans (hF_7 43 j qn_dee8a76c5)), ⟨by omega, by omega, by omega, by omega⟩, ⟨by omega, by omega⟩⟩
  · skip
    refine hv_ (ir_0_13 hI_12) (fun h_79 => (hv_ (ir_0_12 hI_12) (fun h_80 => (bk_thr (z := Int32.ofInt 2) rfl ⟨_, _, rfl⟩ rfl (bk_inl (q_istore c_296_874 (Nat.le_of_ble_eq_true rfl) (q_aload_n c_296_876 rfl (q_aload_n c_296_877 rfl (q_iload c_296_878 rfl ?_)))))))))
    refine q_iconst c_296_880 (v_iadd (v := (i0 : Int) + 1) c_296_881 rfl (v_scr (j := i0 + 1) c_296_882 (by omega) (by omega) hL hx1 (q_aload_n c_296_883 rfl (q_iload c_296_884 rfl (q_iconst c_296_886 (v_iadd (v := (i0 : Int) + 2) c_296_887 rfl (v_scr (j := i0 + 2) c_296_888 (by omega) (by omega) hL hx2 ?_)))))))
    refine q_aload_n c_296_889 rfl (q_iload c_296_890 rfl (q_iconst c_296_892 (v_iadd (v := (i0 : Int) + 3) c_296_893 rfl (v_scr (j := i0 + 3) c_296_894 (by omega) (by omega) hL hx3 (hv_ (p := Hid (c_11 41 20 = n0)) ((hF_13 41 20 qn_f6e9e9f23).trans (hm0)) (fun kn_81 => (hv_ (p := c_11 41 20 = n0) ((hid kn_81)) (fun h_82 => (hv_ (p := Hid (c_11 41 21 = n1)) ((hF_13 41 21 qn_f6e9e9f23).trans (hm1)) (fun kn_83 => ?_))))))))))
    refine hv_ (p := c_11 41 21 = n1) ((hid kn_83)) (fun h_84 => (hv_ (ir_42 hI 0) (fun h_85 => (hv_ (p := Hid (c_11 42 0 = c 42 0)) (hF_13 42 0 qn_f10b7be0a) (fun kn_86 => (hv_ (p := c_11 42 0 = c 42 0) ((hid kn_86)) (fun h_87 => (hv_ (ir_42 hI 1) (fun h_88 => (hv_ (p := Hid (c_11 42 1 = c 42 1)) (hF_13 42 1 qn_f10b7be0a) (fun kn_89 => (hv_ (p := c_11 42 1 = c 42 1) ((hid kn_89)) (fun h_90 => (v_cv c_296_895 km_9_184 rfl rfl (Nat.le_of_ble_eq_true rfl) ⟨⟨rfl, rfl⟩, Nat.le_of_ble_eq_true rfl, rfl⟩ (Nat.le_of_ble_eq_true rfl) (Nat.le_of_ble_eq_true rfl) (s_220S (a1 := x1) (a2 := x2) (a3 := x3) hI_12 (show (-2147483648) ≤ x1 ∧ x1 ≤ 2147483647 from ⟨by first | (clear hT hNcnt2 h_3 h_4 h_79 h_80; omega) | omega, by first | (clear hT hNcnt2 h_3 h_4 h_79 h_80; omega) | omega⟩) (show (-2147483648) ≤ x2 ∧ x2 ≤ 2147483647 from ⟨by first | (clear hT hNcnt2 h_3 h_4 h_79 h_80; omega) | omega, by first | (clear hT hNcnt2 h_3 h_4 h_79 h_80; omega) | omega⟩) (show (-2147483648) ≤ x3 ∧ x3 ≤ 2147483647 from ⟨by first | (clear hT hNcnt2 h_3 h_4 h_79 h_80; omega) | omega, by first | (clear hT hNcnt2 h_3 h_4 h_79 h_80; omega) | omega⟩) (fun c_91 y_94 hI_92 hF_93 hy_94 h_95 => ?_))))))))))))))))
    refine bk_inl (hv_ (ir_42 hI_92 0) (fun h_96 => (hv_ (ir_42 hI_92 1) (fun h_97 => (q_istore c_296_898 (Nat.le_of_ble_eq_true rfl) (q_goto (t := 1816) c_296_900 rfl (Wp_ls [(4, vi (i0 : Int)), (3, .ref 67), (2, .ref 41), (1, .ref 0), (0, .ref a_SC)] (lsub_cons rfl (lsub_cons rfl (lsub_cons rfl (lsub_cons rfl (lsub_cons rfl lsub_nil))))) (hv_ (ir_1_3 hI) (fun h_98 => (hv_ (p := Hid (c_11 1 3 = c 1 3)) (hF_13 1 3 qn_ab545a015) (fun kn_99 => ?_)))))))))))
    refine hv_ (p := Hid (c_91 1 3 = c 1 3)) ((hF_93 1 3 qn_39cd18c3e).trans (hid kn_99)) (fun kn_100 => (hv_ (p := c_91 1 3 = c 1 3) ((hid kn_100)) (fun h_101 => (hv_ (ir_41_2 hI) (fun h_102 => (hv_ (p := Hid (c_11 41 2 = c 41 2)) (hF_13 41 2 qn_f6e9e9f23) (fun kn_103 => (hv_ (p := Hid (c_91 41 2 = c 41 2)) ((hF_93 41 2 qn_53bdb2099).trans (hid kn_103)) (fun kn_104 => (hv_ (p := c_91 41 2 = c 41 2) ((hid kn_104)) (fun h_105 => (hv_ (p := Hid (c_11 P 0 = n0)) ((hF_13 P 0 (qn_2ab083081 hP)).trans (hn0)) (fun kn_106 => (hv_ (p := Hid (c_91 P 0 = n0)) ((hF_93 P 0 (qn_857752076 hP)).trans (hid kn_106)) (fun kn_107 => ?_)))))))))))))))
    refine hv_ (p := c_91 P 0 = n0) ((hid kn_107)) (fun h_108 => (hv_ (p := Hid (c_91 41 20 = n0)) ((hF_93 41 20 qn_110b29ed6).trans (hid kn_81)) (fun kn_109 => (hv_ (p := c_91 41 20 = n0) ((hid kn_109)) (fun h_110 => (hv_ (p := Hid (c_11 P 1 = n1)) ((hF_13 P 1 (qn_2ab083081 hP)).trans (hn1)) (fun kn_111 => (hv_ (p := Hid (c_91 P 1 = n1)) ((hF_93 P 1 (qn_857752076 hP)).trans (hid kn_111)) (fun kn_112 => (hv_ (p := c_91 P 1 = n1) ((hid kn_112)) (fun h_113 => (hv_ (p := Hid (c_91 41 21 = n1)) ((hF_93 41 21 qn_561064c41).trans (hid kn_83)) (fun kn_114 => (hv_ (p := c_91 41 21 = n1) ((hid kn_114)) (fun h_115 => ?_)))))))))))))))
    refine hv_ (p := Hid (c_11 P 2 = n2)) ((hF_13 P 2 (qn_2ab083081 hP)).trans (hn2)) (fun kn_116 => (hv_ (p := Hid (c_91 P 2 = n2)) ((hF_93 P 2 (qn_857752076 hP)).trans (hid kn_116)) (fun kn_117 => (hv_ (p := c_91 P 2 = n2) ((hid kn_117)) (fun h_118 => (hv_ (p := Hid (c_11 41 22 = n2)) ((hF_13 41 22 qn_f6e9e9f23).trans (hm2)) (fun kn_119 => (hv_ (p := Hid (c_91 41 22 = n2)) ((hF_93 41 22 qn_1a460b46b).trans (hid kn_119)) (fun kn_120 => (hv_ (p := c_91 41 22 = n2) ((hid kn_120)) (fun h_121 => (hv_ (p := Hid (c_11 P 3 = n3)) ((hF_13 P 3 (qn_2ab083081 hP)).trans (hn3)) (fun kn_122 => (hv_ (p := Hid (c_91 P 3 = n3)) ((hF_93 P 3 (qn_857752076 hP)).trans (hid kn_122)) (fun kn_123 => ?_)))))))))))))))
    refine hv_ (p := c_91 P 3 = n3) ((hid kn_123)) (fun h_124 => (hv_ (p := Hid (c_11 41 23 = n3)) ((hF_13 41 23 qn_f6e9e9f23).trans (hm3)) (fun kn_125 => (hv_ (p := Hid (c_91 41 23 = n3)) ((hF_93 41 23 qn_b79f282cd).trans (hid kn_125)) (fun kn_126 => (hv_ (p := c_91 41 23 = n3) ((hid kn_126)) (fun h_127 => (hv_ (p := Hid (c_91 0 12 = c_11 0 12)) (hF_93 0 12 qn_666ded271) (fun kn_128 => (hv_ (p := c_91 0 12 = c_11 0 12) ((hid kn_128)) (fun h_129 => (hv_ (p := c_91 42 0 = c_91 42 0) (rfl) (fun h_130 => (hv_ (p := Hid (c_91 0 13 = c_11 0 13)) (hF_93 0 13 qn_666ded271) (fun kn_131 => ?_)))))))))))))))
    refine hv_ (p := c_91 0 13 = c_11 0 13) ((hid kn_131)) (fun h_132 => (hv_ (p := c_91 42 1 = c_91 42 1) (rfl) (fun h_133 => ?_)))
    exact K P Q c_91 1 (of_decide_eq_true rfl) hI_92 ⟨by omega, ub_fr hU (fun j => (hF_93 2 j qn_2ad67e194).trans (hF_13 2 j qn_326a9cf27)) (fun j => (hF_93 43 j qn_1520ff5e3).trans (hF_13 43 j qn_dee8a76c5)), ⟨by omega, by omega, by omega, by omega⟩, ⟨by omega, by omega⟩⟩
  refine bk_inl (hv_ (ir_0_12 hI_18) (fun h_134 => (hv_ (ir_0_13 hI_18) (fun h_135 => (v_i2l c_276_10 (by omega) (v_ls c_276_11 rfl (of_decide_eq_true rfl) (of_decide_eq_true rfl) (of_decide_eq_true rfl) (q_goto (t := 23) c_276_12 rfl (q_iconst c_276_23 (q_iret c_276_24 rfl ?_)))))))))
  refine bk_inl (q_istore c_296_874 (Nat.le_of_ble_eq_true rfl) (q_aload_n c_296_876 rfl (q_aload_n c_296_877 rfl (q_iload c_296_878 rfl (q_iconst c_296_880 (v_iadd (v := (i0 : Int) + 1) c_296_881 rfl (v_scr (j := i0 + 1) c_296_882 (by omega) (by omega) hL hx1 ?_)))))))
  refine q_aload_n c_296_883 rfl (q_iload c_296_884 rfl (q_iconst c_296_886 (v_iadd (v := (i0 : Int) + 2) c_296_887 rfl (v_scr (j := i0 + 2) c_296_888 (by omega) (by omega) hL hx2 (q_aload_n c_296_889 rfl (q_iload c_296_890 rfl (q_iconst c_296_892 ?_)))))))
  refine v_iadd (v := (i0 : Int) + 3) c_296_893 rfl (v_scr (j := i0 + 3) c_296_894 (by omega) (by omega) hL hx3 (hv_ (iw_lx (a := 67) (j := 0) (v := y_20) hI_18 (by omega)) (fun hI_136 => (hv_ (p := Hid (c_17 41 20 = n0)) ((hF_19 41 20 qn_f6e9e9f23).trans (hm0)) (fun kn_137 => (hv_ (p := (up c_17 67 0 y_20) 41 20 = n0) (((up_c (nn rfl)).trans (hid kn_137))) (fun h_138 => (hv_ (p := Hid (c_17 41 21 = n1)) ((hF_19 41 21 qn_f6e9e9f23).trans (hm1)) (fun kn_139 => (hv_ (p := (up c_17 67 0 y_20) 41 21 = n1) (((up_c (nn rfl)).trans (hid kn_139))) (fun h_140 => (hv_ (ir_42 hI 0) (fun h_141 => ?_)))))))))))))
  refine hv_ (p := Hid (c_17 42 0 = c 42 0)) (hF_19 42 0 qn_f10b7be0a) (fun kn_142 => (hv_ (p := (up c_17 67 0 y_20) 42 0 = c 42 0) (((up_c (nn rfl)).trans (hid kn_142))) (fun h_143 => (hv_ (ir_42 hI 1) (fun h_144 => (hv_ (p := Hid (c_17 42 1 = c 42 1)) (hF_19 42 1 qn_f10b7be0a) (fun kn_145 => (hv_ (p := (up c_17 67 0 y_20) 42 1 = c 42 1) (((up_c (nn rfl)).trans (hid kn_145))) (fun h_146 => (v_cv c_296_895 km_9_184 rfl rfl (Nat.le_of_ble_eq_true rfl) ⟨⟨rfl, rfl⟩, Nat.le_of_ble_eq_true rfl, rfl⟩ (Nat.le_of_ble_eq_true rfl) (Nat.le_of_ble_eq_true rfl) (s_220S (a1 := x1) (a2 := x2) (a3 := x3) hI_136 (show (-2147483648) ≤ x1 ∧ x1 ≤ 2147483647 from ⟨by first | exact q_8cf7d7746 h_21 h_1 h_2 | omega, by omega⟩) (show (-2147483648) ≤ x2 ∧ x2 ≤ 2147483647 from ⟨by first | exact q_ecc7373e2 h_21 h_1 h_2 | omega, by omega⟩) (show (-2147483648) ≤ x3 ∧ x3 ≤ 2147483647 from ⟨by first | exact q_8d6de6396 h_21 h_1 h_2 | omega, by first | exact q_dd1ed5f38 h_21 h_1 h_2 | omega⟩) (fun c_147 y_150 hI_148 hF_149 hy_150 h_151 => (bk_inl (hv_ (ir_42 hI_148 0) (fun h_152 => ?_)))))))))))))))
  refine hv_ (ir_42 hI_148 1) (fun h_153 => (q_istore c_296_898 (Nat.le_of_ble_eq_true rfl) (q_goto (t := 1816) c_296_900 rfl (Wp_ls [(4, vi (i0 : Int)), (3, .ref 67), (2, .ref 41), (1, .ref 0), (0, .ref a_SC)] (lsub_cons rfl (lsub_cons rfl (lsub_cons rfl (lsub_cons rfl (lsub_cons rfl lsub_nil))))) (hv_ (ir_1_3 hI) (fun h_154 => (hv_ (p := Hid (c_17 1 3 = c 1 3)) (hF_19 1 3 qn_ab545a015) (fun kn_155 => (hv_ (p := Hid (c_147 1 3 = c 1 3)) ((hF_149 1 3 qn_39cd18c3e).trans ((up_c (nn rfl)).trans (hid kn_155))) (fun kn_156 => (hv_ (p := c_147 1 3 = c 1 3) ((hid kn_156)) (fun h_157 => ?_))))))))))))
  refine hv_ (ir_41_2 hI) (fun h_158 => (hv_ (p := Hid (c_17 41 2 = c 41 2)) (hF_19 41 2 qn_f6e9e9f23) (fun kn_159 => (hv_ (p := Hid (c_147 41 2 = c 41 2)) ((hF_149 41 2 qn_53bdb2099).trans ((up_c (nn rfl)).trans (hid kn_159))) (fun kn_160 => (hv_ (p := c_147 41 2 = c 41 2) ((hid kn_160)) (fun h_161 => (hv_ (p := Hid (c_17 P 0 = n0)) ((hF_19 P 0 (qn_2ab083081 hP)).trans (hn0)) (fun kn_162 => (hv_ (p := Hid (c_147 P 0 = n0)) ((hF_149 P 0 (qn_857752076 hP)).trans ((up_c (np0 hP rfl)).trans (hid kn_162))) (fun kn_163 => (hv_ (p := c_147 P 0 = n0) ((hid kn_163)) (fun h_164 => (hv_ (p := Hid (c_147 41 20 = n0)) ((hF_149 41 20 qn_110b29ed6).trans ((up_c (nn rfl)).trans (hid kn_137))) (fun kn_165 => ?_)))))))))))))))
  refine hv_ (p := c_147 41 20 = n0) ((hid kn_165)) (fun h_166 => (hv_ (p := Hid (c_17 P 1 = n1)) ((hF_19 P 1 (qn_2ab083081 hP)).trans (hn1)) (fun kn_167 => (hv_ (p := Hid (c_147 P 1 = n1)) ((hF_149 P 1 (qn_857752076 hP)).trans ((up_c (np0 hP rfl)).trans (hid kn_167))) (fun kn_168 => (hv_ (p := c_147 P 1 = n1) ((hid kn_168)) (fun h_169 => (hv_ (p := Hid (c_147 41 21 = n1)) ((hF_149 41 21 qn_561064c41).trans ((up_c (nn rfl)).trans (hid kn_139))) (fun kn_170 => (hv_ (p := c_147 41 21 = n1) ((hid kn_170)) (fun h_171 => (hv_ (p := Hid (c_17 P 2 = n2)) ((hF_19 P 2 (qn_2ab083081 hP)).trans (hn2)) (fun kn_172 => (hv_ (p := Hid (c_147 P 2 = n2)) ((hF_149 P 2 (qn_857752076 hP)).trans ((up_c (np0 hP rfl)).trans (hid kn_172))) (fun kn_173 => ?_)))))))))))))))
  refine hv_ (p := c_147 P 2 = n2) ((hid kn_173)) (fun h_174 => (hv_ (p := Hid (c_17 41 22 = n2)) ((hF_19 41 22 qn_f6e9e9f23).trans (hm2)) (fun kn_175 => (hv_ (p := Hid (c_147 41 22 = n2)) ((hF_149 41 22 qn_1a460b46b).trans ((up_c (nn rfl)).trans (hid kn_175))) (fun kn_176 => (hv_ (p := c_147 41 22 = n2) ((hid kn_176)) (fun h_177 => (hv_ (p := Hid (c_17 P 3 = n3)) ((hF_19 P 3 (qn_2ab083081 hP)).trans (hn3)) (fun kn_178 => (hv_ (p := Hid (c_147 P 3 = n3)) ((hF_149 P 3 (qn_857752076 hP)).trans ((up_c (np0 hP rfl)).trans (hid kn_178))) (fun kn_179 => (hv_ (p := c_147 P 3 = n3) ((hid kn_179)) (fun h_180 => (hv_ (p := Hid (c_17 41 23 = n3)) ((hF_19 41 23 qn_f6e9e9f23).trans (hm3)) (fun kn_181 => ?_)))))))))))))))
  refine hv_ (p := Hid (c_147 41 23 = n3)) ((hF_149 41 23 qn_b79f282cd).trans ((up_c (nn rfl)).trans (hid kn_181))) (fun kn_182 => (hv_ (p := c_147 41 23 = n3) ((hid kn_182)) (fun h_183 => (hv_ (p := Hid (c_147 0 12 = c_17 0 12)) ((hF_149 0 12 qn_666ded271).trans (up_c (nn rfl))) (fun kn_184 => (hv_ (p := c_147 0 12 = c_17 0 12) ((hid kn_184)) (fun h_185 => (hv_ (p := c_147 42 0 = c_147 42 0) (rfl) (fun h_186 => (hv_ (p := Hid (c_147 0 13 = c_17 0 13)) ((hF_149 0 13 qn_666ded271).trans (up_c (nn rfl))) (fun kn_187 => (hv_ (p := c_147 0 13 = c_17 0 13) ((hid kn_187)) (fun h_188 => (hv_ (p := c_147 42 1 = c_147 42 1) (rfl) (fun h_189 => ?_)))))))))))))))
  exact K P Q c_147 0 (of_decide_eq_true rfl) hI_148 ⟨by omega, ub_fr hU (fun j => (hF_149 2 j qn_2ad67e194).trans ((up_c (nn rfl)).trans (hF_19 2 j qn_326a9cf27))) (fun j => (hF_149 43 j qn_1520ff5e3).trans ((up_c (nn rfl)).trans (hF_19 43 j qn_dee8a76c5))), ⟨by omega, by omega, by omega, by omega⟩, ⟨by omega, by omega⟩⟩

set_option maxRecDepth 100000 in
set_option maxHeartbeats 4000000 in
theorem o_17 {xs : Nat → Int32} {L i0 d nc ns P Q : Nat} {c : ME} {Z : AR → Prop} (hi : i0 + 8 ≤ L) (hL : L ≤ 100000) (hI : Iv 0 (-1) P Q c) (hR : Rq P c) (K : ∀ (P2 Q2 : Nat) (c2 : ME) (e : Nat), e ≤ 1 → Iv 0 (-1) P2 Q2 c2 → (Rq P2 c2) → Wp (a_scr L xs) (d + 90) 296 1816 [(4, vi (i0 : Int)), (3, .ref 67), (2, .ref 41), (1, .ref 0), (0, .ref a_SC)] [] (Wd P2 Q2 P2 P2 c2) (nc + e) (ns + 6 * e) Z) : Wp (a_scr L xs) (d + 90) 296 903 [(4, vi (i0 : Int)), (3, .ref 67), (2, .ref 41), (1, .ref 0), (0, .ref a_SC)] [] (Wd P Q P P c) nc ns Z := by
  obtain ⟨x1, hx1⟩ : ∃ z, (xs (i0 + 1)).toInt = z := ⟨_, rfl⟩
  refine hv_ (c_rng (xs (i0 + 1))) (fun x1r => ?_)
  rw [hx1] at x1r
  obtain ⟨x2, hx2⟩ : ∃ z, (xs (i0 + 2)).toInt = z := ⟨_, rfl⟩
  refine hv_ (c_rng (xs (i0 + 2))) (fun x2r => ?_)
  rw [hx2] at x2r
  obtain ⟨x3, hx3⟩ : ∃ z, (xs (i0 + 3)).toInt = z := ⟨_, rfl⟩
  refine hv_ (c_rng (xs (i0 + 3))) (fun x3r => ?_)
  rw [hx3] at x3r
  obtain ⟨x4, hx4⟩ : ∃ z, (xs (i0 + 4)).toInt = z := ⟨_, rfl⟩
  refine hv_ (c_rng (xs (i0 + 4))) (fun x4r => ?_)
  rw [hx4] at x4r
  obtain ⟨x5, hx5⟩ : ∃ z, (xs (i0 + 5)).toInt = z := ⟨_, rfl⟩
  refine hv_ (c_rng (xs (i0 + 5))) (fun x5r => ?_)
  rw [hx5] at x5r
  obtain ⟨x6, hx6⟩ : ∃ z, (xs (i0 + 6)).toInt = z := ⟨_, rfl⟩
  refine hv_ (c_rng (xs (i0 + 6))) (fun x6r => ?_)
  rw [hx6] at x6r
  obtain ⟨x7, hx7⟩ : ∃ z, (xs (i0 + 7)).toInt = z := ⟨_, rfl⟩
  refine hv_ (c_rng (xs (i0 + 7))) (fun x7r => ?_)
  rw [hx7] at x7r
  refine hv_ (iv_P hI) (fun hP => (hv_ (iv_Q hI) (fun hQ => (hv_ (rl_t hR) (fun hT => (hv_ (rl_u hR) (fun hU => ?_)))))))
  obtain ⟨n0, hn0⟩ : ∃ z, c P 0 = z := ⟨_, rfl⟩
  refine hv_ (p := c 41 20 = n0) ((rl_nums hR).1.symm.trans hn0) (fun hm0 => (hv_ (ir_p0_0 hI hP) (fun hr0 => ?_)))
  rw [hn0] at hr0
  obtain ⟨n1, hn1⟩ : ∃ z, c P 1 = z := ⟨_, rfl⟩
  refine hv_ (p := c 41 21 = n1) ((rl_nums hR).2.1.symm.trans hn1) (fun hm1 => (hv_ (ir_p0_1 hI hP) (fun hr1 => ?_)))
  rw [hn1] at hr1
  obtain ⟨n2, hn2⟩ : ∃ z, c P 2 = z := ⟨_, rfl⟩
  refine hv_ (p := c 41 22 = n2) ((rl_nums hR).2.2.1.symm.trans hn2) (fun hm2 => (hv_ (ir_p0_2 hI hP) (fun hr2 => ?_)))
  rw [hn2] at hr2
  obtain ⟨n3, hn3⟩ : ∃ z, c P 3 = z := ⟨_, rfl⟩
  refine hv_ (p := c 41 23 = n3) ((rl_nums hR).2.2.2.symm.trans hn3) (fun hm3 => (hv_ (ir_p0_3 hI hP) (fun hr3 => ?_)))
  rw [hn3] at hr3
  refine hv_ (rl_cnt2 hR) (fun hNcnt2 => (hv_ (rl_cnt2 hR) (fun hNcnt2 => (q_aload_n c_296_903 rfl (q_aload_n c_296_904 rfl (q_iload c_296_905 rfl (q_iconst c_296_907 (v_iadd (v := (i0 : Int) + 1) c_296_908 rfl (v_scr (j := i0 + 1) c_296_909 (by omega) (by omega) hL hx1 ?_)))))))))
  refine q_aload_n c_296_910 rfl (q_iload c_296_911 rfl (q_iconst c_296_913 (v_iadd (v := (i0 : Int) + 2) c_296_914 rfl (v_scr (j := i0 + 2) c_296_915 (by omega) (by omega) hL hx2 (q_aload_n c_296_916 rfl (q_call c_296_917 rfl rfl rfl (q_aload_n c_277_0 rfl ?_)))))))
  refine q_iconst c_277_1 (q_aload_n c_277_2 rfl (q_iload_n c_277_3 rfl (q_iload_n c_277_4 rfl (hv_ (p := c P 0 = n0) ((hn0)) (fun h_1 => (hv_ (ir_0_12 hI) (fun h_2 => (hv_ (ir_0_13 hI) (fun h_3 => ?_)))))))))
  refine v_cv c_277_5 km_9_59 rfl rfl (Nat.le_of_ble_eq_true rfl) ⟨⟨rfl, rfl⟩, Nat.le_of_ble_eq_true rfl, rfl⟩ (Nat.le_of_ble_eq_true rfl) (Nat.le_of_ble_eq_true rfl) (s_114S (a1 := x1) (a2 := x2) hI (show (-2147483648) ≤ x1 ∧ x1 ≤ 2147483647 from ⟨by omega, by omega⟩) (show (-2147483648) ≤ x2 ∧ x2 ≤ 2147483647 from ⟨by omega, by omega⟩) (fun c_4 hI_5 hF_6 h_7 h_8 h_9 => ?_) (fun c_10 hI_11 hF_12 h_13 h_14 h_15 => ?_) (fun c_16 y_19 hI_17 hF_18 hy_19 h_20 h_21 h_22 => ?_))
  · skip
    refine hv_ (ir_0_12 hI_5) (fun h_23 => (hv_ (ir_0_13 hI_5) (fun h_24 => (bk_thr (z := Int32.ofInt 1) rfl ⟨_, _, rfl⟩ rfl (bk_inl (q_istore c_296_920 (Nat.le_of_ble_eq_true rfl) (q_aload_n c_296_922 rfl (q_aload_n c_296_923 rfl (q_iload c_296_924 rfl ?_)))))))))
    refine q_iconst c_296_926 (v_iadd (v := (i0 : Int) + 1) c_296_927 rfl (v_scr (j := i0 + 1) c_296_928 (by omega) (by omega) hL hx1 (q_aload_n c_296_929 rfl (q_iload c_296_930 rfl (q_iconst c_296_932 (v_iadd (v := (i0 : Int) + 2) c_296_933 rfl (v_scr (j := i0 + 2) c_296_934 (by omega) (by omega) hL hx2 ?_)))))))
    refine hv_ (p := Hid (c_4 41 20 = n0)) ((hF_6 41 20 qn_ad6320866).trans (hm0)) (fun kn_25 => (hv_ (p := c_4 41 20 = n0) ((hid kn_25)) (fun h_26 => (hv_ (ir_42 hI 0) (fun h_27 => (hv_ (p := Hid (c_4 42 0 = c 42 0)) (hF_6 42 0 qn_f997813ab) (fun kn_28 => (hv_ (p := c_4 42 0 = c 42 0) ((hid kn_28)) (fun h_29 => (hv_ (ir_42 hI 1) (fun h_30 => (hv_ (p := Hid (c_4 42 1 = c 42 1)) (hF_6 42 1 qn_f997813ab) (fun kn_31 => (hv_ (p := c_4 42 1 = c 42 1) ((hid kn_31)) (fun h_32 => ?_)))))))))))))))
    refine v_cv c_296_935 km_9_187 rfl rfl (Nat.le_of_ble_eq_true rfl) ⟨⟨rfl, rfl⟩, Nat.le_of_ble_eq_true rfl, rfl⟩ (Nat.le_of_ble_eq_true rfl) (Nat.le_of_ble_eq_true rfl) (s_221S (a1 := x1) (a2 := x2) hI_5 (show (-2147483648) ≤ x1 ∧ x1 ≤ 2147483647 from ⟨by first | (clear hT hNcnt2 h_2 h_3 h_23 h_24; omega) | omega, by first | (clear hT hNcnt2 h_2 h_3 h_23 h_24; omega) | omega⟩) (show (-2147483648) ≤ x2 ∧ x2 ≤ 2147483647 from ⟨by first | (clear hT hNcnt2 h_2 h_3 h_23 h_24; omega) | omega, by first | (clear hT hNcnt2 h_2 h_3 h_23 h_24; omega) | omega⟩) (fun c_33 y_36 hI_34 hF_35 hy_36 h_37 => (bk_inl (hv_ (ir_42 hI_34 0) (fun h_38 => (hv_ (ir_42 hI_34 1) (fun h_39 => (q_istore c_296_938 (Nat.le_of_ble_eq_true rfl) (q_goto (t := 1816) c_296_940 rfl (Wp_ls [(4, vi (i0 : Int)), (3, .ref 67), (2, .ref 41), (1, .ref 0), (0, .ref a_SC)] (lsub_cons rfl (lsub_cons rfl (lsub_cons rfl (lsub_cons rfl (lsub_cons rfl lsub_nil))))) (hv_ (ir_1_3 hI) (fun h_40 => ?_))))))))))))
    refine hv_ (p := Hid (c_4 1 3 = c 1 3)) (hF_6 1 3 qn_eae2a9dd9) (fun kn_41 => (hv_ (p := Hid (c_33 1 3 = c 1 3)) ((hF_35 1 3 qn_39cd18c3e).trans (hid kn_41)) (fun kn_42 => (hv_ (p := c_33 1 3 = c 1 3) ((hid kn_42)) (fun h_43 => (hv_ (ir_41_2 hI) (fun h_44 => (hv_ (p := Hid (c_4 41 2 = c 41 2)) (hF_6 41 2 qn_ad6320866) (fun kn_45 => (hv_ (p := Hid (c_33 41 2 = c 41 2)) ((hF_35 41 2 qn_53bdb2099).trans (hid kn_45)) (fun kn_46 => (hv_ (p := c_33 41 2 = c 41 2) ((hid kn_46)) (fun h_47 => (hv_ (p := Hid (c_4 P 0 = n0)) ((hF_6 P 0 (qn_b39d5257d hP)).trans (hn0)) (fun kn_48 => ?_)))))))))))))))
    refine hv_ (p := Hid (c_33 P 0 = n0)) ((hF_35 P 0 (qn_857752076 hP)).trans (hid kn_48)) (fun kn_49 => (hv_ (p := c_33 P 0 = n0) ((hid kn_49)) (fun h_50 => (hv_ (p := Hid (c_33 41 20 = n0)) ((hF_35 41 20 qn_110b29ed6).trans (hid kn_25)) (fun kn_51 => (hv_ (p := c_33 41 20 = n0) ((hid kn_51)) (fun h_52 => (hv_ (p := Hid (c_4 P 1 = n1)) ((hF_6 P 1 (qn_b39d5257d hP)).trans (hn1)) (fun kn_53 => (hv_ (p := Hid (c_33 P 1 = n1)) ((hF_35 P 1 (qn_857752076 hP)).trans (hid kn_53)) (fun kn_54 => (hv_ (p := c_33 P 1 = n1) ((hid kn_54)) (fun h_55 => (hv_ (p := Hid (c_4 41 21 = n1)) ((hF_6 41 21 qn_ad6320866).trans (hm1)) (fun kn_56 => ?_)))))))))))))))
    refine hv_ (p := Hid (c_33 41 21 = n1)) ((hF_35 41 21 qn_561064c41).trans (hid kn_56)) (fun kn_57 => (hv_ (p := c_33 41 21 = n1) ((hid kn_57)) (fun h_58 => (hv_ (p := Hid (c_4 P 2 = n2)) ((hF_6 P 2 (qn_b39d5257d hP)).trans (hn2)) (fun kn_59 => (hv_ (p := Hid (c_33 P 2 = n2)) ((hF_35 P 2 (qn_857752076 hP)).trans (hid kn_59)) (fun kn_60 => (hv_ (p := c_33 P 2 = n2) ((hid kn_60)) (fun h_61 => (hv_ (p := Hid (c_4 41 22 = n2)) ((hF_6 41 22 qn_ad6320866).trans (hm2)) (fun kn_62 => (hv_ (p := Hid (c_33 41 22 = n2)) ((hF_35 41 22 qn_1a460b46b).trans (hid kn_62)) (fun kn_63 => (hv_ (p := c_33 41 22 = n2) ((hid kn_63)) (fun h_64 => ?_)))))))))))))))
    refine hv_ (p := Hid (c_4 P 3 = n3)) ((hF_6 P 3 (qn_b39d5257d hP)).trans (hn3)) (fun kn_65 => (hv_ (p := Hid (c_33 P 3 = n3)) ((hF_35 P 3 (qn_857752076 hP)).trans (hid kn_65)) (fun kn_66 => (hv_ (p := c_33 P 3 = n3) ((hid kn_66)) (fun h_67 => (hv_ (p := Hid (c_4 41 23 = n3)) ((hF_6 41 23 qn_ad6320866).trans (hm3)) (fun kn_68 => (hv_ (p := Hid (c_33 41 23 = n3)) ((hF_35 41 23 qn_b79f282cd).trans (hid kn_68)) (fun kn_69 => (hv_ (p := c_33 41 23 = n3) ((hid kn_69)) (fun h_70 => (hv_ (p := Hid (c_33 0 12 = c_4 0 12)) (hF_35 0 12 qn_666ded271) (fun kn_71 => (hv_ (p := c_33 0 12 = c_4 0 12) ((hid kn_71)) (fun h_72 => ?_)))))))))))))))
    refine hv_ (p := c_33 42 0 = c_33 42 0) (rfl) (fun h_73 => (hv_ (p := Hid (c_33 0 13 = c_4 0 13)) (hF_35 0 13 qn_666ded271) (fun kn_74 => (hv_ (p := c_33 0 13 = c_4 0 13) ((hid kn_74)) (fun h_75 => (hv_ (p := c_33 42 1 = c_33 42 1) (rfl) (fun h_76 => ?_)))))))
    exact K P Q c_33 1 (of_decide_eq_true rfl) hI_34 ⟨by omega, ub_fr hU (fun j => (hF_35 2 j qn_2ad67e194).trans (hF_6 2 j qn_37f624f87)) (fun j => (hF_35 43 j qn_1520ff5e3).trans (hF_6 43 j qn_f1cf9021e)), ⟨by omega, by omega, by omega, by omega⟩, ⟨by omega, by omega⟩⟩
  · skip
    refine hv_ (ir_0_13 hI_11) (fun h_77 => (hv_ (ir_0_12 hI_11) (fun h_78 => (bk_thr (z := Int32.ofInt 2) rfl ⟨_, _, rfl⟩ rfl (bk_inl (q_istore c_296_920 (Nat.le_of_ble_eq_true rfl) (q_aload_n c_296_922 rfl (q_aload_n c_296_923 rfl (q_iload c_296_924 rfl ?_)))))))))
    refine q_iconst c_296_926 (v_iadd (v := (i0 : Int) + 1) c_296_927 rfl (v_scr (j := i0 + 1) c_296_928 (by omega) (by omega) hL hx1 (q_aload_n c_296_929 rfl (q_iload c_296_930 rfl (q_iconst c_296_932 (v_iadd (v := (i0 : Int) + 2) c_296_933 rfl (v_scr (j := i0 + 2) c_296_934 (by omega) (by omega) hL hx2 ?_)))))))
    refine hv_ (p := Hid (c_10 41 20 = n0)) ((hF_12 41 20 qn_ad6320866).trans (hm0)) (fun kn_79 => (hv_ (p := c_10 41 20 = n0) ((hid kn_79)) (fun h_80 => (hv_ (ir_42 hI 0) (fun h_81 => (hv_ (p := Hid (c_10 42 0 = c 42 0)) (hF_12 42 0 qn_f997813ab) (fun kn_82 => (hv_ (p := c_10 42 0 = c 42 0) ((hid kn_82)) (fun h_83 => (hv_ (ir_42 hI 1) (fun h_84 => (hv_ (p := Hid (c_10 42 1 = c 42 1)) (hF_12 42 1 qn_f997813ab) (fun kn_85 => (hv_ (p := c_10 42 1 = c 42 1) ((hid kn_85)) (fun h_86 => ?_)))))))))))))))
    refine v_cv c_296_935 km_9_187 rfl rfl (Nat.le_of_ble_eq_true rfl) ⟨⟨rfl, rfl⟩, Nat.le_of_ble_eq_true rfl, rfl⟩ (Nat.le_of_ble_eq_true rfl) (Nat.le_of_ble_eq_true rfl) (s_221S (a1 := x1) (a2 := x2) hI_11 (show (-2147483648) ≤ x1 ∧ x1 ≤ 2147483647 from ⟨by first | (clear hT hNcnt2 h_2 h_3 h_77 h_78; omega) | omega, by first | (clear hT hNcnt2 h_2 h_3 h_77 h_78; omega) | omega⟩) (show (-2147483648) ≤ x2 ∧ x2 ≤ 2147483647 from ⟨by first | (clear hT hNcnt2 h_2 h_3 h_77 h_78; omega) | omega, by first | (clear hT hNcnt2 h_2 h_3 h_77 h_78; omega) | omega⟩) (fun c_87 y_90 hI_88 hF_89 hy_90 h_91 => (bk_inl (hv_ (ir_42 hI_88 0) (fun h_92 => (hv_ (ir_42 hI_88 1) (fun h_93 => (q_istore c_296_938 (Nat.le_of_ble_eq_true rfl) (q_goto (t := 1816) c_296_940 rfl (Wp_ls [(4, vi (i0 : Int)), (3, .ref 67), (2, .ref 41), (1, .ref 0), (0, .ref a_SC)] (lsub_cons rfl (lsub_cons rfl (lsub_cons rfl (lsub_cons rfl (lsub_cons rfl lsub_nil))))) (hv_ (ir_1_3 hI) (fun h_94 => ?_))))))))))))
    refine hv_ (p := Hid (c_10 1 3 = c 1 3)) (hF_12 1 3 qn_eae2a9dd9) (fun kn_95 => (hv_ (p := Hid (c_87 1 3 = c 1 3)) ((hF_89 1 3 qn_39cd18c3e).trans (hid kn_95)) (fun kn_96 => (hv_ (p := c_87 1 3 = c 1 3) ((hid kn_96)) (fun h_97 => (hv_ (ir_41_2 hI) (fun h_98 => (hv_ (p := Hid (c_10 41 2 = c 41 2)) (hF_12 41 2 qn_ad6320866) (fun kn_99 => (hv_ (p := Hid (c_87 41 2 = c 41 2)) ((hF_89 41 2 qn_53bdb2099).trans (hid kn_99)) (fun kn_100 => (hv_ (p := c_87 41 2 = c 41 2) ((hid kn_100)) (fun h_101 => (hv_ (p := Hid (c_10 P 0 = n0)) ((hF_12 P 0 (qn_b39d5257d hP)).trans (hn0)) (fun kn_102 => ?_)))))))))))))))
    refine hv_ (p := Hid (c_87 P 0 = n0)) ((hF_89 P 0 (qn_857752076 hP)).trans (hid kn_102)) (fun kn_103 => (hv_ (p := c_87 P 0 = n0) ((hid kn_103)) (fun h_104 => (hv_ (p := Hid (c_87 41 20 = n0)) ((hF_89 41 20 qn_110b29ed6).trans (hid kn_79)) (fun kn_105 => (hv_ (p := c_87 41 20 = n0) ((hid kn_105)) (fun h_106 => (hv_ (p := Hid (c_10 P 1 = n1)) ((hF_12 P 1 (qn_b39d5257d hP)).trans (hn1)) (fun kn_107 => (hv_ (p := Hid (c_87 P 1 = n1)) ((hF_89 P 1 (qn_857752076 hP)).trans (hid kn_107)) (fun kn_108 => (hv_ (p := c_87 P 1 = n1) ((hid kn_108)) (fun h_109 => (hv_ (p := Hid (c_10 41 21 = n1)) ((hF_12 41 21 qn_ad6320866).trans (hm1)) (fun kn_110 => ?_)))))))))))))))
    refine hv_ (p := Hid (c_87 41 21 = n1)) ((hF_89 41 21 qn_561064c41).trans (hid kn_110)) (fun kn_111 => (hv_ (p := c_87 41 21 = n1) ((hid kn_111)) (fun h_112 => (hv_ (p := Hid (c_10 P 2 = n2)) ((hF_12 P 2 (qn_b39d5257d hP)).trans (hn2)) (fun kn_113 => (hv_ (p := Hid (c_87 P 2 = n2)) ((hF_89 P 2 (qn_857752076 hP)).trans (hid kn_113)) (fun kn_114 => (hv_ (p := c_87 P 2 = n2) ((hid kn_114)) (fun h_115 => (hv_ (p := Hid (c_10 41 22 = n2)) ((hF_12 41 22 qn_ad6320866).trans (hm2)) (fun kn_116 => (hv_ (p := Hid (c_87 41 22 = n2)) ((hF_89 41 22 qn_1a460b46b).trans (hid kn_116)) (fun kn_117 => (hv_ (p := c_87 41 22 = n2) ((hid kn_117)) (fun h_118 => ?_)))))))))))))))
    refine hv_ (p := Hid (c_10 P 3 = n3)) ((hF_12 P 3 (qn_b39d5257d hP)).trans (hn3)) (fun kn_119 => (hv_ (p := Hid (c_87 P 3 = n3)) ((hF_89 P 3 (qn_857752076 hP)).trans (hid kn_119)) (fun kn_120 => (hv_ (p := c_87 P 3 = n3) ((hid kn_120)) (fun h_121 => (hv_ (p := Hid (c_10 41 23 = n3)) ((hF_12 41 23 qn_ad6320866).trans (hm3)) (fun kn_122 => (hv_ (p := Hid (c_87 41 23 = n3)) ((hF_89 41 23 qn_b79f282cd).trans (hid kn_122)) (fun kn_123 => (hv_ (p := c_87 41 23 = n3) ((hid kn_123)) (fun h_124 => (hv_ (p := Hid (c_87 0 12 = c_10 0 12)) (hF_89 0 12 qn_666ded271) (fun kn_125 => (hv_ (p := c_87 0 12 = c_10 0 12) ((hid kn_125)) (fun h_126 => ?_)))))))))))))))
    refine hv_ (p := c_87 42 0 = c_87 42 0) (rfl) (fun h_127 => (hv_ (p := Hid (c_87 0 13 = c_10 0 13)) (hF_89 0 13 qn_666ded271) (fun kn_128 => (hv_ (p := c_87 0 13 = c_10 0 13) ((hid kn_128)) (fun h_129 => (hv_ (p := c_87 42 1 = c_87 42 1) (rfl) (fun h_130 => ?_)))))))
    exact K P Q c_87 1 (of_decide_eq_true rfl) hI_88 ⟨by omega, ub_fr hU (fun j => (hF_89 2 j qn_2ad67e194).trans (hF_12 2 j qn_37f624f87)) (fun j => (hF_89 43 j qn_1520ff5e3).trans (hF_12 43 j qn_f1cf9021e)), ⟨by omega, by omega, by omega, by omega⟩, ⟨by omega, by omega⟩⟩
  refine bk_inl (hv_ (ir_0_12 hI_17) (fun h_131 => (hv_ (ir_0_13 hI_17) (fun h_132 => (v_i2l c_277_8 (by omega) (v_ls c_277_9 rfl (of_decide_eq_true rfl) (of_decide_eq_true rfl) (of_decide_eq_true rfl) (q_goto (t := 21) c_277_10 rfl (q_iconst c_277_21 (q_iret c_277_22 rfl ?_)))))))))
  refine bk_inl (q_istore c_296_920 (Nat.le_of_ble_eq_true rfl) (q_aload_n c_296_922 rfl (q_aload_n c_296_923 rfl (q_iload c_296_924 rfl (q_iconst c_296_926 (v_iadd (v := (i0 : Int) + 1) c_296_927 rfl (v_scr (j := i0 + 1) c_296_928 (by omega) (by omega) hL hx1 ?_)))))))
  refine q_aload_n c_296_929 rfl (q_iload c_296_930 rfl (q_iconst c_296_932 (v_iadd (v := (i0 : Int) + 2) c_296_933 rfl (v_scr (j := i0 + 2) c_296_934 (by omega) (by omega) hL hx2 (hv_ (iw_lx (a := 67) (j := 0) (v := y_19) hI_17 (by omega)) (fun hI_133 => (hv_ (p := Hid (c_16 41 20 = n0)) ((hF_18 41 20 qn_ad6320866).trans (hm0)) (fun kn_134 => (hv_ (p := (up c_16 67 0 y_19) 41 20 = n0) (((up_c (nn rfl)).trans (hid kn_134))) (fun h_135 => ?_))))))))))
  refine hv_ (ir_42 hI 0) (fun h_136 => (hv_ (p := Hid (c_16 42 0 = c 42 0)) (hF_18 42 0 qn_f997813ab) (fun kn_137 => (hv_ (p := (up c_16 67 0 y_19) 42 0 = c 42 0) (((up_c (nn rfl)).trans (hid kn_137))) (fun h_138 => (hv_ (ir_42 hI 1) (fun h_139 => (hv_ (p := Hid (c_16 42 1 = c 42 1)) (hF_18 42 1 qn_f997813ab) (fun kn_140 => (hv_ (p := (up c_16 67 0 y_19) 42 1 = c 42 1) (((up_c (nn rfl)).trans (hid kn_140))) (fun h_141 => (v_cv c_296_935 km_9_187 rfl rfl (Nat.le_of_ble_eq_true rfl) ⟨⟨rfl, rfl⟩, Nat.le_of_ble_eq_true rfl, rfl⟩ (Nat.le_of_ble_eq_true rfl) (Nat.le_of_ble_eq_true rfl) (s_221S (a1 := x1) (a2 := x2) hI_133 (show (-2147483648) ≤ x1 ∧ x1 ≤ 2147483647 from ⟨by first | exact q_fb094900f h_20 h_1 | omega, by omega⟩) (show (-2147483648) ≤ x2 ∧ x2 ≤ 2147483647 from ⟨by first | exact q_ffbf3d451 h_20 h_1 | omega, by omega⟩) (fun c_142 y_145 hI_143 hF_144 hy_145 h_146 => (bk_inl ?_)))))))))))))))
  refine hv_ (ir_42 hI_143 0) (fun h_147 => (hv_ (ir_42 hI_143 1) (fun h_148 => (q_istore c_296_938 (Nat.le_of_ble_eq_true rfl) (q_goto (t := 1816) c_296_940 rfl (Wp_ls [(4, vi (i0 : Int)), (3, .ref 67), (2, .ref 41), (1, .ref 0), (0, .ref a_SC)] (lsub_cons rfl (lsub_cons rfl (lsub_cons rfl (lsub_cons rfl (lsub_cons rfl lsub_nil))))) (hv_ (ir_1_3 hI) (fun h_149 => (hv_ (p := Hid (c_16 1 3 = c 1 3)) (hF_18 1 3 qn_eae2a9dd9) (fun kn_150 => (hv_ (p := Hid (c_142 1 3 = c 1 3)) ((hF_144 1 3 qn_39cd18c3e).trans ((up_c (nn rfl)).trans (hid kn_150))) (fun kn_151 => ?_))))))))))))
  refine hv_ (p := c_142 1 3 = c 1 3) ((hid kn_151)) (fun h_152 => (hv_ (ir_41_2 hI) (fun h_153 => (hv_ (p := Hid (c_16 41 2 = c 41 2)) (hF_18 41 2 qn_ad6320866) (fun kn_154 => (hv_ (p := Hid (c_142 41 2 = c 41 2)) ((hF_144 41 2 qn_53bdb2099).trans ((up_c (nn rfl)).trans (hid kn_154))) (fun kn_155 => (hv_ (p := c_142 41 2 = c 41 2) ((hid kn_155)) (fun h_156 => (hv_ (p := Hid (c_16 P 0 = n0)) ((hF_18 P 0 (qn_b39d5257d hP)).trans (hn0)) (fun kn_157 => (hv_ (p := Hid (c_142 P 0 = n0)) ((hF_144 P 0 (qn_857752076 hP)).trans ((up_c (np0 hP rfl)).trans (hid kn_157))) (fun kn_158 => (hv_ (p := c_142 P 0 = n0) ((hid kn_158)) (fun h_159 => ?_)))))))))))))))
  refine hv_ (p := Hid (c_142 41 20 = n0)) ((hF_144 41 20 qn_110b29ed6).trans ((up_c (nn rfl)).trans (hid kn_134))) (fun kn_160 => (hv_ (p := c_142 41 20 = n0) ((hid kn_160)) (fun h_161 => (hv_ (p := Hid (c_16 P 1 = n1)) ((hF_18 P 1 (qn_b39d5257d hP)).trans (hn1)) (fun kn_162 => (hv_ (p := Hid (c_142 P 1 = n1)) ((hF_144 P 1 (qn_857752076 hP)).trans ((up_c (np0 hP rfl)).trans (hid kn_162))) (fun kn_163 => (hv_ (p := c_142 P 1 = n1) ((hid kn_163)) (fun h_164 => (hv_ (p := Hid (c_16 41 21 = n1)) ((hF_18 41 21 qn_ad6320866).trans (hm1)) (fun kn_165 => (hv_ (p := Hid (c_142 41 21 = n1)) ((hF_144 41 21 qn_561064c41).trans ((up_c (nn rfl)).trans (hid kn_165))) (fun kn_166 => (hv_ (p := c_142 41 21 = n1) ((hid kn_166)) (fun h_167 => ?_)))))))))))))))
  refine hv_ (p := Hid (c_16 P 2 = n2)) ((hF_18 P 2 (qn_b39d5257d hP)).trans (hn2)) (fun kn_168 => (hv_ (p := Hid (c_142 P 2 = n2)) ((hF_144 P 2 (qn_857752076 hP)).trans ((up_c (np0 hP rfl)).trans (hid kn_168))) (fun kn_169 => (hv_ (p := c_142 P 2 = n2) ((hid kn_169)) (fun h_170 => (hv_ (p := Hid (c_16 41 22 = n2)) ((hF_18 41 22 qn_ad6320866).trans (hm2)) (fun kn_171 => (hv_ (p := Hid (c_142 41 22 = n2)) ((hF_144 41 22 qn_1a460b46b).trans ((up_c (nn rfl)).trans (hid kn_171))) (fun kn_172 => (hv_ (p := c_142 41 22 = n2) ((hid kn_172)) (fun h_173 => (hv_ (p := Hid (c_16 P 3 = n3)) ((hF_18 P 3 (qn_b39d5257d hP)).trans (hn3)) (fun kn_174 => (hv_ (p := Hid (c_142 P 3 = n3)) ((hF_144 P 3 (qn_857752076 hP)).trans ((up_c (np0 hP rfl)).trans (hid kn_174))) (fun kn_175 => ?_)))))))))))))))
  refine hv_ (p := c_142 P 3 = n3) ((hid kn_175)) (fun h_176 => (hv_ (p := Hid (c_16 41 23 = n3)) ((hF_18 41 23 qn_ad6320866).trans (hm3)) (fun kn_177 => (hv_ (p := Hid (c_142 41 23 = n3)) ((hF_144 41 23 qn_b79f282cd).trans ((up_c (nn rfl)).trans (hid kn_177))) (fun kn_178 => (hv_ (p := c_142 41 23 = n3) ((hid kn_178)) (fun h_179 => (hv_ (p := Hid (c_142 0 12 = c_16 0 12)) ((hF_144 0 12 qn_666ded271).trans (up_c (nn rfl))) (fun kn_180 => (hv_ (p := c_142 0 12 = c_16 0 12) ((hid kn_180)) (fun h_181 => (hv_ (p := c_142 42 0 = c_142 42 0) (rfl) (fun h_182 => (hv_ (p := Hid (c_142 0 13 = c_16 0 13)) ((hF_144 0 13 qn_666ded271).trans (up_c (nn rfl))) (fun kn_183 => ?_)))))))))))))))
  refine hv_ (p := c_142 0 13 = c_16 0 13) ((hid kn_183)) (fun h_184 => (hv_ (p := c_142 42 1 = c_142 42 1) (rfl) (fun h_185 => ?_)))
  exact K P Q c_142 0 (of_decide_eq_true rfl) hI_143 ⟨by omega, ub_fr hU (fun j => (hF_144 2 j qn_2ad67e194).trans ((up_c (nn rfl)).trans (hF_18 2 j qn_37f624f87))) (fun j => (hF_144 43 j qn_1520ff5e3).trans ((up_c (nn rfl)).trans (hF_18 43 j qn_f1cf9021e))), ⟨by omega, by omega, by omega, by omega⟩, ⟨by omega, by omega⟩⟩

set_option maxRecDepth 100000 in
set_option maxHeartbeats 4000000 in
theorem o_18 {xs : Nat → Int32} {L i0 d nc ns P Q : Nat} {c : ME} {Z : AR → Prop} (hi : i0 + 8 ≤ L) (hL : L ≤ 100000) (hI : Iv 0 (-1) P Q c) (hR : Rq P c) (K : ∀ (P2 Q2 : Nat) (c2 : ME) (e : Nat), e ≤ 1 → Iv 0 (-1) P2 Q2 c2 → (Rq P2 c2) → Wp (a_scr L xs) (d + 90) 296 1816 [(4, vi (i0 : Int)), (3, .ref 67), (2, .ref 41), (1, .ref 0), (0, .ref a_SC)] [] (Wd P2 Q2 P2 P2 c2) (nc + e) (ns + 6 * e) Z) : Wp (a_scr L xs) (d + 90) 296 943 [(4, vi (i0 : Int)), (3, .ref 67), (2, .ref 41), (1, .ref 0), (0, .ref a_SC)] [] (Wd P Q P P c) nc ns Z := by
  obtain ⟨x1, hx1⟩ : ∃ z, (xs (i0 + 1)).toInt = z := ⟨_, rfl⟩
  refine hv_ (c_rng (xs (i0 + 1))) (fun x1r => ?_)
  rw [hx1] at x1r
  obtain ⟨x2, hx2⟩ : ∃ z, (xs (i0 + 2)).toInt = z := ⟨_, rfl⟩
  refine hv_ (c_rng (xs (i0 + 2))) (fun x2r => ?_)
  rw [hx2] at x2r
  obtain ⟨x3, hx3⟩ : ∃ z, (xs (i0 + 3)).toInt = z := ⟨_, rfl⟩
  refine hv_ (c_rng (xs (i0 + 3))) (fun x3r => ?_)
  rw [hx3] at x3r
  obtain ⟨x4, hx4⟩ : ∃ z, (xs (i0 + 4)).toInt = z := ⟨_, rfl⟩
  refine hv_ (c_rng (xs (i0 + 4))) (fun x4r => ?_)
  rw [hx4] at x4r
  obtain ⟨x5, hx5⟩ : ∃ z, (xs (i0 + 5)).toInt = z := ⟨_, rfl⟩
  refine hv_ (c_rng (xs (i0 + 5))) (fun x5r => ?_)
  rw [hx5] at x5r
  obtain ⟨x6, hx6⟩ : ∃ z, (xs (i0 + 6)).toInt = z := ⟨_, rfl⟩
  refine hv_ (c_rng (xs (i0 + 6))) (fun x6r => ?_)
  rw [hx6] at x6r
  obtain ⟨x7, hx7⟩ : ∃ z, (xs (i0 + 7)).toInt = z := ⟨_, rfl⟩
  refine hv_ (c_rng (xs (i0 + 7))) (fun x7r => ?_)
  rw [hx7] at x7r
  refine hv_ (iv_P hI) (fun hP => (hv_ (iv_Q hI) (fun hQ => (hv_ (rl_t hR) (fun hT => (hv_ (rl_u hR) (fun hU => ?_)))))))
  obtain ⟨n0, hn0⟩ : ∃ z, c P 0 = z := ⟨_, rfl⟩
  refine hv_ (p := c 41 20 = n0) ((rl_nums hR).1.symm.trans hn0) (fun hm0 => (hv_ (ir_p0_0 hI hP) (fun hr0 => ?_)))
  rw [hn0] at hr0
  obtain ⟨n1, hn1⟩ : ∃ z, c P 1 = z := ⟨_, rfl⟩
  refine hv_ (p := c 41 21 = n1) ((rl_nums hR).2.1.symm.trans hn1) (fun hm1 => (hv_ (ir_p0_1 hI hP) (fun hr1 => ?_)))
  rw [hn1] at hr1
  obtain ⟨n2, hn2⟩ : ∃ z, c P 2 = z := ⟨_, rfl⟩
  refine hv_ (p := c 41 22 = n2) ((rl_nums hR).2.2.1.symm.trans hn2) (fun hm2 => (hv_ (ir_p0_2 hI hP) (fun hr2 => ?_)))
  rw [hn2] at hr2
  obtain ⟨n3, hn3⟩ : ∃ z, c P 3 = z := ⟨_, rfl⟩
  refine hv_ (p := c 41 23 = n3) ((rl_nums hR).2.2.2.symm.trans hn3) (fun hm3 => (hv_ (ir_p0_3 hI hP) (fun hr3 => ?_)))
  rw [hn3] at hr3
  refine hv_ (rl_cnt2 hR) (fun hNcnt2 => (hv_ (rl_cnt2 hR) (fun hNcnt2 => (q_aload_n c_296_943 rfl (q_aload_n c_296_944 rfl (q_iload c_296_945 rfl (q_iconst c_296_947 (v_iadd (v := (i0 : Int) + 1) c_296_948 rfl (v_scr (j := i0 + 1) c_296_949 (by omega) (by omega) hL hx1 ?_)))))))))
  refine q_aload_n c_296_950 rfl (q_iload c_296_951 rfl (q_iconst c_296_953 (v_iadd (v := (i0 : Int) + 2) c_296_954 rfl (v_scr (j := i0 + 2) c_296_955 (by omega) (by omega) hL hx2 (q_aload_n c_296_956 rfl (q_call c_296_957 rfl rfl rfl (q_aload_n c_278_0 rfl ?_)))))))
  refine q_iconst c_278_1 (q_aload_n c_278_2 rfl (q_iload_n c_278_3 rfl (q_iload_n c_278_4 rfl (hv_ (p := c P 0 = n0) ((hn0)) (fun h_1 => (hv_ (ir_0_12 hI) (fun h_2 => (hv_ (ir_0_13 hI) (fun h_3 => ?_)))))))))
  refine v_cv c_278_5 km_9_62 rfl rfl (Nat.le_of_ble_eq_true rfl) ⟨⟨rfl, rfl⟩, Nat.le_of_ble_eq_true rfl, rfl⟩ (Nat.le_of_ble_eq_true rfl) (Nat.le_of_ble_eq_true rfl) (s_119S (a1 := x1) (a2 := x2) hI (show (-2147483648) ≤ x1 ∧ x1 ≤ 2147483647 from ⟨by omega, by omega⟩) (show (-2147483648) ≤ x2 ∧ x2 ≤ 2147483647 from ⟨by omega, by omega⟩) (fun c_4 hI_5 hF_6 h_7 h_8 h_9 => ?_) (fun c_10 y_13 hI_11 hF_12 hy_13 h_14 h_15 h_16 => ?_))
  · skip
    refine hv_ (ir_0_13 hI_5) (fun h_17 => (hv_ (ir_0_12 hI_5) (fun h_18 => (bk_thr (z := Int32.ofInt 1) rfl ⟨_, _, rfl⟩ rfl (bk_inl (q_istore c_296_960 (Nat.le_of_ble_eq_true rfl) (q_aload_n c_296_962 rfl (q_aload_n c_296_963 rfl (q_iload c_296_964 rfl ?_)))))))))
    refine q_iconst c_296_966 (v_iadd (v := (i0 : Int) + 1) c_296_967 rfl (v_scr (j := i0 + 1) c_296_968 (by omega) (by omega) hL hx1 (q_aload_n c_296_969 rfl (q_iload c_296_970 rfl (q_iconst c_296_972 (v_iadd (v := (i0 : Int) + 2) c_296_973 rfl (v_scr (j := i0 + 2) c_296_974 (by omega) (by omega) hL hx2 ?_)))))))
    refine hv_ (p := Hid (c_4 41 20 = n0)) ((hF_6 41 20 (fun h => absurd h.1 (nn rfl))).trans (hm0)) (fun kn_19 => (hv_ (p := c_4 41 20 = n0) ((hid kn_19)) (fun h_20 => (hv_ (ir_42 hI 0) (fun h_21 => (hv_ (p := Hid (c_4 42 0 = c 42 0)) (hF_6 42 0 (fun h => absurd h.1 (nn rfl))) (fun kn_22 => (hv_ (p := c_4 42 0 = c 42 0) ((hid kn_22)) (fun h_23 => (hv_ (ir_42 hI 1) (fun h_24 => (hv_ (p := Hid (c_4 42 1 = c 42 1)) (hF_6 42 1 (fun h => absurd h.1 (nn rfl))) (fun kn_25 => (hv_ (p := c_4 42 1 = c 42 1) ((hid kn_25)) (fun h_26 => ?_)))))))))))))))
    refine v_cv c_296_975 km_9_190 rfl rfl (Nat.le_of_ble_eq_true rfl) ⟨⟨rfl, rfl⟩, Nat.le_of_ble_eq_true rfl, rfl⟩ (Nat.le_of_ble_eq_true rfl) (Nat.le_of_ble_eq_true rfl) (s_227S (a1 := x1) (a2 := x2) hI_5 (show (-2147483648) ≤ x1 ∧ x1 ≤ 2147483647 from ⟨by first | (clear hT hNcnt2 h_2 h_3 h_17 h_18; omega) | omega, by first | (clear hT hNcnt2 h_2 h_3 h_17 h_18; omega) | omega⟩) (show (-2147483648) ≤ x2 ∧ x2 ≤ 2147483647 from ⟨by first | (clear hT hNcnt2 h_2 h_3 h_17 h_18; omega) | omega, by first | (clear hT hNcnt2 h_2 h_3 h_17 h_18; omega) | omega⟩) (fun c_27 y_30 hI_28 hF_29 hy_30 h_31 => (bk_inl (hv_ (ir_42 hI_28 0) (fun h_32 => (hv_ (ir_42 hI_28 1) (fun h_33 => (q_istore c_296_978 (Nat.le_of_ble_eq_true rfl) (q_goto (t := 1816) c_296_980 rfl (Wp_ls [(4, vi (i0 : Int)), (3, .ref 67), (2, .ref 41), (1, .ref 0), (0, .ref a_SC)] (lsub_cons rfl (lsub_cons rfl (lsub_cons rfl (lsub_cons rfl (lsub_cons rfl lsub_nil))))) (hv_ (ir_1_3 hI) (fun h_34 => ?_))))))))))))
    refine hv_ (p := Hid (c_4 1 3 = c 1 3)) (hF_6 1 3 (fun h => absurd h.1 (nn rfl))) (fun kn_35 => (hv_ (p := Hid (c_27 1 3 = c 1 3)) ((hF_29 1 3 qn_39cd18c3e).trans (hid kn_35)) (fun kn_36 => (hv_ (p := c_27 1 3 = c 1 3) ((hid kn_36)) (fun h_37 => (hv_ (ir_41_2 hI) (fun h_38 => (hv_ (p := Hid (c_4 41 2 = c 41 2)) (hF_6 41 2 (fun h => absurd h.1 (nn rfl))) (fun kn_39 => (hv_ (p := Hid (c_27 41 2 = c 41 2)) ((hF_29 41 2 qn_53bdb2099).trans (hid kn_39)) (fun kn_40 => (hv_ (p := c_27 41 2 = c 41 2) ((hid kn_40)) (fun h_41 => (hv_ (p := Hid (c_4 P 0 = n0)) ((hF_6 P 0 (fun h => absurd h.1 (np0 hP rfl))).trans (hn0)) (fun kn_42 => ?_)))))))))))))))
    refine hv_ (p := Hid (c_27 P 0 = n0)) ((hF_29 P 0 (qn_857752076 hP)).trans (hid kn_42)) (fun kn_43 => (hv_ (p := c_27 P 0 = n0) ((hid kn_43)) (fun h_44 => (hv_ (p := Hid (c_27 41 20 = n0)) ((hF_29 41 20 qn_110b29ed6).trans (hid kn_19)) (fun kn_45 => (hv_ (p := c_27 41 20 = n0) ((hid kn_45)) (fun h_46 => (hv_ (p := Hid (c_4 P 1 = n1)) ((hF_6 P 1 (fun h => absurd h.1 (np0 hP rfl))).trans (hn1)) (fun kn_47 => (hv_ (p := Hid (c_27 P 1 = n1)) ((hF_29 P 1 (qn_857752076 hP)).trans (hid kn_47)) (fun kn_48 => (hv_ (p := c_27 P 1 = n1) ((hid kn_48)) (fun h_49 => (hv_ (p := Hid (c_4 41 21 = n1)) ((hF_6 41 21 (fun h => absurd h.1 (nn rfl))).trans (hm1)) (fun kn_50 => ?_)))))))))))))))
    refine hv_ (p := Hid (c_27 41 21 = n1)) ((hF_29 41 21 qn_561064c41).trans (hid kn_50)) (fun kn_51 => (hv_ (p := c_27 41 21 = n1) ((hid kn_51)) (fun h_52 => (hv_ (p := Hid (c_4 P 2 = n2)) ((hF_6 P 2 (fun h => absurd h.1 (np0 hP rfl))).trans (hn2)) (fun kn_53 => (hv_ (p := Hid (c_27 P 2 = n2)) ((hF_29 P 2 (qn_857752076 hP)).trans (hid kn_53)) (fun kn_54 => (hv_ (p := c_27 P 2 = n2) ((hid kn_54)) (fun h_55 => (hv_ (p := Hid (c_4 41 22 = n2)) ((hF_6 41 22 (fun h => absurd h.1 (nn rfl))).trans (hm2)) (fun kn_56 => (hv_ (p := Hid (c_27 41 22 = n2)) ((hF_29 41 22 qn_1a460b46b).trans (hid kn_56)) (fun kn_57 => (hv_ (p := c_27 41 22 = n2) ((hid kn_57)) (fun h_58 => ?_)))))))))))))))
    refine hv_ (p := Hid (c_4 P 3 = n3)) ((hF_6 P 3 (fun h => absurd h.1 (np0 hP rfl))).trans (hn3)) (fun kn_59 => (hv_ (p := Hid (c_27 P 3 = n3)) ((hF_29 P 3 (qn_857752076 hP)).trans (hid kn_59)) (fun kn_60 => (hv_ (p := c_27 P 3 = n3) ((hid kn_60)) (fun h_61 => (hv_ (p := Hid (c_4 41 23 = n3)) ((hF_6 41 23 (fun h => absurd h.1 (nn rfl))).trans (hm3)) (fun kn_62 => (hv_ (p := Hid (c_27 41 23 = n3)) ((hF_29 41 23 qn_b79f282cd).trans (hid kn_62)) (fun kn_63 => (hv_ (p := c_27 41 23 = n3) ((hid kn_63)) (fun h_64 => (hv_ (p := Hid (c_4 0 12 = c 0 12)) (hF_6 0 12 (fun h => absurd h.2 (ni rfl))) (fun kn_65 => (hv_ (p := Hid (c_27 0 12 = c 0 12)) ((hF_29 0 12 qn_666ded271).trans (hid kn_65)) (fun kn_66 => ?_)))))))))))))))
    refine hv_ (p := c_27 0 12 = c 0 12) ((hid kn_66)) (fun h_67 => (hv_ (p := c_27 42 0 = c_27 42 0) (rfl) (fun h_68 => (hv_ (p := Hid (c_27 0 13 = c_4 0 13)) (hF_29 0 13 qn_666ded271) (fun kn_69 => (hv_ (p := c_27 0 13 = c_4 0 13) ((hid kn_69)) (fun h_70 => (hv_ (p := c_27 42 1 = c_27 42 1) (rfl) (fun h_71 => ?_)))))))))
    exact K P Q c_27 1 (of_decide_eq_true rfl) hI_28 ⟨by omega, ub_fr hU (fun j => (hF_29 2 j qn_2ad67e194).trans (hF_6 2 j (fun h => absurd h.1 (nn rfl)))) (fun j => (hF_29 43 j qn_1520ff5e3).trans (hF_6 43 j (fun h => absurd h.1 (nn rfl)))), ⟨by omega, by omega, by omega, by omega⟩, ⟨by omega, by omega⟩⟩
  refine bk_inl (hv_ (ir_0_12 hI_11) (fun h_72 => (hv_ (ir_0_13 hI_11) (fun h_73 => (v_i2l c_278_8 (by omega) (v_ls c_278_9 rfl (of_decide_eq_true rfl) (of_decide_eq_true rfl) (of_decide_eq_true rfl) (q_goto (t := 17) c_278_10 rfl (q_iconst c_278_17 (q_iret c_278_18 rfl ?_)))))))))
  refine bk_inl (q_istore c_296_960 (Nat.le_of_ble_eq_true rfl) (q_aload_n c_296_962 rfl (q_aload_n c_296_963 rfl (q_iload c_296_964 rfl (q_iconst c_296_966 (v_iadd (v := (i0 : Int) + 1) c_296_967 rfl (v_scr (j := i0 + 1) c_296_968 (by omega) (by omega) hL hx1 ?_)))))))
  refine q_aload_n c_296_969 rfl (q_iload c_296_970 rfl (q_iconst c_296_972 (v_iadd (v := (i0 : Int) + 2) c_296_973 rfl (v_scr (j := i0 + 2) c_296_974 (by omega) (by omega) hL hx2 (hv_ (iw_lx (a := 67) (j := 0) (v := y_13) hI_11 (by omega)) (fun hI_74 => (hv_ (p := Hid (c_10 41 20 = n0)) ((hF_12 41 20 (fun h => absurd h.1 (nn rfl))).trans (hm0)) (fun kn_75 => (hv_ (p := (up c_10 67 0 y_13) 41 20 = n0) (((up_c (nn rfl)).trans (hid kn_75))) (fun h_76 => ?_))))))))))
  refine hv_ (ir_42 hI 0) (fun h_77 => (hv_ (p := Hid (c_10 42 0 = c 42 0)) (hF_12 42 0 (fun h => absurd h.1 (nn rfl))) (fun kn_78 => (hv_ (p := (up c_10 67 0 y_13) 42 0 = c 42 0) (((up_c (nn rfl)).trans (hid kn_78))) (fun h_79 => (hv_ (ir_42 hI 1) (fun h_80 => (hv_ (p := Hid (c_10 42 1 = c 42 1)) (hF_12 42 1 (fun h => absurd h.1 (nn rfl))) (fun kn_81 => (hv_ (p := (up c_10 67 0 y_13) 42 1 = c 42 1) (((up_c (nn rfl)).trans (hid kn_81))) (fun h_82 => (v_cv c_296_975 km_9_190 rfl rfl (Nat.le_of_ble_eq_true rfl) ⟨⟨rfl, rfl⟩, Nat.le_of_ble_eq_true rfl, rfl⟩ (Nat.le_of_ble_eq_true rfl) (Nat.le_of_ble_eq_true rfl) (s_227S (a1 := x1) (a2 := x2) hI_74 (show (-2147483648) ≤ x1 ∧ x1 ≤ 2147483647 from ⟨by first | (clear hT hNcnt2 h_2 h_3 h_72 h_15 h_73 h_16 h_14; omega) | omega, by first | (clear hT hNcnt2 h_2 h_3 h_72 h_15 h_73 h_16 h_14; omega) | omega⟩) (show (-2147483648) ≤ x2 ∧ x2 ≤ 2147483647 from ⟨by first | (clear hT hNcnt2 h_2 h_3 h_72 h_15 h_73 h_16 h_14; omega) | omega, by first | (clear hT hNcnt2 h_2 h_3 h_72 h_15 h_73 h_16 h_14; omega) | omega⟩) (fun c_83 y_86 hI_84 hF_85 hy_86 h_87 => (bk_inl ?_)))))))))))))))
  refine hv_ (ir_42 hI_84 0) (fun h_88 => (hv_ (ir_42 hI_84 1) (fun h_89 => (q_istore c_296_978 (Nat.le_of_ble_eq_true rfl) (q_goto (t := 1816) c_296_980 rfl (Wp_ls [(4, vi (i0 : Int)), (3, .ref 67), (2, .ref 41), (1, .ref 0), (0, .ref a_SC)] (lsub_cons rfl (lsub_cons rfl (lsub_cons rfl (lsub_cons rfl (lsub_cons rfl lsub_nil))))) (hv_ (ir_1_3 hI) (fun h_90 => (hv_ (p := Hid (c_10 1 3 = c 1 3)) (hF_12 1 3 (fun h => absurd h.1 (nn rfl))) (fun kn_91 => (hv_ (p := Hid (c_83 1 3 = c 1 3)) ((hF_85 1 3 qn_39cd18c3e).trans ((up_c (nn rfl)).trans (hid kn_91))) (fun kn_92 => ?_))))))))))))
  refine hv_ (p := c_83 1 3 = c 1 3) ((hid kn_92)) (fun h_93 => (hv_ (ir_41_2 hI) (fun h_94 => (hv_ (p := Hid (c_10 41 2 = c 41 2)) (hF_12 41 2 (fun h => absurd h.1 (nn rfl))) (fun kn_95 => (hv_ (p := Hid (c_83 41 2 = c 41 2)) ((hF_85 41 2 qn_53bdb2099).trans ((up_c (nn rfl)).trans (hid kn_95))) (fun kn_96 => (hv_ (p := c_83 41 2 = c 41 2) ((hid kn_96)) (fun h_97 => (hv_ (p := Hid (c_10 P 0 = n0)) ((hF_12 P 0 (fun h => absurd h.1 (np0 hP rfl))).trans (hn0)) (fun kn_98 => (hv_ (p := Hid (c_83 P 0 = n0)) ((hF_85 P 0 (qn_857752076 hP)).trans ((up_c (np0 hP rfl)).trans (hid kn_98))) (fun kn_99 => (hv_ (p := c_83 P 0 = n0) ((hid kn_99)) (fun h_100 => ?_)))))))))))))))
  refine hv_ (p := Hid (c_83 41 20 = n0)) ((hF_85 41 20 qn_110b29ed6).trans ((up_c (nn rfl)).trans (hid kn_75))) (fun kn_101 => (hv_ (p := c_83 41 20 = n0) ((hid kn_101)) (fun h_102 => (hv_ (p := Hid (c_10 P 1 = n1)) ((hF_12 P 1 (fun h => absurd h.1 (np0 hP rfl))).trans (hn1)) (fun kn_103 => (hv_ (p := Hid (c_83 P 1 = n1)) ((hF_85 P 1 (qn_857752076 hP)).trans ((up_c (np0 hP rfl)).trans (hid kn_103))) (fun kn_104 => (hv_ (p := c_83 P 1 = n1) ((hid kn_104)) (fun h_105 => (hv_ (p := Hid (c_10 41 21 = n1)) ((hF_12 41 21 (fun h => absurd h.1 (nn rfl))).trans (hm1)) (fun kn_106 => (hv_ (p := Hid (c_83 41 21 = n1)) ((hF_85 41 21 qn_561064c41).trans ((up_c (nn rfl)).trans (hid kn_106))) (fun kn_107 => (hv_ (p := c_83 41 21 = n1) ((hid kn_107)) (fun h_108 => ?_)))))))))))))))
  refine hv_ (p := Hid (c_10 P 2 = n2)) ((hF_12 P 2 (fun h => absurd h.1 (np0 hP rfl))).trans (hn2)) (fun kn_109 => (hv_ (p := Hid (c_83 P 2 = n2)) ((hF_85 P 2 (qn_857752076 hP)).trans ((up_c (np0 hP rfl)).trans (hid kn_109))) (fun kn_110 => (hv_ (p := c_83 P 2 = n2) ((hid kn_110)) (fun h_111 => (hv_ (p := Hid (c_10 41 22 = n2)) ((hF_12 41 22 (fun h => absurd h.1 (nn rfl))).trans (hm2)) (fun kn_112 => (hv_ (p := Hid (c_83 41 22 = n2)) ((hF_85 41 22 qn_1a460b46b).trans ((up_c (nn rfl)).trans (hid kn_112))) (fun kn_113 => (hv_ (p := c_83 41 22 = n2) ((hid kn_113)) (fun h_114 => (hv_ (p := Hid (c_10 P 3 = n3)) ((hF_12 P 3 (fun h => absurd h.1 (np0 hP rfl))).trans (hn3)) (fun kn_115 => (hv_ (p := Hid (c_83 P 3 = n3)) ((hF_85 P 3 (qn_857752076 hP)).trans ((up_c (np0 hP rfl)).trans (hid kn_115))) (fun kn_116 => ?_)))))))))))))))
  refine hv_ (p := c_83 P 3 = n3) ((hid kn_116)) (fun h_117 => (hv_ (p := Hid (c_10 41 23 = n3)) ((hF_12 41 23 (fun h => absurd h.1 (nn rfl))).trans (hm3)) (fun kn_118 => (hv_ (p := Hid (c_83 41 23 = n3)) ((hF_85 41 23 qn_b79f282cd).trans ((up_c (nn rfl)).trans (hid kn_118))) (fun kn_119 => (hv_ (p := c_83 41 23 = n3) ((hid kn_119)) (fun h_120 => (hv_ (p := Hid (c_10 0 12 = c 0 12)) (hF_12 0 12 (fun h => absurd h.2 (ni rfl))) (fun kn_121 => (hv_ (p := Hid (c_83 0 12 = c 0 12)) ((hF_85 0 12 qn_666ded271).trans ((up_c (nn rfl)).trans (hid kn_121))) (fun kn_122 => (hv_ (p := c_83 0 12 = c 0 12) ((hid kn_122)) (fun h_123 => (hv_ (p := c_83 42 0 = c_83 42 0) (rfl) (fun h_124 => ?_)))))))))))))))
  refine hv_ (p := Hid (c_83 0 13 = c_10 0 13)) ((hF_85 0 13 qn_666ded271).trans (up_c (nn rfl))) (fun kn_125 => (hv_ (p := c_83 0 13 = c_10 0 13) ((hid kn_125)) (fun h_126 => (hv_ (p := c_83 42 1 = c_83 42 1) (rfl) (fun h_127 => ?_)))))
  exact K P Q c_83 0 (of_decide_eq_true rfl) hI_84 ⟨by omega, ub_fr hU (fun j => (hF_85 2 j qn_2ad67e194).trans ((up_c (nn rfl)).trans (hF_12 2 j (fun h => absurd h.1 (nn rfl))))) (fun j => (hF_85 43 j qn_1520ff5e3).trans ((up_c (nn rfl)).trans (hF_12 43 j (fun h => absurd h.1 (nn rfl))))), ⟨by omega, by omega, by omega, by omega⟩, ⟨by omega, by omega⟩⟩

set_option maxRecDepth 100000 in
set_option maxHeartbeats 4000000 in
theorem o_19 {xs : Nat → Int32} {L i0 d nc ns P Q : Nat} {c : ME} {Z : AR → Prop} (hi : i0 + 8 ≤ L) (hL : L ≤ 100000) (hI : Iv 0 (-1) P Q c) (hR : Rq P c) (K : ∀ (P2 Q2 : Nat) (c2 : ME) (e : Nat), e ≤ 1 → Iv 0 (-1) P2 Q2 c2 → (Rq P2 c2) → Wp (a_scr L xs) (d + 90) 296 1816 [(4, vi (i0 : Int)), (3, .ref 67), (2, .ref 41), (1, .ref 0), (0, .ref a_SC)] [] (Wd P2 Q2 P2 P2 c2) (nc + e) (ns + 6 * e) Z) : Wp (a_scr L xs) (d + 90) 296 983 [(4, vi (i0 : Int)), (3, .ref 67), (2, .ref 41), (1, .ref 0), (0, .ref a_SC)] [] (Wd P Q P P c) nc ns Z := by
  obtain ⟨x1, hx1⟩ : ∃ z, (xs (i0 + 1)).toInt = z := ⟨_, rfl⟩
  refine hv_ (c_rng (xs (i0 + 1))) (fun x1r => ?_)
  rw [hx1] at x1r
  obtain ⟨x2, hx2⟩ : ∃ z, (xs (i0 + 2)).toInt = z := ⟨_, rfl⟩
  refine hv_ (c_rng (xs (i0 + 2))) (fun x2r => ?_)
  rw [hx2] at x2r
  obtain ⟨x3, hx3⟩ : ∃ z, (xs (i0 + 3)).toInt = z := ⟨_, rfl⟩
  refine hv_ (c_rng (xs (i0 + 3))) (fun x3r => ?_)
  rw [hx3] at x3r
  obtain ⟨x4, hx4⟩ : ∃ z, (xs (i0 + 4)).toInt = z := ⟨_, rfl⟩
  refine hv_ (c_rng (xs (i0 + 4))) (fun x4r => ?_)
  rw [hx4] at x4r
  obtain ⟨x5, hx5⟩ : ∃ z, (xs (i0 + 5)).toInt = z := ⟨_, rfl⟩
  refine hv_ (c_rng (xs (i0 + 5))) (fun x5r => ?_)
  rw [hx5] at x5r
  obtain ⟨x6, hx6⟩ : ∃ z, (xs (i0 + 6)).toInt = z := ⟨_, rfl⟩
  refine hv_ (c_rng (xs (i0 + 6))) (fun x6r => ?_)
  rw [hx6] at x6r
  obtain ⟨x7, hx7⟩ : ∃ z, (xs (i0 + 7)).toInt = z := ⟨_, rfl⟩
  refine hv_ (c_rng (xs (i0 + 7))) (fun x7r => ?_)
  rw [hx7] at x7r
  refine hv_ (iv_P hI) (fun hP => (hv_ (iv_Q hI) (fun hQ => (hv_ (rl_t hR) (fun hT => (hv_ (rl_u hR) (fun hU => ?_)))))))
  obtain ⟨n0, hn0⟩ : ∃ z, c P 0 = z := ⟨_, rfl⟩
  refine hv_ (p := c 41 20 = n0) ((rl_nums hR).1.symm.trans hn0) (fun hm0 => (hv_ (ir_p0_0 hI hP) (fun hr0 => ?_)))
  rw [hn0] at hr0
  obtain ⟨n1, hn1⟩ : ∃ z, c P 1 = z := ⟨_, rfl⟩
  refine hv_ (p := c 41 21 = n1) ((rl_nums hR).2.1.symm.trans hn1) (fun hm1 => (hv_ (ir_p0_1 hI hP) (fun hr1 => ?_)))
  rw [hn1] at hr1
  obtain ⟨n2, hn2⟩ : ∃ z, c P 2 = z := ⟨_, rfl⟩
  refine hv_ (p := c 41 22 = n2) ((rl_nums hR).2.2.1.symm.trans hn2) (fun hm2 => (hv_ (ir_p0_2 hI hP) (fun hr2 => ?_)))
  rw [hn2] at hr2
  obtain ⟨n3, hn3⟩ : ∃ z, c P 3 = z := ⟨_, rfl⟩
  refine hv_ (p := c 41 23 = n3) ((rl_nums hR).2.2.2.symm.trans hn3) (fun hm3 => (hv_ (ir_p0_3 hI hP) (fun hr3 => ?_)))
  rw [hn3] at hr3
  refine hv_ (rl_cnt2 hR) (fun hNcnt2 => (hv_ (rl_cnt2 hR) (fun hNcnt2 => (q_aload_n c_296_983 rfl (q_aload_n c_296_984 rfl (q_iload c_296_985 rfl (q_iconst c_296_987 (v_iadd (v := (i0 : Int) + 1) c_296_988 rfl (v_scr (j := i0 + 1) c_296_989 (by omega) (by omega) hL hx1 ?_)))))))))
  refine q_aload_n c_296_990 rfl (q_iload c_296_991 rfl (q_iconst c_296_993 (v_iadd (v := (i0 : Int) + 2) c_296_994 rfl (v_scr (j := i0 + 2) c_296_995 (by omega) (by omega) hL hx2 (q_aload_n c_296_996 rfl (q_iload c_296_997 rfl (q_iconst c_296_999 ?_)))))))
  refine v_iadd (v := (i0 : Int) + 3) c_296_1000 rfl (v_scr (j := i0 + 3) c_296_1001 (by omega) (by omega) hL hx3 (q_aload_n c_296_1002 rfl (q_call c_296_1003 rfl rfl rfl (q_aload c_279_0 rfl (q_iconst c_279_2 (q_aload_n c_279_3 rfl (q_iload_n c_279_4 rfl ?_)))))))
  refine q_iload_n c_279_5 rfl (q_iload_n c_279_6 rfl (hv_ (p := c P 0 = n0) ((hn0)) (fun h_1 => (hv_ (ir_0_12 hI) (fun h_2 => (hv_ (ir_0_13 hI) (fun h_3 => ?_)))))))
  refine v_cv c_279_7 km_9_65 rfl rfl (Nat.le_of_ble_eq_true rfl) ⟨⟨rfl, rfl⟩, Nat.le_of_ble_eq_true rfl, rfl⟩ (Nat.le_of_ble_eq_true rfl) (Nat.le_of_ble_eq_true rfl) (s_123S (a1 := x1) (a2 := x2) (a3 := x3) hI (show (-2147483648) ≤ x1 ∧ x1 ≤ 2147483647 from ⟨by omega, by omega⟩) (show (-2147483648) ≤ x2 ∧ x2 ≤ 2147483647 from ⟨by omega, by omega⟩) (show (-2147483648) ≤ x3 ∧ x3 ≤ 2147483647 from ⟨by omega, by omega⟩) (fun c_4 hI_5 hF_6 h_7 h_8 h_9 => ?_) (fun c_10 y_13 hI_11 hF_12 hy_13 h_14 h_15 h_16 => ?_))
  · skip
    refine hv_ (ir_0_13 hI_5) (fun h_17 => (hv_ (ir_0_12 hI_5) (fun h_18 => (bk_thr (z := Int32.ofInt 1) rfl ⟨_, _, rfl⟩ rfl (bk_inl (q_istore c_296_1006 (Nat.le_of_ble_eq_true rfl) (q_aload_n c_296_1008 rfl (q_aload_n c_296_1009 rfl (q_iload c_296_1010 rfl ?_)))))))))
    refine q_iconst c_296_1012 (v_iadd (v := (i0 : Int) + 1) c_296_1013 rfl (v_scr (j := i0 + 1) c_296_1014 (by omega) (by omega) hL hx1 (q_aload_n c_296_1015 rfl (q_iload c_296_1016 rfl (q_iconst c_296_1018 (v_iadd (v := (i0 : Int) + 2) c_296_1019 rfl (v_scr (j := i0 + 2) c_296_1020 (by omega) (by omega) hL hx2 ?_)))))))
    refine q_aload_n c_296_1021 rfl (q_iload c_296_1022 rfl (q_iconst c_296_1024 (v_iadd (v := (i0 : Int) + 3) c_296_1025 rfl (v_scr (j := i0 + 3) c_296_1026 (by omega) (by omega) hL hx3 (hv_ (p := Hid (c_4 41 20 = n0)) ((hF_6 41 20 (qn_691fb4e77 hP)).trans (hm0)) (fun kn_19 => (hv_ (p := c_4 41 20 = n0) ((hid kn_19)) (fun h_20 => (hv_ (ir_42 hI 0) (fun h_21 => ?_))))))))))
    refine hv_ (p := Hid (c_4 42 0 = c 42 0)) (hF_6 42 0 (qn_e34b2ab27 hP)) (fun kn_22 => (hv_ (p := c_4 42 0 = c 42 0) ((hid kn_22)) (fun h_23 => (hv_ (ir_42 hI 1) (fun h_24 => (hv_ (p := Hid (c_4 42 1 = c 42 1)) (hF_6 42 1 (qn_e34b2ab27 hP)) (fun kn_25 => (hv_ (p := c_4 42 1 = c 42 1) ((hid kn_25)) (fun h_26 => (v_cv c_296_1027 km_9_193 rfl rfl (Nat.le_of_ble_eq_true rfl) ⟨⟨rfl, rfl⟩, Nat.le_of_ble_eq_true rfl, rfl⟩ (Nat.le_of_ble_eq_true rfl) (Nat.le_of_ble_eq_true rfl) (s_228S (a1 := x1) (a2 := x2) (a3 := x3) hI_5 (show (-2147483648) ≤ x1 ∧ x1 ≤ 2147483647 from ⟨by first | (clear hT hNcnt2 h_2 h_3 h_17 h_18; omega) | omega, by first | (clear hT hNcnt2 h_2 h_3 h_17 h_18; omega) | omega⟩) (show (-2147483648) ≤ x2 ∧ x2 ≤ 2147483647 from ⟨by first | (clear hT hNcnt2 h_2 h_3 h_17 h_18; omega) | omega, by first | (clear hT hNcnt2 h_2 h_3 h_17 h_18; omega) | omega⟩) (show (-2147483648) ≤ x3 ∧ x3 ≤ 2147483647 from ⟨by first | (clear hT hNcnt2 h_2 h_3 h_17 h_18; omega) | omega, by first | (clear hT hNcnt2 h_2 h_3 h_17 h_18; omega) | omega⟩) (fun c_27 y_30 hI_28 hF_29 hy_30 h_31 => (bk_inl (hv_ (ir_42 hI_28 0) (fun h_32 => ?_)))))))))))))))
    refine hv_ (ir_42 hI_28 1) (fun h_33 => (q_istore c_296_1030 (Nat.le_of_ble_eq_true rfl) (q_goto (t := 1816) c_296_1032 rfl (Wp_ls [(4, vi (i0 : Int)), (3, .ref 67), (2, .ref 41), (1, .ref 0), (0, .ref a_SC)] (lsub_cons rfl (lsub_cons rfl (lsub_cons rfl (lsub_cons rfl (lsub_cons rfl lsub_nil))))) (hv_ (ir_1_3 hI) (fun h_34 => (hv_ (p := Hid (c_4 1 3 = c 1 3)) (hF_6 1 3 (qn_3770fd1a9 hP)) (fun kn_35 => (hv_ (p := Hid (c_27 1 3 = c 1 3)) ((hF_29 1 3 qn_44683f5fa).trans (hid kn_35)) (fun kn_36 => (hv_ (p := c_27 1 3 = c 1 3) ((hid kn_36)) (fun h_37 => ?_))))))))))))
    refine hv_ (ir_41_2 hI) (fun h_38 => (hv_ (p := Hid (c_4 41 2 = c 41 2)) (hF_6 41 2 (qn_691fb4e77 hP)) (fun kn_39 => (hv_ (p := Hid (c_27 41 2 = c 41 2)) ((hF_29 41 2 qn_7a112a690).trans (hid kn_39)) (fun kn_40 => (hv_ (p := c_27 41 2 = c 41 2) ((hid kn_40)) (fun h_41 => (hv_ (p := Hid (c_4 P 0 = n0)) ((hF_6 P 0 (qn_75dcb717b hP)).trans (hn0)) (fun kn_42 => (hv_ (p := Hid (c_27 P 0 = n0)) ((hF_29 P 0 (qn_70fec742f hP)).trans (hid kn_42)) (fun kn_43 => (hv_ (p := c_27 P 0 = n0) ((hid kn_43)) (fun h_44 => (hv_ (p := Hid (c_27 41 20 = n0)) ((hF_29 41 20 qn_d0753a96c).trans (hid kn_19)) (fun kn_45 => ?_)))))))))))))))
    refine hv_ (p := c_27 41 20 = n0) ((hid kn_45)) (fun h_46 => (hv_ (p := Hid (c_4 P 1 = n1)) ((hF_6 P 1 (qn_75dcb717b hP)).trans (hn1)) (fun kn_47 => (hv_ (p := Hid (c_27 P 1 = n1)) ((hF_29 P 1 (qn_70fec742f hP)).trans (hid kn_47)) (fun kn_48 => (hv_ (p := c_27 P 1 = n1) ((hid kn_48)) (fun h_49 => (hv_ (p := Hid (c_4 41 21 = n1)) ((hF_6 41 21 (qn_691fb4e77 hP)).trans (hm1)) (fun kn_50 => (hv_ (p := Hid (c_27 41 21 = n1)) ((hF_29 41 21 qn_2dba34809).trans (hid kn_50)) (fun kn_51 => (hv_ (p := c_27 41 21 = n1) ((hid kn_51)) (fun h_52 => (hv_ (p := Hid (c_4 P 2 = n2)) ((hF_6 P 2 (qn_75dcb717b hP)).trans (hn2)) (fun kn_53 => ?_)))))))))))))))
    refine hv_ (p := Hid (c_27 P 2 = n2)) ((hF_29 P 2 (qn_70fec742f hP)).trans (hid kn_53)) (fun kn_54 => (hv_ (p := c_27 P 2 = n2) ((hid kn_54)) (fun h_55 => (hv_ (p := Hid (c_4 41 22 = n2)) ((hF_6 41 22 (qn_691fb4e77 hP)).trans (hm2)) (fun kn_56 => (hv_ (p := Hid (c_27 41 22 = n2)) ((hF_29 41 22 qn_0d1137165).trans (hid kn_56)) (fun kn_57 => (hv_ (p := c_27 41 22 = n2) ((hid kn_57)) (fun h_58 => (hv_ (p := Hid (c_4 P 3 = n3)) ((hF_6 P 3 (qn_75dcb717b hP)).trans (hn3)) (fun kn_59 => (hv_ (p := Hid (c_27 P 3 = n3)) ((hF_29 P 3 (qn_70fec742f hP)).trans (hid kn_59)) (fun kn_60 => (hv_ (p := c_27 P 3 = n3) ((hid kn_60)) (fun h_61 => ?_)))))))))))))))
    refine hv_ (p := Hid (c_4 41 23 = n3)) ((hF_6 41 23 (qn_691fb4e77 hP)).trans (hm3)) (fun kn_62 => (hv_ (p := Hid (c_27 41 23 = n3)) ((hF_29 41 23 qn_ca1c2b99e).trans (hid kn_62)) (fun kn_63 => (hv_ (p := c_27 41 23 = n3) ((hid kn_63)) (fun h_64 => (hv_ (p := Hid (c_4 0 12 = c 0 12)) (hF_6 0 12 (qn_dda695ba2 hP)) (fun kn_65 => (hv_ (p := Hid (c_27 0 12 = c 0 12)) ((hF_29 0 12 qn_37cffd657).trans (hid kn_65)) (fun kn_66 => (hv_ (p := c_27 0 12 = c 0 12) ((hid kn_66)) (fun h_67 => (hv_ (p := c_27 42 0 = c_27 42 0) (rfl) (fun h_68 => (hv_ (p := Hid (c_27 0 13 = c_4 0 13)) (hF_29 0 13 qn_37cffd657) (fun kn_69 => ?_)))))))))))))))
    refine hv_ (p := c_27 0 13 = c_4 0 13) ((hid kn_69)) (fun h_70 => (hv_ (p := c_27 42 1 = c_27 42 1) (rfl) (fun h_71 => ?_)))
    exact K P Q c_27 1 (of_decide_eq_true rfl) hI_28 ⟨by omega, ub_fr hU (fun j => (hF_29 2 j qn_d0e66b3bf).trans (hF_6 2 j (qn_28c0e9630 hP))) (fun j => (hF_29 43 j qn_5a77d9750).trans (hF_6 43 j (qn_824e8473b hP))), ⟨by omega, by omega, by omega, by omega⟩, ⟨by omega, by omega⟩⟩
  refine bk_inl (hv_ (ir_0_12 hI_11) (fun h_72 => (hv_ (ir_0_13 hI_11) (fun h_73 => (v_i2l c_279_10 (by omega) (v_ls c_279_11 rfl (of_decide_eq_true rfl) (of_decide_eq_true rfl) (of_decide_eq_true rfl) (q_goto (t := 19) c_279_12 rfl (q_iconst c_279_19 (q_iret c_279_20 rfl ?_)))))))))
  refine bk_inl (q_istore c_296_1006 (Nat.le_of_ble_eq_true rfl) (q_aload_n c_296_1008 rfl (q_aload_n c_296_1009 rfl (q_iload c_296_1010 rfl (q_iconst c_296_1012 (v_iadd (v := (i0 : Int) + 1) c_296_1013 rfl (v_scr (j := i0 + 1) c_296_1014 (by omega) (by omega) hL hx1 ?_)))))))
  refine q_aload_n c_296_1015 rfl (q_iload c_296_1016 rfl (q_iconst c_296_1018 (v_iadd (v := (i0 : Int) + 2) c_296_1019 rfl (v_scr (j := i0 + 2) c_296_1020 (by omega) (by omega) hL hx2 (q_aload_n c_296_1021 rfl (q_iload c_296_1022 rfl (q_iconst c_296_1024 ?_)))))))
  refine v_iadd (v := (i0 : Int) + 3) c_296_1025 rfl (v_scr (j := i0 + 3) c_296_1026 (by omega) (by omega) hL hx3 (hv_ (iw_lx (a := 67) (j := 0) (v := y_13) hI_11 (by omega)) (fun hI_74 => (hv_ (p := Hid (c_10 41 20 = n0)) ((hF_12 41 20 (qn_691fb4e77 hP)).trans (hm0)) (fun kn_75 => (hv_ (p := (up c_10 67 0 y_13) 41 20 = n0) (((up_c (nn rfl)).trans (hid kn_75))) (fun h_76 => (hv_ (ir_42 hI 0) (fun h_77 => (hv_ (p := Hid (c_10 42 0 = c 42 0)) (hF_12 42 0 (qn_e34b2ab27 hP)) (fun kn_78 => (hv_ (p := (up c_10 67 0 y_13) 42 0 = c 42 0) (((up_c (nn rfl)).trans (hid kn_78))) (fun h_79 => ?_)))))))))))))
  refine hv_ (ir_42 hI 1) (fun h_80 => (hv_ (p := Hid (c_10 42 1 = c 42 1)) (hF_12 42 1 (qn_e34b2ab27 hP)) (fun kn_81 => (hv_ (p := (up c_10 67 0 y_13) 42 1 = c 42 1) (((up_c (nn rfl)).trans (hid kn_81))) (fun h_82 => (v_cv c_296_1027 km_9_193 rfl rfl (Nat.le_of_ble_eq_true rfl) ⟨⟨rfl, rfl⟩, Nat.le_of_ble_eq_true rfl, rfl⟩ (Nat.le_of_ble_eq_true rfl) (Nat.le_of_ble_eq_true rfl) (s_228S (a1 := x1) (a2 := x2) (a3 := x3) hI_74 (show (-2147483648) ≤ x1 ∧ x1 ≤ 2147483647 from ⟨by first | (clear hT hNcnt2 h_2 h_3 h_72 h_15 h_73 h_16 h_14; omega) | omega, by first | (clear hT hNcnt2 h_2 h_3 h_72 h_15 h_73 h_16 h_14; omega) | omega⟩) (show (-2147483648) ≤ x2 ∧ x2 ≤ 2147483647 from ⟨by first | (clear hT hNcnt2 h_2 h_3 h_72 h_15 h_73 h_16 h_14; omega) | omega, by first | (clear hT hNcnt2 h_2 h_3 h_72 h_15 h_73 h_16 h_14; omega) | omega⟩) (show (-2147483648) ≤ x3 ∧ x3 ≤ 2147483647 from ⟨by first | (clear hT hNcnt2 h_2 h_3 h_72 h_15 h_73 h_16 h_14; omega) | omega, by first | (clear hT hNcnt2 h_2 h_3 h_72 h_15 h_73 h_16 h_14; omega) | omega⟩) (fun c_83 y_86 hI_84 hF_85 hy_86 h_87 => (bk_inl (hv_ (ir_42 hI_84 0) (fun h_88 => (hv_ (ir_42 hI_84 1) (fun h_89 => (q_istore c_296_1030 (Nat.le_of_ble_eq_true rfl) ?_))))))))))))))
  refine q_goto (t := 1816) c_296_1032 rfl (Wp_ls [(4, vi (i0 : Int)), (3, .ref 67), (2, .ref 41), (1, .ref 0), (0, .ref a_SC)] (lsub_cons rfl (lsub_cons rfl (lsub_cons rfl (lsub_cons rfl (lsub_cons rfl lsub_nil))))) (hv_ (ir_1_3 hI) (fun h_90 => (hv_ (p := Hid (c_10 1 3 = c 1 3)) (hF_12 1 3 (qn_3770fd1a9 hP)) (fun kn_91 => (hv_ (p := Hid (c_83 1 3 = c 1 3)) ((hF_85 1 3 qn_44683f5fa).trans ((up_c (nn rfl)).trans (hid kn_91))) (fun kn_92 => (hv_ (p := c_83 1 3 = c 1 3) ((hid kn_92)) (fun h_93 => (hv_ (ir_41_2 hI) (fun h_94 => (hv_ (p := Hid (c_10 41 2 = c 41 2)) (hF_12 41 2 (qn_691fb4e77 hP)) (fun kn_95 => ?_)))))))))))))
  refine hv_ (p := Hid (c_83 41 2 = c 41 2)) ((hF_85 41 2 qn_7a112a690).trans ((up_c (nn rfl)).trans (hid kn_95))) (fun kn_96 => (hv_ (p := c_83 41 2 = c 41 2) ((hid kn_96)) (fun h_97 => (hv_ (p := Hid (c_10 P 0 = n0)) ((hF_12 P 0 (qn_75dcb717b hP)).trans (hn0)) (fun kn_98 => (hv_ (p := Hid (c_83 P 0 = n0)) ((hF_85 P 0 (qn_70fec742f hP)).trans ((up_c (np0 hP rfl)).trans (hid kn_98))) (fun kn_99 => (hv_ (p := c_83 P 0 = n0) ((hid kn_99)) (fun h_100 => (hv_ (p := Hid (c_83 41 20 = n0)) ((hF_85 41 20 qn_d0753a96c).trans ((up_c (nn rfl)).trans (hid kn_75))) (fun kn_101 => (hv_ (p := c_83 41 20 = n0) ((hid kn_101)) (fun h_102 => (hv_ (p := Hid (c_10 P 1 = n1)) ((hF_12 P 1 (qn_75dcb717b hP)).trans (hn1)) (fun kn_103 => ?_)))))))))))))))
  refine hv_ (p := Hid (c_83 P 1 = n1)) ((hF_85 P 1 (qn_70fec742f hP)).trans ((up_c (np0 hP rfl)).trans (hid kn_103))) (fun kn_104 => (hv_ (p := c_83 P 1 = n1) ((hid kn_104)) (fun h_105 => (hv_ (p := Hid (c_10 41 21 = n1)) ((hF_12 41 21 (qn_691fb4e77 hP)).trans (hm1)) (fun kn_106 => (hv_ (p := Hid (c_83 41 21 = n1)) ((hF_85 41 21 qn_2dba34809).trans ((up_c (nn rfl)).trans (hid kn_106))) (fun kn_107 => (hv_ (p := c_83 41 21 = n1) ((hid kn_107)) (fun h_108 => (hv_ (p := Hid (c_10 P 2 = n2)) ((hF_12 P 2 (qn_75dcb717b hP)).trans (hn2)) (fun kn_109 => (hv_ (p := Hid (c_83 P 2 = n2)) ((hF_85 P 2 (qn_70fec742f hP)).trans ((up_c (np0 hP rfl)).trans (hid kn_109))) (fun kn_110 => (hv_ (p := c_83 P 2 = n2) ((hid kn_110)) (fun h_111 => ?_)))))))))))))))
  refine hv_ (p := Hid (c_10 41 22 = n2)) ((hF_12 41 22 (qn_691fb4e77 hP)).trans (hm2)) (fun kn_112 => (hv_ (p := Hid (c_83 41 22 = n2)) ((hF_85 41 22 qn_0d1137165).trans ((up_c (nn rfl)).trans (hid kn_112))) (fun kn_113 => (hv_ (p := c_83 41 22 = n2) ((hid kn_113)) (fun h_114 => (hv_ (p := Hid (c_10 P 3 = n3)) ((hF_12 P 3 (qn_75dcb717b hP)).trans (hn3)) (fun kn_115 => (hv_ (p := Hid (c_83 P 3 = n3)) ((hF_85 P 3 (qn_70fec742f hP)).trans ((up_c (np0 hP rfl)).trans (hid kn_115))) (fun kn_116 => (hv_ (p := c_83 P 3 = n3) ((hid kn_116)) (fun h_117 => (hv_ (p := Hid (c_10 41 23 = n3)) ((hF_12 41 23 (qn_691fb4e77 hP)).trans (hm3)) (fun kn_118 => (hv_ (p := Hid (c_83 41 23 = n3)) ((hF_85 41 23 qn_ca1c2b99e).trans ((up_c (nn rfl)).trans (hid kn_118))) (fun kn_119 => ?_)))))))))))))))
  refine hv_ (p := c_83 41 23 = n3) ((hid kn_119)) (fun h_120 => (hv_ (p := Hid (c_10 0 12 = c 0 12)) (hF_12 0 12 (qn_dda695ba2 hP)) (fun kn_121 => (hv_ (p := Hid (c_83 0 12 = c 0 12)) ((hF_85 0 12 qn_37cffd657).trans ((up_c (nn rfl)).trans (hid kn_121))) (fun kn_122 => (hv_ (p := c_83 0 12 = c 0 12) ((hid kn_122)) (fun h_123 => (hv_ (p := c_83 42 0 = c_83 42 0) (rfl) (fun h_124 => (hv_ (p := Hid (c_83 0 13 = c_10 0 13)) ((hF_85 0 13 qn_37cffd657).trans (up_c (nn rfl))) (fun kn_125 => (hv_ (p := c_83 0 13 = c_10 0 13) ((hid kn_125)) (fun h_126 => (hv_ (p := c_83 42 1 = c_83 42 1) (rfl) (fun h_127 => ?_)))))))))))))))
  exact K P Q c_83 0 (of_decide_eq_true rfl) hI_84 ⟨by omega, ub_fr hU (fun j => (hF_85 2 j qn_d0e66b3bf).trans ((up_c (nn rfl)).trans (hF_12 2 j (qn_28c0e9630 hP)))) (fun j => (hF_85 43 j qn_5a77d9750).trans ((up_c (nn rfl)).trans (hF_12 43 j (qn_824e8473b hP)))), ⟨by omega, by omega, by omega, by omega⟩, ⟨by omega, by omega⟩⟩

set_option maxRecDepth 100000 in
set_option maxHeartbeats 4000000 in
theorem o_20 {xs : Nat → Int32} {L i0 d nc ns P Q : Nat} {c : ME} {Z : AR → Prop} (hi : i0 + 8 ≤ L) (hL : L ≤ 100000) (hI : Iv 0 (-1) P Q c) (hR : Rq P c) (K : ∀ (P2 Q2 : Nat) (c2 : ME) (e : Nat), e ≤ 1 → Iv 0 (-1) P2 Q2 c2 → (Rq P2 c2) → Wp (a_scr L xs) (d + 90) 296 1816 [(4, vi (i0 : Int)), (3, .ref 67), (2, .ref 41), (1, .ref 0), (0, .ref a_SC)] [] (Wd P2 Q2 P2 P2 c2) (nc + e) (ns + 6 * e) Z) : Wp (a_scr L xs) (d + 90) 296 1035 [(4, vi (i0 : Int)), (3, .ref 67), (2, .ref 41), (1, .ref 0), (0, .ref a_SC)] [] (Wd P Q P P c) nc ns Z := by
  obtain ⟨x1, hx1⟩ : ∃ z, (xs (i0 + 1)).toInt = z := ⟨_, rfl⟩
  refine hv_ (c_rng (xs (i0 + 1))) (fun x1r => ?_)
  rw [hx1] at x1r
  obtain ⟨x2, hx2⟩ : ∃ z, (xs (i0 + 2)).toInt = z := ⟨_, rfl⟩
  refine hv_ (c_rng (xs (i0 + 2))) (fun x2r => ?_)
  rw [hx2] at x2r
  obtain ⟨x3, hx3⟩ : ∃ z, (xs (i0 + 3)).toInt = z := ⟨_, rfl⟩
  refine hv_ (c_rng (xs (i0 + 3))) (fun x3r => ?_)
  rw [hx3] at x3r
  obtain ⟨x4, hx4⟩ : ∃ z, (xs (i0 + 4)).toInt = z := ⟨_, rfl⟩
  refine hv_ (c_rng (xs (i0 + 4))) (fun x4r => ?_)
  rw [hx4] at x4r
  obtain ⟨x5, hx5⟩ : ∃ z, (xs (i0 + 5)).toInt = z := ⟨_, rfl⟩
  refine hv_ (c_rng (xs (i0 + 5))) (fun x5r => ?_)
  rw [hx5] at x5r
  obtain ⟨x6, hx6⟩ : ∃ z, (xs (i0 + 6)).toInt = z := ⟨_, rfl⟩
  refine hv_ (c_rng (xs (i0 + 6))) (fun x6r => ?_)
  rw [hx6] at x6r
  obtain ⟨x7, hx7⟩ : ∃ z, (xs (i0 + 7)).toInt = z := ⟨_, rfl⟩
  refine hv_ (c_rng (xs (i0 + 7))) (fun x7r => ?_)
  rw [hx7] at x7r
  refine hv_ (iv_P hI) (fun hP => (hv_ (iv_Q hI) (fun hQ => (hv_ (rl_t hR) (fun hT => (hv_ (rl_u hR) (fun hU => ?_)))))))
  obtain ⟨n0, hn0⟩ : ∃ z, c P 0 = z := ⟨_, rfl⟩
  refine hv_ (p := c 41 20 = n0) ((rl_nums hR).1.symm.trans hn0) (fun hm0 => (hv_ (ir_p0_0 hI hP) (fun hr0 => ?_)))
  rw [hn0] at hr0
  obtain ⟨n1, hn1⟩ : ∃ z, c P 1 = z := ⟨_, rfl⟩
  refine hv_ (p := c 41 21 = n1) ((rl_nums hR).2.1.symm.trans hn1) (fun hm1 => (hv_ (ir_p0_1 hI hP) (fun hr1 => ?_)))
  rw [hn1] at hr1
  obtain ⟨n2, hn2⟩ : ∃ z, c P 2 = z := ⟨_, rfl⟩
  refine hv_ (p := c 41 22 = n2) ((rl_nums hR).2.2.1.symm.trans hn2) (fun hm2 => (hv_ (ir_p0_2 hI hP) (fun hr2 => ?_)))
  rw [hn2] at hr2
  obtain ⟨n3, hn3⟩ : ∃ z, c P 3 = z := ⟨_, rfl⟩
  refine hv_ (p := c 41 23 = n3) ((rl_nums hR).2.2.2.symm.trans hn3) (fun hm3 => (hv_ (ir_p0_3 hI hP) (fun hr3 => ?_)))
  rw [hn3] at hr3
  refine hv_ (rl_cnt2 hR) (fun hNcnt2 => (hv_ (rl_cnt2 hR) (fun hNcnt2 => (q_aload_n c_296_1035 rfl (q_aload_n c_296_1036 rfl (q_iload c_296_1037 rfl (q_iconst c_296_1039 (v_iadd (v := (i0 : Int) + 1) c_296_1040 rfl (v_scr (j := i0 + 1) c_296_1041 (by omega) (by omega) hL hx1 ?_)))))))))
  refine q_aload_n c_296_1042 rfl (q_call c_296_1043 rfl rfl rfl (q_aload_n c_280_0 rfl (q_iconst c_280_1 (q_aload_n c_280_2 rfl (q_iload_n c_280_3 rfl (hv_ (ir_0_12 hI) (fun h_1 => (hv_ (ir_0_13 hI) (fun h_2 => ?_)))))))))
  refine v_cv c_280_4 km_9_68 rfl rfl (Nat.le_of_ble_eq_true rfl) ⟨⟨rfl, rfl⟩, Nat.le_of_ble_eq_true rfl, rfl⟩ (Nat.le_of_ble_eq_true rfl) (Nat.le_of_ble_eq_true rfl) (s_128S (a1 := x1) hI (show (-2147483648) ≤ x1 ∧ x1 ≤ 2147483647 from ⟨by omega, by omega⟩) (fun c_3 hI_4 hF_5 h_6 h_7 h_8 => ?_) (fun c_9 y_12 hI_10 hF_11 hy_12 h_13 h_14 h_15 => ?_))
  · skip
    refine hv_ (ir_0_13 hI_4) (fun h_16 => (hv_ (ir_0_12 hI_4) (fun h_17 => (bk_thr (z := Int32.ofInt 1) rfl ⟨_, _, rfl⟩ rfl (bk_inl (q_istore c_296_1046 (Nat.le_of_ble_eq_true rfl) (q_aload_n c_296_1048 rfl (q_aload_n c_296_1049 rfl (q_iload c_296_1050 rfl ?_)))))))))
    refine q_iconst c_296_1052 (v_iadd (v := (i0 : Int) + 1) c_296_1053 rfl (v_scr (j := i0 + 1) c_296_1054 (by omega) (by omega) hL hx1 (hv_ (ir_42 hI 0) (fun h_18 => (hv_ (p := Hid (c_3 42 0 = c 42 0)) (hF_5 42 0 (fun q => q.elim (fun h => absurd h.1 (nn rfl)) (fun h => absurd h (nn rfl)))) (fun kn_19 => (hv_ (p := c_3 42 0 = c 42 0) ((hid kn_19)) (fun h_20 => (hv_ (ir_42 hI 1) (fun h_21 => (hv_ (p := Hid (c_3 42 1 = c 42 1)) (hF_5 42 1 (fun q => q.elim (fun h => absurd h.1 (nn rfl)) (fun h => absurd h (nn rfl)))) (fun kn_22 => ?_))))))))))))
    refine hv_ (p := c_3 42 1 = c 42 1) ((hid kn_22)) (fun h_23 => (v_cv c_296_1055 km_9_196 rfl rfl (Nat.le_of_ble_eq_true rfl) ⟨⟨rfl, rfl⟩, Nat.le_of_ble_eq_true rfl, rfl⟩ (Nat.le_of_ble_eq_true rfl) (Nat.le_of_ble_eq_true rfl) (s_230S (a1 := x1) hI_4 (show (-2147483648) ≤ x1 ∧ x1 ≤ 2147483647 from ⟨by first | (clear hT hNcnt2 h_1 h_2 h_16 h_17; omega) | omega, by first | (clear hT hNcnt2 h_1 h_2 h_16 h_17; omega) | omega⟩) (fun c_24 y_27 hI_25 hF_26 hy_27 h_28 => (bk_inl (hv_ (ir_42 hI_25 0) (fun h_29 => (hv_ (ir_42 hI_25 1) (fun h_30 => (q_istore c_296_1058 (Nat.le_of_ble_eq_true rfl) (q_goto (t := 1816) c_296_1060 rfl (Wp_ls [(4, vi (i0 : Int)), (3, .ref 67), (2, .ref 41), (1, .ref 0), (0, .ref a_SC)] (lsub_cons rfl (lsub_cons rfl (lsub_cons rfl (lsub_cons rfl (lsub_cons rfl lsub_nil))))) ?_))))))))))))
    refine hv_ (ir_1_3 hI) (fun h_31 => (hv_ (p := Hid (c_3 1 3 = c 1 3)) (hF_5 1 3 (fun q => q.elim (fun h => absurd h.1 (nn rfl)) (fun h => absurd h (nn rfl)))) (fun kn_32 => (hv_ (p := Hid (c_24 1 3 = c 1 3)) ((hF_26 1 3 qn_39cd18c3e).trans (hid kn_32)) (fun kn_33 => (hv_ (p := c_24 1 3 = c 1 3) ((hid kn_33)) (fun h_34 => (hv_ (ir_41_2 hI) (fun h_35 => (hv_ (p := Hid (c_3 41 2 = c 41 2)) (hF_5 41 2 (fun q => q.elim (fun h => absurd h.1 (nn rfl)) (fun h => absurd h (nn rfl)))) (fun kn_36 => (hv_ (p := Hid (c_24 41 2 = c 41 2)) ((hF_26 41 2 qn_53bdb2099).trans (hid kn_36)) (fun kn_37 => (hv_ (p := c_24 41 2 = c 41 2) ((hid kn_37)) (fun h_38 => ?_)))))))))))))))
    refine hv_ (p := Hid (c_3 P 0 = n0)) ((hF_5 P 0 (qn_e391c0369 hP)).trans (hn0)) (fun kn_39 => (hv_ (p := Hid (c_24 P 0 = n0)) ((hF_26 P 0 (qn_857752076 hP)).trans (hid kn_39)) (fun kn_40 => (hv_ (p := c_24 P 0 = n0) ((hid kn_40)) (fun h_41 => (hv_ (p := Hid (c_3 41 20 = n0)) ((hF_5 41 20 (fun q => q.elim (fun h => absurd h.1 (nn rfl)) (fun h => absurd h (nn rfl)))).trans (hm0)) (fun kn_42 => (hv_ (p := Hid (c_24 41 20 = n0)) ((hF_26 41 20 qn_110b29ed6).trans (hid kn_42)) (fun kn_43 => (hv_ (p := c_24 41 20 = n0) ((hid kn_43)) (fun h_44 => (hv_ (p := Hid (c_3 P 1 = n1)) ((hF_5 P 1 (qn_e391c0369 hP)).trans (hn1)) (fun kn_45 => (hv_ (p := Hid (c_24 P 1 = n1)) ((hF_26 P 1 (qn_857752076 hP)).trans (hid kn_45)) (fun kn_46 => ?_)))))))))))))))
    refine hv_ (p := c_24 P 1 = n1) ((hid kn_46)) (fun h_47 => (hv_ (p := Hid (c_3 41 21 = n1)) ((hF_5 41 21 (fun q => q.elim (fun h => absurd h.1 (nn rfl)) (fun h => absurd h (nn rfl)))).trans (hm1)) (fun kn_48 => (hv_ (p := Hid (c_24 41 21 = n1)) ((hF_26 41 21 qn_561064c41).trans (hid kn_48)) (fun kn_49 => (hv_ (p := c_24 41 21 = n1) ((hid kn_49)) (fun h_50 => (hv_ (p := Hid (c_3 P 2 = n2)) ((hF_5 P 2 (qn_e391c0369 hP)).trans (hn2)) (fun kn_51 => (hv_ (p := Hid (c_24 P 2 = n2)) ((hF_26 P 2 (qn_857752076 hP)).trans (hid kn_51)) (fun kn_52 => (hv_ (p := c_24 P 2 = n2) ((hid kn_52)) (fun h_53 => (hv_ (p := Hid (c_3 41 22 = n2)) ((hF_5 41 22 (fun q => q.elim (fun h => absurd h.1 (nn rfl)) (fun h => absurd h (nn rfl)))).trans (hm2)) (fun kn_54 => ?_)))))))))))))))
    refine hv_ (p := Hid (c_24 41 22 = n2)) ((hF_26 41 22 qn_1a460b46b).trans (hid kn_54)) (fun kn_55 => (hv_ (p := c_24 41 22 = n2) ((hid kn_55)) (fun h_56 => (hv_ (p := Hid (c_3 P 3 = n3)) ((hF_5 P 3 (qn_e391c0369 hP)).trans (hn3)) (fun kn_57 => (hv_ (p := Hid (c_24 P 3 = n3)) ((hF_26 P 3 (qn_857752076 hP)).trans (hid kn_57)) (fun kn_58 => (hv_ (p := c_24 P 3 = n3) ((hid kn_58)) (fun h_59 => (hv_ (p := Hid (c_3 41 23 = n3)) ((hF_5 41 23 (fun q => q.elim (fun h => absurd h.1 (nn rfl)) (fun h => absurd h (nn rfl)))).trans (hm3)) (fun kn_60 => (hv_ (p := Hid (c_24 41 23 = n3)) ((hF_26 41 23 qn_b79f282cd).trans (hid kn_60)) (fun kn_61 => (hv_ (p := c_24 41 23 = n3) ((hid kn_61)) (fun h_62 => ?_)))))))))))))))
    refine hv_ (p := Hid (c_3 0 12 = c 0 12)) (hF_5 0 12 (fun q => q.elim (fun h => absurd h.2 (ni rfl)) (fun h => absurd h (nn rfl)))) (fun kn_63 => (hv_ (p := Hid (c_24 0 12 = c 0 12)) ((hF_26 0 12 qn_666ded271).trans (hid kn_63)) (fun kn_64 => (hv_ (p := c_24 0 12 = c 0 12) ((hid kn_64)) (fun h_65 => (hv_ (p := c_24 42 0 = c_24 42 0) (rfl) (fun h_66 => (hv_ (p := Hid (c_24 0 13 = c_3 0 13)) (hF_26 0 13 qn_666ded271) (fun kn_67 => (hv_ (p := c_24 0 13 = c_3 0 13) ((hid kn_67)) (fun h_68 => (hv_ (p := c_24 42 1 = c_24 42 1) (rfl) (fun h_69 => ?_)))))))))))))
    exact K P Q c_24 1 (of_decide_eq_true rfl) hI_25 ⟨by omega, ub_fr hU (fun j => (hF_26 2 j qn_2ad67e194).trans (hF_5 2 j (fun q => q.elim (fun h => absurd h.1 (nn rfl)) (fun h => absurd h (nn rfl))))) (fun j => (hF_26 43 j qn_1520ff5e3).trans (hF_5 43 j (fun q => q.elim (fun h => absurd h.1 (nn rfl)) (fun h => absurd h (nn rfl))))), ⟨by omega, by omega, by omega, by omega⟩, ⟨by omega, by omega⟩⟩
  refine bk_inl (hv_ (ir_0_12 hI_10) (fun h_70 => (hv_ (ir_0_13 hI_10) (fun h_71 => (v_i2l c_280_7 (by omega) (v_ls c_280_8 rfl (of_decide_eq_true rfl) (of_decide_eq_true rfl) (of_decide_eq_true rfl) (q_goto (t := 15) c_280_9 rfl (q_iconst c_280_15 (q_iret c_280_16 rfl ?_)))))))))
  refine bk_inl (q_istore c_296_1046 (Nat.le_of_ble_eq_true rfl) (q_aload_n c_296_1048 rfl (q_aload_n c_296_1049 rfl (q_iload c_296_1050 rfl (q_iconst c_296_1052 (v_iadd (v := (i0 : Int) + 1) c_296_1053 rfl (v_scr (j := i0 + 1) c_296_1054 (by omega) (by omega) hL hx1 ?_)))))))
  refine hv_ (iw_lx (a := 67) (j := 0) (v := y_12) hI_10 (by omega)) (fun hI_72 => (hv_ (ir_42 hI 0) (fun h_73 => (hv_ (p := Hid (c_9 42 0 = c 42 0)) (hF_11 42 0 (fun q => q.elim (fun h => absurd h.1 (nn rfl)) (fun h => absurd h (nn rfl)))) (fun kn_74 => (hv_ (p := (up c_9 67 0 y_12) 42 0 = c 42 0) (((up_c (nn rfl)).trans (hid kn_74))) (fun h_75 => (hv_ (ir_42 hI 1) (fun h_76 => (hv_ (p := Hid (c_9 42 1 = c 42 1)) (hF_11 42 1 (fun q => q.elim (fun h => absurd h.1 (nn rfl)) (fun h => absurd h (nn rfl)))) (fun kn_77 => (hv_ (p := (up c_9 67 0 y_12) 42 1 = c 42 1) (((up_c (nn rfl)).trans (hid kn_77))) (fun h_78 => (v_cv c_296_1055 km_9_196 rfl rfl (Nat.le_of_ble_eq_true rfl) ⟨⟨rfl, rfl⟩, Nat.le_of_ble_eq_true rfl, rfl⟩ (Nat.le_of_ble_eq_true rfl) (Nat.le_of_ble_eq_true rfl) (s_230S (a1 := x1) hI_72 (show (-2147483648) ≤ x1 ∧ x1 ≤ 2147483647 from ⟨by first | exact q_946aba308 h_13 | omega, by first | exact q_fe021046e h_13 | omega⟩) (fun c_79 y_82 hI_80 hF_81 hy_82 h_83 => ?_))))))))))))))))
  refine bk_inl (hv_ (ir_42 hI_80 0) (fun h_84 => (hv_ (ir_42 hI_80 1) (fun h_85 => (q_istore c_296_1058 (Nat.le_of_ble_eq_true rfl) (q_goto (t := 1816) c_296_1060 rfl (Wp_ls [(4, vi (i0 : Int)), (3, .ref 67), (2, .ref 41), (1, .ref 0), (0, .ref a_SC)] (lsub_cons rfl (lsub_cons rfl (lsub_cons rfl (lsub_cons rfl (lsub_cons rfl lsub_nil))))) (hv_ (ir_1_3 hI) (fun h_86 => (hv_ (p := Hid (c_9 1 3 = c 1 3)) (hF_11 1 3 (fun q => q.elim (fun h => absurd h.1 (nn rfl)) (fun h => absurd h (nn rfl)))) (fun kn_87 => ?_)))))))))))
  refine hv_ (p := Hid (c_79 1 3 = c 1 3)) ((hF_81 1 3 qn_39cd18c3e).trans ((up_c (nn rfl)).trans (hid kn_87))) (fun kn_88 => (hv_ (p := c_79 1 3 = c 1 3) ((hid kn_88)) (fun h_89 => (hv_ (ir_41_2 hI) (fun h_90 => (hv_ (p := Hid (c_9 41 2 = c 41 2)) (hF_11 41 2 (fun q => q.elim (fun h => absurd h.1 (nn rfl)) (fun h => absurd h (nn rfl)))) (fun kn_91 => (hv_ (p := Hid (c_79 41 2 = c 41 2)) ((hF_81 41 2 qn_53bdb2099).trans ((up_c (nn rfl)).trans (hid kn_91))) (fun kn_92 => (hv_ (p := c_79 41 2 = c 41 2) ((hid kn_92)) (fun h_93 => (hv_ (p := Hid (c_9 P 0 = n0)) ((hF_11 P 0 (qn_e391c0369 hP)).trans (hn0)) (fun kn_94 => (hv_ (p := Hid (c_79 P 0 = n0)) ((hF_81 P 0 (qn_857752076 hP)).trans ((up_c (np0 hP rfl)).trans (hid kn_94))) (fun kn_95 => ?_)))))))))))))))
  refine hv_ (p := c_79 P 0 = n0) ((hid kn_95)) (fun h_96 => (hv_ (p := Hid (c_9 41 20 = n0)) ((hF_11 41 20 (fun q => q.elim (fun h => absurd h.1 (nn rfl)) (fun h => absurd h (nn rfl)))).trans (hm0)) (fun kn_97 => (hv_ (p := Hid (c_79 41 20 = n0)) ((hF_81 41 20 qn_110b29ed6).trans ((up_c (nn rfl)).trans (hid kn_97))) (fun kn_98 => (hv_ (p := c_79 41 20 = n0) ((hid kn_98)) (fun h_99 => (hv_ (p := Hid (c_9 P 1 = n1)) ((hF_11 P 1 (qn_e391c0369 hP)).trans (hn1)) (fun kn_100 => (hv_ (p := Hid (c_79 P 1 = n1)) ((hF_81 P 1 (qn_857752076 hP)).trans ((up_c (np0 hP rfl)).trans (hid kn_100))) (fun kn_101 => (hv_ (p := c_79 P 1 = n1) ((hid kn_101)) (fun h_102 => (hv_ (p := Hid (c_9 41 21 = n1)) ((hF_11 41 21 (fun q => q.elim (fun h => absurd h.1 (nn rfl)) (fun h => absurd h (nn rfl)))).trans (hm1)) (fun kn_103 => ?_)))))))))))))))
  refine hv_ (p := Hid (c_79 41 21 = n1)) ((hF_81 41 21 qn_561064c41).trans ((up_c (nn rfl)).trans (hid kn_103))) (fun kn_104 => (hv_ (p := c_79 41 21 = n1) ((hid kn_104)) (fun h_105 => (hv_ (p := Hid (c_9 P 2 = n2)) ((hF_11 P 2 (qn_e391c0369 hP)).trans (hn2)) (fun kn_106 => (hv_ (p := Hid (c_79 P 2 = n2)) ((hF_81 P 2 (qn_857752076 hP)).trans ((up_c (np0 hP rfl)).trans (hid kn_106))) (fun kn_107 => (hv_ (p := c_79 P 2 = n2) ((hid kn_107)) (fun h_108 => (hv_ (p := Hid (c_9 41 22 = n2)) ((hF_11 41 22 (fun q => q.elim (fun h => absurd h.1 (nn rfl)) (fun h => absurd h (nn rfl)))).trans (hm2)) (fun kn_109 => (hv_ (p := Hid (c_79 41 22 = n2)) ((hF_81 41 22 qn_1a460b46b).trans ((up_c (nn rfl)).trans (hid kn_109))) (fun kn_110 => (hv_ (p := c_79 41 22 = n2) ((hid kn_110)) (fun h_111 => ?_)))))))))))))))
  refine hv_ (p := Hid (c_9 P 3 = n3)) ((hF_11 P 3 (qn_e391c0369 hP)).trans (hn3)) (fun kn_112 => (hv_ (p := Hid (c_79 P 3 = n3)) ((hF_81 P 3 (qn_857752076 hP)).trans ((up_c (np0 hP rfl)).trans (hid kn_112))) (fun kn_113 => (hv_ (p := c_79 P 3 = n3) ((hid kn_113)) (fun h_114 => (hv_ (p := Hid (c_9 41 23 = n3)) ((hF_11 41 23 (fun q => q.elim (fun h => absurd h.1 (nn rfl)) (fun h => absurd h (nn rfl)))).trans (hm3)) (fun kn_115 => (hv_ (p := Hid (c_79 41 23 = n3)) ((hF_81 41 23 qn_b79f282cd).trans ((up_c (nn rfl)).trans (hid kn_115))) (fun kn_116 => (hv_ (p := c_79 41 23 = n3) ((hid kn_116)) (fun h_117 => (hv_ (p := Hid (c_9 0 12 = c 0 12)) (hF_11 0 12 (fun q => q.elim (fun h => absurd h.2 (ni rfl)) (fun h => absurd h (nn rfl)))) (fun kn_118 => (hv_ (p := Hid (c_79 0 12 = c 0 12)) ((hF_81 0 12 qn_666ded271).trans ((up_c (nn rfl)).trans (hid kn_118))) (fun kn_119 => ?_)))))))))))))))
  refine hv_ (p := c_79 0 12 = c 0 12) ((hid kn_119)) (fun h_120 => (hv_ (p := c_79 42 0 = c_79 42 0) (rfl) (fun h_121 => (hv_ (p := Hid (c_79 0 13 = c_9 0 13)) ((hF_81 0 13 qn_666ded271).trans (up_c (nn rfl))) (fun kn_122 => (hv_ (p := c_79 0 13 = c_9 0 13) ((hid kn_122)) (fun h_123 => (hv_ (p := c_79 42 1 = c_79 42 1) (rfl) (fun h_124 => ?_)))))))))
  exact K P Q c_79 0 (of_decide_eq_true rfl) hI_80 ⟨by omega, ub_fr hU (fun j => (hF_81 2 j qn_2ad67e194).trans ((up_c (nn rfl)).trans (hF_11 2 j (fun q => q.elim (fun h => absurd h.1 (nn rfl)) (fun h => absurd h (nn rfl)))))) (fun j => (hF_81 43 j qn_1520ff5e3).trans ((up_c (nn rfl)).trans (hF_11 43 j (fun q => q.elim (fun h => absurd h.1 (nn rfl)) (fun h => absurd h (nn rfl)))))), ⟨by omega, by omega, by omega, by omega⟩, ⟨by omega, by omega⟩⟩

