/-! ===== the calls of the law 2 ===== -/
theorem qn_753ab1e1a {P : Nat} {j : Int} (hP : P = 13 ∨ P = 25) : ¬ ((P = 41 ∧ j = 0) ∨ P = 42) := (fun q => q.elim (fun h => absurd h.1 (np0 hP rfl)) (fun h => absurd h (np0 hP rfl)))
theorem qn_0dbc1df78 {P : Nat} {j : Int} (hP : P = 13 ∨ P = 25) : ¬ (((1 : Nat) = 0 ∧ j = 12) ∨ (1 : Nat) = (P + 10) ∨ (1 : Nat) = (P + 11)) := (fun q => q.elim (fun h => absurd h.1 (nn rfl)) (fun q => q.elim (fun h => absurd h (pn hP rfl rfl)) (fun h => absurd h (pn hP rfl rfl))))
theorem qn_44683f5fa {j : Int} : ¬ (((1 : Nat) = 41 ∧ j = 0) ∨ (1 : Nat) = 42 ∨ (1 : Nat) = 59 ∨ (1 : Nat) = 54 ∨ (1 : Nat) = 55) := (fun q => q.elim (fun h => absurd h.1 (nn rfl)) (fun q => q.elim (fun h => absurd h (nn rfl)) (fun q => q.elim (fun h => absurd h (nn rfl)) (fun q => q.elim (fun h => absurd h (nn rfl)) (fun h => absurd h (nn rfl))))))
theorem qn_384c17487 {P : Nat} {j : Int} (hP : P = 13 ∨ P = 25) : ¬ (((41 : Nat) = 0 ∧ j = 12) ∨ (41 : Nat) = (P + 10) ∨ (41 : Nat) = (P + 11)) := (fun q => q.elim (fun h => absurd h.1 (nn rfl)) (fun q => q.elim (fun h => absurd h (pn hP rfl rfl)) (fun h => absurd h (pn hP rfl rfl))))
theorem qn_7a112a690 : ¬ (((41 : Nat) = 41 ∧ (2 : Int) = 0) ∨ (41 : Nat) = 42 ∨ (41 : Nat) = 59 ∨ (41 : Nat) = 54 ∨ (41 : Nat) = 55) := (fun q => q.elim (fun h => absurd h.2 (ni rfl)) (fun q => q.elim (fun h => absurd h (nn rfl)) (fun q => q.elim (fun h => absurd h (nn rfl)) (fun q => q.elim (fun h => absurd h (nn rfl)) (fun h => absurd h (nn rfl))))))
theorem qn_d6466f82c {P : Nat} {j : Int} (hP : P = 13 ∨ P = 25) : ¬ ((P = 0 ∧ j = 12) ∨ P = (P + 10) ∨ P = (P + 11)) := (fun q => q.elim (fun h => absurd h.1 (np0 hP rfl)) (fun q => q.elim (fun h => absurd h (p0p rfl)) (fun h => absurd h (p0p rfl))))
theorem qn_70fec742f {P : Nat} {j : Int} (hP : P = 13 ∨ P = 25) : ¬ ((P = 41 ∧ j = 0) ∨ P = 42 ∨ P = 59 ∨ P = 54 ∨ P = 55) := (fun q => q.elim (fun h => absurd h.1 (np0 hP rfl)) (fun q => q.elim (fun h => absurd h (np0 hP rfl)) (fun q => q.elim (fun h => absurd h (np0 hP rfl)) (fun q => q.elim (fun h => absurd h (np0 hP rfl)) (fun h => absurd h (np0 hP rfl))))))
theorem qn_2dba34809 : ¬ (((41 : Nat) = 41 ∧ (21 : Int) = 0) ∨ (41 : Nat) = 42 ∨ (41 : Nat) = 59 ∨ (41 : Nat) = 54 ∨ (41 : Nat) = 55) := (fun q => q.elim (fun h => absurd h.2 (ni rfl)) (fun q => q.elim (fun h => absurd h (nn rfl)) (fun q => q.elim (fun h => absurd h (nn rfl)) (fun q => q.elim (fun h => absurd h (nn rfl)) (fun h => absurd h (nn rfl))))))
theorem qn_0d1137165 : ¬ (((41 : Nat) = 41 ∧ (22 : Int) = 0) ∨ (41 : Nat) = 42 ∨ (41 : Nat) = 59 ∨ (41 : Nat) = 54 ∨ (41 : Nat) = 55) := (fun q => q.elim (fun h => absurd h.2 (ni rfl)) (fun q => q.elim (fun h => absurd h (nn rfl)) (fun q => q.elim (fun h => absurd h (nn rfl)) (fun q => q.elim (fun h => absurd h (nn rfl)) (fun h => absurd h (nn rfl))))))
theorem qn_ca1c2b99e : ¬ (((41 : Nat) = 41 ∧ (23 : Int) = 0) ∨ (41 : Nat) = 42 ∨ (41 : Nat) = 59 ∨ (41 : Nat) = 54 ∨ (41 : Nat) = 55) := (fun q => q.elim (fun h => absurd h.2 (ni rfl)) (fun q => q.elim (fun h => absurd h (nn rfl)) (fun q => q.elim (fun h => absurd h (nn rfl)) (fun q => q.elim (fun h => absurd h (nn rfl)) (fun h => absurd h (nn rfl))))))
theorem qn_21835dca5 {P : Nat} {j : Int} (hP : P = 13 ∨ P = 25) : ¬ (((3 : Nat) = 0 ∧ j = 12) ∨ (3 : Nat) = (P + 10) ∨ (3 : Nat) = (P + 11)) := (fun q => q.elim (fun h => absurd h.1 (nn rfl)) (fun q => q.elim (fun h => absurd h (pn hP rfl rfl)) (fun h => absurd h (pn hP rfl rfl))))
theorem qn_85f7f5516 {j : Int} : ¬ (((3 : Nat) = 41 ∧ j = 0) ∨ (3 : Nat) = 42 ∨ (3 : Nat) = 59 ∨ (3 : Nat) = 54 ∨ (3 : Nat) = 55) := (fun q => q.elim (fun h => absurd h.1 (nn rfl)) (fun q => q.elim (fun h => absurd h (nn rfl)) (fun q => q.elim (fun h => absurd h (nn rfl)) (fun q => q.elim (fun h => absurd h (nn rfl)) (fun h => absurd h (nn rfl))))))
theorem qn_23bb338dd : ¬ (((41 : Nat) = 41 ∧ (52 : Int) = 0) ∨ (41 : Nat) = 42 ∨ (41 : Nat) = 59 ∨ (41 : Nat) = 54 ∨ (41 : Nat) = 55) := (fun q => q.elim (fun h => absurd h.2 (ni rfl)) (fun q => q.elim (fun h => absurd h (nn rfl)) (fun q => q.elim (fun h => absurd h (nn rfl)) (fun q => q.elim (fun h => absurd h (nn rfl)) (fun h => absurd h (nn rfl))))))
theorem qn_8b6342d8f : ¬ (((41 : Nat) = 41 ∧ (35 : Int) = 0) ∨ (41 : Nat) = 42 ∨ (41 : Nat) = 59 ∨ (41 : Nat) = 54 ∨ (41 : Nat) = 55) := (fun q => q.elim (fun h => absurd h.2 (ni rfl)) (fun q => q.elim (fun h => absurd h (nn rfl)) (fun q => q.elim (fun h => absurd h (nn rfl)) (fun q => q.elim (fun h => absurd h (nn rfl)) (fun h => absurd h (nn rfl))))))
theorem qn_fa94fa4d3 : ¬ (((41 : Nat) = 41 ∧ (8 : Int) = 0) ∨ (41 : Nat) = 42 ∨ (41 : Nat) = 59 ∨ (41 : Nat) = 54 ∨ (41 : Nat) = 55) := (fun q => q.elim (fun h => absurd h.2 (ni rfl)) (fun q => q.elim (fun h => absurd h (nn rfl)) (fun q => q.elim (fun h => absurd h (nn rfl)) (fun q => q.elim (fun h => absurd h (nn rfl)) (fun h => absurd h (nn rfl))))))
theorem qn_d0e66b3bf {j : Int} : ¬ (((2 : Nat) = 41 ∧ j = 0) ∨ (2 : Nat) = 42 ∨ (2 : Nat) = 59 ∨ (2 : Nat) = 54 ∨ (2 : Nat) = 55) := (fun q => q.elim (fun h => absurd h.1 (nn rfl)) (fun q => q.elim (fun h => absurd h (nn rfl)) (fun q => q.elim (fun h => absurd h (nn rfl)) (fun q => q.elim (fun h => absurd h (nn rfl)) (fun h => absurd h (nn rfl))))))
theorem qn_371ad3962 {P : Nat} {j : Int} (hP : P = 13 ∨ P = 25) : ¬ (((2 : Nat) = 0 ∧ j = 12) ∨ (2 : Nat) = (P + 10) ∨ (2 : Nat) = (P + 11)) := (fun q => q.elim (fun h => absurd h.1 (nn rfl)) (fun q => q.elim (fun h => absurd h (pn hP rfl rfl)) (fun h => absurd h (pn hP rfl rfl))))
theorem qn_5a77d9750 {j : Int} : ¬ (((43 : Nat) = 41 ∧ j = 0) ∨ (43 : Nat) = 42 ∨ (43 : Nat) = 59 ∨ (43 : Nat) = 54 ∨ (43 : Nat) = 55) := (fun q => q.elim (fun h => absurd h.1 (nn rfl)) (fun q => q.elim (fun h => absurd h (nn rfl)) (fun q => q.elim (fun h => absurd h (nn rfl)) (fun q => q.elim (fun h => absurd h (nn rfl)) (fun h => absurd h (nn rfl))))))
theorem qn_e10256050 {P : Nat} {j : Int} (hP : P = 13 ∨ P = 25) : ¬ (((43 : Nat) = 0 ∧ j = 12) ∨ (43 : Nat) = (P + 10) ∨ (43 : Nat) = (P + 11)) := (fun q => q.elim (fun h => absurd h.1 (nn rfl)) (fun q => q.elim (fun h => absurd h (pn hP rfl rfl)) (fun h => absurd h (pn hP rfl rfl))))
theorem qn_1f8406493 {j : Int} : ¬ (((6 : Nat) = 41 ∧ j = 0) ∨ (6 : Nat) = 42 ∨ (6 : Nat) = 59 ∨ (6 : Nat) = 54 ∨ (6 : Nat) = 55) := (fun q => q.elim (fun h => absurd h.1 (nn rfl)) (fun q => q.elim (fun h => absurd h (nn rfl)) (fun q => q.elim (fun h => absurd h (nn rfl)) (fun q => q.elim (fun h => absurd h (nn rfl)) (fun h => absurd h (nn rfl))))))
theorem qn_ddbfaded9 {P : Nat} {j : Int} (hP : P = 13 ∨ P = 25) : ¬ (((6 : Nat) = 0 ∧ j = 12) ∨ (6 : Nat) = (P + 10) ∨ (6 : Nat) = (P + 11)) := (fun q => q.elim (fun h => absurd h.1 (nn rfl)) (fun q => q.elim (fun h => absurd h (pn hP rfl rfl)) (fun h => absurd h (pn hP rfl rfl))))
theorem qn_02ce421cc {j : Int} : ¬ (((66 : Nat) = 41 ∧ j = 0) ∨ (66 : Nat) = 42 ∨ (66 : Nat) = 59 ∨ (66 : Nat) = 54 ∨ (66 : Nat) = 55) := (fun q => q.elim (fun h => absurd h.1 (nn rfl)) (fun q => q.elim (fun h => absurd h (nn rfl)) (fun q => q.elim (fun h => absurd h (nn rfl)) (fun q => q.elim (fun h => absurd h (nn rfl)) (fun h => absurd h (nn rfl))))))
theorem qn_d954d0eec {P : Nat} {j : Int} (hP : P = 13 ∨ P = 25) : ¬ (((66 : Nat) = 0 ∧ j = 12) ∨ (66 : Nat) = (P + 10) ∨ (66 : Nat) = (P + 11)) := (fun q => q.elim (fun h => absurd h.1 (nn rfl)) (fun q => q.elim (fun h => absurd h (pn hP rfl rfl)) (fun h => absurd h (pn hP rfl rfl))))
theorem qn_573365727 {P : Nat} {j : Int} (hP : P = 13 ∨ P = 25) : ¬ (((1 : Nat) = 0 ∧ j = 13) ∨ (1 : Nat) = (P + 10) ∨ (1 : Nat) = (P + 11)) := (fun q => q.elim (fun h => absurd h.1 (nn rfl)) (fun q => q.elim (fun h => absurd h (pn hP rfl rfl)) (fun h => absurd h (pn hP rfl rfl))))
theorem qn_37c5d22e3 {j : Int} : ¬ (((1 : Nat) = 41 ∧ j = 0) ∨ (1 : Nat) = 42 ∨ (1 : Nat) = 54 ∨ (1 : Nat) = 55) := (fun q => q.elim (fun h => absurd h.1 (nn rfl)) (fun q => q.elim (fun h => absurd h (nn rfl)) (fun q => q.elim (fun h => absurd h (nn rfl)) (fun h => absurd h (nn rfl)))))
theorem qn_69be8c781 {P : Nat} {j : Int} (hP : P = 13 ∨ P = 25) : ¬ (((41 : Nat) = 0 ∧ j = 13) ∨ (41 : Nat) = (P + 10) ∨ (41 : Nat) = (P + 11)) := (fun q => q.elim (fun h => absurd h.1 (nn rfl)) (fun q => q.elim (fun h => absurd h (pn hP rfl rfl)) (fun h => absurd h (pn hP rfl rfl))))
theorem qn_8a9509c06 : ¬ (((41 : Nat) = 41 ∧ (2 : Int) = 0) ∨ (41 : Nat) = 42 ∨ (41 : Nat) = 54 ∨ (41 : Nat) = 55) := (fun q => q.elim (fun h => absurd h.2 (ni rfl)) (fun q => q.elim (fun h => absurd h (nn rfl)) (fun q => q.elim (fun h => absurd h (nn rfl)) (fun h => absurd h (nn rfl)))))
theorem qn_7262c0794 {P : Nat} {j : Int} (hP : P = 13 ∨ P = 25) : ¬ ((P = 41 ∧ j = 0) ∨ P = 42 ∨ P = 54 ∨ P = 55) := (fun q => q.elim (fun h => absurd h.1 (np0 hP rfl)) (fun q => q.elim (fun h => absurd h (np0 hP rfl)) (fun q => q.elim (fun h => absurd h (np0 hP rfl)) (fun h => absurd h (np0 hP rfl)))))
theorem qn_635eb2508 : ¬ (((41 : Nat) = 41 ∧ (20 : Int) = 0) ∨ (41 : Nat) = 42 ∨ (41 : Nat) = 54 ∨ (41 : Nat) = 55) := (fun q => q.elim (fun h => absurd h.2 (ni rfl)) (fun q => q.elim (fun h => absurd h (nn rfl)) (fun q => q.elim (fun h => absurd h (nn rfl)) (fun h => absurd h (nn rfl)))))
theorem qn_a2a3c278c : ¬ (((41 : Nat) = 41 ∧ (21 : Int) = 0) ∨ (41 : Nat) = 42 ∨ (41 : Nat) = 54 ∨ (41 : Nat) = 55) := (fun q => q.elim (fun h => absurd h.2 (ni rfl)) (fun q => q.elim (fun h => absurd h (nn rfl)) (fun q => q.elim (fun h => absurd h (nn rfl)) (fun h => absurd h (nn rfl)))))
theorem qn_b0cd305d3 : ¬ (((41 : Nat) = 41 ∧ (22 : Int) = 0) ∨ (41 : Nat) = 42 ∨ (41 : Nat) = 54 ∨ (41 : Nat) = 55) := (fun q => q.elim (fun h => absurd h.2 (ni rfl)) (fun q => q.elim (fun h => absurd h (nn rfl)) (fun q => q.elim (fun h => absurd h (nn rfl)) (fun h => absurd h (nn rfl)))))
theorem qn_b2ba88a22 : ¬ (((41 : Nat) = 41 ∧ (23 : Int) = 0) ∨ (41 : Nat) = 42 ∨ (41 : Nat) = 54 ∨ (41 : Nat) = 55) := (fun q => q.elim (fun h => absurd h.2 (ni rfl)) (fun q => q.elim (fun h => absurd h (nn rfl)) (fun q => q.elim (fun h => absurd h (nn rfl)) (fun h => absurd h (nn rfl)))))
theorem qn_9e88b668d {P : Nat} {j : Int} (hP : P = 13 ∨ P = 25) : ¬ (((3 : Nat) = 0 ∧ j = 13) ∨ (3 : Nat) = (P + 10) ∨ (3 : Nat) = (P + 11)) := (fun q => q.elim (fun h => absurd h.1 (nn rfl)) (fun q => q.elim (fun h => absurd h (pn hP rfl rfl)) (fun h => absurd h (pn hP rfl rfl))))
theorem qn_a90c7a9fa {j : Int} : ¬ (((3 : Nat) = 41 ∧ j = 0) ∨ (3 : Nat) = 42 ∨ (3 : Nat) = 54 ∨ (3 : Nat) = 55) := (fun q => q.elim (fun h => absurd h.1 (nn rfl)) (fun q => q.elim (fun h => absurd h (nn rfl)) (fun q => q.elim (fun h => absurd h (nn rfl)) (fun h => absurd h (nn rfl)))))
theorem qn_e4aeebe12 : ¬ (((41 : Nat) = 41 ∧ (52 : Int) = 0) ∨ (41 : Nat) = 42 ∨ (41 : Nat) = 54 ∨ (41 : Nat) = 55) := (fun q => q.elim (fun h => absurd h.2 (ni rfl)) (fun q => q.elim (fun h => absurd h (nn rfl)) (fun q => q.elim (fun h => absurd h (nn rfl)) (fun h => absurd h (nn rfl)))))
theorem qn_66adce4f0 : ¬ (((41 : Nat) = 41 ∧ (35 : Int) = 0) ∨ (41 : Nat) = 42 ∨ (41 : Nat) = 54 ∨ (41 : Nat) = 55) := (fun q => q.elim (fun h => absurd h.2 (ni rfl)) (fun q => q.elim (fun h => absurd h (nn rfl)) (fun q => q.elim (fun h => absurd h (nn rfl)) (fun h => absurd h (nn rfl)))))
theorem qn_88eebcc97 : ¬ (((41 : Nat) = 41 ∧ (8 : Int) = 0) ∨ (41 : Nat) = 42 ∨ (41 : Nat) = 54 ∨ (41 : Nat) = 55) := (fun q => q.elim (fun h => absurd h.2 (ni rfl)) (fun q => q.elim (fun h => absurd h (nn rfl)) (fun q => q.elim (fun h => absurd h (nn rfl)) (fun h => absurd h (nn rfl)))))
theorem qn_e0cc749b3 {j : Int} : ¬ (((2 : Nat) = 41 ∧ j = 0) ∨ (2 : Nat) = 42 ∨ (2 : Nat) = 54 ∨ (2 : Nat) = 55) := (fun q => q.elim (fun h => absurd h.1 (nn rfl)) (fun q => q.elim (fun h => absurd h (nn rfl)) (fun q => q.elim (fun h => absurd h (nn rfl)) (fun h => absurd h (nn rfl)))))
theorem qn_aaebe4308 {P : Nat} {j : Int} (hP : P = 13 ∨ P = 25) : ¬ (((2 : Nat) = 0 ∧ j = 13) ∨ (2 : Nat) = (P + 10) ∨ (2 : Nat) = (P + 11)) := (fun q => q.elim (fun h => absurd h.1 (nn rfl)) (fun q => q.elim (fun h => absurd h (pn hP rfl rfl)) (fun h => absurd h (pn hP rfl rfl))))
theorem qn_53d487302 {j : Int} : ¬ (((43 : Nat) = 41 ∧ j = 0) ∨ (43 : Nat) = 42 ∨ (43 : Nat) = 54 ∨ (43 : Nat) = 55) := (fun q => q.elim (fun h => absurd h.1 (nn rfl)) (fun q => q.elim (fun h => absurd h (nn rfl)) (fun q => q.elim (fun h => absurd h (nn rfl)) (fun h => absurd h (nn rfl)))))
theorem qn_3e58b8819 {P : Nat} {j : Int} (hP : P = 13 ∨ P = 25) : ¬ (((43 : Nat) = 0 ∧ j = 13) ∨ (43 : Nat) = (P + 10) ∨ (43 : Nat) = (P + 11)) := (fun q => q.elim (fun h => absurd h.1 (nn rfl)) (fun q => q.elim (fun h => absurd h (pn hP rfl rfl)) (fun h => absurd h (pn hP rfl rfl))))
theorem qn_e6230f6f4 {j : Int} : ¬ (((6 : Nat) = 41 ∧ j = 0) ∨ (6 : Nat) = 42 ∨ (6 : Nat) = 54 ∨ (6 : Nat) = 55) := (fun q => q.elim (fun h => absurd h.1 (nn rfl)) (fun q => q.elim (fun h => absurd h (nn rfl)) (fun q => q.elim (fun h => absurd h (nn rfl)) (fun h => absurd h (nn rfl)))))
theorem qn_11fbaf786 {P : Nat} {j : Int} (hP : P = 13 ∨ P = 25) : ¬ (((6 : Nat) = 0 ∧ j = 13) ∨ (6 : Nat) = (P + 10) ∨ (6 : Nat) = (P + 11)) := (fun q => q.elim (fun h => absurd h.1 (nn rfl)) (fun q => q.elim (fun h => absurd h (pn hP rfl rfl)) (fun h => absurd h (pn hP rfl rfl))))
theorem qn_695ea80c1 {j : Int} : ¬ (((66 : Nat) = 41 ∧ j = 0) ∨ (66 : Nat) = 42 ∨ (66 : Nat) = 54 ∨ (66 : Nat) = 55) := (fun q => q.elim (fun h => absurd h.1 (nn rfl)) (fun q => q.elim (fun h => absurd h (nn rfl)) (fun q => q.elim (fun h => absurd h (nn rfl)) (fun h => absurd h (nn rfl)))))
theorem qn_1388626d2 {P : Nat} {j : Int} (hP : P = 13 ∨ P = 25) : ¬ (((66 : Nat) = 0 ∧ j = 13) ∨ (66 : Nat) = (P + 10) ∨ (66 : Nat) = (P + 11)) := (fun q => q.elim (fun h => absurd h.1 (nn rfl)) (fun q => q.elim (fun h => absurd h (pn hP rfl rfl)) (fun h => absurd h (pn hP rfl rfl))))
theorem qn_ab545a015 {j : Int} : ¬ (((1 : Nat) = 0 ∧ j = 12) ∨ ((1 : Nat) = 0 ∧ j = 13) ∨ (1 : Nat) = 40) := (fun q => q.elim (fun h => absurd h.1 (nn rfl)) (fun q => q.elim (fun h => absurd h.1 (nn rfl)) (fun h => absurd h (nn rfl))))
theorem qn_f6e9e9f23 {j : Int} : ¬ (((41 : Nat) = 0 ∧ j = 12) ∨ ((41 : Nat) = 0 ∧ j = 13) ∨ (41 : Nat) = 40) := (fun q => q.elim (fun h => absurd h.1 (nn rfl)) (fun q => q.elim (fun h => absurd h.1 (nn rfl)) (fun h => absurd h (nn rfl))))
theorem qn_2ab083081 {P : Nat} {j : Int} (hP : P = 13 ∨ P = 25) : ¬ ((P = 0 ∧ j = 12) ∨ (P = 0 ∧ j = 13) ∨ P = 40) := (fun q => q.elim (fun h => absurd h.1 (np0 hP rfl)) (fun q => q.elim (fun h => absurd h.1 (np0 hP rfl)) (fun h => absurd h (np0 hP rfl))))
theorem qn_342fc6b17 {j : Int} : ¬ (((3 : Nat) = 0 ∧ j = 12) ∨ ((3 : Nat) = 0 ∧ j = 13) ∨ (3 : Nat) = 40) := (fun q => q.elim (fun h => absurd h.1 (nn rfl)) (fun q => q.elim (fun h => absurd h.1 (nn rfl)) (fun h => absurd h (nn rfl))))
theorem qn_326a9cf27 {j : Int} : ¬ (((2 : Nat) = 0 ∧ j = 12) ∨ ((2 : Nat) = 0 ∧ j = 13) ∨ (2 : Nat) = 40) := (fun q => q.elim (fun h => absurd h.1 (nn rfl)) (fun q => q.elim (fun h => absurd h.1 (nn rfl)) (fun h => absurd h (nn rfl))))
theorem qn_dee8a76c5 {j : Int} : ¬ (((43 : Nat) = 0 ∧ j = 12) ∨ ((43 : Nat) = 0 ∧ j = 13) ∨ (43 : Nat) = 40) := (fun q => q.elim (fun h => absurd h.1 (nn rfl)) (fun q => q.elim (fun h => absurd h.1 (nn rfl)) (fun h => absurd h (nn rfl))))
theorem qn_3cac0bc66 {j : Int} : ¬ (((6 : Nat) = 0 ∧ j = 12) ∨ ((6 : Nat) = 0 ∧ j = 13) ∨ (6 : Nat) = 40) := (fun q => q.elim (fun h => absurd h.1 (nn rfl)) (fun q => q.elim (fun h => absurd h.1 (nn rfl)) (fun h => absurd h (nn rfl))))
theorem qn_c03dddd5c {j : Int} : ¬ (((66 : Nat) = 0 ∧ j = 12) ∨ ((66 : Nat) = 0 ∧ j = 13) ∨ (66 : Nat) = 40) := (fun q => q.elim (fun h => absurd h.1 (nn rfl)) (fun q => q.elim (fun h => absurd h.1 (nn rfl)) (fun h => absurd h (nn rfl))))
theorem c_296_495 : mLk 296 495 = some (.aload_n 1, 1) := rfl
theorem c_296_496 : mLk 296 496 = some (.aload_n 0, 1) := rfl
theorem c_296_497 : mLk 296 497 = some (.iload 4, 2) := rfl
theorem c_296_499 : mLk 296 499 = some (.iconst 1, 1) := rfl
theorem c_296_500 : mLk 296 500 = some (.iadd, 1) := rfl
theorem c_296_501 : mLk 296 501 = some (.iaload, 1) := rfl
theorem c_296_502 : mLk 296 502 = some (.aload_n 0, 1) := rfl
theorem c_296_503 : mLk 296 503 = some (.iload 4, 2) := rfl
theorem c_296_505 : mLk 296 505 = some (.iconst 2, 1) := rfl
theorem c_296_506 : mLk 296 506 = some (.iadd, 1) := rfl
theorem c_296_507 : mLk 296 507 = some (.iaload, 1) := rfl
theorem c_296_508 : mLk 296 508 = some (.aload_n 3, 1) := rfl
theorem c_296_509 : mLk 296 509 = some (.invokestatic 158, 3) := rfl
theorem c_269_0 : mLk 269 0 = some (.aload_n 3, 1) := rfl
theorem c_269_1 : mLk 269 1 = some (.iconst 0, 1) := rfl
theorem c_269_2 : mLk 269 2 = some (.aload_n 0, 1) := rfl
theorem c_269_3 : mLk 269 3 = some (.iload_n 1, 1) := rfl
theorem c_269_4 : mLk 269 4 = some (.iload_n 2, 1) := rfl
theorem c_269_5 : mLk 269 5 = some (.invokevirtual 30, 3) := rfl
theorem c_296_512 : mLk 296 512 = some (.istore 5, 2) := rfl
theorem c_296_514 : mLk 296 514 = some (.aload_n 2, 1) := rfl
theorem c_296_515 : mLk 296 515 = some (.aload_n 0, 1) := rfl
theorem c_296_516 : mLk 296 516 = some (.iload 4, 2) := rfl
theorem c_296_518 : mLk 296 518 = some (.iconst 1, 1) := rfl
theorem c_296_519 : mLk 296 519 = some (.iadd, 1) := rfl
theorem c_296_520 : mLk 296 520 = some (.iaload, 1) := rfl
theorem c_296_521 : mLk 296 521 = some (.aload_n 0, 1) := rfl
theorem c_296_522 : mLk 296 522 = some (.iload 4, 2) := rfl
theorem c_296_524 : mLk 296 524 = some (.iconst 2, 1) := rfl
theorem c_296_525 : mLk 296 525 = some (.iadd, 1) := rfl
theorem c_296_526 : mLk 296 526 = some (.iaload, 1) := rfl
theorem c_296_527 : mLk 296 527 = some (.invokevirtual 161, 3) := rfl
theorem c_296_530 : mLk 296 530 = some (.istore 6, 2) := rfl
theorem c_296_532 : mLk 296 532 = some (.goto 1284, 3) := rfl
theorem c_269_8 : mLk 269 8 = some (.i2l, 1) := rfl
theorem c_269_9 : mLk 269 9 = some (.lastore, 1) := rfl
theorem c_269_10 : mLk 269 10 = some (.goto 11, 3) := rfl
theorem c_269_21 : mLk 269 21 = some (.iconst 0, 1) := rfl
theorem c_269_22 : mLk 269 22 = some (.ireturn, 1) := rfl
theorem c_296_535 : mLk 296 535 = some (.aload_n 1, 1) := rfl
theorem c_296_536 : mLk 296 536 = some (.aload_n 0, 1) := rfl
theorem c_296_537 : mLk 296 537 = some (.iload 4, 2) := rfl
theorem c_296_539 : mLk 296 539 = some (.iconst 1, 1) := rfl
theorem c_296_540 : mLk 296 540 = some (.iadd, 1) := rfl
theorem c_296_541 : mLk 296 541 = some (.iaload, 1) := rfl
theorem c_296_542 : mLk 296 542 = some (.aload_n 0, 1) := rfl
theorem c_296_543 : mLk 296 543 = some (.iload 4, 2) := rfl
theorem c_296_545 : mLk 296 545 = some (.iconst 2, 1) := rfl
theorem c_296_546 : mLk 296 546 = some (.iadd, 1) := rfl
theorem c_296_547 : mLk 296 547 = some (.iaload, 1) := rfl
theorem c_296_548 : mLk 296 548 = some (.aload_n 3, 1) := rfl
theorem c_296_549 : mLk 296 549 = some (.invokestatic 162, 3) := rfl
theorem c_270_0 : mLk 270 0 = some (.aload_n 3, 1) := rfl
theorem c_270_1 : mLk 270 1 = some (.iconst 0, 1) := rfl
theorem c_270_2 : mLk 270 2 = some (.aload_n 0, 1) := rfl
theorem c_270_3 : mLk 270 3 = some (.iload_n 1, 1) := rfl
theorem c_270_4 : mLk 270 4 = some (.iload_n 2, 1) := rfl
theorem c_270_5 : mLk 270 5 = some (.invokevirtual 36, 3) := rfl
theorem c_296_552 : mLk 296 552 = some (.istore 5, 2) := rfl
theorem c_296_554 : mLk 296 554 = some (.aload_n 2, 1) := rfl
theorem c_296_555 : mLk 296 555 = some (.aload_n 0, 1) := rfl
theorem c_296_556 : mLk 296 556 = some (.iload 4, 2) := rfl
theorem c_296_558 : mLk 296 558 = some (.iconst 1, 1) := rfl
theorem c_296_559 : mLk 296 559 = some (.iadd, 1) := rfl
theorem c_296_560 : mLk 296 560 = some (.iaload, 1) := rfl
theorem c_296_561 : mLk 296 561 = some (.aload_n 0, 1) := rfl
theorem c_296_562 : mLk 296 562 = some (.iload 4, 2) := rfl
theorem c_296_564 : mLk 296 564 = some (.iconst 2, 1) := rfl
theorem c_296_565 : mLk 296 565 = some (.iadd, 1) := rfl
theorem c_296_566 : mLk 296 566 = some (.iaload, 1) := rfl
theorem c_296_567 : mLk 296 567 = some (.invokevirtual 164, 3) := rfl
theorem c_296_570 : mLk 296 570 = some (.istore 6, 2) := rfl
theorem c_296_572 : mLk 296 572 = some (.goto 1244, 3) := rfl
theorem c_270_8 : mLk 270 8 = some (.i2l, 1) := rfl
theorem c_270_9 : mLk 270 9 = some (.lastore, 1) := rfl
theorem c_270_10 : mLk 270 10 = some (.goto 11, 3) := rfl
theorem c_270_21 : mLk 270 21 = some (.iconst 0, 1) := rfl
theorem c_270_22 : mLk 270 22 = some (.ireturn, 1) := rfl
theorem c_296_575 : mLk 296 575 = some (.aload_n 1, 1) := rfl
theorem c_296_576 : mLk 296 576 = some (.aload_n 0, 1) := rfl
theorem c_296_577 : mLk 296 577 = some (.iload 4, 2) := rfl
theorem c_296_579 : mLk 296 579 = some (.iconst 1, 1) := rfl
theorem c_296_580 : mLk 296 580 = some (.iadd, 1) := rfl
theorem c_296_581 : mLk 296 581 = some (.iaload, 1) := rfl
theorem c_296_582 : mLk 296 582 = some (.aload_n 0, 1) := rfl
theorem c_296_583 : mLk 296 583 = some (.iload 4, 2) := rfl
theorem c_296_585 : mLk 296 585 = some (.iconst 2, 1) := rfl
theorem c_296_586 : mLk 296 586 = some (.iadd, 1) := rfl
theorem c_296_587 : mLk 296 587 = some (.iaload, 1) := rfl
theorem c_296_588 : mLk 296 588 = some (.aload_n 3, 1) := rfl
theorem c_296_589 : mLk 296 589 = some (.invokestatic 165, 3) := rfl
theorem c_271_0 : mLk 271 0 = some (.aload_n 3, 1) := rfl
theorem c_271_1 : mLk 271 1 = some (.iconst 0, 1) := rfl
theorem c_271_2 : mLk 271 2 = some (.aload_n 0, 1) := rfl
theorem c_271_3 : mLk 271 3 = some (.iload_n 1, 1) := rfl
theorem c_271_4 : mLk 271 4 = some (.iload_n 2, 1) := rfl
theorem c_271_5 : mLk 271 5 = some (.invokevirtual 39, 3) := rfl
theorem c_296_592 : mLk 296 592 = some (.istore 5, 2) := rfl
theorem c_296_594 : mLk 296 594 = some (.aload_n 2, 1) := rfl
theorem c_296_595 : mLk 296 595 = some (.aload_n 0, 1) := rfl
theorem c_296_596 : mLk 296 596 = some (.iload 4, 2) := rfl
theorem c_296_598 : mLk 296 598 = some (.iconst 1, 1) := rfl
theorem c_296_599 : mLk 296 599 = some (.iadd, 1) := rfl
theorem c_296_600 : mLk 296 600 = some (.iaload, 1) := rfl
theorem c_296_601 : mLk 296 601 = some (.aload_n 0, 1) := rfl
theorem c_296_602 : mLk 296 602 = some (.iload 4, 2) := rfl
theorem c_296_604 : mLk 296 604 = some (.iconst 2, 1) := rfl
theorem c_296_605 : mLk 296 605 = some (.iadd, 1) := rfl
theorem c_296_606 : mLk 296 606 = some (.iaload, 1) := rfl
theorem c_296_607 : mLk 296 607 = some (.invokevirtual 167, 3) := rfl
theorem c_296_610 : mLk 296 610 = some (.istore 6, 2) := rfl
theorem c_296_612 : mLk 296 612 = some (.goto 1204, 3) := rfl
theorem c_271_8 : mLk 271 8 = some (.i2l, 1) := rfl
theorem c_271_9 : mLk 271 9 = some (.lastore, 1) := rfl
theorem c_271_10 : mLk 271 10 = some (.goto 11, 3) := rfl
theorem c_271_21 : mLk 271 21 = some (.iconst 0, 1) := rfl
theorem c_271_22 : mLk 271 22 = some (.ireturn, 1) := rfl
theorem c_296_615 : mLk 296 615 = some (.aload_n 1, 1) := rfl
theorem c_296_616 : mLk 296 616 = some (.aload_n 0, 1) := rfl
theorem c_296_617 : mLk 296 617 = some (.iload 4, 2) := rfl
theorem c_296_619 : mLk 296 619 = some (.iconst 1, 1) := rfl
theorem c_296_620 : mLk 296 620 = some (.iadd, 1) := rfl
theorem c_296_621 : mLk 296 621 = some (.iaload, 1) := rfl
theorem c_296_622 : mLk 296 622 = some (.aload_n 3, 1) := rfl
theorem c_296_623 : mLk 296 623 = some (.invokestatic 168, 3) := rfl
theorem c_272_0 : mLk 272 0 = some (.aload_n 2, 1) := rfl
theorem c_272_1 : mLk 272 1 = some (.iconst 0, 1) := rfl
theorem c_272_2 : mLk 272 2 = some (.aload_n 0, 1) := rfl
theorem c_272_3 : mLk 272 3 = some (.iload_n 1, 1) := rfl
theorem c_272_4 : mLk 272 4 = some (.invokevirtual 42, 3) := rfl
theorem c_296_626 : mLk 296 626 = some (.istore 5, 2) := rfl
theorem c_296_628 : mLk 296 628 = some (.aload_n 2, 1) := rfl
theorem c_296_629 : mLk 296 629 = some (.aload_n 0, 1) := rfl
theorem c_296_630 : mLk 296 630 = some (.iload 4, 2) := rfl
theorem c_296_632 : mLk 296 632 = some (.iconst 1, 1) := rfl
theorem c_296_633 : mLk 296 633 = some (.iadd, 1) := rfl
theorem c_296_634 : mLk 296 634 = some (.iaload, 1) := rfl
theorem c_296_635 : mLk 296 635 = some (.invokevirtual 170, 3) := rfl
theorem c_296_638 : mLk 296 638 = some (.istore 6, 2) := rfl
theorem c_296_640 : mLk 296 640 = some (.goto 1176, 3) := rfl
theorem c_272_7 : mLk 272 7 = some (.i2l, 1) := rfl
theorem c_272_8 : mLk 272 8 = some (.lastore, 1) := rfl
theorem c_272_9 : mLk 272 9 = some (.goto 6, 3) := rfl
theorem c_272_15 : mLk 272 15 = some (.iconst 0, 1) := rfl
theorem c_272_16 : mLk 272 16 = some (.ireturn, 1) := rfl
theorem c_296_643 : mLk 296 643 = some (.aload_n 1, 1) := rfl
theorem c_296_644 : mLk 296 644 = some (.aload_n 0, 1) := rfl
theorem c_296_645 : mLk 296 645 = some (.iload 4, 2) := rfl
theorem c_296_647 : mLk 296 647 = some (.iconst 1, 1) := rfl
theorem c_296_648 : mLk 296 648 = some (.iadd, 1) := rfl
theorem c_296_649 : mLk 296 649 = some (.iaload, 1) := rfl
theorem c_296_650 : mLk 296 650 = some (.aload_n 0, 1) := rfl
theorem c_296_651 : mLk 296 651 = some (.iload 4, 2) := rfl
theorem c_296_653 : mLk 296 653 = some (.iconst 2, 1) := rfl
theorem c_296_654 : mLk 296 654 = some (.iadd, 1) := rfl
theorem c_296_655 : mLk 296 655 = some (.iaload, 1) := rfl
theorem c_296_656 : mLk 296 656 = some (.aload_n 0, 1) := rfl
theorem c_296_657 : mLk 296 657 = some (.iload 4, 2) := rfl
theorem c_296_659 : mLk 296 659 = some (.iconst 3, 1) := rfl
theorem c_296_660 : mLk 296 660 = some (.iadd, 1) := rfl
theorem c_296_661 : mLk 296 661 = some (.iaload, 1) := rfl
theorem c_296_662 : mLk 296 662 = some (.aload_n 0, 1) := rfl
theorem c_296_663 : mLk 296 663 = some (.iload 4, 2) := rfl
theorem c_296_665 : mLk 296 665 = some (.iconst 4, 1) := rfl
theorem c_296_666 : mLk 296 666 = some (.iadd, 1) := rfl
theorem c_296_667 : mLk 296 667 = some (.iaload, 1) := rfl
theorem c_296_668 : mLk 296 668 = some (.aload_n 0, 1) := rfl
theorem c_296_669 : mLk 296 669 = some (.iload 4, 2) := rfl
theorem c_296_671 : mLk 296 671 = some (.iconst 5, 1) := rfl
theorem c_296_672 : mLk 296 672 = some (.iadd, 1) := rfl
theorem c_296_673 : mLk 296 673 = some (.iaload, 1) := rfl
theorem c_296_674 : mLk 296 674 = some (.aload_n 0, 1) := rfl
theorem c_296_675 : mLk 296 675 = some (.iload 4, 2) := rfl
theorem c_296_677 : mLk 296 677 = some (.bipush 6, 2) := rfl
theorem c_296_679 : mLk 296 679 = some (.iadd, 1) := rfl
theorem c_296_680 : mLk 296 680 = some (.iaload, 1) := rfl
theorem c_296_681 : mLk 296 681 = some (.aload_n 0, 1) := rfl
theorem c_296_682 : mLk 296 682 = some (.iload 4, 2) := rfl
theorem c_296_684 : mLk 296 684 = some (.bipush 7, 2) := rfl
theorem c_296_686 : mLk 296 686 = some (.iadd, 1) := rfl
theorem c_296_687 : mLk 296 687 = some (.iaload, 1) := rfl
theorem c_296_688 : mLk 296 688 = some (.aload_n 3, 1) := rfl
theorem c_296_689 : mLk 296 689 = some (.invokestatic 171, 3) := rfl
theorem c_273_0 : mLk 273 0 = some (.aload 8, 2) := rfl
theorem c_273_2 : mLk 273 2 = some (.iconst 0, 1) := rfl
theorem c_273_3 : mLk 273 3 = some (.aload_n 0, 1) := rfl
theorem c_273_4 : mLk 273 4 = some (.iload_n 1, 1) := rfl
theorem c_273_5 : mLk 273 5 = some (.iload_n 2, 1) := rfl
theorem c_273_6 : mLk 273 6 = some (.iload_n 3, 1) := rfl
theorem c_273_7 : mLk 273 7 = some (.iload 4, 2) := rfl
theorem c_273_9 : mLk 273 9 = some (.iload 5, 2) := rfl
theorem c_273_11 : mLk 273 11 = some (.iload 6, 2) := rfl
theorem c_273_13 : mLk 273 13 = some (.iload 7, 2) := rfl
theorem c_273_15 : mLk 273 15 = some (.invokevirtual 45, 3) := rfl
theorem c_296_692 : mLk 296 692 = some (.istore 5, 2) := rfl
theorem c_296_694 : mLk 296 694 = some (.aload_n 2, 1) := rfl
theorem c_296_695 : mLk 296 695 = some (.aload_n 0, 1) := rfl
theorem c_296_696 : mLk 296 696 = some (.iload 4, 2) := rfl
theorem c_296_698 : mLk 296 698 = some (.iconst 1, 1) := rfl
theorem c_296_699 : mLk 296 699 = some (.iadd, 1) := rfl
theorem c_296_700 : mLk 296 700 = some (.iaload, 1) := rfl
theorem c_296_701 : mLk 296 701 = some (.aload_n 0, 1) := rfl
theorem c_296_702 : mLk 296 702 = some (.iload 4, 2) := rfl
theorem c_296_704 : mLk 296 704 = some (.iconst 2, 1) := rfl
theorem c_296_705 : mLk 296 705 = some (.iadd, 1) := rfl
theorem c_296_706 : mLk 296 706 = some (.iaload, 1) := rfl
theorem c_296_707 : mLk 296 707 = some (.aload_n 0, 1) := rfl
theorem c_296_708 : mLk 296 708 = some (.iload 4, 2) := rfl
theorem c_296_710 : mLk 296 710 = some (.iconst 3, 1) := rfl
theorem c_296_711 : mLk 296 711 = some (.iadd, 1) := rfl
theorem c_296_712 : mLk 296 712 = some (.iaload, 1) := rfl
theorem c_296_713 : mLk 296 713 = some (.aload_n 0, 1) := rfl
theorem c_296_714 : mLk 296 714 = some (.iload 4, 2) := rfl
theorem c_296_716 : mLk 296 716 = some (.iconst 4, 1) := rfl
theorem c_296_717 : mLk 296 717 = some (.iadd, 1) := rfl
theorem c_296_718 : mLk 296 718 = some (.iaload, 1) := rfl
theorem c_296_719 : mLk 296 719 = some (.aload_n 0, 1) := rfl
theorem c_296_720 : mLk 296 720 = some (.iload 4, 2) := rfl
theorem c_296_722 : mLk 296 722 = some (.iconst 5, 1) := rfl
theorem c_296_723 : mLk 296 723 = some (.iadd, 1) := rfl
theorem c_296_724 : mLk 296 724 = some (.iaload, 1) := rfl
theorem c_296_725 : mLk 296 725 = some (.aload_n 0, 1) := rfl
theorem c_296_726 : mLk 296 726 = some (.iload 4, 2) := rfl
theorem c_296_728 : mLk 296 728 = some (.bipush 6, 2) := rfl
theorem c_296_730 : mLk 296 730 = some (.iadd, 1) := rfl
theorem c_296_731 : mLk 296 731 = some (.iaload, 1) := rfl
theorem c_296_732 : mLk 296 732 = some (.aload_n 0, 1) := rfl
theorem c_296_733 : mLk 296 733 = some (.iload 4, 2) := rfl
theorem c_296_735 : mLk 296 735 = some (.bipush 7, 2) := rfl
theorem c_296_737 : mLk 296 737 = some (.iadd, 1) := rfl
theorem c_296_738 : mLk 296 738 = some (.iaload, 1) := rfl
theorem c_296_739 : mLk 296 739 = some (.invokevirtual 174, 3) := rfl
theorem c_296_742 : mLk 296 742 = some (.istore 6, 2) := rfl
theorem c_296_744 : mLk 296 744 = some (.goto 1072, 3) := rfl
theorem c_273_18 : mLk 273 18 = some (.i2l, 1) := rfl
theorem c_273_19 : mLk 273 19 = some (.lastore, 1) := rfl
theorem c_273_20 : mLk 273 20 = some (.goto 7, 3) := rfl
theorem c_273_27 : mLk 273 27 = some (.iconst 0, 1) := rfl
theorem c_273_28 : mLk 273 28 = some (.ireturn, 1) := rfl
theorem c_296_747 : mLk 296 747 = some (.aload_n 1, 1) := rfl
theorem c_296_748 : mLk 296 748 = some (.aload_n 0, 1) := rfl
theorem c_296_749 : mLk 296 749 = some (.iload 4, 2) := rfl
theorem c_296_751 : mLk 296 751 = some (.iconst 1, 1) := rfl
theorem c_296_752 : mLk 296 752 = some (.iadd, 1) := rfl
theorem c_296_753 : mLk 296 753 = some (.iaload, 1) := rfl
theorem c_296_754 : mLk 296 754 = some (.aload_n 0, 1) := rfl
theorem c_296_755 : mLk 296 755 = some (.iload 4, 2) := rfl
theorem c_296_757 : mLk 296 757 = some (.iconst 2, 1) := rfl
theorem c_296_758 : mLk 296 758 = some (.iadd, 1) := rfl
theorem c_296_759 : mLk 296 759 = some (.iaload, 1) := rfl
theorem c_296_760 : mLk 296 760 = some (.aload_n 0, 1) := rfl
theorem c_296_761 : mLk 296 761 = some (.iload 4, 2) := rfl
theorem c_296_763 : mLk 296 763 = some (.iconst 3, 1) := rfl
theorem c_296_764 : mLk 296 764 = some (.iadd, 1) := rfl
theorem c_296_765 : mLk 296 765 = some (.iaload, 1) := rfl
theorem c_296_766 : mLk 296 766 = some (.aload_n 3, 1) := rfl
theorem c_296_767 : mLk 296 767 = some (.invokestatic 175, 3) := rfl
theorem c_274_0 : mLk 274 0 = some (.aload 4, 2) := rfl
theorem c_274_2 : mLk 274 2 = some (.iconst 0, 1) := rfl
theorem c_274_3 : mLk 274 3 = some (.aload_n 0, 1) := rfl
theorem c_274_4 : mLk 274 4 = some (.iload_n 1, 1) := rfl
theorem c_274_5 : mLk 274 5 = some (.iload_n 2, 1) := rfl
theorem c_274_6 : mLk 274 6 = some (.iload_n 3, 1) := rfl
theorem c_274_7 : mLk 274 7 = some (.invokevirtual 49, 3) := rfl
theorem c_296_770 : mLk 296 770 = some (.istore 5, 2) := rfl
theorem c_296_772 : mLk 296 772 = some (.aload_n 2, 1) := rfl
theorem c_296_773 : mLk 296 773 = some (.aload_n 0, 1) := rfl
theorem c_296_774 : mLk 296 774 = some (.iload 4, 2) := rfl
theorem c_296_776 : mLk 296 776 = some (.iconst 1, 1) := rfl
theorem c_296_777 : mLk 296 777 = some (.iadd, 1) := rfl
theorem c_296_778 : mLk 296 778 = some (.iaload, 1) := rfl
theorem c_296_779 : mLk 296 779 = some (.aload_n 0, 1) := rfl
theorem c_296_780 : mLk 296 780 = some (.iload 4, 2) := rfl
theorem c_296_782 : mLk 296 782 = some (.iconst 2, 1) := rfl
theorem c_296_783 : mLk 296 783 = some (.iadd, 1) := rfl
theorem c_296_784 : mLk 296 784 = some (.iaload, 1) := rfl
theorem c_296_785 : mLk 296 785 = some (.aload_n 0, 1) := rfl
theorem c_296_786 : mLk 296 786 = some (.iload 4, 2) := rfl
theorem c_296_788 : mLk 296 788 = some (.iconst 3, 1) := rfl
theorem c_296_789 : mLk 296 789 = some (.iadd, 1) := rfl
theorem c_296_790 : mLk 296 790 = some (.iaload, 1) := rfl
theorem c_296_791 : mLk 296 791 = some (.invokevirtual 178, 3) := rfl
theorem c_296_794 : mLk 296 794 = some (.istore 6, 2) := rfl
theorem c_296_796 : mLk 296 796 = some (.goto 1020, 3) := rfl
theorem c_274_10 : mLk 274 10 = some (.i2l, 1) := rfl
theorem c_274_11 : mLk 274 11 = some (.lastore, 1) := rfl
theorem c_274_12 : mLk 274 12 = some (.goto 11, 3) := rfl
theorem c_274_23 : mLk 274 23 = some (.iconst 0, 1) := rfl
theorem c_274_24 : mLk 274 24 = some (.ireturn, 1) := rfl
theorem c_296_799 : mLk 296 799 = some (.aload_n 1, 1) := rfl
theorem c_296_800 : mLk 296 800 = some (.aload_n 0, 1) := rfl
theorem c_296_801 : mLk 296 801 = some (.iload 4, 2) := rfl
theorem c_296_803 : mLk 296 803 = some (.iconst 1, 1) := rfl
theorem c_296_804 : mLk 296 804 = some (.iadd, 1) := rfl
theorem c_296_805 : mLk 296 805 = some (.iaload, 1) := rfl
theorem c_296_806 : mLk 296 806 = some (.aload_n 0, 1) := rfl
theorem c_296_807 : mLk 296 807 = some (.iload 4, 2) := rfl
theorem c_296_809 : mLk 296 809 = some (.iconst 2, 1) := rfl
theorem c_296_810 : mLk 296 810 = some (.iadd, 1) := rfl
theorem c_296_811 : mLk 296 811 = some (.iaload, 1) := rfl
theorem c_296_812 : mLk 296 812 = some (.aload_n 0, 1) := rfl
theorem c_296_813 : mLk 296 813 = some (.iload 4, 2) := rfl
theorem c_296_815 : mLk 296 815 = some (.iconst 3, 1) := rfl
theorem c_296_816 : mLk 296 816 = some (.iadd, 1) := rfl
theorem c_296_817 : mLk 296 817 = some (.iaload, 1) := rfl
theorem c_296_818 : mLk 296 818 = some (.aload_n 3, 1) := rfl
theorem c_296_819 : mLk 296 819 = some (.invokestatic 179, 3) := rfl
theorem c_275_0 : mLk 275 0 = some (.aload 4, 2) := rfl
theorem c_275_2 : mLk 275 2 = some (.iconst 0, 1) := rfl
theorem c_275_3 : mLk 275 3 = some (.aload_n 0, 1) := rfl
theorem c_275_4 : mLk 275 4 = some (.iload_n 1, 1) := rfl
theorem c_275_5 : mLk 275 5 = some (.iload_n 2, 1) := rfl
theorem c_275_6 : mLk 275 6 = some (.iload_n 3, 1) := rfl
theorem c_275_7 : mLk 275 7 = some (.invokevirtual 53, 3) := rfl
theorem c_296_822 : mLk 296 822 = some (.istore 5, 2) := rfl
theorem c_296_824 : mLk 296 824 = some (.aload_n 2, 1) := rfl
theorem c_296_825 : mLk 296 825 = some (.aload_n 0, 1) := rfl
theorem c_296_826 : mLk 296 826 = some (.iload 4, 2) := rfl
theorem c_296_828 : mLk 296 828 = some (.iconst 1, 1) := rfl
theorem c_296_829 : mLk 296 829 = some (.iadd, 1) := rfl
theorem c_296_830 : mLk 296 830 = some (.iaload, 1) := rfl
theorem c_296_831 : mLk 296 831 = some (.aload_n 0, 1) := rfl
theorem c_296_832 : mLk 296 832 = some (.iload 4, 2) := rfl
theorem c_296_834 : mLk 296 834 = some (.iconst 2, 1) := rfl
theorem c_296_835 : mLk 296 835 = some (.iadd, 1) := rfl
theorem c_296_836 : mLk 296 836 = some (.iaload, 1) := rfl
theorem c_296_837 : mLk 296 837 = some (.aload_n 0, 1) := rfl
theorem c_296_838 : mLk 296 838 = some (.iload 4, 2) := rfl
theorem c_296_840 : mLk 296 840 = some (.iconst 3, 1) := rfl
theorem c_296_841 : mLk 296 841 = some (.iadd, 1) := rfl
theorem c_296_842 : mLk 296 842 = some (.iaload, 1) := rfl
theorem c_296_843 : mLk 296 843 = some (.invokevirtual 181, 3) := rfl
theorem c_296_846 : mLk 296 846 = some (.istore 6, 2) := rfl
theorem c_296_848 : mLk 296 848 = some (.goto 968, 3) := rfl
theorem c_275_10 : mLk 275 10 = some (.i2l, 1) := rfl
theorem c_275_11 : mLk 275 11 = some (.lastore, 1) := rfl
theorem c_275_12 : mLk 275 12 = some (.goto 11, 3) := rfl
theorem c_275_23 : mLk 275 23 = some (.iconst 0, 1) := rfl
theorem c_275_24 : mLk 275 24 = some (.ireturn, 1) := rfl
theorem c_296_851 : mLk 296 851 = some (.aload_n 1, 1) := rfl
theorem c_296_852 : mLk 296 852 = some (.aload_n 0, 1) := rfl
theorem c_296_853 : mLk 296 853 = some (.iload 4, 2) := rfl
theorem c_296_855 : mLk 296 855 = some (.iconst 1, 1) := rfl
theorem c_296_856 : mLk 296 856 = some (.iadd, 1) := rfl
theorem c_296_857 : mLk 296 857 = some (.iaload, 1) := rfl
theorem c_296_858 : mLk 296 858 = some (.aload_n 0, 1) := rfl
theorem c_296_859 : mLk 296 859 = some (.iload 4, 2) := rfl
theorem c_296_861 : mLk 296 861 = some (.iconst 2, 1) := rfl
theorem c_296_862 : mLk 296 862 = some (.iadd, 1) := rfl
theorem c_296_863 : mLk 296 863 = some (.iaload, 1) := rfl
theorem c_296_864 : mLk 296 864 = some (.aload_n 0, 1) := rfl
theorem c_296_865 : mLk 296 865 = some (.iload 4, 2) := rfl
theorem c_296_867 : mLk 296 867 = some (.iconst 3, 1) := rfl
theorem c_296_868 : mLk 296 868 = some (.iadd, 1) := rfl
theorem c_296_869 : mLk 296 869 = some (.iaload, 1) := rfl
theorem c_296_870 : mLk 296 870 = some (.aload_n 3, 1) := rfl
theorem c_296_871 : mLk 296 871 = some (.invokestatic 182, 3) := rfl
theorem c_276_0 : mLk 276 0 = some (.aload 4, 2) := rfl
theorem c_276_2 : mLk 276 2 = some (.iconst 0, 1) := rfl
theorem c_276_3 : mLk 276 3 = some (.aload_n 0, 1) := rfl
theorem c_276_4 : mLk 276 4 = some (.iload_n 1, 1) := rfl
theorem c_276_5 : mLk 276 5 = some (.iload_n 2, 1) := rfl
theorem c_276_6 : mLk 276 6 = some (.iload_n 3, 1) := rfl
theorem c_276_7 : mLk 276 7 = some (.invokevirtual 56, 3) := rfl
theorem c_296_874 : mLk 296 874 = some (.istore 5, 2) := rfl
theorem c_296_876 : mLk 296 876 = some (.aload_n 2, 1) := rfl
theorem c_296_877 : mLk 296 877 = some (.aload_n 0, 1) := rfl
theorem c_296_878 : mLk 296 878 = some (.iload 4, 2) := rfl
theorem c_296_880 : mLk 296 880 = some (.iconst 1, 1) := rfl
theorem c_296_881 : mLk 296 881 = some (.iadd, 1) := rfl
theorem c_296_882 : mLk 296 882 = some (.iaload, 1) := rfl
theorem c_296_883 : mLk 296 883 = some (.aload_n 0, 1) := rfl
theorem c_296_884 : mLk 296 884 = some (.iload 4, 2) := rfl
theorem c_296_886 : mLk 296 886 = some (.iconst 2, 1) := rfl
theorem c_296_887 : mLk 296 887 = some (.iadd, 1) := rfl
theorem c_296_888 : mLk 296 888 = some (.iaload, 1) := rfl
theorem c_296_889 : mLk 296 889 = some (.aload_n 0, 1) := rfl
theorem c_296_890 : mLk 296 890 = some (.iload 4, 2) := rfl
theorem c_296_892 : mLk 296 892 = some (.iconst 3, 1) := rfl
theorem c_296_893 : mLk 296 893 = some (.iadd, 1) := rfl
theorem c_296_894 : mLk 296 894 = some (.iaload, 1) := rfl
theorem c_296_895 : mLk 296 895 = some (.invokevirtual 184, 3) := rfl
theorem c_296_898 : mLk 296 898 = some (.istore 6, 2) := rfl
theorem c_296_900 : mLk 296 900 = some (.goto 916, 3) := rfl
theorem c_276_10 : mLk 276 10 = some (.i2l, 1) := rfl
theorem c_276_11 : mLk 276 11 = some (.lastore, 1) := rfl
theorem c_276_12 : mLk 276 12 = some (.goto 11, 3) := rfl
theorem c_276_23 : mLk 276 23 = some (.iconst 0, 1) := rfl
theorem c_276_24 : mLk 276 24 = some (.ireturn, 1) := rfl
theorem km_9_161 : a_lk (kM 9) 161 = some (0, 213) := rfl
theorem km_9_164 : a_lk (kM 9) 164 = some (0, 214) := rfl
theorem km_9_167 : a_lk (kM 9) 167 = some (0, 215) := rfl
theorem km_9_170 : a_lk (kM 9) 170 = some (0, 216) := rfl
theorem km_9_174 : a_lk (kM 9) 174 = some (0, 217) := rfl
theorem km_9_178 : a_lk (kM 9) 178 = some (0, 218) := rfl
theorem km_9_181 : a_lk (kM 9) 181 = some (0, 219) := rfl
theorem km_9_184 : a_lk (kM 9) 184 = some (0, 220) := rfl
theorem km_9_30 : a_lk (kM 9) 30 = some (0, 93) := rfl
theorem km_9_36 : a_lk (kM 9) 36 = some (0, 95) := rfl
theorem km_9_39 : a_lk (kM 9) 39 = some (0, 97) := rfl
theorem km_9_42 : a_lk (kM 9) 42 = some (0, 103) := rfl
theorem km_9_45 : a_lk (kM 9) 45 = some (0, 104) := rfl
theorem km_9_49 : a_lk (kM 9) 49 = some (0, 110) := rfl
theorem km_9_53 : a_lk (kM 9) 53 = some (0, 111) := rfl
theorem km_9_56 : a_lk (kM 9) 56 = some (0, 112) := rfl
set_option maxRecDepth 100000 in
set_option maxHeartbeats 4000000 in
theorem o_9 {xs : Nat → Int32} {L i0 d nc ns P Q : Nat} {c : ME} {Z : AR → Prop} (hi : i0 + 8 ≤ L) (hL : L ≤ 100000) (hI : Iv 0 (-1) P Q c) (hR : Rq P c) (K : ∀ (P2 Q2 : Nat) (c2 : ME) (e : Nat), e ≤ 1 → Iv 0 (-1) P2 Q2 c2 → (Rq P2 c2) → Wp (a_scr L xs) (d + 90) 296 1816 [(4, vi (i0 : Int)), (3, .ref 67), (2, .ref 41), (1, .ref 0), (0, .ref a_SC)] [] (Wd P2 Q2 P2 P2 c2) (nc + e) (ns + 6 * e) Z) : Wp (a_scr L xs) (d + 90) 296 495 [(4, vi (i0 : Int)), (3, .ref 67), (2, .ref 41), (1, .ref 0), (0, .ref a_SC)] [] (Wd P Q P P c) nc ns Z := by
  obtain ⟨x1, hx1⟩ : ∃ z, (xs (i0 + 1)).toInt = z := ⟨_, rfl⟩
  have x1r := c_rng (xs (i0 + 1))
  rw [hx1] at x1r
  obtain ⟨x2, hx2⟩ : ∃ z, (xs (i0 + 2)).toInt = z := ⟨_, rfl⟩
  have x2r := c_rng (xs (i0 + 2))
  rw [hx2] at x2r
  obtain ⟨x3, hx3⟩ : ∃ z, (xs (i0 + 3)).toInt = z := ⟨_, rfl⟩
  have x3r := c_rng (xs (i0 + 3))
  rw [hx3] at x3r
  obtain ⟨x4, hx4⟩ : ∃ z, (xs (i0 + 4)).toInt = z := ⟨_, rfl⟩
  have x4r := c_rng (xs (i0 + 4))
  rw [hx4] at x4r
  obtain ⟨x5, hx5⟩ : ∃ z, (xs (i0 + 5)).toInt = z := ⟨_, rfl⟩
  have x5r := c_rng (xs (i0 + 5))
  rw [hx5] at x5r
  obtain ⟨x6, hx6⟩ : ∃ z, (xs (i0 + 6)).toInt = z := ⟨_, rfl⟩
  have x6r := c_rng (xs (i0 + 6))
  rw [hx6] at x6r
  obtain ⟨x7, hx7⟩ : ∃ z, (xs (i0 + 7)).toInt = z := ⟨_, rfl⟩
  have x7r := c_rng (xs (i0 + 7))
  rw [hx7] at x7r
  have hP := iv_P hI
  have hQ := iv_Q hI
  have hT := rl_t hR
  have hU := rl_u hR
  obtain ⟨n0, hn0⟩ : ∃ z, c P 0 = z := ⟨_, rfl⟩
  have hm0 : c 41 20 = n0 := (rl_nums hR).1.symm.trans hn0
  have hr0 := ir_p0_0 hI hP
  rw [hn0] at hr0
  obtain ⟨n1, hn1⟩ : ∃ z, c P 1 = z := ⟨_, rfl⟩
  have hm1 : c 41 21 = n1 := (rl_nums hR).2.1.symm.trans hn1
  have hr1 := ir_p0_1 hI hP
  rw [hn1] at hr1
  obtain ⟨n2, hn2⟩ : ∃ z, c P 2 = z := ⟨_, rfl⟩
  have hm2 : c 41 22 = n2 := (rl_nums hR).2.2.1.symm.trans hn2
  have hr2 := ir_p0_2 hI hP
  rw [hn2] at hr2
  obtain ⟨n3, hn3⟩ : ∃ z, c P 3 = z := ⟨_, rfl⟩
  have hm3 : c 41 23 = n3 := (rl_nums hR).2.2.2.symm.trans hn3
  have hr3 := ir_p0_3 hI hP
  rw [hn3] at hr3
  have hNimg := rl_img hR
  have hNwk := rl_wk hR
  have h_1 := ir_3_4 hI
  have hIw := rl_iw hR
  have hNplace := rl_place hR
  refine q_aload_n c_296_495 rfl (q_aload_n c_296_496 rfl (q_iload c_296_497 rfl (q_iconst c_296_499 (v_iadd (v := (i0 : Int) + 1) c_296_500 rfl (v_scr (j := i0 + 1) c_296_501 (by omega) (by omega) hL hx1 (q_aload_n c_296_502 rfl (q_iload c_296_503 rfl ?_)))))))
  refine q_iconst c_296_505 (v_iadd (v := (i0 : Int) + 2) c_296_506 rfl (v_scr (j := i0 + 2) c_296_507 (by omega) (by omega) hL hx2 (q_aload_n c_296_508 rfl (q_call c_296_509 rfl rfl rfl (q_aload_n c_269_0 rfl (q_iconst c_269_1 (q_aload_n c_269_2 rfl ?_)))))))
  refine q_iload_n c_269_3 rfl (q_iload_n c_269_4 rfl ?_)
  refine v_cv c_269_5 km_9_30 rfl rfl (Nat.le_of_ble_eq_true rfl) ⟨⟨rfl, rfl⟩, Nat.le_of_ble_eq_true rfl, rfl⟩ (Nat.le_of_ble_eq_true rfl) (Nat.le_of_ble_eq_true rfl) (s_93 (a1 := x1) (a2 := x2) hI (show (-2147483648) ≤ x1 ∧ x1 ≤ 2147483647 from ⟨by omega, by omega⟩) (show (-2147483648) ≤ x2 ∧ x2 ≤ 2147483647 from ⟨by omega, by omega⟩) (fun c_2 hI_3 hF_4 => ?_) (fun c_5 hI_6 hF_7 => ?_) (fun c_8 y_11 hI_9 hF_10 hy_11 => ?_))
  · skip
    refine bk_thr (z := Int32.ofInt 1) rfl ⟨_, _, rfl⟩ rfl (bk_inl (q_istore c_296_512 (Nat.le_of_ble_eq_true rfl) (q_aload_n c_296_514 rfl (q_aload_n c_296_515 rfl (q_iload c_296_516 rfl (q_iconst c_296_518 (v_iadd (v := (i0 : Int) + 1) c_296_519 rfl ?_)))))))
    refine v_scr (j := i0 + 1) c_296_520 (by omega) (by omega) hL hx1 (q_aload_n c_296_521 rfl (q_iload c_296_522 rfl (q_iconst c_296_524 (v_iadd (v := (i0 : Int) + 2) c_296_525 rfl (v_scr (j := i0 + 2) c_296_526 (by omega) (by omega) hL hx2 (v_cv c_296_527 km_9_161 rfl rfl (Nat.le_of_ble_eq_true rfl) ⟨⟨rfl, rfl⟩, Nat.le_of_ble_eq_true rfl, rfl⟩ (Nat.le_of_ble_eq_true rfl) (Nat.le_of_ble_eq_true rfl) (s_213 (a1 := x1) (a2 := x2) hI_3 (show (-2147483648) ≤ x1 ∧ x1 ≤ 2147483647 from ⟨by omega, by omega⟩) (show (-2147483648) ≤ x2 ∧ x2 ≤ 2147483647 from ⟨by omega, by omega⟩) (fun c_12 y_15 hI_13 hF_14 hy_15 => (bk_inl ?_)))))))))
    refine q_istore c_296_530 (Nat.le_of_ble_eq_true rfl) (q_goto (t := 1816) c_296_532 rfl (Wp_ls [(4, vi (i0 : Int)), (3, .ref 67), (2, .ref 41), (1, .ref 0), (0, .ref a_SC)] (lsub_cons rfl (lsub_cons rfl (lsub_cons rfl (lsub_cons rfl (lsub_cons rfl lsub_nil))))) ?_))
    have h_16 := ir_1_3 hI
    have kn_17 : Hid (c_2 1 3 = c 1 3) := hF_4 1 3 (fun q => q.elim (fun h => absurd h.1 (nn rfl)) (fun h => absurd h.1 (nn rfl)))
    have kn_18 : Hid (c_12 1 3 = c 1 3) := (hF_14 1 3 qn_39cd18c3e).trans (hid kn_17)
    have h_19 : c_12 1 3 = c 1 3 := (hid kn_18)
    have h_20 := ir_41_2 hI
    have kn_21 : Hid (c_2 41 2 = c 41 2) := hF_4 41 2 (fun q => q.elim (fun h => absurd h.1 (nn rfl)) (fun h => absurd h.1 (nn rfl)))
    have kn_22 : Hid (c_12 41 2 = c 41 2) := (hF_14 41 2 qn_53bdb2099).trans (hid kn_21)
    have h_23 : c_12 41 2 = c 41 2 := (hid kn_22)
    have kn_24 : Hid (c_2 P 0 = n0) := (hF_4 P 0 (qn_7ba88e57e hP)).trans (hn0)
    have kn_25 : Hid (c_12 P 0 = n0) := (hF_14 P 0 (qn_857752076 hP)).trans (hid kn_24)
    have h_26 : c_12 P 0 = n0 := (hid kn_25)
    have kn_27 : Hid (c_2 41 20 = n0) := (hF_4 41 20 (fun q => q.elim (fun h => absurd h.1 (nn rfl)) (fun h => absurd h.1 (nn rfl)))).trans (hm0)
    have kn_28 : Hid (c_12 41 20 = n0) := (hF_14 41 20 qn_110b29ed6).trans (hid kn_27)
    have h_29 : c_12 41 20 = n0 := (hid kn_28)
    have kn_30 : Hid (c_2 P 1 = n1) := (hF_4 P 1 (qn_7ba88e57e hP)).trans (hn1)
    have kn_31 : Hid (c_12 P 1 = n1) := (hF_14 P 1 (qn_857752076 hP)).trans (hid kn_30)
    have h_32 : c_12 P 1 = n1 := (hid kn_31)
    have kn_33 : Hid (c_2 41 21 = n1) := (hF_4 41 21 (fun q => q.elim (fun h => absurd h.1 (nn rfl)) (fun h => absurd h.1 (nn rfl)))).trans (hm1)
    have kn_34 : Hid (c_12 41 21 = n1) := (hF_14 41 21 qn_561064c41).trans (hid kn_33)
    have h_35 : c_12 41 21 = n1 := (hid kn_34)
    have kn_36 : Hid (c_2 P 2 = n2) := (hF_4 P 2 (qn_7ba88e57e hP)).trans (hn2)
    have kn_37 : Hid (c_12 P 2 = n2) := (hF_14 P 2 (qn_857752076 hP)).trans (hid kn_36)
    have h_38 : c_12 P 2 = n2 := (hid kn_37)
    have kn_39 : Hid (c_2 41 22 = n2) := (hF_4 41 22 (fun q => q.elim (fun h => absurd h.1 (nn rfl)) (fun h => absurd h.1 (nn rfl)))).trans (hm2)
    have kn_40 : Hid (c_12 41 22 = n2) := (hF_14 41 22 qn_1a460b46b).trans (hid kn_39)
    have h_41 : c_12 41 22 = n2 := (hid kn_40)
    have kn_42 : Hid (c_2 P 3 = n3) := (hF_4 P 3 (qn_7ba88e57e hP)).trans (hn3)
    have kn_43 : Hid (c_12 P 3 = n3) := (hF_14 P 3 (qn_857752076 hP)).trans (hid kn_42)
    have h_44 : c_12 P 3 = n3 := (hid kn_43)
    have kn_45 : Hid (c_2 41 23 = n3) := (hF_4 41 23 (fun q => q.elim (fun h => absurd h.1 (nn rfl)) (fun h => absurd h.1 (nn rfl)))).trans (hm3)
    have kn_46 : Hid (c_12 41 23 = n3) := (hF_14 41 23 qn_b79f282cd).trans (hid kn_45)
    have h_47 : c_12 41 23 = n3 := (hid kn_46)
    have kn_48 : Hid (c_2 3 4 = c 3 4) := hF_4 3 4 (fun q => q.elim (fun h => absurd h.1 (nn rfl)) (fun h => absurd h.1 (nn rfl)))
    have kn_49 : Hid (c_12 3 4 = c 3 4) := (hF_14 3 4 qn_bf2303cc8).trans (hid kn_48)
    have h_50 : c_12 3 4 = c 3 4 := (hid kn_49)
    have h_51 := ir_41_52 hI
    have kn_52 : Hid (c_2 41 52 = c 41 52) := hF_4 41 52 (fun q => q.elim (fun h => absurd h.1 (nn rfl)) (fun h => absurd h.1 (nn rfl)))
    have kn_53 : Hid (c_12 41 52 = c 41 52) := (hF_14 41 52 qn_90835161a).trans (hid kn_52)
    have h_54 : c_12 41 52 = c 41 52 := (hid kn_53)
    have h_55 := ir_3_3 hI
    have kn_56 : Hid (c_2 3 3 = c 3 3) := hF_4 3 3 (fun q => q.elim (fun h => absurd h.1 (nn rfl)) (fun h => absurd h.1 (nn rfl)))
    have kn_57 : Hid (c_12 3 3 = c 3 3) := (hF_14 3 3 qn_bf2303cc8).trans (hid kn_56)
    have h_58 : c_12 3 3 = c 3 3 := (hid kn_57)
    have h_59 := ir_41_35 hI
    have kn_60 : Hid (c_2 41 35 = c 41 35) := hF_4 41 35 (fun q => q.elim (fun h => absurd h.1 (nn rfl)) (fun h => absurd h.1 (nn rfl)))
    have kn_61 : Hid (c_12 41 35 = c 41 35) := (hF_14 41 35 qn_732a91ea5).trans (hid kn_60)
    have h_62 : c_12 41 35 = c 41 35 := (hid kn_61)
    have h_63 : c_12 3 4 = c 3 4 := (hid kn_49)
    have h_64 := ir_1_5 hI
    have kn_65 : Hid (c_2 1 5 = c 1 5) := hF_4 1 5 (fun q => q.elim (fun h => absurd h.1 (nn rfl)) (fun h => absurd h.1 (nn rfl)))
    have kn_66 : Hid (c_12 1 5 = c 1 5) := (hF_14 1 5 qn_39cd18c3e).trans (hid kn_65)
    have h_67 : c_12 1 5 = c 1 5 := (hid kn_66)
    have h_68 := ir_41_8 hI
    have kn_69 : Hid (c_2 41 8 = c 41 8) := hF_4 41 8 (fun q => q.elim (fun h => absurd h.1 (nn rfl)) (fun h => absurd h.1 (nn rfl)))
    have kn_70 : Hid (c_12 41 8 = c 41 8) := (hF_14 41 8 qn_b601a9968).trans (hid kn_69)
    have h_71 : c_12 41 8 = c 41 8 := (hid kn_70)
    exact K P Q c_12 1 (by decide) hI_13 ⟨by omega, ub_fr hU (fun j => (hF_14 2 j qn_2ad67e194).trans (hF_4 2 j (fun q => q.elim (fun h => absurd h.1 (nn rfl)) (fun h => absurd h.1 (nn rfl))))) (fun j => (hF_14 43 j qn_1520ff5e3).trans (hF_4 43 j (fun q => q.elim (fun h => absurd h.1 (nn rfl)) (fun h => absurd h.1 (nn rfl))))), ⟨by omega, by omega, by omega, by omega⟩, by omega, by omega, iw_fr2 hIw (by omega) (fun j => (hF_14 6 j qn_e1050858a).trans (hF_4 6 j (fun q => q.elim (fun h => absurd h.1 (nn rfl)) (fun h => absurd h.1 (nn rfl))))) (fun j => (hF_14 66 j qn_5616dd9ce).trans (hF_4 66 j (fun q => q.elim (fun h => absurd h.1 (nn rfl)) (fun h => absurd h.1 (nn rfl))))), by omega⟩
  · skip
    refine bk_thr (z := Int32.ofInt 2) rfl ⟨_, _, rfl⟩ rfl (bk_inl (q_istore c_296_512 (Nat.le_of_ble_eq_true rfl) (q_aload_n c_296_514 rfl (q_aload_n c_296_515 rfl (q_iload c_296_516 rfl (q_iconst c_296_518 (v_iadd (v := (i0 : Int) + 1) c_296_519 rfl ?_)))))))
    refine v_scr (j := i0 + 1) c_296_520 (by omega) (by omega) hL hx1 (q_aload_n c_296_521 rfl (q_iload c_296_522 rfl (q_iconst c_296_524 (v_iadd (v := (i0 : Int) + 2) c_296_525 rfl (v_scr (j := i0 + 2) c_296_526 (by omega) (by omega) hL hx2 (v_cv c_296_527 km_9_161 rfl rfl (Nat.le_of_ble_eq_true rfl) ⟨⟨rfl, rfl⟩, Nat.le_of_ble_eq_true rfl, rfl⟩ (Nat.le_of_ble_eq_true rfl) (Nat.le_of_ble_eq_true rfl) (s_213 (a1 := x1) (a2 := x2) hI_6 (show (-2147483648) ≤ x1 ∧ x1 ≤ 2147483647 from ⟨by omega, by omega⟩) (show (-2147483648) ≤ x2 ∧ x2 ≤ 2147483647 from ⟨by omega, by omega⟩) (fun c_72 y_75 hI_73 hF_74 hy_75 => (bk_inl ?_)))))))))
    refine q_istore c_296_530 (Nat.le_of_ble_eq_true rfl) (q_goto (t := 1816) c_296_532 rfl (Wp_ls [(4, vi (i0 : Int)), (3, .ref 67), (2, .ref 41), (1, .ref 0), (0, .ref a_SC)] (lsub_cons rfl (lsub_cons rfl (lsub_cons rfl (lsub_cons rfl (lsub_cons rfl lsub_nil))))) ?_))
    have h_76 := ir_1_3 hI
    have kn_77 : Hid (c_5 1 3 = c 1 3) := hF_7 1 3 (fun q => q.elim (fun h => absurd h.1 (nn rfl)) (fun h => absurd h.1 (nn rfl)))
    have kn_78 : Hid (c_72 1 3 = c 1 3) := (hF_74 1 3 qn_39cd18c3e).trans (hid kn_77)
    have h_79 : c_72 1 3 = c 1 3 := (hid kn_78)
    have h_80 := ir_41_2 hI
    have kn_81 : Hid (c_5 41 2 = c 41 2) := hF_7 41 2 (fun q => q.elim (fun h => absurd h.1 (nn rfl)) (fun h => absurd h.1 (nn rfl)))
    have kn_82 : Hid (c_72 41 2 = c 41 2) := (hF_74 41 2 qn_53bdb2099).trans (hid kn_81)
    have h_83 : c_72 41 2 = c 41 2 := (hid kn_82)
    have kn_84 : Hid (c_5 P 0 = n0) := (hF_7 P 0 (qn_7ba88e57e hP)).trans (hn0)
    have kn_85 : Hid (c_72 P 0 = n0) := (hF_74 P 0 (qn_857752076 hP)).trans (hid kn_84)
    have h_86 : c_72 P 0 = n0 := (hid kn_85)
    have kn_87 : Hid (c_5 41 20 = n0) := (hF_7 41 20 (fun q => q.elim (fun h => absurd h.1 (nn rfl)) (fun h => absurd h.1 (nn rfl)))).trans (hm0)
    have kn_88 : Hid (c_72 41 20 = n0) := (hF_74 41 20 qn_110b29ed6).trans (hid kn_87)
    have h_89 : c_72 41 20 = n0 := (hid kn_88)
    have kn_90 : Hid (c_5 P 1 = n1) := (hF_7 P 1 (qn_7ba88e57e hP)).trans (hn1)
    have kn_91 : Hid (c_72 P 1 = n1) := (hF_74 P 1 (qn_857752076 hP)).trans (hid kn_90)
    have h_92 : c_72 P 1 = n1 := (hid kn_91)
    have kn_93 : Hid (c_5 41 21 = n1) := (hF_7 41 21 (fun q => q.elim (fun h => absurd h.1 (nn rfl)) (fun h => absurd h.1 (nn rfl)))).trans (hm1)
    have kn_94 : Hid (c_72 41 21 = n1) := (hF_74 41 21 qn_561064c41).trans (hid kn_93)
    have h_95 : c_72 41 21 = n1 := (hid kn_94)
    have kn_96 : Hid (c_5 P 2 = n2) := (hF_7 P 2 (qn_7ba88e57e hP)).trans (hn2)
    have kn_97 : Hid (c_72 P 2 = n2) := (hF_74 P 2 (qn_857752076 hP)).trans (hid kn_96)
    have h_98 : c_72 P 2 = n2 := (hid kn_97)
    have kn_99 : Hid (c_5 41 22 = n2) := (hF_7 41 22 (fun q => q.elim (fun h => absurd h.1 (nn rfl)) (fun h => absurd h.1 (nn rfl)))).trans (hm2)
    have kn_100 : Hid (c_72 41 22 = n2) := (hF_74 41 22 qn_1a460b46b).trans (hid kn_99)
    have h_101 : c_72 41 22 = n2 := (hid kn_100)
    have kn_102 : Hid (c_5 P 3 = n3) := (hF_7 P 3 (qn_7ba88e57e hP)).trans (hn3)
    have kn_103 : Hid (c_72 P 3 = n3) := (hF_74 P 3 (qn_857752076 hP)).trans (hid kn_102)
    have h_104 : c_72 P 3 = n3 := (hid kn_103)
    have kn_105 : Hid (c_5 41 23 = n3) := (hF_7 41 23 (fun q => q.elim (fun h => absurd h.1 (nn rfl)) (fun h => absurd h.1 (nn rfl)))).trans (hm3)
    have kn_106 : Hid (c_72 41 23 = n3) := (hF_74 41 23 qn_b79f282cd).trans (hid kn_105)
    have h_107 : c_72 41 23 = n3 := (hid kn_106)
    have kn_108 : Hid (c_5 3 4 = c 3 4) := hF_7 3 4 (fun q => q.elim (fun h => absurd h.1 (nn rfl)) (fun h => absurd h.1 (nn rfl)))
    have kn_109 : Hid (c_72 3 4 = c 3 4) := (hF_74 3 4 qn_bf2303cc8).trans (hid kn_108)
    have h_110 : c_72 3 4 = c 3 4 := (hid kn_109)
    have h_111 := ir_41_52 hI
    have kn_112 : Hid (c_5 41 52 = c 41 52) := hF_7 41 52 (fun q => q.elim (fun h => absurd h.1 (nn rfl)) (fun h => absurd h.1 (nn rfl)))
    have kn_113 : Hid (c_72 41 52 = c 41 52) := (hF_74 41 52 qn_90835161a).trans (hid kn_112)
    have h_114 : c_72 41 52 = c 41 52 := (hid kn_113)
    have h_115 := ir_3_3 hI
    have kn_116 : Hid (c_5 3 3 = c 3 3) := hF_7 3 3 (fun q => q.elim (fun h => absurd h.1 (nn rfl)) (fun h => absurd h.1 (nn rfl)))
    have kn_117 : Hid (c_72 3 3 = c 3 3) := (hF_74 3 3 qn_bf2303cc8).trans (hid kn_116)
    have h_118 : c_72 3 3 = c 3 3 := (hid kn_117)
    have h_119 := ir_41_35 hI
    have kn_120 : Hid (c_5 41 35 = c 41 35) := hF_7 41 35 (fun q => q.elim (fun h => absurd h.1 (nn rfl)) (fun h => absurd h.1 (nn rfl)))
    have kn_121 : Hid (c_72 41 35 = c 41 35) := (hF_74 41 35 qn_732a91ea5).trans (hid kn_120)
    have h_122 : c_72 41 35 = c 41 35 := (hid kn_121)
    have h_123 : c_72 3 4 = c 3 4 := (hid kn_109)
    have h_124 := ir_1_5 hI
    have kn_125 : Hid (c_5 1 5 = c 1 5) := hF_7 1 5 (fun q => q.elim (fun h => absurd h.1 (nn rfl)) (fun h => absurd h.1 (nn rfl)))
    have kn_126 : Hid (c_72 1 5 = c 1 5) := (hF_74 1 5 qn_39cd18c3e).trans (hid kn_125)
    have h_127 : c_72 1 5 = c 1 5 := (hid kn_126)
    have h_128 := ir_41_8 hI
    have kn_129 : Hid (c_5 41 8 = c 41 8) := hF_7 41 8 (fun q => q.elim (fun h => absurd h.1 (nn rfl)) (fun h => absurd h.1 (nn rfl)))
    have kn_130 : Hid (c_72 41 8 = c 41 8) := (hF_74 41 8 qn_b601a9968).trans (hid kn_129)
    have h_131 : c_72 41 8 = c 41 8 := (hid kn_130)
    exact K P Q c_72 1 (by decide) hI_73 ⟨by omega, ub_fr hU (fun j => (hF_74 2 j qn_2ad67e194).trans (hF_7 2 j (fun q => q.elim (fun h => absurd h.1 (nn rfl)) (fun h => absurd h.1 (nn rfl))))) (fun j => (hF_74 43 j qn_1520ff5e3).trans (hF_7 43 j (fun q => q.elim (fun h => absurd h.1 (nn rfl)) (fun h => absurd h.1 (nn rfl))))), ⟨by omega, by omega, by omega, by omega⟩, by omega, by omega, iw_fr2 hIw (by omega) (fun j => (hF_74 6 j qn_e1050858a).trans (hF_7 6 j (fun q => q.elim (fun h => absurd h.1 (nn rfl)) (fun h => absurd h.1 (nn rfl))))) (fun j => (hF_74 66 j qn_5616dd9ce).trans (hF_7 66 j (fun q => q.elim (fun h => absurd h.1 (nn rfl)) (fun h => absurd h.1 (nn rfl))))), by omega⟩
  refine bk_inl (v_i2l c_269_8 (by omega) (v_ls c_269_9 rfl (by decide) (by decide) (by decide) (q_goto (t := 21) c_269_10 rfl (q_iconst c_269_21 (q_iret c_269_22 rfl (bk_inl (q_istore c_296_512 (Nat.le_of_ble_eq_true rfl) ?_)))))))
  refine q_aload_n c_296_514 rfl (q_aload_n c_296_515 rfl (q_iload c_296_516 rfl (q_iconst c_296_518 (v_iadd (v := (i0 : Int) + 1) c_296_519 rfl (v_scr (j := i0 + 1) c_296_520 (by omega) (by omega) hL hx1 (q_aload_n c_296_521 rfl (q_iload c_296_522 rfl ?_)))))))
  refine q_iconst c_296_524 (v_iadd (v := (i0 : Int) + 2) c_296_525 rfl (v_scr (j := i0 + 2) c_296_526 (by omega) (by omega) hL hx2 ?_))
  have hI_132 := iw_lx (a := 67) (j := 0) (v := y_11) hI_9 (by omega)
  refine v_cv c_296_527 km_9_161 rfl rfl (Nat.le_of_ble_eq_true rfl) ⟨⟨rfl, rfl⟩, Nat.le_of_ble_eq_true rfl, rfl⟩ (Nat.le_of_ble_eq_true rfl) (Nat.le_of_ble_eq_true rfl) (s_213 (a1 := x1) (a2 := x2) hI_132 (show (-2147483648) ≤ x1 ∧ x1 ≤ 2147483647 from ⟨by omega, by omega⟩) (show (-2147483648) ≤ x2 ∧ x2 ≤ 2147483647 from ⟨by omega, by omega⟩) (fun c_133 y_136 hI_134 hF_135 hy_136 => (bk_inl (q_istore c_296_530 (Nat.le_of_ble_eq_true rfl) (q_goto (t := 1816) c_296_532 rfl (Wp_ls [(4, vi (i0 : Int)), (3, .ref 67), (2, .ref 41), (1, .ref 0), (0, .ref a_SC)] (lsub_cons rfl (lsub_cons rfl (lsub_cons rfl (lsub_cons rfl (lsub_cons rfl lsub_nil))))) ?_))))))
  have h_137 := ir_1_3 hI
  have kn_138 : Hid (c_8 1 3 = c 1 3) := hF_10 1 3 (fun q => q.elim (fun h => absurd h.1 (nn rfl)) (fun h => absurd h.1 (nn rfl)))
  have kn_139 : Hid (c_133 1 3 = c 1 3) := (hF_135 1 3 qn_39cd18c3e).trans ((up_c (nn rfl)).trans (hid kn_138))
  have h_140 : c_133 1 3 = c 1 3 := (hid kn_139)
  have h_141 := ir_41_2 hI
  have kn_142 : Hid (c_8 41 2 = c 41 2) := hF_10 41 2 (fun q => q.elim (fun h => absurd h.1 (nn rfl)) (fun h => absurd h.1 (nn rfl)))
  have kn_143 : Hid (c_133 41 2 = c 41 2) := (hF_135 41 2 qn_53bdb2099).trans ((up_c (nn rfl)).trans (hid kn_142))
  have h_144 : c_133 41 2 = c 41 2 := (hid kn_143)
  have kn_145 : Hid (c_8 P 0 = n0) := (hF_10 P 0 (qn_7ba88e57e hP)).trans (hn0)
  have kn_146 : Hid (c_133 P 0 = n0) := (hF_135 P 0 (qn_857752076 hP)).trans ((up_c (np0 hP rfl)).trans (hid kn_145))
  have h_147 : c_133 P 0 = n0 := (hid kn_146)
  have kn_148 : Hid (c_8 41 20 = n0) := (hF_10 41 20 (fun q => q.elim (fun h => absurd h.1 (nn rfl)) (fun h => absurd h.1 (nn rfl)))).trans (hm0)
  have kn_149 : Hid (c_133 41 20 = n0) := (hF_135 41 20 qn_110b29ed6).trans ((up_c (nn rfl)).trans (hid kn_148))
  have h_150 : c_133 41 20 = n0 := (hid kn_149)
  have kn_151 : Hid (c_8 P 1 = n1) := (hF_10 P 1 (qn_7ba88e57e hP)).trans (hn1)
  have kn_152 : Hid (c_133 P 1 = n1) := (hF_135 P 1 (qn_857752076 hP)).trans ((up_c (np0 hP rfl)).trans (hid kn_151))
  have h_153 : c_133 P 1 = n1 := (hid kn_152)
  have kn_154 : Hid (c_8 41 21 = n1) := (hF_10 41 21 (fun q => q.elim (fun h => absurd h.1 (nn rfl)) (fun h => absurd h.1 (nn rfl)))).trans (hm1)
  have kn_155 : Hid (c_133 41 21 = n1) := (hF_135 41 21 qn_561064c41).trans ((up_c (nn rfl)).trans (hid kn_154))
  have h_156 : c_133 41 21 = n1 := (hid kn_155)
  have kn_157 : Hid (c_8 P 2 = n2) := (hF_10 P 2 (qn_7ba88e57e hP)).trans (hn2)
  have kn_158 : Hid (c_133 P 2 = n2) := (hF_135 P 2 (qn_857752076 hP)).trans ((up_c (np0 hP rfl)).trans (hid kn_157))
  have h_159 : c_133 P 2 = n2 := (hid kn_158)
  have kn_160 : Hid (c_8 41 22 = n2) := (hF_10 41 22 (fun q => q.elim (fun h => absurd h.1 (nn rfl)) (fun h => absurd h.1 (nn rfl)))).trans (hm2)
  have kn_161 : Hid (c_133 41 22 = n2) := (hF_135 41 22 qn_1a460b46b).trans ((up_c (nn rfl)).trans (hid kn_160))
  have h_162 : c_133 41 22 = n2 := (hid kn_161)
  have kn_163 : Hid (c_8 P 3 = n3) := (hF_10 P 3 (qn_7ba88e57e hP)).trans (hn3)
  have kn_164 : Hid (c_133 P 3 = n3) := (hF_135 P 3 (qn_857752076 hP)).trans ((up_c (np0 hP rfl)).trans (hid kn_163))
  have h_165 : c_133 P 3 = n3 := (hid kn_164)
  have kn_166 : Hid (c_8 41 23 = n3) := (hF_10 41 23 (fun q => q.elim (fun h => absurd h.1 (nn rfl)) (fun h => absurd h.1 (nn rfl)))).trans (hm3)
  have kn_167 : Hid (c_133 41 23 = n3) := (hF_135 41 23 qn_b79f282cd).trans ((up_c (nn rfl)).trans (hid kn_166))
  have h_168 : c_133 41 23 = n3 := (hid kn_167)
  have kn_169 : Hid (c_8 3 4 = c 3 4) := hF_10 3 4 (fun q => q.elim (fun h => absurd h.1 (nn rfl)) (fun h => absurd h.1 (nn rfl)))
  have kn_170 : Hid (c_133 3 4 = c 3 4) := (hF_135 3 4 qn_bf2303cc8).trans ((up_c (nn rfl)).trans (hid kn_169))
  have h_171 : c_133 3 4 = c 3 4 := (hid kn_170)
  have h_172 := ir_41_52 hI
  have kn_173 : Hid (c_8 41 52 = c 41 52) := hF_10 41 52 (fun q => q.elim (fun h => absurd h.1 (nn rfl)) (fun h => absurd h.1 (nn rfl)))
  have kn_174 : Hid (c_133 41 52 = c 41 52) := (hF_135 41 52 qn_90835161a).trans ((up_c (nn rfl)).trans (hid kn_173))
  have h_175 : c_133 41 52 = c 41 52 := (hid kn_174)
  have h_176 := ir_3_3 hI
  have kn_177 : Hid (c_8 3 3 = c 3 3) := hF_10 3 3 (fun q => q.elim (fun h => absurd h.1 (nn rfl)) (fun h => absurd h.1 (nn rfl)))
  have kn_178 : Hid (c_133 3 3 = c 3 3) := (hF_135 3 3 qn_bf2303cc8).trans ((up_c (nn rfl)).trans (hid kn_177))
  have h_179 : c_133 3 3 = c 3 3 := (hid kn_178)
  have h_180 := ir_41_35 hI
  have kn_181 : Hid (c_8 41 35 = c 41 35) := hF_10 41 35 (fun q => q.elim (fun h => absurd h.1 (nn rfl)) (fun h => absurd h.1 (nn rfl)))
  have kn_182 : Hid (c_133 41 35 = c 41 35) := (hF_135 41 35 qn_732a91ea5).trans ((up_c (nn rfl)).trans (hid kn_181))
  have h_183 : c_133 41 35 = c 41 35 := (hid kn_182)
  have h_184 : c_133 3 4 = c 3 4 := (hid kn_170)
  have h_185 := ir_1_5 hI
  have kn_186 : Hid (c_8 1 5 = c 1 5) := hF_10 1 5 (fun q => q.elim (fun h => absurd h.1 (nn rfl)) (fun h => absurd h.1 (nn rfl)))
  have kn_187 : Hid (c_133 1 5 = c 1 5) := (hF_135 1 5 qn_39cd18c3e).trans ((up_c (nn rfl)).trans (hid kn_186))
  have h_188 : c_133 1 5 = c 1 5 := (hid kn_187)
  have h_189 := ir_41_8 hI
  have kn_190 : Hid (c_8 41 8 = c 41 8) := hF_10 41 8 (fun q => q.elim (fun h => absurd h.1 (nn rfl)) (fun h => absurd h.1 (nn rfl)))
  have kn_191 : Hid (c_133 41 8 = c 41 8) := (hF_135 41 8 qn_b601a9968).trans ((up_c (nn rfl)).trans (hid kn_190))
  have h_192 : c_133 41 8 = c 41 8 := (hid kn_191)
  exact K P Q c_133 0 (by decide) hI_134 ⟨by omega, ub_fr hU (fun j => (hF_135 2 j qn_2ad67e194).trans ((up_c (nn rfl)).trans (hF_10 2 j (fun q => q.elim (fun h => absurd h.1 (nn rfl)) (fun h => absurd h.1 (nn rfl)))))) (fun j => (hF_135 43 j qn_1520ff5e3).trans ((up_c (nn rfl)).trans (hF_10 43 j (fun q => q.elim (fun h => absurd h.1 (nn rfl)) (fun h => absurd h.1 (nn rfl)))))), ⟨by omega, by omega, by omega, by omega⟩, by omega, by omega, iw_fr2 hIw (by omega) (fun j => (hF_135 6 j qn_e1050858a).trans ((up_c (nn rfl)).trans (hF_10 6 j (fun q => q.elim (fun h => absurd h.1 (nn rfl)) (fun h => absurd h.1 (nn rfl)))))) (fun j => (hF_135 66 j qn_5616dd9ce).trans ((up_c (nn rfl)).trans (hF_10 66 j (fun q => q.elim (fun h => absurd h.1 (nn rfl)) (fun h => absurd h.1 (nn rfl)))))), by omega⟩

set_option maxRecDepth 100000 in
set_option maxHeartbeats 4000000 in
theorem o_10 {xs : Nat → Int32} {L i0 d nc ns P Q : Nat} {c : ME} {Z : AR → Prop} (hi : i0 + 8 ≤ L) (hL : L ≤ 100000) (hI : Iv 0 (-1) P Q c) (hR : Rq P c) (K : ∀ (P2 Q2 : Nat) (c2 : ME) (e : Nat), e ≤ 1 → Iv 0 (-1) P2 Q2 c2 → (Rq P2 c2) → Wp (a_scr L xs) (d + 90) 296 1816 [(4, vi (i0 : Int)), (3, .ref 67), (2, .ref 41), (1, .ref 0), (0, .ref a_SC)] [] (Wd P2 Q2 P2 P2 c2) (nc + e) (ns + 6 * e) Z) : Wp (a_scr L xs) (d + 90) 296 535 [(4, vi (i0 : Int)), (3, .ref 67), (2, .ref 41), (1, .ref 0), (0, .ref a_SC)] [] (Wd P Q P P c) nc ns Z := by
  obtain ⟨x1, hx1⟩ : ∃ z, (xs (i0 + 1)).toInt = z := ⟨_, rfl⟩
  have x1r := c_rng (xs (i0 + 1))
  rw [hx1] at x1r
  obtain ⟨x2, hx2⟩ : ∃ z, (xs (i0 + 2)).toInt = z := ⟨_, rfl⟩
  have x2r := c_rng (xs (i0 + 2))
  rw [hx2] at x2r
  obtain ⟨x3, hx3⟩ : ∃ z, (xs (i0 + 3)).toInt = z := ⟨_, rfl⟩
  have x3r := c_rng (xs (i0 + 3))
  rw [hx3] at x3r
  obtain ⟨x4, hx4⟩ : ∃ z, (xs (i0 + 4)).toInt = z := ⟨_, rfl⟩
  have x4r := c_rng (xs (i0 + 4))
  rw [hx4] at x4r
  obtain ⟨x5, hx5⟩ : ∃ z, (xs (i0 + 5)).toInt = z := ⟨_, rfl⟩
  have x5r := c_rng (xs (i0 + 5))
  rw [hx5] at x5r
  obtain ⟨x6, hx6⟩ : ∃ z, (xs (i0 + 6)).toInt = z := ⟨_, rfl⟩
  have x6r := c_rng (xs (i0 + 6))
  rw [hx6] at x6r
  obtain ⟨x7, hx7⟩ : ∃ z, (xs (i0 + 7)).toInt = z := ⟨_, rfl⟩
  have x7r := c_rng (xs (i0 + 7))
  rw [hx7] at x7r
  have hP := iv_P hI
  have hQ := iv_Q hI
  have hT := rl_t hR
  have hU := rl_u hR
  obtain ⟨n0, hn0⟩ : ∃ z, c P 0 = z := ⟨_, rfl⟩
  have hm0 : c 41 20 = n0 := (rl_nums hR).1.symm.trans hn0
  have hr0 := ir_p0_0 hI hP
  rw [hn0] at hr0
  obtain ⟨n1, hn1⟩ : ∃ z, c P 1 = z := ⟨_, rfl⟩
  have hm1 : c 41 21 = n1 := (rl_nums hR).2.1.symm.trans hn1
  have hr1 := ir_p0_1 hI hP
  rw [hn1] at hr1
  obtain ⟨n2, hn2⟩ : ∃ z, c P 2 = z := ⟨_, rfl⟩
  have hm2 : c 41 22 = n2 := (rl_nums hR).2.2.1.symm.trans hn2
  have hr2 := ir_p0_2 hI hP
  rw [hn2] at hr2
  obtain ⟨n3, hn3⟩ : ∃ z, c P 3 = z := ⟨_, rfl⟩
  have hm3 : c 41 23 = n3 := (rl_nums hR).2.2.2.symm.trans hn3
  have hr3 := ir_p0_3 hI hP
  rw [hn3] at hr3
  have hNimg := rl_img hR
  have hNwk := rl_wk hR
  have h_1 := ir_3_4 hI
  have hIw := rl_iw hR
  have hNplace := rl_place hR
  refine q_aload_n c_296_535 rfl (q_aload_n c_296_536 rfl (q_iload c_296_537 rfl (q_iconst c_296_539 (v_iadd (v := (i0 : Int) + 1) c_296_540 rfl (v_scr (j := i0 + 1) c_296_541 (by omega) (by omega) hL hx1 (q_aload_n c_296_542 rfl (q_iload c_296_543 rfl ?_)))))))
  refine q_iconst c_296_545 (v_iadd (v := (i0 : Int) + 2) c_296_546 rfl (v_scr (j := i0 + 2) c_296_547 (by omega) (by omega) hL hx2 (q_aload_n c_296_548 rfl (q_call c_296_549 rfl rfl rfl (q_aload_n c_270_0 rfl (q_iconst c_270_1 (q_aload_n c_270_2 rfl ?_)))))))
  refine q_iload_n c_270_3 rfl (q_iload_n c_270_4 rfl ?_)
  refine v_cv c_270_5 km_9_36 rfl rfl (Nat.le_of_ble_eq_true rfl) ⟨⟨rfl, rfl⟩, Nat.le_of_ble_eq_true rfl, rfl⟩ (Nat.le_of_ble_eq_true rfl) (Nat.le_of_ble_eq_true rfl) (s_95 (a1 := x1) (a2 := x2) hI (show (-2147483648) ≤ x1 ∧ x1 ≤ 2147483647 from ⟨by omega, by omega⟩) (show (-2147483648) ≤ x2 ∧ x2 ≤ 2147483647 from ⟨by omega, by omega⟩) (fun c_2 hI_3 hF_4 => ?_) (fun c_5 hI_6 hF_7 => ?_) (fun c_8 y_11 hI_9 hF_10 hy_11 => ?_))
  · skip
    refine bk_thr (z := Int32.ofInt 1) rfl ⟨_, _, rfl⟩ rfl (bk_inl (q_istore c_296_552 (Nat.le_of_ble_eq_true rfl) (q_aload_n c_296_554 rfl (q_aload_n c_296_555 rfl (q_iload c_296_556 rfl (q_iconst c_296_558 (v_iadd (v := (i0 : Int) + 1) c_296_559 rfl ?_)))))))
    refine v_scr (j := i0 + 1) c_296_560 (by omega) (by omega) hL hx1 (q_aload_n c_296_561 rfl (q_iload c_296_562 rfl (q_iconst c_296_564 (v_iadd (v := (i0 : Int) + 2) c_296_565 rfl (v_scr (j := i0 + 2) c_296_566 (by omega) (by omega) hL hx2 (v_cv c_296_567 km_9_164 rfl rfl (Nat.le_of_ble_eq_true rfl) ⟨⟨rfl, rfl⟩, Nat.le_of_ble_eq_true rfl, rfl⟩ (Nat.le_of_ble_eq_true rfl) (Nat.le_of_ble_eq_true rfl) (s_214 (a1 := x1) (a2 := x2) hI_3 (show (-2147483648) ≤ x1 ∧ x1 ≤ 2147483647 from ⟨by omega, by omega⟩) (show (-2147483648) ≤ x2 ∧ x2 ≤ 2147483647 from ⟨by omega, by omega⟩) (fun c_12 y_15 hI_13 hF_14 hy_15 => (bk_inl ?_)))))))))
    refine q_istore c_296_570 (Nat.le_of_ble_eq_true rfl) (q_goto (t := 1816) c_296_572 rfl (Wp_ls [(4, vi (i0 : Int)), (3, .ref 67), (2, .ref 41), (1, .ref 0), (0, .ref a_SC)] (lsub_cons rfl (lsub_cons rfl (lsub_cons rfl (lsub_cons rfl (lsub_cons rfl lsub_nil))))) ?_))
    have h_16 := ir_1_3 hI
    have kn_17 : Hid (c_2 1 3 = c 1 3) := hF_4 1 3 (fun q => q.elim (fun h => absurd h.1 (nn rfl)) (fun h => absurd h.1 (nn rfl)))
    have kn_18 : Hid (c_12 1 3 = c 1 3) := (hF_14 1 3 (fun q => q.elim (fun h => absurd h.1 (nn rfl)) (fun h => absurd h (nn rfl)))).trans (hid kn_17)
    have h_19 : c_12 1 3 = c 1 3 := (hid kn_18)
    have h_20 := ir_41_2 hI
    have kn_21 : Hid (c_2 41 2 = c 41 2) := hF_4 41 2 (fun q => q.elim (fun h => absurd h.1 (nn rfl)) (fun h => absurd h.1 (nn rfl)))
    have kn_22 : Hid (c_12 41 2 = c 41 2) := (hF_14 41 2 (fun q => q.elim (fun h => absurd h.2 (ni rfl)) (fun h => absurd h (nn rfl)))).trans (hid kn_21)
    have h_23 : c_12 41 2 = c 41 2 := (hid kn_22)
    have kn_24 : Hid (c_2 P 0 = n0) := (hF_4 P 0 (qn_7ba88e57e hP)).trans (hn0)
    have kn_25 : Hid (c_12 P 0 = n0) := (hF_14 P 0 (qn_753ab1e1a hP)).trans (hid kn_24)
    have h_26 : c_12 P 0 = n0 := (hid kn_25)
    have kn_27 : Hid (c_2 41 20 = n0) := (hF_4 41 20 (fun q => q.elim (fun h => absurd h.1 (nn rfl)) (fun h => absurd h.1 (nn rfl)))).trans (hm0)
    have kn_28 : Hid (c_12 41 20 = n0) := (hF_14 41 20 (fun q => q.elim (fun h => absurd h.2 (ni rfl)) (fun h => absurd h (nn rfl)))).trans (hid kn_27)
    have h_29 : c_12 41 20 = n0 := (hid kn_28)
    have kn_30 : Hid (c_2 P 1 = n1) := (hF_4 P 1 (qn_7ba88e57e hP)).trans (hn1)
    have kn_31 : Hid (c_12 P 1 = n1) := (hF_14 P 1 (qn_753ab1e1a hP)).trans (hid kn_30)
    have h_32 : c_12 P 1 = n1 := (hid kn_31)
    have kn_33 : Hid (c_2 41 21 = n1) := (hF_4 41 21 (fun q => q.elim (fun h => absurd h.1 (nn rfl)) (fun h => absurd h.1 (nn rfl)))).trans (hm1)
    have kn_34 : Hid (c_12 41 21 = n1) := (hF_14 41 21 (fun q => q.elim (fun h => absurd h.2 (ni rfl)) (fun h => absurd h (nn rfl)))).trans (hid kn_33)
    have h_35 : c_12 41 21 = n1 := (hid kn_34)
    have kn_36 : Hid (c_2 P 2 = n2) := (hF_4 P 2 (qn_7ba88e57e hP)).trans (hn2)
    have kn_37 : Hid (c_12 P 2 = n2) := (hF_14 P 2 (qn_753ab1e1a hP)).trans (hid kn_36)
    have h_38 : c_12 P 2 = n2 := (hid kn_37)
    have kn_39 : Hid (c_2 41 22 = n2) := (hF_4 41 22 (fun q => q.elim (fun h => absurd h.1 (nn rfl)) (fun h => absurd h.1 (nn rfl)))).trans (hm2)
    have kn_40 : Hid (c_12 41 22 = n2) := (hF_14 41 22 (fun q => q.elim (fun h => absurd h.2 (ni rfl)) (fun h => absurd h (nn rfl)))).trans (hid kn_39)
    have h_41 : c_12 41 22 = n2 := (hid kn_40)
    have kn_42 : Hid (c_2 P 3 = n3) := (hF_4 P 3 (qn_7ba88e57e hP)).trans (hn3)
    have kn_43 : Hid (c_12 P 3 = n3) := (hF_14 P 3 (qn_753ab1e1a hP)).trans (hid kn_42)
    have h_44 : c_12 P 3 = n3 := (hid kn_43)
    have kn_45 : Hid (c_2 41 23 = n3) := (hF_4 41 23 (fun q => q.elim (fun h => absurd h.1 (nn rfl)) (fun h => absurd h.1 (nn rfl)))).trans (hm3)
    have kn_46 : Hid (c_12 41 23 = n3) := (hF_14 41 23 (fun q => q.elim (fun h => absurd h.2 (ni rfl)) (fun h => absurd h (nn rfl)))).trans (hid kn_45)
    have h_47 : c_12 41 23 = n3 := (hid kn_46)
    have kn_48 : Hid (c_2 3 4 = c 3 4) := hF_4 3 4 (fun q => q.elim (fun h => absurd h.1 (nn rfl)) (fun h => absurd h.1 (nn rfl)))
    have kn_49 : Hid (c_12 3 4 = c 3 4) := (hF_14 3 4 (fun q => q.elim (fun h => absurd h.1 (nn rfl)) (fun h => absurd h (nn rfl)))).trans (hid kn_48)
    have h_50 : c_12 3 4 = c 3 4 := (hid kn_49)
    have h_51 := ir_41_52 hI
    have kn_52 : Hid (c_2 41 52 = c 41 52) := hF_4 41 52 (fun q => q.elim (fun h => absurd h.1 (nn rfl)) (fun h => absurd h.1 (nn rfl)))
    have kn_53 : Hid (c_12 41 52 = c 41 52) := (hF_14 41 52 (fun q => q.elim (fun h => absurd h.2 (ni rfl)) (fun h => absurd h (nn rfl)))).trans (hid kn_52)
    have h_54 : c_12 41 52 = c 41 52 := (hid kn_53)
    have h_55 := ir_3_3 hI
    have kn_56 : Hid (c_2 3 3 = c 3 3) := hF_4 3 3 (fun q => q.elim (fun h => absurd h.1 (nn rfl)) (fun h => absurd h.1 (nn rfl)))
    have kn_57 : Hid (c_12 3 3 = c 3 3) := (hF_14 3 3 (fun q => q.elim (fun h => absurd h.1 (nn rfl)) (fun h => absurd h (nn rfl)))).trans (hid kn_56)
    have h_58 : c_12 3 3 = c 3 3 := (hid kn_57)
    have h_59 := ir_41_35 hI
    have kn_60 : Hid (c_2 41 35 = c 41 35) := hF_4 41 35 (fun q => q.elim (fun h => absurd h.1 (nn rfl)) (fun h => absurd h.1 (nn rfl)))
    have kn_61 : Hid (c_12 41 35 = c 41 35) := (hF_14 41 35 (fun q => q.elim (fun h => absurd h.2 (ni rfl)) (fun h => absurd h (nn rfl)))).trans (hid kn_60)
    have h_62 : c_12 41 35 = c 41 35 := (hid kn_61)
    have h_63 : c_12 3 4 = c 3 4 := (hid kn_49)
    have h_64 := ir_1_5 hI
    have kn_65 : Hid (c_2 1 5 = c 1 5) := hF_4 1 5 (fun q => q.elim (fun h => absurd h.1 (nn rfl)) (fun h => absurd h.1 (nn rfl)))
    have kn_66 : Hid (c_12 1 5 = c 1 5) := (hF_14 1 5 (fun q => q.elim (fun h => absurd h.1 (nn rfl)) (fun h => absurd h (nn rfl)))).trans (hid kn_65)
    have h_67 : c_12 1 5 = c 1 5 := (hid kn_66)
    have h_68 := ir_41_8 hI
    have kn_69 : Hid (c_2 41 8 = c 41 8) := hF_4 41 8 (fun q => q.elim (fun h => absurd h.1 (nn rfl)) (fun h => absurd h.1 (nn rfl)))
    have kn_70 : Hid (c_12 41 8 = c 41 8) := (hF_14 41 8 (fun q => q.elim (fun h => absurd h.2 (ni rfl)) (fun h => absurd h (nn rfl)))).trans (hid kn_69)
    have h_71 : c_12 41 8 = c 41 8 := (hid kn_70)
    exact K P Q c_12 1 (by decide) hI_13 ⟨by omega, ub_fr hU (fun j => (hF_14 2 j (fun q => q.elim (fun h => absurd h.1 (nn rfl)) (fun h => absurd h (nn rfl)))).trans (hF_4 2 j (fun q => q.elim (fun h => absurd h.1 (nn rfl)) (fun h => absurd h.1 (nn rfl))))) (fun j => (hF_14 43 j (fun q => q.elim (fun h => absurd h.1 (nn rfl)) (fun h => absurd h (nn rfl)))).trans (hF_4 43 j (fun q => q.elim (fun h => absurd h.1 (nn rfl)) (fun h => absurd h.1 (nn rfl))))), ⟨by omega, by omega, by omega, by omega⟩, by omega, by omega, iw_fr2 hIw (by omega) (fun j => (hF_14 6 j (fun q => q.elim (fun h => absurd h.1 (nn rfl)) (fun h => absurd h (nn rfl)))).trans (hF_4 6 j (fun q => q.elim (fun h => absurd h.1 (nn rfl)) (fun h => absurd h.1 (nn rfl))))) (fun j => (hF_14 66 j (fun q => q.elim (fun h => absurd h.1 (nn rfl)) (fun h => absurd h (nn rfl)))).trans (hF_4 66 j (fun q => q.elim (fun h => absurd h.1 (nn rfl)) (fun h => absurd h.1 (nn rfl))))), by omega⟩
  · skip
    refine bk_thr (z := Int32.ofInt 2) rfl ⟨_, _, rfl⟩ rfl (bk_inl (q_istore c_296_552 (Nat.le_of_ble_eq_true rfl) (q_aload_n c_296_554 rfl (q_aload_n c_296_555 rfl (q_iload c_296_556 rfl (q_iconst c_296_558 (v_iadd (v := (i0 : Int) + 1) c_296_559 rfl ?_)))))))
    refine v_scr (j := i0 + 1) c_296_560 (by omega) (by omega) hL hx1 (q_aload_n c_296_561 rfl (q_iload c_296_562 rfl (q_iconst c_296_564 (v_iadd (v := (i0 : Int) + 2) c_296_565 rfl (v_scr (j := i0 + 2) c_296_566 (by omega) (by omega) hL hx2 (v_cv c_296_567 km_9_164 rfl rfl (Nat.le_of_ble_eq_true rfl) ⟨⟨rfl, rfl⟩, Nat.le_of_ble_eq_true rfl, rfl⟩ (Nat.le_of_ble_eq_true rfl) (Nat.le_of_ble_eq_true rfl) (s_214 (a1 := x1) (a2 := x2) hI_6 (show (-2147483648) ≤ x1 ∧ x1 ≤ 2147483647 from ⟨by omega, by omega⟩) (show (-2147483648) ≤ x2 ∧ x2 ≤ 2147483647 from ⟨by omega, by omega⟩) (fun c_72 y_75 hI_73 hF_74 hy_75 => (bk_inl ?_)))))))))
    refine q_istore c_296_570 (Nat.le_of_ble_eq_true rfl) (q_goto (t := 1816) c_296_572 rfl (Wp_ls [(4, vi (i0 : Int)), (3, .ref 67), (2, .ref 41), (1, .ref 0), (0, .ref a_SC)] (lsub_cons rfl (lsub_cons rfl (lsub_cons rfl (lsub_cons rfl (lsub_cons rfl lsub_nil))))) ?_))
    have h_76 := ir_1_3 hI
    have kn_77 : Hid (c_5 1 3 = c 1 3) := hF_7 1 3 (fun q => q.elim (fun h => absurd h.1 (nn rfl)) (fun h => absurd h.1 (nn rfl)))
    have kn_78 : Hid (c_72 1 3 = c 1 3) := (hF_74 1 3 (fun q => q.elim (fun h => absurd h.1 (nn rfl)) (fun h => absurd h (nn rfl)))).trans (hid kn_77)
    have h_79 : c_72 1 3 = c 1 3 := (hid kn_78)
    have h_80 := ir_41_2 hI
    have kn_81 : Hid (c_5 41 2 = c 41 2) := hF_7 41 2 (fun q => q.elim (fun h => absurd h.1 (nn rfl)) (fun h => absurd h.1 (nn rfl)))
    have kn_82 : Hid (c_72 41 2 = c 41 2) := (hF_74 41 2 (fun q => q.elim (fun h => absurd h.2 (ni rfl)) (fun h => absurd h (nn rfl)))).trans (hid kn_81)
    have h_83 : c_72 41 2 = c 41 2 := (hid kn_82)
    have kn_84 : Hid (c_5 P 0 = n0) := (hF_7 P 0 (qn_7ba88e57e hP)).trans (hn0)
    have kn_85 : Hid (c_72 P 0 = n0) := (hF_74 P 0 (qn_753ab1e1a hP)).trans (hid kn_84)
    have h_86 : c_72 P 0 = n0 := (hid kn_85)
    have kn_87 : Hid (c_5 41 20 = n0) := (hF_7 41 20 (fun q => q.elim (fun h => absurd h.1 (nn rfl)) (fun h => absurd h.1 (nn rfl)))).trans (hm0)
    have kn_88 : Hid (c_72 41 20 = n0) := (hF_74 41 20 (fun q => q.elim (fun h => absurd h.2 (ni rfl)) (fun h => absurd h (nn rfl)))).trans (hid kn_87)
    have h_89 : c_72 41 20 = n0 := (hid kn_88)
    have kn_90 : Hid (c_5 P 1 = n1) := (hF_7 P 1 (qn_7ba88e57e hP)).trans (hn1)
    have kn_91 : Hid (c_72 P 1 = n1) := (hF_74 P 1 (qn_753ab1e1a hP)).trans (hid kn_90)
    have h_92 : c_72 P 1 = n1 := (hid kn_91)
    have kn_93 : Hid (c_5 41 21 = n1) := (hF_7 41 21 (fun q => q.elim (fun h => absurd h.1 (nn rfl)) (fun h => absurd h.1 (nn rfl)))).trans (hm1)
    have kn_94 : Hid (c_72 41 21 = n1) := (hF_74 41 21 (fun q => q.elim (fun h => absurd h.2 (ni rfl)) (fun h => absurd h (nn rfl)))).trans (hid kn_93)
    have h_95 : c_72 41 21 = n1 := (hid kn_94)
    have kn_96 : Hid (c_5 P 2 = n2) := (hF_7 P 2 (qn_7ba88e57e hP)).trans (hn2)
    have kn_97 : Hid (c_72 P 2 = n2) := (hF_74 P 2 (qn_753ab1e1a hP)).trans (hid kn_96)
    have h_98 : c_72 P 2 = n2 := (hid kn_97)
    have kn_99 : Hid (c_5 41 22 = n2) := (hF_7 41 22 (fun q => q.elim (fun h => absurd h.1 (nn rfl)) (fun h => absurd h.1 (nn rfl)))).trans (hm2)
    have kn_100 : Hid (c_72 41 22 = n2) := (hF_74 41 22 (fun q => q.elim (fun h => absurd h.2 (ni rfl)) (fun h => absurd h (nn rfl)))).trans (hid kn_99)
    have h_101 : c_72 41 22 = n2 := (hid kn_100)
    have kn_102 : Hid (c_5 P 3 = n3) := (hF_7 P 3 (qn_7ba88e57e hP)).trans (hn3)
    have kn_103 : Hid (c_72 P 3 = n3) := (hF_74 P 3 (qn_753ab1e1a hP)).trans (hid kn_102)
    have h_104 : c_72 P 3 = n3 := (hid kn_103)
    have kn_105 : Hid (c_5 41 23 = n3) := (hF_7 41 23 (fun q => q.elim (fun h => absurd h.1 (nn rfl)) (fun h => absurd h.1 (nn rfl)))).trans (hm3)
    have kn_106 : Hid (c_72 41 23 = n3) := (hF_74 41 23 (fun q => q.elim (fun h => absurd h.2 (ni rfl)) (fun h => absurd h (nn rfl)))).trans (hid kn_105)
    have h_107 : c_72 41 23 = n3 := (hid kn_106)
    have kn_108 : Hid (c_5 3 4 = c 3 4) := hF_7 3 4 (fun q => q.elim (fun h => absurd h.1 (nn rfl)) (fun h => absurd h.1 (nn rfl)))
    have kn_109 : Hid (c_72 3 4 = c 3 4) := (hF_74 3 4 (fun q => q.elim (fun h => absurd h.1 (nn rfl)) (fun h => absurd h (nn rfl)))).trans (hid kn_108)
    have h_110 : c_72 3 4 = c 3 4 := (hid kn_109)
    have h_111 := ir_41_52 hI
    have kn_112 : Hid (c_5 41 52 = c 41 52) := hF_7 41 52 (fun q => q.elim (fun h => absurd h.1 (nn rfl)) (fun h => absurd h.1 (nn rfl)))
    have kn_113 : Hid (c_72 41 52 = c 41 52) := (hF_74 41 52 (fun q => q.elim (fun h => absurd h.2 (ni rfl)) (fun h => absurd h (nn rfl)))).trans (hid kn_112)
    have h_114 : c_72 41 52 = c 41 52 := (hid kn_113)
    have h_115 := ir_3_3 hI
    have kn_116 : Hid (c_5 3 3 = c 3 3) := hF_7 3 3 (fun q => q.elim (fun h => absurd h.1 (nn rfl)) (fun h => absurd h.1 (nn rfl)))
    have kn_117 : Hid (c_72 3 3 = c 3 3) := (hF_74 3 3 (fun q => q.elim (fun h => absurd h.1 (nn rfl)) (fun h => absurd h (nn rfl)))).trans (hid kn_116)
    have h_118 : c_72 3 3 = c 3 3 := (hid kn_117)
    have h_119 := ir_41_35 hI
    have kn_120 : Hid (c_5 41 35 = c 41 35) := hF_7 41 35 (fun q => q.elim (fun h => absurd h.1 (nn rfl)) (fun h => absurd h.1 (nn rfl)))
    have kn_121 : Hid (c_72 41 35 = c 41 35) := (hF_74 41 35 (fun q => q.elim (fun h => absurd h.2 (ni rfl)) (fun h => absurd h (nn rfl)))).trans (hid kn_120)
    have h_122 : c_72 41 35 = c 41 35 := (hid kn_121)
    have h_123 : c_72 3 4 = c 3 4 := (hid kn_109)
    have h_124 := ir_1_5 hI
    have kn_125 : Hid (c_5 1 5 = c 1 5) := hF_7 1 5 (fun q => q.elim (fun h => absurd h.1 (nn rfl)) (fun h => absurd h.1 (nn rfl)))
    have kn_126 : Hid (c_72 1 5 = c 1 5) := (hF_74 1 5 (fun q => q.elim (fun h => absurd h.1 (nn rfl)) (fun h => absurd h (nn rfl)))).trans (hid kn_125)
    have h_127 : c_72 1 5 = c 1 5 := (hid kn_126)
    have h_128 := ir_41_8 hI
    have kn_129 : Hid (c_5 41 8 = c 41 8) := hF_7 41 8 (fun q => q.elim (fun h => absurd h.1 (nn rfl)) (fun h => absurd h.1 (nn rfl)))
    have kn_130 : Hid (c_72 41 8 = c 41 8) := (hF_74 41 8 (fun q => q.elim (fun h => absurd h.2 (ni rfl)) (fun h => absurd h (nn rfl)))).trans (hid kn_129)
    have h_131 : c_72 41 8 = c 41 8 := (hid kn_130)
    exact K P Q c_72 1 (by decide) hI_73 ⟨by omega, ub_fr hU (fun j => (hF_74 2 j (fun q => q.elim (fun h => absurd h.1 (nn rfl)) (fun h => absurd h (nn rfl)))).trans (hF_7 2 j (fun q => q.elim (fun h => absurd h.1 (nn rfl)) (fun h => absurd h.1 (nn rfl))))) (fun j => (hF_74 43 j (fun q => q.elim (fun h => absurd h.1 (nn rfl)) (fun h => absurd h (nn rfl)))).trans (hF_7 43 j (fun q => q.elim (fun h => absurd h.1 (nn rfl)) (fun h => absurd h.1 (nn rfl))))), ⟨by omega, by omega, by omega, by omega⟩, by omega, by omega, iw_fr2 hIw (by omega) (fun j => (hF_74 6 j (fun q => q.elim (fun h => absurd h.1 (nn rfl)) (fun h => absurd h (nn rfl)))).trans (hF_7 6 j (fun q => q.elim (fun h => absurd h.1 (nn rfl)) (fun h => absurd h.1 (nn rfl))))) (fun j => (hF_74 66 j (fun q => q.elim (fun h => absurd h.1 (nn rfl)) (fun h => absurd h (nn rfl)))).trans (hF_7 66 j (fun q => q.elim (fun h => absurd h.1 (nn rfl)) (fun h => absurd h.1 (nn rfl))))), by omega⟩
  refine bk_inl (v_i2l c_270_8 (by omega) (v_ls c_270_9 rfl (by decide) (by decide) (by decide) (q_goto (t := 21) c_270_10 rfl (q_iconst c_270_21 (q_iret c_270_22 rfl (bk_inl (q_istore c_296_552 (Nat.le_of_ble_eq_true rfl) ?_)))))))
  refine q_aload_n c_296_554 rfl (q_aload_n c_296_555 rfl (q_iload c_296_556 rfl (q_iconst c_296_558 (v_iadd (v := (i0 : Int) + 1) c_296_559 rfl (v_scr (j := i0 + 1) c_296_560 (by omega) (by omega) hL hx1 (q_aload_n c_296_561 rfl (q_iload c_296_562 rfl ?_)))))))
  refine q_iconst c_296_564 (v_iadd (v := (i0 : Int) + 2) c_296_565 rfl (v_scr (j := i0 + 2) c_296_566 (by omega) (by omega) hL hx2 ?_))
  have hI_132 := iw_lx (a := 67) (j := 0) (v := y_11) hI_9 (by omega)
  refine v_cv c_296_567 km_9_164 rfl rfl (Nat.le_of_ble_eq_true rfl) ⟨⟨rfl, rfl⟩, Nat.le_of_ble_eq_true rfl, rfl⟩ (Nat.le_of_ble_eq_true rfl) (Nat.le_of_ble_eq_true rfl) (s_214 (a1 := x1) (a2 := x2) hI_132 (show (-2147483648) ≤ x1 ∧ x1 ≤ 2147483647 from ⟨by omega, by omega⟩) (show (-2147483648) ≤ x2 ∧ x2 ≤ 2147483647 from ⟨by omega, by omega⟩) (fun c_133 y_136 hI_134 hF_135 hy_136 => (bk_inl (q_istore c_296_570 (Nat.le_of_ble_eq_true rfl) (q_goto (t := 1816) c_296_572 rfl (Wp_ls [(4, vi (i0 : Int)), (3, .ref 67), (2, .ref 41), (1, .ref 0), (0, .ref a_SC)] (lsub_cons rfl (lsub_cons rfl (lsub_cons rfl (lsub_cons rfl (lsub_cons rfl lsub_nil))))) ?_))))))
  have h_137 := ir_1_3 hI
  have kn_138 : Hid (c_8 1 3 = c 1 3) := hF_10 1 3 (fun q => q.elim (fun h => absurd h.1 (nn rfl)) (fun h => absurd h.1 (nn rfl)))
  have kn_139 : Hid (c_133 1 3 = c 1 3) := (hF_135 1 3 (fun q => q.elim (fun h => absurd h.1 (nn rfl)) (fun h => absurd h (nn rfl)))).trans ((up_c (nn rfl)).trans (hid kn_138))
  have h_140 : c_133 1 3 = c 1 3 := (hid kn_139)
  have h_141 := ir_41_2 hI
  have kn_142 : Hid (c_8 41 2 = c 41 2) := hF_10 41 2 (fun q => q.elim (fun h => absurd h.1 (nn rfl)) (fun h => absurd h.1 (nn rfl)))
  have kn_143 : Hid (c_133 41 2 = c 41 2) := (hF_135 41 2 (fun q => q.elim (fun h => absurd h.2 (ni rfl)) (fun h => absurd h (nn rfl)))).trans ((up_c (nn rfl)).trans (hid kn_142))
  have h_144 : c_133 41 2 = c 41 2 := (hid kn_143)
  have kn_145 : Hid (c_8 P 0 = n0) := (hF_10 P 0 (qn_7ba88e57e hP)).trans (hn0)
  have kn_146 : Hid (c_133 P 0 = n0) := (hF_135 P 0 (qn_753ab1e1a hP)).trans ((up_c (np0 hP rfl)).trans (hid kn_145))
  have h_147 : c_133 P 0 = n0 := (hid kn_146)
  have kn_148 : Hid (c_8 41 20 = n0) := (hF_10 41 20 (fun q => q.elim (fun h => absurd h.1 (nn rfl)) (fun h => absurd h.1 (nn rfl)))).trans (hm0)
  have kn_149 : Hid (c_133 41 20 = n0) := (hF_135 41 20 (fun q => q.elim (fun h => absurd h.2 (ni rfl)) (fun h => absurd h (nn rfl)))).trans ((up_c (nn rfl)).trans (hid kn_148))
  have h_150 : c_133 41 20 = n0 := (hid kn_149)
  have kn_151 : Hid (c_8 P 1 = n1) := (hF_10 P 1 (qn_7ba88e57e hP)).trans (hn1)
  have kn_152 : Hid (c_133 P 1 = n1) := (hF_135 P 1 (qn_753ab1e1a hP)).trans ((up_c (np0 hP rfl)).trans (hid kn_151))
  have h_153 : c_133 P 1 = n1 := (hid kn_152)
  have kn_154 : Hid (c_8 41 21 = n1) := (hF_10 41 21 (fun q => q.elim (fun h => absurd h.1 (nn rfl)) (fun h => absurd h.1 (nn rfl)))).trans (hm1)
  have kn_155 : Hid (c_133 41 21 = n1) := (hF_135 41 21 (fun q => q.elim (fun h => absurd h.2 (ni rfl)) (fun h => absurd h (nn rfl)))).trans ((up_c (nn rfl)).trans (hid kn_154))
  have h_156 : c_133 41 21 = n1 := (hid kn_155)
  have kn_157 : Hid (c_8 P 2 = n2) := (hF_10 P 2 (qn_7ba88e57e hP)).trans (hn2)
  have kn_158 : Hid (c_133 P 2 = n2) := (hF_135 P 2 (qn_753ab1e1a hP)).trans ((up_c (np0 hP rfl)).trans (hid kn_157))
  have h_159 : c_133 P 2 = n2 := (hid kn_158)
  have kn_160 : Hid (c_8 41 22 = n2) := (hF_10 41 22 (fun q => q.elim (fun h => absurd h.1 (nn rfl)) (fun h => absurd h.1 (nn rfl)))).trans (hm2)
  have kn_161 : Hid (c_133 41 22 = n2) := (hF_135 41 22 (fun q => q.elim (fun h => absurd h.2 (ni rfl)) (fun h => absurd h (nn rfl)))).trans ((up_c (nn rfl)).trans (hid kn_160))
  have h_162 : c_133 41 22 = n2 := (hid kn_161)
  have kn_163 : Hid (c_8 P 3 = n3) := (hF_10 P 3 (qn_7ba88e57e hP)).trans (hn3)
  have kn_164 : Hid (c_133 P 3 = n3) := (hF_135 P 3 (qn_753ab1e1a hP)).trans ((up_c (np0 hP rfl)).trans (hid kn_163))
  have h_165 : c_133 P 3 = n3 := (hid kn_164)
  have kn_166 : Hid (c_8 41 23 = n3) := (hF_10 41 23 (fun q => q.elim (fun h => absurd h.1 (nn rfl)) (fun h => absurd h.1 (nn rfl)))).trans (hm3)
  have kn_167 : Hid (c_133 41 23 = n3) := (hF_135 41 23 (fun q => q.elim (fun h => absurd h.2 (ni rfl)) (fun h => absurd h (nn rfl)))).trans ((up_c (nn rfl)).trans (hid kn_166))
  have h_168 : c_133 41 23 = n3 := (hid kn_167)
  have kn_169 : Hid (c_8 3 4 = c 3 4) := hF_10 3 4 (fun q => q.elim (fun h => absurd h.1 (nn rfl)) (fun h => absurd h.1 (nn rfl)))
  have kn_170 : Hid (c_133 3 4 = c 3 4) := (hF_135 3 4 (fun q => q.elim (fun h => absurd h.1 (nn rfl)) (fun h => absurd h (nn rfl)))).trans ((up_c (nn rfl)).trans (hid kn_169))
  have h_171 : c_133 3 4 = c 3 4 := (hid kn_170)
  have h_172 := ir_41_52 hI
  have kn_173 : Hid (c_8 41 52 = c 41 52) := hF_10 41 52 (fun q => q.elim (fun h => absurd h.1 (nn rfl)) (fun h => absurd h.1 (nn rfl)))
  have kn_174 : Hid (c_133 41 52 = c 41 52) := (hF_135 41 52 (fun q => q.elim (fun h => absurd h.2 (ni rfl)) (fun h => absurd h (nn rfl)))).trans ((up_c (nn rfl)).trans (hid kn_173))
  have h_175 : c_133 41 52 = c 41 52 := (hid kn_174)
  have h_176 := ir_3_3 hI
  have kn_177 : Hid (c_8 3 3 = c 3 3) := hF_10 3 3 (fun q => q.elim (fun h => absurd h.1 (nn rfl)) (fun h => absurd h.1 (nn rfl)))
  have kn_178 : Hid (c_133 3 3 = c 3 3) := (hF_135 3 3 (fun q => q.elim (fun h => absurd h.1 (nn rfl)) (fun h => absurd h (nn rfl)))).trans ((up_c (nn rfl)).trans (hid kn_177))
  have h_179 : c_133 3 3 = c 3 3 := (hid kn_178)
  have h_180 := ir_41_35 hI
  have kn_181 : Hid (c_8 41 35 = c 41 35) := hF_10 41 35 (fun q => q.elim (fun h => absurd h.1 (nn rfl)) (fun h => absurd h.1 (nn rfl)))
  have kn_182 : Hid (c_133 41 35 = c 41 35) := (hF_135 41 35 (fun q => q.elim (fun h => absurd h.2 (ni rfl)) (fun h => absurd h (nn rfl)))).trans ((up_c (nn rfl)).trans (hid kn_181))
  have h_183 : c_133 41 35 = c 41 35 := (hid kn_182)
  have h_184 : c_133 3 4 = c 3 4 := (hid kn_170)
  have h_185 := ir_1_5 hI
  have kn_186 : Hid (c_8 1 5 = c 1 5) := hF_10 1 5 (fun q => q.elim (fun h => absurd h.1 (nn rfl)) (fun h => absurd h.1 (nn rfl)))
  have kn_187 : Hid (c_133 1 5 = c 1 5) := (hF_135 1 5 (fun q => q.elim (fun h => absurd h.1 (nn rfl)) (fun h => absurd h (nn rfl)))).trans ((up_c (nn rfl)).trans (hid kn_186))
  have h_188 : c_133 1 5 = c 1 5 := (hid kn_187)
  have h_189 := ir_41_8 hI
  have kn_190 : Hid (c_8 41 8 = c 41 8) := hF_10 41 8 (fun q => q.elim (fun h => absurd h.1 (nn rfl)) (fun h => absurd h.1 (nn rfl)))
  have kn_191 : Hid (c_133 41 8 = c 41 8) := (hF_135 41 8 (fun q => q.elim (fun h => absurd h.2 (ni rfl)) (fun h => absurd h (nn rfl)))).trans ((up_c (nn rfl)).trans (hid kn_190))
  have h_192 : c_133 41 8 = c 41 8 := (hid kn_191)
  exact K P Q c_133 0 (by decide) hI_134 ⟨by omega, ub_fr hU (fun j => (hF_135 2 j (fun q => q.elim (fun h => absurd h.1 (nn rfl)) (fun h => absurd h (nn rfl)))).trans ((up_c (nn rfl)).trans (hF_10 2 j (fun q => q.elim (fun h => absurd h.1 (nn rfl)) (fun h => absurd h.1 (nn rfl)))))) (fun j => (hF_135 43 j (fun q => q.elim (fun h => absurd h.1 (nn rfl)) (fun h => absurd h (nn rfl)))).trans ((up_c (nn rfl)).trans (hF_10 43 j (fun q => q.elim (fun h => absurd h.1 (nn rfl)) (fun h => absurd h.1 (nn rfl)))))), ⟨by omega, by omega, by omega, by omega⟩, by omega, by omega, iw_fr2 hIw (by omega) (fun j => (hF_135 6 j (fun q => q.elim (fun h => absurd h.1 (nn rfl)) (fun h => absurd h (nn rfl)))).trans ((up_c (nn rfl)).trans (hF_10 6 j (fun q => q.elim (fun h => absurd h.1 (nn rfl)) (fun h => absurd h.1 (nn rfl)))))) (fun j => (hF_135 66 j (fun q => q.elim (fun h => absurd h.1 (nn rfl)) (fun h => absurd h (nn rfl)))).trans ((up_c (nn rfl)).trans (hF_10 66 j (fun q => q.elim (fun h => absurd h.1 (nn rfl)) (fun h => absurd h.1 (nn rfl)))))), by omega⟩

set_option maxRecDepth 100000 in
set_option maxHeartbeats 4000000 in
theorem o_11 {xs : Nat → Int32} {L i0 d nc ns P Q : Nat} {c : ME} {Z : AR → Prop} (hi : i0 + 8 ≤ L) (hL : L ≤ 100000) (hI : Iv 0 (-1) P Q c) (hR : Rq P c) (K : ∀ (P2 Q2 : Nat) (c2 : ME) (e : Nat), e ≤ 1 → Iv 0 (-1) P2 Q2 c2 → (Rq P2 c2) → Wp (a_scr L xs) (d + 90) 296 1816 [(4, vi (i0 : Int)), (3, .ref 67), (2, .ref 41), (1, .ref 0), (0, .ref a_SC)] [] (Wd P2 Q2 P2 P2 c2) (nc + e) (ns + 6 * e) Z) : Wp (a_scr L xs) (d + 90) 296 575 [(4, vi (i0 : Int)), (3, .ref 67), (2, .ref 41), (1, .ref 0), (0, .ref a_SC)] [] (Wd P Q P P c) nc ns Z := by
  obtain ⟨x1, hx1⟩ : ∃ z, (xs (i0 + 1)).toInt = z := ⟨_, rfl⟩
  have x1r := c_rng (xs (i0 + 1))
  rw [hx1] at x1r
  obtain ⟨x2, hx2⟩ : ∃ z, (xs (i0 + 2)).toInt = z := ⟨_, rfl⟩
  have x2r := c_rng (xs (i0 + 2))
  rw [hx2] at x2r
  obtain ⟨x3, hx3⟩ : ∃ z, (xs (i0 + 3)).toInt = z := ⟨_, rfl⟩
  have x3r := c_rng (xs (i0 + 3))
  rw [hx3] at x3r
  obtain ⟨x4, hx4⟩ : ∃ z, (xs (i0 + 4)).toInt = z := ⟨_, rfl⟩
  have x4r := c_rng (xs (i0 + 4))
  rw [hx4] at x4r
  obtain ⟨x5, hx5⟩ : ∃ z, (xs (i0 + 5)).toInt = z := ⟨_, rfl⟩
  have x5r := c_rng (xs (i0 + 5))
  rw [hx5] at x5r
  obtain ⟨x6, hx6⟩ : ∃ z, (xs (i0 + 6)).toInt = z := ⟨_, rfl⟩
  have x6r := c_rng (xs (i0 + 6))
  rw [hx6] at x6r
  obtain ⟨x7, hx7⟩ : ∃ z, (xs (i0 + 7)).toInt = z := ⟨_, rfl⟩
  have x7r := c_rng (xs (i0 + 7))
  rw [hx7] at x7r
  have hP := iv_P hI
  have hQ := iv_Q hI
  have hT := rl_t hR
  have hU := rl_u hR
  obtain ⟨n0, hn0⟩ : ∃ z, c P 0 = z := ⟨_, rfl⟩
  have hm0 : c 41 20 = n0 := (rl_nums hR).1.symm.trans hn0
  have hr0 := ir_p0_0 hI hP
  rw [hn0] at hr0
  obtain ⟨n1, hn1⟩ : ∃ z, c P 1 = z := ⟨_, rfl⟩
  have hm1 : c 41 21 = n1 := (rl_nums hR).2.1.symm.trans hn1
  have hr1 := ir_p0_1 hI hP
  rw [hn1] at hr1
  obtain ⟨n2, hn2⟩ : ∃ z, c P 2 = z := ⟨_, rfl⟩
  have hm2 : c 41 22 = n2 := (rl_nums hR).2.2.1.symm.trans hn2
  have hr2 := ir_p0_2 hI hP
  rw [hn2] at hr2
  obtain ⟨n3, hn3⟩ : ∃ z, c P 3 = z := ⟨_, rfl⟩
  have hm3 : c 41 23 = n3 := (rl_nums hR).2.2.2.symm.trans hn3
  have hr3 := ir_p0_3 hI hP
  rw [hn3] at hr3
  have hNimg := rl_img hR
  have hNwk := rl_wk hR
  have h_1 := ir_3_4 hI
  have hIw := rl_iw hR
  have hNplace := rl_place hR
  refine q_aload_n c_296_575 rfl (q_aload_n c_296_576 rfl (q_iload c_296_577 rfl (q_iconst c_296_579 (v_iadd (v := (i0 : Int) + 1) c_296_580 rfl (v_scr (j := i0 + 1) c_296_581 (by omega) (by omega) hL hx1 (q_aload_n c_296_582 rfl (q_iload c_296_583 rfl ?_)))))))
  refine q_iconst c_296_585 (v_iadd (v := (i0 : Int) + 2) c_296_586 rfl (v_scr (j := i0 + 2) c_296_587 (by omega) (by omega) hL hx2 (q_aload_n c_296_588 rfl (q_call c_296_589 rfl rfl rfl (q_aload_n c_271_0 rfl (q_iconst c_271_1 (q_aload_n c_271_2 rfl ?_)))))))
  refine q_iload_n c_271_3 rfl (q_iload_n c_271_4 rfl ?_)
  refine v_cv c_271_5 km_9_39 rfl rfl (Nat.le_of_ble_eq_true rfl) ⟨⟨rfl, rfl⟩, Nat.le_of_ble_eq_true rfl, rfl⟩ (Nat.le_of_ble_eq_true rfl) (Nat.le_of_ble_eq_true rfl) (s_97 (a1 := x1) (a2 := x2) hI (show (-2147483648) ≤ x1 ∧ x1 ≤ 2147483647 from ⟨by omega, by omega⟩) (show (-2147483648) ≤ x2 ∧ x2 ≤ 2147483647 from ⟨by omega, by omega⟩) (fun c_2 hI_3 hF_4 => ?_) (fun c_5 hI_6 hF_7 => ?_) (fun c_8 y_11 hI_9 hF_10 hy_11 => ?_))
  · skip
    refine bk_thr (z := Int32.ofInt 1) rfl ⟨_, _, rfl⟩ rfl (bk_inl (q_istore c_296_592 (Nat.le_of_ble_eq_true rfl) (q_aload_n c_296_594 rfl (q_aload_n c_296_595 rfl (q_iload c_296_596 rfl (q_iconst c_296_598 (v_iadd (v := (i0 : Int) + 1) c_296_599 rfl ?_)))))))
    refine v_scr (j := i0 + 1) c_296_600 (by omega) (by omega) hL hx1 (q_aload_n c_296_601 rfl (q_iload c_296_602 rfl (q_iconst c_296_604 (v_iadd (v := (i0 : Int) + 2) c_296_605 rfl (v_scr (j := i0 + 2) c_296_606 (by omega) (by omega) hL hx2 (v_cv c_296_607 km_9_167 rfl rfl (Nat.le_of_ble_eq_true rfl) ⟨⟨rfl, rfl⟩, Nat.le_of_ble_eq_true rfl, rfl⟩ (Nat.le_of_ble_eq_true rfl) (Nat.le_of_ble_eq_true rfl) (s_215 (a1 := x1) (a2 := x2) hI_3 (show (-2147483648) ≤ x1 ∧ x1 ≤ 2147483647 from ⟨by omega, by omega⟩) (show (-2147483648) ≤ x2 ∧ x2 ≤ 2147483647 from ⟨by omega, by omega⟩) (fun c_12 y_15 hI_13 hF_14 hy_15 => (bk_inl ?_)))))))))
    refine q_istore c_296_610 (Nat.le_of_ble_eq_true rfl) (q_goto (t := 1816) c_296_612 rfl (Wp_ls [(4, vi (i0 : Int)), (3, .ref 67), (2, .ref 41), (1, .ref 0), (0, .ref a_SC)] (lsub_cons rfl (lsub_cons rfl (lsub_cons rfl (lsub_cons rfl (lsub_cons rfl lsub_nil))))) ?_))
    have h_16 := ir_1_3 hI
    have kn_17 : Hid (c_2 1 3 = c 1 3) := hF_4 1 3 (fun q => q.elim (fun h => absurd h.1 (nn rfl)) (fun h => absurd h.1 (nn rfl)))
    have kn_18 : Hid (c_12 1 3 = c 1 3) := (hF_14 1 3 (fun q => q.elim (fun h => absurd h.1 (nn rfl)) (fun h => absurd h (nn rfl)))).trans (hid kn_17)
    have h_19 : c_12 1 3 = c 1 3 := (hid kn_18)
    have h_20 := ir_41_2 hI
    have kn_21 : Hid (c_2 41 2 = c 41 2) := hF_4 41 2 (fun q => q.elim (fun h => absurd h.1 (nn rfl)) (fun h => absurd h.1 (nn rfl)))
    have kn_22 : Hid (c_12 41 2 = c 41 2) := (hF_14 41 2 (fun q => q.elim (fun h => absurd h.2 (ni rfl)) (fun h => absurd h (nn rfl)))).trans (hid kn_21)
    have h_23 : c_12 41 2 = c 41 2 := (hid kn_22)
    have kn_24 : Hid (c_2 P 0 = n0) := (hF_4 P 0 (qn_7ba88e57e hP)).trans (hn0)
    have kn_25 : Hid (c_12 P 0 = n0) := (hF_14 P 0 (qn_753ab1e1a hP)).trans (hid kn_24)
    have h_26 : c_12 P 0 = n0 := (hid kn_25)
    have kn_27 : Hid (c_2 41 20 = n0) := (hF_4 41 20 (fun q => q.elim (fun h => absurd h.1 (nn rfl)) (fun h => absurd h.1 (nn rfl)))).trans (hm0)
    have kn_28 : Hid (c_12 41 20 = n0) := (hF_14 41 20 (fun q => q.elim (fun h => absurd h.2 (ni rfl)) (fun h => absurd h (nn rfl)))).trans (hid kn_27)
    have h_29 : c_12 41 20 = n0 := (hid kn_28)
    have kn_30 : Hid (c_2 P 1 = n1) := (hF_4 P 1 (qn_7ba88e57e hP)).trans (hn1)
    have kn_31 : Hid (c_12 P 1 = n1) := (hF_14 P 1 (qn_753ab1e1a hP)).trans (hid kn_30)
    have h_32 : c_12 P 1 = n1 := (hid kn_31)
    have kn_33 : Hid (c_2 41 21 = n1) := (hF_4 41 21 (fun q => q.elim (fun h => absurd h.1 (nn rfl)) (fun h => absurd h.1 (nn rfl)))).trans (hm1)
    have kn_34 : Hid (c_12 41 21 = n1) := (hF_14 41 21 (fun q => q.elim (fun h => absurd h.2 (ni rfl)) (fun h => absurd h (nn rfl)))).trans (hid kn_33)
    have h_35 : c_12 41 21 = n1 := (hid kn_34)
    have kn_36 : Hid (c_2 P 2 = n2) := (hF_4 P 2 (qn_7ba88e57e hP)).trans (hn2)
    have kn_37 : Hid (c_12 P 2 = n2) := (hF_14 P 2 (qn_753ab1e1a hP)).trans (hid kn_36)
    have h_38 : c_12 P 2 = n2 := (hid kn_37)
    have kn_39 : Hid (c_2 41 22 = n2) := (hF_4 41 22 (fun q => q.elim (fun h => absurd h.1 (nn rfl)) (fun h => absurd h.1 (nn rfl)))).trans (hm2)
    have kn_40 : Hid (c_12 41 22 = n2) := (hF_14 41 22 (fun q => q.elim (fun h => absurd h.2 (ni rfl)) (fun h => absurd h (nn rfl)))).trans (hid kn_39)
    have h_41 : c_12 41 22 = n2 := (hid kn_40)
    have kn_42 : Hid (c_2 P 3 = n3) := (hF_4 P 3 (qn_7ba88e57e hP)).trans (hn3)
    have kn_43 : Hid (c_12 P 3 = n3) := (hF_14 P 3 (qn_753ab1e1a hP)).trans (hid kn_42)
    have h_44 : c_12 P 3 = n3 := (hid kn_43)
    have kn_45 : Hid (c_2 41 23 = n3) := (hF_4 41 23 (fun q => q.elim (fun h => absurd h.1 (nn rfl)) (fun h => absurd h.1 (nn rfl)))).trans (hm3)
    have kn_46 : Hid (c_12 41 23 = n3) := (hF_14 41 23 (fun q => q.elim (fun h => absurd h.2 (ni rfl)) (fun h => absurd h (nn rfl)))).trans (hid kn_45)
    have h_47 : c_12 41 23 = n3 := (hid kn_46)
    have kn_48 : Hid (c_2 3 4 = c 3 4) := hF_4 3 4 (fun q => q.elim (fun h => absurd h.1 (nn rfl)) (fun h => absurd h.1 (nn rfl)))
    have kn_49 : Hid (c_12 3 4 = c 3 4) := (hF_14 3 4 (fun q => q.elim (fun h => absurd h.1 (nn rfl)) (fun h => absurd h (nn rfl)))).trans (hid kn_48)
    have h_50 : c_12 3 4 = c 3 4 := (hid kn_49)
    have h_51 := ir_41_52 hI
    have kn_52 : Hid (c_2 41 52 = c 41 52) := hF_4 41 52 (fun q => q.elim (fun h => absurd h.1 (nn rfl)) (fun h => absurd h.1 (nn rfl)))
    have kn_53 : Hid (c_12 41 52 = c 41 52) := (hF_14 41 52 (fun q => q.elim (fun h => absurd h.2 (ni rfl)) (fun h => absurd h (nn rfl)))).trans (hid kn_52)
    have h_54 : c_12 41 52 = c 41 52 := (hid kn_53)
    have h_55 := ir_3_3 hI
    have kn_56 : Hid (c_2 3 3 = c 3 3) := hF_4 3 3 (fun q => q.elim (fun h => absurd h.1 (nn rfl)) (fun h => absurd h.1 (nn rfl)))
    have kn_57 : Hid (c_12 3 3 = c 3 3) := (hF_14 3 3 (fun q => q.elim (fun h => absurd h.1 (nn rfl)) (fun h => absurd h (nn rfl)))).trans (hid kn_56)
    have h_58 : c_12 3 3 = c 3 3 := (hid kn_57)
    have h_59 := ir_41_35 hI
    have kn_60 : Hid (c_2 41 35 = c 41 35) := hF_4 41 35 (fun q => q.elim (fun h => absurd h.1 (nn rfl)) (fun h => absurd h.1 (nn rfl)))
    have kn_61 : Hid (c_12 41 35 = c 41 35) := (hF_14 41 35 (fun q => q.elim (fun h => absurd h.2 (ni rfl)) (fun h => absurd h (nn rfl)))).trans (hid kn_60)
    have h_62 : c_12 41 35 = c 41 35 := (hid kn_61)
    have h_63 : c_12 3 4 = c 3 4 := (hid kn_49)
    have h_64 := ir_1_5 hI
    have kn_65 : Hid (c_2 1 5 = c 1 5) := hF_4 1 5 (fun q => q.elim (fun h => absurd h.1 (nn rfl)) (fun h => absurd h.1 (nn rfl)))
    have kn_66 : Hid (c_12 1 5 = c 1 5) := (hF_14 1 5 (fun q => q.elim (fun h => absurd h.1 (nn rfl)) (fun h => absurd h (nn rfl)))).trans (hid kn_65)
    have h_67 : c_12 1 5 = c 1 5 := (hid kn_66)
    have h_68 := ir_41_8 hI
    have kn_69 : Hid (c_2 41 8 = c 41 8) := hF_4 41 8 (fun q => q.elim (fun h => absurd h.1 (nn rfl)) (fun h => absurd h.1 (nn rfl)))
    have kn_70 : Hid (c_12 41 8 = c 41 8) := (hF_14 41 8 (fun q => q.elim (fun h => absurd h.2 (ni rfl)) (fun h => absurd h (nn rfl)))).trans (hid kn_69)
    have h_71 : c_12 41 8 = c 41 8 := (hid kn_70)
    exact K P Q c_12 1 (by decide) hI_13 ⟨by omega, ub_fr hU (fun j => (hF_14 2 j (fun q => q.elim (fun h => absurd h.1 (nn rfl)) (fun h => absurd h (nn rfl)))).trans (hF_4 2 j (fun q => q.elim (fun h => absurd h.1 (nn rfl)) (fun h => absurd h.1 (nn rfl))))) (fun j => (hF_14 43 j (fun q => q.elim (fun h => absurd h.1 (nn rfl)) (fun h => absurd h (nn rfl)))).trans (hF_4 43 j (fun q => q.elim (fun h => absurd h.1 (nn rfl)) (fun h => absurd h.1 (nn rfl))))), ⟨by omega, by omega, by omega, by omega⟩, by omega, by omega, iw_fr2 hIw (by omega) (fun j => (hF_14 6 j (fun q => q.elim (fun h => absurd h.1 (nn rfl)) (fun h => absurd h (nn rfl)))).trans (hF_4 6 j (fun q => q.elim (fun h => absurd h.1 (nn rfl)) (fun h => absurd h.1 (nn rfl))))) (fun j => (hF_14 66 j (fun q => q.elim (fun h => absurd h.1 (nn rfl)) (fun h => absurd h (nn rfl)))).trans (hF_4 66 j (fun q => q.elim (fun h => absurd h.1 (nn rfl)) (fun h => absurd h.1 (nn rfl))))), by omega⟩
  · skip
    refine bk_thr (z := Int32.ofInt 2) rfl ⟨_, _, rfl⟩ rfl (bk_inl (q_istore c_296_592 (Nat.le_of_ble_eq_true rfl) (q_aload_n c_296_594 rfl (q_aload_n c_296_595 rfl (q_iload c_296_596 rfl (q_iconst c_296_598 (v_iadd (v := (i0 : Int) + 1) c_296_599 rfl ?_)))))))
    refine v_scr (j := i0 + 1) c_296_600 (by omega) (by omega) hL hx1 (q_aload_n c_296_601 rfl (q_iload c_296_602 rfl (q_iconst c_296_604 (v_iadd (v := (i0 : Int) + 2) c_296_605 rfl (v_scr (j := i0 + 2) c_296_606 (by omega) (by omega) hL hx2 (v_cv c_296_607 km_9_167 rfl rfl (Nat.le_of_ble_eq_true rfl) ⟨⟨rfl, rfl⟩, Nat.le_of_ble_eq_true rfl, rfl⟩ (Nat.le_of_ble_eq_true rfl) (Nat.le_of_ble_eq_true rfl) (s_215 (a1 := x1) (a2 := x2) hI_6 (show (-2147483648) ≤ x1 ∧ x1 ≤ 2147483647 from ⟨by omega, by omega⟩) (show (-2147483648) ≤ x2 ∧ x2 ≤ 2147483647 from ⟨by omega, by omega⟩) (fun c_72 y_75 hI_73 hF_74 hy_75 => (bk_inl ?_)))))))))
    refine q_istore c_296_610 (Nat.le_of_ble_eq_true rfl) (q_goto (t := 1816) c_296_612 rfl (Wp_ls [(4, vi (i0 : Int)), (3, .ref 67), (2, .ref 41), (1, .ref 0), (0, .ref a_SC)] (lsub_cons rfl (lsub_cons rfl (lsub_cons rfl (lsub_cons rfl (lsub_cons rfl lsub_nil))))) ?_))
    have h_76 := ir_1_3 hI
    have kn_77 : Hid (c_5 1 3 = c 1 3) := hF_7 1 3 (fun q => q.elim (fun h => absurd h.1 (nn rfl)) (fun h => absurd h.1 (nn rfl)))
    have kn_78 : Hid (c_72 1 3 = c 1 3) := (hF_74 1 3 (fun q => q.elim (fun h => absurd h.1 (nn rfl)) (fun h => absurd h (nn rfl)))).trans (hid kn_77)
    have h_79 : c_72 1 3 = c 1 3 := (hid kn_78)
    have h_80 := ir_41_2 hI
    have kn_81 : Hid (c_5 41 2 = c 41 2) := hF_7 41 2 (fun q => q.elim (fun h => absurd h.1 (nn rfl)) (fun h => absurd h.1 (nn rfl)))
    have kn_82 : Hid (c_72 41 2 = c 41 2) := (hF_74 41 2 (fun q => q.elim (fun h => absurd h.2 (ni rfl)) (fun h => absurd h (nn rfl)))).trans (hid kn_81)
    have h_83 : c_72 41 2 = c 41 2 := (hid kn_82)
    have kn_84 : Hid (c_5 P 0 = n0) := (hF_7 P 0 (qn_7ba88e57e hP)).trans (hn0)
    have kn_85 : Hid (c_72 P 0 = n0) := (hF_74 P 0 (qn_753ab1e1a hP)).trans (hid kn_84)
    have h_86 : c_72 P 0 = n0 := (hid kn_85)
    have kn_87 : Hid (c_5 41 20 = n0) := (hF_7 41 20 (fun q => q.elim (fun h => absurd h.1 (nn rfl)) (fun h => absurd h.1 (nn rfl)))).trans (hm0)
    have kn_88 : Hid (c_72 41 20 = n0) := (hF_74 41 20 (fun q => q.elim (fun h => absurd h.2 (ni rfl)) (fun h => absurd h (nn rfl)))).trans (hid kn_87)
    have h_89 : c_72 41 20 = n0 := (hid kn_88)
    have kn_90 : Hid (c_5 P 1 = n1) := (hF_7 P 1 (qn_7ba88e57e hP)).trans (hn1)
    have kn_91 : Hid (c_72 P 1 = n1) := (hF_74 P 1 (qn_753ab1e1a hP)).trans (hid kn_90)
    have h_92 : c_72 P 1 = n1 := (hid kn_91)
    have kn_93 : Hid (c_5 41 21 = n1) := (hF_7 41 21 (fun q => q.elim (fun h => absurd h.1 (nn rfl)) (fun h => absurd h.1 (nn rfl)))).trans (hm1)
    have kn_94 : Hid (c_72 41 21 = n1) := (hF_74 41 21 (fun q => q.elim (fun h => absurd h.2 (ni rfl)) (fun h => absurd h (nn rfl)))).trans (hid kn_93)
    have h_95 : c_72 41 21 = n1 := (hid kn_94)
    have kn_96 : Hid (c_5 P 2 = n2) := (hF_7 P 2 (qn_7ba88e57e hP)).trans (hn2)
    have kn_97 : Hid (c_72 P 2 = n2) := (hF_74 P 2 (qn_753ab1e1a hP)).trans (hid kn_96)
    have h_98 : c_72 P 2 = n2 := (hid kn_97)
    have kn_99 : Hid (c_5 41 22 = n2) := (hF_7 41 22 (fun q => q.elim (fun h => absurd h.1 (nn rfl)) (fun h => absurd h.1 (nn rfl)))).trans (hm2)
    have kn_100 : Hid (c_72 41 22 = n2) := (hF_74 41 22 (fun q => q.elim (fun h => absurd h.2 (ni rfl)) (fun h => absurd h (nn rfl)))).trans (hid kn_99)
    have h_101 : c_72 41 22 = n2 := (hid kn_100)
    have kn_102 : Hid (c_5 P 3 = n3) := (hF_7 P 3 (qn_7ba88e57e hP)).trans (hn3)
    have kn_103 : Hid (c_72 P 3 = n3) := (hF_74 P 3 (qn_753ab1e1a hP)).trans (hid kn_102)
    have h_104 : c_72 P 3 = n3 := (hid kn_103)
    have kn_105 : Hid (c_5 41 23 = n3) := (hF_7 41 23 (fun q => q.elim (fun h => absurd h.1 (nn rfl)) (fun h => absurd h.1 (nn rfl)))).trans (hm3)
    have kn_106 : Hid (c_72 41 23 = n3) := (hF_74 41 23 (fun q => q.elim (fun h => absurd h.2 (ni rfl)) (fun h => absurd h (nn rfl)))).trans (hid kn_105)
    have h_107 : c_72 41 23 = n3 := (hid kn_106)
    have kn_108 : Hid (c_5 3 4 = c 3 4) := hF_7 3 4 (fun q => q.elim (fun h => absurd h.1 (nn rfl)) (fun h => absurd h.1 (nn rfl)))
    have kn_109 : Hid (c_72 3 4 = c 3 4) := (hF_74 3 4 (fun q => q.elim (fun h => absurd h.1 (nn rfl)) (fun h => absurd h (nn rfl)))).trans (hid kn_108)
    have h_110 : c_72 3 4 = c 3 4 := (hid kn_109)
    have h_111 := ir_41_52 hI
    have kn_112 : Hid (c_5 41 52 = c 41 52) := hF_7 41 52 (fun q => q.elim (fun h => absurd h.1 (nn rfl)) (fun h => absurd h.1 (nn rfl)))
    have kn_113 : Hid (c_72 41 52 = c 41 52) := (hF_74 41 52 (fun q => q.elim (fun h => absurd h.2 (ni rfl)) (fun h => absurd h (nn rfl)))).trans (hid kn_112)
    have h_114 : c_72 41 52 = c 41 52 := (hid kn_113)
    have h_115 := ir_3_3 hI
    have kn_116 : Hid (c_5 3 3 = c 3 3) := hF_7 3 3 (fun q => q.elim (fun h => absurd h.1 (nn rfl)) (fun h => absurd h.1 (nn rfl)))
    have kn_117 : Hid (c_72 3 3 = c 3 3) := (hF_74 3 3 (fun q => q.elim (fun h => absurd h.1 (nn rfl)) (fun h => absurd h (nn rfl)))).trans (hid kn_116)
    have h_118 : c_72 3 3 = c 3 3 := (hid kn_117)
    have h_119 := ir_41_35 hI
    have kn_120 : Hid (c_5 41 35 = c 41 35) := hF_7 41 35 (fun q => q.elim (fun h => absurd h.1 (nn rfl)) (fun h => absurd h.1 (nn rfl)))
    have kn_121 : Hid (c_72 41 35 = c 41 35) := (hF_74 41 35 (fun q => q.elim (fun h => absurd h.2 (ni rfl)) (fun h => absurd h (nn rfl)))).trans (hid kn_120)
    have h_122 : c_72 41 35 = c 41 35 := (hid kn_121)
    have h_123 : c_72 3 4 = c 3 4 := (hid kn_109)
    have h_124 := ir_1_5 hI
    have kn_125 : Hid (c_5 1 5 = c 1 5) := hF_7 1 5 (fun q => q.elim (fun h => absurd h.1 (nn rfl)) (fun h => absurd h.1 (nn rfl)))
    have kn_126 : Hid (c_72 1 5 = c 1 5) := (hF_74 1 5 (fun q => q.elim (fun h => absurd h.1 (nn rfl)) (fun h => absurd h (nn rfl)))).trans (hid kn_125)
    have h_127 : c_72 1 5 = c 1 5 := (hid kn_126)
    have h_128 := ir_41_8 hI
    have kn_129 : Hid (c_5 41 8 = c 41 8) := hF_7 41 8 (fun q => q.elim (fun h => absurd h.1 (nn rfl)) (fun h => absurd h.1 (nn rfl)))
    have kn_130 : Hid (c_72 41 8 = c 41 8) := (hF_74 41 8 (fun q => q.elim (fun h => absurd h.2 (ni rfl)) (fun h => absurd h (nn rfl)))).trans (hid kn_129)
    have h_131 : c_72 41 8 = c 41 8 := (hid kn_130)
    exact K P Q c_72 1 (by decide) hI_73 ⟨by omega, ub_fr hU (fun j => (hF_74 2 j (fun q => q.elim (fun h => absurd h.1 (nn rfl)) (fun h => absurd h (nn rfl)))).trans (hF_7 2 j (fun q => q.elim (fun h => absurd h.1 (nn rfl)) (fun h => absurd h.1 (nn rfl))))) (fun j => (hF_74 43 j (fun q => q.elim (fun h => absurd h.1 (nn rfl)) (fun h => absurd h (nn rfl)))).trans (hF_7 43 j (fun q => q.elim (fun h => absurd h.1 (nn rfl)) (fun h => absurd h.1 (nn rfl))))), ⟨by omega, by omega, by omega, by omega⟩, by omega, by omega, iw_fr2 hIw (by omega) (fun j => (hF_74 6 j (fun q => q.elim (fun h => absurd h.1 (nn rfl)) (fun h => absurd h (nn rfl)))).trans (hF_7 6 j (fun q => q.elim (fun h => absurd h.1 (nn rfl)) (fun h => absurd h.1 (nn rfl))))) (fun j => (hF_74 66 j (fun q => q.elim (fun h => absurd h.1 (nn rfl)) (fun h => absurd h (nn rfl)))).trans (hF_7 66 j (fun q => q.elim (fun h => absurd h.1 (nn rfl)) (fun h => absurd h.1 (nn rfl))))), by omega⟩
  refine bk_inl (v_i2l c_271_8 (by omega) (v_ls c_271_9 rfl (by decide) (by decide) (by decide) (q_goto (t := 21) c_271_10 rfl (q_iconst c_271_21 (q_iret c_271_22 rfl (bk_inl (q_istore c_296_592 (Nat.le_of_ble_eq_true rfl) ?_)))))))
  refine q_aload_n c_296_594 rfl (q_aload_n c_296_595 rfl (q_iload c_296_596 rfl (q_iconst c_296_598 (v_iadd (v := (i0 : Int) + 1) c_296_599 rfl (v_scr (j := i0 + 1) c_296_600 (by omega) (by omega) hL hx1 (q_aload_n c_296_601 rfl (q_iload c_296_602 rfl ?_)))))))
  refine q_iconst c_296_604 (v_iadd (v := (i0 : Int) + 2) c_296_605 rfl (v_scr (j := i0 + 2) c_296_606 (by omega) (by omega) hL hx2 ?_))
  have hI_132 := iw_lx (a := 67) (j := 0) (v := y_11) hI_9 (by omega)
  refine v_cv c_296_607 km_9_167 rfl rfl (Nat.le_of_ble_eq_true rfl) ⟨⟨rfl, rfl⟩, Nat.le_of_ble_eq_true rfl, rfl⟩ (Nat.le_of_ble_eq_true rfl) (Nat.le_of_ble_eq_true rfl) (s_215 (a1 := x1) (a2 := x2) hI_132 (show (-2147483648) ≤ x1 ∧ x1 ≤ 2147483647 from ⟨by omega, by omega⟩) (show (-2147483648) ≤ x2 ∧ x2 ≤ 2147483647 from ⟨by omega, by omega⟩) (fun c_133 y_136 hI_134 hF_135 hy_136 => (bk_inl (q_istore c_296_610 (Nat.le_of_ble_eq_true rfl) (q_goto (t := 1816) c_296_612 rfl (Wp_ls [(4, vi (i0 : Int)), (3, .ref 67), (2, .ref 41), (1, .ref 0), (0, .ref a_SC)] (lsub_cons rfl (lsub_cons rfl (lsub_cons rfl (lsub_cons rfl (lsub_cons rfl lsub_nil))))) ?_))))))
  have h_137 := ir_1_3 hI
  have kn_138 : Hid (c_8 1 3 = c 1 3) := hF_10 1 3 (fun q => q.elim (fun h => absurd h.1 (nn rfl)) (fun h => absurd h.1 (nn rfl)))
  have kn_139 : Hid (c_133 1 3 = c 1 3) := (hF_135 1 3 (fun q => q.elim (fun h => absurd h.1 (nn rfl)) (fun h => absurd h (nn rfl)))).trans ((up_c (nn rfl)).trans (hid kn_138))
  have h_140 : c_133 1 3 = c 1 3 := (hid kn_139)
  have h_141 := ir_41_2 hI
  have kn_142 : Hid (c_8 41 2 = c 41 2) := hF_10 41 2 (fun q => q.elim (fun h => absurd h.1 (nn rfl)) (fun h => absurd h.1 (nn rfl)))
  have kn_143 : Hid (c_133 41 2 = c 41 2) := (hF_135 41 2 (fun q => q.elim (fun h => absurd h.2 (ni rfl)) (fun h => absurd h (nn rfl)))).trans ((up_c (nn rfl)).trans (hid kn_142))
  have h_144 : c_133 41 2 = c 41 2 := (hid kn_143)
  have kn_145 : Hid (c_8 P 0 = n0) := (hF_10 P 0 (qn_7ba88e57e hP)).trans (hn0)
  have kn_146 : Hid (c_133 P 0 = n0) := (hF_135 P 0 (qn_753ab1e1a hP)).trans ((up_c (np0 hP rfl)).trans (hid kn_145))
  have h_147 : c_133 P 0 = n0 := (hid kn_146)
  have kn_148 : Hid (c_8 41 20 = n0) := (hF_10 41 20 (fun q => q.elim (fun h => absurd h.1 (nn rfl)) (fun h => absurd h.1 (nn rfl)))).trans (hm0)
  have kn_149 : Hid (c_133 41 20 = n0) := (hF_135 41 20 (fun q => q.elim (fun h => absurd h.2 (ni rfl)) (fun h => absurd h (nn rfl)))).trans ((up_c (nn rfl)).trans (hid kn_148))
  have h_150 : c_133 41 20 = n0 := (hid kn_149)
  have kn_151 : Hid (c_8 P 1 = n1) := (hF_10 P 1 (qn_7ba88e57e hP)).trans (hn1)
  have kn_152 : Hid (c_133 P 1 = n1) := (hF_135 P 1 (qn_753ab1e1a hP)).trans ((up_c (np0 hP rfl)).trans (hid kn_151))
  have h_153 : c_133 P 1 = n1 := (hid kn_152)
  have kn_154 : Hid (c_8 41 21 = n1) := (hF_10 41 21 (fun q => q.elim (fun h => absurd h.1 (nn rfl)) (fun h => absurd h.1 (nn rfl)))).trans (hm1)
  have kn_155 : Hid (c_133 41 21 = n1) := (hF_135 41 21 (fun q => q.elim (fun h => absurd h.2 (ni rfl)) (fun h => absurd h (nn rfl)))).trans ((up_c (nn rfl)).trans (hid kn_154))
  have h_156 : c_133 41 21 = n1 := (hid kn_155)
  have kn_157 : Hid (c_8 P 2 = n2) := (hF_10 P 2 (qn_7ba88e57e hP)).trans (hn2)
  have kn_158 : Hid (c_133 P 2 = n2) := (hF_135 P 2 (qn_753ab1e1a hP)).trans ((up_c (np0 hP rfl)).trans (hid kn_157))
  have h_159 : c_133 P 2 = n2 := (hid kn_158)
  have kn_160 : Hid (c_8 41 22 = n2) := (hF_10 41 22 (fun q => q.elim (fun h => absurd h.1 (nn rfl)) (fun h => absurd h.1 (nn rfl)))).trans (hm2)
  have kn_161 : Hid (c_133 41 22 = n2) := (hF_135 41 22 (fun q => q.elim (fun h => absurd h.2 (ni rfl)) (fun h => absurd h (nn rfl)))).trans ((up_c (nn rfl)).trans (hid kn_160))
  have h_162 : c_133 41 22 = n2 := (hid kn_161)
  have kn_163 : Hid (c_8 P 3 = n3) := (hF_10 P 3 (qn_7ba88e57e hP)).trans (hn3)
  have kn_164 : Hid (c_133 P 3 = n3) := (hF_135 P 3 (qn_753ab1e1a hP)).trans ((up_c (np0 hP rfl)).trans (hid kn_163))
  have h_165 : c_133 P 3 = n3 := (hid kn_164)
  have kn_166 : Hid (c_8 41 23 = n3) := (hF_10 41 23 (fun q => q.elim (fun h => absurd h.1 (nn rfl)) (fun h => absurd h.1 (nn rfl)))).trans (hm3)
  have kn_167 : Hid (c_133 41 23 = n3) := (hF_135 41 23 (fun q => q.elim (fun h => absurd h.2 (ni rfl)) (fun h => absurd h (nn rfl)))).trans ((up_c (nn rfl)).trans (hid kn_166))
  have h_168 : c_133 41 23 = n3 := (hid kn_167)
  have kn_169 : Hid (c_8 3 4 = c 3 4) := hF_10 3 4 (fun q => q.elim (fun h => absurd h.1 (nn rfl)) (fun h => absurd h.1 (nn rfl)))
  have kn_170 : Hid (c_133 3 4 = c 3 4) := (hF_135 3 4 (fun q => q.elim (fun h => absurd h.1 (nn rfl)) (fun h => absurd h (nn rfl)))).trans ((up_c (nn rfl)).trans (hid kn_169))
  have h_171 : c_133 3 4 = c 3 4 := (hid kn_170)
  have h_172 := ir_41_52 hI
  have kn_173 : Hid (c_8 41 52 = c 41 52) := hF_10 41 52 (fun q => q.elim (fun h => absurd h.1 (nn rfl)) (fun h => absurd h.1 (nn rfl)))
  have kn_174 : Hid (c_133 41 52 = c 41 52) := (hF_135 41 52 (fun q => q.elim (fun h => absurd h.2 (ni rfl)) (fun h => absurd h (nn rfl)))).trans ((up_c (nn rfl)).trans (hid kn_173))
  have h_175 : c_133 41 52 = c 41 52 := (hid kn_174)
  have h_176 := ir_3_3 hI
  have kn_177 : Hid (c_8 3 3 = c 3 3) := hF_10 3 3 (fun q => q.elim (fun h => absurd h.1 (nn rfl)) (fun h => absurd h.1 (nn rfl)))
  have kn_178 : Hid (c_133 3 3 = c 3 3) := (hF_135 3 3 (fun q => q.elim (fun h => absurd h.1 (nn rfl)) (fun h => absurd h (nn rfl)))).trans ((up_c (nn rfl)).trans (hid kn_177))
  have h_179 : c_133 3 3 = c 3 3 := (hid kn_178)
  have h_180 := ir_41_35 hI
  have kn_181 : Hid (c_8 41 35 = c 41 35) := hF_10 41 35 (fun q => q.elim (fun h => absurd h.1 (nn rfl)) (fun h => absurd h.1 (nn rfl)))
  have kn_182 : Hid (c_133 41 35 = c 41 35) := (hF_135 41 35 (fun q => q.elim (fun h => absurd h.2 (ni rfl)) (fun h => absurd h (nn rfl)))).trans ((up_c (nn rfl)).trans (hid kn_181))
  have h_183 : c_133 41 35 = c 41 35 := (hid kn_182)
  have h_184 : c_133 3 4 = c 3 4 := (hid kn_170)
  have h_185 := ir_1_5 hI
  have kn_186 : Hid (c_8 1 5 = c 1 5) := hF_10 1 5 (fun q => q.elim (fun h => absurd h.1 (nn rfl)) (fun h => absurd h.1 (nn rfl)))
  have kn_187 : Hid (c_133 1 5 = c 1 5) := (hF_135 1 5 (fun q => q.elim (fun h => absurd h.1 (nn rfl)) (fun h => absurd h (nn rfl)))).trans ((up_c (nn rfl)).trans (hid kn_186))
  have h_188 : c_133 1 5 = c 1 5 := (hid kn_187)
  have h_189 := ir_41_8 hI
  have kn_190 : Hid (c_8 41 8 = c 41 8) := hF_10 41 8 (fun q => q.elim (fun h => absurd h.1 (nn rfl)) (fun h => absurd h.1 (nn rfl)))
  have kn_191 : Hid (c_133 41 8 = c 41 8) := (hF_135 41 8 (fun q => q.elim (fun h => absurd h.2 (ni rfl)) (fun h => absurd h (nn rfl)))).trans ((up_c (nn rfl)).trans (hid kn_190))
  have h_192 : c_133 41 8 = c 41 8 := (hid kn_191)
  exact K P Q c_133 0 (by decide) hI_134 ⟨by omega, ub_fr hU (fun j => (hF_135 2 j (fun q => q.elim (fun h => absurd h.1 (nn rfl)) (fun h => absurd h (nn rfl)))).trans ((up_c (nn rfl)).trans (hF_10 2 j (fun q => q.elim (fun h => absurd h.1 (nn rfl)) (fun h => absurd h.1 (nn rfl)))))) (fun j => (hF_135 43 j (fun q => q.elim (fun h => absurd h.1 (nn rfl)) (fun h => absurd h (nn rfl)))).trans ((up_c (nn rfl)).trans (hF_10 43 j (fun q => q.elim (fun h => absurd h.1 (nn rfl)) (fun h => absurd h.1 (nn rfl)))))), ⟨by omega, by omega, by omega, by omega⟩, by omega, by omega, iw_fr2 hIw (by omega) (fun j => (hF_135 6 j (fun q => q.elim (fun h => absurd h.1 (nn rfl)) (fun h => absurd h (nn rfl)))).trans ((up_c (nn rfl)).trans (hF_10 6 j (fun q => q.elim (fun h => absurd h.1 (nn rfl)) (fun h => absurd h.1 (nn rfl)))))) (fun j => (hF_135 66 j (fun q => q.elim (fun h => absurd h.1 (nn rfl)) (fun h => absurd h (nn rfl)))).trans ((up_c (nn rfl)).trans (hF_10 66 j (fun q => q.elim (fun h => absurd h.1 (nn rfl)) (fun h => absurd h.1 (nn rfl)))))), by omega⟩

set_option maxRecDepth 100000 in
set_option maxHeartbeats 4000000 in
theorem o_12 {xs : Nat → Int32} {L i0 d nc ns P Q : Nat} {c : ME} {Z : AR → Prop} (hi : i0 + 8 ≤ L) (hL : L ≤ 100000) (hI : Iv 0 (-1) P Q c) (hR : Rq P c) (K : ∀ (P2 Q2 : Nat) (c2 : ME) (e : Nat), e ≤ 1 → Iv 0 (-1) P2 Q2 c2 → (Rq P2 c2) → Wp (a_scr L xs) (d + 90) 296 1816 [(4, vi (i0 : Int)), (3, .ref 67), (2, .ref 41), (1, .ref 0), (0, .ref a_SC)] [] (Wd P2 Q2 P2 P2 c2) (nc + e) (ns + 6 * e) Z) : Wp (a_scr L xs) (d + 90) 296 615 [(4, vi (i0 : Int)), (3, .ref 67), (2, .ref 41), (1, .ref 0), (0, .ref a_SC)] [] (Wd P Q P P c) nc ns Z := by
  obtain ⟨x1, hx1⟩ : ∃ z, (xs (i0 + 1)).toInt = z := ⟨_, rfl⟩
  have x1r := c_rng (xs (i0 + 1))
  rw [hx1] at x1r
  obtain ⟨x2, hx2⟩ : ∃ z, (xs (i0 + 2)).toInt = z := ⟨_, rfl⟩
  have x2r := c_rng (xs (i0 + 2))
  rw [hx2] at x2r
  obtain ⟨x3, hx3⟩ : ∃ z, (xs (i0 + 3)).toInt = z := ⟨_, rfl⟩
  have x3r := c_rng (xs (i0 + 3))
  rw [hx3] at x3r
  obtain ⟨x4, hx4⟩ : ∃ z, (xs (i0 + 4)).toInt = z := ⟨_, rfl⟩
  have x4r := c_rng (xs (i0 + 4))
  rw [hx4] at x4r
  obtain ⟨x5, hx5⟩ : ∃ z, (xs (i0 + 5)).toInt = z := ⟨_, rfl⟩
  have x5r := c_rng (xs (i0 + 5))
  rw [hx5] at x5r
  obtain ⟨x6, hx6⟩ : ∃ z, (xs (i0 + 6)).toInt = z := ⟨_, rfl⟩
  have x6r := c_rng (xs (i0 + 6))
  rw [hx6] at x6r
  obtain ⟨x7, hx7⟩ : ∃ z, (xs (i0 + 7)).toInt = z := ⟨_, rfl⟩
  have x7r := c_rng (xs (i0 + 7))
  rw [hx7] at x7r
  have hP := iv_P hI
  have hQ := iv_Q hI
  have hT := rl_t hR
  have hU := rl_u hR
  obtain ⟨n0, hn0⟩ : ∃ z, c P 0 = z := ⟨_, rfl⟩
  have hm0 : c 41 20 = n0 := (rl_nums hR).1.symm.trans hn0
  have hr0 := ir_p0_0 hI hP
  rw [hn0] at hr0
  obtain ⟨n1, hn1⟩ : ∃ z, c P 1 = z := ⟨_, rfl⟩
  have hm1 : c 41 21 = n1 := (rl_nums hR).2.1.symm.trans hn1
  have hr1 := ir_p0_1 hI hP
  rw [hn1] at hr1
  obtain ⟨n2, hn2⟩ : ∃ z, c P 2 = z := ⟨_, rfl⟩
  have hm2 : c 41 22 = n2 := (rl_nums hR).2.2.1.symm.trans hn2
  have hr2 := ir_p0_2 hI hP
  rw [hn2] at hr2
  obtain ⟨n3, hn3⟩ : ∃ z, c P 3 = z := ⟨_, rfl⟩
  have hm3 : c 41 23 = n3 := (rl_nums hR).2.2.2.symm.trans hn3
  have hr3 := ir_p0_3 hI hP
  rw [hn3] at hr3
  have hNimg := rl_img hR
  have hNwk := rl_wk hR
  have h_1 := ir_3_4 hI
  have hIw := rl_iw hR
  have hNplace := rl_place hR
  refine q_aload_n c_296_615 rfl (q_aload_n c_296_616 rfl (q_iload c_296_617 rfl (q_iconst c_296_619 (v_iadd (v := (i0 : Int) + 1) c_296_620 rfl (v_scr (j := i0 + 1) c_296_621 (by omega) (by omega) hL hx1 (q_aload_n c_296_622 rfl (q_call c_296_623 rfl rfl rfl ?_)))))))
  refine q_aload_n c_272_0 rfl (q_iconst c_272_1 (q_aload_n c_272_2 rfl (q_iload_n c_272_3 rfl ?_)))
  refine v_cv c_272_4 km_9_42 rfl rfl (Nat.le_of_ble_eq_true rfl) ⟨⟨rfl, rfl⟩, Nat.le_of_ble_eq_true rfl, rfl⟩ (Nat.le_of_ble_eq_true rfl) (Nat.le_of_ble_eq_true rfl) (s_103 (a1 := x1) hI (show (-2147483648) ≤ x1 ∧ x1 ≤ 2147483647 from ⟨by omega, by omega⟩) (fun c_2 hI_3 hF_4 => ?_) (fun c_5 y_8 hI_6 hF_7 hy_8 => ?_))
  · skip
    refine bk_thr (z := Int32.ofInt 1) rfl ⟨_, _, rfl⟩ rfl (bk_inl (q_istore c_296_626 (Nat.le_of_ble_eq_true rfl) (q_aload_n c_296_628 rfl (q_aload_n c_296_629 rfl (q_iload c_296_630 rfl (q_iconst c_296_632 (v_iadd (v := (i0 : Int) + 1) c_296_633 rfl ?_)))))))
    refine v_scr (j := i0 + 1) c_296_634 (by omega) (by omega) hL hx1 (v_cv c_296_635 km_9_170 rfl rfl (Nat.le_of_ble_eq_true rfl) ⟨⟨rfl, rfl⟩, Nat.le_of_ble_eq_true rfl, rfl⟩ (Nat.le_of_ble_eq_true rfl) (Nat.le_of_ble_eq_true rfl) (s_216 (a1 := x1) hI_3 (show (-2147483648) ≤ x1 ∧ x1 ≤ 2147483647 from ⟨by omega, by omega⟩) (fun c_9 y_12 hI_10 hF_11 hy_12 => (bk_inl (q_istore c_296_638 (Nat.le_of_ble_eq_true rfl) (q_goto (t := 1816) c_296_640 rfl (Wp_ls [(4, vi (i0 : Int)), (3, .ref 67), (2, .ref 41), (1, .ref 0), (0, .ref a_SC)] (lsub_cons rfl (lsub_cons rfl (lsub_cons rfl (lsub_cons rfl (lsub_cons rfl lsub_nil))))) ?_)))))))
    have h_13 := ir_1_3 hI
    have kn_14 : Hid (c_2 1 3 = c 1 3) := hF_4 1 3 (qn_0dbc1df78 hP)
    have kn_15 : Hid (c_9 1 3 = c 1 3) := (hF_11 1 3 qn_44683f5fa).trans (hid kn_14)
    have h_16 : c_9 1 3 = c 1 3 := (hid kn_15)
    have h_17 := ir_41_2 hI
    have kn_18 : Hid (c_2 41 2 = c 41 2) := hF_4 41 2 (qn_384c17487 hP)
    have kn_19 : Hid (c_9 41 2 = c 41 2) := (hF_11 41 2 qn_7a112a690).trans (hid kn_18)
    have h_20 : c_9 41 2 = c 41 2 := (hid kn_19)
    have kn_21 : Hid (c_2 P 0 = n0) := (hF_4 P 0 (qn_d6466f82c hP)).trans (hn0)
    have kn_22 : Hid (c_9 P 0 = n0) := (hF_11 P 0 (qn_70fec742f hP)).trans (hid kn_21)
    have h_23 : c_9 P 0 = n0 := (hid kn_22)
    have kn_24 : Hid (c_2 41 20 = n0) := (hF_4 41 20 (qn_384c17487 hP)).trans (hm0)
    have kn_25 : Hid (c_9 41 20 = n0) := (hF_11 41 20 qn_d0753a96c).trans (hid kn_24)
    have h_26 : c_9 41 20 = n0 := (hid kn_25)
    have kn_27 : Hid (c_2 P 1 = n1) := (hF_4 P 1 (qn_d6466f82c hP)).trans (hn1)
    have kn_28 : Hid (c_9 P 1 = n1) := (hF_11 P 1 (qn_70fec742f hP)).trans (hid kn_27)
    have h_29 : c_9 P 1 = n1 := (hid kn_28)
    have kn_30 : Hid (c_2 41 21 = n1) := (hF_4 41 21 (qn_384c17487 hP)).trans (hm1)
    have kn_31 : Hid (c_9 41 21 = n1) := (hF_11 41 21 qn_2dba34809).trans (hid kn_30)
    have h_32 : c_9 41 21 = n1 := (hid kn_31)
    have kn_33 : Hid (c_2 P 2 = n2) := (hF_4 P 2 (qn_d6466f82c hP)).trans (hn2)
    have kn_34 : Hid (c_9 P 2 = n2) := (hF_11 P 2 (qn_70fec742f hP)).trans (hid kn_33)
    have h_35 : c_9 P 2 = n2 := (hid kn_34)
    have kn_36 : Hid (c_2 41 22 = n2) := (hF_4 41 22 (qn_384c17487 hP)).trans (hm2)
    have kn_37 : Hid (c_9 41 22 = n2) := (hF_11 41 22 qn_0d1137165).trans (hid kn_36)
    have h_38 : c_9 41 22 = n2 := (hid kn_37)
    have kn_39 : Hid (c_2 P 3 = n3) := (hF_4 P 3 (qn_d6466f82c hP)).trans (hn3)
    have kn_40 : Hid (c_9 P 3 = n3) := (hF_11 P 3 (qn_70fec742f hP)).trans (hid kn_39)
    have h_41 : c_9 P 3 = n3 := (hid kn_40)
    have kn_42 : Hid (c_2 41 23 = n3) := (hF_4 41 23 (qn_384c17487 hP)).trans (hm3)
    have kn_43 : Hid (c_9 41 23 = n3) := (hF_11 41 23 qn_ca1c2b99e).trans (hid kn_42)
    have h_44 : c_9 41 23 = n3 := (hid kn_43)
    have kn_45 : Hid (c_2 3 4 = c 3 4) := hF_4 3 4 (qn_21835dca5 hP)
    have kn_46 : Hid (c_9 3 4 = c 3 4) := (hF_11 3 4 qn_85f7f5516).trans (hid kn_45)
    have h_47 : c_9 3 4 = c 3 4 := (hid kn_46)
    have h_48 := ir_41_52 hI
    have kn_49 : Hid (c_2 41 52 = c 41 52) := hF_4 41 52 (qn_384c17487 hP)
    have kn_50 : Hid (c_9 41 52 = c 41 52) := (hF_11 41 52 qn_23bb338dd).trans (hid kn_49)
    have h_51 : c_9 41 52 = c 41 52 := (hid kn_50)
    have h_52 := ir_3_3 hI
    have kn_53 : Hid (c_2 3 3 = c 3 3) := hF_4 3 3 (qn_21835dca5 hP)
    have kn_54 : Hid (c_9 3 3 = c 3 3) := (hF_11 3 3 qn_85f7f5516).trans (hid kn_53)
    have h_55 : c_9 3 3 = c 3 3 := (hid kn_54)
    have h_56 := ir_41_35 hI
    have kn_57 : Hid (c_2 41 35 = c 41 35) := hF_4 41 35 (qn_384c17487 hP)
    have kn_58 : Hid (c_9 41 35 = c 41 35) := (hF_11 41 35 qn_8b6342d8f).trans (hid kn_57)
    have h_59 : c_9 41 35 = c 41 35 := (hid kn_58)
    have h_60 : c_9 3 4 = c 3 4 := (hid kn_46)
    have h_61 := ir_1_5 hI
    have kn_62 : Hid (c_2 1 5 = c 1 5) := hF_4 1 5 (qn_0dbc1df78 hP)
    have kn_63 : Hid (c_9 1 5 = c 1 5) := (hF_11 1 5 qn_44683f5fa).trans (hid kn_62)
    have h_64 : c_9 1 5 = c 1 5 := (hid kn_63)
    have h_65 := ir_41_8 hI
    have kn_66 : Hid (c_2 41 8 = c 41 8) := hF_4 41 8 (qn_384c17487 hP)
    have kn_67 : Hid (c_9 41 8 = c 41 8) := (hF_11 41 8 qn_fa94fa4d3).trans (hid kn_66)
    have h_68 : c_9 41 8 = c 41 8 := (hid kn_67)
    exact K P Q c_9 1 (by decide) hI_10 ⟨by omega, ub_fr hU (fun j => (hF_11 2 j qn_d0e66b3bf).trans (hF_4 2 j (qn_371ad3962 hP))) (fun j => (hF_11 43 j qn_5a77d9750).trans (hF_4 43 j (qn_e10256050 hP))), ⟨by omega, by omega, by omega, by omega⟩, by omega, by omega, iw_fr2 hIw (by omega) (fun j => (hF_11 6 j qn_1f8406493).trans (hF_4 6 j (qn_ddbfaded9 hP))) (fun j => (hF_11 66 j qn_02ce421cc).trans (hF_4 66 j (qn_d954d0eec hP))), by omega⟩
  refine bk_inl (v_i2l c_272_7 (by omega) (v_ls c_272_8 rfl (by decide) (by decide) (by decide) (q_goto (t := 15) c_272_9 rfl (q_iconst c_272_15 (q_iret c_272_16 rfl (bk_inl (q_istore c_296_626 (Nat.le_of_ble_eq_true rfl) ?_)))))))
  refine q_aload_n c_296_628 rfl (q_aload_n c_296_629 rfl (q_iload c_296_630 rfl (q_iconst c_296_632 (v_iadd (v := (i0 : Int) + 1) c_296_633 rfl (v_scr (j := i0 + 1) c_296_634 (by omega) (by omega) hL hx1 ?_)))))
  have hI_69 := iw_lx (a := 67) (j := 0) (v := y_8) hI_6 (by omega)
  refine v_cv c_296_635 km_9_170 rfl rfl (Nat.le_of_ble_eq_true rfl) ⟨⟨rfl, rfl⟩, Nat.le_of_ble_eq_true rfl, rfl⟩ (Nat.le_of_ble_eq_true rfl) (Nat.le_of_ble_eq_true rfl) (s_216 (a1 := x1) hI_69 (show (-2147483648) ≤ x1 ∧ x1 ≤ 2147483647 from ⟨by omega, by omega⟩) (fun c_70 y_73 hI_71 hF_72 hy_73 => (bk_inl (q_istore c_296_638 (Nat.le_of_ble_eq_true rfl) (q_goto (t := 1816) c_296_640 rfl (Wp_ls [(4, vi (i0 : Int)), (3, .ref 67), (2, .ref 41), (1, .ref 0), (0, .ref a_SC)] (lsub_cons rfl (lsub_cons rfl (lsub_cons rfl (lsub_cons rfl (lsub_cons rfl lsub_nil))))) ?_))))))
  have h_74 := ir_1_3 hI
  have kn_75 : Hid (c_5 1 3 = c 1 3) := hF_7 1 3 (qn_0dbc1df78 hP)
  have kn_76 : Hid (c_70 1 3 = c 1 3) := (hF_72 1 3 qn_44683f5fa).trans ((up_c (nn rfl)).trans (hid kn_75))
  have h_77 : c_70 1 3 = c 1 3 := (hid kn_76)
  have h_78 := ir_41_2 hI
  have kn_79 : Hid (c_5 41 2 = c 41 2) := hF_7 41 2 (qn_384c17487 hP)
  have kn_80 : Hid (c_70 41 2 = c 41 2) := (hF_72 41 2 qn_7a112a690).trans ((up_c (nn rfl)).trans (hid kn_79))
  have h_81 : c_70 41 2 = c 41 2 := (hid kn_80)
  have kn_82 : Hid (c_5 P 0 = n0) := (hF_7 P 0 (qn_d6466f82c hP)).trans (hn0)
  have kn_83 : Hid (c_70 P 0 = n0) := (hF_72 P 0 (qn_70fec742f hP)).trans ((up_c (np0 hP rfl)).trans (hid kn_82))
  have h_84 : c_70 P 0 = n0 := (hid kn_83)
  have kn_85 : Hid (c_5 41 20 = n0) := (hF_7 41 20 (qn_384c17487 hP)).trans (hm0)
  have kn_86 : Hid (c_70 41 20 = n0) := (hF_72 41 20 qn_d0753a96c).trans ((up_c (nn rfl)).trans (hid kn_85))
  have h_87 : c_70 41 20 = n0 := (hid kn_86)
  have kn_88 : Hid (c_5 P 1 = n1) := (hF_7 P 1 (qn_d6466f82c hP)).trans (hn1)
  have kn_89 : Hid (c_70 P 1 = n1) := (hF_72 P 1 (qn_70fec742f hP)).trans ((up_c (np0 hP rfl)).trans (hid kn_88))
  have h_90 : c_70 P 1 = n1 := (hid kn_89)
  have kn_91 : Hid (c_5 41 21 = n1) := (hF_7 41 21 (qn_384c17487 hP)).trans (hm1)
  have kn_92 : Hid (c_70 41 21 = n1) := (hF_72 41 21 qn_2dba34809).trans ((up_c (nn rfl)).trans (hid kn_91))
  have h_93 : c_70 41 21 = n1 := (hid kn_92)
  have kn_94 : Hid (c_5 P 2 = n2) := (hF_7 P 2 (qn_d6466f82c hP)).trans (hn2)
  have kn_95 : Hid (c_70 P 2 = n2) := (hF_72 P 2 (qn_70fec742f hP)).trans ((up_c (np0 hP rfl)).trans (hid kn_94))
  have h_96 : c_70 P 2 = n2 := (hid kn_95)
  have kn_97 : Hid (c_5 41 22 = n2) := (hF_7 41 22 (qn_384c17487 hP)).trans (hm2)
  have kn_98 : Hid (c_70 41 22 = n2) := (hF_72 41 22 qn_0d1137165).trans ((up_c (nn rfl)).trans (hid kn_97))
  have h_99 : c_70 41 22 = n2 := (hid kn_98)
  have kn_100 : Hid (c_5 P 3 = n3) := (hF_7 P 3 (qn_d6466f82c hP)).trans (hn3)
  have kn_101 : Hid (c_70 P 3 = n3) := (hF_72 P 3 (qn_70fec742f hP)).trans ((up_c (np0 hP rfl)).trans (hid kn_100))
  have h_102 : c_70 P 3 = n3 := (hid kn_101)
  have kn_103 : Hid (c_5 41 23 = n3) := (hF_7 41 23 (qn_384c17487 hP)).trans (hm3)
  have kn_104 : Hid (c_70 41 23 = n3) := (hF_72 41 23 qn_ca1c2b99e).trans ((up_c (nn rfl)).trans (hid kn_103))
  have h_105 : c_70 41 23 = n3 := (hid kn_104)
  have kn_106 : Hid (c_5 3 4 = c 3 4) := hF_7 3 4 (qn_21835dca5 hP)
  have kn_107 : Hid (c_70 3 4 = c 3 4) := (hF_72 3 4 qn_85f7f5516).trans ((up_c (nn rfl)).trans (hid kn_106))
  have h_108 : c_70 3 4 = c 3 4 := (hid kn_107)
  have h_109 := ir_41_52 hI
  have kn_110 : Hid (c_5 41 52 = c 41 52) := hF_7 41 52 (qn_384c17487 hP)
  have kn_111 : Hid (c_70 41 52 = c 41 52) := (hF_72 41 52 qn_23bb338dd).trans ((up_c (nn rfl)).trans (hid kn_110))
  have h_112 : c_70 41 52 = c 41 52 := (hid kn_111)
  have h_113 := ir_3_3 hI
  have kn_114 : Hid (c_5 3 3 = c 3 3) := hF_7 3 3 (qn_21835dca5 hP)
  have kn_115 : Hid (c_70 3 3 = c 3 3) := (hF_72 3 3 qn_85f7f5516).trans ((up_c (nn rfl)).trans (hid kn_114))
  have h_116 : c_70 3 3 = c 3 3 := (hid kn_115)
  have h_117 := ir_41_35 hI
  have kn_118 : Hid (c_5 41 35 = c 41 35) := hF_7 41 35 (qn_384c17487 hP)
  have kn_119 : Hid (c_70 41 35 = c 41 35) := (hF_72 41 35 qn_8b6342d8f).trans ((up_c (nn rfl)).trans (hid kn_118))
  have h_120 : c_70 41 35 = c 41 35 := (hid kn_119)
  have h_121 : c_70 3 4 = c 3 4 := (hid kn_107)
  have h_122 := ir_1_5 hI
  have kn_123 : Hid (c_5 1 5 = c 1 5) := hF_7 1 5 (qn_0dbc1df78 hP)
  have kn_124 : Hid (c_70 1 5 = c 1 5) := (hF_72 1 5 qn_44683f5fa).trans ((up_c (nn rfl)).trans (hid kn_123))
  have h_125 : c_70 1 5 = c 1 5 := (hid kn_124)
  have h_126 := ir_41_8 hI
  have kn_127 : Hid (c_5 41 8 = c 41 8) := hF_7 41 8 (qn_384c17487 hP)
  have kn_128 : Hid (c_70 41 8 = c 41 8) := (hF_72 41 8 qn_fa94fa4d3).trans ((up_c (nn rfl)).trans (hid kn_127))
  have h_129 : c_70 41 8 = c 41 8 := (hid kn_128)
  exact K P Q c_70 0 (by decide) hI_71 ⟨by omega, ub_fr hU (fun j => (hF_72 2 j qn_d0e66b3bf).trans ((up_c (nn rfl)).trans (hF_7 2 j (qn_371ad3962 hP)))) (fun j => (hF_72 43 j qn_5a77d9750).trans ((up_c (nn rfl)).trans (hF_7 43 j (qn_e10256050 hP)))), ⟨by omega, by omega, by omega, by omega⟩, by omega, by omega, iw_fr2 hIw (by omega) (fun j => (hF_72 6 j qn_1f8406493).trans ((up_c (nn rfl)).trans (hF_7 6 j (qn_ddbfaded9 hP)))) (fun j => (hF_72 66 j qn_02ce421cc).trans ((up_c (nn rfl)).trans (hF_7 66 j (qn_d954d0eec hP)))), by omega⟩

set_option maxRecDepth 100000 in
set_option maxHeartbeats 4000000 in
theorem o_13 {xs : Nat → Int32} {L i0 d nc ns P Q : Nat} {c : ME} {Z : AR → Prop} (hi : i0 + 8 ≤ L) (hL : L ≤ 100000) (hI : Iv 0 (-1) P Q c) (hR : Rq P c) (K : ∀ (P2 Q2 : Nat) (c2 : ME) (e : Nat), e ≤ 1 → Iv 0 (-1) P2 Q2 c2 → (Rq P2 c2) → Wp (a_scr L xs) (d + 90) 296 1816 [(4, vi (i0 : Int)), (3, .ref 67), (2, .ref 41), (1, .ref 0), (0, .ref a_SC)] [] (Wd P2 Q2 P2 P2 c2) (nc + e) (ns + 6 * e) Z) : Wp (a_scr L xs) (d + 90) 296 643 [(4, vi (i0 : Int)), (3, .ref 67), (2, .ref 41), (1, .ref 0), (0, .ref a_SC)] [] (Wd P Q P P c) nc ns Z := by
  obtain ⟨x1, hx1⟩ : ∃ z, (xs (i0 + 1)).toInt = z := ⟨_, rfl⟩
  have x1r := c_rng (xs (i0 + 1))
  rw [hx1] at x1r
  obtain ⟨x2, hx2⟩ : ∃ z, (xs (i0 + 2)).toInt = z := ⟨_, rfl⟩
  have x2r := c_rng (xs (i0 + 2))
  rw [hx2] at x2r
  obtain ⟨x3, hx3⟩ : ∃ z, (xs (i0 + 3)).toInt = z := ⟨_, rfl⟩
  have x3r := c_rng (xs (i0 + 3))
  rw [hx3] at x3r
  obtain ⟨x4, hx4⟩ : ∃ z, (xs (i0 + 4)).toInt = z := ⟨_, rfl⟩
  have x4r := c_rng (xs (i0 + 4))
  rw [hx4] at x4r
  obtain ⟨x5, hx5⟩ : ∃ z, (xs (i0 + 5)).toInt = z := ⟨_, rfl⟩
  have x5r := c_rng (xs (i0 + 5))
  rw [hx5] at x5r
  obtain ⟨x6, hx6⟩ : ∃ z, (xs (i0 + 6)).toInt = z := ⟨_, rfl⟩
  have x6r := c_rng (xs (i0 + 6))
  rw [hx6] at x6r
  obtain ⟨x7, hx7⟩ : ∃ z, (xs (i0 + 7)).toInt = z := ⟨_, rfl⟩
  have x7r := c_rng (xs (i0 + 7))
  rw [hx7] at x7r
  have hP := iv_P hI
  have hQ := iv_Q hI
  have hT := rl_t hR
  have hU := rl_u hR
  obtain ⟨n0, hn0⟩ : ∃ z, c P 0 = z := ⟨_, rfl⟩
  have hm0 : c 41 20 = n0 := (rl_nums hR).1.symm.trans hn0
  have hr0 := ir_p0_0 hI hP
  rw [hn0] at hr0
  obtain ⟨n1, hn1⟩ : ∃ z, c P 1 = z := ⟨_, rfl⟩
  have hm1 : c 41 21 = n1 := (rl_nums hR).2.1.symm.trans hn1
  have hr1 := ir_p0_1 hI hP
  rw [hn1] at hr1
  obtain ⟨n2, hn2⟩ : ∃ z, c P 2 = z := ⟨_, rfl⟩
  have hm2 : c 41 22 = n2 := (rl_nums hR).2.2.1.symm.trans hn2
  have hr2 := ir_p0_2 hI hP
  rw [hn2] at hr2
  obtain ⟨n3, hn3⟩ : ∃ z, c P 3 = z := ⟨_, rfl⟩
  have hm3 : c 41 23 = n3 := (rl_nums hR).2.2.2.symm.trans hn3
  have hr3 := ir_p0_3 hI hP
  rw [hn3] at hr3
  have hNimg := rl_img hR
  have hNwk := rl_wk hR
  have h_1 := ir_3_4 hI
  have hIw := rl_iw hR
  have hNplace := rl_place hR
  refine q_aload_n c_296_643 rfl (q_aload_n c_296_644 rfl (q_iload c_296_645 rfl (q_iconst c_296_647 (v_iadd (v := (i0 : Int) + 1) c_296_648 rfl (v_scr (j := i0 + 1) c_296_649 (by omega) (by omega) hL hx1 (q_aload_n c_296_650 rfl (q_iload c_296_651 rfl ?_)))))))
  refine q_iconst c_296_653 (v_iadd (v := (i0 : Int) + 2) c_296_654 rfl (v_scr (j := i0 + 2) c_296_655 (by omega) (by omega) hL hx2 (q_aload_n c_296_656 rfl (q_iload c_296_657 rfl (q_iconst c_296_659 (v_iadd (v := (i0 : Int) + 3) c_296_660 rfl (v_scr (j := i0 + 3) c_296_661 (by omega) (by omega) hL hx3 ?_)))))))
  refine q_aload_n c_296_662 rfl (q_iload c_296_663 rfl (q_iconst c_296_665 (v_iadd (v := (i0 : Int) + 4) c_296_666 rfl (v_scr (j := i0 + 4) c_296_667 (by omega) (by omega) hL hx4 (q_aload_n c_296_668 rfl (q_iload c_296_669 rfl (q_iconst c_296_671 ?_)))))))
  refine v_iadd (v := (i0 : Int) + 5) c_296_672 rfl (v_scr (j := i0 + 5) c_296_673 (by omega) (by omega) hL hx5 (q_aload_n c_296_674 rfl (q_iload c_296_675 rfl (v_bip c_296_677 (by decide) (v_iadd (v := (i0 : Int) + 6) c_296_679 rfl (v_scr (j := i0 + 6) c_296_680 (by omega) (by omega) hL hx6 (q_aload_n c_296_681 rfl ?_)))))))
  refine q_iload c_296_682 rfl (v_bip c_296_684 (by decide) (v_iadd (v := (i0 : Int) + 7) c_296_686 rfl (v_scr (j := i0 + 7) c_296_687 (by omega) (by omega) hL hx7 (q_aload_n c_296_688 rfl (q_call c_296_689 rfl rfl rfl (q_aload c_273_0 rfl (q_iconst c_273_2 ?_)))))))
  refine q_aload_n c_273_3 rfl (q_iload_n c_273_4 rfl (q_iload_n c_273_5 rfl (q_iload_n c_273_6 rfl (q_iload c_273_7 rfl (q_iload c_273_9 rfl (q_iload c_273_11 rfl (q_iload c_273_13 rfl ?_)))))))
  refine v_cv c_273_15 km_9_45 rfl rfl (Nat.le_of_ble_eq_true rfl) ⟨⟨rfl, rfl⟩, Nat.le_of_ble_eq_true rfl, rfl⟩ (Nat.le_of_ble_eq_true rfl) (Nat.le_of_ble_eq_true rfl) (s_104 (a1 := x1) (a2 := x2) (a3 := x3) (a4 := x4) (a5 := x5) (a6 := x6) (a7 := x7) hI (show (-2147483648) ≤ x1 ∧ x1 ≤ 2147483647 from ⟨by omega, by omega⟩) (show (-2147483648) ≤ x2 ∧ x2 ≤ 2147483647 from ⟨by omega, by omega⟩) (show (-2147483648) ≤ x3 ∧ x3 ≤ 2147483647 from ⟨by omega, by omega⟩) (show (-2147483648) ≤ x4 ∧ x4 ≤ 2147483647 from ⟨by omega, by omega⟩) (show (-2147483648) ≤ x5 ∧ x5 ≤ 2147483647 from ⟨by omega, by omega⟩) (show (-2147483648) ≤ x6 ∧ x6 ≤ 2147483647 from ⟨by omega, by omega⟩) (show (-2147483648) ≤ x7 ∧ x7 ≤ 2147483647 from ⟨by omega, by omega⟩) (fun c_2 hI_3 hF_4 => ?_) (fun c_5 y_8 hI_6 hF_7 hy_8 => ?_))
  · skip
    refine bk_thr (z := Int32.ofInt 1) rfl ⟨_, _, rfl⟩ rfl (bk_inl (q_istore c_296_692 (Nat.le_of_ble_eq_true rfl) (q_aload_n c_296_694 rfl (q_aload_n c_296_695 rfl (q_iload c_296_696 rfl (q_iconst c_296_698 (v_iadd (v := (i0 : Int) + 1) c_296_699 rfl ?_)))))))
    refine v_scr (j := i0 + 1) c_296_700 (by omega) (by omega) hL hx1 (q_aload_n c_296_701 rfl (q_iload c_296_702 rfl (q_iconst c_296_704 (v_iadd (v := (i0 : Int) + 2) c_296_705 rfl (v_scr (j := i0 + 2) c_296_706 (by omega) (by omega) hL hx2 (q_aload_n c_296_707 rfl (q_iload c_296_708 rfl ?_)))))))
    refine q_iconst c_296_710 (v_iadd (v := (i0 : Int) + 3) c_296_711 rfl (v_scr (j := i0 + 3) c_296_712 (by omega) (by omega) hL hx3 (q_aload_n c_296_713 rfl (q_iload c_296_714 rfl (q_iconst c_296_716 (v_iadd (v := (i0 : Int) + 4) c_296_717 rfl (v_scr (j := i0 + 4) c_296_718 (by omega) (by omega) hL hx4 ?_)))))))
    refine q_aload_n c_296_719 rfl (q_iload c_296_720 rfl (q_iconst c_296_722 (v_iadd (v := (i0 : Int) + 5) c_296_723 rfl (v_scr (j := i0 + 5) c_296_724 (by omega) (by omega) hL hx5 (q_aload_n c_296_725 rfl (q_iload c_296_726 rfl (v_bip c_296_728 (by decide) ?_)))))))
    refine v_iadd (v := (i0 : Int) + 6) c_296_730 rfl (v_scr (j := i0 + 6) c_296_731 (by omega) (by omega) hL hx6 (q_aload_n c_296_732 rfl (q_iload c_296_733 rfl (v_bip c_296_735 (by decide) (v_iadd (v := (i0 : Int) + 7) c_296_737 rfl (v_scr (j := i0 + 7) c_296_738 (by omega) (by omega) hL hx7 (v_cv c_296_739 km_9_174 rfl rfl (Nat.le_of_ble_eq_true rfl) ⟨⟨rfl, rfl⟩, Nat.le_of_ble_eq_true rfl, rfl⟩ (Nat.le_of_ble_eq_true rfl) (Nat.le_of_ble_eq_true rfl) (s_217 (a1 := x1) (a2 := x2) (a3 := x3) (a4 := x4) (a5 := x5) (a6 := x6) (a7 := x7) hI_3 (show (-2147483648) ≤ x1 ∧ x1 ≤ 2147483647 from ⟨by omega, by omega⟩) (show (-2147483648) ≤ x2 ∧ x2 ≤ 2147483647 from ⟨by omega, by omega⟩) (show (-2147483648) ≤ x3 ∧ x3 ≤ 2147483647 from ⟨by omega, by omega⟩) (show (-2147483648) ≤ x4 ∧ x4 ≤ 2147483647 from ⟨by omega, by omega⟩) (show (-2147483648) ≤ x5 ∧ x5 ≤ 2147483647 from ⟨by omega, by omega⟩) (show (-2147483648) ≤ x6 ∧ x6 ≤ 2147483647 from ⟨by omega, by omega⟩) (show (-2147483648) ≤ x7 ∧ x7 ≤ 2147483647 from ⟨by omega, by omega⟩) (fun c_9 y_12 hI_10 hF_11 hy_12 => ?_)))))))))
    refine bk_inl (q_istore c_296_742 (Nat.le_of_ble_eq_true rfl) (q_goto (t := 1816) c_296_744 rfl (Wp_ls [(4, vi (i0 : Int)), (3, .ref 67), (2, .ref 41), (1, .ref 0), (0, .ref a_SC)] (lsub_cons rfl (lsub_cons rfl (lsub_cons rfl (lsub_cons rfl (lsub_cons rfl lsub_nil))))) ?_)))
    have h_13 := ir_1_3 hI
    have kn_14 : Hid (c_2 1 3 = c 1 3) := hF_4 1 3 (qn_573365727 hP)
    have kn_15 : Hid (c_9 1 3 = c 1 3) := (hF_11 1 3 qn_37c5d22e3).trans (hid kn_14)
    have h_16 : c_9 1 3 = c 1 3 := (hid kn_15)
    have h_17 := ir_41_2 hI
    have kn_18 : Hid (c_2 41 2 = c 41 2) := hF_4 41 2 (qn_69be8c781 hP)
    have kn_19 : Hid (c_9 41 2 = c 41 2) := (hF_11 41 2 qn_8a9509c06).trans (hid kn_18)
    have h_20 : c_9 41 2 = c 41 2 := (hid kn_19)
    have kn_21 : Hid (c_2 P 0 = n0) := (hF_4 P 0 (qn_ab81a8ac9 hP)).trans (hn0)
    have kn_22 : Hid (c_9 P 0 = n0) := (hF_11 P 0 (qn_7262c0794 hP)).trans (hid kn_21)
    have h_23 : c_9 P 0 = n0 := (hid kn_22)
    have kn_24 : Hid (c_2 41 20 = n0) := (hF_4 41 20 (qn_69be8c781 hP)).trans (hm0)
    have kn_25 : Hid (c_9 41 20 = n0) := (hF_11 41 20 qn_635eb2508).trans (hid kn_24)
    have h_26 : c_9 41 20 = n0 := (hid kn_25)
    have kn_27 : Hid (c_2 P 1 = n1) := (hF_4 P 1 (qn_ab81a8ac9 hP)).trans (hn1)
    have kn_28 : Hid (c_9 P 1 = n1) := (hF_11 P 1 (qn_7262c0794 hP)).trans (hid kn_27)
    have h_29 : c_9 P 1 = n1 := (hid kn_28)
    have kn_30 : Hid (c_2 41 21 = n1) := (hF_4 41 21 (qn_69be8c781 hP)).trans (hm1)
    have kn_31 : Hid (c_9 41 21 = n1) := (hF_11 41 21 qn_a2a3c278c).trans (hid kn_30)
    have h_32 : c_9 41 21 = n1 := (hid kn_31)
    have kn_33 : Hid (c_2 P 2 = n2) := (hF_4 P 2 (qn_ab81a8ac9 hP)).trans (hn2)
    have kn_34 : Hid (c_9 P 2 = n2) := (hF_11 P 2 (qn_7262c0794 hP)).trans (hid kn_33)
    have h_35 : c_9 P 2 = n2 := (hid kn_34)
    have kn_36 : Hid (c_2 41 22 = n2) := (hF_4 41 22 (qn_69be8c781 hP)).trans (hm2)
    have kn_37 : Hid (c_9 41 22 = n2) := (hF_11 41 22 qn_b0cd305d3).trans (hid kn_36)
    have h_38 : c_9 41 22 = n2 := (hid kn_37)
    have kn_39 : Hid (c_2 P 3 = n3) := (hF_4 P 3 (qn_ab81a8ac9 hP)).trans (hn3)
    have kn_40 : Hid (c_9 P 3 = n3) := (hF_11 P 3 (qn_7262c0794 hP)).trans (hid kn_39)
    have h_41 : c_9 P 3 = n3 := (hid kn_40)
    have kn_42 : Hid (c_2 41 23 = n3) := (hF_4 41 23 (qn_69be8c781 hP)).trans (hm3)
    have kn_43 : Hid (c_9 41 23 = n3) := (hF_11 41 23 qn_b2ba88a22).trans (hid kn_42)
    have h_44 : c_9 41 23 = n3 := (hid kn_43)
    have kn_45 : Hid (c_2 3 4 = c 3 4) := hF_4 3 4 (qn_9e88b668d hP)
    have kn_46 : Hid (c_9 3 4 = c 3 4) := (hF_11 3 4 qn_a90c7a9fa).trans (hid kn_45)
    have h_47 : c_9 3 4 = c 3 4 := (hid kn_46)
    have h_48 := ir_41_52 hI
    have kn_49 : Hid (c_2 41 52 = c 41 52) := hF_4 41 52 (qn_69be8c781 hP)
    have kn_50 : Hid (c_9 41 52 = c 41 52) := (hF_11 41 52 qn_e4aeebe12).trans (hid kn_49)
    have h_51 : c_9 41 52 = c 41 52 := (hid kn_50)
    have h_52 := ir_3_3 hI
    have kn_53 : Hid (c_2 3 3 = c 3 3) := hF_4 3 3 (qn_9e88b668d hP)
    have kn_54 : Hid (c_9 3 3 = c 3 3) := (hF_11 3 3 qn_a90c7a9fa).trans (hid kn_53)
    have h_55 : c_9 3 3 = c 3 3 := (hid kn_54)
    have h_56 := ir_41_35 hI
    have kn_57 : Hid (c_2 41 35 = c 41 35) := hF_4 41 35 (qn_69be8c781 hP)
    have kn_58 : Hid (c_9 41 35 = c 41 35) := (hF_11 41 35 qn_66adce4f0).trans (hid kn_57)
    have h_59 : c_9 41 35 = c 41 35 := (hid kn_58)
    have h_60 : c_9 3 4 = c 3 4 := (hid kn_46)
    have h_61 := ir_1_5 hI
    have kn_62 : Hid (c_2 1 5 = c 1 5) := hF_4 1 5 (qn_573365727 hP)
    have kn_63 : Hid (c_9 1 5 = c 1 5) := (hF_11 1 5 qn_37c5d22e3).trans (hid kn_62)
    have h_64 : c_9 1 5 = c 1 5 := (hid kn_63)
    have h_65 := ir_41_8 hI
    have kn_66 : Hid (c_2 41 8 = c 41 8) := hF_4 41 8 (qn_69be8c781 hP)
    have kn_67 : Hid (c_9 41 8 = c 41 8) := (hF_11 41 8 qn_88eebcc97).trans (hid kn_66)
    have h_68 : c_9 41 8 = c 41 8 := (hid kn_67)
    exact K P Q c_9 1 (by decide) hI_10 ⟨by omega, ub_fr hU (fun j => (hF_11 2 j qn_e0cc749b3).trans (hF_4 2 j (qn_aaebe4308 hP))) (fun j => (hF_11 43 j qn_53d487302).trans (hF_4 43 j (qn_3e58b8819 hP))), ⟨by omega, by omega, by omega, by omega⟩, by omega, by omega, iw_fr2 hIw (by omega) (fun j => (hF_11 6 j qn_e6230f6f4).trans (hF_4 6 j (qn_11fbaf786 hP))) (fun j => (hF_11 66 j qn_695ea80c1).trans (hF_4 66 j (qn_1388626d2 hP))), by omega⟩
  refine bk_inl (v_i2l c_273_18 (by omega) (v_ls c_273_19 rfl (by decide) (by decide) (by decide) (q_goto (t := 27) c_273_20 rfl (q_iconst c_273_27 (q_iret c_273_28 rfl (bk_inl (q_istore c_296_692 (Nat.le_of_ble_eq_true rfl) ?_)))))))
  refine q_aload_n c_296_694 rfl (q_aload_n c_296_695 rfl (q_iload c_296_696 rfl (q_iconst c_296_698 (v_iadd (v := (i0 : Int) + 1) c_296_699 rfl (v_scr (j := i0 + 1) c_296_700 (by omega) (by omega) hL hx1 (q_aload_n c_296_701 rfl (q_iload c_296_702 rfl ?_)))))))
  refine q_iconst c_296_704 (v_iadd (v := (i0 : Int) + 2) c_296_705 rfl (v_scr (j := i0 + 2) c_296_706 (by omega) (by omega) hL hx2 (q_aload_n c_296_707 rfl (q_iload c_296_708 rfl (q_iconst c_296_710 (v_iadd (v := (i0 : Int) + 3) c_296_711 rfl (v_scr (j := i0 + 3) c_296_712 (by omega) (by omega) hL hx3 ?_)))))))
  refine q_aload_n c_296_713 rfl (q_iload c_296_714 rfl (q_iconst c_296_716 (v_iadd (v := (i0 : Int) + 4) c_296_717 rfl (v_scr (j := i0 + 4) c_296_718 (by omega) (by omega) hL hx4 (q_aload_n c_296_719 rfl (q_iload c_296_720 rfl (q_iconst c_296_722 ?_)))))))
  refine v_iadd (v := (i0 : Int) + 5) c_296_723 rfl (v_scr (j := i0 + 5) c_296_724 (by omega) (by omega) hL hx5 (q_aload_n c_296_725 rfl (q_iload c_296_726 rfl (v_bip c_296_728 (by decide) (v_iadd (v := (i0 : Int) + 6) c_296_730 rfl (v_scr (j := i0 + 6) c_296_731 (by omega) (by omega) hL hx6 (q_aload_n c_296_732 rfl ?_)))))))
  refine q_iload c_296_733 rfl (v_bip c_296_735 (by decide) (v_iadd (v := (i0 : Int) + 7) c_296_737 rfl (v_scr (j := i0 + 7) c_296_738 (by omega) (by omega) hL hx7 ?_)))
  have hI_69 := iw_lx (a := 67) (j := 0) (v := y_8) hI_6 (by omega)
  refine v_cv c_296_739 km_9_174 rfl rfl (Nat.le_of_ble_eq_true rfl) ⟨⟨rfl, rfl⟩, Nat.le_of_ble_eq_true rfl, rfl⟩ (Nat.le_of_ble_eq_true rfl) (Nat.le_of_ble_eq_true rfl) (s_217 (a1 := x1) (a2 := x2) (a3 := x3) (a4 := x4) (a5 := x5) (a6 := x6) (a7 := x7) hI_69 (show (-2147483648) ≤ x1 ∧ x1 ≤ 2147483647 from ⟨by omega, by omega⟩) (show (-2147483648) ≤ x2 ∧ x2 ≤ 2147483647 from ⟨by omega, by omega⟩) (show (-2147483648) ≤ x3 ∧ x3 ≤ 2147483647 from ⟨by omega, by omega⟩) (show (-2147483648) ≤ x4 ∧ x4 ≤ 2147483647 from ⟨by omega, by omega⟩) (show (-2147483648) ≤ x5 ∧ x5 ≤ 2147483647 from ⟨by omega, by omega⟩) (show (-2147483648) ≤ x6 ∧ x6 ≤ 2147483647 from ⟨by omega, by omega⟩) (show (-2147483648) ≤ x7 ∧ x7 ≤ 2147483647 from ⟨by omega, by omega⟩) (fun c_70 y_73 hI_71 hF_72 hy_73 => (bk_inl (q_istore c_296_742 (Nat.le_of_ble_eq_true rfl) (q_goto (t := 1816) c_296_744 rfl (Wp_ls [(4, vi (i0 : Int)), (3, .ref 67), (2, .ref 41), (1, .ref 0), (0, .ref a_SC)] (lsub_cons rfl (lsub_cons rfl (lsub_cons rfl (lsub_cons rfl (lsub_cons rfl lsub_nil))))) ?_))))))
  have h_74 := ir_1_3 hI
  have kn_75 : Hid (c_5 1 3 = c 1 3) := hF_7 1 3 (qn_573365727 hP)
  have kn_76 : Hid (c_70 1 3 = c 1 3) := (hF_72 1 3 qn_37c5d22e3).trans ((up_c (nn rfl)).trans (hid kn_75))
  have h_77 : c_70 1 3 = c 1 3 := (hid kn_76)
  have h_78 := ir_41_2 hI
  have kn_79 : Hid (c_5 41 2 = c 41 2) := hF_7 41 2 (qn_69be8c781 hP)
  have kn_80 : Hid (c_70 41 2 = c 41 2) := (hF_72 41 2 qn_8a9509c06).trans ((up_c (nn rfl)).trans (hid kn_79))
  have h_81 : c_70 41 2 = c 41 2 := (hid kn_80)
  have kn_82 : Hid (c_5 P 0 = n0) := (hF_7 P 0 (qn_ab81a8ac9 hP)).trans (hn0)
  have kn_83 : Hid (c_70 P 0 = n0) := (hF_72 P 0 (qn_7262c0794 hP)).trans ((up_c (np0 hP rfl)).trans (hid kn_82))
  have h_84 : c_70 P 0 = n0 := (hid kn_83)
  have kn_85 : Hid (c_5 41 20 = n0) := (hF_7 41 20 (qn_69be8c781 hP)).trans (hm0)
  have kn_86 : Hid (c_70 41 20 = n0) := (hF_72 41 20 qn_635eb2508).trans ((up_c (nn rfl)).trans (hid kn_85))
  have h_87 : c_70 41 20 = n0 := (hid kn_86)
  have kn_88 : Hid (c_5 P 1 = n1) := (hF_7 P 1 (qn_ab81a8ac9 hP)).trans (hn1)
  have kn_89 : Hid (c_70 P 1 = n1) := (hF_72 P 1 (qn_7262c0794 hP)).trans ((up_c (np0 hP rfl)).trans (hid kn_88))
  have h_90 : c_70 P 1 = n1 := (hid kn_89)
  have kn_91 : Hid (c_5 41 21 = n1) := (hF_7 41 21 (qn_69be8c781 hP)).trans (hm1)
  have kn_92 : Hid (c_70 41 21 = n1) := (hF_72 41 21 qn_a2a3c278c).trans ((up_c (nn rfl)).trans (hid kn_91))
  have h_93 : c_70 41 21 = n1 := (hid kn_92)
  have kn_94 : Hid (c_5 P 2 = n2) := (hF_7 P 2 (qn_ab81a8ac9 hP)).trans (hn2)
  have kn_95 : Hid (c_70 P 2 = n2) := (hF_72 P 2 (qn_7262c0794 hP)).trans ((up_c (np0 hP rfl)).trans (hid kn_94))
  have h_96 : c_70 P 2 = n2 := (hid kn_95)
  have kn_97 : Hid (c_5 41 22 = n2) := (hF_7 41 22 (qn_69be8c781 hP)).trans (hm2)
  have kn_98 : Hid (c_70 41 22 = n2) := (hF_72 41 22 qn_b0cd305d3).trans ((up_c (nn rfl)).trans (hid kn_97))
  have h_99 : c_70 41 22 = n2 := (hid kn_98)
  have kn_100 : Hid (c_5 P 3 = n3) := (hF_7 P 3 (qn_ab81a8ac9 hP)).trans (hn3)
  have kn_101 : Hid (c_70 P 3 = n3) := (hF_72 P 3 (qn_7262c0794 hP)).trans ((up_c (np0 hP rfl)).trans (hid kn_100))
  have h_102 : c_70 P 3 = n3 := (hid kn_101)
  have kn_103 : Hid (c_5 41 23 = n3) := (hF_7 41 23 (qn_69be8c781 hP)).trans (hm3)
  have kn_104 : Hid (c_70 41 23 = n3) := (hF_72 41 23 qn_b2ba88a22).trans ((up_c (nn rfl)).trans (hid kn_103))
  have h_105 : c_70 41 23 = n3 := (hid kn_104)
  have kn_106 : Hid (c_5 3 4 = c 3 4) := hF_7 3 4 (qn_9e88b668d hP)
  have kn_107 : Hid (c_70 3 4 = c 3 4) := (hF_72 3 4 qn_a90c7a9fa).trans ((up_c (nn rfl)).trans (hid kn_106))
  have h_108 : c_70 3 4 = c 3 4 := (hid kn_107)
  have h_109 := ir_41_52 hI
  have kn_110 : Hid (c_5 41 52 = c 41 52) := hF_7 41 52 (qn_69be8c781 hP)
  have kn_111 : Hid (c_70 41 52 = c 41 52) := (hF_72 41 52 qn_e4aeebe12).trans ((up_c (nn rfl)).trans (hid kn_110))
  have h_112 : c_70 41 52 = c 41 52 := (hid kn_111)
  have h_113 := ir_3_3 hI
  have kn_114 : Hid (c_5 3 3 = c 3 3) := hF_7 3 3 (qn_9e88b668d hP)
  have kn_115 : Hid (c_70 3 3 = c 3 3) := (hF_72 3 3 qn_a90c7a9fa).trans ((up_c (nn rfl)).trans (hid kn_114))
  have h_116 : c_70 3 3 = c 3 3 := (hid kn_115)
  have h_117 := ir_41_35 hI
  have kn_118 : Hid (c_5 41 35 = c 41 35) := hF_7 41 35 (qn_69be8c781 hP)
  have kn_119 : Hid (c_70 41 35 = c 41 35) := (hF_72 41 35 qn_66adce4f0).trans ((up_c (nn rfl)).trans (hid kn_118))
  have h_120 : c_70 41 35 = c 41 35 := (hid kn_119)
  have h_121 : c_70 3 4 = c 3 4 := (hid kn_107)
  have h_122 := ir_1_5 hI
  have kn_123 : Hid (c_5 1 5 = c 1 5) := hF_7 1 5 (qn_573365727 hP)
  have kn_124 : Hid (c_70 1 5 = c 1 5) := (hF_72 1 5 qn_37c5d22e3).trans ((up_c (nn rfl)).trans (hid kn_123))
  have h_125 : c_70 1 5 = c 1 5 := (hid kn_124)
  have h_126 := ir_41_8 hI
  have kn_127 : Hid (c_5 41 8 = c 41 8) := hF_7 41 8 (qn_69be8c781 hP)
  have kn_128 : Hid (c_70 41 8 = c 41 8) := (hF_72 41 8 qn_88eebcc97).trans ((up_c (nn rfl)).trans (hid kn_127))
  have h_129 : c_70 41 8 = c 41 8 := (hid kn_128)
  exact K P Q c_70 0 (by decide) hI_71 ⟨by omega, ub_fr hU (fun j => (hF_72 2 j qn_e0cc749b3).trans ((up_c (nn rfl)).trans (hF_7 2 j (qn_aaebe4308 hP)))) (fun j => (hF_72 43 j qn_53d487302).trans ((up_c (nn rfl)).trans (hF_7 43 j (qn_3e58b8819 hP)))), ⟨by omega, by omega, by omega, by omega⟩, by omega, by omega, iw_fr2 hIw (by omega) (fun j => (hF_72 6 j qn_e6230f6f4).trans ((up_c (nn rfl)).trans (hF_7 6 j (qn_11fbaf786 hP)))) (fun j => (hF_72 66 j qn_695ea80c1).trans ((up_c (nn rfl)).trans (hF_7 66 j (qn_1388626d2 hP)))), by omega⟩

set_option maxRecDepth 100000 in
set_option maxHeartbeats 4000000 in
theorem o_14 {xs : Nat → Int32} {L i0 d nc ns P Q : Nat} {c : ME} {Z : AR → Prop} (hi : i0 + 8 ≤ L) (hL : L ≤ 100000) (hI : Iv 0 (-1) P Q c) (hR : Rq P c) (K : ∀ (P2 Q2 : Nat) (c2 : ME) (e : Nat), e ≤ 1 → Iv 0 (-1) P2 Q2 c2 → (Rq P2 c2) → Wp (a_scr L xs) (d + 90) 296 1816 [(4, vi (i0 : Int)), (3, .ref 67), (2, .ref 41), (1, .ref 0), (0, .ref a_SC)] [] (Wd P2 Q2 P2 P2 c2) (nc + e) (ns + 6 * e) Z) : Wp (a_scr L xs) (d + 90) 296 747 [(4, vi (i0 : Int)), (3, .ref 67), (2, .ref 41), (1, .ref 0), (0, .ref a_SC)] [] (Wd P Q P P c) nc ns Z := by
  obtain ⟨x1, hx1⟩ : ∃ z, (xs (i0 + 1)).toInt = z := ⟨_, rfl⟩
  have x1r := c_rng (xs (i0 + 1))
  rw [hx1] at x1r
  obtain ⟨x2, hx2⟩ : ∃ z, (xs (i0 + 2)).toInt = z := ⟨_, rfl⟩
  have x2r := c_rng (xs (i0 + 2))
  rw [hx2] at x2r
  obtain ⟨x3, hx3⟩ : ∃ z, (xs (i0 + 3)).toInt = z := ⟨_, rfl⟩
  have x3r := c_rng (xs (i0 + 3))
  rw [hx3] at x3r
  obtain ⟨x4, hx4⟩ : ∃ z, (xs (i0 + 4)).toInt = z := ⟨_, rfl⟩
  have x4r := c_rng (xs (i0 + 4))
  rw [hx4] at x4r
  obtain ⟨x5, hx5⟩ : ∃ z, (xs (i0 + 5)).toInt = z := ⟨_, rfl⟩
  have x5r := c_rng (xs (i0 + 5))
  rw [hx5] at x5r
  obtain ⟨x6, hx6⟩ : ∃ z, (xs (i0 + 6)).toInt = z := ⟨_, rfl⟩
  have x6r := c_rng (xs (i0 + 6))
  rw [hx6] at x6r
  obtain ⟨x7, hx7⟩ : ∃ z, (xs (i0 + 7)).toInt = z := ⟨_, rfl⟩
  have x7r := c_rng (xs (i0 + 7))
  rw [hx7] at x7r
  have hP := iv_P hI
  have hQ := iv_Q hI
  have hT := rl_t hR
  have hU := rl_u hR
  obtain ⟨n0, hn0⟩ : ∃ z, c P 0 = z := ⟨_, rfl⟩
  have hm0 : c 41 20 = n0 := (rl_nums hR).1.symm.trans hn0
  have hr0 := ir_p0_0 hI hP
  rw [hn0] at hr0
  obtain ⟨n1, hn1⟩ : ∃ z, c P 1 = z := ⟨_, rfl⟩
  have hm1 : c 41 21 = n1 := (rl_nums hR).2.1.symm.trans hn1
  have hr1 := ir_p0_1 hI hP
  rw [hn1] at hr1
  obtain ⟨n2, hn2⟩ : ∃ z, c P 2 = z := ⟨_, rfl⟩
  have hm2 : c 41 22 = n2 := (rl_nums hR).2.2.1.symm.trans hn2
  have hr2 := ir_p0_2 hI hP
  rw [hn2] at hr2
  obtain ⟨n3, hn3⟩ : ∃ z, c P 3 = z := ⟨_, rfl⟩
  have hm3 : c 41 23 = n3 := (rl_nums hR).2.2.2.symm.trans hn3
  have hr3 := ir_p0_3 hI hP
  rw [hn3] at hr3
  have hNimg := rl_img hR
  have hNwk := rl_wk hR
  have h_1 := ir_3_4 hI
  have hIw := rl_iw hR
  have hNplace := rl_place hR
  refine q_aload_n c_296_747 rfl (q_aload_n c_296_748 rfl (q_iload c_296_749 rfl (q_iconst c_296_751 (v_iadd (v := (i0 : Int) + 1) c_296_752 rfl (v_scr (j := i0 + 1) c_296_753 (by omega) (by omega) hL hx1 (q_aload_n c_296_754 rfl (q_iload c_296_755 rfl ?_)))))))
  refine q_iconst c_296_757 (v_iadd (v := (i0 : Int) + 2) c_296_758 rfl (v_scr (j := i0 + 2) c_296_759 (by omega) (by omega) hL hx2 (q_aload_n c_296_760 rfl (q_iload c_296_761 rfl (q_iconst c_296_763 (v_iadd (v := (i0 : Int) + 3) c_296_764 rfl (v_scr (j := i0 + 3) c_296_765 (by omega) (by omega) hL hx3 ?_)))))))
  refine q_aload_n c_296_766 rfl (q_call c_296_767 rfl rfl rfl (q_aload c_274_0 rfl (q_iconst c_274_2 (q_aload_n c_274_3 rfl (q_iload_n c_274_4 rfl (q_iload_n c_274_5 rfl (q_iload_n c_274_6 rfl ?_)))))))
  refine v_cv c_274_7 km_9_49 rfl rfl (Nat.le_of_ble_eq_true rfl) ⟨⟨rfl, rfl⟩, Nat.le_of_ble_eq_true rfl, rfl⟩ (Nat.le_of_ble_eq_true rfl) (Nat.le_of_ble_eq_true rfl) (s_110 (a1 := x1) (a2 := x2) (a3 := x3) hI (show (-2147483648) ≤ x1 ∧ x1 ≤ 2147483647 from ⟨by omega, by omega⟩) (show (-2147483648) ≤ x2 ∧ x2 ≤ 2147483647 from ⟨by omega, by omega⟩) (show (-2147483648) ≤ x3 ∧ x3 ≤ 2147483647 from ⟨by omega, by omega⟩) (fun c_2 hI_3 hF_4 => ?_) (fun c_5 hI_6 hF_7 => ?_) (fun c_8 y_11 hI_9 hF_10 hy_11 => ?_))
  · skip
    refine bk_thr (z := Int32.ofInt 1) rfl ⟨_, _, rfl⟩ rfl (bk_inl (q_istore c_296_770 (Nat.le_of_ble_eq_true rfl) (q_aload_n c_296_772 rfl (q_aload_n c_296_773 rfl (q_iload c_296_774 rfl (q_iconst c_296_776 (v_iadd (v := (i0 : Int) + 1) c_296_777 rfl ?_)))))))
    refine v_scr (j := i0 + 1) c_296_778 (by omega) (by omega) hL hx1 (q_aload_n c_296_779 rfl (q_iload c_296_780 rfl (q_iconst c_296_782 (v_iadd (v := (i0 : Int) + 2) c_296_783 rfl (v_scr (j := i0 + 2) c_296_784 (by omega) (by omega) hL hx2 (q_aload_n c_296_785 rfl (q_iload c_296_786 rfl ?_)))))))
    refine q_iconst c_296_788 (v_iadd (v := (i0 : Int) + 3) c_296_789 rfl (v_scr (j := i0 + 3) c_296_790 (by omega) (by omega) hL hx3 (v_cv c_296_791 km_9_178 rfl rfl (Nat.le_of_ble_eq_true rfl) ⟨⟨rfl, rfl⟩, Nat.le_of_ble_eq_true rfl, rfl⟩ (Nat.le_of_ble_eq_true rfl) (Nat.le_of_ble_eq_true rfl) (s_218 (a1 := x1) (a2 := x2) (a3 := x3) hI_3 (show (-2147483648) ≤ x1 ∧ x1 ≤ 2147483647 from ⟨by omega, by omega⟩) (show (-2147483648) ≤ x2 ∧ x2 ≤ 2147483647 from ⟨by omega, by omega⟩) (show (-2147483648) ≤ x3 ∧ x3 ≤ 2147483647 from ⟨by omega, by omega⟩) (fun c_12 y_15 hI_13 hF_14 hy_15 => (bk_inl (q_istore c_296_794 (Nat.le_of_ble_eq_true rfl) (q_goto (t := 1816) c_296_796 rfl (Wp_ls [(4, vi (i0 : Int)), (3, .ref 67), (2, .ref 41), (1, .ref 0), (0, .ref a_SC)] (lsub_cons rfl (lsub_cons rfl (lsub_cons rfl (lsub_cons rfl (lsub_cons rfl lsub_nil))))) ?_)))))))))
    have h_16 := ir_1_3 hI
    have kn_17 : Hid (c_2 1 3 = c 1 3) := hF_4 1 3 qn_ab545a015
    have kn_18 : Hid (c_12 1 3 = c 1 3) := (hF_14 1 3 qn_39cd18c3e).trans (hid kn_17)
    have h_19 : c_12 1 3 = c 1 3 := (hid kn_18)
    have h_20 := ir_41_2 hI
    have kn_21 : Hid (c_2 41 2 = c 41 2) := hF_4 41 2 qn_f6e9e9f23
    have kn_22 : Hid (c_12 41 2 = c 41 2) := (hF_14 41 2 qn_53bdb2099).trans (hid kn_21)
    have h_23 : c_12 41 2 = c 41 2 := (hid kn_22)
    have kn_24 : Hid (c_2 P 0 = n0) := (hF_4 P 0 (qn_2ab083081 hP)).trans (hn0)
    have kn_25 : Hid (c_12 P 0 = n0) := (hF_14 P 0 (qn_857752076 hP)).trans (hid kn_24)
    have h_26 : c_12 P 0 = n0 := (hid kn_25)
    have kn_27 : Hid (c_2 41 20 = n0) := (hF_4 41 20 qn_f6e9e9f23).trans (hm0)
    have kn_28 : Hid (c_12 41 20 = n0) := (hF_14 41 20 qn_110b29ed6).trans (hid kn_27)
    have h_29 : c_12 41 20 = n0 := (hid kn_28)
    have kn_30 : Hid (c_2 P 1 = n1) := (hF_4 P 1 (qn_2ab083081 hP)).trans (hn1)
    have kn_31 : Hid (c_12 P 1 = n1) := (hF_14 P 1 (qn_857752076 hP)).trans (hid kn_30)
    have h_32 : c_12 P 1 = n1 := (hid kn_31)
    have kn_33 : Hid (c_2 41 21 = n1) := (hF_4 41 21 qn_f6e9e9f23).trans (hm1)
    have kn_34 : Hid (c_12 41 21 = n1) := (hF_14 41 21 qn_561064c41).trans (hid kn_33)
    have h_35 : c_12 41 21 = n1 := (hid kn_34)
    have kn_36 : Hid (c_2 P 2 = n2) := (hF_4 P 2 (qn_2ab083081 hP)).trans (hn2)
    have kn_37 : Hid (c_12 P 2 = n2) := (hF_14 P 2 (qn_857752076 hP)).trans (hid kn_36)
    have h_38 : c_12 P 2 = n2 := (hid kn_37)
    have kn_39 : Hid (c_2 41 22 = n2) := (hF_4 41 22 qn_f6e9e9f23).trans (hm2)
    have kn_40 : Hid (c_12 41 22 = n2) := (hF_14 41 22 qn_1a460b46b).trans (hid kn_39)
    have h_41 : c_12 41 22 = n2 := (hid kn_40)
    have kn_42 : Hid (c_2 P 3 = n3) := (hF_4 P 3 (qn_2ab083081 hP)).trans (hn3)
    have kn_43 : Hid (c_12 P 3 = n3) := (hF_14 P 3 (qn_857752076 hP)).trans (hid kn_42)
    have h_44 : c_12 P 3 = n3 := (hid kn_43)
    have kn_45 : Hid (c_2 41 23 = n3) := (hF_4 41 23 qn_f6e9e9f23).trans (hm3)
    have kn_46 : Hid (c_12 41 23 = n3) := (hF_14 41 23 qn_b79f282cd).trans (hid kn_45)
    have h_47 : c_12 41 23 = n3 := (hid kn_46)
    have kn_48 : Hid (c_2 3 4 = c 3 4) := hF_4 3 4 qn_342fc6b17
    have kn_49 : Hid (c_12 3 4 = c 3 4) := (hF_14 3 4 qn_bf2303cc8).trans (hid kn_48)
    have h_50 : c_12 3 4 = c 3 4 := (hid kn_49)
    have h_51 := ir_41_52 hI
    have kn_52 : Hid (c_2 41 52 = c 41 52) := hF_4 41 52 qn_f6e9e9f23
    have kn_53 : Hid (c_12 41 52 = c 41 52) := (hF_14 41 52 qn_90835161a).trans (hid kn_52)
    have h_54 : c_12 41 52 = c 41 52 := (hid kn_53)
    have h_55 := ir_3_3 hI
    have kn_56 : Hid (c_2 3 3 = c 3 3) := hF_4 3 3 qn_342fc6b17
    have kn_57 : Hid (c_12 3 3 = c 3 3) := (hF_14 3 3 qn_bf2303cc8).trans (hid kn_56)
    have h_58 : c_12 3 3 = c 3 3 := (hid kn_57)
    have h_59 := ir_41_35 hI
    have kn_60 : Hid (c_2 41 35 = c 41 35) := hF_4 41 35 qn_f6e9e9f23
    have kn_61 : Hid (c_12 41 35 = c 41 35) := (hF_14 41 35 qn_732a91ea5).trans (hid kn_60)
    have h_62 : c_12 41 35 = c 41 35 := (hid kn_61)
    have h_63 : c_12 3 4 = c 3 4 := (hid kn_49)
    have h_64 := ir_1_5 hI
    have kn_65 : Hid (c_2 1 5 = c 1 5) := hF_4 1 5 qn_ab545a015
    have kn_66 : Hid (c_12 1 5 = c 1 5) := (hF_14 1 5 qn_39cd18c3e).trans (hid kn_65)
    have h_67 : c_12 1 5 = c 1 5 := (hid kn_66)
    have h_68 := ir_41_8 hI
    have kn_69 : Hid (c_2 41 8 = c 41 8) := hF_4 41 8 qn_f6e9e9f23
    have kn_70 : Hid (c_12 41 8 = c 41 8) := (hF_14 41 8 qn_b601a9968).trans (hid kn_69)
    have h_71 : c_12 41 8 = c 41 8 := (hid kn_70)
    exact K P Q c_12 1 (by decide) hI_13 ⟨by omega, ub_fr hU (fun j => (hF_14 2 j qn_2ad67e194).trans (hF_4 2 j qn_326a9cf27)) (fun j => (hF_14 43 j qn_1520ff5e3).trans (hF_4 43 j qn_dee8a76c5)), ⟨by omega, by omega, by omega, by omega⟩, by omega, by omega, iw_fr2 hIw (by omega) (fun j => (hF_14 6 j qn_e1050858a).trans (hF_4 6 j qn_3cac0bc66)) (fun j => (hF_14 66 j qn_5616dd9ce).trans (hF_4 66 j qn_c03dddd5c)), by omega⟩
  · skip
    refine bk_thr (z := Int32.ofInt 2) rfl ⟨_, _, rfl⟩ rfl (bk_inl (q_istore c_296_770 (Nat.le_of_ble_eq_true rfl) (q_aload_n c_296_772 rfl (q_aload_n c_296_773 rfl (q_iload c_296_774 rfl (q_iconst c_296_776 (v_iadd (v := (i0 : Int) + 1) c_296_777 rfl ?_)))))))
    refine v_scr (j := i0 + 1) c_296_778 (by omega) (by omega) hL hx1 (q_aload_n c_296_779 rfl (q_iload c_296_780 rfl (q_iconst c_296_782 (v_iadd (v := (i0 : Int) + 2) c_296_783 rfl (v_scr (j := i0 + 2) c_296_784 (by omega) (by omega) hL hx2 (q_aload_n c_296_785 rfl (q_iload c_296_786 rfl ?_)))))))
    refine q_iconst c_296_788 (v_iadd (v := (i0 : Int) + 3) c_296_789 rfl (v_scr (j := i0 + 3) c_296_790 (by omega) (by omega) hL hx3 (v_cv c_296_791 km_9_178 rfl rfl (Nat.le_of_ble_eq_true rfl) ⟨⟨rfl, rfl⟩, Nat.le_of_ble_eq_true rfl, rfl⟩ (Nat.le_of_ble_eq_true rfl) (Nat.le_of_ble_eq_true rfl) (s_218 (a1 := x1) (a2 := x2) (a3 := x3) hI_6 (show (-2147483648) ≤ x1 ∧ x1 ≤ 2147483647 from ⟨by omega, by omega⟩) (show (-2147483648) ≤ x2 ∧ x2 ≤ 2147483647 from ⟨by omega, by omega⟩) (show (-2147483648) ≤ x3 ∧ x3 ≤ 2147483647 from ⟨by omega, by omega⟩) (fun c_72 y_75 hI_73 hF_74 hy_75 => (bk_inl (q_istore c_296_794 (Nat.le_of_ble_eq_true rfl) (q_goto (t := 1816) c_296_796 rfl (Wp_ls [(4, vi (i0 : Int)), (3, .ref 67), (2, .ref 41), (1, .ref 0), (0, .ref a_SC)] (lsub_cons rfl (lsub_cons rfl (lsub_cons rfl (lsub_cons rfl (lsub_cons rfl lsub_nil))))) ?_)))))))))
    have h_76 := ir_1_3 hI
    have kn_77 : Hid (c_5 1 3 = c 1 3) := hF_7 1 3 qn_ab545a015
    have kn_78 : Hid (c_72 1 3 = c 1 3) := (hF_74 1 3 qn_39cd18c3e).trans (hid kn_77)
    have h_79 : c_72 1 3 = c 1 3 := (hid kn_78)
    have h_80 := ir_41_2 hI
    have kn_81 : Hid (c_5 41 2 = c 41 2) := hF_7 41 2 qn_f6e9e9f23
    have kn_82 : Hid (c_72 41 2 = c 41 2) := (hF_74 41 2 qn_53bdb2099).trans (hid kn_81)
    have h_83 : c_72 41 2 = c 41 2 := (hid kn_82)
    have kn_84 : Hid (c_5 P 0 = n0) := (hF_7 P 0 (qn_2ab083081 hP)).trans (hn0)
    have kn_85 : Hid (c_72 P 0 = n0) := (hF_74 P 0 (qn_857752076 hP)).trans (hid kn_84)
    have h_86 : c_72 P 0 = n0 := (hid kn_85)
    have kn_87 : Hid (c_5 41 20 = n0) := (hF_7 41 20 qn_f6e9e9f23).trans (hm0)
    have kn_88 : Hid (c_72 41 20 = n0) := (hF_74 41 20 qn_110b29ed6).trans (hid kn_87)
    have h_89 : c_72 41 20 = n0 := (hid kn_88)
    have kn_90 : Hid (c_5 P 1 = n1) := (hF_7 P 1 (qn_2ab083081 hP)).trans (hn1)
    have kn_91 : Hid (c_72 P 1 = n1) := (hF_74 P 1 (qn_857752076 hP)).trans (hid kn_90)
    have h_92 : c_72 P 1 = n1 := (hid kn_91)
    have kn_93 : Hid (c_5 41 21 = n1) := (hF_7 41 21 qn_f6e9e9f23).trans (hm1)
    have kn_94 : Hid (c_72 41 21 = n1) := (hF_74 41 21 qn_561064c41).trans (hid kn_93)
    have h_95 : c_72 41 21 = n1 := (hid kn_94)
    have kn_96 : Hid (c_5 P 2 = n2) := (hF_7 P 2 (qn_2ab083081 hP)).trans (hn2)
    have kn_97 : Hid (c_72 P 2 = n2) := (hF_74 P 2 (qn_857752076 hP)).trans (hid kn_96)
    have h_98 : c_72 P 2 = n2 := (hid kn_97)
    have kn_99 : Hid (c_5 41 22 = n2) := (hF_7 41 22 qn_f6e9e9f23).trans (hm2)
    have kn_100 : Hid (c_72 41 22 = n2) := (hF_74 41 22 qn_1a460b46b).trans (hid kn_99)
    have h_101 : c_72 41 22 = n2 := (hid kn_100)
    have kn_102 : Hid (c_5 P 3 = n3) := (hF_7 P 3 (qn_2ab083081 hP)).trans (hn3)
    have kn_103 : Hid (c_72 P 3 = n3) := (hF_74 P 3 (qn_857752076 hP)).trans (hid kn_102)
    have h_104 : c_72 P 3 = n3 := (hid kn_103)
    have kn_105 : Hid (c_5 41 23 = n3) := (hF_7 41 23 qn_f6e9e9f23).trans (hm3)
    have kn_106 : Hid (c_72 41 23 = n3) := (hF_74 41 23 qn_b79f282cd).trans (hid kn_105)
    have h_107 : c_72 41 23 = n3 := (hid kn_106)
    have kn_108 : Hid (c_5 3 4 = c 3 4) := hF_7 3 4 qn_342fc6b17
    have kn_109 : Hid (c_72 3 4 = c 3 4) := (hF_74 3 4 qn_bf2303cc8).trans (hid kn_108)
    have h_110 : c_72 3 4 = c 3 4 := (hid kn_109)
    have h_111 := ir_41_52 hI
    have kn_112 : Hid (c_5 41 52 = c 41 52) := hF_7 41 52 qn_f6e9e9f23
    have kn_113 : Hid (c_72 41 52 = c 41 52) := (hF_74 41 52 qn_90835161a).trans (hid kn_112)
    have h_114 : c_72 41 52 = c 41 52 := (hid kn_113)
    have h_115 := ir_3_3 hI
    have kn_116 : Hid (c_5 3 3 = c 3 3) := hF_7 3 3 qn_342fc6b17
    have kn_117 : Hid (c_72 3 3 = c 3 3) := (hF_74 3 3 qn_bf2303cc8).trans (hid kn_116)
    have h_118 : c_72 3 3 = c 3 3 := (hid kn_117)
    have h_119 := ir_41_35 hI
    have kn_120 : Hid (c_5 41 35 = c 41 35) := hF_7 41 35 qn_f6e9e9f23
    have kn_121 : Hid (c_72 41 35 = c 41 35) := (hF_74 41 35 qn_732a91ea5).trans (hid kn_120)
    have h_122 : c_72 41 35 = c 41 35 := (hid kn_121)
    have h_123 : c_72 3 4 = c 3 4 := (hid kn_109)
    have h_124 := ir_1_5 hI
    have kn_125 : Hid (c_5 1 5 = c 1 5) := hF_7 1 5 qn_ab545a015
    have kn_126 : Hid (c_72 1 5 = c 1 5) := (hF_74 1 5 qn_39cd18c3e).trans (hid kn_125)
    have h_127 : c_72 1 5 = c 1 5 := (hid kn_126)
    have h_128 := ir_41_8 hI
    have kn_129 : Hid (c_5 41 8 = c 41 8) := hF_7 41 8 qn_f6e9e9f23
    have kn_130 : Hid (c_72 41 8 = c 41 8) := (hF_74 41 8 qn_b601a9968).trans (hid kn_129)
    have h_131 : c_72 41 8 = c 41 8 := (hid kn_130)
    exact K P Q c_72 1 (by decide) hI_73 ⟨by omega, ub_fr hU (fun j => (hF_74 2 j qn_2ad67e194).trans (hF_7 2 j qn_326a9cf27)) (fun j => (hF_74 43 j qn_1520ff5e3).trans (hF_7 43 j qn_dee8a76c5)), ⟨by omega, by omega, by omega, by omega⟩, by omega, by omega, iw_fr2 hIw (by omega) (fun j => (hF_74 6 j qn_e1050858a).trans (hF_7 6 j qn_3cac0bc66)) (fun j => (hF_74 66 j qn_5616dd9ce).trans (hF_7 66 j qn_c03dddd5c)), by omega⟩
  refine bk_inl (v_i2l c_274_10 (by omega) (v_ls c_274_11 rfl (by decide) (by decide) (by decide) (q_goto (t := 23) c_274_12 rfl (q_iconst c_274_23 (q_iret c_274_24 rfl (bk_inl (q_istore c_296_770 (Nat.le_of_ble_eq_true rfl) ?_)))))))
  refine q_aload_n c_296_772 rfl (q_aload_n c_296_773 rfl (q_iload c_296_774 rfl (q_iconst c_296_776 (v_iadd (v := (i0 : Int) + 1) c_296_777 rfl (v_scr (j := i0 + 1) c_296_778 (by omega) (by omega) hL hx1 (q_aload_n c_296_779 rfl (q_iload c_296_780 rfl ?_)))))))
  refine q_iconst c_296_782 (v_iadd (v := (i0 : Int) + 2) c_296_783 rfl (v_scr (j := i0 + 2) c_296_784 (by omega) (by omega) hL hx2 (q_aload_n c_296_785 rfl (q_iload c_296_786 rfl (q_iconst c_296_788 (v_iadd (v := (i0 : Int) + 3) c_296_789 rfl (v_scr (j := i0 + 3) c_296_790 (by omega) (by omega) hL hx3 ?_)))))))
  have hI_132 := iw_lx (a := 67) (j := 0) (v := y_11) hI_9 (by omega)
  refine v_cv c_296_791 km_9_178 rfl rfl (Nat.le_of_ble_eq_true rfl) ⟨⟨rfl, rfl⟩, Nat.le_of_ble_eq_true rfl, rfl⟩ (Nat.le_of_ble_eq_true rfl) (Nat.le_of_ble_eq_true rfl) (s_218 (a1 := x1) (a2 := x2) (a3 := x3) hI_132 (show (-2147483648) ≤ x1 ∧ x1 ≤ 2147483647 from ⟨by omega, by omega⟩) (show (-2147483648) ≤ x2 ∧ x2 ≤ 2147483647 from ⟨by omega, by omega⟩) (show (-2147483648) ≤ x3 ∧ x3 ≤ 2147483647 from ⟨by omega, by omega⟩) (fun c_133 y_136 hI_134 hF_135 hy_136 => (bk_inl (q_istore c_296_794 (Nat.le_of_ble_eq_true rfl) (q_goto (t := 1816) c_296_796 rfl (Wp_ls [(4, vi (i0 : Int)), (3, .ref 67), (2, .ref 41), (1, .ref 0), (0, .ref a_SC)] (lsub_cons rfl (lsub_cons rfl (lsub_cons rfl (lsub_cons rfl (lsub_cons rfl lsub_nil))))) ?_))))))
  have h_137 := ir_1_3 hI
  have kn_138 : Hid (c_8 1 3 = c 1 3) := hF_10 1 3 qn_ab545a015
  have kn_139 : Hid (c_133 1 3 = c 1 3) := (hF_135 1 3 qn_39cd18c3e).trans ((up_c (nn rfl)).trans (hid kn_138))
  have h_140 : c_133 1 3 = c 1 3 := (hid kn_139)
  have h_141 := ir_41_2 hI
  have kn_142 : Hid (c_8 41 2 = c 41 2) := hF_10 41 2 qn_f6e9e9f23
  have kn_143 : Hid (c_133 41 2 = c 41 2) := (hF_135 41 2 qn_53bdb2099).trans ((up_c (nn rfl)).trans (hid kn_142))
  have h_144 : c_133 41 2 = c 41 2 := (hid kn_143)
  have kn_145 : Hid (c_8 P 0 = n0) := (hF_10 P 0 (qn_2ab083081 hP)).trans (hn0)
  have kn_146 : Hid (c_133 P 0 = n0) := (hF_135 P 0 (qn_857752076 hP)).trans ((up_c (np0 hP rfl)).trans (hid kn_145))
  have h_147 : c_133 P 0 = n0 := (hid kn_146)
  have kn_148 : Hid (c_8 41 20 = n0) := (hF_10 41 20 qn_f6e9e9f23).trans (hm0)
  have kn_149 : Hid (c_133 41 20 = n0) := (hF_135 41 20 qn_110b29ed6).trans ((up_c (nn rfl)).trans (hid kn_148))
  have h_150 : c_133 41 20 = n0 := (hid kn_149)
  have kn_151 : Hid (c_8 P 1 = n1) := (hF_10 P 1 (qn_2ab083081 hP)).trans (hn1)
  have kn_152 : Hid (c_133 P 1 = n1) := (hF_135 P 1 (qn_857752076 hP)).trans ((up_c (np0 hP rfl)).trans (hid kn_151))
  have h_153 : c_133 P 1 = n1 := (hid kn_152)
  have kn_154 : Hid (c_8 41 21 = n1) := (hF_10 41 21 qn_f6e9e9f23).trans (hm1)
  have kn_155 : Hid (c_133 41 21 = n1) := (hF_135 41 21 qn_561064c41).trans ((up_c (nn rfl)).trans (hid kn_154))
  have h_156 : c_133 41 21 = n1 := (hid kn_155)
  have kn_157 : Hid (c_8 P 2 = n2) := (hF_10 P 2 (qn_2ab083081 hP)).trans (hn2)
  have kn_158 : Hid (c_133 P 2 = n2) := (hF_135 P 2 (qn_857752076 hP)).trans ((up_c (np0 hP rfl)).trans (hid kn_157))
  have h_159 : c_133 P 2 = n2 := (hid kn_158)
  have kn_160 : Hid (c_8 41 22 = n2) := (hF_10 41 22 qn_f6e9e9f23).trans (hm2)
  have kn_161 : Hid (c_133 41 22 = n2) := (hF_135 41 22 qn_1a460b46b).trans ((up_c (nn rfl)).trans (hid kn_160))
  have h_162 : c_133 41 22 = n2 := (hid kn_161)
  have kn_163 : Hid (c_8 P 3 = n3) := (hF_10 P 3 (qn_2ab083081 hP)).trans (hn3)
  have kn_164 : Hid (c_133 P 3 = n3) := (hF_135 P 3 (qn_857752076 hP)).trans ((up_c (np0 hP rfl)).trans (hid kn_163))
  have h_165 : c_133 P 3 = n3 := (hid kn_164)
  have kn_166 : Hid (c_8 41 23 = n3) := (hF_10 41 23 qn_f6e9e9f23).trans (hm3)
  have kn_167 : Hid (c_133 41 23 = n3) := (hF_135 41 23 qn_b79f282cd).trans ((up_c (nn rfl)).trans (hid kn_166))
  have h_168 : c_133 41 23 = n3 := (hid kn_167)
  have kn_169 : Hid (c_8 3 4 = c 3 4) := hF_10 3 4 qn_342fc6b17
  have kn_170 : Hid (c_133 3 4 = c 3 4) := (hF_135 3 4 qn_bf2303cc8).trans ((up_c (nn rfl)).trans (hid kn_169))
  have h_171 : c_133 3 4 = c 3 4 := (hid kn_170)
  have h_172 := ir_41_52 hI
  have kn_173 : Hid (c_8 41 52 = c 41 52) := hF_10 41 52 qn_f6e9e9f23
  have kn_174 : Hid (c_133 41 52 = c 41 52) := (hF_135 41 52 qn_90835161a).trans ((up_c (nn rfl)).trans (hid kn_173))
  have h_175 : c_133 41 52 = c 41 52 := (hid kn_174)
  have h_176 := ir_3_3 hI
  have kn_177 : Hid (c_8 3 3 = c 3 3) := hF_10 3 3 qn_342fc6b17
  have kn_178 : Hid (c_133 3 3 = c 3 3) := (hF_135 3 3 qn_bf2303cc8).trans ((up_c (nn rfl)).trans (hid kn_177))
  have h_179 : c_133 3 3 = c 3 3 := (hid kn_178)
  have h_180 := ir_41_35 hI
  have kn_181 : Hid (c_8 41 35 = c 41 35) := hF_10 41 35 qn_f6e9e9f23
  have kn_182 : Hid (c_133 41 35 = c 41 35) := (hF_135 41 35 qn_732a91ea5).trans ((up_c (nn rfl)).trans (hid kn_181))
  have h_183 : c_133 41 35 = c 41 35 := (hid kn_182)
  have h_184 : c_133 3 4 = c 3 4 := (hid kn_170)
  have h_185 := ir_1_5 hI
  have kn_186 : Hid (c_8 1 5 = c 1 5) := hF_10 1 5 qn_ab545a015
  have kn_187 : Hid (c_133 1 5 = c 1 5) := (hF_135 1 5 qn_39cd18c3e).trans ((up_c (nn rfl)).trans (hid kn_186))
  have h_188 : c_133 1 5 = c 1 5 := (hid kn_187)
  have h_189 := ir_41_8 hI
  have kn_190 : Hid (c_8 41 8 = c 41 8) := hF_10 41 8 qn_f6e9e9f23
  have kn_191 : Hid (c_133 41 8 = c 41 8) := (hF_135 41 8 qn_b601a9968).trans ((up_c (nn rfl)).trans (hid kn_190))
  have h_192 : c_133 41 8 = c 41 8 := (hid kn_191)
  exact K P Q c_133 0 (by decide) hI_134 ⟨by omega, ub_fr hU (fun j => (hF_135 2 j qn_2ad67e194).trans ((up_c (nn rfl)).trans (hF_10 2 j qn_326a9cf27))) (fun j => (hF_135 43 j qn_1520ff5e3).trans ((up_c (nn rfl)).trans (hF_10 43 j qn_dee8a76c5))), ⟨by omega, by omega, by omega, by omega⟩, by omega, by omega, iw_fr2 hIw (by omega) (fun j => (hF_135 6 j qn_e1050858a).trans ((up_c (nn rfl)).trans (hF_10 6 j qn_3cac0bc66))) (fun j => (hF_135 66 j qn_5616dd9ce).trans ((up_c (nn rfl)).trans (hF_10 66 j qn_c03dddd5c))), by omega⟩

set_option maxRecDepth 100000 in
set_option maxHeartbeats 4000000 in
theorem o_15 {xs : Nat → Int32} {L i0 d nc ns P Q : Nat} {c : ME} {Z : AR → Prop} (hi : i0 + 8 ≤ L) (hL : L ≤ 100000) (hI : Iv 0 (-1) P Q c) (hR : Rq P c) (K : ∀ (P2 Q2 : Nat) (c2 : ME) (e : Nat), e ≤ 1 → Iv 0 (-1) P2 Q2 c2 → (Rq P2 c2) → Wp (a_scr L xs) (d + 90) 296 1816 [(4, vi (i0 : Int)), (3, .ref 67), (2, .ref 41), (1, .ref 0), (0, .ref a_SC)] [] (Wd P2 Q2 P2 P2 c2) (nc + e) (ns + 6 * e) Z) : Wp (a_scr L xs) (d + 90) 296 799 [(4, vi (i0 : Int)), (3, .ref 67), (2, .ref 41), (1, .ref 0), (0, .ref a_SC)] [] (Wd P Q P P c) nc ns Z := by
  obtain ⟨x1, hx1⟩ : ∃ z, (xs (i0 + 1)).toInt = z := ⟨_, rfl⟩
  have x1r := c_rng (xs (i0 + 1))
  rw [hx1] at x1r
  obtain ⟨x2, hx2⟩ : ∃ z, (xs (i0 + 2)).toInt = z := ⟨_, rfl⟩
  have x2r := c_rng (xs (i0 + 2))
  rw [hx2] at x2r
  obtain ⟨x3, hx3⟩ : ∃ z, (xs (i0 + 3)).toInt = z := ⟨_, rfl⟩
  have x3r := c_rng (xs (i0 + 3))
  rw [hx3] at x3r
  obtain ⟨x4, hx4⟩ : ∃ z, (xs (i0 + 4)).toInt = z := ⟨_, rfl⟩
  have x4r := c_rng (xs (i0 + 4))
  rw [hx4] at x4r
  obtain ⟨x5, hx5⟩ : ∃ z, (xs (i0 + 5)).toInt = z := ⟨_, rfl⟩
  have x5r := c_rng (xs (i0 + 5))
  rw [hx5] at x5r
  obtain ⟨x6, hx6⟩ : ∃ z, (xs (i0 + 6)).toInt = z := ⟨_, rfl⟩
  have x6r := c_rng (xs (i0 + 6))
  rw [hx6] at x6r
  obtain ⟨x7, hx7⟩ : ∃ z, (xs (i0 + 7)).toInt = z := ⟨_, rfl⟩
  have x7r := c_rng (xs (i0 + 7))
  rw [hx7] at x7r
  have hP := iv_P hI
  have hQ := iv_Q hI
  have hT := rl_t hR
  have hU := rl_u hR
  obtain ⟨n0, hn0⟩ : ∃ z, c P 0 = z := ⟨_, rfl⟩
  have hm0 : c 41 20 = n0 := (rl_nums hR).1.symm.trans hn0
  have hr0 := ir_p0_0 hI hP
  rw [hn0] at hr0
  obtain ⟨n1, hn1⟩ : ∃ z, c P 1 = z := ⟨_, rfl⟩
  have hm1 : c 41 21 = n1 := (rl_nums hR).2.1.symm.trans hn1
  have hr1 := ir_p0_1 hI hP
  rw [hn1] at hr1
  obtain ⟨n2, hn2⟩ : ∃ z, c P 2 = z := ⟨_, rfl⟩
  have hm2 : c 41 22 = n2 := (rl_nums hR).2.2.1.symm.trans hn2
  have hr2 := ir_p0_2 hI hP
  rw [hn2] at hr2
  obtain ⟨n3, hn3⟩ : ∃ z, c P 3 = z := ⟨_, rfl⟩
  have hm3 : c 41 23 = n3 := (rl_nums hR).2.2.2.symm.trans hn3
  have hr3 := ir_p0_3 hI hP
  rw [hn3] at hr3
  have hNimg := rl_img hR
  have hNwk := rl_wk hR
  have h_1 := ir_3_4 hI
  have hIw := rl_iw hR
  have hNplace := rl_place hR
  refine q_aload_n c_296_799 rfl (q_aload_n c_296_800 rfl (q_iload c_296_801 rfl (q_iconst c_296_803 (v_iadd (v := (i0 : Int) + 1) c_296_804 rfl (v_scr (j := i0 + 1) c_296_805 (by omega) (by omega) hL hx1 (q_aload_n c_296_806 rfl (q_iload c_296_807 rfl ?_)))))))
  refine q_iconst c_296_809 (v_iadd (v := (i0 : Int) + 2) c_296_810 rfl (v_scr (j := i0 + 2) c_296_811 (by omega) (by omega) hL hx2 (q_aload_n c_296_812 rfl (q_iload c_296_813 rfl (q_iconst c_296_815 (v_iadd (v := (i0 : Int) + 3) c_296_816 rfl (v_scr (j := i0 + 3) c_296_817 (by omega) (by omega) hL hx3 ?_)))))))
  refine q_aload_n c_296_818 rfl (q_call c_296_819 rfl rfl rfl (q_aload c_275_0 rfl (q_iconst c_275_2 (q_aload_n c_275_3 rfl (q_iload_n c_275_4 rfl (q_iload_n c_275_5 rfl (q_iload_n c_275_6 rfl ?_)))))))
  refine v_cv c_275_7 km_9_53 rfl rfl (Nat.le_of_ble_eq_true rfl) ⟨⟨rfl, rfl⟩, Nat.le_of_ble_eq_true rfl, rfl⟩ (Nat.le_of_ble_eq_true rfl) (Nat.le_of_ble_eq_true rfl) (s_111 (a1 := x1) (a2 := x2) (a3 := x3) hI (show (-2147483648) ≤ x1 ∧ x1 ≤ 2147483647 from ⟨by omega, by omega⟩) (show (-2147483648) ≤ x2 ∧ x2 ≤ 2147483647 from ⟨by omega, by omega⟩) (show (-2147483648) ≤ x3 ∧ x3 ≤ 2147483647 from ⟨by omega, by omega⟩) (fun c_2 hI_3 hF_4 => ?_) (fun c_5 hI_6 hF_7 => ?_) (fun c_8 y_11 hI_9 hF_10 hy_11 => ?_))
  · skip
    refine bk_thr (z := Int32.ofInt 1) rfl ⟨_, _, rfl⟩ rfl (bk_inl (q_istore c_296_822 (Nat.le_of_ble_eq_true rfl) (q_aload_n c_296_824 rfl (q_aload_n c_296_825 rfl (q_iload c_296_826 rfl (q_iconst c_296_828 (v_iadd (v := (i0 : Int) + 1) c_296_829 rfl ?_)))))))
    refine v_scr (j := i0 + 1) c_296_830 (by omega) (by omega) hL hx1 (q_aload_n c_296_831 rfl (q_iload c_296_832 rfl (q_iconst c_296_834 (v_iadd (v := (i0 : Int) + 2) c_296_835 rfl (v_scr (j := i0 + 2) c_296_836 (by omega) (by omega) hL hx2 (q_aload_n c_296_837 rfl (q_iload c_296_838 rfl ?_)))))))
    refine q_iconst c_296_840 (v_iadd (v := (i0 : Int) + 3) c_296_841 rfl (v_scr (j := i0 + 3) c_296_842 (by omega) (by omega) hL hx3 (v_cv c_296_843 km_9_181 rfl rfl (Nat.le_of_ble_eq_true rfl) ⟨⟨rfl, rfl⟩, Nat.le_of_ble_eq_true rfl, rfl⟩ (Nat.le_of_ble_eq_true rfl) (Nat.le_of_ble_eq_true rfl) (s_219 (a1 := x1) (a2 := x2) (a3 := x3) hI_3 (show (-2147483648) ≤ x1 ∧ x1 ≤ 2147483647 from ⟨by omega, by omega⟩) (show (-2147483648) ≤ x2 ∧ x2 ≤ 2147483647 from ⟨by omega, by omega⟩) (show (-2147483648) ≤ x3 ∧ x3 ≤ 2147483647 from ⟨by omega, by omega⟩) (fun c_12 y_15 hI_13 hF_14 hy_15 => (bk_inl (q_istore c_296_846 (Nat.le_of_ble_eq_true rfl) (q_goto (t := 1816) c_296_848 rfl (Wp_ls [(4, vi (i0 : Int)), (3, .ref 67), (2, .ref 41), (1, .ref 0), (0, .ref a_SC)] (lsub_cons rfl (lsub_cons rfl (lsub_cons rfl (lsub_cons rfl (lsub_cons rfl lsub_nil))))) ?_)))))))))
    have h_16 := ir_1_3 hI
    have kn_17 : Hid (c_2 1 3 = c 1 3) := hF_4 1 3 (fun q => q.elim (fun h => absurd h.1 (nn rfl)) (fun h => absurd h.1 (nn rfl)))
    have kn_18 : Hid (c_12 1 3 = c 1 3) := (hF_14 1 3 qn_39cd18c3e).trans (hid kn_17)
    have h_19 : c_12 1 3 = c 1 3 := (hid kn_18)
    have h_20 := ir_41_2 hI
    have kn_21 : Hid (c_2 41 2 = c 41 2) := hF_4 41 2 (fun q => q.elim (fun h => absurd h.1 (nn rfl)) (fun h => absurd h.1 (nn rfl)))
    have kn_22 : Hid (c_12 41 2 = c 41 2) := (hF_14 41 2 qn_53bdb2099).trans (hid kn_21)
    have h_23 : c_12 41 2 = c 41 2 := (hid kn_22)
    have kn_24 : Hid (c_2 P 0 = n0) := (hF_4 P 0 (qn_7ba88e57e hP)).trans (hn0)
    have kn_25 : Hid (c_12 P 0 = n0) := (hF_14 P 0 (qn_857752076 hP)).trans (hid kn_24)
    have h_26 : c_12 P 0 = n0 := (hid kn_25)
    have kn_27 : Hid (c_2 41 20 = n0) := (hF_4 41 20 (fun q => q.elim (fun h => absurd h.1 (nn rfl)) (fun h => absurd h.1 (nn rfl)))).trans (hm0)
    have kn_28 : Hid (c_12 41 20 = n0) := (hF_14 41 20 qn_110b29ed6).trans (hid kn_27)
    have h_29 : c_12 41 20 = n0 := (hid kn_28)
    have kn_30 : Hid (c_2 P 1 = n1) := (hF_4 P 1 (qn_7ba88e57e hP)).trans (hn1)
    have kn_31 : Hid (c_12 P 1 = n1) := (hF_14 P 1 (qn_857752076 hP)).trans (hid kn_30)
    have h_32 : c_12 P 1 = n1 := (hid kn_31)
    have kn_33 : Hid (c_2 41 21 = n1) := (hF_4 41 21 (fun q => q.elim (fun h => absurd h.1 (nn rfl)) (fun h => absurd h.1 (nn rfl)))).trans (hm1)
    have kn_34 : Hid (c_12 41 21 = n1) := (hF_14 41 21 qn_561064c41).trans (hid kn_33)
    have h_35 : c_12 41 21 = n1 := (hid kn_34)
    have kn_36 : Hid (c_2 P 2 = n2) := (hF_4 P 2 (qn_7ba88e57e hP)).trans (hn2)
    have kn_37 : Hid (c_12 P 2 = n2) := (hF_14 P 2 (qn_857752076 hP)).trans (hid kn_36)
    have h_38 : c_12 P 2 = n2 := (hid kn_37)
    have kn_39 : Hid (c_2 41 22 = n2) := (hF_4 41 22 (fun q => q.elim (fun h => absurd h.1 (nn rfl)) (fun h => absurd h.1 (nn rfl)))).trans (hm2)
    have kn_40 : Hid (c_12 41 22 = n2) := (hF_14 41 22 qn_1a460b46b).trans (hid kn_39)
    have h_41 : c_12 41 22 = n2 := (hid kn_40)
    have kn_42 : Hid (c_2 P 3 = n3) := (hF_4 P 3 (qn_7ba88e57e hP)).trans (hn3)
    have kn_43 : Hid (c_12 P 3 = n3) := (hF_14 P 3 (qn_857752076 hP)).trans (hid kn_42)
    have h_44 : c_12 P 3 = n3 := (hid kn_43)
    have kn_45 : Hid (c_2 41 23 = n3) := (hF_4 41 23 (fun q => q.elim (fun h => absurd h.1 (nn rfl)) (fun h => absurd h.1 (nn rfl)))).trans (hm3)
    have kn_46 : Hid (c_12 41 23 = n3) := (hF_14 41 23 qn_b79f282cd).trans (hid kn_45)
    have h_47 : c_12 41 23 = n3 := (hid kn_46)
    have kn_48 : Hid (c_2 3 4 = c 3 4) := hF_4 3 4 (fun q => q.elim (fun h => absurd h.1 (nn rfl)) (fun h => absurd h.1 (nn rfl)))
    have kn_49 : Hid (c_12 3 4 = c 3 4) := (hF_14 3 4 qn_bf2303cc8).trans (hid kn_48)
    have h_50 : c_12 3 4 = c 3 4 := (hid kn_49)
    have h_51 := ir_41_52 hI
    have kn_52 : Hid (c_2 41 52 = c 41 52) := hF_4 41 52 (fun q => q.elim (fun h => absurd h.1 (nn rfl)) (fun h => absurd h.1 (nn rfl)))
    have kn_53 : Hid (c_12 41 52 = c 41 52) := (hF_14 41 52 qn_90835161a).trans (hid kn_52)
    have h_54 : c_12 41 52 = c 41 52 := (hid kn_53)
    have h_55 := ir_3_3 hI
    have kn_56 : Hid (c_2 3 3 = c 3 3) := hF_4 3 3 (fun q => q.elim (fun h => absurd h.1 (nn rfl)) (fun h => absurd h.1 (nn rfl)))
    have kn_57 : Hid (c_12 3 3 = c 3 3) := (hF_14 3 3 qn_bf2303cc8).trans (hid kn_56)
    have h_58 : c_12 3 3 = c 3 3 := (hid kn_57)
    have h_59 := ir_41_35 hI
    have kn_60 : Hid (c_2 41 35 = c 41 35) := hF_4 41 35 (fun q => q.elim (fun h => absurd h.1 (nn rfl)) (fun h => absurd h.1 (nn rfl)))
    have kn_61 : Hid (c_12 41 35 = c 41 35) := (hF_14 41 35 qn_732a91ea5).trans (hid kn_60)
    have h_62 : c_12 41 35 = c 41 35 := (hid kn_61)
    have h_63 : c_12 3 4 = c 3 4 := (hid kn_49)
    have h_64 := ir_1_5 hI
    have kn_65 : Hid (c_2 1 5 = c 1 5) := hF_4 1 5 (fun q => q.elim (fun h => absurd h.1 (nn rfl)) (fun h => absurd h.1 (nn rfl)))
    have kn_66 : Hid (c_12 1 5 = c 1 5) := (hF_14 1 5 qn_39cd18c3e).trans (hid kn_65)
    have h_67 : c_12 1 5 = c 1 5 := (hid kn_66)
    have h_68 := ir_41_8 hI
    have kn_69 : Hid (c_2 41 8 = c 41 8) := hF_4 41 8 (fun q => q.elim (fun h => absurd h.1 (nn rfl)) (fun h => absurd h.1 (nn rfl)))
    have kn_70 : Hid (c_12 41 8 = c 41 8) := (hF_14 41 8 qn_b601a9968).trans (hid kn_69)
    have h_71 : c_12 41 8 = c 41 8 := (hid kn_70)
    exact K P Q c_12 1 (by decide) hI_13 ⟨by omega, ub_fr hU (fun j => (hF_14 2 j qn_2ad67e194).trans (hF_4 2 j (fun q => q.elim (fun h => absurd h.1 (nn rfl)) (fun h => absurd h.1 (nn rfl))))) (fun j => (hF_14 43 j qn_1520ff5e3).trans (hF_4 43 j (fun q => q.elim (fun h => absurd h.1 (nn rfl)) (fun h => absurd h.1 (nn rfl))))), ⟨by omega, by omega, by omega, by omega⟩, by omega, by omega, iw_fr2 hIw (by omega) (fun j => (hF_14 6 j qn_e1050858a).trans (hF_4 6 j (fun q => q.elim (fun h => absurd h.1 (nn rfl)) (fun h => absurd h.1 (nn rfl))))) (fun j => (hF_14 66 j qn_5616dd9ce).trans (hF_4 66 j (fun q => q.elim (fun h => absurd h.1 (nn rfl)) (fun h => absurd h.1 (nn rfl))))), by omega⟩
  · skip
    refine bk_thr (z := Int32.ofInt 2) rfl ⟨_, _, rfl⟩ rfl (bk_inl (q_istore c_296_822 (Nat.le_of_ble_eq_true rfl) (q_aload_n c_296_824 rfl (q_aload_n c_296_825 rfl (q_iload c_296_826 rfl (q_iconst c_296_828 (v_iadd (v := (i0 : Int) + 1) c_296_829 rfl ?_)))))))
    refine v_scr (j := i0 + 1) c_296_830 (by omega) (by omega) hL hx1 (q_aload_n c_296_831 rfl (q_iload c_296_832 rfl (q_iconst c_296_834 (v_iadd (v := (i0 : Int) + 2) c_296_835 rfl (v_scr (j := i0 + 2) c_296_836 (by omega) (by omega) hL hx2 (q_aload_n c_296_837 rfl (q_iload c_296_838 rfl ?_)))))))
    refine q_iconst c_296_840 (v_iadd (v := (i0 : Int) + 3) c_296_841 rfl (v_scr (j := i0 + 3) c_296_842 (by omega) (by omega) hL hx3 (v_cv c_296_843 km_9_181 rfl rfl (Nat.le_of_ble_eq_true rfl) ⟨⟨rfl, rfl⟩, Nat.le_of_ble_eq_true rfl, rfl⟩ (Nat.le_of_ble_eq_true rfl) (Nat.le_of_ble_eq_true rfl) (s_219 (a1 := x1) (a2 := x2) (a3 := x3) hI_6 (show (-2147483648) ≤ x1 ∧ x1 ≤ 2147483647 from ⟨by omega, by omega⟩) (show (-2147483648) ≤ x2 ∧ x2 ≤ 2147483647 from ⟨by omega, by omega⟩) (show (-2147483648) ≤ x3 ∧ x3 ≤ 2147483647 from ⟨by omega, by omega⟩) (fun c_72 y_75 hI_73 hF_74 hy_75 => (bk_inl (q_istore c_296_846 (Nat.le_of_ble_eq_true rfl) (q_goto (t := 1816) c_296_848 rfl (Wp_ls [(4, vi (i0 : Int)), (3, .ref 67), (2, .ref 41), (1, .ref 0), (0, .ref a_SC)] (lsub_cons rfl (lsub_cons rfl (lsub_cons rfl (lsub_cons rfl (lsub_cons rfl lsub_nil))))) ?_)))))))))
    have h_76 := ir_1_3 hI
    have kn_77 : Hid (c_5 1 3 = c 1 3) := hF_7 1 3 (fun q => q.elim (fun h => absurd h.1 (nn rfl)) (fun h => absurd h.1 (nn rfl)))
    have kn_78 : Hid (c_72 1 3 = c 1 3) := (hF_74 1 3 qn_39cd18c3e).trans (hid kn_77)
    have h_79 : c_72 1 3 = c 1 3 := (hid kn_78)
    have h_80 := ir_41_2 hI
    have kn_81 : Hid (c_5 41 2 = c 41 2) := hF_7 41 2 (fun q => q.elim (fun h => absurd h.1 (nn rfl)) (fun h => absurd h.1 (nn rfl)))
    have kn_82 : Hid (c_72 41 2 = c 41 2) := (hF_74 41 2 qn_53bdb2099).trans (hid kn_81)
    have h_83 : c_72 41 2 = c 41 2 := (hid kn_82)
    have kn_84 : Hid (c_5 P 0 = n0) := (hF_7 P 0 (qn_7ba88e57e hP)).trans (hn0)
    have kn_85 : Hid (c_72 P 0 = n0) := (hF_74 P 0 (qn_857752076 hP)).trans (hid kn_84)
    have h_86 : c_72 P 0 = n0 := (hid kn_85)
    have kn_87 : Hid (c_5 41 20 = n0) := (hF_7 41 20 (fun q => q.elim (fun h => absurd h.1 (nn rfl)) (fun h => absurd h.1 (nn rfl)))).trans (hm0)
    have kn_88 : Hid (c_72 41 20 = n0) := (hF_74 41 20 qn_110b29ed6).trans (hid kn_87)
    have h_89 : c_72 41 20 = n0 := (hid kn_88)
    have kn_90 : Hid (c_5 P 1 = n1) := (hF_7 P 1 (qn_7ba88e57e hP)).trans (hn1)
    have kn_91 : Hid (c_72 P 1 = n1) := (hF_74 P 1 (qn_857752076 hP)).trans (hid kn_90)
    have h_92 : c_72 P 1 = n1 := (hid kn_91)
    have kn_93 : Hid (c_5 41 21 = n1) := (hF_7 41 21 (fun q => q.elim (fun h => absurd h.1 (nn rfl)) (fun h => absurd h.1 (nn rfl)))).trans (hm1)
    have kn_94 : Hid (c_72 41 21 = n1) := (hF_74 41 21 qn_561064c41).trans (hid kn_93)
    have h_95 : c_72 41 21 = n1 := (hid kn_94)
    have kn_96 : Hid (c_5 P 2 = n2) := (hF_7 P 2 (qn_7ba88e57e hP)).trans (hn2)
    have kn_97 : Hid (c_72 P 2 = n2) := (hF_74 P 2 (qn_857752076 hP)).trans (hid kn_96)
    have h_98 : c_72 P 2 = n2 := (hid kn_97)
    have kn_99 : Hid (c_5 41 22 = n2) := (hF_7 41 22 (fun q => q.elim (fun h => absurd h.1 (nn rfl)) (fun h => absurd h.1 (nn rfl)))).trans (hm2)
    have kn_100 : Hid (c_72 41 22 = n2) := (hF_74 41 22 qn_1a460b46b).trans (hid kn_99)
    have h_101 : c_72 41 22 = n2 := (hid kn_100)
    have kn_102 : Hid (c_5 P 3 = n3) := (hF_7 P 3 (qn_7ba88e57e hP)).trans (hn3)
    have kn_103 : Hid (c_72 P 3 = n3) := (hF_74 P 3 (qn_857752076 hP)).trans (hid kn_102)
    have h_104 : c_72 P 3 = n3 := (hid kn_103)
    have kn_105 : Hid (c_5 41 23 = n3) := (hF_7 41 23 (fun q => q.elim (fun h => absurd h.1 (nn rfl)) (fun h => absurd h.1 (nn rfl)))).trans (hm3)
    have kn_106 : Hid (c_72 41 23 = n3) := (hF_74 41 23 qn_b79f282cd).trans (hid kn_105)
    have h_107 : c_72 41 23 = n3 := (hid kn_106)
    have kn_108 : Hid (c_5 3 4 = c 3 4) := hF_7 3 4 (fun q => q.elim (fun h => absurd h.1 (nn rfl)) (fun h => absurd h.1 (nn rfl)))
    have kn_109 : Hid (c_72 3 4 = c 3 4) := (hF_74 3 4 qn_bf2303cc8).trans (hid kn_108)
    have h_110 : c_72 3 4 = c 3 4 := (hid kn_109)
    have h_111 := ir_41_52 hI
    have kn_112 : Hid (c_5 41 52 = c 41 52) := hF_7 41 52 (fun q => q.elim (fun h => absurd h.1 (nn rfl)) (fun h => absurd h.1 (nn rfl)))
    have kn_113 : Hid (c_72 41 52 = c 41 52) := (hF_74 41 52 qn_90835161a).trans (hid kn_112)
    have h_114 : c_72 41 52 = c 41 52 := (hid kn_113)
    have h_115 := ir_3_3 hI
    have kn_116 : Hid (c_5 3 3 = c 3 3) := hF_7 3 3 (fun q => q.elim (fun h => absurd h.1 (nn rfl)) (fun h => absurd h.1 (nn rfl)))
    have kn_117 : Hid (c_72 3 3 = c 3 3) := (hF_74 3 3 qn_bf2303cc8).trans (hid kn_116)
    have h_118 : c_72 3 3 = c 3 3 := (hid kn_117)
    have h_119 := ir_41_35 hI
    have kn_120 : Hid (c_5 41 35 = c 41 35) := hF_7 41 35 (fun q => q.elim (fun h => absurd h.1 (nn rfl)) (fun h => absurd h.1 (nn rfl)))
    have kn_121 : Hid (c_72 41 35 = c 41 35) := (hF_74 41 35 qn_732a91ea5).trans (hid kn_120)
    have h_122 : c_72 41 35 = c 41 35 := (hid kn_121)
    have h_123 : c_72 3 4 = c 3 4 := (hid kn_109)
    have h_124 := ir_1_5 hI
    have kn_125 : Hid (c_5 1 5 = c 1 5) := hF_7 1 5 (fun q => q.elim (fun h => absurd h.1 (nn rfl)) (fun h => absurd h.1 (nn rfl)))
    have kn_126 : Hid (c_72 1 5 = c 1 5) := (hF_74 1 5 qn_39cd18c3e).trans (hid kn_125)
    have h_127 : c_72 1 5 = c 1 5 := (hid kn_126)
    have h_128 := ir_41_8 hI
    have kn_129 : Hid (c_5 41 8 = c 41 8) := hF_7 41 8 (fun q => q.elim (fun h => absurd h.1 (nn rfl)) (fun h => absurd h.1 (nn rfl)))
    have kn_130 : Hid (c_72 41 8 = c 41 8) := (hF_74 41 8 qn_b601a9968).trans (hid kn_129)
    have h_131 : c_72 41 8 = c 41 8 := (hid kn_130)
    exact K P Q c_72 1 (by decide) hI_73 ⟨by omega, ub_fr hU (fun j => (hF_74 2 j qn_2ad67e194).trans (hF_7 2 j (fun q => q.elim (fun h => absurd h.1 (nn rfl)) (fun h => absurd h.1 (nn rfl))))) (fun j => (hF_74 43 j qn_1520ff5e3).trans (hF_7 43 j (fun q => q.elim (fun h => absurd h.1 (nn rfl)) (fun h => absurd h.1 (nn rfl))))), ⟨by omega, by omega, by omega, by omega⟩, by omega, by omega, iw_fr2 hIw (by omega) (fun j => (hF_74 6 j qn_e1050858a).trans (hF_7 6 j (fun q => q.elim (fun h => absurd h.1 (nn rfl)) (fun h => absurd h.1 (nn rfl))))) (fun j => (hF_74 66 j qn_5616dd9ce).trans (hF_7 66 j (fun q => q.elim (fun h => absurd h.1 (nn rfl)) (fun h => absurd h.1 (nn rfl))))), by omega⟩
  refine bk_inl (v_i2l c_275_10 (by omega) (v_ls c_275_11 rfl (by decide) (by decide) (by decide) (q_goto (t := 23) c_275_12 rfl (q_iconst c_275_23 (q_iret c_275_24 rfl (bk_inl (q_istore c_296_822 (Nat.le_of_ble_eq_true rfl) ?_)))))))
  refine q_aload_n c_296_824 rfl (q_aload_n c_296_825 rfl (q_iload c_296_826 rfl (q_iconst c_296_828 (v_iadd (v := (i0 : Int) + 1) c_296_829 rfl (v_scr (j := i0 + 1) c_296_830 (by omega) (by omega) hL hx1 (q_aload_n c_296_831 rfl (q_iload c_296_832 rfl ?_)))))))
  refine q_iconst c_296_834 (v_iadd (v := (i0 : Int) + 2) c_296_835 rfl (v_scr (j := i0 + 2) c_296_836 (by omega) (by omega) hL hx2 (q_aload_n c_296_837 rfl (q_iload c_296_838 rfl (q_iconst c_296_840 (v_iadd (v := (i0 : Int) + 3) c_296_841 rfl (v_scr (j := i0 + 3) c_296_842 (by omega) (by omega) hL hx3 ?_)))))))
  have hI_132 := iw_lx (a := 67) (j := 0) (v := y_11) hI_9 (by omega)
  refine v_cv c_296_843 km_9_181 rfl rfl (Nat.le_of_ble_eq_true rfl) ⟨⟨rfl, rfl⟩, Nat.le_of_ble_eq_true rfl, rfl⟩ (Nat.le_of_ble_eq_true rfl) (Nat.le_of_ble_eq_true rfl) (s_219 (a1 := x1) (a2 := x2) (a3 := x3) hI_132 (show (-2147483648) ≤ x1 ∧ x1 ≤ 2147483647 from ⟨by omega, by omega⟩) (show (-2147483648) ≤ x2 ∧ x2 ≤ 2147483647 from ⟨by omega, by omega⟩) (show (-2147483648) ≤ x3 ∧ x3 ≤ 2147483647 from ⟨by omega, by omega⟩) (fun c_133 y_136 hI_134 hF_135 hy_136 => (bk_inl (q_istore c_296_846 (Nat.le_of_ble_eq_true rfl) (q_goto (t := 1816) c_296_848 rfl (Wp_ls [(4, vi (i0 : Int)), (3, .ref 67), (2, .ref 41), (1, .ref 0), (0, .ref a_SC)] (lsub_cons rfl (lsub_cons rfl (lsub_cons rfl (lsub_cons rfl (lsub_cons rfl lsub_nil))))) ?_))))))
  have h_137 := ir_1_3 hI
  have kn_138 : Hid (c_8 1 3 = c 1 3) := hF_10 1 3 (fun q => q.elim (fun h => absurd h.1 (nn rfl)) (fun h => absurd h.1 (nn rfl)))
  have kn_139 : Hid (c_133 1 3 = c 1 3) := (hF_135 1 3 qn_39cd18c3e).trans ((up_c (nn rfl)).trans (hid kn_138))
  have h_140 : c_133 1 3 = c 1 3 := (hid kn_139)
  have h_141 := ir_41_2 hI
  have kn_142 : Hid (c_8 41 2 = c 41 2) := hF_10 41 2 (fun q => q.elim (fun h => absurd h.1 (nn rfl)) (fun h => absurd h.1 (nn rfl)))
  have kn_143 : Hid (c_133 41 2 = c 41 2) := (hF_135 41 2 qn_53bdb2099).trans ((up_c (nn rfl)).trans (hid kn_142))
  have h_144 : c_133 41 2 = c 41 2 := (hid kn_143)
  have kn_145 : Hid (c_8 P 0 = n0) := (hF_10 P 0 (qn_7ba88e57e hP)).trans (hn0)
  have kn_146 : Hid (c_133 P 0 = n0) := (hF_135 P 0 (qn_857752076 hP)).trans ((up_c (np0 hP rfl)).trans (hid kn_145))
  have h_147 : c_133 P 0 = n0 := (hid kn_146)
  have kn_148 : Hid (c_8 41 20 = n0) := (hF_10 41 20 (fun q => q.elim (fun h => absurd h.1 (nn rfl)) (fun h => absurd h.1 (nn rfl)))).trans (hm0)
  have kn_149 : Hid (c_133 41 20 = n0) := (hF_135 41 20 qn_110b29ed6).trans ((up_c (nn rfl)).trans (hid kn_148))
  have h_150 : c_133 41 20 = n0 := (hid kn_149)
  have kn_151 : Hid (c_8 P 1 = n1) := (hF_10 P 1 (qn_7ba88e57e hP)).trans (hn1)
  have kn_152 : Hid (c_133 P 1 = n1) := (hF_135 P 1 (qn_857752076 hP)).trans ((up_c (np0 hP rfl)).trans (hid kn_151))
  have h_153 : c_133 P 1 = n1 := (hid kn_152)
  have kn_154 : Hid (c_8 41 21 = n1) := (hF_10 41 21 (fun q => q.elim (fun h => absurd h.1 (nn rfl)) (fun h => absurd h.1 (nn rfl)))).trans (hm1)
  have kn_155 : Hid (c_133 41 21 = n1) := (hF_135 41 21 qn_561064c41).trans ((up_c (nn rfl)).trans (hid kn_154))
  have h_156 : c_133 41 21 = n1 := (hid kn_155)
  have kn_157 : Hid (c_8 P 2 = n2) := (hF_10 P 2 (qn_7ba88e57e hP)).trans (hn2)
  have kn_158 : Hid (c_133 P 2 = n2) := (hF_135 P 2 (qn_857752076 hP)).trans ((up_c (np0 hP rfl)).trans (hid kn_157))
  have h_159 : c_133 P 2 = n2 := (hid kn_158)
  have kn_160 : Hid (c_8 41 22 = n2) := (hF_10 41 22 (fun q => q.elim (fun h => absurd h.1 (nn rfl)) (fun h => absurd h.1 (nn rfl)))).trans (hm2)
  have kn_161 : Hid (c_133 41 22 = n2) := (hF_135 41 22 qn_1a460b46b).trans ((up_c (nn rfl)).trans (hid kn_160))
  have h_162 : c_133 41 22 = n2 := (hid kn_161)
  have kn_163 : Hid (c_8 P 3 = n3) := (hF_10 P 3 (qn_7ba88e57e hP)).trans (hn3)
  have kn_164 : Hid (c_133 P 3 = n3) := (hF_135 P 3 (qn_857752076 hP)).trans ((up_c (np0 hP rfl)).trans (hid kn_163))
  have h_165 : c_133 P 3 = n3 := (hid kn_164)
  have kn_166 : Hid (c_8 41 23 = n3) := (hF_10 41 23 (fun q => q.elim (fun h => absurd h.1 (nn rfl)) (fun h => absurd h.1 (nn rfl)))).trans (hm3)
  have kn_167 : Hid (c_133 41 23 = n3) := (hF_135 41 23 qn_b79f282cd).trans ((up_c (nn rfl)).trans (hid kn_166))
  have h_168 : c_133 41 23 = n3 := (hid kn_167)
  have kn_169 : Hid (c_8 3 4 = c 3 4) := hF_10 3 4 (fun q => q.elim (fun h => absurd h.1 (nn rfl)) (fun h => absurd h.1 (nn rfl)))
  have kn_170 : Hid (c_133 3 4 = c 3 4) := (hF_135 3 4 qn_bf2303cc8).trans ((up_c (nn rfl)).trans (hid kn_169))
  have h_171 : c_133 3 4 = c 3 4 := (hid kn_170)
  have h_172 := ir_41_52 hI
  have kn_173 : Hid (c_8 41 52 = c 41 52) := hF_10 41 52 (fun q => q.elim (fun h => absurd h.1 (nn rfl)) (fun h => absurd h.1 (nn rfl)))
  have kn_174 : Hid (c_133 41 52 = c 41 52) := (hF_135 41 52 qn_90835161a).trans ((up_c (nn rfl)).trans (hid kn_173))
  have h_175 : c_133 41 52 = c 41 52 := (hid kn_174)
  have h_176 := ir_3_3 hI
  have kn_177 : Hid (c_8 3 3 = c 3 3) := hF_10 3 3 (fun q => q.elim (fun h => absurd h.1 (nn rfl)) (fun h => absurd h.1 (nn rfl)))
  have kn_178 : Hid (c_133 3 3 = c 3 3) := (hF_135 3 3 qn_bf2303cc8).trans ((up_c (nn rfl)).trans (hid kn_177))
  have h_179 : c_133 3 3 = c 3 3 := (hid kn_178)
  have h_180 := ir_41_35 hI
  have kn_181 : Hid (c_8 41 35 = c 41 35) := hF_10 41 35 (fun q => q.elim (fun h => absurd h.1 (nn rfl)) (fun h => absurd h.1 (nn rfl)))
  have kn_182 : Hid (c_133 41 35 = c 41 35) := (hF_135 41 35 qn_732a91ea5).trans ((up_c (nn rfl)).trans (hid kn_181))
  have h_183 : c_133 41 35 = c 41 35 := (hid kn_182)
  have h_184 : c_133 3 4 = c 3 4 := (hid kn_170)
  have h_185 := ir_1_5 hI
  have kn_186 : Hid (c_8 1 5 = c 1 5) := hF_10 1 5 (fun q => q.elim (fun h => absurd h.1 (nn rfl)) (fun h => absurd h.1 (nn rfl)))
  have kn_187 : Hid (c_133 1 5 = c 1 5) := (hF_135 1 5 qn_39cd18c3e).trans ((up_c (nn rfl)).trans (hid kn_186))
  have h_188 : c_133 1 5 = c 1 5 := (hid kn_187)
  have h_189 := ir_41_8 hI
  have kn_190 : Hid (c_8 41 8 = c 41 8) := hF_10 41 8 (fun q => q.elim (fun h => absurd h.1 (nn rfl)) (fun h => absurd h.1 (nn rfl)))
  have kn_191 : Hid (c_133 41 8 = c 41 8) := (hF_135 41 8 qn_b601a9968).trans ((up_c (nn rfl)).trans (hid kn_190))
  have h_192 : c_133 41 8 = c 41 8 := (hid kn_191)
  exact K P Q c_133 0 (by decide) hI_134 ⟨by omega, ub_fr hU (fun j => (hF_135 2 j qn_2ad67e194).trans ((up_c (nn rfl)).trans (hF_10 2 j (fun q => q.elim (fun h => absurd h.1 (nn rfl)) (fun h => absurd h.1 (nn rfl)))))) (fun j => (hF_135 43 j qn_1520ff5e3).trans ((up_c (nn rfl)).trans (hF_10 43 j (fun q => q.elim (fun h => absurd h.1 (nn rfl)) (fun h => absurd h.1 (nn rfl)))))), ⟨by omega, by omega, by omega, by omega⟩, by omega, by omega, iw_fr2 hIw (by omega) (fun j => (hF_135 6 j qn_e1050858a).trans ((up_c (nn rfl)).trans (hF_10 6 j (fun q => q.elim (fun h => absurd h.1 (nn rfl)) (fun h => absurd h.1 (nn rfl)))))) (fun j => (hF_135 66 j qn_5616dd9ce).trans ((up_c (nn rfl)).trans (hF_10 66 j (fun q => q.elim (fun h => absurd h.1 (nn rfl)) (fun h => absurd h.1 (nn rfl)))))), by omega⟩

set_option maxRecDepth 100000 in
set_option maxHeartbeats 4000000 in
theorem o_16 {xs : Nat → Int32} {L i0 d nc ns P Q : Nat} {c : ME} {Z : AR → Prop} (hi : i0 + 8 ≤ L) (hL : L ≤ 100000) (hI : Iv 0 (-1) P Q c) (hR : Rq P c) (K : ∀ (P2 Q2 : Nat) (c2 : ME) (e : Nat), e ≤ 1 → Iv 0 (-1) P2 Q2 c2 → (Rq P2 c2) → Wp (a_scr L xs) (d + 90) 296 1816 [(4, vi (i0 : Int)), (3, .ref 67), (2, .ref 41), (1, .ref 0), (0, .ref a_SC)] [] (Wd P2 Q2 P2 P2 c2) (nc + e) (ns + 6 * e) Z) : Wp (a_scr L xs) (d + 90) 296 851 [(4, vi (i0 : Int)), (3, .ref 67), (2, .ref 41), (1, .ref 0), (0, .ref a_SC)] [] (Wd P Q P P c) nc ns Z := by
  obtain ⟨x1, hx1⟩ : ∃ z, (xs (i0 + 1)).toInt = z := ⟨_, rfl⟩
  have x1r := c_rng (xs (i0 + 1))
  rw [hx1] at x1r
  obtain ⟨x2, hx2⟩ : ∃ z, (xs (i0 + 2)).toInt = z := ⟨_, rfl⟩
  have x2r := c_rng (xs (i0 + 2))
  rw [hx2] at x2r
  obtain ⟨x3, hx3⟩ : ∃ z, (xs (i0 + 3)).toInt = z := ⟨_, rfl⟩
  have x3r := c_rng (xs (i0 + 3))
  rw [hx3] at x3r
  obtain ⟨x4, hx4⟩ : ∃ z, (xs (i0 + 4)).toInt = z := ⟨_, rfl⟩
  have x4r := c_rng (xs (i0 + 4))
  rw [hx4] at x4r
  obtain ⟨x5, hx5⟩ : ∃ z, (xs (i0 + 5)).toInt = z := ⟨_, rfl⟩
  have x5r := c_rng (xs (i0 + 5))
  rw [hx5] at x5r
  obtain ⟨x6, hx6⟩ : ∃ z, (xs (i0 + 6)).toInt = z := ⟨_, rfl⟩
  have x6r := c_rng (xs (i0 + 6))
  rw [hx6] at x6r
  obtain ⟨x7, hx7⟩ : ∃ z, (xs (i0 + 7)).toInt = z := ⟨_, rfl⟩
  have x7r := c_rng (xs (i0 + 7))
  rw [hx7] at x7r
  have hP := iv_P hI
  have hQ := iv_Q hI
  have hT := rl_t hR
  have hU := rl_u hR
  obtain ⟨n0, hn0⟩ : ∃ z, c P 0 = z := ⟨_, rfl⟩
  have hm0 : c 41 20 = n0 := (rl_nums hR).1.symm.trans hn0
  have hr0 := ir_p0_0 hI hP
  rw [hn0] at hr0
  obtain ⟨n1, hn1⟩ : ∃ z, c P 1 = z := ⟨_, rfl⟩
  have hm1 : c 41 21 = n1 := (rl_nums hR).2.1.symm.trans hn1
  have hr1 := ir_p0_1 hI hP
  rw [hn1] at hr1
  obtain ⟨n2, hn2⟩ : ∃ z, c P 2 = z := ⟨_, rfl⟩
  have hm2 : c 41 22 = n2 := (rl_nums hR).2.2.1.symm.trans hn2
  have hr2 := ir_p0_2 hI hP
  rw [hn2] at hr2
  obtain ⟨n3, hn3⟩ : ∃ z, c P 3 = z := ⟨_, rfl⟩
  have hm3 : c 41 23 = n3 := (rl_nums hR).2.2.2.symm.trans hn3
  have hr3 := ir_p0_3 hI hP
  rw [hn3] at hr3
  have hNimg := rl_img hR
  have hNwk := rl_wk hR
  have h_1 := ir_3_4 hI
  have hIw := rl_iw hR
  have hNplace := rl_place hR
  refine q_aload_n c_296_851 rfl (q_aload_n c_296_852 rfl (q_iload c_296_853 rfl (q_iconst c_296_855 (v_iadd (v := (i0 : Int) + 1) c_296_856 rfl (v_scr (j := i0 + 1) c_296_857 (by omega) (by omega) hL hx1 (q_aload_n c_296_858 rfl (q_iload c_296_859 rfl ?_)))))))
  refine q_iconst c_296_861 (v_iadd (v := (i0 : Int) + 2) c_296_862 rfl (v_scr (j := i0 + 2) c_296_863 (by omega) (by omega) hL hx2 (q_aload_n c_296_864 rfl (q_iload c_296_865 rfl (q_iconst c_296_867 (v_iadd (v := (i0 : Int) + 3) c_296_868 rfl (v_scr (j := i0 + 3) c_296_869 (by omega) (by omega) hL hx3 ?_)))))))
  refine q_aload_n c_296_870 rfl (q_call c_296_871 rfl rfl rfl (q_aload c_276_0 rfl (q_iconst c_276_2 (q_aload_n c_276_3 rfl (q_iload_n c_276_4 rfl (q_iload_n c_276_5 rfl (q_iload_n c_276_6 rfl ?_)))))))
  refine v_cv c_276_7 km_9_56 rfl rfl (Nat.le_of_ble_eq_true rfl) ⟨⟨rfl, rfl⟩, Nat.le_of_ble_eq_true rfl, rfl⟩ (Nat.le_of_ble_eq_true rfl) (Nat.le_of_ble_eq_true rfl) (s_112 (a1 := x1) (a2 := x2) (a3 := x3) hI (show (-2147483648) ≤ x1 ∧ x1 ≤ 2147483647 from ⟨by omega, by omega⟩) (show (-2147483648) ≤ x2 ∧ x2 ≤ 2147483647 from ⟨by omega, by omega⟩) (show (-2147483648) ≤ x3 ∧ x3 ≤ 2147483647 from ⟨by omega, by omega⟩) (fun c_2 hI_3 hF_4 => ?_) (fun c_5 hI_6 hF_7 => ?_) (fun c_8 y_11 hI_9 hF_10 hy_11 => ?_))
  · skip
    refine bk_thr (z := Int32.ofInt 1) rfl ⟨_, _, rfl⟩ rfl (bk_inl (q_istore c_296_874 (Nat.le_of_ble_eq_true rfl) (q_aload_n c_296_876 rfl (q_aload_n c_296_877 rfl (q_iload c_296_878 rfl (q_iconst c_296_880 (v_iadd (v := (i0 : Int) + 1) c_296_881 rfl ?_)))))))
    refine v_scr (j := i0 + 1) c_296_882 (by omega) (by omega) hL hx1 (q_aload_n c_296_883 rfl (q_iload c_296_884 rfl (q_iconst c_296_886 (v_iadd (v := (i0 : Int) + 2) c_296_887 rfl (v_scr (j := i0 + 2) c_296_888 (by omega) (by omega) hL hx2 (q_aload_n c_296_889 rfl (q_iload c_296_890 rfl ?_)))))))
    refine q_iconst c_296_892 (v_iadd (v := (i0 : Int) + 3) c_296_893 rfl (v_scr (j := i0 + 3) c_296_894 (by omega) (by omega) hL hx3 (v_cv c_296_895 km_9_184 rfl rfl (Nat.le_of_ble_eq_true rfl) ⟨⟨rfl, rfl⟩, Nat.le_of_ble_eq_true rfl, rfl⟩ (Nat.le_of_ble_eq_true rfl) (Nat.le_of_ble_eq_true rfl) (s_220 (a1 := x1) (a2 := x2) (a3 := x3) hI_3 (show (-2147483648) ≤ x1 ∧ x1 ≤ 2147483647 from ⟨by omega, by omega⟩) (show (-2147483648) ≤ x2 ∧ x2 ≤ 2147483647 from ⟨by omega, by omega⟩) (show (-2147483648) ≤ x3 ∧ x3 ≤ 2147483647 from ⟨by omega, by omega⟩) (fun c_12 y_15 hI_13 hF_14 hy_15 => (bk_inl (q_istore c_296_898 (Nat.le_of_ble_eq_true rfl) (q_goto (t := 1816) c_296_900 rfl (Wp_ls [(4, vi (i0 : Int)), (3, .ref 67), (2, .ref 41), (1, .ref 0), (0, .ref a_SC)] (lsub_cons rfl (lsub_cons rfl (lsub_cons rfl (lsub_cons rfl (lsub_cons rfl lsub_nil))))) ?_)))))))))
    have h_16 := ir_1_3 hI
    have kn_17 : Hid (c_2 1 3 = c 1 3) := hF_4 1 3 qn_ab545a015
    have kn_18 : Hid (c_12 1 3 = c 1 3) := (hF_14 1 3 qn_39cd18c3e).trans (hid kn_17)
    have h_19 : c_12 1 3 = c 1 3 := (hid kn_18)
    have h_20 := ir_41_2 hI
    have kn_21 : Hid (c_2 41 2 = c 41 2) := hF_4 41 2 qn_f6e9e9f23
    have kn_22 : Hid (c_12 41 2 = c 41 2) := (hF_14 41 2 qn_53bdb2099).trans (hid kn_21)
    have h_23 : c_12 41 2 = c 41 2 := (hid kn_22)
    have kn_24 : Hid (c_2 P 0 = n0) := (hF_4 P 0 (qn_2ab083081 hP)).trans (hn0)
    have kn_25 : Hid (c_12 P 0 = n0) := (hF_14 P 0 (qn_857752076 hP)).trans (hid kn_24)
    have h_26 : c_12 P 0 = n0 := (hid kn_25)
    have kn_27 : Hid (c_2 41 20 = n0) := (hF_4 41 20 qn_f6e9e9f23).trans (hm0)
    have kn_28 : Hid (c_12 41 20 = n0) := (hF_14 41 20 qn_110b29ed6).trans (hid kn_27)
    have h_29 : c_12 41 20 = n0 := (hid kn_28)
    have kn_30 : Hid (c_2 P 1 = n1) := (hF_4 P 1 (qn_2ab083081 hP)).trans (hn1)
    have kn_31 : Hid (c_12 P 1 = n1) := (hF_14 P 1 (qn_857752076 hP)).trans (hid kn_30)
    have h_32 : c_12 P 1 = n1 := (hid kn_31)
    have kn_33 : Hid (c_2 41 21 = n1) := (hF_4 41 21 qn_f6e9e9f23).trans (hm1)
    have kn_34 : Hid (c_12 41 21 = n1) := (hF_14 41 21 qn_561064c41).trans (hid kn_33)
    have h_35 : c_12 41 21 = n1 := (hid kn_34)
    have kn_36 : Hid (c_2 P 2 = n2) := (hF_4 P 2 (qn_2ab083081 hP)).trans (hn2)
    have kn_37 : Hid (c_12 P 2 = n2) := (hF_14 P 2 (qn_857752076 hP)).trans (hid kn_36)
    have h_38 : c_12 P 2 = n2 := (hid kn_37)
    have kn_39 : Hid (c_2 41 22 = n2) := (hF_4 41 22 qn_f6e9e9f23).trans (hm2)
    have kn_40 : Hid (c_12 41 22 = n2) := (hF_14 41 22 qn_1a460b46b).trans (hid kn_39)
    have h_41 : c_12 41 22 = n2 := (hid kn_40)
    have kn_42 : Hid (c_2 P 3 = n3) := (hF_4 P 3 (qn_2ab083081 hP)).trans (hn3)
    have kn_43 : Hid (c_12 P 3 = n3) := (hF_14 P 3 (qn_857752076 hP)).trans (hid kn_42)
    have h_44 : c_12 P 3 = n3 := (hid kn_43)
    have kn_45 : Hid (c_2 41 23 = n3) := (hF_4 41 23 qn_f6e9e9f23).trans (hm3)
    have kn_46 : Hid (c_12 41 23 = n3) := (hF_14 41 23 qn_b79f282cd).trans (hid kn_45)
    have h_47 : c_12 41 23 = n3 := (hid kn_46)
    have kn_48 : Hid (c_2 3 4 = c 3 4) := hF_4 3 4 qn_342fc6b17
    have kn_49 : Hid (c_12 3 4 = c 3 4) := (hF_14 3 4 qn_bf2303cc8).trans (hid kn_48)
    have h_50 : c_12 3 4 = c 3 4 := (hid kn_49)
    have h_51 := ir_41_52 hI
    have kn_52 : Hid (c_2 41 52 = c 41 52) := hF_4 41 52 qn_f6e9e9f23
    have kn_53 : Hid (c_12 41 52 = c 41 52) := (hF_14 41 52 qn_90835161a).trans (hid kn_52)
    have h_54 : c_12 41 52 = c 41 52 := (hid kn_53)
    have h_55 := ir_3_3 hI
    have kn_56 : Hid (c_2 3 3 = c 3 3) := hF_4 3 3 qn_342fc6b17
    have kn_57 : Hid (c_12 3 3 = c 3 3) := (hF_14 3 3 qn_bf2303cc8).trans (hid kn_56)
    have h_58 : c_12 3 3 = c 3 3 := (hid kn_57)
    have h_59 := ir_41_35 hI
    have kn_60 : Hid (c_2 41 35 = c 41 35) := hF_4 41 35 qn_f6e9e9f23
    have kn_61 : Hid (c_12 41 35 = c 41 35) := (hF_14 41 35 qn_732a91ea5).trans (hid kn_60)
    have h_62 : c_12 41 35 = c 41 35 := (hid kn_61)
    have h_63 : c_12 3 4 = c 3 4 := (hid kn_49)
    have h_64 := ir_1_5 hI
    have kn_65 : Hid (c_2 1 5 = c 1 5) := hF_4 1 5 qn_ab545a015
    have kn_66 : Hid (c_12 1 5 = c 1 5) := (hF_14 1 5 qn_39cd18c3e).trans (hid kn_65)
    have h_67 : c_12 1 5 = c 1 5 := (hid kn_66)
    have h_68 := ir_41_8 hI
    have kn_69 : Hid (c_2 41 8 = c 41 8) := hF_4 41 8 qn_f6e9e9f23
    have kn_70 : Hid (c_12 41 8 = c 41 8) := (hF_14 41 8 qn_b601a9968).trans (hid kn_69)
    have h_71 : c_12 41 8 = c 41 8 := (hid kn_70)
    exact K P Q c_12 1 (by decide) hI_13 ⟨by omega, ub_fr hU (fun j => (hF_14 2 j qn_2ad67e194).trans (hF_4 2 j qn_326a9cf27)) (fun j => (hF_14 43 j qn_1520ff5e3).trans (hF_4 43 j qn_dee8a76c5)), ⟨by omega, by omega, by omega, by omega⟩, by omega, by omega, iw_fr2 hIw (by omega) (fun j => (hF_14 6 j qn_e1050858a).trans (hF_4 6 j qn_3cac0bc66)) (fun j => (hF_14 66 j qn_5616dd9ce).trans (hF_4 66 j qn_c03dddd5c)), by omega⟩
  · skip
    refine bk_thr (z := Int32.ofInt 2) rfl ⟨_, _, rfl⟩ rfl (bk_inl (q_istore c_296_874 (Nat.le_of_ble_eq_true rfl) (q_aload_n c_296_876 rfl (q_aload_n c_296_877 rfl (q_iload c_296_878 rfl (q_iconst c_296_880 (v_iadd (v := (i0 : Int) + 1) c_296_881 rfl ?_)))))))
    refine v_scr (j := i0 + 1) c_296_882 (by omega) (by omega) hL hx1 (q_aload_n c_296_883 rfl (q_iload c_296_884 rfl (q_iconst c_296_886 (v_iadd (v := (i0 : Int) + 2) c_296_887 rfl (v_scr (j := i0 + 2) c_296_888 (by omega) (by omega) hL hx2 (q_aload_n c_296_889 rfl (q_iload c_296_890 rfl ?_)))))))
    refine q_iconst c_296_892 (v_iadd (v := (i0 : Int) + 3) c_296_893 rfl (v_scr (j := i0 + 3) c_296_894 (by omega) (by omega) hL hx3 (v_cv c_296_895 km_9_184 rfl rfl (Nat.le_of_ble_eq_true rfl) ⟨⟨rfl, rfl⟩, Nat.le_of_ble_eq_true rfl, rfl⟩ (Nat.le_of_ble_eq_true rfl) (Nat.le_of_ble_eq_true rfl) (s_220 (a1 := x1) (a2 := x2) (a3 := x3) hI_6 (show (-2147483648) ≤ x1 ∧ x1 ≤ 2147483647 from ⟨by omega, by omega⟩) (show (-2147483648) ≤ x2 ∧ x2 ≤ 2147483647 from ⟨by omega, by omega⟩) (show (-2147483648) ≤ x3 ∧ x3 ≤ 2147483647 from ⟨by omega, by omega⟩) (fun c_72 y_75 hI_73 hF_74 hy_75 => (bk_inl (q_istore c_296_898 (Nat.le_of_ble_eq_true rfl) (q_goto (t := 1816) c_296_900 rfl (Wp_ls [(4, vi (i0 : Int)), (3, .ref 67), (2, .ref 41), (1, .ref 0), (0, .ref a_SC)] (lsub_cons rfl (lsub_cons rfl (lsub_cons rfl (lsub_cons rfl (lsub_cons rfl lsub_nil))))) ?_)))))))))
    have h_76 := ir_1_3 hI
    have kn_77 : Hid (c_5 1 3 = c 1 3) := hF_7 1 3 qn_ab545a015
    have kn_78 : Hid (c_72 1 3 = c 1 3) := (hF_74 1 3 qn_39cd18c3e).trans (hid kn_77)
    have h_79 : c_72 1 3 = c 1 3 := (hid kn_78)
    have h_80 := ir_41_2 hI
    have kn_81 : Hid (c_5 41 2 = c 41 2) := hF_7 41 2 qn_f6e9e9f23
    have kn_82 : Hid (c_72 41 2 = c 41 2) := (hF_74 41 2 qn_53bdb2099).trans (hid kn_81)
    have h_83 : c_72 41 2 = c 41 2 := (hid kn_82)
    have kn_84 : Hid (c_5 P 0 = n0) := (hF_7 P 0 (qn_2ab083081 hP)).trans (hn0)
    have kn_85 : Hid (c_72 P 0 = n0) := (hF_74 P 0 (qn_857752076 hP)).trans (hid kn_84)
    have h_86 : c_72 P 0 = n0 := (hid kn_85)
    have kn_87 : Hid (c_5 41 20 = n0) := (hF_7 41 20 qn_f6e9e9f23).trans (hm0)
    have kn_88 : Hid (c_72 41 20 = n0) := (hF_74 41 20 qn_110b29ed6).trans (hid kn_87)
    have h_89 : c_72 41 20 = n0 := (hid kn_88)
    have kn_90 : Hid (c_5 P 1 = n1) := (hF_7 P 1 (qn_2ab083081 hP)).trans (hn1)
    have kn_91 : Hid (c_72 P 1 = n1) := (hF_74 P 1 (qn_857752076 hP)).trans (hid kn_90)
    have h_92 : c_72 P 1 = n1 := (hid kn_91)
    have kn_93 : Hid (c_5 41 21 = n1) := (hF_7 41 21 qn_f6e9e9f23).trans (hm1)
    have kn_94 : Hid (c_72 41 21 = n1) := (hF_74 41 21 qn_561064c41).trans (hid kn_93)
    have h_95 : c_72 41 21 = n1 := (hid kn_94)
    have kn_96 : Hid (c_5 P 2 = n2) := (hF_7 P 2 (qn_2ab083081 hP)).trans (hn2)
    have kn_97 : Hid (c_72 P 2 = n2) := (hF_74 P 2 (qn_857752076 hP)).trans (hid kn_96)
    have h_98 : c_72 P 2 = n2 := (hid kn_97)
    have kn_99 : Hid (c_5 41 22 = n2) := (hF_7 41 22 qn_f6e9e9f23).trans (hm2)
    have kn_100 : Hid (c_72 41 22 = n2) := (hF_74 41 22 qn_1a460b46b).trans (hid kn_99)
    have h_101 : c_72 41 22 = n2 := (hid kn_100)
    have kn_102 : Hid (c_5 P 3 = n3) := (hF_7 P 3 (qn_2ab083081 hP)).trans (hn3)
    have kn_103 : Hid (c_72 P 3 = n3) := (hF_74 P 3 (qn_857752076 hP)).trans (hid kn_102)
    have h_104 : c_72 P 3 = n3 := (hid kn_103)
    have kn_105 : Hid (c_5 41 23 = n3) := (hF_7 41 23 qn_f6e9e9f23).trans (hm3)
    have kn_106 : Hid (c_72 41 23 = n3) := (hF_74 41 23 qn_b79f282cd).trans (hid kn_105)
    have h_107 : c_72 41 23 = n3 := (hid kn_106)
    have kn_108 : Hid (c_5 3 4 = c 3 4) := hF_7 3 4 qn_342fc6b17
    have kn_109 : Hid (c_72 3 4 = c 3 4) := (hF_74 3 4 qn_bf2303cc8).trans (hid kn_108)
    have h_110 : c_72 3 4 = c 3 4 := (hid kn_109)
    have h_111 := ir_41_52 hI
    have kn_112 : Hid (c_5 41 52 = c 41 52) := hF_7 41 52 qn_f6e9e9f23
    have kn_113 : Hid (c_72 41 52 = c 41 52) := (hF_74 41 52 qn_90835161a).trans (hid kn_112)
    have h_114 : c_72 41 52 = c 41 52 := (hid kn_113)
    have h_115 := ir_3_3 hI
    have kn_116 : Hid (c_5 3 3 = c 3 3) := hF_7 3 3 qn_342fc6b17
    have kn_117 : Hid (c_72 3 3 = c 3 3) := (hF_74 3 3 qn_bf2303cc8).trans (hid kn_116)
    have h_118 : c_72 3 3 = c 3 3 := (hid kn_117)
    have h_119 := ir_41_35 hI
    have kn_120 : Hid (c_5 41 35 = c 41 35) := hF_7 41 35 qn_f6e9e9f23
    have kn_121 : Hid (c_72 41 35 = c 41 35) := (hF_74 41 35 qn_732a91ea5).trans (hid kn_120)
    have h_122 : c_72 41 35 = c 41 35 := (hid kn_121)
    have h_123 : c_72 3 4 = c 3 4 := (hid kn_109)
    have h_124 := ir_1_5 hI
    have kn_125 : Hid (c_5 1 5 = c 1 5) := hF_7 1 5 qn_ab545a015
    have kn_126 : Hid (c_72 1 5 = c 1 5) := (hF_74 1 5 qn_39cd18c3e).trans (hid kn_125)
    have h_127 : c_72 1 5 = c 1 5 := (hid kn_126)
    have h_128 := ir_41_8 hI
    have kn_129 : Hid (c_5 41 8 = c 41 8) := hF_7 41 8 qn_f6e9e9f23
    have kn_130 : Hid (c_72 41 8 = c 41 8) := (hF_74 41 8 qn_b601a9968).trans (hid kn_129)
    have h_131 : c_72 41 8 = c 41 8 := (hid kn_130)
    exact K P Q c_72 1 (by decide) hI_73 ⟨by omega, ub_fr hU (fun j => (hF_74 2 j qn_2ad67e194).trans (hF_7 2 j qn_326a9cf27)) (fun j => (hF_74 43 j qn_1520ff5e3).trans (hF_7 43 j qn_dee8a76c5)), ⟨by omega, by omega, by omega, by omega⟩, by omega, by omega, iw_fr2 hIw (by omega) (fun j => (hF_74 6 j qn_e1050858a).trans (hF_7 6 j qn_3cac0bc66)) (fun j => (hF_74 66 j qn_5616dd9ce).trans (hF_7 66 j qn_c03dddd5c)), by omega⟩
  refine bk_inl (v_i2l c_276_10 (by omega) (v_ls c_276_11 rfl (by decide) (by decide) (by decide) (q_goto (t := 23) c_276_12 rfl (q_iconst c_276_23 (q_iret c_276_24 rfl (bk_inl (q_istore c_296_874 (Nat.le_of_ble_eq_true rfl) ?_)))))))
  refine q_aload_n c_296_876 rfl (q_aload_n c_296_877 rfl (q_iload c_296_878 rfl (q_iconst c_296_880 (v_iadd (v := (i0 : Int) + 1) c_296_881 rfl (v_scr (j := i0 + 1) c_296_882 (by omega) (by omega) hL hx1 (q_aload_n c_296_883 rfl (q_iload c_296_884 rfl ?_)))))))
  refine q_iconst c_296_886 (v_iadd (v := (i0 : Int) + 2) c_296_887 rfl (v_scr (j := i0 + 2) c_296_888 (by omega) (by omega) hL hx2 (q_aload_n c_296_889 rfl (q_iload c_296_890 rfl (q_iconst c_296_892 (v_iadd (v := (i0 : Int) + 3) c_296_893 rfl (v_scr (j := i0 + 3) c_296_894 (by omega) (by omega) hL hx3 ?_)))))))
  have hI_132 := iw_lx (a := 67) (j := 0) (v := y_11) hI_9 (by omega)
  refine v_cv c_296_895 km_9_184 rfl rfl (Nat.le_of_ble_eq_true rfl) ⟨⟨rfl, rfl⟩, Nat.le_of_ble_eq_true rfl, rfl⟩ (Nat.le_of_ble_eq_true rfl) (Nat.le_of_ble_eq_true rfl) (s_220 (a1 := x1) (a2 := x2) (a3 := x3) hI_132 (show (-2147483648) ≤ x1 ∧ x1 ≤ 2147483647 from ⟨by omega, by omega⟩) (show (-2147483648) ≤ x2 ∧ x2 ≤ 2147483647 from ⟨by omega, by omega⟩) (show (-2147483648) ≤ x3 ∧ x3 ≤ 2147483647 from ⟨by omega, by omega⟩) (fun c_133 y_136 hI_134 hF_135 hy_136 => (bk_inl (q_istore c_296_898 (Nat.le_of_ble_eq_true rfl) (q_goto (t := 1816) c_296_900 rfl (Wp_ls [(4, vi (i0 : Int)), (3, .ref 67), (2, .ref 41), (1, .ref 0), (0, .ref a_SC)] (lsub_cons rfl (lsub_cons rfl (lsub_cons rfl (lsub_cons rfl (lsub_cons rfl lsub_nil))))) ?_))))))
  have h_137 := ir_1_3 hI
  have kn_138 : Hid (c_8 1 3 = c 1 3) := hF_10 1 3 qn_ab545a015
  have kn_139 : Hid (c_133 1 3 = c 1 3) := (hF_135 1 3 qn_39cd18c3e).trans ((up_c (nn rfl)).trans (hid kn_138))
  have h_140 : c_133 1 3 = c 1 3 := (hid kn_139)
  have h_141 := ir_41_2 hI
  have kn_142 : Hid (c_8 41 2 = c 41 2) := hF_10 41 2 qn_f6e9e9f23
  have kn_143 : Hid (c_133 41 2 = c 41 2) := (hF_135 41 2 qn_53bdb2099).trans ((up_c (nn rfl)).trans (hid kn_142))
  have h_144 : c_133 41 2 = c 41 2 := (hid kn_143)
  have kn_145 : Hid (c_8 P 0 = n0) := (hF_10 P 0 (qn_2ab083081 hP)).trans (hn0)
  have kn_146 : Hid (c_133 P 0 = n0) := (hF_135 P 0 (qn_857752076 hP)).trans ((up_c (np0 hP rfl)).trans (hid kn_145))
  have h_147 : c_133 P 0 = n0 := (hid kn_146)
  have kn_148 : Hid (c_8 41 20 = n0) := (hF_10 41 20 qn_f6e9e9f23).trans (hm0)
  have kn_149 : Hid (c_133 41 20 = n0) := (hF_135 41 20 qn_110b29ed6).trans ((up_c (nn rfl)).trans (hid kn_148))
  have h_150 : c_133 41 20 = n0 := (hid kn_149)
  have kn_151 : Hid (c_8 P 1 = n1) := (hF_10 P 1 (qn_2ab083081 hP)).trans (hn1)
  have kn_152 : Hid (c_133 P 1 = n1) := (hF_135 P 1 (qn_857752076 hP)).trans ((up_c (np0 hP rfl)).trans (hid kn_151))
  have h_153 : c_133 P 1 = n1 := (hid kn_152)
  have kn_154 : Hid (c_8 41 21 = n1) := (hF_10 41 21 qn_f6e9e9f23).trans (hm1)
  have kn_155 : Hid (c_133 41 21 = n1) := (hF_135 41 21 qn_561064c41).trans ((up_c (nn rfl)).trans (hid kn_154))
  have h_156 : c_133 41 21 = n1 := (hid kn_155)
  have kn_157 : Hid (c_8 P 2 = n2) := (hF_10 P 2 (qn_2ab083081 hP)).trans (hn2)
  have kn_158 : Hid (c_133 P 2 = n2) := (hF_135 P 2 (qn_857752076 hP)).trans ((up_c (np0 hP rfl)).trans (hid kn_157))
  have h_159 : c_133 P 2 = n2 := (hid kn_158)
  have kn_160 : Hid (c_8 41 22 = n2) := (hF_10 41 22 qn_f6e9e9f23).trans (hm2)
  have kn_161 : Hid (c_133 41 22 = n2) := (hF_135 41 22 qn_1a460b46b).trans ((up_c (nn rfl)).trans (hid kn_160))
  have h_162 : c_133 41 22 = n2 := (hid kn_161)
  have kn_163 : Hid (c_8 P 3 = n3) := (hF_10 P 3 (qn_2ab083081 hP)).trans (hn3)
  have kn_164 : Hid (c_133 P 3 = n3) := (hF_135 P 3 (qn_857752076 hP)).trans ((up_c (np0 hP rfl)).trans (hid kn_163))
  have h_165 : c_133 P 3 = n3 := (hid kn_164)
  have kn_166 : Hid (c_8 41 23 = n3) := (hF_10 41 23 qn_f6e9e9f23).trans (hm3)
  have kn_167 : Hid (c_133 41 23 = n3) := (hF_135 41 23 qn_b79f282cd).trans ((up_c (nn rfl)).trans (hid kn_166))
  have h_168 : c_133 41 23 = n3 := (hid kn_167)
  have kn_169 : Hid (c_8 3 4 = c 3 4) := hF_10 3 4 qn_342fc6b17
  have kn_170 : Hid (c_133 3 4 = c 3 4) := (hF_135 3 4 qn_bf2303cc8).trans ((up_c (nn rfl)).trans (hid kn_169))
  have h_171 : c_133 3 4 = c 3 4 := (hid kn_170)
  have h_172 := ir_41_52 hI
  have kn_173 : Hid (c_8 41 52 = c 41 52) := hF_10 41 52 qn_f6e9e9f23
  have kn_174 : Hid (c_133 41 52 = c 41 52) := (hF_135 41 52 qn_90835161a).trans ((up_c (nn rfl)).trans (hid kn_173))
  have h_175 : c_133 41 52 = c 41 52 := (hid kn_174)
  have h_176 := ir_3_3 hI
  have kn_177 : Hid (c_8 3 3 = c 3 3) := hF_10 3 3 qn_342fc6b17
  have kn_178 : Hid (c_133 3 3 = c 3 3) := (hF_135 3 3 qn_bf2303cc8).trans ((up_c (nn rfl)).trans (hid kn_177))
  have h_179 : c_133 3 3 = c 3 3 := (hid kn_178)
  have h_180 := ir_41_35 hI
  have kn_181 : Hid (c_8 41 35 = c 41 35) := hF_10 41 35 qn_f6e9e9f23
  have kn_182 : Hid (c_133 41 35 = c 41 35) := (hF_135 41 35 qn_732a91ea5).trans ((up_c (nn rfl)).trans (hid kn_181))
  have h_183 : c_133 41 35 = c 41 35 := (hid kn_182)
  have h_184 : c_133 3 4 = c 3 4 := (hid kn_170)
  have h_185 := ir_1_5 hI
  have kn_186 : Hid (c_8 1 5 = c 1 5) := hF_10 1 5 qn_ab545a015
  have kn_187 : Hid (c_133 1 5 = c 1 5) := (hF_135 1 5 qn_39cd18c3e).trans ((up_c (nn rfl)).trans (hid kn_186))
  have h_188 : c_133 1 5 = c 1 5 := (hid kn_187)
  have h_189 := ir_41_8 hI
  have kn_190 : Hid (c_8 41 8 = c 41 8) := hF_10 41 8 qn_f6e9e9f23
  have kn_191 : Hid (c_133 41 8 = c 41 8) := (hF_135 41 8 qn_b601a9968).trans ((up_c (nn rfl)).trans (hid kn_190))
  have h_192 : c_133 41 8 = c 41 8 := (hid kn_191)
  exact K P Q c_133 0 (by decide) hI_134 ⟨by omega, ub_fr hU (fun j => (hF_135 2 j qn_2ad67e194).trans ((up_c (nn rfl)).trans (hF_10 2 j qn_326a9cf27))) (fun j => (hF_135 43 j qn_1520ff5e3).trans ((up_c (nn rfl)).trans (hF_10 43 j qn_dee8a76c5))), ⟨by omega, by omega, by omega, by omega⟩, by omega, by omega, iw_fr2 hIw (by omega) (fun j => (hF_135 6 j qn_e1050858a).trans ((up_c (nn rfl)).trans (hF_10 6 j qn_3cac0bc66))) (fun j => (hF_135 66 j qn_5616dd9ce).trans ((up_c (nn rfl)).trans (hF_10 66 j qn_c03dddd5c))), by omega⟩

