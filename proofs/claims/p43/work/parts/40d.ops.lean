/-! ===== the calls of the law 4 ===== -/
theorem q_961b8f33d {x0 x1 : Int} (f0 : (x0 ≥ 0 ∧ x0 ≤ 3 ∧ x1 ≥ 0 ∧ x1 ≤ 1)) : (-2147483648) ≤ x0 := by omega
theorem q_2073c4b3f {x0 x1 : Int} (f0 : (x0 ≥ 0 ∧ x0 ≤ 3 ∧ x1 ≥ 0 ∧ x1 ≤ 1)) : x0 ≤ 2147483647 := by omega
theorem q_52d5fe304 {x0 x1 : Int} (f0 : (x0 ≥ 0 ∧ x0 ≤ 3 ∧ x1 ≥ 0 ∧ x1 ≤ 1)) : (-2147483648) ≤ x1 := by omega
theorem q_20b3653e7 {x0 x1 : Int} (f0 : (x0 ≥ 0 ∧ x0 ≤ 3 ∧ x1 ≥ 0 ∧ x1 ≤ 1)) : x1 ≤ 2147483647 := by omega
theorem qn_2bc575ef4 {P : Nat} {j : Int} (hP : P = 13 ∨ P = 25) : ¬ (((42 : Nat) = 0 ∧ j = 13) ∨ (42 : Nat) = (P + 10) ∨ (42 : Nat) = (P + 11) ∨ ((42 : Nat) = 9 ∧ j = 0) ∨ (42 : Nat) = 40) := (fun q => q.elim (fun h => absurd h.1 (nn rfl)) (fun q => q.elim (fun h => absurd h (pn hP rfl rfl)) (fun q => q.elim (fun h => absurd h (pn hP rfl rfl)) (fun q => q.elim (fun h => absurd h.1 (nn rfl)) (fun h => absurd h (nn rfl))))))
theorem qn_cc1064621 {P : Nat} {j : Int} (hP : P = 13 ∨ P = 25) : ¬ (((1 : Nat) = 0 ∧ j = 13) ∨ (1 : Nat) = (P + 10) ∨ (1 : Nat) = (P + 11) ∨ ((1 : Nat) = 9 ∧ j = 0) ∨ (1 : Nat) = 40) := (fun q => q.elim (fun h => absurd h.1 (nn rfl)) (fun q => q.elim (fun h => absurd h (pn hP rfl rfl)) (fun q => q.elim (fun h => absurd h (pn hP rfl rfl)) (fun q => q.elim (fun h => absurd h.1 (nn rfl)) (fun h => absurd h (nn rfl))))))
theorem qn_9d94bd60f {j : Int} : ¬ (((1 : Nat) = 41 ∧ j = 0) ∨ (1 : Nat) = 42 ∨ ((1 : Nat) = 41 ∧ j = 50) ∨ (1 : Nat) = 59 ∨ (1 : Nat) = 54 ∨ (1 : Nat) = 55) := (fun q => q.elim (fun h => absurd h.1 (nn rfl)) (fun q => q.elim (fun h => absurd h (nn rfl)) (fun q => q.elim (fun h => absurd h.1 (nn rfl)) (fun q => q.elim (fun h => absurd h (nn rfl)) (fun q => q.elim (fun h => absurd h (nn rfl)) (fun h => absurd h (nn rfl)))))))
theorem qn_55346d250 {P : Nat} {j : Int} (hP : P = 13 ∨ P = 25) : ¬ (((41 : Nat) = 0 ∧ j = 13) ∨ (41 : Nat) = (P + 10) ∨ (41 : Nat) = (P + 11) ∨ ((41 : Nat) = 9 ∧ j = 0) ∨ (41 : Nat) = 40) := (fun q => q.elim (fun h => absurd h.1 (nn rfl)) (fun q => q.elim (fun h => absurd h (pn hP rfl rfl)) (fun q => q.elim (fun h => absurd h (pn hP rfl rfl)) (fun q => q.elim (fun h => absurd h.1 (nn rfl)) (fun h => absurd h (nn rfl))))))
theorem qn_9f4d5821f : ¬ (((41 : Nat) = 41 ∧ (2 : Int) = 0) ∨ (41 : Nat) = 42 ∨ ((41 : Nat) = 41 ∧ (2 : Int) = 50) ∨ (41 : Nat) = 59 ∨ (41 : Nat) = 54 ∨ (41 : Nat) = 55) := (fun q => q.elim (fun h => absurd h.2 (ni rfl)) (fun q => q.elim (fun h => absurd h (nn rfl)) (fun q => q.elim (fun h => absurd h.2 (ni rfl)) (fun q => q.elim (fun h => absurd h (nn rfl)) (fun q => q.elim (fun h => absurd h (nn rfl)) (fun h => absurd h (nn rfl)))))))
theorem qn_1a125c37c {P : Nat} {j : Int} (hP : P = 13 ∨ P = 25) : ¬ ((P = 0 ∧ j = 13) ∨ P = (P + 10) ∨ P = (P + 11) ∨ (P = 9 ∧ j = 0) ∨ P = 40) := (fun q => q.elim (fun h => absurd h.1 (np0 hP rfl)) (fun q => q.elim (fun h => absurd h (p0p rfl)) (fun q => q.elim (fun h => absurd h (p0p rfl)) (fun q => q.elim (fun h => absurd h.1 (np0 hP rfl)) (fun h => absurd h (np0 hP rfl))))))
theorem qn_3dda11c13 {P : Nat} {j : Int} (hP : P = 13 ∨ P = 25) : ¬ ((P = 41 ∧ j = 0) ∨ P = 42 ∨ (P = 41 ∧ j = 50) ∨ P = 59 ∨ P = 54 ∨ P = 55) := (fun q => q.elim (fun h => absurd h.1 (np0 hP rfl)) (fun q => q.elim (fun h => absurd h (np0 hP rfl)) (fun q => q.elim (fun h => absurd h.1 (np0 hP rfl)) (fun q => q.elim (fun h => absurd h (np0 hP rfl)) (fun q => q.elim (fun h => absurd h (np0 hP rfl)) (fun h => absurd h (np0 hP rfl)))))))
theorem qn_de1d671ad : ¬ (((41 : Nat) = 41 ∧ (20 : Int) = 0) ∨ (41 : Nat) = 42 ∨ ((41 : Nat) = 41 ∧ (20 : Int) = 50) ∨ (41 : Nat) = 59 ∨ (41 : Nat) = 54 ∨ (41 : Nat) = 55) := (fun q => q.elim (fun h => absurd h.2 (ni rfl)) (fun q => q.elim (fun h => absurd h (nn rfl)) (fun q => q.elim (fun h => absurd h.2 (ni rfl)) (fun q => q.elim (fun h => absurd h (nn rfl)) (fun q => q.elim (fun h => absurd h (nn rfl)) (fun h => absurd h (nn rfl)))))))
theorem qn_b0c4591b1 : ¬ (((41 : Nat) = 41 ∧ (21 : Int) = 0) ∨ (41 : Nat) = 42 ∨ ((41 : Nat) = 41 ∧ (21 : Int) = 50) ∨ (41 : Nat) = 59 ∨ (41 : Nat) = 54 ∨ (41 : Nat) = 55) := (fun q => q.elim (fun h => absurd h.2 (ni rfl)) (fun q => q.elim (fun h => absurd h (nn rfl)) (fun q => q.elim (fun h => absurd h.2 (ni rfl)) (fun q => q.elim (fun h => absurd h (nn rfl)) (fun q => q.elim (fun h => absurd h (nn rfl)) (fun h => absurd h (nn rfl)))))))
theorem qn_00a455246 : ¬ (((41 : Nat) = 41 ∧ (22 : Int) = 0) ∨ (41 : Nat) = 42 ∨ ((41 : Nat) = 41 ∧ (22 : Int) = 50) ∨ (41 : Nat) = 59 ∨ (41 : Nat) = 54 ∨ (41 : Nat) = 55) := (fun q => q.elim (fun h => absurd h.2 (ni rfl)) (fun q => q.elim (fun h => absurd h (nn rfl)) (fun q => q.elim (fun h => absurd h.2 (ni rfl)) (fun q => q.elim (fun h => absurd h (nn rfl)) (fun q => q.elim (fun h => absurd h (nn rfl)) (fun h => absurd h (nn rfl)))))))
theorem qn_375070522 : ¬ (((41 : Nat) = 41 ∧ (23 : Int) = 0) ∨ (41 : Nat) = 42 ∨ ((41 : Nat) = 41 ∧ (23 : Int) = 50) ∨ (41 : Nat) = 59 ∨ (41 : Nat) = 54 ∨ (41 : Nat) = 55) := (fun q => q.elim (fun h => absurd h.2 (ni rfl)) (fun q => q.elim (fun h => absurd h (nn rfl)) (fun q => q.elim (fun h => absurd h.2 (ni rfl)) (fun q => q.elim (fun h => absurd h (nn rfl)) (fun q => q.elim (fun h => absurd h (nn rfl)) (fun h => absurd h (nn rfl)))))))
theorem qn_eb42f2a25 {j : Int} : ¬ (((0 : Nat) = 41 ∧ j = 0) ∨ (0 : Nat) = 42 ∨ ((0 : Nat) = 41 ∧ j = 50) ∨ (0 : Nat) = 59 ∨ (0 : Nat) = 54 ∨ (0 : Nat) = 55) := (fun q => q.elim (fun h => absurd h.1 (nn rfl)) (fun q => q.elim (fun h => absurd h (nn rfl)) (fun q => q.elim (fun h => absurd h.1 (nn rfl)) (fun q => q.elim (fun h => absurd h (nn rfl)) (fun q => q.elim (fun h => absurd h (nn rfl)) (fun h => absurd h (nn rfl)))))))
theorem qn_ea1d8203a {j : Int} : ¬ (((2 : Nat) = 41 ∧ j = 0) ∨ (2 : Nat) = 42 ∨ ((2 : Nat) = 41 ∧ j = 50) ∨ (2 : Nat) = 59 ∨ (2 : Nat) = 54 ∨ (2 : Nat) = 55) := (fun q => q.elim (fun h => absurd h.1 (nn rfl)) (fun q => q.elim (fun h => absurd h (nn rfl)) (fun q => q.elim (fun h => absurd h.1 (nn rfl)) (fun q => q.elim (fun h => absurd h (nn rfl)) (fun q => q.elim (fun h => absurd h (nn rfl)) (fun h => absurd h (nn rfl)))))))
theorem qn_11c530ba0 {P : Nat} {j : Int} (hP : P = 13 ∨ P = 25) : ¬ (((2 : Nat) = 0 ∧ j = 13) ∨ (2 : Nat) = (P + 10) ∨ (2 : Nat) = (P + 11) ∨ ((2 : Nat) = 9 ∧ j = 0) ∨ (2 : Nat) = 40) := (fun q => q.elim (fun h => absurd h.1 (nn rfl)) (fun q => q.elim (fun h => absurd h (pn hP rfl rfl)) (fun q => q.elim (fun h => absurd h (pn hP rfl rfl)) (fun q => q.elim (fun h => absurd h.1 (nn rfl)) (fun h => absurd h (nn rfl))))))
theorem qn_921fc31f7 {j : Int} : ¬ (((43 : Nat) = 41 ∧ j = 0) ∨ (43 : Nat) = 42 ∨ ((43 : Nat) = 41 ∧ j = 50) ∨ (43 : Nat) = 59 ∨ (43 : Nat) = 54 ∨ (43 : Nat) = 55) := (fun q => q.elim (fun h => absurd h.1 (nn rfl)) (fun q => q.elim (fun h => absurd h (nn rfl)) (fun q => q.elim (fun h => absurd h.1 (nn rfl)) (fun q => q.elim (fun h => absurd h (nn rfl)) (fun q => q.elim (fun h => absurd h (nn rfl)) (fun h => absurd h (nn rfl)))))))
theorem qn_ce891e06c {P : Nat} {j : Int} (hP : P = 13 ∨ P = 25) : ¬ (((43 : Nat) = 0 ∧ j = 13) ∨ (43 : Nat) = (P + 10) ∨ (43 : Nat) = (P + 11) ∨ ((43 : Nat) = 9 ∧ j = 0) ∨ (43 : Nat) = 40) := (fun q => q.elim (fun h => absurd h.1 (nn rfl)) (fun q => q.elim (fun h => absurd h (pn hP rfl rfl)) (fun q => q.elim (fun h => absurd h (pn hP rfl rfl)) (fun q => q.elim (fun h => absurd h.1 (nn rfl)) (fun h => absurd h (nn rfl))))))
theorem q_7019a8e92 {x0 x1 x2 : Int} (f0 : (x0 ≥ 0 ∧ x0 ≤ 16 ∧ x1 ≥ 1 ∧ x1 ≤ 48 ∧ x2 ≥ 0 ∧ x2 ≤ 3)) : (-2147483648) ≤ x0 := by omega
theorem q_c88385698 {x0 x1 x2 : Int} (f0 : (x0 ≥ 0 ∧ x0 ≤ 16 ∧ x1 ≥ 1 ∧ x1 ≤ 48 ∧ x2 ≥ 0 ∧ x2 ≤ 3)) : x0 ≤ 2147483647 := by omega
theorem q_8e4bcdba1 {x0 x1 x2 : Int} (f0 : (x0 ≥ 0 ∧ x0 ≤ 16 ∧ x1 ≥ 1 ∧ x1 ≤ 48 ∧ x2 ≥ 0 ∧ x2 ≤ 3)) : (-2147483648) ≤ x1 := by omega
theorem q_fa6abfae1 {x0 x1 x2 : Int} (f0 : (x0 ≥ 0 ∧ x0 ≤ 16 ∧ x1 ≥ 1 ∧ x1 ≤ 48 ∧ x2 ≥ 0 ∧ x2 ≤ 3)) : x1 ≤ 2147483647 := by omega
theorem q_36f087713 {x0 x1 x2 : Int} (f0 : (x0 ≥ 0 ∧ x0 ≤ 16 ∧ x1 ≥ 1 ∧ x1 ≤ 48 ∧ x2 ≥ 0 ∧ x2 ≤ 3)) : (-2147483648) ≤ x2 := by omega
theorem q_e673be182 {x0 x1 x2 : Int} (f0 : (x0 ≥ 0 ∧ x0 ≤ 16 ∧ x1 ≥ 1 ∧ x1 ≤ 48 ∧ x2 ≥ 0 ∧ x2 ≤ 3)) : x2 ≤ 2147483647 := by omega
theorem q_01dd0d824 {x0 x1 x2 x3 x4 x5 x6 : Int} (f0 : (x0 ≥ 1 ∧ x0 ≤ 10 ∧ x1 ≥ 0 ∧ x1 ≤ 16 ∧ x2 ≥ 1 ∧ x2 ≤ 48 ∧ x3 ≥ 0 ∧ x3 ≤ 2 ∧ x4 ≥ 0 ∧ x4 ≤ x5 - 1)) (f1 : x5 = x6) : (-2147483648) ≤ x0 := by omega
theorem q_00e0cf3ce {x0 x1 x2 x3 x4 x5 x6 : Int} (f0 : (x0 ≥ 1 ∧ x0 ≤ 10 ∧ x1 ≥ 0 ∧ x1 ≤ 16 ∧ x2 ≥ 1 ∧ x2 ≤ 48 ∧ x3 ≥ 0 ∧ x3 ≤ 2 ∧ x4 ≥ 0 ∧ x4 ≤ x5 - 1)) (f1 : x5 = x6) : x0 ≤ 2147483647 := by omega
theorem q_c320f2d8b {x0 x1 x2 x3 x4 x5 x6 : Int} (f0 : (x0 ≥ 1 ∧ x0 ≤ 10 ∧ x1 ≥ 0 ∧ x1 ≤ 16 ∧ x2 ≥ 1 ∧ x2 ≤ 48 ∧ x3 ≥ 0 ∧ x3 ≤ 2 ∧ x4 ≥ 0 ∧ x4 ≤ x5 - 1)) (f1 : x5 = x6) : (-2147483648) ≤ x1 := by omega
theorem q_896c4049d {x0 x1 x2 x3 x4 x5 x6 : Int} (f0 : (x0 ≥ 1 ∧ x0 ≤ 10 ∧ x1 ≥ 0 ∧ x1 ≤ 16 ∧ x2 ≥ 1 ∧ x2 ≤ 48 ∧ x3 ≥ 0 ∧ x3 ≤ 2 ∧ x4 ≥ 0 ∧ x4 ≤ x5 - 1)) (f1 : x5 = x6) : x1 ≤ 2147483647 := by omega
theorem q_653afc6e0 {x0 x1 x2 x3 x4 x5 x6 : Int} (f0 : (x0 ≥ 1 ∧ x0 ≤ 10 ∧ x1 ≥ 0 ∧ x1 ≤ 16 ∧ x2 ≥ 1 ∧ x2 ≤ 48 ∧ x3 ≥ 0 ∧ x3 ≤ 2 ∧ x4 ≥ 0 ∧ x4 ≤ x5 - 1)) (f1 : x5 = x6) : (-2147483648) ≤ x2 := by omega
theorem q_6846d3c1f {x0 x1 x2 x3 x4 x5 x6 : Int} (f0 : (x0 ≥ 1 ∧ x0 ≤ 10 ∧ x1 ≥ 0 ∧ x1 ≤ 16 ∧ x2 ≥ 1 ∧ x2 ≤ 48 ∧ x3 ≥ 0 ∧ x3 ≤ 2 ∧ x4 ≥ 0 ∧ x4 ≤ x5 - 1)) (f1 : x5 = x6) : x2 ≤ 2147483647 := by omega
theorem q_745a1f233 {x0 x1 x2 x3 x4 x5 x6 : Int} (f0 : (x0 ≥ 1 ∧ x0 ≤ 10 ∧ x1 ≥ 0 ∧ x1 ≤ 16 ∧ x2 ≥ 1 ∧ x2 ≤ 48 ∧ x3 ≥ 0 ∧ x3 ≤ 2 ∧ x4 ≥ 0 ∧ x4 ≤ x5 - 1)) (f1 : x5 = x6) : (-2147483648) ≤ x3 := by omega
theorem q_f26cf834a {x0 x1 x2 x3 x4 x5 x6 : Int} (f0 : (x0 ≥ 1 ∧ x0 ≤ 10 ∧ x1 ≥ 0 ∧ x1 ≤ 16 ∧ x2 ≥ 1 ∧ x2 ≤ 48 ∧ x3 ≥ 0 ∧ x3 ≤ 2 ∧ x4 ≥ 0 ∧ x4 ≤ x5 - 1)) (f1 : x5 = x6) : x3 ≤ 2147483647 := by omega
theorem q_1cf78d553 {x0 x1 x2 x3 x4 x5 x6 : Int} (f0 : (x0 ≥ 1 ∧ x0 ≤ 10 ∧ x1 ≥ 0 ∧ x1 ≤ 16 ∧ x2 ≥ 1 ∧ x2 ≤ 48 ∧ x3 ≥ 0 ∧ x3 ≤ 2 ∧ x4 ≥ 0 ∧ x4 ≤ x5 - 1)) (f1 : x5 = x6) : (-2147483648) ≤ x4 := by omega
theorem qn_f4ba2e69c {j : Int} : ¬ (((41 : Nat) = 3 ∧ j = 4) ∨ (41 : Nat) = 5 ∨ (41 : Nat) = 6) := (fun q => q.elim (fun h => absurd h.1 (nn rfl)) (fun q => q.elim (fun h => absurd h (nn rfl)) (fun h => absurd h (nn rfl))))
theorem qn_3963d6a95 {j : Int} : ¬ (((1 : Nat) = 3 ∧ j = 4) ∨ (1 : Nat) = 5 ∨ (1 : Nat) = 6) := (fun q => q.elim (fun h => absurd h.1 (nn rfl)) (fun q => q.elim (fun h => absurd h (nn rfl)) (fun h => absurd h (nn rfl))))
theorem qn_aabc2a966 {j : Int} : ¬ (((1 : Nat) = 41 ∧ j = 0) ∨ ((1 : Nat) = 41 ∧ j = 52) ∨ (1 : Nat) = 66) := (fun q => q.elim (fun h => absurd h.1 (nn rfl)) (fun q => q.elim (fun h => absurd h.1 (nn rfl)) (fun h => absurd h (nn rfl))))
theorem qn_e34326ac3 : ¬ (((41 : Nat) = 41 ∧ (2 : Int) = 0) ∨ ((41 : Nat) = 41 ∧ (2 : Int) = 52) ∨ (41 : Nat) = 66) := (fun q => q.elim (fun h => absurd h.2 (ni rfl)) (fun q => q.elim (fun h => absurd h.2 (ni rfl)) (fun h => absurd h (nn rfl))))
theorem qn_e7fe3def9 {P : Nat} {j : Int} (hP : P = 13 ∨ P = 25) : ¬ ((P = 3 ∧ j = 4) ∨ P = 5 ∨ P = 6) := (fun q => q.elim (fun h => absurd h.1 (np0 hP rfl)) (fun q => q.elim (fun h => absurd h (np0 hP rfl)) (fun h => absurd h (np0 hP rfl))))
theorem qn_b12d52035 {P : Nat} {j : Int} (hP : P = 13 ∨ P = 25) : ¬ ((P = 41 ∧ j = 0) ∨ (P = 41 ∧ j = 52) ∨ P = 66) := (fun q => q.elim (fun h => absurd h.1 (np0 hP rfl)) (fun q => q.elim (fun h => absurd h.1 (np0 hP rfl)) (fun h => absurd h (np0 hP rfl))))
theorem qn_96e7afc0f : ¬ (((41 : Nat) = 41 ∧ (20 : Int) = 0) ∨ ((41 : Nat) = 41 ∧ (20 : Int) = 52) ∨ (41 : Nat) = 66) := (fun q => q.elim (fun h => absurd h.2 (ni rfl)) (fun q => q.elim (fun h => absurd h.2 (ni rfl)) (fun h => absurd h (nn rfl))))
theorem qn_4500485e1 : ¬ (((41 : Nat) = 41 ∧ (21 : Int) = 0) ∨ ((41 : Nat) = 41 ∧ (21 : Int) = 52) ∨ (41 : Nat) = 66) := (fun q => q.elim (fun h => absurd h.2 (ni rfl)) (fun q => q.elim (fun h => absurd h.2 (ni rfl)) (fun h => absurd h (nn rfl))))
theorem qn_0b9077a31 : ¬ (((41 : Nat) = 41 ∧ (22 : Int) = 0) ∨ ((41 : Nat) = 41 ∧ (22 : Int) = 52) ∨ (41 : Nat) = 66) := (fun q => q.elim (fun h => absurd h.2 (ni rfl)) (fun q => q.elim (fun h => absurd h.2 (ni rfl)) (fun h => absurd h (nn rfl))))
theorem qn_630a67155 : ¬ (((41 : Nat) = 41 ∧ (23 : Int) = 0) ∨ ((41 : Nat) = 41 ∧ (23 : Int) = 52) ∨ (41 : Nat) = 66) := (fun q => q.elim (fun h => absurd h.2 (ni rfl)) (fun q => q.elim (fun h => absurd h.2 (ni rfl)) (fun h => absurd h (nn rfl))))
theorem qn_985a66939 {j : Int} : ¬ (((0 : Nat) = 3 ∧ j = 4) ∨ (0 : Nat) = 5 ∨ (0 : Nat) = 6) := (fun q => q.elim (fun h => absurd h.1 (nn rfl)) (fun q => q.elim (fun h => absurd h (nn rfl)) (fun h => absurd h (nn rfl))))
theorem qn_f0cfa2a92 {j : Int} : ¬ (((0 : Nat) = 41 ∧ j = 0) ∨ ((0 : Nat) = 41 ∧ j = 52) ∨ (0 : Nat) = 66) := (fun q => q.elim (fun h => absurd h.1 (nn rfl)) (fun q => q.elim (fun h => absurd h.1 (nn rfl)) (fun h => absurd h (nn rfl))))
theorem qn_2e9615858 {j : Int} : ¬ (((42 : Nat) = 3 ∧ j = 4) ∨ (42 : Nat) = 5 ∨ (42 : Nat) = 6) := (fun q => q.elim (fun h => absurd h.1 (nn rfl)) (fun q => q.elim (fun h => absurd h (nn rfl)) (fun h => absurd h (nn rfl))))
theorem qn_019887eb9 {j : Int} : ¬ (((42 : Nat) = 41 ∧ j = 0) ∨ ((42 : Nat) = 41 ∧ j = 52) ∨ (42 : Nat) = 66) := (fun q => q.elim (fun h => absurd h.1 (nn rfl)) (fun q => q.elim (fun h => absurd h.1 (nn rfl)) (fun h => absurd h (nn rfl))))
theorem qn_211572161 {j : Int} : ¬ (((2 : Nat) = 41 ∧ j = 0) ∨ ((2 : Nat) = 41 ∧ j = 52) ∨ (2 : Nat) = 66) := (fun q => q.elim (fun h => absurd h.1 (nn rfl)) (fun q => q.elim (fun h => absurd h.1 (nn rfl)) (fun h => absurd h (nn rfl))))
theorem qn_7006423a9 {j : Int} : ¬ (((2 : Nat) = 3 ∧ j = 4) ∨ (2 : Nat) = 5 ∨ (2 : Nat) = 6) := (fun q => q.elim (fun h => absurd h.1 (nn rfl)) (fun q => q.elim (fun h => absurd h (nn rfl)) (fun h => absurd h (nn rfl))))
theorem qn_42e8f904a {j : Int} : ¬ (((43 : Nat) = 41 ∧ j = 0) ∨ ((43 : Nat) = 41 ∧ j = 52) ∨ (43 : Nat) = 66) := (fun q => q.elim (fun h => absurd h.1 (nn rfl)) (fun q => q.elim (fun h => absurd h.1 (nn rfl)) (fun h => absurd h (nn rfl))))
theorem qn_7439fdc4f {j : Int} : ¬ (((43 : Nat) = 3 ∧ j = 4) ∨ (43 : Nat) = 5 ∨ (43 : Nat) = 6) := (fun q => q.elim (fun h => absurd h.1 (nn rfl)) (fun q => q.elim (fun h => absurd h (nn rfl)) (fun h => absurd h (nn rfl))))
theorem qn_4fc69d39d {j : Int} : ¬ (((41 : Nat) = 0 ∧ j = 11) ∨ ((41 : Nat) = 3 ∧ j = 3) ∨ ((41 : Nat) = 3 ∧ j = 4) ∨ (41 : Nat) = 38 ∨ (41 : Nat) = 4) := (fun q => q.elim (fun h => absurd h.1 (nn rfl)) (fun q => q.elim (fun h => absurd h.1 (nn rfl)) (fun q => q.elim (fun h => absurd h.1 (nn rfl)) (fun q => q.elim (fun h => absurd h (nn rfl)) (fun h => absurd h (nn rfl))))))
theorem qn_5ca552781 {j : Int} : ¬ (((1 : Nat) = 0 ∧ j = 11) ∨ ((1 : Nat) = 3 ∧ j = 3) ∨ ((1 : Nat) = 3 ∧ j = 4) ∨ (1 : Nat) = 38 ∨ (1 : Nat) = 4) := (fun q => q.elim (fun h => absurd h.1 (nn rfl)) (fun q => q.elim (fun h => absurd h.1 (nn rfl)) (fun q => q.elim (fun h => absurd h.1 (nn rfl)) (fun q => q.elim (fun h => absurd h (nn rfl)) (fun h => absurd h (nn rfl))))))
theorem qn_bf90d08f5 {j : Int} : ¬ (((1 : Nat) = 41 ∧ j = 0) ∨ ((1 : Nat) = 41 ∧ j = 52) ∨ ((1 : Nat) = 41 ∧ j = 35) ∨ ((1 : Nat) = 41 ∧ j = 36) ∨ (1 : Nat) = 58 ∨ (1 : Nat) = 60) := (fun q => q.elim (fun h => absurd h.1 (nn rfl)) (fun q => q.elim (fun h => absurd h.1 (nn rfl)) (fun q => q.elim (fun h => absurd h.1 (nn rfl)) (fun q => q.elim (fun h => absurd h.1 (nn rfl)) (fun q => q.elim (fun h => absurd h (nn rfl)) (fun h => absurd h (nn rfl)))))))
theorem qn_210722190 : ¬ (((41 : Nat) = 41 ∧ (2 : Int) = 0) ∨ ((41 : Nat) = 41 ∧ (2 : Int) = 52) ∨ ((41 : Nat) = 41 ∧ (2 : Int) = 35) ∨ ((41 : Nat) = 41 ∧ (2 : Int) = 36) ∨ (41 : Nat) = 58 ∨ (41 : Nat) = 60) := (fun q => q.elim (fun h => absurd h.2 (ni rfl)) (fun q => q.elim (fun h => absurd h.2 (ni rfl)) (fun q => q.elim (fun h => absurd h.2 (ni rfl)) (fun q => q.elim (fun h => absurd h.2 (ni rfl)) (fun q => q.elim (fun h => absurd h (nn rfl)) (fun h => absurd h (nn rfl)))))))
theorem qn_7215934c9 {P : Nat} {j : Int} (hP : P = 13 ∨ P = 25) : ¬ ((P = 0 ∧ j = 11) ∨ (P = 3 ∧ j = 3) ∨ (P = 3 ∧ j = 4) ∨ P = 38 ∨ P = 4) := (fun q => q.elim (fun h => absurd h.1 (np0 hP rfl)) (fun q => q.elim (fun h => absurd h.1 (np0 hP rfl)) (fun q => q.elim (fun h => absurd h.1 (np0 hP rfl)) (fun q => q.elim (fun h => absurd h (np0 hP rfl)) (fun h => absurd h (np0 hP rfl))))))
theorem qn_5c78a3247 {P : Nat} {j : Int} (hP : P = 13 ∨ P = 25) : ¬ ((P = 41 ∧ j = 0) ∨ (P = 41 ∧ j = 52) ∨ (P = 41 ∧ j = 35) ∨ (P = 41 ∧ j = 36) ∨ P = 58 ∨ P = 60) := (fun q => q.elim (fun h => absurd h.1 (np0 hP rfl)) (fun q => q.elim (fun h => absurd h.1 (np0 hP rfl)) (fun q => q.elim (fun h => absurd h.1 (np0 hP rfl)) (fun q => q.elim (fun h => absurd h.1 (np0 hP rfl)) (fun q => q.elim (fun h => absurd h (np0 hP rfl)) (fun h => absurd h (np0 hP rfl)))))))
theorem qn_bec273e05 : ¬ (((41 : Nat) = 41 ∧ (20 : Int) = 0) ∨ ((41 : Nat) = 41 ∧ (20 : Int) = 52) ∨ ((41 : Nat) = 41 ∧ (20 : Int) = 35) ∨ ((41 : Nat) = 41 ∧ (20 : Int) = 36) ∨ (41 : Nat) = 58 ∨ (41 : Nat) = 60) := (fun q => q.elim (fun h => absurd h.2 (ni rfl)) (fun q => q.elim (fun h => absurd h.2 (ni rfl)) (fun q => q.elim (fun h => absurd h.2 (ni rfl)) (fun q => q.elim (fun h => absurd h.2 (ni rfl)) (fun q => q.elim (fun h => absurd h (nn rfl)) (fun h => absurd h (nn rfl)))))))
theorem qn_494f93e1c : ¬ (((41 : Nat) = 41 ∧ (21 : Int) = 0) ∨ ((41 : Nat) = 41 ∧ (21 : Int) = 52) ∨ ((41 : Nat) = 41 ∧ (21 : Int) = 35) ∨ ((41 : Nat) = 41 ∧ (21 : Int) = 36) ∨ (41 : Nat) = 58 ∨ (41 : Nat) = 60) := (fun q => q.elim (fun h => absurd h.2 (ni rfl)) (fun q => q.elim (fun h => absurd h.2 (ni rfl)) (fun q => q.elim (fun h => absurd h.2 (ni rfl)) (fun q => q.elim (fun h => absurd h.2 (ni rfl)) (fun q => q.elim (fun h => absurd h (nn rfl)) (fun h => absurd h (nn rfl)))))))
theorem qn_dbb4118f0 : ¬ (((41 : Nat) = 41 ∧ (22 : Int) = 0) ∨ ((41 : Nat) = 41 ∧ (22 : Int) = 52) ∨ ((41 : Nat) = 41 ∧ (22 : Int) = 35) ∨ ((41 : Nat) = 41 ∧ (22 : Int) = 36) ∨ (41 : Nat) = 58 ∨ (41 : Nat) = 60) := (fun q => q.elim (fun h => absurd h.2 (ni rfl)) (fun q => q.elim (fun h => absurd h.2 (ni rfl)) (fun q => q.elim (fun h => absurd h.2 (ni rfl)) (fun q => q.elim (fun h => absurd h.2 (ni rfl)) (fun q => q.elim (fun h => absurd h (nn rfl)) (fun h => absurd h (nn rfl)))))))
theorem qn_26d3ef373 : ¬ (((41 : Nat) = 41 ∧ (23 : Int) = 0) ∨ ((41 : Nat) = 41 ∧ (23 : Int) = 52) ∨ ((41 : Nat) = 41 ∧ (23 : Int) = 35) ∨ ((41 : Nat) = 41 ∧ (23 : Int) = 36) ∨ (41 : Nat) = 58 ∨ (41 : Nat) = 60) := (fun q => q.elim (fun h => absurd h.2 (ni rfl)) (fun q => q.elim (fun h => absurd h.2 (ni rfl)) (fun q => q.elim (fun h => absurd h.2 (ni rfl)) (fun q => q.elim (fun h => absurd h.2 (ni rfl)) (fun q => q.elim (fun h => absurd h (nn rfl)) (fun h => absurd h (nn rfl)))))))
theorem qn_11d6a4395 : ¬ (((0 : Nat) = 0 ∧ (12 : Int) = 11) ∨ ((0 : Nat) = 3 ∧ (12 : Int) = 3) ∨ ((0 : Nat) = 3 ∧ (12 : Int) = 4) ∨ (0 : Nat) = 38 ∨ (0 : Nat) = 4) := (fun q => q.elim (fun h => absurd h.2 (ni rfl)) (fun q => q.elim (fun h => absurd h.1 (nn rfl)) (fun q => q.elim (fun h => absurd h.1 (nn rfl)) (fun q => q.elim (fun h => absurd h (nn rfl)) (fun h => absurd h (nn rfl))))))
theorem qn_992dc5ab8 {j : Int} : ¬ (((0 : Nat) = 41 ∧ j = 0) ∨ ((0 : Nat) = 41 ∧ j = 52) ∨ ((0 : Nat) = 41 ∧ j = 35) ∨ ((0 : Nat) = 41 ∧ j = 36) ∨ (0 : Nat) = 58 ∨ (0 : Nat) = 60) := (fun q => q.elim (fun h => absurd h.1 (nn rfl)) (fun q => q.elim (fun h => absurd h.1 (nn rfl)) (fun q => q.elim (fun h => absurd h.1 (nn rfl)) (fun q => q.elim (fun h => absurd h.1 (nn rfl)) (fun q => q.elim (fun h => absurd h (nn rfl)) (fun h => absurd h (nn rfl)))))))
theorem qn_a2d6ef2bf {j : Int} : ¬ (((42 : Nat) = 0 ∧ j = 11) ∨ ((42 : Nat) = 3 ∧ j = 3) ∨ ((42 : Nat) = 3 ∧ j = 4) ∨ (42 : Nat) = 38 ∨ (42 : Nat) = 4) := (fun q => q.elim (fun h => absurd h.1 (nn rfl)) (fun q => q.elim (fun h => absurd h.1 (nn rfl)) (fun q => q.elim (fun h => absurd h.1 (nn rfl)) (fun q => q.elim (fun h => absurd h (nn rfl)) (fun h => absurd h (nn rfl))))))
theorem qn_7c917220c {j : Int} : ¬ (((42 : Nat) = 41 ∧ j = 0) ∨ ((42 : Nat) = 41 ∧ j = 52) ∨ ((42 : Nat) = 41 ∧ j = 35) ∨ ((42 : Nat) = 41 ∧ j = 36) ∨ (42 : Nat) = 58 ∨ (42 : Nat) = 60) := (fun q => q.elim (fun h => absurd h.1 (nn rfl)) (fun q => q.elim (fun h => absurd h.1 (nn rfl)) (fun q => q.elim (fun h => absurd h.1 (nn rfl)) (fun q => q.elim (fun h => absurd h.1 (nn rfl)) (fun q => q.elim (fun h => absurd h (nn rfl)) (fun h => absurd h (nn rfl)))))))
theorem qn_6a4a641a3 : ¬ (((0 : Nat) = 0 ∧ (13 : Int) = 11) ∨ ((0 : Nat) = 3 ∧ (13 : Int) = 3) ∨ ((0 : Nat) = 3 ∧ (13 : Int) = 4) ∨ (0 : Nat) = 38 ∨ (0 : Nat) = 4) := (fun q => q.elim (fun h => absurd h.2 (ni rfl)) (fun q => q.elim (fun h => absurd h.1 (nn rfl)) (fun q => q.elim (fun h => absurd h.1 (nn rfl)) (fun q => q.elim (fun h => absurd h (nn rfl)) (fun h => absurd h (nn rfl))))))
theorem qn_da2ba65fc {j : Int} : ¬ (((2 : Nat) = 41 ∧ j = 0) ∨ ((2 : Nat) = 41 ∧ j = 52) ∨ ((2 : Nat) = 41 ∧ j = 35) ∨ ((2 : Nat) = 41 ∧ j = 36) ∨ (2 : Nat) = 58 ∨ (2 : Nat) = 60) := (fun q => q.elim (fun h => absurd h.1 (nn rfl)) (fun q => q.elim (fun h => absurd h.1 (nn rfl)) (fun q => q.elim (fun h => absurd h.1 (nn rfl)) (fun q => q.elim (fun h => absurd h.1 (nn rfl)) (fun q => q.elim (fun h => absurd h (nn rfl)) (fun h => absurd h (nn rfl)))))))
theorem qn_b09292c1d {j : Int} : ¬ (((2 : Nat) = 0 ∧ j = 11) ∨ ((2 : Nat) = 3 ∧ j = 3) ∨ ((2 : Nat) = 3 ∧ j = 4) ∨ (2 : Nat) = 38 ∨ (2 : Nat) = 4) := (fun q => q.elim (fun h => absurd h.1 (nn rfl)) (fun q => q.elim (fun h => absurd h.1 (nn rfl)) (fun q => q.elim (fun h => absurd h.1 (nn rfl)) (fun q => q.elim (fun h => absurd h (nn rfl)) (fun h => absurd h (nn rfl))))))
theorem qn_9179bb198 {j : Int} : ¬ (((43 : Nat) = 41 ∧ j = 0) ∨ ((43 : Nat) = 41 ∧ j = 52) ∨ ((43 : Nat) = 41 ∧ j = 35) ∨ ((43 : Nat) = 41 ∧ j = 36) ∨ (43 : Nat) = 58 ∨ (43 : Nat) = 60) := (fun q => q.elim (fun h => absurd h.1 (nn rfl)) (fun q => q.elim (fun h => absurd h.1 (nn rfl)) (fun q => q.elim (fun h => absurd h.1 (nn rfl)) (fun q => q.elim (fun h => absurd h.1 (nn rfl)) (fun q => q.elim (fun h => absurd h (nn rfl)) (fun h => absurd h (nn rfl)))))))
theorem qn_2ecc35740 {j : Int} : ¬ (((43 : Nat) = 0 ∧ j = 11) ∨ ((43 : Nat) = 3 ∧ j = 3) ∨ ((43 : Nat) = 3 ∧ j = 4) ∨ (43 : Nat) = 38 ∨ (43 : Nat) = 4) := (fun q => q.elim (fun h => absurd h.1 (nn rfl)) (fun q => q.elim (fun h => absurd h.1 (nn rfl)) (fun q => q.elim (fun h => absurd h.1 (nn rfl)) (fun q => q.elim (fun h => absurd h (nn rfl)) (fun h => absurd h (nn rfl))))))
theorem q_1e40ff458 {x0 : Int} (f0 : x0 = 0) : x0 ≤ 2147483647 := by omega
theorem q_a8f1f275b {x0 : Int} (f0 : x0 = 0) : (-2147483648) ≤ x0 := by omega
theorem q_71ca93a6c {x0 : Int} (f0 : x0 = 1) : x0 ≤ 2147483647 := by omega
theorem q_bdd517da6 {x0 : Int} (f0 : x0 = 1) : (-2147483648) ≤ x0 := by omega
theorem q_3f988bf0b {x0 : Int} (f0 : x0 = 1) : x0 ≤ 1 := by omega
theorem q_dd60ae4e7 {x0 : Int} (f0 : ¬ (x0 = 0)) (f1 : ¬ (x0 = 1)) (f2 : ¬ (x0 < 0)) : 1 < x0 := by omega
theorem c_296_1465 : mLk 296 1465 = some (.aload_n 1, 1) := rfl
theorem c_296_1466 : mLk 296 1466 = some (.aload_n 0, 1) := rfl
theorem c_296_1467 : mLk 296 1467 = some (.iload 4, 2) := rfl
theorem c_296_1469 : mLk 296 1469 = some (.iconst 1, 1) := rfl
theorem c_296_1470 : mLk 296 1470 = some (.iadd, 1) := rfl
theorem c_296_1471 : mLk 296 1471 = some (.iaload, 1) := rfl
theorem c_296_1472 : mLk 296 1472 = some (.aload_n 0, 1) := rfl
theorem c_296_1473 : mLk 296 1473 = some (.iload 4, 2) := rfl
theorem c_296_1475 : mLk 296 1475 = some (.iconst 2, 1) := rfl
theorem c_296_1476 : mLk 296 1476 = some (.iadd, 1) := rfl
theorem c_296_1477 : mLk 296 1477 = some (.iaload, 1) := rfl
theorem c_296_1478 : mLk 296 1478 = some (.aload_n 3, 1) := rfl
theorem c_296_1479 : mLk 296 1479 = some (.invokestatic 236, 3) := rfl
theorem c_291_0 : mLk 291 0 = some (.aload_n 3, 1) := rfl
theorem c_291_1 : mLk 291 1 = some (.iconst 0, 1) := rfl
theorem c_291_2 : mLk 291 2 = some (.aload_n 0, 1) := rfl
theorem c_291_3 : mLk 291 3 = some (.iload_n 1, 1) := rfl
theorem c_291_4 : mLk 291 4 = some (.iload_n 2, 1) := rfl
theorem c_291_5 : mLk 291 5 = some (.invokevirtual 102, 3) := rfl
theorem c_296_1482 : mLk 296 1482 = some (.istore 5, 2) := rfl
theorem c_296_1484 : mLk 296 1484 = some (.aload_n 2, 1) := rfl
theorem c_296_1485 : mLk 296 1485 = some (.aload_n 0, 1) := rfl
theorem c_296_1486 : mLk 296 1486 = some (.iload 4, 2) := rfl
theorem c_296_1488 : mLk 296 1488 = some (.iconst 1, 1) := rfl
theorem c_296_1489 : mLk 296 1489 = some (.iadd, 1) := rfl
theorem c_296_1490 : mLk 296 1490 = some (.iaload, 1) := rfl
theorem c_296_1491 : mLk 296 1491 = some (.aload_n 0, 1) := rfl
theorem c_296_1492 : mLk 296 1492 = some (.iload 4, 2) := rfl
theorem c_296_1494 : mLk 296 1494 = some (.iconst 2, 1) := rfl
theorem c_296_1495 : mLk 296 1495 = some (.iadd, 1) := rfl
theorem c_296_1496 : mLk 296 1496 = some (.iaload, 1) := rfl
theorem c_296_1497 : mLk 296 1497 = some (.invokevirtual 238, 3) := rfl
theorem c_296_1500 : mLk 296 1500 = some (.istore 6, 2) := rfl
theorem c_296_1502 : mLk 296 1502 = some (.goto 314, 3) := rfl
theorem c_291_8 : mLk 291 8 = some (.i2l, 1) := rfl
theorem c_291_9 : mLk 291 9 = some (.lastore, 1) := rfl
theorem c_291_10 : mLk 291 10 = some (.goto 7, 3) := rfl
theorem c_291_17 : mLk 291 17 = some (.iconst 0, 1) := rfl
theorem c_291_18 : mLk 291 18 = some (.ireturn, 1) := rfl
theorem c_296_1505 : mLk 296 1505 = some (.aload_n 1, 1) := rfl
theorem c_296_1506 : mLk 296 1506 = some (.invokevirtual 239, 3) := rfl
theorem c_296_1509 : mLk 296 1509 = some (.pop, 1) := rfl
theorem c_296_1510 : mLk 296 1510 = some (.aload_n 2, 1) := rfl
theorem c_296_1511 : mLk 296 1511 = some (.invokevirtual 242, 3) := rfl
theorem c_296_1514 : mLk 296 1514 = some (.pop, 1) := rfl
theorem c_296_1515 : mLk 296 1515 = some (.goto 301, 3) := rfl
theorem c_296_1518 : mLk 296 1518 = some (.aload_n 1, 1) := rfl
theorem c_296_1519 : mLk 296 1519 = some (.aload_n 0, 1) := rfl
theorem c_296_1520 : mLk 296 1520 = some (.iload 4, 2) := rfl
theorem c_296_1522 : mLk 296 1522 = some (.iconst 1, 1) := rfl
theorem c_296_1523 : mLk 296 1523 = some (.iadd, 1) := rfl
theorem c_296_1524 : mLk 296 1524 = some (.iaload, 1) := rfl
theorem c_296_1525 : mLk 296 1525 = some (.aload_n 3, 1) := rfl
theorem c_296_1526 : mLk 296 1526 = some (.invokestatic 243, 3) := rfl
theorem c_292_0 : mLk 292 0 = some (.aload_n 2, 1) := rfl
theorem c_292_1 : mLk 292 1 = some (.iconst 0, 1) := rfl
theorem c_292_2 : mLk 292 2 = some (.aload_n 0, 1) := rfl
theorem c_292_3 : mLk 292 3 = some (.iload_n 1, 1) := rfl
theorem c_292_4 : mLk 292 4 = some (.invokevirtual 105, 3) := rfl
theorem c_296_1529 : mLk 296 1529 = some (.istore 5, 2) := rfl
theorem c_296_1531 : mLk 296 1531 = some (.aload_n 2, 1) := rfl
theorem c_296_1532 : mLk 296 1532 = some (.aload_n 0, 1) := rfl
theorem c_296_1533 : mLk 296 1533 = some (.iload 4, 2) := rfl
theorem c_296_1535 : mLk 296 1535 = some (.iconst 1, 1) := rfl
theorem c_296_1536 : mLk 296 1536 = some (.iadd, 1) := rfl
theorem c_296_1537 : mLk 296 1537 = some (.iaload, 1) := rfl
theorem c_296_1538 : mLk 296 1538 = some (.invokevirtual 245, 3) := rfl
theorem c_296_1541 : mLk 296 1541 = some (.istore 6, 2) := rfl
theorem c_296_1543 : mLk 296 1543 = some (.goto 273, 3) := rfl
theorem c_292_7 : mLk 292 7 = some (.i2l, 1) := rfl
theorem c_292_8 : mLk 292 8 = some (.lastore, 1) := rfl
theorem c_292_9 : mLk 292 9 = some (.goto 6, 3) := rfl
theorem c_292_15 : mLk 292 15 = some (.iconst 0, 1) := rfl
theorem c_292_16 : mLk 292 16 = some (.ireturn, 1) := rfl
theorem c_296_1546 : mLk 296 1546 = some (.aload_n 1, 1) := rfl
theorem c_296_1547 : mLk 296 1547 = some (.aload_n 0, 1) := rfl
theorem c_296_1548 : mLk 296 1548 = some (.iload 4, 2) := rfl
theorem c_296_1550 : mLk 296 1550 = some (.iconst 1, 1) := rfl
theorem c_296_1551 : mLk 296 1551 = some (.iadd, 1) := rfl
theorem c_296_1552 : mLk 296 1552 = some (.iaload, 1) := rfl
theorem c_296_1553 : mLk 296 1553 = some (.aload_n 0, 1) := rfl
theorem c_296_1554 : mLk 296 1554 = some (.iload 4, 2) := rfl
theorem c_296_1556 : mLk 296 1556 = some (.iconst 2, 1) := rfl
theorem c_296_1557 : mLk 296 1557 = some (.iadd, 1) := rfl
theorem c_296_1558 : mLk 296 1558 = some (.iaload, 1) := rfl
theorem c_296_1559 : mLk 296 1559 = some (.aload_n 3, 1) := rfl
theorem c_296_1560 : mLk 296 1560 = some (.invokestatic 246, 3) := rfl
theorem c_293_0 : mLk 293 0 = some (.aload_n 3, 1) := rfl
theorem c_293_1 : mLk 293 1 = some (.iconst 0, 1) := rfl
theorem c_293_2 : mLk 293 2 = some (.aload_n 0, 1) := rfl
theorem c_293_3 : mLk 293 3 = some (.iload_n 1, 1) := rfl
theorem c_293_4 : mLk 293 4 = some (.iload_n 2, 1) := rfl
theorem c_293_5 : mLk 293 5 = some (.invokevirtual 108, 3) := rfl
theorem c_296_1563 : mLk 296 1563 = some (.istore 5, 2) := rfl
theorem c_296_1565 : mLk 296 1565 = some (.aload_n 2, 1) := rfl
theorem c_296_1566 : mLk 296 1566 = some (.aload_n 0, 1) := rfl
theorem c_296_1567 : mLk 296 1567 = some (.iload 4, 2) := rfl
theorem c_296_1569 : mLk 296 1569 = some (.iconst 1, 1) := rfl
theorem c_296_1570 : mLk 296 1570 = some (.iadd, 1) := rfl
theorem c_296_1571 : mLk 296 1571 = some (.iaload, 1) := rfl
theorem c_296_1572 : mLk 296 1572 = some (.aload_n 0, 1) := rfl
theorem c_296_1573 : mLk 296 1573 = some (.iload 4, 2) := rfl
theorem c_296_1575 : mLk 296 1575 = some (.iconst 2, 1) := rfl
theorem c_296_1576 : mLk 296 1576 = some (.iadd, 1) := rfl
theorem c_296_1577 : mLk 296 1577 = some (.iaload, 1) := rfl
theorem c_296_1578 : mLk 296 1578 = some (.invokevirtual 248, 3) := rfl
theorem c_296_1581 : mLk 296 1581 = some (.istore 6, 2) := rfl
theorem c_296_1583 : mLk 296 1583 = some (.goto 233, 3) := rfl
theorem c_293_8 : mLk 293 8 = some (.i2l, 1) := rfl
theorem c_293_9 : mLk 293 9 = some (.lastore, 1) := rfl
theorem c_293_10 : mLk 293 10 = some (.goto 11, 3) := rfl
theorem c_293_21 : mLk 293 21 = some (.iconst 0, 1) := rfl
theorem c_293_22 : mLk 293 22 = some (.ireturn, 1) := rfl
theorem c_296_1586 : mLk 296 1586 = some (.aload_n 1, 1) := rfl
theorem c_296_1587 : mLk 296 1587 = some (.aload_n 0, 1) := rfl
theorem c_296_1588 : mLk 296 1588 = some (.iload 4, 2) := rfl
theorem c_296_1590 : mLk 296 1590 = some (.iconst 1, 1) := rfl
theorem c_296_1591 : mLk 296 1591 = some (.iadd, 1) := rfl
theorem c_296_1592 : mLk 296 1592 = some (.iaload, 1) := rfl
theorem c_296_1593 : mLk 296 1593 = some (.aload_n 0, 1) := rfl
theorem c_296_1594 : mLk 296 1594 = some (.iload 4, 2) := rfl
theorem c_296_1596 : mLk 296 1596 = some (.iconst 2, 1) := rfl
theorem c_296_1597 : mLk 296 1597 = some (.iadd, 1) := rfl
theorem c_296_1598 : mLk 296 1598 = some (.iaload, 1) := rfl
theorem c_296_1599 : mLk 296 1599 = some (.aload_n 0, 1) := rfl
theorem c_296_1600 : mLk 296 1600 = some (.iload 4, 2) := rfl
theorem c_296_1602 : mLk 296 1602 = some (.iconst 3, 1) := rfl
theorem c_296_1603 : mLk 296 1603 = some (.iadd, 1) := rfl
theorem c_296_1604 : mLk 296 1604 = some (.iaload, 1) := rfl
theorem c_296_1605 : mLk 296 1605 = some (.aload_n 0, 1) := rfl
theorem c_296_1606 : mLk 296 1606 = some (.iload 4, 2) := rfl
theorem c_296_1608 : mLk 296 1608 = some (.iconst 4, 1) := rfl
theorem c_296_1609 : mLk 296 1609 = some (.iadd, 1) := rfl
theorem c_296_1610 : mLk 296 1610 = some (.iaload, 1) := rfl
theorem c_296_1611 : mLk 296 1611 = some (.aload_n 3, 1) := rfl
theorem c_296_1612 : mLk 296 1612 = some (.invokestatic 249, 3) := rfl
theorem c_294_0 : mLk 294 0 = some (.aload 5, 2) := rfl
theorem c_294_2 : mLk 294 2 = some (.iconst 0, 1) := rfl
theorem c_294_3 : mLk 294 3 = some (.aload_n 0, 1) := rfl
theorem c_294_4 : mLk 294 4 = some (.iload_n 1, 1) := rfl
theorem c_294_5 : mLk 294 5 = some (.iload_n 2, 1) := rfl
theorem c_294_6 : mLk 294 6 = some (.iload_n 3, 1) := rfl
theorem c_294_7 : mLk 294 7 = some (.iload 4, 2) := rfl
theorem c_294_9 : mLk 294 9 = some (.invokevirtual 111, 3) := rfl
theorem c_296_1615 : mLk 296 1615 = some (.istore 5, 2) := rfl
theorem c_296_1617 : mLk 296 1617 = some (.aload_n 2, 1) := rfl
theorem c_296_1618 : mLk 296 1618 = some (.aload_n 0, 1) := rfl
theorem c_296_1619 : mLk 296 1619 = some (.iload 4, 2) := rfl
theorem c_296_1621 : mLk 296 1621 = some (.iconst 1, 1) := rfl
theorem c_296_1622 : mLk 296 1622 = some (.iadd, 1) := rfl
theorem c_296_1623 : mLk 296 1623 = some (.iaload, 1) := rfl
theorem c_296_1624 : mLk 296 1624 = some (.aload_n 0, 1) := rfl
theorem c_296_1625 : mLk 296 1625 = some (.iload 4, 2) := rfl
theorem c_296_1627 : mLk 296 1627 = some (.iconst 2, 1) := rfl
theorem c_296_1628 : mLk 296 1628 = some (.iadd, 1) := rfl
theorem c_296_1629 : mLk 296 1629 = some (.iaload, 1) := rfl
theorem c_296_1630 : mLk 296 1630 = some (.aload_n 0, 1) := rfl
theorem c_296_1631 : mLk 296 1631 = some (.iload 4, 2) := rfl
theorem c_296_1633 : mLk 296 1633 = some (.iconst 3, 1) := rfl
theorem c_296_1634 : mLk 296 1634 = some (.iadd, 1) := rfl
theorem c_296_1635 : mLk 296 1635 = some (.iaload, 1) := rfl
theorem c_296_1636 : mLk 296 1636 = some (.aload_n 0, 1) := rfl
theorem c_296_1637 : mLk 296 1637 = some (.iload 4, 2) := rfl
theorem c_296_1639 : mLk 296 1639 = some (.iconst 4, 1) := rfl
theorem c_296_1640 : mLk 296 1640 = some (.iadd, 1) := rfl
theorem c_296_1641 : mLk 296 1641 = some (.iaload, 1) := rfl
theorem c_296_1642 : mLk 296 1642 = some (.invokevirtual 251, 3) := rfl
theorem c_296_1645 : mLk 296 1645 = some (.istore 6, 2) := rfl
theorem c_296_1647 : mLk 296 1647 = some (.goto 169, 3) := rfl
theorem c_294_12 : mLk 294 12 = some (.i2l, 1) := rfl
theorem c_294_13 : mLk 294 13 = some (.lastore, 1) := rfl
theorem c_294_14 : mLk 294 14 = some (.goto 7, 3) := rfl
theorem c_294_21 : mLk 294 21 = some (.iconst 0, 1) := rfl
theorem c_294_22 : mLk 294 22 = some (.ireturn, 1) := rfl
theorem c_296_1650 : mLk 296 1650 = some (.aload_n 1, 1) := rfl
theorem c_296_1651 : mLk 296 1651 = some (.aload_n 0, 1) := rfl
theorem c_296_1652 : mLk 296 1652 = some (.iload 4, 2) := rfl
theorem c_296_1654 : mLk 296 1654 = some (.iconst 1, 1) := rfl
theorem c_296_1655 : mLk 296 1655 = some (.iadd, 1) := rfl
theorem c_296_1656 : mLk 296 1656 = some (.iaload, 1) := rfl
theorem c_296_1657 : mLk 296 1657 = some (.aload_n 0, 1) := rfl
theorem c_296_1658 : mLk 296 1658 = some (.iload 4, 2) := rfl
theorem c_296_1660 : mLk 296 1660 = some (.iconst 2, 1) := rfl
theorem c_296_1661 : mLk 296 1661 = some (.iadd, 1) := rfl
theorem c_296_1662 : mLk 296 1662 = some (.iaload, 1) := rfl
theorem c_296_1663 : mLk 296 1663 = some (.aload_n 0, 1) := rfl
theorem c_296_1664 : mLk 296 1664 = some (.iload 4, 2) := rfl
theorem c_296_1666 : mLk 296 1666 = some (.iconst 3, 1) := rfl
theorem c_296_1667 : mLk 296 1667 = some (.iadd, 1) := rfl
theorem c_296_1668 : mLk 296 1668 = some (.iaload, 1) := rfl
theorem c_296_1669 : mLk 296 1669 = some (.aload_n 0, 1) := rfl
theorem c_296_1670 : mLk 296 1670 = some (.iload 4, 2) := rfl
theorem c_296_1672 : mLk 296 1672 = some (.iconst 4, 1) := rfl
theorem c_296_1673 : mLk 296 1673 = some (.iadd, 1) := rfl
theorem c_296_1674 : mLk 296 1674 = some (.iaload, 1) := rfl
theorem c_296_1675 : mLk 296 1675 = some (.aload_n 0, 1) := rfl
theorem c_296_1676 : mLk 296 1676 = some (.iload 4, 2) := rfl
theorem c_296_1678 : mLk 296 1678 = some (.iconst 5, 1) := rfl
theorem c_296_1679 : mLk 296 1679 = some (.iadd, 1) := rfl
theorem c_296_1680 : mLk 296 1680 = some (.iaload, 1) := rfl
theorem c_296_1681 : mLk 296 1681 = some (.aload_n 0, 1) := rfl
theorem c_296_1682 : mLk 296 1682 = some (.iload 4, 2) := rfl
theorem c_296_1684 : mLk 296 1684 = some (.bipush 6, 2) := rfl
theorem c_296_1686 : mLk 296 1686 = some (.iadd, 1) := rfl
theorem c_296_1687 : mLk 296 1687 = some (.iaload, 1) := rfl
theorem c_296_1688 : mLk 296 1688 = some (.aload_n 3, 1) := rfl
theorem c_296_1689 : mLk 296 1689 = some (.invokestatic 252, 3) := rfl
theorem c_295_0 : mLk 295 0 = some (.aload 7, 2) := rfl
theorem c_295_2 : mLk 295 2 = some (.iconst 0, 1) := rfl
theorem c_295_3 : mLk 295 3 = some (.aload_n 0, 1) := rfl
theorem c_295_4 : mLk 295 4 = some (.iload_n 1, 1) := rfl
theorem c_295_5 : mLk 295 5 = some (.iload_n 2, 1) := rfl
theorem c_295_6 : mLk 295 6 = some (.iload_n 3, 1) := rfl
theorem c_295_7 : mLk 295 7 = some (.iload 4, 2) := rfl
theorem c_295_9 : mLk 295 9 = some (.iload 5, 2) := rfl
theorem c_295_11 : mLk 295 11 = some (.iload 6, 2) := rfl
theorem c_295_13 : mLk 295 13 = some (.invokevirtual 115, 3) := rfl
theorem c_296_1692 : mLk 296 1692 = some (.istore 5, 2) := rfl
theorem c_296_1694 : mLk 296 1694 = some (.aload_n 2, 1) := rfl
theorem c_296_1695 : mLk 296 1695 = some (.aload_n 0, 1) := rfl
theorem c_296_1696 : mLk 296 1696 = some (.iload 4, 2) := rfl
theorem c_296_1698 : mLk 296 1698 = some (.iconst 1, 1) := rfl
theorem c_296_1699 : mLk 296 1699 = some (.iadd, 1) := rfl
theorem c_296_1700 : mLk 296 1700 = some (.iaload, 1) := rfl
theorem c_296_1701 : mLk 296 1701 = some (.aload_n 0, 1) := rfl
theorem c_296_1702 : mLk 296 1702 = some (.iload 4, 2) := rfl
theorem c_296_1704 : mLk 296 1704 = some (.iconst 2, 1) := rfl
theorem c_296_1705 : mLk 296 1705 = some (.iadd, 1) := rfl
theorem c_296_1706 : mLk 296 1706 = some (.iaload, 1) := rfl
theorem c_296_1707 : mLk 296 1707 = some (.aload_n 0, 1) := rfl
theorem c_296_1708 : mLk 296 1708 = some (.iload 4, 2) := rfl
theorem c_296_1710 : mLk 296 1710 = some (.iconst 3, 1) := rfl
theorem c_296_1711 : mLk 296 1711 = some (.iadd, 1) := rfl
theorem c_296_1712 : mLk 296 1712 = some (.iaload, 1) := rfl
theorem c_296_1713 : mLk 296 1713 = some (.aload_n 0, 1) := rfl
theorem c_296_1714 : mLk 296 1714 = some (.iload 4, 2) := rfl
theorem c_296_1716 : mLk 296 1716 = some (.iconst 4, 1) := rfl
theorem c_296_1717 : mLk 296 1717 = some (.iadd, 1) := rfl
theorem c_296_1718 : mLk 296 1718 = some (.iaload, 1) := rfl
theorem c_296_1719 : mLk 296 1719 = some (.aload_n 0, 1) := rfl
theorem c_296_1720 : mLk 296 1720 = some (.iload 4, 2) := rfl
theorem c_296_1722 : mLk 296 1722 = some (.iconst 5, 1) := rfl
theorem c_296_1723 : mLk 296 1723 = some (.iadd, 1) := rfl
theorem c_296_1724 : mLk 296 1724 = some (.iaload, 1) := rfl
theorem c_296_1725 : mLk 296 1725 = some (.aload_n 0, 1) := rfl
theorem c_296_1726 : mLk 296 1726 = some (.iload 4, 2) := rfl
theorem c_296_1728 : mLk 296 1728 = some (.bipush 6, 2) := rfl
theorem c_296_1730 : mLk 296 1730 = some (.iadd, 1) := rfl
theorem c_296_1731 : mLk 296 1731 = some (.iaload, 1) := rfl
theorem c_296_1732 : mLk 296 1732 = some (.invokevirtual 255, 3) := rfl
theorem c_296_1735 : mLk 296 1735 = some (.istore 6, 2) := rfl
theorem c_296_1737 : mLk 296 1737 = some (.goto 79, 3) := rfl
theorem c_295_16 : mLk 295 16 = some (.i2l, 1) := rfl
theorem c_295_17 : mLk 295 17 = some (.lastore, 1) := rfl
theorem c_295_18 : mLk 295 18 = some (.goto 7, 3) := rfl
theorem c_295_25 : mLk 295 25 = some (.iconst 0, 1) := rfl
theorem c_295_26 : mLk 295 26 = some (.ireturn, 1) := rfl
theorem c_296_1740 : mLk 296 1740 = some (.aload_n 1, 1) := rfl
theorem c_296_1741 : mLk 296 1741 = some (.invokevirtual 256, 3) := rfl
theorem c_296_1744 : mLk 296 1744 = some (.pop, 1) := rfl
theorem c_296_1745 : mLk 296 1745 = some (.aload_n 2, 1) := rfl
theorem c_296_1746 : mLk 296 1746 = some (.invokevirtual 259, 3) := rfl
theorem c_296_1749 : mLk 296 1749 = some (.pop, 1) := rfl
theorem c_296_1750 : mLk 296 1750 = some (.goto 66, 3) := rfl
theorem c_296_1753 : mLk 296 1753 = some (.aload_n 1, 1) := rfl
theorem c_296_1754 : mLk 296 1754 = some (.invokevirtual 260, 3) := rfl
theorem c_296_1757 : mLk 296 1757 = some (.pop, 1) := rfl
theorem c_296_1758 : mLk 296 1758 = some (.aload_n 2, 1) := rfl
theorem c_296_1759 : mLk 296 1759 = some (.invokevirtual 263, 3) := rfl
theorem c_296_1762 : mLk 296 1762 = some (.pop, 1) := rfl
theorem c_296_1763 : mLk 296 1763 = some (.goto 53, 3) := rfl
theorem c_296_1766 : mLk 296 1766 = some (.aload_n 1, 1) := rfl
theorem c_296_1767 : mLk 296 1767 = some (.aload_n 0, 1) := rfl
theorem c_296_1768 : mLk 296 1768 = some (.iload 4, 2) := rfl
theorem c_296_1770 : mLk 296 1770 = some (.iconst 1, 1) := rfl
theorem c_296_1771 : mLk 296 1771 = some (.iadd, 1) := rfl
theorem c_296_1772 : mLk 296 1772 = some (.iaload, 1) := rfl
theorem c_296_1773 : mLk 296 1773 = some (.invokevirtual 264, 3) := rfl
theorem c_296_1776 : mLk 296 1776 = some (.aload_n 2, 1) := rfl
theorem c_296_1777 : mLk 296 1777 = some (.aload_n 0, 1) := rfl
theorem c_296_1778 : mLk 296 1778 = some (.iload 4, 2) := rfl
theorem c_296_1780 : mLk 296 1780 = some (.iconst 1, 1) := rfl
theorem c_296_1781 : mLk 296 1781 = some (.iadd, 1) := rfl
theorem c_296_1782 : mLk 296 1782 = some (.iaload, 1) := rfl
theorem c_296_1783 : mLk 296 1783 = some (.invokevirtual 267, 3) := rfl
theorem c_296_1786 : mLk 296 1786 = some (.if_icmp .eq 30, 3) := rfl
theorem c_296_1791 : mLk 296 1791 = some (.aload_n 1, 1) := rfl
theorem c_296_1792 : mLk 296 1792 = some (.aload_n 0, 1) := rfl
theorem c_296_1793 : mLk 296 1793 = some (.iload 4, 2) := rfl
theorem c_296_1795 : mLk 296 1795 = some (.iconst 1, 1) := rfl
theorem c_296_1796 : mLk 296 1796 = some (.iadd, 1) := rfl
theorem c_296_1797 : mLk 296 1797 = some (.iaload, 1) := rfl
theorem c_296_1798 : mLk 296 1798 = some (.invokevirtual 268, 3) := rfl
theorem c_296_1801 : mLk 296 1801 = some (.pop, 1) := rfl
theorem c_296_1802 : mLk 296 1802 = some (.aload_n 2, 1) := rfl
theorem c_296_1803 : mLk 296 1803 = some (.aload_n 0, 1) := rfl
theorem c_296_1804 : mLk 296 1804 = some (.iload 4, 2) := rfl
theorem c_296_1806 : mLk 296 1806 = some (.iconst 1, 1) := rfl
theorem c_296_1807 : mLk 296 1807 = some (.iadd, 1) := rfl
theorem c_296_1808 : mLk 296 1808 = some (.iaload, 1) := rfl
theorem c_296_1809 : mLk 296 1809 = some (.invokevirtual 271, 3) := rfl
theorem c_296_1812 : mLk 296 1812 = some (.pop, 1) := rfl
theorem c_296_1813 : mLk 296 1813 = some (.goto 3, 3) := rfl
theorem km_9_102 : a_lk (kM 9) 102 = some (0, 100) := rfl
theorem km_9_105 : a_lk (kM 9) 105 = some (0, 102) := rfl
theorem km_9_108 : a_lk (kM 9) 108 = some (0, 116) := rfl
theorem km_9_111 : a_lk (kM 9) 111 = some (0, 137) := rfl
theorem km_9_115 : a_lk (kM 9) 115 = some (0, 138) := rfl
theorem km_9_238 : a_lk (kM 9) 238 = some (0, 248) := rfl
theorem km_9_239 : a_lk (kM 9) 239 = some (0, 107) := rfl
theorem km_9_242 : a_lk (kM 9) 242 = some (0, 249) := rfl
theorem km_9_245 : a_lk (kM 9) 245 = some (0, 250) := rfl
theorem km_9_248 : a_lk (kM 9) 248 = some (0, 251) := rfl
theorem km_9_251 : a_lk (kM 9) 251 = some (0, 255) := rfl
theorem km_9_255 : a_lk (kM 9) 255 = some (0, 256) := rfl
theorem km_9_256 : a_lk (kM 9) 256 = some (0, 140) := rfl
theorem km_9_259 : a_lk (kM 9) 259 = some (0, 259) := rfl
theorem km_9_260 : a_lk (kM 9) 260 = some (0, 141) := rfl
theorem km_9_263 : a_lk (kM 9) 263 = some (0, 260) := rfl
theorem km_9_264 : a_lk (kM 9) 264 = some (0, 142) := rfl
theorem km_9_267 : a_lk (kM 9) 267 = some (0, 261) := rfl
theorem km_9_268 : a_lk (kM 9) 268 = some (0, 143) := rfl
theorem km_9_271 : a_lk (kM 9) 271 = some (0, 262) := rfl
set_option maxRecDepth 100000 in
set_option maxHeartbeats 4000000 in
theorem o_33 {xs : Nat → Int32} {L i0 d nc ns P Q : Nat} {c : ME} {Z : AR → Prop} (hi : i0 + 8 ≤ L) (hL : L ≤ 100000) (hI : Iv 0 (-1) P Q c) (hR : Rq P c) (K : ∀ (P2 Q2 : Nat) (c2 : ME) (e : Nat), e ≤ 1 → Iv 0 (-1) P2 Q2 c2 → (Rq P2 c2) → Wp (a_scr L xs) (d + 90) 296 1816 [(4, vi (i0 : Int)), (3, .ref 67), (2, .ref 41), (1, .ref 0), (0, .ref a_SC)] [] (Wd P2 Q2 P2 P2 c2) (nc + e) (ns + 6 * e) Z) : Wp (a_scr L xs) (d + 90) 296 1465 [(4, vi (i0 : Int)), (3, .ref 67), (2, .ref 41), (1, .ref 0), (0, .ref a_SC)] [] (Wd P Q P P c) nc ns Z := by
  obtain ⟨x1, hx1⟩ : ∃ z, (xs (i0 + 1)).toInt = z := ⟨_, rfl⟩
  refine hv_ (c_rng (xs (i0 + 1))) (fun x1r => ?_)
  rw [hx1] at x1r
  obtain ⟨x2, hx2⟩ : ∃ z, (xs (i0 + 2)).toInt = z := ⟨_, rfl⟩
  refine hv_ (c_rng (xs (i0 + 2))) (fun x2r => ?_)
  rw [hx2] at x2r
  obtain ⟨x3, hx3⟩ : ∃ z, (xs (i0 + 3)).toInt = z := ⟨_, rfl⟩
  refine hv_ (c_rng (xs (i0 + 3))) (fun x3r => ?_)
  rw [hx3] at x3r
  obtain ⟨x4, hx4⟩ : ∃ z, (xs (i0 + 4)).toInt = z := ⟨_, rfl⟩
  refine hv_ (c_rng (xs (i0 + 4))) (fun x4r => ?_)
  rw [hx4] at x4r
  obtain ⟨x5, hx5⟩ : ∃ z, (xs (i0 + 5)).toInt = z := ⟨_, rfl⟩
  refine hv_ (c_rng (xs (i0 + 5))) (fun x5r => ?_)
  rw [hx5] at x5r
  obtain ⟨x6, hx6⟩ : ∃ z, (xs (i0 + 6)).toInt = z := ⟨_, rfl⟩
  refine hv_ (c_rng (xs (i0 + 6))) (fun x6r => ?_)
  rw [hx6] at x6r
  obtain ⟨x7, hx7⟩ : ∃ z, (xs (i0 + 7)).toInt = z := ⟨_, rfl⟩
  refine hv_ (c_rng (xs (i0 + 7))) (fun x7r => ?_)
  rw [hx7] at x7r
  refine hv_ (iv_P hI) (fun hP => (hv_ (iv_Q hI) (fun hQ => (hv_ (rl_t hR) (fun hT => (hv_ (rl_u hR) (fun hU => ?_)))))))
  obtain ⟨n0, hn0⟩ : ∃ z, c P 0 = z := ⟨_, rfl⟩
  refine hv_ (p := c 41 20 = n0) ((rl_nums hR).1.symm.trans hn0) (fun hm0 => (hv_ (ir_p0_0 hI hP) (fun hr0 => ?_)))
  rw [hn0] at hr0
  obtain ⟨n1, hn1⟩ : ∃ z, c P 1 = z := ⟨_, rfl⟩
  refine hv_ (p := c 41 21 = n1) ((rl_nums hR).2.1.symm.trans hn1) (fun hm1 => (hv_ (ir_p0_1 hI hP) (fun hr1 => ?_)))
  rw [hn1] at hr1
  obtain ⟨n2, hn2⟩ : ∃ z, c P 2 = z := ⟨_, rfl⟩
  refine hv_ (p := c 41 22 = n2) ((rl_nums hR).2.2.1.symm.trans hn2) (fun hm2 => (hv_ (ir_p0_2 hI hP) (fun hr2 => ?_)))
  rw [hn2] at hr2
  obtain ⟨n3, hn3⟩ : ∃ z, c P 3 = z := ⟨_, rfl⟩
  refine hv_ (p := c 41 23 = n3) ((rl_nums hR).2.2.2.symm.trans hn3) (fun hm3 => (hv_ (ir_p0_3 hI hP) (fun hr3 => ?_)))
  rw [hn3] at hr3
  refine hv_ (rl_cnt2 hR) (fun hNcnt2 => (hv_ (rl_cnt2 hR) (fun hNcnt2 => (q_aload_n c_296_1465 rfl (q_aload_n c_296_1466 rfl (q_iload c_296_1467 rfl (q_iconst c_296_1469 (v_iadd (v := (i0 : Int) + 1) c_296_1470 rfl (v_scr (j := i0 + 1) c_296_1471 (by omega) (by omega) hL hx1 ?_)))))))))
  refine q_aload_n c_296_1472 rfl (q_iload c_296_1473 rfl (q_iconst c_296_1475 (v_iadd (v := (i0 : Int) + 2) c_296_1476 rfl (v_scr (j := i0 + 2) c_296_1477 (by omega) (by omega) hL hx2 (q_aload_n c_296_1478 rfl (q_call c_296_1479 rfl rfl rfl (q_aload_n c_291_0 rfl ?_)))))))
  refine q_iconst c_291_1 (q_aload_n c_291_2 rfl (q_iload_n c_291_3 rfl (q_iload_n c_291_4 rfl (hv_ (ir_0_12 hI) (fun h_1 => (hv_ (ir_0_13 hI) (fun h_2 => ?_)))))))
  refine v_cv c_291_5 km_9_102 rfl rfl (Nat.le_of_ble_eq_true rfl) ⟨⟨rfl, rfl⟩, Nat.le_of_ble_eq_true rfl, rfl⟩ (Nat.le_of_ble_eq_true rfl) (Nat.le_of_ble_eq_true rfl) (s_100S (a1 := x1) (a2 := x2) hI (show (-2147483648) ≤ x1 ∧ x1 ≤ 2147483647 from ⟨by omega, by omega⟩) (show (-2147483648) ≤ x2 ∧ x2 ≤ 2147483647 from ⟨by omega, by omega⟩) (fun c_3 hI_4 hF_5 h_6 h_7 h_8 => ?_) (fun c_9 y_12 hI_10 hF_11 hy_12 h_13 h_14 h_15 => ?_))
  · skip
    refine hv_ (ir_0_13 hI_4) (fun h_16 => (hv_ (ir_0_12 hI_4) (fun h_17 => (bk_thr (z := Int32.ofInt 1) rfl ⟨_, _, rfl⟩ rfl (bk_inl (q_istore c_296_1482 (Nat.le_of_ble_eq_true rfl) (q_aload_n c_296_1484 rfl (q_aload_n c_296_1485 rfl (q_iload c_296_1486 rfl ?_)))))))))
    refine q_iconst c_296_1488 (v_iadd (v := (i0 : Int) + 1) c_296_1489 rfl (v_scr (j := i0 + 1) c_296_1490 (by omega) (by omega) hL hx1 (q_aload_n c_296_1491 rfl (q_iload c_296_1492 rfl (q_iconst c_296_1494 (v_iadd (v := (i0 : Int) + 2) c_296_1495 rfl (v_scr (j := i0 + 2) c_296_1496 (by omega) (by omega) hL hx2 ?_)))))))
    refine hv_ (ir_42 hI 0) (fun h_18 => (hv_ (p := Hid (c_3 42 0 = c 42 0)) (hF_5 42 0 (fun h => absurd h.1 (nn rfl))) (fun kn_19 => (hv_ (p := c_3 42 0 = c 42 0) ((hid kn_19)) (fun h_20 => (hv_ (ir_42 hI 1) (fun h_21 => (hv_ (p := Hid (c_3 42 1 = c 42 1)) (hF_5 42 1 (fun h => absurd h.1 (nn rfl))) (fun kn_22 => (hv_ (p := c_3 42 1 = c 42 1) ((hid kn_22)) (fun h_23 => (v_cv c_296_1497 km_9_238 rfl rfl (Nat.le_of_ble_eq_true rfl) ⟨⟨rfl, rfl⟩, Nat.le_of_ble_eq_true rfl, rfl⟩ (Nat.le_of_ble_eq_true rfl) (Nat.le_of_ble_eq_true rfl) (s_248S (a1 := x1) (a2 := x2) hI_4 (show (-2147483648) ≤ x1 ∧ x1 ≤ 2147483647 from ⟨by first | (clear hT hNcnt2 h_1 h_2 h_16 h_17; omega) | omega, by first | (clear hT hNcnt2 h_1 h_2 h_16 h_17; omega) | omega⟩) (show (-2147483648) ≤ x2 ∧ x2 ≤ 2147483647 from ⟨by first | (clear hT hNcnt2 h_1 h_2 h_16 h_17; omega) | omega, by first | (clear hT hNcnt2 h_1 h_2 h_16 h_17; omega) | omega⟩) (fun c_24 y_27 hI_25 hF_26 hy_27 h_28 => (bk_inl ?_)))))))))))))))
    refine hv_ (ir_42 hI_25 0) (fun h_29 => (hv_ (ir_42 hI_25 1) (fun h_30 => (q_istore c_296_1500 (Nat.le_of_ble_eq_true rfl) (q_goto (t := 1816) c_296_1502 rfl (Wp_ls [(4, vi (i0 : Int)), (3, .ref 67), (2, .ref 41), (1, .ref 0), (0, .ref a_SC)] (lsub_cons rfl (lsub_cons rfl (lsub_cons rfl (lsub_cons rfl (lsub_cons rfl lsub_nil))))) (hv_ (ir_1_3 hI) (fun h_31 => (hv_ (p := Hid (c_3 1 3 = c 1 3)) (hF_5 1 3 (fun h => absurd h.1 (nn rfl))) (fun kn_32 => (hv_ (p := Hid (c_24 1 3 = c 1 3)) ((hF_26 1 3 (fun q => q.elim (fun h => absurd h.1 (nn rfl)) (fun h => absurd h (nn rfl)))).trans (hid kn_32)) (fun kn_33 => ?_))))))))))))
    refine hv_ (p := c_24 1 3 = c 1 3) ((hid kn_33)) (fun h_34 => (hv_ (ir_41_2 hI) (fun h_35 => (hv_ (p := Hid (c_3 41 2 = c 41 2)) (hF_5 41 2 (fun h => absurd h.1 (nn rfl))) (fun kn_36 => (hv_ (p := Hid (c_24 41 2 = c 41 2)) ((hF_26 41 2 (fun q => q.elim (fun h => absurd h.2 (ni rfl)) (fun h => absurd h (nn rfl)))).trans (hid kn_36)) (fun kn_37 => (hv_ (p := c_24 41 2 = c 41 2) ((hid kn_37)) (fun h_38 => (hv_ (p := Hid (c_3 P 0 = n0)) ((hF_5 P 0 (fun h => absurd h.1 (np0 hP rfl))).trans (hn0)) (fun kn_39 => (hv_ (p := Hid (c_24 P 0 = n0)) ((hF_26 P 0 (qn_753ab1e1a hP)).trans (hid kn_39)) (fun kn_40 => (hv_ (p := c_24 P 0 = n0) ((hid kn_40)) (fun h_41 => ?_)))))))))))))))
    refine hv_ (p := Hid (c_3 41 20 = n0)) ((hF_5 41 20 (fun h => absurd h.1 (nn rfl))).trans (hm0)) (fun kn_42 => (hv_ (p := Hid (c_24 41 20 = n0)) ((hF_26 41 20 (fun q => q.elim (fun h => absurd h.2 (ni rfl)) (fun h => absurd h (nn rfl)))).trans (hid kn_42)) (fun kn_43 => (hv_ (p := c_24 41 20 = n0) ((hid kn_43)) (fun h_44 => (hv_ (p := Hid (c_3 P 1 = n1)) ((hF_5 P 1 (fun h => absurd h.1 (np0 hP rfl))).trans (hn1)) (fun kn_45 => (hv_ (p := Hid (c_24 P 1 = n1)) ((hF_26 P 1 (qn_753ab1e1a hP)).trans (hid kn_45)) (fun kn_46 => (hv_ (p := c_24 P 1 = n1) ((hid kn_46)) (fun h_47 => (hv_ (p := Hid (c_3 41 21 = n1)) ((hF_5 41 21 (fun h => absurd h.1 (nn rfl))).trans (hm1)) (fun kn_48 => (hv_ (p := Hid (c_24 41 21 = n1)) ((hF_26 41 21 (fun q => q.elim (fun h => absurd h.2 (ni rfl)) (fun h => absurd h (nn rfl)))).trans (hid kn_48)) (fun kn_49 => ?_)))))))))))))))
    refine hv_ (p := c_24 41 21 = n1) ((hid kn_49)) (fun h_50 => (hv_ (p := Hid (c_3 P 2 = n2)) ((hF_5 P 2 (fun h => absurd h.1 (np0 hP rfl))).trans (hn2)) (fun kn_51 => (hv_ (p := Hid (c_24 P 2 = n2)) ((hF_26 P 2 (qn_753ab1e1a hP)).trans (hid kn_51)) (fun kn_52 => (hv_ (p := c_24 P 2 = n2) ((hid kn_52)) (fun h_53 => (hv_ (p := Hid (c_3 41 22 = n2)) ((hF_5 41 22 (fun h => absurd h.1 (nn rfl))).trans (hm2)) (fun kn_54 => (hv_ (p := Hid (c_24 41 22 = n2)) ((hF_26 41 22 (fun q => q.elim (fun h => absurd h.2 (ni rfl)) (fun h => absurd h (nn rfl)))).trans (hid kn_54)) (fun kn_55 => (hv_ (p := c_24 41 22 = n2) ((hid kn_55)) (fun h_56 => (hv_ (p := Hid (c_3 P 3 = n3)) ((hF_5 P 3 (fun h => absurd h.1 (np0 hP rfl))).trans (hn3)) (fun kn_57 => ?_)))))))))))))))
    refine hv_ (p := Hid (c_24 P 3 = n3)) ((hF_26 P 3 (qn_753ab1e1a hP)).trans (hid kn_57)) (fun kn_58 => (hv_ (p := c_24 P 3 = n3) ((hid kn_58)) (fun h_59 => (hv_ (p := Hid (c_3 41 23 = n3)) ((hF_5 41 23 (fun h => absurd h.1 (nn rfl))).trans (hm3)) (fun kn_60 => (hv_ (p := Hid (c_24 41 23 = n3)) ((hF_26 41 23 (fun q => q.elim (fun h => absurd h.2 (ni rfl)) (fun h => absurd h (nn rfl)))).trans (hid kn_60)) (fun kn_61 => (hv_ (p := c_24 41 23 = n3) ((hid kn_61)) (fun h_62 => (hv_ (p := Hid (c_3 0 12 = c 0 12)) (hF_5 0 12 (fun h => absurd h.2 (ni rfl))) (fun kn_63 => (hv_ (p := Hid (c_24 0 12 = c 0 12)) ((hF_26 0 12 (fun q => q.elim (fun h => absurd h.1 (nn rfl)) (fun h => absurd h (nn rfl)))).trans (hid kn_63)) (fun kn_64 => (hv_ (p := c_24 0 12 = c 0 12) ((hid kn_64)) (fun h_65 => ?_)))))))))))))))
    refine hv_ (p := c_24 42 0 = c_24 42 0) (rfl) (fun h_66 => (hv_ (p := Hid (c_24 0 13 = c_3 0 13)) (hF_26 0 13 (fun q => q.elim (fun h => absurd h.1 (nn rfl)) (fun h => absurd h (nn rfl)))) (fun kn_67 => (hv_ (p := c_24 0 13 = c_3 0 13) ((hid kn_67)) (fun h_68 => (hv_ (p := c_24 42 1 = c_24 42 1) (rfl) (fun h_69 => ?_)))))))
    exact K P Q c_24 1 (of_decide_eq_true rfl) hI_25 ⟨by omega, ub_fr hU (fun j => (hF_26 2 j (fun q => q.elim (fun h => absurd h.1 (nn rfl)) (fun h => absurd h (nn rfl)))).trans (hF_5 2 j (fun h => absurd h.1 (nn rfl)))) (fun j => (hF_26 43 j (fun q => q.elim (fun h => absurd h.1 (nn rfl)) (fun h => absurd h (nn rfl)))).trans (hF_5 43 j (fun h => absurd h.1 (nn rfl)))), ⟨by omega, by omega, by omega, by omega⟩, ⟨by omega, by omega⟩⟩
  refine bk_inl (hv_ (ir_0_12 hI_10) (fun h_70 => (hv_ (ir_0_13 hI_10) (fun h_71 => (v_i2l c_291_8 (by omega) (v_ls c_291_9 rfl (of_decide_eq_true rfl) (of_decide_eq_true rfl) (of_decide_eq_true rfl) (q_goto (t := 17) c_291_10 rfl (q_iconst c_291_17 (q_iret c_291_18 rfl ?_)))))))))
  refine bk_inl (q_istore c_296_1482 (Nat.le_of_ble_eq_true rfl) (q_aload_n c_296_1484 rfl (q_aload_n c_296_1485 rfl (q_iload c_296_1486 rfl (q_iconst c_296_1488 (v_iadd (v := (i0 : Int) + 1) c_296_1489 rfl (v_scr (j := i0 + 1) c_296_1490 (by omega) (by omega) hL hx1 ?_)))))))
  refine q_aload_n c_296_1491 rfl (q_iload c_296_1492 rfl (q_iconst c_296_1494 (v_iadd (v := (i0 : Int) + 2) c_296_1495 rfl (v_scr (j := i0 + 2) c_296_1496 (by omega) (by omega) hL hx2 (hv_ (iw_lx (a := 67) (j := 0) (v := y_12) hI_10 (by omega)) (fun hI_72 => (hv_ (ir_42 hI 0) (fun h_73 => (hv_ (p := Hid (c_9 42 0 = c 42 0)) (hF_11 42 0 (fun h => absurd h.1 (nn rfl))) (fun kn_74 => ?_))))))))))
  refine hv_ (p := (up c_9 67 0 y_12) 42 0 = c 42 0) (((up_c (nn rfl)).trans (hid kn_74))) (fun h_75 => (hv_ (ir_42 hI 1) (fun h_76 => (hv_ (p := Hid (c_9 42 1 = c 42 1)) (hF_11 42 1 (fun h => absurd h.1 (nn rfl))) (fun kn_77 => (hv_ (p := (up c_9 67 0 y_12) 42 1 = c 42 1) (((up_c (nn rfl)).trans (hid kn_77))) (fun h_78 => (v_cv c_296_1497 km_9_238 rfl rfl (Nat.le_of_ble_eq_true rfl) ⟨⟨rfl, rfl⟩, Nat.le_of_ble_eq_true rfl, rfl⟩ (Nat.le_of_ble_eq_true rfl) (Nat.le_of_ble_eq_true rfl) (s_248S (a1 := x1) (a2 := x2) hI_72 (show (-2147483648) ≤ x1 ∧ x1 ≤ 2147483647 from ⟨by first | exact q_961b8f33d h_13 | omega, by first | exact q_2073c4b3f h_13 | omega⟩) (show (-2147483648) ≤ x2 ∧ x2 ≤ 2147483647 from ⟨by first | exact q_52d5fe304 h_13 | omega, by first | exact q_20b3653e7 h_13 | omega⟩) (fun c_79 y_82 hI_80 hF_81 hy_82 h_83 => (bk_inl (hv_ (ir_42 hI_80 0) (fun h_84 => (hv_ (ir_42 hI_80 1) (fun h_85 => ?_)))))))))))))))
  refine q_istore c_296_1500 (Nat.le_of_ble_eq_true rfl) (q_goto (t := 1816) c_296_1502 rfl (Wp_ls [(4, vi (i0 : Int)), (3, .ref 67), (2, .ref 41), (1, .ref 0), (0, .ref a_SC)] (lsub_cons rfl (lsub_cons rfl (lsub_cons rfl (lsub_cons rfl (lsub_cons rfl lsub_nil))))) (hv_ (ir_1_3 hI) (fun h_86 => (hv_ (p := Hid (c_9 1 3 = c 1 3)) (hF_11 1 3 (fun h => absurd h.1 (nn rfl))) (fun kn_87 => (hv_ (p := Hid (c_79 1 3 = c 1 3)) ((hF_81 1 3 (fun q => q.elim (fun h => absurd h.1 (nn rfl)) (fun h => absurd h (nn rfl)))).trans ((up_c (nn rfl)).trans (hid kn_87))) (fun kn_88 => (hv_ (p := c_79 1 3 = c 1 3) ((hid kn_88)) (fun h_89 => (hv_ (ir_41_2 hI) (fun h_90 => ?_))))))))))))
  refine hv_ (p := Hid (c_9 41 2 = c 41 2)) (hF_11 41 2 (fun h => absurd h.1 (nn rfl))) (fun kn_91 => (hv_ (p := Hid (c_79 41 2 = c 41 2)) ((hF_81 41 2 (fun q => q.elim (fun h => absurd h.2 (ni rfl)) (fun h => absurd h (nn rfl)))).trans ((up_c (nn rfl)).trans (hid kn_91))) (fun kn_92 => (hv_ (p := c_79 41 2 = c 41 2) ((hid kn_92)) (fun h_93 => (hv_ (p := Hid (c_9 P 0 = n0)) ((hF_11 P 0 (fun h => absurd h.1 (np0 hP rfl))).trans (hn0)) (fun kn_94 => (hv_ (p := Hid (c_79 P 0 = n0)) ((hF_81 P 0 (qn_753ab1e1a hP)).trans ((up_c (np0 hP rfl)).trans (hid kn_94))) (fun kn_95 => (hv_ (p := c_79 P 0 = n0) ((hid kn_95)) (fun h_96 => (hv_ (p := Hid (c_9 41 20 = n0)) ((hF_11 41 20 (fun h => absurd h.1 (nn rfl))).trans (hm0)) (fun kn_97 => (hv_ (p := Hid (c_79 41 20 = n0)) ((hF_81 41 20 (fun q => q.elim (fun h => absurd h.2 (ni rfl)) (fun h => absurd h (nn rfl)))).trans ((up_c (nn rfl)).trans (hid kn_97))) (fun kn_98 => ?_)))))))))))))))
  refine hv_ (p := c_79 41 20 = n0) ((hid kn_98)) (fun h_99 => (hv_ (p := Hid (c_9 P 1 = n1)) ((hF_11 P 1 (fun h => absurd h.1 (np0 hP rfl))).trans (hn1)) (fun kn_100 => (hv_ (p := Hid (c_79 P 1 = n1)) ((hF_81 P 1 (qn_753ab1e1a hP)).trans ((up_c (np0 hP rfl)).trans (hid kn_100))) (fun kn_101 => (hv_ (p := c_79 P 1 = n1) ((hid kn_101)) (fun h_102 => (hv_ (p := Hid (c_9 41 21 = n1)) ((hF_11 41 21 (fun h => absurd h.1 (nn rfl))).trans (hm1)) (fun kn_103 => (hv_ (p := Hid (c_79 41 21 = n1)) ((hF_81 41 21 (fun q => q.elim (fun h => absurd h.2 (ni rfl)) (fun h => absurd h (nn rfl)))).trans ((up_c (nn rfl)).trans (hid kn_103))) (fun kn_104 => (hv_ (p := c_79 41 21 = n1) ((hid kn_104)) (fun h_105 => (hv_ (p := Hid (c_9 P 2 = n2)) ((hF_11 P 2 (fun h => absurd h.1 (np0 hP rfl))).trans (hn2)) (fun kn_106 => ?_)))))))))))))))
  refine hv_ (p := Hid (c_79 P 2 = n2)) ((hF_81 P 2 (qn_753ab1e1a hP)).trans ((up_c (np0 hP rfl)).trans (hid kn_106))) (fun kn_107 => (hv_ (p := c_79 P 2 = n2) ((hid kn_107)) (fun h_108 => (hv_ (p := Hid (c_9 41 22 = n2)) ((hF_11 41 22 (fun h => absurd h.1 (nn rfl))).trans (hm2)) (fun kn_109 => (hv_ (p := Hid (c_79 41 22 = n2)) ((hF_81 41 22 (fun q => q.elim (fun h => absurd h.2 (ni rfl)) (fun h => absurd h (nn rfl)))).trans ((up_c (nn rfl)).trans (hid kn_109))) (fun kn_110 => (hv_ (p := c_79 41 22 = n2) ((hid kn_110)) (fun h_111 => (hv_ (p := Hid (c_9 P 3 = n3)) ((hF_11 P 3 (fun h => absurd h.1 (np0 hP rfl))).trans (hn3)) (fun kn_112 => (hv_ (p := Hid (c_79 P 3 = n3)) ((hF_81 P 3 (qn_753ab1e1a hP)).trans ((up_c (np0 hP rfl)).trans (hid kn_112))) (fun kn_113 => (hv_ (p := c_79 P 3 = n3) ((hid kn_113)) (fun h_114 => ?_)))))))))))))))
  refine hv_ (p := Hid (c_9 41 23 = n3)) ((hF_11 41 23 (fun h => absurd h.1 (nn rfl))).trans (hm3)) (fun kn_115 => (hv_ (p := Hid (c_79 41 23 = n3)) ((hF_81 41 23 (fun q => q.elim (fun h => absurd h.2 (ni rfl)) (fun h => absurd h (nn rfl)))).trans ((up_c (nn rfl)).trans (hid kn_115))) (fun kn_116 => (hv_ (p := c_79 41 23 = n3) ((hid kn_116)) (fun h_117 => (hv_ (p := Hid (c_9 0 12 = c 0 12)) (hF_11 0 12 (fun h => absurd h.2 (ni rfl))) (fun kn_118 => (hv_ (p := Hid (c_79 0 12 = c 0 12)) ((hF_81 0 12 (fun q => q.elim (fun h => absurd h.1 (nn rfl)) (fun h => absurd h (nn rfl)))).trans ((up_c (nn rfl)).trans (hid kn_118))) (fun kn_119 => (hv_ (p := c_79 0 12 = c 0 12) ((hid kn_119)) (fun h_120 => (hv_ (p := c_79 42 0 = c_79 42 0) (rfl) (fun h_121 => (hv_ (p := Hid (c_79 0 13 = c_9 0 13)) ((hF_81 0 13 (fun q => q.elim (fun h => absurd h.1 (nn rfl)) (fun h => absurd h (nn rfl)))).trans (up_c (nn rfl))) (fun kn_122 => ?_)))))))))))))))
  refine hv_ (p := c_79 0 13 = c_9 0 13) ((hid kn_122)) (fun h_123 => (hv_ (p := c_79 42 1 = c_79 42 1) (rfl) (fun h_124 => ?_)))
  exact K P Q c_79 0 (of_decide_eq_true rfl) hI_80 ⟨by omega, ub_fr hU (fun j => (hF_81 2 j (fun q => q.elim (fun h => absurd h.1 (nn rfl)) (fun h => absurd h (nn rfl)))).trans ((up_c (nn rfl)).trans (hF_11 2 j (fun h => absurd h.1 (nn rfl))))) (fun j => (hF_81 43 j (fun q => q.elim (fun h => absurd h.1 (nn rfl)) (fun h => absurd h (nn rfl)))).trans ((up_c (nn rfl)).trans (hF_11 43 j (fun h => absurd h.1 (nn rfl))))), ⟨by omega, by omega, by omega, by omega⟩, ⟨by omega, by omega⟩⟩

set_option maxRecDepth 100000 in
set_option maxHeartbeats 4000000 in
theorem o_34 {xs : Nat → Int32} {L i0 d nc ns P Q : Nat} {c : ME} {Z : AR → Prop} (hi : i0 + 8 ≤ L) (hL : L ≤ 100000) (hI : Iv 0 (-1) P Q c) (hR : Rq P c) (K : ∀ (P2 Q2 : Nat) (c2 : ME) (e : Nat), e ≤ 1 → Iv 0 (-1) P2 Q2 c2 → (Rq P2 c2) → Wp (a_scr L xs) (d + 90) 296 1816 [(4, vi (i0 : Int)), (3, .ref 67), (2, .ref 41), (1, .ref 0), (0, .ref a_SC)] [] (Wd P2 Q2 P2 P2 c2) (nc + e) (ns + 6 * e) Z) : Wp (a_scr L xs) (d + 90) 296 1505 [(4, vi (i0 : Int)), (3, .ref 67), (2, .ref 41), (1, .ref 0), (0, .ref a_SC)] [] (Wd P Q P P c) nc ns Z := by
  obtain ⟨x1, hx1⟩ : ∃ z, (xs (i0 + 1)).toInt = z := ⟨_, rfl⟩
  refine hv_ (c_rng (xs (i0 + 1))) (fun x1r => ?_)
  rw [hx1] at x1r
  obtain ⟨x2, hx2⟩ : ∃ z, (xs (i0 + 2)).toInt = z := ⟨_, rfl⟩
  refine hv_ (c_rng (xs (i0 + 2))) (fun x2r => ?_)
  rw [hx2] at x2r
  obtain ⟨x3, hx3⟩ : ∃ z, (xs (i0 + 3)).toInt = z := ⟨_, rfl⟩
  refine hv_ (c_rng (xs (i0 + 3))) (fun x3r => ?_)
  rw [hx3] at x3r
  obtain ⟨x4, hx4⟩ : ∃ z, (xs (i0 + 4)).toInt = z := ⟨_, rfl⟩
  refine hv_ (c_rng (xs (i0 + 4))) (fun x4r => ?_)
  rw [hx4] at x4r
  obtain ⟨x5, hx5⟩ : ∃ z, (xs (i0 + 5)).toInt = z := ⟨_, rfl⟩
  refine hv_ (c_rng (xs (i0 + 5))) (fun x5r => ?_)
  rw [hx5] at x5r
  obtain ⟨x6, hx6⟩ : ∃ z, (xs (i0 + 6)).toInt = z := ⟨_, rfl⟩
  refine hv_ (c_rng (xs (i0 + 6))) (fun x6r => ?_)
  rw [hx6] at x6r
  obtain ⟨x7, hx7⟩ : ∃ z, (xs (i0 + 7)).toInt = z := ⟨_, rfl⟩
  refine hv_ (c_rng (xs (i0 + 7))) (fun x7r => ?_)
  rw [hx7] at x7r
  refine hv_ (iv_P hI) (fun hP => (hv_ (iv_Q hI) (fun hQ => (hv_ (rl_t hR) (fun hT => (hv_ (rl_u hR) (fun hU => ?_)))))))
  obtain ⟨n0, hn0⟩ : ∃ z, c P 0 = z := ⟨_, rfl⟩
  refine hv_ (p := c 41 20 = n0) ((rl_nums hR).1.symm.trans hn0) (fun hm0 => (hv_ (ir_p0_0 hI hP) (fun hr0 => ?_)))
  rw [hn0] at hr0
  obtain ⟨n1, hn1⟩ : ∃ z, c P 1 = z := ⟨_, rfl⟩
  refine hv_ (p := c 41 21 = n1) ((rl_nums hR).2.1.symm.trans hn1) (fun hm1 => (hv_ (ir_p0_1 hI hP) (fun hr1 => ?_)))
  rw [hn1] at hr1
  obtain ⟨n2, hn2⟩ : ∃ z, c P 2 = z := ⟨_, rfl⟩
  refine hv_ (p := c 41 22 = n2) ((rl_nums hR).2.2.1.symm.trans hn2) (fun hm2 => (hv_ (ir_p0_2 hI hP) (fun hr2 => ?_)))
  rw [hn2] at hr2
  obtain ⟨n3, hn3⟩ : ∃ z, c P 3 = z := ⟨_, rfl⟩
  refine hv_ (p := c 41 23 = n3) ((rl_nums hR).2.2.2.symm.trans hn3) (fun hm3 => (hv_ (ir_p0_3 hI hP) (fun hr3 => ?_)))
  rw [hn3] at hr3
  refine hv_ (rl_cnt2 hR) (fun hNcnt2 => (hv_ (rl_cnt2 hR) (fun hNcnt2 => (q_aload_n c_296_1505 rfl (v_cv c_296_1506 km_9_239 rfl rfl (Nat.le_of_ble_eq_true rfl) ⟨⟨rfl, rfl⟩, Nat.le_of_ble_eq_true rfl, rfl⟩ (Nat.le_of_ble_eq_true rfl) (Nat.le_of_ble_eq_true rfl) (s_107 hI (fun c_1 y_4 hI_2 hF_3 hy_4 => (bk_inl (q_pop c_296_1509 rfl (q_aload_n c_296_1510 rfl (v_cv c_296_1511 km_9_242 rfl rfl (Nat.le_of_ble_eq_true rfl) ⟨⟨rfl, rfl⟩, Nat.le_of_ble_eq_true rfl, rfl⟩ (Nat.le_of_ble_eq_true rfl) (Nat.le_of_ble_eq_true rfl) (s_249 hI_2 (fun c_5 y_8 hI_6 hF_7 hy_8 => ?_)))))))))))))
  refine bk_inl (q_pop c_296_1514 rfl (q_goto (t := 1816) c_296_1515 rfl (Wp_ls [(4, vi (i0 : Int)), (3, .ref 67), (2, .ref 41), (1, .ref 0), (0, .ref a_SC)] (lsub_cons rfl (lsub_cons rfl (lsub_cons rfl (lsub_cons rfl (lsub_cons rfl lsub_nil))))) (hv_ (ir_1_3 hI) (fun h_9 => (hv_ (p := Hid (c_1 1 3 = c 1 3)) (hF_3 1 3 (qn_db0fa2040 hP)) (fun kn_10 => (hv_ (p := Hid (c_5 1 3 = c 1 3)) ((hF_7 1 3 qn_965711e77).trans (hid kn_10)) (fun kn_11 => (hv_ (p := c_5 1 3 = c 1 3) ((hid kn_11)) (fun h_12 => ?_)))))))))))
  refine hv_ (ir_41_2 hI) (fun h_13 => (hv_ (p := Hid (c_1 41 2 = c 41 2)) (hF_3 41 2 (qn_4d24c7afb hP)) (fun kn_14 => (hv_ (p := Hid (c_5 41 2 = c 41 2)) ((hF_7 41 2 qn_dd6cb5371).trans (hid kn_14)) (fun kn_15 => (hv_ (p := c_5 41 2 = c 41 2) ((hid kn_15)) (fun h_16 => (hv_ (p := Hid (c_1 P 0 = n0)) ((hF_3 P 0 (fun q => q.elim (fun h => absurd h (p0p rfl)) (fun h => absurd h (p0p rfl)))).trans (hn0)) (fun kn_17 => (hv_ (p := Hid (c_5 P 0 = n0)) ((hF_7 P 0 (qn_82f5c699c hP)).trans (hid kn_17)) (fun kn_18 => (hv_ (p := c_5 P 0 = n0) ((hid kn_18)) (fun h_19 => (hv_ (p := Hid (c_1 41 20 = n0)) ((hF_3 41 20 (qn_4d24c7afb hP)).trans (hm0)) (fun kn_20 => ?_)))))))))))))))
  refine hv_ (p := Hid (c_5 41 20 = n0)) ((hF_7 41 20 qn_4a675523d).trans (hid kn_20)) (fun kn_21 => (hv_ (p := c_5 41 20 = n0) ((hid kn_21)) (fun h_22 => (hv_ (p := Hid (c_1 P 1 = n1)) ((hF_3 P 1 (fun q => q.elim (fun h => absurd h (p0p rfl)) (fun h => absurd h (p0p rfl)))).trans (hn1)) (fun kn_23 => (hv_ (p := Hid (c_5 P 1 = n1)) ((hF_7 P 1 (qn_82f5c699c hP)).trans (hid kn_23)) (fun kn_24 => (hv_ (p := c_5 P 1 = n1) ((hid kn_24)) (fun h_25 => (hv_ (p := Hid (c_1 41 21 = n1)) ((hF_3 41 21 (qn_4d24c7afb hP)).trans (hm1)) (fun kn_26 => (hv_ (p := Hid (c_5 41 21 = n1)) ((hF_7 41 21 qn_b8c7ae319).trans (hid kn_26)) (fun kn_27 => (hv_ (p := c_5 41 21 = n1) ((hid kn_27)) (fun h_28 => ?_)))))))))))))))
  refine hv_ (p := Hid (c_1 P 2 = n2)) ((hF_3 P 2 (fun q => q.elim (fun h => absurd h (p0p rfl)) (fun h => absurd h (p0p rfl)))).trans (hn2)) (fun kn_29 => (hv_ (p := Hid (c_5 P 2 = n2)) ((hF_7 P 2 (qn_82f5c699c hP)).trans (hid kn_29)) (fun kn_30 => (hv_ (p := c_5 P 2 = n2) ((hid kn_30)) (fun h_31 => (hv_ (p := Hid (c_1 41 22 = n2)) ((hF_3 41 22 (qn_4d24c7afb hP)).trans (hm2)) (fun kn_32 => (hv_ (p := Hid (c_5 41 22 = n2)) ((hF_7 41 22 qn_6845dc871).trans (hid kn_32)) (fun kn_33 => (hv_ (p := c_5 41 22 = n2) ((hid kn_33)) (fun h_34 => (hv_ (p := Hid (c_1 P 3 = n3)) ((hF_3 P 3 (fun q => q.elim (fun h => absurd h (p0p rfl)) (fun h => absurd h (p0p rfl)))).trans (hn3)) (fun kn_35 => (hv_ (p := Hid (c_5 P 3 = n3)) ((hF_7 P 3 (qn_82f5c699c hP)).trans (hid kn_35)) (fun kn_36 => ?_)))))))))))))))
  refine hv_ (p := c_5 P 3 = n3) ((hid kn_36)) (fun h_37 => (hv_ (p := Hid (c_1 41 23 = n3)) ((hF_3 41 23 (qn_4d24c7afb hP)).trans (hm3)) (fun kn_38 => (hv_ (p := Hid (c_5 41 23 = n3)) ((hF_7 41 23 qn_d7f907dd2).trans (hid kn_38)) (fun kn_39 => (hv_ (p := c_5 41 23 = n3) ((hid kn_39)) (fun h_40 => (hv_ (ir_0_12 hI) (fun h_41 => (hv_ (p := Hid (c_1 0 12 = c 0 12)) (hF_3 0 12 (qn_f7a516dfe hP)) (fun kn_42 => (hv_ (p := Hid (c_5 0 12 = c 0 12)) ((hF_7 0 12 qn_95bc67d80).trans (hid kn_42)) (fun kn_43 => (hv_ (p := c_5 0 12 = c 0 12) ((hid kn_43)) (fun h_44 => ?_)))))))))))))))
  refine hv_ (ir_42 hI 0) (fun h_45 => (hv_ (p := Hid (c_1 42 0 = c 42 0)) (hF_3 42 0 (qn_da4e0117f hP)) (fun kn_46 => (hv_ (p := Hid (c_5 42 0 = c 42 0)) ((hF_7 42 0 qn_ac3d572a5).trans (hid kn_46)) (fun kn_47 => (hv_ (p := c_5 42 0 = c 42 0) ((hid kn_47)) (fun h_48 => (hv_ (ir_0_13 hI) (fun h_49 => (hv_ (p := Hid (c_1 0 13 = c 0 13)) (hF_3 0 13 (qn_f7a516dfe hP)) (fun kn_50 => (hv_ (p := Hid (c_5 0 13 = c 0 13)) ((hF_7 0 13 qn_95bc67d80).trans (hid kn_50)) (fun kn_51 => (hv_ (p := c_5 0 13 = c 0 13) ((hid kn_51)) (fun h_52 => ?_)))))))))))))))
  refine hv_ (ir_42 hI 1) (fun h_53 => (hv_ (p := Hid (c_1 42 1 = c 42 1)) (hF_3 42 1 (qn_da4e0117f hP)) (fun kn_54 => (hv_ (p := Hid (c_5 42 1 = c 42 1)) ((hF_7 42 1 qn_ac3d572a5).trans (hid kn_54)) (fun kn_55 => (hv_ (p := c_5 42 1 = c 42 1) ((hid kn_55)) (fun h_56 => ?_)))))))
  exact K P Q c_5 0 (of_decide_eq_true rfl) hI_6 ⟨by omega, ub_fr hU (fun j => (hF_7 2 j qn_7bbf03f40).trans (hF_3 2 j (qn_389d7b966 hP))) (fun j => (hF_7 43 j qn_da8a66655).trans (hF_3 43 j (qn_afbd556c9 hP))), ⟨by omega, by omega, by omega, by omega⟩, ⟨by omega, by omega⟩⟩

set_option maxRecDepth 100000 in
set_option maxHeartbeats 4000000 in
theorem o_35 {xs : Nat → Int32} {L i0 d nc ns P Q : Nat} {c : ME} {Z : AR → Prop} (hi : i0 + 8 ≤ L) (hL : L ≤ 100000) (hI : Iv 0 (-1) P Q c) (hR : Rq P c) (K : ∀ (P2 Q2 : Nat) (c2 : ME) (e : Nat), e ≤ 1 → Iv 0 (-1) P2 Q2 c2 → (Rq P2 c2) → Wp (a_scr L xs) (d + 90) 296 1816 [(4, vi (i0 : Int)), (3, .ref 67), (2, .ref 41), (1, .ref 0), (0, .ref a_SC)] [] (Wd P2 Q2 P2 P2 c2) (nc + e) (ns + 6 * e) Z) : Wp (a_scr L xs) (d + 90) 296 1518 [(4, vi (i0 : Int)), (3, .ref 67), (2, .ref 41), (1, .ref 0), (0, .ref a_SC)] [] (Wd P Q P P c) nc ns Z := by
  obtain ⟨x1, hx1⟩ : ∃ z, (xs (i0 + 1)).toInt = z := ⟨_, rfl⟩
  refine hv_ (c_rng (xs (i0 + 1))) (fun x1r => ?_)
  rw [hx1] at x1r
  obtain ⟨x2, hx2⟩ : ∃ z, (xs (i0 + 2)).toInt = z := ⟨_, rfl⟩
  refine hv_ (c_rng (xs (i0 + 2))) (fun x2r => ?_)
  rw [hx2] at x2r
  obtain ⟨x3, hx3⟩ : ∃ z, (xs (i0 + 3)).toInt = z := ⟨_, rfl⟩
  refine hv_ (c_rng (xs (i0 + 3))) (fun x3r => ?_)
  rw [hx3] at x3r
  obtain ⟨x4, hx4⟩ : ∃ z, (xs (i0 + 4)).toInt = z := ⟨_, rfl⟩
  refine hv_ (c_rng (xs (i0 + 4))) (fun x4r => ?_)
  rw [hx4] at x4r
  obtain ⟨x5, hx5⟩ : ∃ z, (xs (i0 + 5)).toInt = z := ⟨_, rfl⟩
  refine hv_ (c_rng (xs (i0 + 5))) (fun x5r => ?_)
  rw [hx5] at x5r
  obtain ⟨x6, hx6⟩ : ∃ z, (xs (i0 + 6)).toInt = z := ⟨_, rfl⟩
  refine hv_ (c_rng (xs (i0 + 6))) (fun x6r => ?_)
  rw [hx6] at x6r
  obtain ⟨x7, hx7⟩ : ∃ z, (xs (i0 + 7)).toInt = z := ⟨_, rfl⟩
  refine hv_ (c_rng (xs (i0 + 7))) (fun x7r => ?_)
  rw [hx7] at x7r
  refine hv_ (iv_P hI) (fun hP => (hv_ (iv_Q hI) (fun hQ => (hv_ (rl_t hR) (fun hT => (hv_ (rl_u hR) (fun hU => ?_)))))))
  obtain ⟨n0, hn0⟩ : ∃ z, c P 0 = z := ⟨_, rfl⟩
  refine hv_ (p := c 41 20 = n0) ((rl_nums hR).1.symm.trans hn0) (fun hm0 => (hv_ (ir_p0_0 hI hP) (fun hr0 => ?_)))
  rw [hn0] at hr0
  obtain ⟨n1, hn1⟩ : ∃ z, c P 1 = z := ⟨_, rfl⟩
  refine hv_ (p := c 41 21 = n1) ((rl_nums hR).2.1.symm.trans hn1) (fun hm1 => (hv_ (ir_p0_1 hI hP) (fun hr1 => ?_)))
  rw [hn1] at hr1
  obtain ⟨n2, hn2⟩ : ∃ z, c P 2 = z := ⟨_, rfl⟩
  refine hv_ (p := c 41 22 = n2) ((rl_nums hR).2.2.1.symm.trans hn2) (fun hm2 => (hv_ (ir_p0_2 hI hP) (fun hr2 => ?_)))
  rw [hn2] at hr2
  obtain ⟨n3, hn3⟩ : ∃ z, c P 3 = z := ⟨_, rfl⟩
  refine hv_ (p := c 41 23 = n3) ((rl_nums hR).2.2.2.symm.trans hn3) (fun hm3 => (hv_ (ir_p0_3 hI hP) (fun hr3 => ?_)))
  rw [hn3] at hr3
  refine hv_ (rl_cnt2 hR) (fun hNcnt2 => (hv_ (rl_cnt2 hR) (fun hNcnt2 => (q_aload_n c_296_1518 rfl (q_aload_n c_296_1519 rfl (q_iload c_296_1520 rfl (q_iconst c_296_1522 (v_iadd (v := (i0 : Int) + 1) c_296_1523 rfl (v_scr (j := i0 + 1) c_296_1524 (by omega) (by omega) hL hx1 ?_)))))))))
  refine q_aload_n c_296_1525 rfl (q_call c_296_1526 rfl rfl rfl (q_aload_n c_292_0 rfl (q_iconst c_292_1 (q_aload_n c_292_2 rfl (q_iload_n c_292_3 rfl (hv_ (p := c P 0 = n0) ((hn0)) (fun h_1 => (hv_ (ir_0_12 hI) (fun h_2 => ?_)))))))))
  refine hv_ (ir_0_13 hI) (fun h_3 => ?_)
  refine v_cv c_292_4 km_9_105 rfl rfl (Nat.le_of_ble_eq_true rfl) ⟨⟨rfl, rfl⟩, Nat.le_of_ble_eq_true rfl, rfl⟩ (Nat.le_of_ble_eq_true rfl) (Nat.le_of_ble_eq_true rfl) (s_102S (a1 := x1) hI (show (-2147483648) ≤ x1 ∧ x1 ≤ 2147483647 from ⟨by omega, by omega⟩) (fun c_4 hI_5 hF_6 h_7 h_8 h_9 => ?_) (fun c_10 y_13 hI_11 hF_12 hy_13 h_14 h_15 h_16 => ?_))
  · skip
    refine hv_ (ir_0_12 hI_5) (fun h_17 => (hv_ (ir_0_13 hI_5) (fun h_18 => (bk_thr (z := Int32.ofInt 1) rfl ⟨_, _, rfl⟩ rfl (bk_inl (q_istore c_296_1529 (Nat.le_of_ble_eq_true rfl) (q_aload_n c_296_1531 rfl (q_aload_n c_296_1532 rfl (q_iload c_296_1533 rfl ?_)))))))))
    refine q_iconst c_296_1535 (v_iadd (v := (i0 : Int) + 1) c_296_1536 rfl (v_scr (j := i0 + 1) c_296_1537 (by omega) (by omega) hL hx1 (hv_ (p := Hid (c_4 41 20 = n0)) ((hF_6 41 20 (fun h => absurd h.1 (nn rfl))).trans (hm0)) (fun kn_19 => (hv_ (p := c_4 41 20 = n0) ((hid kn_19)) (fun h_20 => (hv_ (ir_42 hI 0) (fun h_21 => (hv_ (p := Hid (c_4 42 0 = c 42 0)) (hF_6 42 0 (fun h => absurd h.1 (nn rfl))) (fun kn_22 => (hv_ (p := c_4 42 0 = c 42 0) ((hid kn_22)) (fun h_23 => ?_))))))))))))
    refine hv_ (ir_42 hI 1) (fun h_24 => (hv_ (p := Hid (c_4 42 1 = c 42 1)) (hF_6 42 1 (fun h => absurd h.1 (nn rfl))) (fun kn_25 => (hv_ (p := c_4 42 1 = c 42 1) ((hid kn_25)) (fun h_26 => (v_cv c_296_1538 km_9_245 rfl rfl (Nat.le_of_ble_eq_true rfl) ⟨⟨rfl, rfl⟩, Nat.le_of_ble_eq_true rfl, rfl⟩ (Nat.le_of_ble_eq_true rfl) (Nat.le_of_ble_eq_true rfl) (s_250S (a1 := x1) hI_5 (show (-2147483648) ≤ x1 ∧ x1 ≤ 2147483647 from ⟨by first | (clear hT hNcnt2 h_2 h_3 h_17 h_18; omega) | omega, by first | (clear hT hNcnt2 h_2 h_3 h_17 h_18; omega) | omega⟩) (fun c_27 y_30 hI_28 hF_29 hy_30 h_31 => (bk_inl (hv_ (ir_42 hI_28 0) (fun h_32 => (hv_ (ir_42 hI_28 1) (fun h_33 => (q_istore c_296_1541 (Nat.le_of_ble_eq_true rfl) ?_))))))))))))))
    refine q_goto (t := 1816) c_296_1543 rfl (Wp_ls [(4, vi (i0 : Int)), (3, .ref 67), (2, .ref 41), (1, .ref 0), (0, .ref a_SC)] (lsub_cons rfl (lsub_cons rfl (lsub_cons rfl (lsub_cons rfl (lsub_cons rfl lsub_nil))))) (hv_ (ir_1_3 hI) (fun h_34 => (hv_ (p := Hid (c_4 1 3 = c 1 3)) (hF_6 1 3 (fun h => absurd h.1 (nn rfl))) (fun kn_35 => (hv_ (p := Hid (c_27 1 3 = c 1 3)) ((hF_29 1 3 qn_39cd18c3e).trans (hid kn_35)) (fun kn_36 => (hv_ (p := c_27 1 3 = c 1 3) ((hid kn_36)) (fun h_37 => (hv_ (ir_41_2 hI) (fun h_38 => (hv_ (p := Hid (c_4 41 2 = c 41 2)) (hF_6 41 2 (fun h => absurd h.1 (nn rfl))) (fun kn_39 => ?_)))))))))))))
    refine hv_ (p := Hid (c_27 41 2 = c 41 2)) ((hF_29 41 2 qn_53bdb2099).trans (hid kn_39)) (fun kn_40 => (hv_ (p := c_27 41 2 = c 41 2) ((hid kn_40)) (fun h_41 => (hv_ (p := Hid (c_4 P 0 = n0)) ((hF_6 P 0 (fun h => absurd h.1 (np0 hP rfl))).trans (hn0)) (fun kn_42 => (hv_ (p := Hid (c_27 P 0 = n0)) ((hF_29 P 0 (qn_857752076 hP)).trans (hid kn_42)) (fun kn_43 => (hv_ (p := c_27 P 0 = n0) ((hid kn_43)) (fun h_44 => (hv_ (p := Hid (c_27 41 20 = n0)) ((hF_29 41 20 qn_110b29ed6).trans (hid kn_19)) (fun kn_45 => (hv_ (p := c_27 41 20 = n0) ((hid kn_45)) (fun h_46 => (hv_ (p := Hid (c_4 P 1 = n1)) ((hF_6 P 1 (fun h => absurd h.1 (np0 hP rfl))).trans (hn1)) (fun kn_47 => ?_)))))))))))))))
    refine hv_ (p := Hid (c_27 P 1 = n1)) ((hF_29 P 1 (qn_857752076 hP)).trans (hid kn_47)) (fun kn_48 => (hv_ (p := c_27 P 1 = n1) ((hid kn_48)) (fun h_49 => (hv_ (p := Hid (c_4 41 21 = n1)) ((hF_6 41 21 (fun h => absurd h.1 (nn rfl))).trans (hm1)) (fun kn_50 => (hv_ (p := Hid (c_27 41 21 = n1)) ((hF_29 41 21 qn_561064c41).trans (hid kn_50)) (fun kn_51 => (hv_ (p := c_27 41 21 = n1) ((hid kn_51)) (fun h_52 => (hv_ (p := Hid (c_4 P 2 = n2)) ((hF_6 P 2 (fun h => absurd h.1 (np0 hP rfl))).trans (hn2)) (fun kn_53 => (hv_ (p := Hid (c_27 P 2 = n2)) ((hF_29 P 2 (qn_857752076 hP)).trans (hid kn_53)) (fun kn_54 => (hv_ (p := c_27 P 2 = n2) ((hid kn_54)) (fun h_55 => ?_)))))))))))))))
    refine hv_ (p := Hid (c_4 41 22 = n2)) ((hF_6 41 22 (fun h => absurd h.1 (nn rfl))).trans (hm2)) (fun kn_56 => (hv_ (p := Hid (c_27 41 22 = n2)) ((hF_29 41 22 qn_1a460b46b).trans (hid kn_56)) (fun kn_57 => (hv_ (p := c_27 41 22 = n2) ((hid kn_57)) (fun h_58 => (hv_ (p := Hid (c_4 P 3 = n3)) ((hF_6 P 3 (fun h => absurd h.1 (np0 hP rfl))).trans (hn3)) (fun kn_59 => (hv_ (p := Hid (c_27 P 3 = n3)) ((hF_29 P 3 (qn_857752076 hP)).trans (hid kn_59)) (fun kn_60 => (hv_ (p := c_27 P 3 = n3) ((hid kn_60)) (fun h_61 => (hv_ (p := Hid (c_4 41 23 = n3)) ((hF_6 41 23 (fun h => absurd h.1 (nn rfl))).trans (hm3)) (fun kn_62 => (hv_ (p := Hid (c_27 41 23 = n3)) ((hF_29 41 23 qn_b79f282cd).trans (hid kn_62)) (fun kn_63 => ?_)))))))))))))))
    refine hv_ (p := c_27 41 23 = n3) ((hid kn_63)) (fun h_64 => (hv_ (p := Hid (c_27 0 12 = c_4 0 12)) (hF_29 0 12 qn_666ded271) (fun kn_65 => (hv_ (p := c_27 0 12 = c_4 0 12) ((hid kn_65)) (fun h_66 => (hv_ (p := c_27 42 0 = c_27 42 0) (rfl) (fun h_67 => (hv_ (p := Hid (c_4 0 13 = c 0 13)) (hF_6 0 13 (fun h => absurd h.2 (ni rfl))) (fun kn_68 => (hv_ (p := Hid (c_27 0 13 = c 0 13)) ((hF_29 0 13 qn_666ded271).trans (hid kn_68)) (fun kn_69 => (hv_ (p := c_27 0 13 = c 0 13) ((hid kn_69)) (fun h_70 => (hv_ (p := c_27 42 1 = c_27 42 1) (rfl) (fun h_71 => ?_)))))))))))))))
    exact K P Q c_27 1 (of_decide_eq_true rfl) hI_28 ⟨by omega, ub_fr hU (fun j => (hF_29 2 j qn_2ad67e194).trans (hF_6 2 j (fun h => absurd h.1 (nn rfl)))) (fun j => (hF_29 43 j qn_1520ff5e3).trans (hF_6 43 j (fun h => absurd h.1 (nn rfl)))), ⟨by omega, by omega, by omega, by omega⟩, ⟨by omega, by omega⟩⟩
  refine bk_inl (hv_ (ir_0_12 hI_11) (fun h_72 => (hv_ (ir_0_13 hI_11) (fun h_73 => (v_i2l c_292_7 (by omega) (v_ls c_292_8 rfl (of_decide_eq_true rfl) (of_decide_eq_true rfl) (of_decide_eq_true rfl) (q_goto (t := 15) c_292_9 rfl (q_iconst c_292_15 (q_iret c_292_16 rfl ?_)))))))))
  refine bk_inl (q_istore c_296_1529 (Nat.le_of_ble_eq_true rfl) (q_aload_n c_296_1531 rfl (q_aload_n c_296_1532 rfl (q_iload c_296_1533 rfl (q_iconst c_296_1535 (v_iadd (v := (i0 : Int) + 1) c_296_1536 rfl (v_scr (j := i0 + 1) c_296_1537 (by omega) (by omega) hL hx1 ?_)))))))
  refine hv_ (iw_lx (a := 67) (j := 0) (v := y_13) hI_11 (by omega)) (fun hI_74 => (hv_ (p := Hid (c_10 41 20 = n0)) ((hF_12 41 20 (fun h => absurd h.1 (nn rfl))).trans (hm0)) (fun kn_75 => (hv_ (p := (up c_10 67 0 y_13) 41 20 = n0) (((up_c (nn rfl)).trans (hid kn_75))) (fun h_76 => (hv_ (ir_42 hI 0) (fun h_77 => (hv_ (p := Hid (c_10 42 0 = c 42 0)) (hF_12 42 0 (fun h => absurd h.1 (nn rfl))) (fun kn_78 => (hv_ (p := (up c_10 67 0 y_13) 42 0 = c 42 0) (((up_c (nn rfl)).trans (hid kn_78))) (fun h_79 => (hv_ (ir_42 hI 1) (fun h_80 => (hv_ (p := Hid (c_10 42 1 = c 42 1)) (hF_12 42 1 (fun h => absurd h.1 (nn rfl))) (fun kn_81 => ?_)))))))))))))))
  refine hv_ (p := (up c_10 67 0 y_13) 42 1 = c 42 1) (((up_c (nn rfl)).trans (hid kn_81))) (fun h_82 => (v_cv c_296_1538 km_9_245 rfl rfl (Nat.le_of_ble_eq_true rfl) ⟨⟨rfl, rfl⟩, Nat.le_of_ble_eq_true rfl, rfl⟩ (Nat.le_of_ble_eq_true rfl) (Nat.le_of_ble_eq_true rfl) (s_250S (a1 := x1) hI_74 (show (-2147483648) ≤ x1 ∧ x1 ≤ 2147483647 from ⟨by first | exact q_7f52907d5 h_14 h_1 | omega, by omega⟩) (fun c_83 y_86 hI_84 hF_85 hy_86 h_87 => (bk_inl (hv_ (ir_42 hI_84 0) (fun h_88 => (hv_ (ir_42 hI_84 1) (fun h_89 => (q_istore c_296_1541 (Nat.le_of_ble_eq_true rfl) (q_goto (t := 1816) c_296_1543 rfl (Wp_ls [(4, vi (i0 : Int)), (3, .ref 67), (2, .ref 41), (1, .ref 0), (0, .ref a_SC)] (lsub_cons rfl (lsub_cons rfl (lsub_cons rfl (lsub_cons rfl (lsub_cons rfl lsub_nil))))) ?_))))))))))))
  refine hv_ (ir_1_3 hI) (fun h_90 => (hv_ (p := Hid (c_10 1 3 = c 1 3)) (hF_12 1 3 (fun h => absurd h.1 (nn rfl))) (fun kn_91 => (hv_ (p := Hid (c_83 1 3 = c 1 3)) ((hF_85 1 3 qn_39cd18c3e).trans ((up_c (nn rfl)).trans (hid kn_91))) (fun kn_92 => (hv_ (p := c_83 1 3 = c 1 3) ((hid kn_92)) (fun h_93 => (hv_ (ir_41_2 hI) (fun h_94 => (hv_ (p := Hid (c_10 41 2 = c 41 2)) (hF_12 41 2 (fun h => absurd h.1 (nn rfl))) (fun kn_95 => (hv_ (p := Hid (c_83 41 2 = c 41 2)) ((hF_85 41 2 qn_53bdb2099).trans ((up_c (nn rfl)).trans (hid kn_95))) (fun kn_96 => (hv_ (p := c_83 41 2 = c 41 2) ((hid kn_96)) (fun h_97 => ?_)))))))))))))))
  refine hv_ (p := Hid (c_10 P 0 = n0)) ((hF_12 P 0 (fun h => absurd h.1 (np0 hP rfl))).trans (hn0)) (fun kn_98 => (hv_ (p := Hid (c_83 P 0 = n0)) ((hF_85 P 0 (qn_857752076 hP)).trans ((up_c (np0 hP rfl)).trans (hid kn_98))) (fun kn_99 => (hv_ (p := c_83 P 0 = n0) ((hid kn_99)) (fun h_100 => (hv_ (p := Hid (c_83 41 20 = n0)) ((hF_85 41 20 qn_110b29ed6).trans ((up_c (nn rfl)).trans (hid kn_75))) (fun kn_101 => (hv_ (p := c_83 41 20 = n0) ((hid kn_101)) (fun h_102 => (hv_ (p := Hid (c_10 P 1 = n1)) ((hF_12 P 1 (fun h => absurd h.1 (np0 hP rfl))).trans (hn1)) (fun kn_103 => (hv_ (p := Hid (c_83 P 1 = n1)) ((hF_85 P 1 (qn_857752076 hP)).trans ((up_c (np0 hP rfl)).trans (hid kn_103))) (fun kn_104 => (hv_ (p := c_83 P 1 = n1) ((hid kn_104)) (fun h_105 => ?_)))))))))))))))
  refine hv_ (p := Hid (c_10 41 21 = n1)) ((hF_12 41 21 (fun h => absurd h.1 (nn rfl))).trans (hm1)) (fun kn_106 => (hv_ (p := Hid (c_83 41 21 = n1)) ((hF_85 41 21 qn_561064c41).trans ((up_c (nn rfl)).trans (hid kn_106))) (fun kn_107 => (hv_ (p := c_83 41 21 = n1) ((hid kn_107)) (fun h_108 => (hv_ (p := Hid (c_10 P 2 = n2)) ((hF_12 P 2 (fun h => absurd h.1 (np0 hP rfl))).trans (hn2)) (fun kn_109 => (hv_ (p := Hid (c_83 P 2 = n2)) ((hF_85 P 2 (qn_857752076 hP)).trans ((up_c (np0 hP rfl)).trans (hid kn_109))) (fun kn_110 => (hv_ (p := c_83 P 2 = n2) ((hid kn_110)) (fun h_111 => (hv_ (p := Hid (c_10 41 22 = n2)) ((hF_12 41 22 (fun h => absurd h.1 (nn rfl))).trans (hm2)) (fun kn_112 => (hv_ (p := Hid (c_83 41 22 = n2)) ((hF_85 41 22 qn_1a460b46b).trans ((up_c (nn rfl)).trans (hid kn_112))) (fun kn_113 => ?_)))))))))))))))
  refine hv_ (p := c_83 41 22 = n2) ((hid kn_113)) (fun h_114 => (hv_ (p := Hid (c_10 P 3 = n3)) ((hF_12 P 3 (fun h => absurd h.1 (np0 hP rfl))).trans (hn3)) (fun kn_115 => (hv_ (p := Hid (c_83 P 3 = n3)) ((hF_85 P 3 (qn_857752076 hP)).trans ((up_c (np0 hP rfl)).trans (hid kn_115))) (fun kn_116 => (hv_ (p := c_83 P 3 = n3) ((hid kn_116)) (fun h_117 => (hv_ (p := Hid (c_10 41 23 = n3)) ((hF_12 41 23 (fun h => absurd h.1 (nn rfl))).trans (hm3)) (fun kn_118 => (hv_ (p := Hid (c_83 41 23 = n3)) ((hF_85 41 23 qn_b79f282cd).trans ((up_c (nn rfl)).trans (hid kn_118))) (fun kn_119 => (hv_ (p := c_83 41 23 = n3) ((hid kn_119)) (fun h_120 => (hv_ (p := Hid (c_83 0 12 = c_10 0 12)) ((hF_85 0 12 qn_666ded271).trans (up_c (nn rfl))) (fun kn_121 => ?_)))))))))))))))
  refine hv_ (p := c_83 0 12 = c_10 0 12) ((hid kn_121)) (fun h_122 => (hv_ (p := c_83 42 0 = c_83 42 0) (rfl) (fun h_123 => (hv_ (p := Hid (c_10 0 13 = c 0 13)) (hF_12 0 13 (fun h => absurd h.2 (ni rfl))) (fun kn_124 => (hv_ (p := Hid (c_83 0 13 = c 0 13)) ((hF_85 0 13 qn_666ded271).trans ((up_c (nn rfl)).trans (hid kn_124))) (fun kn_125 => (hv_ (p := c_83 0 13 = c 0 13) ((hid kn_125)) (fun h_126 => (hv_ (p := c_83 42 1 = c_83 42 1) (rfl) (fun h_127 => ?_)))))))))))
  exact K P Q c_83 0 (of_decide_eq_true rfl) hI_84 ⟨by omega, ub_fr hU (fun j => (hF_85 2 j qn_2ad67e194).trans ((up_c (nn rfl)).trans (hF_12 2 j (fun h => absurd h.1 (nn rfl))))) (fun j => (hF_85 43 j qn_1520ff5e3).trans ((up_c (nn rfl)).trans (hF_12 43 j (fun h => absurd h.1 (nn rfl))))), ⟨by omega, by omega, by omega, by omega⟩, ⟨by omega, by omega⟩⟩

set_option maxRecDepth 100000 in
set_option maxHeartbeats 4000000 in
theorem o_36 {xs : Nat → Int32} {L i0 d nc ns P Q : Nat} {c : ME} {Z : AR → Prop} (hi : i0 + 8 ≤ L) (hL : L ≤ 100000) (hI : Iv 0 (-1) P Q c) (hR : Rq P c) (K : ∀ (P2 Q2 : Nat) (c2 : ME) (e : Nat), e ≤ 1 → Iv 0 (-1) P2 Q2 c2 → (Rq P2 c2) → Wp (a_scr L xs) (d + 90) 296 1816 [(4, vi (i0 : Int)), (3, .ref 67), (2, .ref 41), (1, .ref 0), (0, .ref a_SC)] [] (Wd P2 Q2 P2 P2 c2) (nc + e) (ns + 6 * e) Z) : Wp (a_scr L xs) (d + 90) 296 1546 [(4, vi (i0 : Int)), (3, .ref 67), (2, .ref 41), (1, .ref 0), (0, .ref a_SC)] [] (Wd P Q P P c) nc ns Z := by
  obtain ⟨x1, hx1⟩ : ∃ z, (xs (i0 + 1)).toInt = z := ⟨_, rfl⟩
  refine hv_ (c_rng (xs (i0 + 1))) (fun x1r => ?_)
  rw [hx1] at x1r
  obtain ⟨x2, hx2⟩ : ∃ z, (xs (i0 + 2)).toInt = z := ⟨_, rfl⟩
  refine hv_ (c_rng (xs (i0 + 2))) (fun x2r => ?_)
  rw [hx2] at x2r
  obtain ⟨x3, hx3⟩ : ∃ z, (xs (i0 + 3)).toInt = z := ⟨_, rfl⟩
  refine hv_ (c_rng (xs (i0 + 3))) (fun x3r => ?_)
  rw [hx3] at x3r
  obtain ⟨x4, hx4⟩ : ∃ z, (xs (i0 + 4)).toInt = z := ⟨_, rfl⟩
  refine hv_ (c_rng (xs (i0 + 4))) (fun x4r => ?_)
  rw [hx4] at x4r
  obtain ⟨x5, hx5⟩ : ∃ z, (xs (i0 + 5)).toInt = z := ⟨_, rfl⟩
  refine hv_ (c_rng (xs (i0 + 5))) (fun x5r => ?_)
  rw [hx5] at x5r
  obtain ⟨x6, hx6⟩ : ∃ z, (xs (i0 + 6)).toInt = z := ⟨_, rfl⟩
  refine hv_ (c_rng (xs (i0 + 6))) (fun x6r => ?_)
  rw [hx6] at x6r
  obtain ⟨x7, hx7⟩ : ∃ z, (xs (i0 + 7)).toInt = z := ⟨_, rfl⟩
  refine hv_ (c_rng (xs (i0 + 7))) (fun x7r => ?_)
  rw [hx7] at x7r
  refine hv_ (iv_P hI) (fun hP => (hv_ (iv_Q hI) (fun hQ => (hv_ (rl_t hR) (fun hT => (hv_ (rl_u hR) (fun hU => ?_)))))))
  obtain ⟨n0, hn0⟩ : ∃ z, c P 0 = z := ⟨_, rfl⟩
  refine hv_ (p := c 41 20 = n0) ((rl_nums hR).1.symm.trans hn0) (fun hm0 => (hv_ (ir_p0_0 hI hP) (fun hr0 => ?_)))
  rw [hn0] at hr0
  obtain ⟨n1, hn1⟩ : ∃ z, c P 1 = z := ⟨_, rfl⟩
  refine hv_ (p := c 41 21 = n1) ((rl_nums hR).2.1.symm.trans hn1) (fun hm1 => (hv_ (ir_p0_1 hI hP) (fun hr1 => ?_)))
  rw [hn1] at hr1
  obtain ⟨n2, hn2⟩ : ∃ z, c P 2 = z := ⟨_, rfl⟩
  refine hv_ (p := c 41 22 = n2) ((rl_nums hR).2.2.1.symm.trans hn2) (fun hm2 => (hv_ (ir_p0_2 hI hP) (fun hr2 => ?_)))
  rw [hn2] at hr2
  obtain ⟨n3, hn3⟩ : ∃ z, c P 3 = z := ⟨_, rfl⟩
  refine hv_ (p := c 41 23 = n3) ((rl_nums hR).2.2.2.symm.trans hn3) (fun hm3 => (hv_ (ir_p0_3 hI hP) (fun hr3 => ?_)))
  rw [hn3] at hr3
  refine hv_ (rl_cnt2 hR) (fun hNcnt2 => (hv_ (rl_cnt2 hR) (fun hNcnt2 => (q_aload_n c_296_1546 rfl (q_aload_n c_296_1547 rfl (q_iload c_296_1548 rfl (q_iconst c_296_1550 (v_iadd (v := (i0 : Int) + 1) c_296_1551 rfl (v_scr (j := i0 + 1) c_296_1552 (by omega) (by omega) hL hx1 ?_)))))))))
  refine q_aload_n c_296_1553 rfl (q_iload c_296_1554 rfl (q_iconst c_296_1556 (v_iadd (v := (i0 : Int) + 2) c_296_1557 rfl (v_scr (j := i0 + 2) c_296_1558 (by omega) (by omega) hL hx2 (q_aload_n c_296_1559 rfl (q_call c_296_1560 rfl rfl rfl (q_aload_n c_293_0 rfl ?_)))))))
  refine q_iconst c_293_1 (q_aload_n c_293_2 rfl (q_iload_n c_293_3 rfl (q_iload_n c_293_4 rfl (hv_ (p := c P 2 = n2) ((hn2)) (fun h_1 => (hv_ (ir_0_12 hI) (fun h_2 => (hv_ (ir_0_13 hI) (fun h_3 => ?_)))))))))
  refine v_cv c_293_5 km_9_108 rfl rfl (Nat.le_of_ble_eq_true rfl) ⟨⟨rfl, rfl⟩, Nat.le_of_ble_eq_true rfl, rfl⟩ (Nat.le_of_ble_eq_true rfl) (Nat.le_of_ble_eq_true rfl) (s_116S (a1 := x1) (a2 := x2) hI (show (-2147483648) ≤ x1 ∧ x1 ≤ 2147483647 from ⟨by omega, by omega⟩) (show (-2147483648) ≤ x2 ∧ x2 ≤ 2147483647 from ⟨by omega, by omega⟩) (fun c_4 hI_5 hF_6 h_7 h_8 h_9 => ?_) (fun c_10 hI_11 hF_12 h_13 h_14 h_15 => ?_) (fun c_16 y_19 hI_17 hF_18 hy_19 h_20 h_21 h_22 => ?_))
  · skip
    refine hv_ (ir_0_12 hI_5) (fun h_23 => (hv_ (ir_0_13 hI_5) (fun h_24 => (bk_thr (z := Int32.ofInt 1) rfl ⟨_, _, rfl⟩ rfl (bk_inl (q_istore c_296_1563 (Nat.le_of_ble_eq_true rfl) (q_aload_n c_296_1565 rfl (q_aload_n c_296_1566 rfl (q_iload c_296_1567 rfl ?_)))))))))
    refine q_iconst c_296_1569 (v_iadd (v := (i0 : Int) + 1) c_296_1570 rfl (v_scr (j := i0 + 1) c_296_1571 (by omega) (by omega) hL hx1 (q_aload_n c_296_1572 rfl (q_iload c_296_1573 rfl (q_iconst c_296_1575 (v_iadd (v := (i0 : Int) + 2) c_296_1576 rfl (v_scr (j := i0 + 2) c_296_1577 (by omega) (by omega) hL hx2 ?_)))))))
    refine hv_ (p := Hid (c_4 41 22 = n2)) ((hF_6 41 22 (fun q => q.elim (fun h => absurd h.1 (nn rfl)) (fun h => absurd h.1 (nn rfl)))).trans (hm2)) (fun kn_25 => (hv_ (p := c_4 41 22 = n2) ((hid kn_25)) (fun h_26 => (hv_ (ir_42 hI 0) (fun h_27 => (hv_ (p := Hid (c_4 42 0 = c 42 0)) (hF_6 42 0 (fun q => q.elim (fun h => absurd h.1 (nn rfl)) (fun h => absurd h.1 (nn rfl)))) (fun kn_28 => (hv_ (p := c_4 42 0 = c 42 0) ((hid kn_28)) (fun h_29 => (hv_ (ir_42 hI 1) (fun h_30 => (hv_ (p := Hid (c_4 42 1 = c 42 1)) (hF_6 42 1 (fun q => q.elim (fun h => absurd h.1 (nn rfl)) (fun h => absurd h.1 (nn rfl)))) (fun kn_31 => (hv_ (p := c_4 42 1 = c 42 1) ((hid kn_31)) (fun h_32 => ?_)))))))))))))))
    refine v_cv c_296_1578 km_9_248 rfl rfl (Nat.le_of_ble_eq_true rfl) ⟨⟨rfl, rfl⟩, Nat.le_of_ble_eq_true rfl, rfl⟩ (Nat.le_of_ble_eq_true rfl) (Nat.le_of_ble_eq_true rfl) (s_251S (a1 := x1) (a2 := x2) hI_5 (show (-2147483648) ≤ x1 ∧ x1 ≤ 2147483647 from ⟨by first | (clear hT hNcnt2 h_2 h_3 h_23 h_24; omega) | omega, by first | (clear hT hNcnt2 h_2 h_3 h_23 h_24; omega) | omega⟩) (show (-2147483648) ≤ x2 ∧ x2 ≤ 2147483647 from ⟨by first | (clear hT hNcnt2 h_2 h_3 h_23 h_24; omega) | omega, by first | (clear hT hNcnt2 h_2 h_3 h_23 h_24; omega) | omega⟩) (fun c_33 y_36 hI_34 hF_35 hy_36 h_37 => (bk_inl (hv_ (ir_42 hI_34 0) (fun h_38 => (hv_ (ir_42 hI_34 1) (fun h_39 => (q_istore c_296_1581 (Nat.le_of_ble_eq_true rfl) (q_goto (t := 1816) c_296_1583 rfl (Wp_ls [(4, vi (i0 : Int)), (3, .ref 67), (2, .ref 41), (1, .ref 0), (0, .ref a_SC)] (lsub_cons rfl (lsub_cons rfl (lsub_cons rfl (lsub_cons rfl (lsub_cons rfl lsub_nil))))) (hv_ (ir_1_3 hI) (fun h_40 => ?_))))))))))))
    refine hv_ (p := Hid (c_4 1 3 = c 1 3)) (hF_6 1 3 (fun q => q.elim (fun h => absurd h.1 (nn rfl)) (fun h => absurd h.1 (nn rfl)))) (fun kn_41 => (hv_ (p := Hid (c_33 1 3 = c 1 3)) ((hF_35 1 3 qn_39cd18c3e).trans (hid kn_41)) (fun kn_42 => (hv_ (p := c_33 1 3 = c 1 3) ((hid kn_42)) (fun h_43 => (hv_ (ir_41_2 hI) (fun h_44 => (hv_ (p := Hid (c_4 41 2 = c 41 2)) (hF_6 41 2 (fun q => q.elim (fun h => absurd h.1 (nn rfl)) (fun h => absurd h.1 (nn rfl)))) (fun kn_45 => (hv_ (p := Hid (c_33 41 2 = c 41 2)) ((hF_35 41 2 qn_53bdb2099).trans (hid kn_45)) (fun kn_46 => (hv_ (p := c_33 41 2 = c 41 2) ((hid kn_46)) (fun h_47 => (hv_ (p := Hid (c_4 P 0 = n0)) ((hF_6 P 0 (qn_7ba88e57e hP)).trans (hn0)) (fun kn_48 => ?_)))))))))))))))
    refine hv_ (p := Hid (c_33 P 0 = n0)) ((hF_35 P 0 (qn_857752076 hP)).trans (hid kn_48)) (fun kn_49 => (hv_ (p := c_33 P 0 = n0) ((hid kn_49)) (fun h_50 => (hv_ (p := Hid (c_4 41 20 = n0)) ((hF_6 41 20 (fun q => q.elim (fun h => absurd h.1 (nn rfl)) (fun h => absurd h.1 (nn rfl)))).trans (hm0)) (fun kn_51 => (hv_ (p := Hid (c_33 41 20 = n0)) ((hF_35 41 20 qn_110b29ed6).trans (hid kn_51)) (fun kn_52 => (hv_ (p := c_33 41 20 = n0) ((hid kn_52)) (fun h_53 => (hv_ (p := Hid (c_4 P 1 = n1)) ((hF_6 P 1 (qn_7ba88e57e hP)).trans (hn1)) (fun kn_54 => (hv_ (p := Hid (c_33 P 1 = n1)) ((hF_35 P 1 (qn_857752076 hP)).trans (hid kn_54)) (fun kn_55 => (hv_ (p := c_33 P 1 = n1) ((hid kn_55)) (fun h_56 => ?_)))))))))))))))
    refine hv_ (p := Hid (c_4 41 21 = n1)) ((hF_6 41 21 (fun q => q.elim (fun h => absurd h.1 (nn rfl)) (fun h => absurd h.1 (nn rfl)))).trans (hm1)) (fun kn_57 => (hv_ (p := Hid (c_33 41 21 = n1)) ((hF_35 41 21 qn_561064c41).trans (hid kn_57)) (fun kn_58 => (hv_ (p := c_33 41 21 = n1) ((hid kn_58)) (fun h_59 => (hv_ (p := Hid (c_4 P 2 = n2)) ((hF_6 P 2 (qn_7ba88e57e hP)).trans (hn2)) (fun kn_60 => (hv_ (p := Hid (c_33 P 2 = n2)) ((hF_35 P 2 (qn_857752076 hP)).trans (hid kn_60)) (fun kn_61 => (hv_ (p := c_33 P 2 = n2) ((hid kn_61)) (fun h_62 => (hv_ (p := Hid (c_33 41 22 = n2)) ((hF_35 41 22 qn_1a460b46b).trans (hid kn_25)) (fun kn_63 => (hv_ (p := c_33 41 22 = n2) ((hid kn_63)) (fun h_64 => ?_)))))))))))))))
    refine hv_ (p := Hid (c_4 P 3 = n3)) ((hF_6 P 3 (qn_7ba88e57e hP)).trans (hn3)) (fun kn_65 => (hv_ (p := Hid (c_33 P 3 = n3)) ((hF_35 P 3 (qn_857752076 hP)).trans (hid kn_65)) (fun kn_66 => (hv_ (p := c_33 P 3 = n3) ((hid kn_66)) (fun h_67 => (hv_ (p := Hid (c_4 41 23 = n3)) ((hF_6 41 23 (fun q => q.elim (fun h => absurd h.1 (nn rfl)) (fun h => absurd h.1 (nn rfl)))).trans (hm3)) (fun kn_68 => (hv_ (p := Hid (c_33 41 23 = n3)) ((hF_35 41 23 qn_b79f282cd).trans (hid kn_68)) (fun kn_69 => (hv_ (p := c_33 41 23 = n3) ((hid kn_69)) (fun h_70 => (hv_ (p := Hid (c_33 0 12 = c_4 0 12)) (hF_35 0 12 qn_666ded271) (fun kn_71 => (hv_ (p := c_33 0 12 = c_4 0 12) ((hid kn_71)) (fun h_72 => ?_)))))))))))))))
    refine hv_ (p := c_33 42 0 = c_33 42 0) (rfl) (fun h_73 => (hv_ (p := Hid (c_33 0 13 = c_4 0 13)) (hF_35 0 13 qn_666ded271) (fun kn_74 => (hv_ (p := c_33 0 13 = c_4 0 13) ((hid kn_74)) (fun h_75 => (hv_ (p := c_33 42 1 = c_33 42 1) (rfl) (fun h_76 => ?_)))))))
    exact K P Q c_33 1 (of_decide_eq_true rfl) hI_34 ⟨by omega, ub_fr hU (fun j => (hF_35 2 j qn_2ad67e194).trans (hF_6 2 j (fun q => q.elim (fun h => absurd h.1 (nn rfl)) (fun h => absurd h.1 (nn rfl))))) (fun j => (hF_35 43 j qn_1520ff5e3).trans (hF_6 43 j (fun q => q.elim (fun h => absurd h.1 (nn rfl)) (fun h => absurd h.1 (nn rfl))))), ⟨by omega, by omega, by omega, by omega⟩, ⟨by omega, by omega⟩⟩
  · skip
    refine hv_ (ir_0_13 hI_11) (fun h_77 => (hv_ (ir_0_12 hI_11) (fun h_78 => (bk_thr (z := Int32.ofInt 2) rfl ⟨_, _, rfl⟩ rfl (bk_inl (q_istore c_296_1563 (Nat.le_of_ble_eq_true rfl) (q_aload_n c_296_1565 rfl (q_aload_n c_296_1566 rfl (q_iload c_296_1567 rfl ?_)))))))))
    refine q_iconst c_296_1569 (v_iadd (v := (i0 : Int) + 1) c_296_1570 rfl (v_scr (j := i0 + 1) c_296_1571 (by omega) (by omega) hL hx1 (q_aload_n c_296_1572 rfl (q_iload c_296_1573 rfl (q_iconst c_296_1575 (v_iadd (v := (i0 : Int) + 2) c_296_1576 rfl (v_scr (j := i0 + 2) c_296_1577 (by omega) (by omega) hL hx2 ?_)))))))
    refine hv_ (p := Hid (c_10 41 22 = n2)) ((hF_12 41 22 (fun q => q.elim (fun h => absurd h.1 (nn rfl)) (fun h => absurd h.1 (nn rfl)))).trans (hm2)) (fun kn_79 => (hv_ (p := c_10 41 22 = n2) ((hid kn_79)) (fun h_80 => (hv_ (ir_42 hI 0) (fun h_81 => (hv_ (p := Hid (c_10 42 0 = c 42 0)) (hF_12 42 0 (fun q => q.elim (fun h => absurd h.1 (nn rfl)) (fun h => absurd h.1 (nn rfl)))) (fun kn_82 => (hv_ (p := c_10 42 0 = c 42 0) ((hid kn_82)) (fun h_83 => (hv_ (ir_42 hI 1) (fun h_84 => (hv_ (p := Hid (c_10 42 1 = c 42 1)) (hF_12 42 1 (fun q => q.elim (fun h => absurd h.1 (nn rfl)) (fun h => absurd h.1 (nn rfl)))) (fun kn_85 => (hv_ (p := c_10 42 1 = c 42 1) ((hid kn_85)) (fun h_86 => ?_)))))))))))))))
    refine v_cv c_296_1578 km_9_248 rfl rfl (Nat.le_of_ble_eq_true rfl) ⟨⟨rfl, rfl⟩, Nat.le_of_ble_eq_true rfl, rfl⟩ (Nat.le_of_ble_eq_true rfl) (Nat.le_of_ble_eq_true rfl) (s_251S (a1 := x1) (a2 := x2) hI_11 (show (-2147483648) ≤ x1 ∧ x1 ≤ 2147483647 from ⟨by first | (clear hT hNcnt2 h_2 h_3 h_77 h_78; omega) | omega, by first | (clear hT hNcnt2 h_2 h_3 h_77 h_78; omega) | omega⟩) (show (-2147483648) ≤ x2 ∧ x2 ≤ 2147483647 from ⟨by first | (clear hT hNcnt2 h_2 h_3 h_77 h_78; omega) | omega, by first | (clear hT hNcnt2 h_2 h_3 h_77 h_78; omega) | omega⟩) (fun c_87 y_90 hI_88 hF_89 hy_90 h_91 => (bk_inl (hv_ (ir_42 hI_88 0) (fun h_92 => (hv_ (ir_42 hI_88 1) (fun h_93 => (q_istore c_296_1581 (Nat.le_of_ble_eq_true rfl) (q_goto (t := 1816) c_296_1583 rfl (Wp_ls [(4, vi (i0 : Int)), (3, .ref 67), (2, .ref 41), (1, .ref 0), (0, .ref a_SC)] (lsub_cons rfl (lsub_cons rfl (lsub_cons rfl (lsub_cons rfl (lsub_cons rfl lsub_nil))))) (hv_ (ir_1_3 hI) (fun h_94 => ?_))))))))))))
    refine hv_ (p := Hid (c_10 1 3 = c 1 3)) (hF_12 1 3 (fun q => q.elim (fun h => absurd h.1 (nn rfl)) (fun h => absurd h.1 (nn rfl)))) (fun kn_95 => (hv_ (p := Hid (c_87 1 3 = c 1 3)) ((hF_89 1 3 qn_39cd18c3e).trans (hid kn_95)) (fun kn_96 => (hv_ (p := c_87 1 3 = c 1 3) ((hid kn_96)) (fun h_97 => (hv_ (ir_41_2 hI) (fun h_98 => (hv_ (p := Hid (c_10 41 2 = c 41 2)) (hF_12 41 2 (fun q => q.elim (fun h => absurd h.1 (nn rfl)) (fun h => absurd h.1 (nn rfl)))) (fun kn_99 => (hv_ (p := Hid (c_87 41 2 = c 41 2)) ((hF_89 41 2 qn_53bdb2099).trans (hid kn_99)) (fun kn_100 => (hv_ (p := c_87 41 2 = c 41 2) ((hid kn_100)) (fun h_101 => (hv_ (p := Hid (c_10 P 0 = n0)) ((hF_12 P 0 (qn_7ba88e57e hP)).trans (hn0)) (fun kn_102 => ?_)))))))))))))))
    refine hv_ (p := Hid (c_87 P 0 = n0)) ((hF_89 P 0 (qn_857752076 hP)).trans (hid kn_102)) (fun kn_103 => (hv_ (p := c_87 P 0 = n0) ((hid kn_103)) (fun h_104 => (hv_ (p := Hid (c_10 41 20 = n0)) ((hF_12 41 20 (fun q => q.elim (fun h => absurd h.1 (nn rfl)) (fun h => absurd h.1 (nn rfl)))).trans (hm0)) (fun kn_105 => (hv_ (p := Hid (c_87 41 20 = n0)) ((hF_89 41 20 qn_110b29ed6).trans (hid kn_105)) (fun kn_106 => (hv_ (p := c_87 41 20 = n0) ((hid kn_106)) (fun h_107 => (hv_ (p := Hid (c_10 P 1 = n1)) ((hF_12 P 1 (qn_7ba88e57e hP)).trans (hn1)) (fun kn_108 => (hv_ (p := Hid (c_87 P 1 = n1)) ((hF_89 P 1 (qn_857752076 hP)).trans (hid kn_108)) (fun kn_109 => (hv_ (p := c_87 P 1 = n1) ((hid kn_109)) (fun h_110 => ?_)))))))))))))))
    refine hv_ (p := Hid (c_10 41 21 = n1)) ((hF_12 41 21 (fun q => q.elim (fun h => absurd h.1 (nn rfl)) (fun h => absurd h.1 (nn rfl)))).trans (hm1)) (fun kn_111 => (hv_ (p := Hid (c_87 41 21 = n1)) ((hF_89 41 21 qn_561064c41).trans (hid kn_111)) (fun kn_112 => (hv_ (p := c_87 41 21 = n1) ((hid kn_112)) (fun h_113 => (hv_ (p := Hid (c_10 P 2 = n2)) ((hF_12 P 2 (qn_7ba88e57e hP)).trans (hn2)) (fun kn_114 => (hv_ (p := Hid (c_87 P 2 = n2)) ((hF_89 P 2 (qn_857752076 hP)).trans (hid kn_114)) (fun kn_115 => (hv_ (p := c_87 P 2 = n2) ((hid kn_115)) (fun h_116 => (hv_ (p := Hid (c_87 41 22 = n2)) ((hF_89 41 22 qn_1a460b46b).trans (hid kn_79)) (fun kn_117 => (hv_ (p := c_87 41 22 = n2) ((hid kn_117)) (fun h_118 => ?_)))))))))))))))
    refine hv_ (p := Hid (c_10 P 3 = n3)) ((hF_12 P 3 (qn_7ba88e57e hP)).trans (hn3)) (fun kn_119 => (hv_ (p := Hid (c_87 P 3 = n3)) ((hF_89 P 3 (qn_857752076 hP)).trans (hid kn_119)) (fun kn_120 => (hv_ (p := c_87 P 3 = n3) ((hid kn_120)) (fun h_121 => (hv_ (p := Hid (c_10 41 23 = n3)) ((hF_12 41 23 (fun q => q.elim (fun h => absurd h.1 (nn rfl)) (fun h => absurd h.1 (nn rfl)))).trans (hm3)) (fun kn_122 => (hv_ (p := Hid (c_87 41 23 = n3)) ((hF_89 41 23 qn_b79f282cd).trans (hid kn_122)) (fun kn_123 => (hv_ (p := c_87 41 23 = n3) ((hid kn_123)) (fun h_124 => (hv_ (p := Hid (c_87 0 12 = c_10 0 12)) (hF_89 0 12 qn_666ded271) (fun kn_125 => (hv_ (p := c_87 0 12 = c_10 0 12) ((hid kn_125)) (fun h_126 => ?_)))))))))))))))
    refine hv_ (p := c_87 42 0 = c_87 42 0) (rfl) (fun h_127 => (hv_ (p := Hid (c_87 0 13 = c_10 0 13)) (hF_89 0 13 qn_666ded271) (fun kn_128 => (hv_ (p := c_87 0 13 = c_10 0 13) ((hid kn_128)) (fun h_129 => (hv_ (p := c_87 42 1 = c_87 42 1) (rfl) (fun h_130 => ?_)))))))
    exact K P Q c_87 1 (of_decide_eq_true rfl) hI_88 ⟨by omega, ub_fr hU (fun j => (hF_89 2 j qn_2ad67e194).trans (hF_12 2 j (fun q => q.elim (fun h => absurd h.1 (nn rfl)) (fun h => absurd h.1 (nn rfl))))) (fun j => (hF_89 43 j qn_1520ff5e3).trans (hF_12 43 j (fun q => q.elim (fun h => absurd h.1 (nn rfl)) (fun h => absurd h.1 (nn rfl))))), ⟨by omega, by omega, by omega, by omega⟩, ⟨by omega, by omega⟩⟩
  refine bk_inl (hv_ (ir_0_12 hI_17) (fun h_131 => (hv_ (ir_0_13 hI_17) (fun h_132 => (v_i2l c_293_8 (by omega) (v_ls c_293_9 rfl (of_decide_eq_true rfl) (of_decide_eq_true rfl) (of_decide_eq_true rfl) (q_goto (t := 21) c_293_10 rfl (q_iconst c_293_21 (q_iret c_293_22 rfl ?_)))))))))
  refine bk_inl (q_istore c_296_1563 (Nat.le_of_ble_eq_true rfl) (q_aload_n c_296_1565 rfl (q_aload_n c_296_1566 rfl (q_iload c_296_1567 rfl (q_iconst c_296_1569 (v_iadd (v := (i0 : Int) + 1) c_296_1570 rfl (v_scr (j := i0 + 1) c_296_1571 (by omega) (by omega) hL hx1 ?_)))))))
  refine q_aload_n c_296_1572 rfl (q_iload c_296_1573 rfl (q_iconst c_296_1575 (v_iadd (v := (i0 : Int) + 2) c_296_1576 rfl (v_scr (j := i0 + 2) c_296_1577 (by omega) (by omega) hL hx2 (hv_ (iw_lx (a := 67) (j := 0) (v := y_19) hI_17 (by omega)) (fun hI_133 => (hv_ (p := Hid (c_16 41 22 = n2)) ((hF_18 41 22 (fun q => q.elim (fun h => absurd h.1 (nn rfl)) (fun h => absurd h.1 (nn rfl)))).trans (hm2)) (fun kn_134 => (hv_ (p := (up c_16 67 0 y_19) 41 22 = n2) (((up_c (nn rfl)).trans (hid kn_134))) (fun h_135 => ?_))))))))))
  refine hv_ (ir_42 hI 0) (fun h_136 => (hv_ (p := Hid (c_16 42 0 = c 42 0)) (hF_18 42 0 (fun q => q.elim (fun h => absurd h.1 (nn rfl)) (fun h => absurd h.1 (nn rfl)))) (fun kn_137 => (hv_ (p := (up c_16 67 0 y_19) 42 0 = c 42 0) (((up_c (nn rfl)).trans (hid kn_137))) (fun h_138 => (hv_ (ir_42 hI 1) (fun h_139 => (hv_ (p := Hid (c_16 42 1 = c 42 1)) (hF_18 42 1 (fun q => q.elim (fun h => absurd h.1 (nn rfl)) (fun h => absurd h.1 (nn rfl)))) (fun kn_140 => (hv_ (p := (up c_16 67 0 y_19) 42 1 = c 42 1) (((up_c (nn rfl)).trans (hid kn_140))) (fun h_141 => (v_cv c_296_1578 km_9_248 rfl rfl (Nat.le_of_ble_eq_true rfl) ⟨⟨rfl, rfl⟩, Nat.le_of_ble_eq_true rfl, rfl⟩ (Nat.le_of_ble_eq_true rfl) (Nat.le_of_ble_eq_true rfl) (s_251S (a1 := x1) (a2 := x2) hI_133 (show (-2147483648) ≤ x1 ∧ x1 ≤ 2147483647 from ⟨by first | exact q_4c52eee5c h_20 h_1 | omega, by omega⟩) (show (-2147483648) ≤ x2 ∧ x2 ≤ 2147483647 from ⟨by first | exact q_142bf6345 h_20 h_1 | omega, by first | exact q_bf8bbb565 h_20 h_1 | omega⟩) (fun c_142 y_145 hI_143 hF_144 hy_145 h_146 => (bk_inl ?_)))))))))))))))
  refine hv_ (ir_42 hI_143 0) (fun h_147 => (hv_ (ir_42 hI_143 1) (fun h_148 => (q_istore c_296_1581 (Nat.le_of_ble_eq_true rfl) (q_goto (t := 1816) c_296_1583 rfl (Wp_ls [(4, vi (i0 : Int)), (3, .ref 67), (2, .ref 41), (1, .ref 0), (0, .ref a_SC)] (lsub_cons rfl (lsub_cons rfl (lsub_cons rfl (lsub_cons rfl (lsub_cons rfl lsub_nil))))) (hv_ (ir_1_3 hI) (fun h_149 => (hv_ (p := Hid (c_16 1 3 = c 1 3)) (hF_18 1 3 (fun q => q.elim (fun h => absurd h.1 (nn rfl)) (fun h => absurd h.1 (nn rfl)))) (fun kn_150 => (hv_ (p := Hid (c_142 1 3 = c 1 3)) ((hF_144 1 3 qn_39cd18c3e).trans ((up_c (nn rfl)).trans (hid kn_150))) (fun kn_151 => ?_))))))))))))
  refine hv_ (p := c_142 1 3 = c 1 3) ((hid kn_151)) (fun h_152 => (hv_ (ir_41_2 hI) (fun h_153 => (hv_ (p := Hid (c_16 41 2 = c 41 2)) (hF_18 41 2 (fun q => q.elim (fun h => absurd h.1 (nn rfl)) (fun h => absurd h.1 (nn rfl)))) (fun kn_154 => (hv_ (p := Hid (c_142 41 2 = c 41 2)) ((hF_144 41 2 qn_53bdb2099).trans ((up_c (nn rfl)).trans (hid kn_154))) (fun kn_155 => (hv_ (p := c_142 41 2 = c 41 2) ((hid kn_155)) (fun h_156 => (hv_ (p := Hid (c_16 P 0 = n0)) ((hF_18 P 0 (qn_7ba88e57e hP)).trans (hn0)) (fun kn_157 => (hv_ (p := Hid (c_142 P 0 = n0)) ((hF_144 P 0 (qn_857752076 hP)).trans ((up_c (np0 hP rfl)).trans (hid kn_157))) (fun kn_158 => (hv_ (p := c_142 P 0 = n0) ((hid kn_158)) (fun h_159 => ?_)))))))))))))))
  refine hv_ (p := Hid (c_16 41 20 = n0)) ((hF_18 41 20 (fun q => q.elim (fun h => absurd h.1 (nn rfl)) (fun h => absurd h.1 (nn rfl)))).trans (hm0)) (fun kn_160 => (hv_ (p := Hid (c_142 41 20 = n0)) ((hF_144 41 20 qn_110b29ed6).trans ((up_c (nn rfl)).trans (hid kn_160))) (fun kn_161 => (hv_ (p := c_142 41 20 = n0) ((hid kn_161)) (fun h_162 => (hv_ (p := Hid (c_16 P 1 = n1)) ((hF_18 P 1 (qn_7ba88e57e hP)).trans (hn1)) (fun kn_163 => (hv_ (p := Hid (c_142 P 1 = n1)) ((hF_144 P 1 (qn_857752076 hP)).trans ((up_c (np0 hP rfl)).trans (hid kn_163))) (fun kn_164 => (hv_ (p := c_142 P 1 = n1) ((hid kn_164)) (fun h_165 => (hv_ (p := Hid (c_16 41 21 = n1)) ((hF_18 41 21 (fun q => q.elim (fun h => absurd h.1 (nn rfl)) (fun h => absurd h.1 (nn rfl)))).trans (hm1)) (fun kn_166 => (hv_ (p := Hid (c_142 41 21 = n1)) ((hF_144 41 21 qn_561064c41).trans ((up_c (nn rfl)).trans (hid kn_166))) (fun kn_167 => ?_)))))))))))))))
  refine hv_ (p := c_142 41 21 = n1) ((hid kn_167)) (fun h_168 => (hv_ (p := Hid (c_16 P 2 = n2)) ((hF_18 P 2 (qn_7ba88e57e hP)).trans (hn2)) (fun kn_169 => (hv_ (p := Hid (c_142 P 2 = n2)) ((hF_144 P 2 (qn_857752076 hP)).trans ((up_c (np0 hP rfl)).trans (hid kn_169))) (fun kn_170 => (hv_ (p := c_142 P 2 = n2) ((hid kn_170)) (fun h_171 => (hv_ (p := Hid (c_142 41 22 = n2)) ((hF_144 41 22 qn_1a460b46b).trans ((up_c (nn rfl)).trans (hid kn_134))) (fun kn_172 => (hv_ (p := c_142 41 22 = n2) ((hid kn_172)) (fun h_173 => (hv_ (p := Hid (c_16 P 3 = n3)) ((hF_18 P 3 (qn_7ba88e57e hP)).trans (hn3)) (fun kn_174 => (hv_ (p := Hid (c_142 P 3 = n3)) ((hF_144 P 3 (qn_857752076 hP)).trans ((up_c (np0 hP rfl)).trans (hid kn_174))) (fun kn_175 => ?_)))))))))))))))
  refine hv_ (p := c_142 P 3 = n3) ((hid kn_175)) (fun h_176 => (hv_ (p := Hid (c_16 41 23 = n3)) ((hF_18 41 23 (fun q => q.elim (fun h => absurd h.1 (nn rfl)) (fun h => absurd h.1 (nn rfl)))).trans (hm3)) (fun kn_177 => (hv_ (p := Hid (c_142 41 23 = n3)) ((hF_144 41 23 qn_b79f282cd).trans ((up_c (nn rfl)).trans (hid kn_177))) (fun kn_178 => (hv_ (p := c_142 41 23 = n3) ((hid kn_178)) (fun h_179 => (hv_ (p := Hid (c_142 0 12 = c_16 0 12)) ((hF_144 0 12 qn_666ded271).trans (up_c (nn rfl))) (fun kn_180 => (hv_ (p := c_142 0 12 = c_16 0 12) ((hid kn_180)) (fun h_181 => (hv_ (p := c_142 42 0 = c_142 42 0) (rfl) (fun h_182 => (hv_ (p := Hid (c_142 0 13 = c_16 0 13)) ((hF_144 0 13 qn_666ded271).trans (up_c (nn rfl))) (fun kn_183 => ?_)))))))))))))))
  refine hv_ (p := c_142 0 13 = c_16 0 13) ((hid kn_183)) (fun h_184 => (hv_ (p := c_142 42 1 = c_142 42 1) (rfl) (fun h_185 => ?_)))
  exact K P Q c_142 0 (of_decide_eq_true rfl) hI_143 ⟨by omega, ub_fr hU (fun j => (hF_144 2 j qn_2ad67e194).trans ((up_c (nn rfl)).trans (hF_18 2 j (fun q => q.elim (fun h => absurd h.1 (nn rfl)) (fun h => absurd h.1 (nn rfl)))))) (fun j => (hF_144 43 j qn_1520ff5e3).trans ((up_c (nn rfl)).trans (hF_18 43 j (fun q => q.elim (fun h => absurd h.1 (nn rfl)) (fun h => absurd h.1 (nn rfl)))))), ⟨by omega, by omega, by omega, by omega⟩, ⟨by omega, by omega⟩⟩

set_option maxRecDepth 100000 in
set_option maxHeartbeats 4000000 in
theorem o_37 {xs : Nat → Int32} {L i0 d nc ns P Q : Nat} {c : ME} {Z : AR → Prop} (hi : i0 + 8 ≤ L) (hL : L ≤ 100000) (hI : Iv 0 (-1) P Q c) (hR : Rq P c) (K : ∀ (P2 Q2 : Nat) (c2 : ME) (e : Nat), e ≤ 1 → Iv 0 (-1) P2 Q2 c2 → (Rq P2 c2) → Wp (a_scr L xs) (d + 90) 296 1816 [(4, vi (i0 : Int)), (3, .ref 67), (2, .ref 41), (1, .ref 0), (0, .ref a_SC)] [] (Wd P2 Q2 P2 P2 c2) (nc + e) (ns + 6 * e) Z) : Wp (a_scr L xs) (d + 90) 296 1586 [(4, vi (i0 : Int)), (3, .ref 67), (2, .ref 41), (1, .ref 0), (0, .ref a_SC)] [] (Wd P Q P P c) nc ns Z := by
  obtain ⟨x1, hx1⟩ : ∃ z, (xs (i0 + 1)).toInt = z := ⟨_, rfl⟩
  refine hv_ (c_rng (xs (i0 + 1))) (fun x1r => ?_)
  rw [hx1] at x1r
  obtain ⟨x2, hx2⟩ : ∃ z, (xs (i0 + 2)).toInt = z := ⟨_, rfl⟩
  refine hv_ (c_rng (xs (i0 + 2))) (fun x2r => ?_)
  rw [hx2] at x2r
  obtain ⟨x3, hx3⟩ : ∃ z, (xs (i0 + 3)).toInt = z := ⟨_, rfl⟩
  refine hv_ (c_rng (xs (i0 + 3))) (fun x3r => ?_)
  rw [hx3] at x3r
  obtain ⟨x4, hx4⟩ : ∃ z, (xs (i0 + 4)).toInt = z := ⟨_, rfl⟩
  refine hv_ (c_rng (xs (i0 + 4))) (fun x4r => ?_)
  rw [hx4] at x4r
  obtain ⟨x5, hx5⟩ : ∃ z, (xs (i0 + 5)).toInt = z := ⟨_, rfl⟩
  refine hv_ (c_rng (xs (i0 + 5))) (fun x5r => ?_)
  rw [hx5] at x5r
  obtain ⟨x6, hx6⟩ : ∃ z, (xs (i0 + 6)).toInt = z := ⟨_, rfl⟩
  refine hv_ (c_rng (xs (i0 + 6))) (fun x6r => ?_)
  rw [hx6] at x6r
  obtain ⟨x7, hx7⟩ : ∃ z, (xs (i0 + 7)).toInt = z := ⟨_, rfl⟩
  refine hv_ (c_rng (xs (i0 + 7))) (fun x7r => ?_)
  rw [hx7] at x7r
  refine hv_ (iv_P hI) (fun hP => (hv_ (iv_Q hI) (fun hQ => (hv_ (rl_t hR) (fun hT => (hv_ (rl_u hR) (fun hU => ?_)))))))
  obtain ⟨n0, hn0⟩ : ∃ z, c P 0 = z := ⟨_, rfl⟩
  refine hv_ (p := c 41 20 = n0) ((rl_nums hR).1.symm.trans hn0) (fun hm0 => (hv_ (ir_p0_0 hI hP) (fun hr0 => ?_)))
  rw [hn0] at hr0
  obtain ⟨n1, hn1⟩ : ∃ z, c P 1 = z := ⟨_, rfl⟩
  refine hv_ (p := c 41 21 = n1) ((rl_nums hR).2.1.symm.trans hn1) (fun hm1 => (hv_ (ir_p0_1 hI hP) (fun hr1 => ?_)))
  rw [hn1] at hr1
  obtain ⟨n2, hn2⟩ : ∃ z, c P 2 = z := ⟨_, rfl⟩
  refine hv_ (p := c 41 22 = n2) ((rl_nums hR).2.2.1.symm.trans hn2) (fun hm2 => (hv_ (ir_p0_2 hI hP) (fun hr2 => ?_)))
  rw [hn2] at hr2
  obtain ⟨n3, hn3⟩ : ∃ z, c P 3 = z := ⟨_, rfl⟩
  refine hv_ (p := c 41 23 = n3) ((rl_nums hR).2.2.2.symm.trans hn3) (fun hm3 => (hv_ (ir_p0_3 hI hP) (fun hr3 => ?_)))
  rw [hn3] at hr3
  refine hv_ (rl_cnt2 hR) (fun hNcnt2 => (hv_ (rl_cnt2 hR) (fun hNcnt2 => (q_aload_n c_296_1586 rfl (q_aload_n c_296_1587 rfl (q_iload c_296_1588 rfl (q_iconst c_296_1590 (v_iadd (v := (i0 : Int) + 1) c_296_1591 rfl (v_scr (j := i0 + 1) c_296_1592 (by omega) (by omega) hL hx1 ?_)))))))))
  refine q_aload_n c_296_1593 rfl (q_iload c_296_1594 rfl (q_iconst c_296_1596 (v_iadd (v := (i0 : Int) + 2) c_296_1597 rfl (v_scr (j := i0 + 2) c_296_1598 (by omega) (by omega) hL hx2 (q_aload_n c_296_1599 rfl (q_iload c_296_1600 rfl (q_iconst c_296_1602 ?_)))))))
  refine v_iadd (v := (i0 : Int) + 3) c_296_1603 rfl (v_scr (j := i0 + 3) c_296_1604 (by omega) (by omega) hL hx3 (q_aload_n c_296_1605 rfl (q_iload c_296_1606 rfl (q_iconst c_296_1608 (v_iadd (v := (i0 : Int) + 4) c_296_1609 rfl (v_scr (j := i0 + 4) c_296_1610 (by omega) (by omega) hL hx4 (q_aload_n c_296_1611 rfl ?_)))))))
  refine q_call c_296_1612 rfl rfl rfl (q_aload c_294_0 rfl (q_iconst c_294_2 (q_aload_n c_294_3 rfl (q_iload_n c_294_4 rfl (q_iload_n c_294_5 rfl (q_iload_n c_294_6 rfl (q_iload c_294_7 rfl ?_)))))))
  refine hv_ (ir_0_12 hI) (fun h_1 => (hv_ (ir_0_13 hI) (fun h_2 => ?_)))
  refine v_cv c_294_9 km_9_111 rfl rfl (Nat.le_of_ble_eq_true rfl) ⟨⟨rfl, rfl⟩, Nat.le_of_ble_eq_true rfl, rfl⟩ (Nat.le_of_ble_eq_true rfl) (Nat.le_of_ble_eq_true rfl) (s_137S (a1 := x1) (a2 := x2) (a3 := x3) (a4 := x4) hI (show (-2147483648) ≤ x1 ∧ x1 ≤ 2147483647 from ⟨by omega, by omega⟩) (show (-2147483648) ≤ x2 ∧ x2 ≤ 2147483647 from ⟨by omega, by omega⟩) (show (-2147483648) ≤ x3 ∧ x3 ≤ 2147483647 from ⟨by omega, by omega⟩) (show (-2147483648) ≤ x4 ∧ x4 ≤ 2147483647 from ⟨by omega, by omega⟩) (fun c_3 hI_4 hF_5 h_6 h_7 h_8 => ?_) (fun c_9 y_12 hI_10 hF_11 hy_12 h_13 h_14 h_15 => ?_))
  · skip
    refine hv_ (ir_0_13 hI_4) (fun h_16 => (hv_ (ir_0_12 hI_4) (fun h_17 => (bk_thr (z := Int32.ofInt 1) rfl ⟨_, _, rfl⟩ rfl (bk_inl (q_istore c_296_1615 (Nat.le_of_ble_eq_true rfl) (q_aload_n c_296_1617 rfl (q_aload_n c_296_1618 rfl (q_iload c_296_1619 rfl ?_)))))))))
    refine q_iconst c_296_1621 (v_iadd (v := (i0 : Int) + 1) c_296_1622 rfl (v_scr (j := i0 + 1) c_296_1623 (by omega) (by omega) hL hx1 (q_aload_n c_296_1624 rfl (q_iload c_296_1625 rfl (q_iconst c_296_1627 (v_iadd (v := (i0 : Int) + 2) c_296_1628 rfl (v_scr (j := i0 + 2) c_296_1629 (by omega) (by omega) hL hx2 ?_)))))))
    refine q_aload_n c_296_1630 rfl (q_iload c_296_1631 rfl (q_iconst c_296_1633 (v_iadd (v := (i0 : Int) + 3) c_296_1634 rfl (v_scr (j := i0 + 3) c_296_1635 (by omega) (by omega) hL hx3 (q_aload_n c_296_1636 rfl (q_iload c_296_1637 rfl (q_iconst c_296_1639 ?_)))))))
    refine v_iadd (v := (i0 : Int) + 4) c_296_1640 rfl (v_scr (j := i0 + 4) c_296_1641 (by omega) (by omega) hL hx4 (hv_ (ir_42 hI 0) (fun h_18 => (hv_ (p := Hid (c_3 42 0 = c 42 0)) (hF_5 42 0 (qn_2bc575ef4 hP)) (fun kn_19 => (hv_ (p := c_3 42 0 = c 42 0) ((hid kn_19)) (fun h_20 => (hv_ (ir_42 hI 1) (fun h_21 => (hv_ (p := Hid (c_3 42 1 = c 42 1)) (hF_5 42 1 (qn_2bc575ef4 hP)) (fun kn_22 => (hv_ (p := c_3 42 1 = c 42 1) ((hid kn_22)) (fun h_23 => ?_)))))))))))))
    refine v_cv c_296_1642 km_9_251 rfl rfl (Nat.le_of_ble_eq_true rfl) ⟨⟨rfl, rfl⟩, Nat.le_of_ble_eq_true rfl, rfl⟩ (Nat.le_of_ble_eq_true rfl) (Nat.le_of_ble_eq_true rfl) (s_255S (a1 := x1) (a2 := x2) (a3 := x3) (a4 := x4) hI_4 (show (-2147483648) ≤ x1 ∧ x1 ≤ 2147483647 from ⟨by first | (clear hT hNcnt2 h_1 h_2 h_16 h_17; omega) | omega, by first | (clear hT hNcnt2 h_1 h_2 h_16 h_17; omega) | omega⟩) (show (-2147483648) ≤ x2 ∧ x2 ≤ 2147483647 from ⟨by first | (clear hT hNcnt2 h_1 h_2 h_16 h_17; omega) | omega, by first | (clear hT hNcnt2 h_1 h_2 h_16 h_17; omega) | omega⟩) (show (-2147483648) ≤ x3 ∧ x3 ≤ 2147483647 from ⟨by first | (clear hT hNcnt2 h_1 h_2 h_16 h_17; omega) | omega, by first | (clear hT hNcnt2 h_1 h_2 h_16 h_17; omega) | omega⟩) (show (-2147483648) ≤ x4 ∧ x4 ≤ 2147483647 from ⟨by first | (clear hT hNcnt2 h_1 h_2 h_16 h_17; omega) | omega, by first | (clear hT hNcnt2 h_1 h_2 h_16 h_17; omega) | omega⟩) (fun c_24 y_27 hI_25 hF_26 hy_27 h_28 => (bk_inl (hv_ (ir_42 hI_25 0) (fun h_29 => (hv_ (ir_42 hI_25 1) (fun h_30 => (q_istore c_296_1645 (Nat.le_of_ble_eq_true rfl) (q_goto (t := 1816) c_296_1647 rfl (Wp_ls [(4, vi (i0 : Int)), (3, .ref 67), (2, .ref 41), (1, .ref 0), (0, .ref a_SC)] (lsub_cons rfl (lsub_cons rfl (lsub_cons rfl (lsub_cons rfl (lsub_cons rfl lsub_nil))))) (hv_ (ir_1_3 hI) (fun h_31 => ?_))))))))))))
    refine hv_ (p := Hid (c_3 1 3 = c 1 3)) (hF_5 1 3 (qn_cc1064621 hP)) (fun kn_32 => (hv_ (p := Hid (c_24 1 3 = c 1 3)) ((hF_26 1 3 qn_9d94bd60f).trans (hid kn_32)) (fun kn_33 => (hv_ (p := c_24 1 3 = c 1 3) ((hid kn_33)) (fun h_34 => (hv_ (ir_41_2 hI) (fun h_35 => (hv_ (p := Hid (c_3 41 2 = c 41 2)) (hF_5 41 2 (qn_55346d250 hP)) (fun kn_36 => (hv_ (p := Hid (c_24 41 2 = c 41 2)) ((hF_26 41 2 qn_9f4d5821f).trans (hid kn_36)) (fun kn_37 => (hv_ (p := c_24 41 2 = c 41 2) ((hid kn_37)) (fun h_38 => (hv_ (p := Hid (c_3 P 0 = n0)) ((hF_5 P 0 (qn_1a125c37c hP)).trans (hn0)) (fun kn_39 => ?_)))))))))))))))
    refine hv_ (p := Hid (c_24 P 0 = n0)) ((hF_26 P 0 (qn_3dda11c13 hP)).trans (hid kn_39)) (fun kn_40 => (hv_ (p := c_24 P 0 = n0) ((hid kn_40)) (fun h_41 => (hv_ (p := Hid (c_3 41 20 = n0)) ((hF_5 41 20 (qn_55346d250 hP)).trans (hm0)) (fun kn_42 => (hv_ (p := Hid (c_24 41 20 = n0)) ((hF_26 41 20 qn_de1d671ad).trans (hid kn_42)) (fun kn_43 => (hv_ (p := c_24 41 20 = n0) ((hid kn_43)) (fun h_44 => (hv_ (p := Hid (c_3 P 1 = n1)) ((hF_5 P 1 (qn_1a125c37c hP)).trans (hn1)) (fun kn_45 => (hv_ (p := Hid (c_24 P 1 = n1)) ((hF_26 P 1 (qn_3dda11c13 hP)).trans (hid kn_45)) (fun kn_46 => (hv_ (p := c_24 P 1 = n1) ((hid kn_46)) (fun h_47 => ?_)))))))))))))))
    refine hv_ (p := Hid (c_3 41 21 = n1)) ((hF_5 41 21 (qn_55346d250 hP)).trans (hm1)) (fun kn_48 => (hv_ (p := Hid (c_24 41 21 = n1)) ((hF_26 41 21 qn_b0c4591b1).trans (hid kn_48)) (fun kn_49 => (hv_ (p := c_24 41 21 = n1) ((hid kn_49)) (fun h_50 => (hv_ (p := Hid (c_3 P 2 = n2)) ((hF_5 P 2 (qn_1a125c37c hP)).trans (hn2)) (fun kn_51 => (hv_ (p := Hid (c_24 P 2 = n2)) ((hF_26 P 2 (qn_3dda11c13 hP)).trans (hid kn_51)) (fun kn_52 => (hv_ (p := c_24 P 2 = n2) ((hid kn_52)) (fun h_53 => (hv_ (p := Hid (c_3 41 22 = n2)) ((hF_5 41 22 (qn_55346d250 hP)).trans (hm2)) (fun kn_54 => (hv_ (p := Hid (c_24 41 22 = n2)) ((hF_26 41 22 qn_00a455246).trans (hid kn_54)) (fun kn_55 => ?_)))))))))))))))
    refine hv_ (p := c_24 41 22 = n2) ((hid kn_55)) (fun h_56 => (hv_ (p := Hid (c_3 P 3 = n3)) ((hF_5 P 3 (qn_1a125c37c hP)).trans (hn3)) (fun kn_57 => (hv_ (p := Hid (c_24 P 3 = n3)) ((hF_26 P 3 (qn_3dda11c13 hP)).trans (hid kn_57)) (fun kn_58 => (hv_ (p := c_24 P 3 = n3) ((hid kn_58)) (fun h_59 => (hv_ (p := Hid (c_3 41 23 = n3)) ((hF_5 41 23 (qn_55346d250 hP)).trans (hm3)) (fun kn_60 => (hv_ (p := Hid (c_24 41 23 = n3)) ((hF_26 41 23 qn_375070522).trans (hid kn_60)) (fun kn_61 => (hv_ (p := c_24 41 23 = n3) ((hid kn_61)) (fun h_62 => (hv_ (p := Hid (c_3 0 12 = c 0 12)) (hF_5 0 12 (qn_2cd0c41a4 hP)) (fun kn_63 => ?_)))))))))))))))
    refine hv_ (p := Hid (c_24 0 12 = c 0 12)) ((hF_26 0 12 qn_eb42f2a25).trans (hid kn_63)) (fun kn_64 => (hv_ (p := c_24 0 12 = c 0 12) ((hid kn_64)) (fun h_65 => (hv_ (p := c_24 42 0 = c_24 42 0) (rfl) (fun h_66 => (hv_ (p := Hid (c_24 0 13 = c_3 0 13)) (hF_26 0 13 qn_eb42f2a25) (fun kn_67 => (hv_ (p := c_24 0 13 = c_3 0 13) ((hid kn_67)) (fun h_68 => (hv_ (p := c_24 42 1 = c_24 42 1) (rfl) (fun h_69 => ?_)))))))))))
    exact K P Q c_24 1 (of_decide_eq_true rfl) hI_25 ⟨by omega, ub_fr hU (fun j => (hF_26 2 j qn_ea1d8203a).trans (hF_5 2 j (qn_11c530ba0 hP))) (fun j => (hF_26 43 j qn_921fc31f7).trans (hF_5 43 j (qn_ce891e06c hP))), ⟨by omega, by omega, by omega, by omega⟩, ⟨by omega, by omega⟩⟩
  refine bk_inl (hv_ (ir_0_12 hI_10) (fun h_70 => (hv_ (ir_0_13 hI_10) (fun h_71 => (v_i2l c_294_12 (by omega) (v_ls c_294_13 rfl (of_decide_eq_true rfl) (of_decide_eq_true rfl) (of_decide_eq_true rfl) (q_goto (t := 21) c_294_14 rfl (q_iconst c_294_21 (q_iret c_294_22 rfl ?_)))))))))
  refine bk_inl (q_istore c_296_1615 (Nat.le_of_ble_eq_true rfl) (q_aload_n c_296_1617 rfl (q_aload_n c_296_1618 rfl (q_iload c_296_1619 rfl (q_iconst c_296_1621 (v_iadd (v := (i0 : Int) + 1) c_296_1622 rfl (v_scr (j := i0 + 1) c_296_1623 (by omega) (by omega) hL hx1 ?_)))))))
  refine q_aload_n c_296_1624 rfl (q_iload c_296_1625 rfl (q_iconst c_296_1627 (v_iadd (v := (i0 : Int) + 2) c_296_1628 rfl (v_scr (j := i0 + 2) c_296_1629 (by omega) (by omega) hL hx2 (q_aload_n c_296_1630 rfl (q_iload c_296_1631 rfl (q_iconst c_296_1633 ?_)))))))
  refine v_iadd (v := (i0 : Int) + 3) c_296_1634 rfl (v_scr (j := i0 + 3) c_296_1635 (by omega) (by omega) hL hx3 (q_aload_n c_296_1636 rfl (q_iload c_296_1637 rfl (q_iconst c_296_1639 (v_iadd (v := (i0 : Int) + 4) c_296_1640 rfl (v_scr (j := i0 + 4) c_296_1641 (by omega) (by omega) hL hx4 (hv_ (iw_lx (a := 67) (j := 0) (v := y_12) hI_10 (by omega)) (fun hI_72 => ?_))))))))
  refine hv_ (ir_42 hI 0) (fun h_73 => (hv_ (p := Hid (c_9 42 0 = c 42 0)) (hF_11 42 0 (qn_2bc575ef4 hP)) (fun kn_74 => (hv_ (p := (up c_9 67 0 y_12) 42 0 = c 42 0) (((up_c (nn rfl)).trans (hid kn_74))) (fun h_75 => (hv_ (ir_42 hI 1) (fun h_76 => (hv_ (p := Hid (c_9 42 1 = c 42 1)) (hF_11 42 1 (qn_2bc575ef4 hP)) (fun kn_77 => (hv_ (p := (up c_9 67 0 y_12) 42 1 = c 42 1) (((up_c (nn rfl)).trans (hid kn_77))) (fun h_78 => (v_cv c_296_1642 km_9_251 rfl rfl (Nat.le_of_ble_eq_true rfl) ⟨⟨rfl, rfl⟩, Nat.le_of_ble_eq_true rfl, rfl⟩ (Nat.le_of_ble_eq_true rfl) (Nat.le_of_ble_eq_true rfl) (s_255S (a1 := x1) (a2 := x2) (a3 := x3) (a4 := x4) hI_72 (show (-2147483648) ≤ x1 ∧ x1 ≤ 2147483647 from ⟨by omega, by omega⟩) (show (-2147483648) ≤ x2 ∧ x2 ≤ 2147483647 from ⟨by first | exact q_7019a8e92 h_13 | omega, by first | exact q_c88385698 h_13 | omega⟩) (show (-2147483648) ≤ x3 ∧ x3 ≤ 2147483647 from ⟨by first | exact q_8e4bcdba1 h_13 | omega, by first | exact q_fa6abfae1 h_13 | omega⟩) (show (-2147483648) ≤ x4 ∧ x4 ≤ 2147483647 from ⟨by first | exact q_36f087713 h_13 | omega, by first | exact q_e673be182 h_13 | omega⟩) (fun c_79 y_82 hI_80 hF_81 hy_82 h_83 => (bk_inl ?_)))))))))))))))
  refine hv_ (ir_42 hI_80 0) (fun h_84 => (hv_ (ir_42 hI_80 1) (fun h_85 => (q_istore c_296_1645 (Nat.le_of_ble_eq_true rfl) (q_goto (t := 1816) c_296_1647 rfl (Wp_ls [(4, vi (i0 : Int)), (3, .ref 67), (2, .ref 41), (1, .ref 0), (0, .ref a_SC)] (lsub_cons rfl (lsub_cons rfl (lsub_cons rfl (lsub_cons rfl (lsub_cons rfl lsub_nil))))) (hv_ (ir_1_3 hI) (fun h_86 => (hv_ (p := Hid (c_9 1 3 = c 1 3)) (hF_11 1 3 (qn_cc1064621 hP)) (fun kn_87 => (hv_ (p := Hid (c_79 1 3 = c 1 3)) ((hF_81 1 3 qn_9d94bd60f).trans ((up_c (nn rfl)).trans (hid kn_87))) (fun kn_88 => ?_))))))))))))
  refine hv_ (p := c_79 1 3 = c 1 3) ((hid kn_88)) (fun h_89 => (hv_ (ir_41_2 hI) (fun h_90 => (hv_ (p := Hid (c_9 41 2 = c 41 2)) (hF_11 41 2 (qn_55346d250 hP)) (fun kn_91 => (hv_ (p := Hid (c_79 41 2 = c 41 2)) ((hF_81 41 2 qn_9f4d5821f).trans ((up_c (nn rfl)).trans (hid kn_91))) (fun kn_92 => (hv_ (p := c_79 41 2 = c 41 2) ((hid kn_92)) (fun h_93 => (hv_ (p := Hid (c_9 P 0 = n0)) ((hF_11 P 0 (qn_1a125c37c hP)).trans (hn0)) (fun kn_94 => (hv_ (p := Hid (c_79 P 0 = n0)) ((hF_81 P 0 (qn_3dda11c13 hP)).trans ((up_c (np0 hP rfl)).trans (hid kn_94))) (fun kn_95 => (hv_ (p := c_79 P 0 = n0) ((hid kn_95)) (fun h_96 => ?_)))))))))))))))
  refine hv_ (p := Hid (c_9 41 20 = n0)) ((hF_11 41 20 (qn_55346d250 hP)).trans (hm0)) (fun kn_97 => (hv_ (p := Hid (c_79 41 20 = n0)) ((hF_81 41 20 qn_de1d671ad).trans ((up_c (nn rfl)).trans (hid kn_97))) (fun kn_98 => (hv_ (p := c_79 41 20 = n0) ((hid kn_98)) (fun h_99 => (hv_ (p := Hid (c_9 P 1 = n1)) ((hF_11 P 1 (qn_1a125c37c hP)).trans (hn1)) (fun kn_100 => (hv_ (p := Hid (c_79 P 1 = n1)) ((hF_81 P 1 (qn_3dda11c13 hP)).trans ((up_c (np0 hP rfl)).trans (hid kn_100))) (fun kn_101 => (hv_ (p := c_79 P 1 = n1) ((hid kn_101)) (fun h_102 => (hv_ (p := Hid (c_9 41 21 = n1)) ((hF_11 41 21 (qn_55346d250 hP)).trans (hm1)) (fun kn_103 => (hv_ (p := Hid (c_79 41 21 = n1)) ((hF_81 41 21 qn_b0c4591b1).trans ((up_c (nn rfl)).trans (hid kn_103))) (fun kn_104 => ?_)))))))))))))))
  refine hv_ (p := c_79 41 21 = n1) ((hid kn_104)) (fun h_105 => (hv_ (p := Hid (c_9 P 2 = n2)) ((hF_11 P 2 (qn_1a125c37c hP)).trans (hn2)) (fun kn_106 => (hv_ (p := Hid (c_79 P 2 = n2)) ((hF_81 P 2 (qn_3dda11c13 hP)).trans ((up_c (np0 hP rfl)).trans (hid kn_106))) (fun kn_107 => (hv_ (p := c_79 P 2 = n2) ((hid kn_107)) (fun h_108 => (hv_ (p := Hid (c_9 41 22 = n2)) ((hF_11 41 22 (qn_55346d250 hP)).trans (hm2)) (fun kn_109 => (hv_ (p := Hid (c_79 41 22 = n2)) ((hF_81 41 22 qn_00a455246).trans ((up_c (nn rfl)).trans (hid kn_109))) (fun kn_110 => (hv_ (p := c_79 41 22 = n2) ((hid kn_110)) (fun h_111 => (hv_ (p := Hid (c_9 P 3 = n3)) ((hF_11 P 3 (qn_1a125c37c hP)).trans (hn3)) (fun kn_112 => ?_)))))))))))))))
  refine hv_ (p := Hid (c_79 P 3 = n3)) ((hF_81 P 3 (qn_3dda11c13 hP)).trans ((up_c (np0 hP rfl)).trans (hid kn_112))) (fun kn_113 => (hv_ (p := c_79 P 3 = n3) ((hid kn_113)) (fun h_114 => (hv_ (p := Hid (c_9 41 23 = n3)) ((hF_11 41 23 (qn_55346d250 hP)).trans (hm3)) (fun kn_115 => (hv_ (p := Hid (c_79 41 23 = n3)) ((hF_81 41 23 qn_375070522).trans ((up_c (nn rfl)).trans (hid kn_115))) (fun kn_116 => (hv_ (p := c_79 41 23 = n3) ((hid kn_116)) (fun h_117 => (hv_ (p := Hid (c_9 0 12 = c 0 12)) (hF_11 0 12 (qn_2cd0c41a4 hP)) (fun kn_118 => (hv_ (p := Hid (c_79 0 12 = c 0 12)) ((hF_81 0 12 qn_eb42f2a25).trans ((up_c (nn rfl)).trans (hid kn_118))) (fun kn_119 => (hv_ (p := c_79 0 12 = c 0 12) ((hid kn_119)) (fun h_120 => ?_)))))))))))))))
  refine hv_ (p := c_79 42 0 = c_79 42 0) (rfl) (fun h_121 => (hv_ (p := Hid (c_79 0 13 = c_9 0 13)) ((hF_81 0 13 qn_eb42f2a25).trans (up_c (nn rfl))) (fun kn_122 => (hv_ (p := c_79 0 13 = c_9 0 13) ((hid kn_122)) (fun h_123 => (hv_ (p := c_79 42 1 = c_79 42 1) (rfl) (fun h_124 => ?_)))))))
  exact K P Q c_79 0 (of_decide_eq_true rfl) hI_80 ⟨by omega, ub_fr hU (fun j => (hF_81 2 j qn_ea1d8203a).trans ((up_c (nn rfl)).trans (hF_11 2 j (qn_11c530ba0 hP)))) (fun j => (hF_81 43 j qn_921fc31f7).trans ((up_c (nn rfl)).trans (hF_11 43 j (qn_ce891e06c hP)))), ⟨by omega, by omega, by omega, by omega⟩, ⟨by omega, by omega⟩⟩

set_option maxRecDepth 100000 in
set_option maxHeartbeats 4000000 in
theorem o_38 {xs : Nat → Int32} {L i0 d nc ns P Q : Nat} {c : ME} {Z : AR → Prop} (hi : i0 + 8 ≤ L) (hL : L ≤ 100000) (hI : Iv 0 (-1) P Q c) (hR : Rq P c) (K : ∀ (P2 Q2 : Nat) (c2 : ME) (e : Nat), e ≤ 1 → Iv 0 (-1) P2 Q2 c2 → (Rq P2 c2) → Wp (a_scr L xs) (d + 90) 296 1816 [(4, vi (i0 : Int)), (3, .ref 67), (2, .ref 41), (1, .ref 0), (0, .ref a_SC)] [] (Wd P2 Q2 P2 P2 c2) (nc + e) (ns + 6 * e) Z) : Wp (a_scr L xs) (d + 90) 296 1650 [(4, vi (i0 : Int)), (3, .ref 67), (2, .ref 41), (1, .ref 0), (0, .ref a_SC)] [] (Wd P Q P P c) nc ns Z := by
  obtain ⟨x1, hx1⟩ : ∃ z, (xs (i0 + 1)).toInt = z := ⟨_, rfl⟩
  refine hv_ (c_rng (xs (i0 + 1))) (fun x1r => ?_)
  rw [hx1] at x1r
  obtain ⟨x2, hx2⟩ : ∃ z, (xs (i0 + 2)).toInt = z := ⟨_, rfl⟩
  refine hv_ (c_rng (xs (i0 + 2))) (fun x2r => ?_)
  rw [hx2] at x2r
  obtain ⟨x3, hx3⟩ : ∃ z, (xs (i0 + 3)).toInt = z := ⟨_, rfl⟩
  refine hv_ (c_rng (xs (i0 + 3))) (fun x3r => ?_)
  rw [hx3] at x3r
  obtain ⟨x4, hx4⟩ : ∃ z, (xs (i0 + 4)).toInt = z := ⟨_, rfl⟩
  refine hv_ (c_rng (xs (i0 + 4))) (fun x4r => ?_)
  rw [hx4] at x4r
  obtain ⟨x5, hx5⟩ : ∃ z, (xs (i0 + 5)).toInt = z := ⟨_, rfl⟩
  refine hv_ (c_rng (xs (i0 + 5))) (fun x5r => ?_)
  rw [hx5] at x5r
  obtain ⟨x6, hx6⟩ : ∃ z, (xs (i0 + 6)).toInt = z := ⟨_, rfl⟩
  refine hv_ (c_rng (xs (i0 + 6))) (fun x6r => ?_)
  rw [hx6] at x6r
  obtain ⟨x7, hx7⟩ : ∃ z, (xs (i0 + 7)).toInt = z := ⟨_, rfl⟩
  refine hv_ (c_rng (xs (i0 + 7))) (fun x7r => ?_)
  rw [hx7] at x7r
  refine hv_ (iv_P hI) (fun hP => (hv_ (iv_Q hI) (fun hQ => (hv_ (rl_t hR) (fun hT => (hv_ (rl_u hR) (fun hU => ?_)))))))
  obtain ⟨n0, hn0⟩ : ∃ z, c P 0 = z := ⟨_, rfl⟩
  refine hv_ (p := c 41 20 = n0) ((rl_nums hR).1.symm.trans hn0) (fun hm0 => (hv_ (ir_p0_0 hI hP) (fun hr0 => ?_)))
  rw [hn0] at hr0
  obtain ⟨n1, hn1⟩ : ∃ z, c P 1 = z := ⟨_, rfl⟩
  refine hv_ (p := c 41 21 = n1) ((rl_nums hR).2.1.symm.trans hn1) (fun hm1 => (hv_ (ir_p0_1 hI hP) (fun hr1 => ?_)))
  rw [hn1] at hr1
  obtain ⟨n2, hn2⟩ : ∃ z, c P 2 = z := ⟨_, rfl⟩
  refine hv_ (p := c 41 22 = n2) ((rl_nums hR).2.2.1.symm.trans hn2) (fun hm2 => (hv_ (ir_p0_2 hI hP) (fun hr2 => ?_)))
  rw [hn2] at hr2
  obtain ⟨n3, hn3⟩ : ∃ z, c P 3 = z := ⟨_, rfl⟩
  refine hv_ (p := c 41 23 = n3) ((rl_nums hR).2.2.2.symm.trans hn3) (fun hm3 => (hv_ (ir_p0_3 hI hP) (fun hr3 => ?_)))
  rw [hn3] at hr3
  refine hv_ (rl_cnt2 hR) (fun hNcnt2 => (hv_ (rl_cnt2 hR) (fun hNcnt2 => (q_aload_n c_296_1650 rfl (q_aload_n c_296_1651 rfl (q_iload c_296_1652 rfl (q_iconst c_296_1654 (v_iadd (v := (i0 : Int) + 1) c_296_1655 rfl (v_scr (j := i0 + 1) c_296_1656 (by omega) (by omega) hL hx1 ?_)))))))))
  refine q_aload_n c_296_1657 rfl (q_iload c_296_1658 rfl (q_iconst c_296_1660 (v_iadd (v := (i0 : Int) + 2) c_296_1661 rfl (v_scr (j := i0 + 2) c_296_1662 (by omega) (by omega) hL hx2 (q_aload_n c_296_1663 rfl (q_iload c_296_1664 rfl (q_iconst c_296_1666 ?_)))))))
  refine v_iadd (v := (i0 : Int) + 3) c_296_1667 rfl (v_scr (j := i0 + 3) c_296_1668 (by omega) (by omega) hL hx3 (q_aload_n c_296_1669 rfl (q_iload c_296_1670 rfl (q_iconst c_296_1672 (v_iadd (v := (i0 : Int) + 4) c_296_1673 rfl (v_scr (j := i0 + 4) c_296_1674 (by omega) (by omega) hL hx4 (q_aload_n c_296_1675 rfl ?_)))))))
  refine q_iload c_296_1676 rfl (q_iconst c_296_1678 (v_iadd (v := (i0 : Int) + 5) c_296_1679 rfl (v_scr (j := i0 + 5) c_296_1680 (by omega) (by omega) hL hx5 (q_aload_n c_296_1681 rfl (q_iload c_296_1682 rfl (v_bip c_296_1684 (of_decide_eq_true rfl) (v_iadd (v := (i0 : Int) + 6) c_296_1686 rfl ?_)))))))
  refine v_scr (j := i0 + 6) c_296_1687 (by omega) (by omega) hL hx6 (q_aload_n c_296_1688 rfl (q_call c_296_1689 rfl rfl rfl (q_aload c_295_0 rfl (q_iconst c_295_2 (q_aload_n c_295_3 rfl (q_iload_n c_295_4 rfl (q_iload_n c_295_5 rfl ?_)))))))
  refine q_iload_n c_295_6 rfl (q_iload c_295_7 rfl (q_iload c_295_9 rfl (q_iload c_295_11 rfl (hv_ (p := c P 0 = n0) ((hn0)) (fun h_1 => (hv_ (ir_0_12 hI) (fun h_2 => (hv_ (ir_0_13 hI) (fun h_3 => ?_)))))))))
  refine v_cv c_295_13 km_9_115 rfl rfl (Nat.le_of_ble_eq_true rfl) ⟨⟨rfl, rfl⟩, Nat.le_of_ble_eq_true rfl, rfl⟩ (Nat.le_of_ble_eq_true rfl) (Nat.le_of_ble_eq_true rfl) (s_138S (a1 := x1) (a2 := x2) (a3 := x3) (a4 := x4) (a5 := x5) (a6 := x6) hI (show (-2147483648) ≤ x1 ∧ x1 ≤ 2147483647 from ⟨by omega, by omega⟩) (show (-2147483648) ≤ x2 ∧ x2 ≤ 2147483647 from ⟨by omega, by omega⟩) (show (-2147483648) ≤ x3 ∧ x3 ≤ 2147483647 from ⟨by omega, by omega⟩) (show (-2147483648) ≤ x4 ∧ x4 ≤ 2147483647 from ⟨by omega, by omega⟩) (show (-2147483648) ≤ x5 ∧ x5 ≤ 2147483647 from ⟨by omega, by omega⟩) (show (-2147483648) ≤ x6 ∧ x6 ≤ 2147483647 from ⟨by omega, by omega⟩) (fun c_4 hI_5 hF_6 h_7 h_8 h_9 => ?_) (fun c_10 y_13 hI_11 hF_12 hy_13 h_14 h_15 h_16 => ?_))
  · skip
    refine hv_ (ir_0_13 hI_5) (fun h_17 => (hv_ (ir_0_12 hI_5) (fun h_18 => (bk_thr (z := Int32.ofInt 1) rfl ⟨_, _, rfl⟩ rfl (bk_inl (q_istore c_296_1692 (Nat.le_of_ble_eq_true rfl) (q_aload_n c_296_1694 rfl (q_aload_n c_296_1695 rfl (q_iload c_296_1696 rfl ?_)))))))))
    refine q_iconst c_296_1698 (v_iadd (v := (i0 : Int) + 1) c_296_1699 rfl (v_scr (j := i0 + 1) c_296_1700 (by omega) (by omega) hL hx1 (q_aload_n c_296_1701 rfl (q_iload c_296_1702 rfl (q_iconst c_296_1704 (v_iadd (v := (i0 : Int) + 2) c_296_1705 rfl (v_scr (j := i0 + 2) c_296_1706 (by omega) (by omega) hL hx2 ?_)))))))
    refine q_aload_n c_296_1707 rfl (q_iload c_296_1708 rfl (q_iconst c_296_1710 (v_iadd (v := (i0 : Int) + 3) c_296_1711 rfl (v_scr (j := i0 + 3) c_296_1712 (by omega) (by omega) hL hx3 (q_aload_n c_296_1713 rfl (q_iload c_296_1714 rfl (q_iconst c_296_1716 ?_)))))))
    refine v_iadd (v := (i0 : Int) + 4) c_296_1717 rfl (v_scr (j := i0 + 4) c_296_1718 (by omega) (by omega) hL hx4 (q_aload_n c_296_1719 rfl (q_iload c_296_1720 rfl (q_iconst c_296_1722 (v_iadd (v := (i0 : Int) + 5) c_296_1723 rfl (v_scr (j := i0 + 5) c_296_1724 (by omega) (by omega) hL hx5 (q_aload_n c_296_1725 rfl ?_)))))))
    refine q_iload c_296_1726 rfl (v_bip c_296_1728 (of_decide_eq_true rfl) (v_iadd (v := (i0 : Int) + 6) c_296_1730 rfl (v_scr (j := i0 + 6) c_296_1731 (by omega) (by omega) hL hx6 (hv_ (p := Hid (c_4 41 20 = n0)) ((hF_6 41 20 (qn_55346d250 hP)).trans (hm0)) (fun kn_19 => (hv_ (p := c_4 41 20 = n0) ((hid kn_19)) (fun h_20 => (hv_ (ir_42 hI 0) (fun h_21 => (hv_ (p := Hid (c_4 42 0 = c 42 0)) (hF_6 42 0 (qn_2bc575ef4 hP)) (fun kn_22 => ?_)))))))))))
    refine hv_ (p := c_4 42 0 = c 42 0) ((hid kn_22)) (fun h_23 => (hv_ (ir_42 hI 1) (fun h_24 => (hv_ (p := Hid (c_4 42 1 = c 42 1)) (hF_6 42 1 (qn_2bc575ef4 hP)) (fun kn_25 => (hv_ (p := c_4 42 1 = c 42 1) ((hid kn_25)) (fun h_26 => (v_cv c_296_1732 km_9_255 rfl rfl (Nat.le_of_ble_eq_true rfl) ⟨⟨rfl, rfl⟩, Nat.le_of_ble_eq_true rfl, rfl⟩ (Nat.le_of_ble_eq_true rfl) (Nat.le_of_ble_eq_true rfl) (s_256S (a1 := x1) (a2 := x2) (a3 := x3) (a4 := x4) (a5 := x5) (a6 := x6) hI_5 (show (-2147483648) ≤ x1 ∧ x1 ≤ 2147483647 from ⟨by first | (clear hT hNcnt2 h_2 h_3 h_17 h_18; omega) | omega, by first | (clear hT hNcnt2 h_2 h_3 h_17 h_18; omega) | omega⟩) (show (-2147483648) ≤ x2 ∧ x2 ≤ 2147483647 from ⟨by first | (clear hT hNcnt2 h_2 h_3 h_17 h_18; omega) | omega, by first | (clear hT hNcnt2 h_2 h_3 h_17 h_18; omega) | omega⟩) (show (-2147483648) ≤ x3 ∧ x3 ≤ 2147483647 from ⟨by first | (clear hT hNcnt2 h_2 h_3 h_17 h_18; omega) | omega, by first | (clear hT hNcnt2 h_2 h_3 h_17 h_18; omega) | omega⟩) (show (-2147483648) ≤ x4 ∧ x4 ≤ 2147483647 from ⟨by first | (clear hT hNcnt2 h_2 h_3 h_17 h_18; omega) | omega, by first | (clear hT hNcnt2 h_2 h_3 h_17 h_18; omega) | omega⟩) (show (-2147483648) ≤ x5 ∧ x5 ≤ 2147483647 from ⟨by first | (clear hT hNcnt2 h_2 h_3 h_17 h_18; omega) | omega, by first | (clear hT hNcnt2 h_2 h_3 h_17 h_18; omega) | omega⟩) (show (-2147483648) ≤ x6 ∧ x6 ≤ 2147483647 from ⟨by first | (clear hT hNcnt2 h_2 h_3 h_17 h_18; omega) | omega, by first | (clear hT hNcnt2 h_2 h_3 h_17 h_18; omega) | omega⟩) (fun c_27 y_30 hI_28 hF_29 hy_30 h_31 => (bk_inl ?_)))))))))))
    refine hv_ (ir_42 hI_28 0) (fun h_32 => (hv_ (ir_42 hI_28 1) (fun h_33 => (q_istore c_296_1735 (Nat.le_of_ble_eq_true rfl) (q_goto (t := 1816) c_296_1737 rfl (Wp_ls [(4, vi (i0 : Int)), (3, .ref 67), (2, .ref 41), (1, .ref 0), (0, .ref a_SC)] (lsub_cons rfl (lsub_cons rfl (lsub_cons rfl (lsub_cons rfl (lsub_cons rfl lsub_nil))))) (hv_ (ir_1_3 hI) (fun h_34 => (hv_ (p := Hid (c_4 1 3 = c 1 3)) (hF_6 1 3 (qn_cc1064621 hP)) (fun kn_35 => (hv_ (p := Hid (c_27 1 3 = c 1 3)) ((hF_29 1 3 qn_9d94bd60f).trans (hid kn_35)) (fun kn_36 => ?_))))))))))))
    refine hv_ (p := c_27 1 3 = c 1 3) ((hid kn_36)) (fun h_37 => (hv_ (ir_41_2 hI) (fun h_38 => (hv_ (p := Hid (c_4 41 2 = c 41 2)) (hF_6 41 2 (qn_55346d250 hP)) (fun kn_39 => (hv_ (p := Hid (c_27 41 2 = c 41 2)) ((hF_29 41 2 qn_9f4d5821f).trans (hid kn_39)) (fun kn_40 => (hv_ (p := c_27 41 2 = c 41 2) ((hid kn_40)) (fun h_41 => (hv_ (p := Hid (c_4 P 0 = n0)) ((hF_6 P 0 (qn_1a125c37c hP)).trans (hn0)) (fun kn_42 => (hv_ (p := Hid (c_27 P 0 = n0)) ((hF_29 P 0 (qn_3dda11c13 hP)).trans (hid kn_42)) (fun kn_43 => (hv_ (p := c_27 P 0 = n0) ((hid kn_43)) (fun h_44 => ?_)))))))))))))))
    refine hv_ (p := Hid (c_27 41 20 = n0)) ((hF_29 41 20 qn_de1d671ad).trans (hid kn_19)) (fun kn_45 => (hv_ (p := c_27 41 20 = n0) ((hid kn_45)) (fun h_46 => (hv_ (p := Hid (c_4 P 1 = n1)) ((hF_6 P 1 (qn_1a125c37c hP)).trans (hn1)) (fun kn_47 => (hv_ (p := Hid (c_27 P 1 = n1)) ((hF_29 P 1 (qn_3dda11c13 hP)).trans (hid kn_47)) (fun kn_48 => (hv_ (p := c_27 P 1 = n1) ((hid kn_48)) (fun h_49 => (hv_ (p := Hid (c_4 41 21 = n1)) ((hF_6 41 21 (qn_55346d250 hP)).trans (hm1)) (fun kn_50 => (hv_ (p := Hid (c_27 41 21 = n1)) ((hF_29 41 21 qn_b0c4591b1).trans (hid kn_50)) (fun kn_51 => (hv_ (p := c_27 41 21 = n1) ((hid kn_51)) (fun h_52 => ?_)))))))))))))))
    refine hv_ (p := Hid (c_4 P 2 = n2)) ((hF_6 P 2 (qn_1a125c37c hP)).trans (hn2)) (fun kn_53 => (hv_ (p := Hid (c_27 P 2 = n2)) ((hF_29 P 2 (qn_3dda11c13 hP)).trans (hid kn_53)) (fun kn_54 => (hv_ (p := c_27 P 2 = n2) ((hid kn_54)) (fun h_55 => (hv_ (p := Hid (c_4 41 22 = n2)) ((hF_6 41 22 (qn_55346d250 hP)).trans (hm2)) (fun kn_56 => (hv_ (p := Hid (c_27 41 22 = n2)) ((hF_29 41 22 qn_00a455246).trans (hid kn_56)) (fun kn_57 => (hv_ (p := c_27 41 22 = n2) ((hid kn_57)) (fun h_58 => (hv_ (p := Hid (c_4 P 3 = n3)) ((hF_6 P 3 (qn_1a125c37c hP)).trans (hn3)) (fun kn_59 => (hv_ (p := Hid (c_27 P 3 = n3)) ((hF_29 P 3 (qn_3dda11c13 hP)).trans (hid kn_59)) (fun kn_60 => ?_)))))))))))))))
    refine hv_ (p := c_27 P 3 = n3) ((hid kn_60)) (fun h_61 => (hv_ (p := Hid (c_4 41 23 = n3)) ((hF_6 41 23 (qn_55346d250 hP)).trans (hm3)) (fun kn_62 => (hv_ (p := Hid (c_27 41 23 = n3)) ((hF_29 41 23 qn_375070522).trans (hid kn_62)) (fun kn_63 => (hv_ (p := c_27 41 23 = n3) ((hid kn_63)) (fun h_64 => (hv_ (p := Hid (c_4 0 12 = c 0 12)) (hF_6 0 12 (qn_2cd0c41a4 hP)) (fun kn_65 => (hv_ (p := Hid (c_27 0 12 = c 0 12)) ((hF_29 0 12 qn_eb42f2a25).trans (hid kn_65)) (fun kn_66 => (hv_ (p := c_27 0 12 = c 0 12) ((hid kn_66)) (fun h_67 => (hv_ (p := c_27 42 0 = c_27 42 0) (rfl) (fun h_68 => ?_)))))))))))))))
    refine hv_ (p := Hid (c_27 0 13 = c_4 0 13)) (hF_29 0 13 qn_eb42f2a25) (fun kn_69 => (hv_ (p := c_27 0 13 = c_4 0 13) ((hid kn_69)) (fun h_70 => (hv_ (p := c_27 42 1 = c_27 42 1) (rfl) (fun h_71 => ?_)))))
    exact K P Q c_27 1 (of_decide_eq_true rfl) hI_28 ⟨by omega, ub_fr hU (fun j => (hF_29 2 j qn_ea1d8203a).trans (hF_6 2 j (qn_11c530ba0 hP))) (fun j => (hF_29 43 j qn_921fc31f7).trans (hF_6 43 j (qn_ce891e06c hP))), ⟨by omega, by omega, by omega, by omega⟩, ⟨by omega, by omega⟩⟩
  refine bk_inl (hv_ (ir_0_12 hI_11) (fun h_72 => (hv_ (ir_0_13 hI_11) (fun h_73 => (v_i2l c_295_16 (by omega) (v_ls c_295_17 rfl (of_decide_eq_true rfl) (of_decide_eq_true rfl) (of_decide_eq_true rfl) (q_goto (t := 25) c_295_18 rfl (q_iconst c_295_25 (q_iret c_295_26 rfl ?_)))))))))
  refine bk_inl (q_istore c_296_1692 (Nat.le_of_ble_eq_true rfl) (q_aload_n c_296_1694 rfl (q_aload_n c_296_1695 rfl (q_iload c_296_1696 rfl (q_iconst c_296_1698 (v_iadd (v := (i0 : Int) + 1) c_296_1699 rfl (v_scr (j := i0 + 1) c_296_1700 (by omega) (by omega) hL hx1 ?_)))))))
  refine q_aload_n c_296_1701 rfl (q_iload c_296_1702 rfl (q_iconst c_296_1704 (v_iadd (v := (i0 : Int) + 2) c_296_1705 rfl (v_scr (j := i0 + 2) c_296_1706 (by omega) (by omega) hL hx2 (q_aload_n c_296_1707 rfl (q_iload c_296_1708 rfl (q_iconst c_296_1710 ?_)))))))
  refine v_iadd (v := (i0 : Int) + 3) c_296_1711 rfl (v_scr (j := i0 + 3) c_296_1712 (by omega) (by omega) hL hx3 (q_aload_n c_296_1713 rfl (q_iload c_296_1714 rfl (q_iconst c_296_1716 (v_iadd (v := (i0 : Int) + 4) c_296_1717 rfl (v_scr (j := i0 + 4) c_296_1718 (by omega) (by omega) hL hx4 (q_aload_n c_296_1719 rfl ?_)))))))
  refine q_iload c_296_1720 rfl (q_iconst c_296_1722 (v_iadd (v := (i0 : Int) + 5) c_296_1723 rfl (v_scr (j := i0 + 5) c_296_1724 (by omega) (by omega) hL hx5 (q_aload_n c_296_1725 rfl (q_iload c_296_1726 rfl (v_bip c_296_1728 (of_decide_eq_true rfl) (v_iadd (v := (i0 : Int) + 6) c_296_1730 rfl ?_)))))))
  refine v_scr (j := i0 + 6) c_296_1731 (by omega) (by omega) hL hx6 (hv_ (iw_lx (a := 67) (j := 0) (v := y_13) hI_11 (by omega)) (fun hI_74 => (hv_ (p := Hid (c_10 41 20 = n0)) ((hF_12 41 20 (qn_55346d250 hP)).trans (hm0)) (fun kn_75 => (hv_ (p := (up c_10 67 0 y_13) 41 20 = n0) (((up_c (nn rfl)).trans (hid kn_75))) (fun h_76 => (hv_ (ir_42 hI 0) (fun h_77 => (hv_ (p := Hid (c_10 42 0 = c 42 0)) (hF_12 42 0 (qn_2bc575ef4 hP)) (fun kn_78 => (hv_ (p := (up c_10 67 0 y_13) 42 0 = c 42 0) (((up_c (nn rfl)).trans (hid kn_78))) (fun h_79 => (hv_ (ir_42 hI 1) (fun h_80 => ?_))))))))))))))
  refine hv_ (p := Hid (c_10 42 1 = c 42 1)) (hF_12 42 1 (qn_2bc575ef4 hP)) (fun kn_81 => (hv_ (p := (up c_10 67 0 y_13) 42 1 = c 42 1) (((up_c (nn rfl)).trans (hid kn_81))) (fun h_82 => (v_cv c_296_1732 km_9_255 rfl rfl (Nat.le_of_ble_eq_true rfl) ⟨⟨rfl, rfl⟩, Nat.le_of_ble_eq_true rfl, rfl⟩ (Nat.le_of_ble_eq_true rfl) (Nat.le_of_ble_eq_true rfl) (s_256S (a1 := x1) (a2 := x2) (a3 := x3) (a4 := x4) (a5 := x5) (a6 := x6) hI_74 (show (-2147483648) ≤ x1 ∧ x1 ≤ 2147483647 from ⟨by omega, by omega⟩) (show (-2147483648) ≤ x2 ∧ x2 ≤ 2147483647 from ⟨by first | exact q_01dd0d824 h_14 h_1 | omega, by first | exact q_00e0cf3ce h_14 h_1 | omega⟩) (show (-2147483648) ≤ x3 ∧ x3 ≤ 2147483647 from ⟨by first | exact q_c320f2d8b h_14 h_1 | omega, by first | exact q_896c4049d h_14 h_1 | omega⟩) (show (-2147483648) ≤ x4 ∧ x4 ≤ 2147483647 from ⟨by first | exact q_653afc6e0 h_14 h_1 | omega, by first | exact q_6846d3c1f h_14 h_1 | omega⟩) (show (-2147483648) ≤ x5 ∧ x5 ≤ 2147483647 from ⟨by first | exact q_745a1f233 h_14 h_1 | omega, by first | exact q_f26cf834a h_14 h_1 | omega⟩) (show (-2147483648) ≤ x6 ∧ x6 ≤ 2147483647 from ⟨by first | exact q_1cf78d553 h_14 h_1 | omega, by omega⟩) (fun c_83 y_86 hI_84 hF_85 hy_86 h_87 => (bk_inl (hv_ (ir_42 hI_84 0) (fun h_88 => (hv_ (ir_42 hI_84 1) (fun h_89 => (q_istore c_296_1735 (Nat.le_of_ble_eq_true rfl) (q_goto (t := 1816) c_296_1737 rfl ?_)))))))))))))
  refine Wp_ls [(4, vi (i0 : Int)), (3, .ref 67), (2, .ref 41), (1, .ref 0), (0, .ref a_SC)] (lsub_cons rfl (lsub_cons rfl (lsub_cons rfl (lsub_cons rfl (lsub_cons rfl lsub_nil))))) (hv_ (ir_1_3 hI) (fun h_90 => (hv_ (p := Hid (c_10 1 3 = c 1 3)) (hF_12 1 3 (qn_cc1064621 hP)) (fun kn_91 => (hv_ (p := Hid (c_83 1 3 = c 1 3)) ((hF_85 1 3 qn_9d94bd60f).trans ((up_c (nn rfl)).trans (hid kn_91))) (fun kn_92 => (hv_ (p := c_83 1 3 = c 1 3) ((hid kn_92)) (fun h_93 => (hv_ (ir_41_2 hI) (fun h_94 => (hv_ (p := Hid (c_10 41 2 = c 41 2)) (hF_12 41 2 (qn_55346d250 hP)) (fun kn_95 => (hv_ (p := Hid (c_83 41 2 = c 41 2)) ((hF_85 41 2 qn_9f4d5821f).trans ((up_c (nn rfl)).trans (hid kn_95))) (fun kn_96 => ?_))))))))))))))
  refine hv_ (p := c_83 41 2 = c 41 2) ((hid kn_96)) (fun h_97 => (hv_ (p := Hid (c_10 P 0 = n0)) ((hF_12 P 0 (qn_1a125c37c hP)).trans (hn0)) (fun kn_98 => (hv_ (p := Hid (c_83 P 0 = n0)) ((hF_85 P 0 (qn_3dda11c13 hP)).trans ((up_c (np0 hP rfl)).trans (hid kn_98))) (fun kn_99 => (hv_ (p := c_83 P 0 = n0) ((hid kn_99)) (fun h_100 => (hv_ (p := Hid (c_83 41 20 = n0)) ((hF_85 41 20 qn_de1d671ad).trans ((up_c (nn rfl)).trans (hid kn_75))) (fun kn_101 => (hv_ (p := c_83 41 20 = n0) ((hid kn_101)) (fun h_102 => (hv_ (p := Hid (c_10 P 1 = n1)) ((hF_12 P 1 (qn_1a125c37c hP)).trans (hn1)) (fun kn_103 => (hv_ (p := Hid (c_83 P 1 = n1)) ((hF_85 P 1 (qn_3dda11c13 hP)).trans ((up_c (np0 hP rfl)).trans (hid kn_103))) (fun kn_104 => ?_)))))))))))))))
  refine hv_ (p := c_83 P 1 = n1) ((hid kn_104)) (fun h_105 => (hv_ (p := Hid (c_10 41 21 = n1)) ((hF_12 41 21 (qn_55346d250 hP)).trans (hm1)) (fun kn_106 => (hv_ (p := Hid (c_83 41 21 = n1)) ((hF_85 41 21 qn_b0c4591b1).trans ((up_c (nn rfl)).trans (hid kn_106))) (fun kn_107 => (hv_ (p := c_83 41 21 = n1) ((hid kn_107)) (fun h_108 => (hv_ (p := Hid (c_10 P 2 = n2)) ((hF_12 P 2 (qn_1a125c37c hP)).trans (hn2)) (fun kn_109 => (hv_ (p := Hid (c_83 P 2 = n2)) ((hF_85 P 2 (qn_3dda11c13 hP)).trans ((up_c (np0 hP rfl)).trans (hid kn_109))) (fun kn_110 => (hv_ (p := c_83 P 2 = n2) ((hid kn_110)) (fun h_111 => (hv_ (p := Hid (c_10 41 22 = n2)) ((hF_12 41 22 (qn_55346d250 hP)).trans (hm2)) (fun kn_112 => ?_)))))))))))))))
  refine hv_ (p := Hid (c_83 41 22 = n2)) ((hF_85 41 22 qn_00a455246).trans ((up_c (nn rfl)).trans (hid kn_112))) (fun kn_113 => (hv_ (p := c_83 41 22 = n2) ((hid kn_113)) (fun h_114 => (hv_ (p := Hid (c_10 P 3 = n3)) ((hF_12 P 3 (qn_1a125c37c hP)).trans (hn3)) (fun kn_115 => (hv_ (p := Hid (c_83 P 3 = n3)) ((hF_85 P 3 (qn_3dda11c13 hP)).trans ((up_c (np0 hP rfl)).trans (hid kn_115))) (fun kn_116 => (hv_ (p := c_83 P 3 = n3) ((hid kn_116)) (fun h_117 => (hv_ (p := Hid (c_10 41 23 = n3)) ((hF_12 41 23 (qn_55346d250 hP)).trans (hm3)) (fun kn_118 => (hv_ (p := Hid (c_83 41 23 = n3)) ((hF_85 41 23 qn_375070522).trans ((up_c (nn rfl)).trans (hid kn_118))) (fun kn_119 => (hv_ (p := c_83 41 23 = n3) ((hid kn_119)) (fun h_120 => ?_)))))))))))))))
  refine hv_ (p := Hid (c_10 0 12 = c 0 12)) (hF_12 0 12 (qn_2cd0c41a4 hP)) (fun kn_121 => (hv_ (p := Hid (c_83 0 12 = c 0 12)) ((hF_85 0 12 qn_eb42f2a25).trans ((up_c (nn rfl)).trans (hid kn_121))) (fun kn_122 => (hv_ (p := c_83 0 12 = c 0 12) ((hid kn_122)) (fun h_123 => (hv_ (p := c_83 42 0 = c_83 42 0) (rfl) (fun h_124 => (hv_ (p := Hid (c_83 0 13 = c_10 0 13)) ((hF_85 0 13 qn_eb42f2a25).trans (up_c (nn rfl))) (fun kn_125 => (hv_ (p := c_83 0 13 = c_10 0 13) ((hid kn_125)) (fun h_126 => (hv_ (p := c_83 42 1 = c_83 42 1) (rfl) (fun h_127 => ?_)))))))))))))
  exact K P Q c_83 0 (of_decide_eq_true rfl) hI_84 ⟨by omega, ub_fr hU (fun j => (hF_85 2 j qn_ea1d8203a).trans ((up_c (nn rfl)).trans (hF_12 2 j (qn_11c530ba0 hP)))) (fun j => (hF_85 43 j qn_921fc31f7).trans ((up_c (nn rfl)).trans (hF_12 43 j (qn_ce891e06c hP)))), ⟨by omega, by omega, by omega, by omega⟩, ⟨by omega, by omega⟩⟩

set_option maxRecDepth 100000 in
set_option maxHeartbeats 4000000 in
theorem o_39 {xs : Nat → Int32} {L i0 d nc ns P Q : Nat} {c : ME} {Z : AR → Prop} (hi : i0 + 8 ≤ L) (hL : L ≤ 100000) (hI : Iv 0 (-1) P Q c) (hR : Rq P c) (K : ∀ (P2 Q2 : Nat) (c2 : ME) (e : Nat), e ≤ 1 → Iv 0 (-1) P2 Q2 c2 → (Rq P2 c2) → Wp (a_scr L xs) (d + 90) 296 1816 [(4, vi (i0 : Int)), (3, .ref 67), (2, .ref 41), (1, .ref 0), (0, .ref a_SC)] [] (Wd P2 Q2 P2 P2 c2) (nc + e) (ns + 6 * e) Z) : Wp (a_scr L xs) (d + 90) 296 1740 [(4, vi (i0 : Int)), (3, .ref 67), (2, .ref 41), (1, .ref 0), (0, .ref a_SC)] [] (Wd P Q P P c) nc ns Z := by
  obtain ⟨x1, hx1⟩ : ∃ z, (xs (i0 + 1)).toInt = z := ⟨_, rfl⟩
  refine hv_ (c_rng (xs (i0 + 1))) (fun x1r => ?_)
  rw [hx1] at x1r
  obtain ⟨x2, hx2⟩ : ∃ z, (xs (i0 + 2)).toInt = z := ⟨_, rfl⟩
  refine hv_ (c_rng (xs (i0 + 2))) (fun x2r => ?_)
  rw [hx2] at x2r
  obtain ⟨x3, hx3⟩ : ∃ z, (xs (i0 + 3)).toInt = z := ⟨_, rfl⟩
  refine hv_ (c_rng (xs (i0 + 3))) (fun x3r => ?_)
  rw [hx3] at x3r
  obtain ⟨x4, hx4⟩ : ∃ z, (xs (i0 + 4)).toInt = z := ⟨_, rfl⟩
  refine hv_ (c_rng (xs (i0 + 4))) (fun x4r => ?_)
  rw [hx4] at x4r
  obtain ⟨x5, hx5⟩ : ∃ z, (xs (i0 + 5)).toInt = z := ⟨_, rfl⟩
  refine hv_ (c_rng (xs (i0 + 5))) (fun x5r => ?_)
  rw [hx5] at x5r
  obtain ⟨x6, hx6⟩ : ∃ z, (xs (i0 + 6)).toInt = z := ⟨_, rfl⟩
  refine hv_ (c_rng (xs (i0 + 6))) (fun x6r => ?_)
  rw [hx6] at x6r
  obtain ⟨x7, hx7⟩ : ∃ z, (xs (i0 + 7)).toInt = z := ⟨_, rfl⟩
  refine hv_ (c_rng (xs (i0 + 7))) (fun x7r => ?_)
  rw [hx7] at x7r
  refine hv_ (iv_P hI) (fun hP => (hv_ (iv_Q hI) (fun hQ => (hv_ (rl_t hR) (fun hT => (hv_ (rl_u hR) (fun hU => ?_)))))))
  obtain ⟨n0, hn0⟩ : ∃ z, c P 0 = z := ⟨_, rfl⟩
  refine hv_ (p := c 41 20 = n0) ((rl_nums hR).1.symm.trans hn0) (fun hm0 => (hv_ (ir_p0_0 hI hP) (fun hr0 => ?_)))
  rw [hn0] at hr0
  obtain ⟨n1, hn1⟩ : ∃ z, c P 1 = z := ⟨_, rfl⟩
  refine hv_ (p := c 41 21 = n1) ((rl_nums hR).2.1.symm.trans hn1) (fun hm1 => (hv_ (ir_p0_1 hI hP) (fun hr1 => ?_)))
  rw [hn1] at hr1
  obtain ⟨n2, hn2⟩ : ∃ z, c P 2 = z := ⟨_, rfl⟩
  refine hv_ (p := c 41 22 = n2) ((rl_nums hR).2.2.1.symm.trans hn2) (fun hm2 => (hv_ (ir_p0_2 hI hP) (fun hr2 => ?_)))
  rw [hn2] at hr2
  obtain ⟨n3, hn3⟩ : ∃ z, c P 3 = z := ⟨_, rfl⟩
  refine hv_ (p := c 41 23 = n3) ((rl_nums hR).2.2.2.symm.trans hn3) (fun hm3 => (hv_ (ir_p0_3 hI hP) (fun hr3 => ?_)))
  rw [hn3] at hr3
  refine hv_ (rl_cnt2 hR) (fun hNcnt2 => (hv_ (rl_cnt2 hR) (fun hNcnt2 => (q_aload_n c_296_1740 rfl (hv_ (ir_3_4 hI) (fun h_1 => (v_cv c_296_1741 km_9_256 rfl rfl (Nat.le_of_ble_eq_true rfl) ⟨⟨rfl, rfl⟩, Nat.le_of_ble_eq_true rfl, rfl⟩ (Nat.le_of_ble_eq_true rfl) (Nat.le_of_ble_eq_true rfl) (s_140 hI (fun c_2 y_5 hI_3 hF_4 hy_5 h_6 => (bk_inl (hv_ (ir_3_4 hI_3) (fun h_7 => (q_pop c_296_1744 rfl ?_)))))))))))))
  refine q_aload_n c_296_1745 rfl (hv_ (ir_41_52 hI) (fun h_8 => (hv_ (p := Hid (c_2 41 52 = c 41 52)) (hF_4 41 52 qn_f4ba2e69c) (fun kn_9 => (hv_ (p := c_2 41 52 = c 41 52) ((hid kn_9)) (fun h_10 => (v_cv c_296_1746 km_9_259 rfl rfl (Nat.le_of_ble_eq_true rfl) ⟨⟨rfl, rfl⟩, Nat.le_of_ble_eq_true rfl, rfl⟩ (Nat.le_of_ble_eq_true rfl) (Nat.le_of_ble_eq_true rfl) (s_259 hI_3 (fun c_11 y_14 hI_12 hF_13 hy_14 h_15 => (bk_inl (hv_ (ir_41_52 hI_12) (fun h_16 => (q_pop c_296_1749 rfl ?_)))))))))))))
  refine q_goto (t := 1816) c_296_1750 rfl (Wp_ls [(4, vi (i0 : Int)), (3, .ref 67), (2, .ref 41), (1, .ref 0), (0, .ref a_SC)] (lsub_cons rfl (lsub_cons rfl (lsub_cons rfl (lsub_cons rfl (lsub_cons rfl lsub_nil))))) (hv_ (ir_1_3 hI) (fun h_17 => (hv_ (p := Hid (c_2 1 3 = c 1 3)) (hF_4 1 3 qn_3963d6a95) (fun kn_18 => (hv_ (p := Hid (c_11 1 3 = c 1 3)) ((hF_13 1 3 qn_aabc2a966).trans (hid kn_18)) (fun kn_19 => (hv_ (p := c_11 1 3 = c 1 3) ((hid kn_19)) (fun h_20 => (hv_ (ir_41_2 hI) (fun h_21 => (hv_ (p := Hid (c_2 41 2 = c 41 2)) (hF_4 41 2 qn_f4ba2e69c) (fun kn_22 => ?_)))))))))))))
  refine hv_ (p := Hid (c_11 41 2 = c 41 2)) ((hF_13 41 2 qn_e34326ac3).trans (hid kn_22)) (fun kn_23 => (hv_ (p := c_11 41 2 = c 41 2) ((hid kn_23)) (fun h_24 => (hv_ (p := Hid (c_2 P 0 = n0)) ((hF_4 P 0 (qn_e7fe3def9 hP)).trans (hn0)) (fun kn_25 => (hv_ (p := Hid (c_11 P 0 = n0)) ((hF_13 P 0 (qn_b12d52035 hP)).trans (hid kn_25)) (fun kn_26 => (hv_ (p := c_11 P 0 = n0) ((hid kn_26)) (fun h_27 => (hv_ (p := Hid (c_2 41 20 = n0)) ((hF_4 41 20 qn_f4ba2e69c).trans (hm0)) (fun kn_28 => (hv_ (p := Hid (c_11 41 20 = n0)) ((hF_13 41 20 qn_96e7afc0f).trans (hid kn_28)) (fun kn_29 => (hv_ (p := c_11 41 20 = n0) ((hid kn_29)) (fun h_30 => ?_)))))))))))))))
  refine hv_ (p := Hid (c_2 P 1 = n1)) ((hF_4 P 1 (qn_e7fe3def9 hP)).trans (hn1)) (fun kn_31 => (hv_ (p := Hid (c_11 P 1 = n1)) ((hF_13 P 1 (qn_b12d52035 hP)).trans (hid kn_31)) (fun kn_32 => (hv_ (p := c_11 P 1 = n1) ((hid kn_32)) (fun h_33 => (hv_ (p := Hid (c_2 41 21 = n1)) ((hF_4 41 21 qn_f4ba2e69c).trans (hm1)) (fun kn_34 => (hv_ (p := Hid (c_11 41 21 = n1)) ((hF_13 41 21 qn_4500485e1).trans (hid kn_34)) (fun kn_35 => (hv_ (p := c_11 41 21 = n1) ((hid kn_35)) (fun h_36 => (hv_ (p := Hid (c_2 P 2 = n2)) ((hF_4 P 2 (qn_e7fe3def9 hP)).trans (hn2)) (fun kn_37 => (hv_ (p := Hid (c_11 P 2 = n2)) ((hF_13 P 2 (qn_b12d52035 hP)).trans (hid kn_37)) (fun kn_38 => ?_)))))))))))))))
  refine hv_ (p := c_11 P 2 = n2) ((hid kn_38)) (fun h_39 => (hv_ (p := Hid (c_2 41 22 = n2)) ((hF_4 41 22 qn_f4ba2e69c).trans (hm2)) (fun kn_40 => (hv_ (p := Hid (c_11 41 22 = n2)) ((hF_13 41 22 qn_0b9077a31).trans (hid kn_40)) (fun kn_41 => (hv_ (p := c_11 41 22 = n2) ((hid kn_41)) (fun h_42 => (hv_ (p := Hid (c_2 P 3 = n3)) ((hF_4 P 3 (qn_e7fe3def9 hP)).trans (hn3)) (fun kn_43 => (hv_ (p := Hid (c_11 P 3 = n3)) ((hF_13 P 3 (qn_b12d52035 hP)).trans (hid kn_43)) (fun kn_44 => (hv_ (p := c_11 P 3 = n3) ((hid kn_44)) (fun h_45 => (hv_ (p := Hid (c_2 41 23 = n3)) ((hF_4 41 23 qn_f4ba2e69c).trans (hm3)) (fun kn_46 => ?_)))))))))))))))
  refine hv_ (p := Hid (c_11 41 23 = n3)) ((hF_13 41 23 qn_630a67155).trans (hid kn_46)) (fun kn_47 => (hv_ (p := c_11 41 23 = n3) ((hid kn_47)) (fun h_48 => (hv_ (ir_0_12 hI) (fun h_49 => (hv_ (p := Hid (c_2 0 12 = c 0 12)) (hF_4 0 12 qn_985a66939) (fun kn_50 => (hv_ (p := Hid (c_11 0 12 = c 0 12)) ((hF_13 0 12 qn_f0cfa2a92).trans (hid kn_50)) (fun kn_51 => (hv_ (p := c_11 0 12 = c 0 12) ((hid kn_51)) (fun h_52 => (hv_ (ir_42 hI 0) (fun h_53 => (hv_ (p := Hid (c_2 42 0 = c 42 0)) (hF_4 42 0 qn_2e9615858) (fun kn_54 => ?_)))))))))))))))
  refine hv_ (p := Hid (c_11 42 0 = c 42 0)) ((hF_13 42 0 qn_019887eb9).trans (hid kn_54)) (fun kn_55 => (hv_ (p := c_11 42 0 = c 42 0) ((hid kn_55)) (fun h_56 => (hv_ (ir_0_13 hI) (fun h_57 => (hv_ (p := Hid (c_2 0 13 = c 0 13)) (hF_4 0 13 qn_985a66939) (fun kn_58 => (hv_ (p := Hid (c_11 0 13 = c 0 13)) ((hF_13 0 13 qn_f0cfa2a92).trans (hid kn_58)) (fun kn_59 => (hv_ (p := c_11 0 13 = c 0 13) ((hid kn_59)) (fun h_60 => (hv_ (ir_42 hI 1) (fun h_61 => (hv_ (p := Hid (c_2 42 1 = c 42 1)) (hF_4 42 1 qn_2e9615858) (fun kn_62 => ?_)))))))))))))))
  refine hv_ (p := Hid (c_11 42 1 = c 42 1)) ((hF_13 42 1 qn_019887eb9).trans (hid kn_62)) (fun kn_63 => (hv_ (p := c_11 42 1 = c 42 1) ((hid kn_63)) (fun h_64 => ?_)))
  exact K P Q c_11 0 (of_decide_eq_true rfl) hI_12 ⟨by omega, ub_fr hU (fun j => (hF_13 2 j qn_211572161).trans (hF_4 2 j qn_7006423a9)) (fun j => (hF_13 43 j qn_42e8f904a).trans (hF_4 43 j qn_7439fdc4f)), ⟨by omega, by omega, by omega, by omega⟩, ⟨by omega, by omega⟩⟩

set_option maxRecDepth 100000 in
set_option maxHeartbeats 4000000 in
theorem o_40 {xs : Nat → Int32} {L i0 d nc ns P Q : Nat} {c : ME} {Z : AR → Prop} (hi : i0 + 8 ≤ L) (hL : L ≤ 100000) (hI : Iv 0 (-1) P Q c) (hR : Rq P c) (K : ∀ (P2 Q2 : Nat) (c2 : ME) (e : Nat), e ≤ 1 → Iv 0 (-1) P2 Q2 c2 → (Rq P2 c2) → Wp (a_scr L xs) (d + 90) 296 1816 [(4, vi (i0 : Int)), (3, .ref 67), (2, .ref 41), (1, .ref 0), (0, .ref a_SC)] [] (Wd P2 Q2 P2 P2 c2) (nc + e) (ns + 6 * e) Z) : Wp (a_scr L xs) (d + 90) 296 1753 [(4, vi (i0 : Int)), (3, .ref 67), (2, .ref 41), (1, .ref 0), (0, .ref a_SC)] [] (Wd P Q P P c) nc ns Z := by
  obtain ⟨x1, hx1⟩ : ∃ z, (xs (i0 + 1)).toInt = z := ⟨_, rfl⟩
  refine hv_ (c_rng (xs (i0 + 1))) (fun x1r => ?_)
  rw [hx1] at x1r
  obtain ⟨x2, hx2⟩ : ∃ z, (xs (i0 + 2)).toInt = z := ⟨_, rfl⟩
  refine hv_ (c_rng (xs (i0 + 2))) (fun x2r => ?_)
  rw [hx2] at x2r
  obtain ⟨x3, hx3⟩ : ∃ z, (xs (i0 + 3)).toInt = z := ⟨_, rfl⟩
  refine hv_ (c_rng (xs (i0 + 3))) (fun x3r => ?_)
  rw [hx3] at x3r
  obtain ⟨x4, hx4⟩ : ∃ z, (xs (i0 + 4)).toInt = z := ⟨_, rfl⟩
  refine hv_ (c_rng (xs (i0 + 4))) (fun x4r => ?_)
  rw [hx4] at x4r
  obtain ⟨x5, hx5⟩ : ∃ z, (xs (i0 + 5)).toInt = z := ⟨_, rfl⟩
  refine hv_ (c_rng (xs (i0 + 5))) (fun x5r => ?_)
  rw [hx5] at x5r
  obtain ⟨x6, hx6⟩ : ∃ z, (xs (i0 + 6)).toInt = z := ⟨_, rfl⟩
  refine hv_ (c_rng (xs (i0 + 6))) (fun x6r => ?_)
  rw [hx6] at x6r
  obtain ⟨x7, hx7⟩ : ∃ z, (xs (i0 + 7)).toInt = z := ⟨_, rfl⟩
  refine hv_ (c_rng (xs (i0 + 7))) (fun x7r => ?_)
  rw [hx7] at x7r
  refine hv_ (iv_P hI) (fun hP => (hv_ (iv_Q hI) (fun hQ => (hv_ (rl_t hR) (fun hT => (hv_ (rl_u hR) (fun hU => ?_)))))))
  obtain ⟨n0, hn0⟩ : ∃ z, c P 0 = z := ⟨_, rfl⟩
  refine hv_ (p := c 41 20 = n0) ((rl_nums hR).1.symm.trans hn0) (fun hm0 => (hv_ (ir_p0_0 hI hP) (fun hr0 => ?_)))
  rw [hn0] at hr0
  obtain ⟨n1, hn1⟩ : ∃ z, c P 1 = z := ⟨_, rfl⟩
  refine hv_ (p := c 41 21 = n1) ((rl_nums hR).2.1.symm.trans hn1) (fun hm1 => (hv_ (ir_p0_1 hI hP) (fun hr1 => ?_)))
  rw [hn1] at hr1
  obtain ⟨n2, hn2⟩ : ∃ z, c P 2 = z := ⟨_, rfl⟩
  refine hv_ (p := c 41 22 = n2) ((rl_nums hR).2.2.1.symm.trans hn2) (fun hm2 => (hv_ (ir_p0_2 hI hP) (fun hr2 => ?_)))
  rw [hn2] at hr2
  obtain ⟨n3, hn3⟩ : ∃ z, c P 3 = z := ⟨_, rfl⟩
  refine hv_ (p := c 41 23 = n3) ((rl_nums hR).2.2.2.symm.trans hn3) (fun hm3 => (hv_ (ir_p0_3 hI hP) (fun hr3 => ?_)))
  rw [hn3] at hr3
  refine hv_ (rl_cnt2 hR) (fun hNcnt2 => (hv_ (rl_cnt2 hR) (fun hNcnt2 => (q_aload_n c_296_1753 rfl (hv_ (ir_3_4 hI) (fun h_1 => (v_cv c_296_1754 km_9_260 rfl rfl (Nat.le_of_ble_eq_true rfl) ⟨⟨rfl, rfl⟩, Nat.le_of_ble_eq_true rfl, rfl⟩ (Nat.le_of_ble_eq_true rfl) (Nat.le_of_ble_eq_true rfl) (s_141 hI (fun c_2 y_5 hI_3 hF_4 hy_5 h_6 => (bk_inl (hv_ (ir_3_4 hI_3) (fun h_7 => (q_pop c_296_1757 rfl ?_)))))))))))))
  refine q_aload_n c_296_1758 rfl (hv_ (ir_41_52 hI) (fun h_8 => (hv_ (p := Hid (c_2 41 52 = c 41 52)) (hF_4 41 52 qn_4fc69d39d) (fun kn_9 => (hv_ (p := c_2 41 52 = c 41 52) ((hid kn_9)) (fun h_10 => (v_cv c_296_1759 km_9_263 rfl rfl (Nat.le_of_ble_eq_true rfl) ⟨⟨rfl, rfl⟩, Nat.le_of_ble_eq_true rfl, rfl⟩ (Nat.le_of_ble_eq_true rfl) (Nat.le_of_ble_eq_true rfl) (s_260 hI_3 (fun c_11 y_14 hI_12 hF_13 hy_14 h_15 => (bk_inl (hv_ (ir_41_52 hI_12) (fun h_16 => (q_pop c_296_1762 rfl ?_)))))))))))))
  refine q_goto (t := 1816) c_296_1763 rfl (Wp_ls [(4, vi (i0 : Int)), (3, .ref 67), (2, .ref 41), (1, .ref 0), (0, .ref a_SC)] (lsub_cons rfl (lsub_cons rfl (lsub_cons rfl (lsub_cons rfl (lsub_cons rfl lsub_nil))))) (hv_ (ir_1_3 hI) (fun h_17 => (hv_ (p := Hid (c_2 1 3 = c 1 3)) (hF_4 1 3 qn_5ca552781) (fun kn_18 => (hv_ (p := Hid (c_11 1 3 = c 1 3)) ((hF_13 1 3 qn_bf90d08f5).trans (hid kn_18)) (fun kn_19 => (hv_ (p := c_11 1 3 = c 1 3) ((hid kn_19)) (fun h_20 => (hv_ (ir_41_2 hI) (fun h_21 => (hv_ (p := Hid (c_2 41 2 = c 41 2)) (hF_4 41 2 qn_4fc69d39d) (fun kn_22 => ?_)))))))))))))
  refine hv_ (p := Hid (c_11 41 2 = c 41 2)) ((hF_13 41 2 qn_210722190).trans (hid kn_22)) (fun kn_23 => (hv_ (p := c_11 41 2 = c 41 2) ((hid kn_23)) (fun h_24 => (hv_ (p := Hid (c_2 P 0 = n0)) ((hF_4 P 0 (qn_7215934c9 hP)).trans (hn0)) (fun kn_25 => (hv_ (p := Hid (c_11 P 0 = n0)) ((hF_13 P 0 (qn_5c78a3247 hP)).trans (hid kn_25)) (fun kn_26 => (hv_ (p := c_11 P 0 = n0) ((hid kn_26)) (fun h_27 => (hv_ (p := Hid (c_2 41 20 = n0)) ((hF_4 41 20 qn_4fc69d39d).trans (hm0)) (fun kn_28 => (hv_ (p := Hid (c_11 41 20 = n0)) ((hF_13 41 20 qn_bec273e05).trans (hid kn_28)) (fun kn_29 => (hv_ (p := c_11 41 20 = n0) ((hid kn_29)) (fun h_30 => ?_)))))))))))))))
  refine hv_ (p := Hid (c_2 P 1 = n1)) ((hF_4 P 1 (qn_7215934c9 hP)).trans (hn1)) (fun kn_31 => (hv_ (p := Hid (c_11 P 1 = n1)) ((hF_13 P 1 (qn_5c78a3247 hP)).trans (hid kn_31)) (fun kn_32 => (hv_ (p := c_11 P 1 = n1) ((hid kn_32)) (fun h_33 => (hv_ (p := Hid (c_2 41 21 = n1)) ((hF_4 41 21 qn_4fc69d39d).trans (hm1)) (fun kn_34 => (hv_ (p := Hid (c_11 41 21 = n1)) ((hF_13 41 21 qn_494f93e1c).trans (hid kn_34)) (fun kn_35 => (hv_ (p := c_11 41 21 = n1) ((hid kn_35)) (fun h_36 => (hv_ (p := Hid (c_2 P 2 = n2)) ((hF_4 P 2 (qn_7215934c9 hP)).trans (hn2)) (fun kn_37 => (hv_ (p := Hid (c_11 P 2 = n2)) ((hF_13 P 2 (qn_5c78a3247 hP)).trans (hid kn_37)) (fun kn_38 => ?_)))))))))))))))
  refine hv_ (p := c_11 P 2 = n2) ((hid kn_38)) (fun h_39 => (hv_ (p := Hid (c_2 41 22 = n2)) ((hF_4 41 22 qn_4fc69d39d).trans (hm2)) (fun kn_40 => (hv_ (p := Hid (c_11 41 22 = n2)) ((hF_13 41 22 qn_dbb4118f0).trans (hid kn_40)) (fun kn_41 => (hv_ (p := c_11 41 22 = n2) ((hid kn_41)) (fun h_42 => (hv_ (p := Hid (c_2 P 3 = n3)) ((hF_4 P 3 (qn_7215934c9 hP)).trans (hn3)) (fun kn_43 => (hv_ (p := Hid (c_11 P 3 = n3)) ((hF_13 P 3 (qn_5c78a3247 hP)).trans (hid kn_43)) (fun kn_44 => (hv_ (p := c_11 P 3 = n3) ((hid kn_44)) (fun h_45 => (hv_ (p := Hid (c_2 41 23 = n3)) ((hF_4 41 23 qn_4fc69d39d).trans (hm3)) (fun kn_46 => ?_)))))))))))))))
  refine hv_ (p := Hid (c_11 41 23 = n3)) ((hF_13 41 23 qn_26d3ef373).trans (hid kn_46)) (fun kn_47 => (hv_ (p := c_11 41 23 = n3) ((hid kn_47)) (fun h_48 => (hv_ (ir_0_12 hI) (fun h_49 => (hv_ (p := Hid (c_2 0 12 = c 0 12)) (hF_4 0 12 qn_11d6a4395) (fun kn_50 => (hv_ (p := Hid (c_11 0 12 = c 0 12)) ((hF_13 0 12 qn_992dc5ab8).trans (hid kn_50)) (fun kn_51 => (hv_ (p := c_11 0 12 = c 0 12) ((hid kn_51)) (fun h_52 => (hv_ (ir_42 hI 0) (fun h_53 => (hv_ (p := Hid (c_2 42 0 = c 42 0)) (hF_4 42 0 qn_a2d6ef2bf) (fun kn_54 => ?_)))))))))))))))
  refine hv_ (p := Hid (c_11 42 0 = c 42 0)) ((hF_13 42 0 qn_7c917220c).trans (hid kn_54)) (fun kn_55 => (hv_ (p := c_11 42 0 = c 42 0) ((hid kn_55)) (fun h_56 => (hv_ (ir_0_13 hI) (fun h_57 => (hv_ (p := Hid (c_2 0 13 = c 0 13)) (hF_4 0 13 qn_6a4a641a3) (fun kn_58 => (hv_ (p := Hid (c_11 0 13 = c 0 13)) ((hF_13 0 13 qn_992dc5ab8).trans (hid kn_58)) (fun kn_59 => (hv_ (p := c_11 0 13 = c 0 13) ((hid kn_59)) (fun h_60 => (hv_ (ir_42 hI 1) (fun h_61 => (hv_ (p := Hid (c_2 42 1 = c 42 1)) (hF_4 42 1 qn_a2d6ef2bf) (fun kn_62 => ?_)))))))))))))))
  refine hv_ (p := Hid (c_11 42 1 = c 42 1)) ((hF_13 42 1 qn_7c917220c).trans (hid kn_62)) (fun kn_63 => (hv_ (p := c_11 42 1 = c 42 1) ((hid kn_63)) (fun h_64 => ?_)))
  exact K P Q c_11 0 (of_decide_eq_true rfl) hI_12 ⟨by omega, ub_fr hU (fun j => (hF_13 2 j qn_da2ba65fc).trans (hF_4 2 j qn_b09292c1d)) (fun j => (hF_13 43 j qn_9179bb198).trans (hF_4 43 j qn_2ecc35740)), ⟨by omega, by omega, by omega, by omega⟩, ⟨by omega, by omega⟩⟩

set_option maxRecDepth 100000 in
set_option maxHeartbeats 4000000 in
theorem o_41 {xs : Nat → Int32} {L i0 d nc ns P Q : Nat} {c : ME} {Z : AR → Prop} (hi : i0 + 8 ≤ L) (hL : L ≤ 100000) (hI : Iv 0 (-1) P Q c) (hR : Rq P c) (K : ∀ (P2 Q2 : Nat) (c2 : ME) (e : Nat), e ≤ 1 → Iv 0 (-1) P2 Q2 c2 → (Rq P2 c2) → Wp (a_scr L xs) (d + 90) 296 1816 [(4, vi (i0 : Int)), (3, .ref 67), (2, .ref 41), (1, .ref 0), (0, .ref a_SC)] [] (Wd P2 Q2 P2 P2 c2) (nc + e) (ns + 6 * e) Z) : Wp (a_scr L xs) (d + 90) 296 1766 [(4, vi (i0 : Int)), (3, .ref 67), (2, .ref 41), (1, .ref 0), (0, .ref a_SC)] [] (Wd P Q P P c) nc ns Z := by
  obtain ⟨x1, hx1⟩ : ∃ z, (xs (i0 + 1)).toInt = z := ⟨_, rfl⟩
  refine hv_ (c_rng (xs (i0 + 1))) (fun x1r => ?_)
  rw [hx1] at x1r
  obtain ⟨x2, hx2⟩ : ∃ z, (xs (i0 + 2)).toInt = z := ⟨_, rfl⟩
  refine hv_ (c_rng (xs (i0 + 2))) (fun x2r => ?_)
  rw [hx2] at x2r
  obtain ⟨x3, hx3⟩ : ∃ z, (xs (i0 + 3)).toInt = z := ⟨_, rfl⟩
  refine hv_ (c_rng (xs (i0 + 3))) (fun x3r => ?_)
  rw [hx3] at x3r
  obtain ⟨x4, hx4⟩ : ∃ z, (xs (i0 + 4)).toInt = z := ⟨_, rfl⟩
  refine hv_ (c_rng (xs (i0 + 4))) (fun x4r => ?_)
  rw [hx4] at x4r
  obtain ⟨x5, hx5⟩ : ∃ z, (xs (i0 + 5)).toInt = z := ⟨_, rfl⟩
  refine hv_ (c_rng (xs (i0 + 5))) (fun x5r => ?_)
  rw [hx5] at x5r
  obtain ⟨x6, hx6⟩ : ∃ z, (xs (i0 + 6)).toInt = z := ⟨_, rfl⟩
  refine hv_ (c_rng (xs (i0 + 6))) (fun x6r => ?_)
  rw [hx6] at x6r
  obtain ⟨x7, hx7⟩ : ∃ z, (xs (i0 + 7)).toInt = z := ⟨_, rfl⟩
  refine hv_ (c_rng (xs (i0 + 7))) (fun x7r => ?_)
  rw [hx7] at x7r
  refine hv_ (iv_P hI) (fun hP => (hv_ (iv_Q hI) (fun hQ => (hv_ (rl_t hR) (fun hT => (hv_ (rl_u hR) (fun hU => ?_)))))))
  obtain ⟨n0, hn0⟩ : ∃ z, c P 0 = z := ⟨_, rfl⟩
  refine hv_ (p := c 41 20 = n0) ((rl_nums hR).1.symm.trans hn0) (fun hm0 => (hv_ (ir_p0_0 hI hP) (fun hr0 => ?_)))
  rw [hn0] at hr0
  obtain ⟨n1, hn1⟩ : ∃ z, c P 1 = z := ⟨_, rfl⟩
  refine hv_ (p := c 41 21 = n1) ((rl_nums hR).2.1.symm.trans hn1) (fun hm1 => (hv_ (ir_p0_1 hI hP) (fun hr1 => ?_)))
  rw [hn1] at hr1
  obtain ⟨n2, hn2⟩ : ∃ z, c P 2 = z := ⟨_, rfl⟩
  refine hv_ (p := c 41 22 = n2) ((rl_nums hR).2.2.1.symm.trans hn2) (fun hm2 => (hv_ (ir_p0_2 hI hP) (fun hr2 => ?_)))
  rw [hn2] at hr2
  obtain ⟨n3, hn3⟩ : ∃ z, c P 3 = z := ⟨_, rfl⟩
  refine hv_ (p := c 41 23 = n3) ((rl_nums hR).2.2.2.symm.trans hn3) (fun hm3 => (hv_ (ir_p0_3 hI hP) (fun hr3 => ?_)))
  rw [hn3] at hr3
  refine hv_ (rl_cnt2 hR) (fun hNcnt2 => (hv_ (rl_cnt2 hR) (fun hNcnt2 => (q_aload_n c_296_1766 rfl (q_aload_n c_296_1767 rfl (q_iload c_296_1768 rfl (q_iconst c_296_1770 (v_iadd (v := (i0 : Int) + 1) c_296_1771 rfl (v_scr (j := i0 + 1) c_296_1772 (by omega) (by omega) hL hx1 ?_)))))))))
  refine v_cv c_296_1773 km_9_264 rfl rfl (Nat.le_of_ble_eq_true rfl) ⟨⟨rfl, rfl⟩, Nat.le_of_ble_eq_true rfl, rfl⟩ (Nat.le_of_ble_eq_true rfl) (Nat.le_of_ble_eq_true rfl) (q_iload_n c_142_0 rfl ?_)
  by_cases h_1 : x1 = 0
  · refine v_lsw (t := 28) (off := 27) 0 c_142_1 (by omega) (of_decide_eq_true rfl) (of_decide_eq_true rfl) (of_decide_eq_true rfl) (of_decide_eq_true rfl) (q_aload_n c_142_28 rfl (hv_ (ir_0_12 hI) (fun h_2 => (v_gi (z := 12) (v := c 0 12) c_142_29 kf_7_327 rfl (Nat.le_of_ble_eq_true rfl) rfl rfl rfl (q_iret c_142_32 rfl (bk_inl (q_aload_n c_296_1776 rfl (q_aload_n c_296_1777 rfl ?_))))))))
    refine q_iload c_296_1778 rfl (q_iconst c_296_1780 (v_iadd (v := (i0 : Int) + 1) c_296_1781 rfl (v_scr (j := i0 + 1) c_296_1782 (by omega) (by omega) hL hx1 (v_cv c_296_1783 km_9_267 rfl rfl (Nat.le_of_ble_eq_true rfl) ⟨⟨rfl, rfl⟩, Nat.le_of_ble_eq_true rfl, rfl⟩ (Nat.le_of_ble_eq_true rfl) (Nat.le_of_ble_eq_true rfl) (q_aload_n c_261_0 rfl (q_iconst c_261_1 (v_pi (z := 0) c_261_2 kf_8_3 rfl (Nat.le_of_ble_eq_true rfl) rfl rfl rfl (of_decide_eq_true rfl) ?_)))))))
    refine q_iload_n c_261_5 rfl (q_iconst c_261_6 (q_iconst c_261_7 (q_call c_261_8 rfl rfl rfl (q_iload_n c_146_0 rfl (q_iload_n c_146_1 rfl (v_ic_lt_f (t := 14) c_146_2 rfl ⟨of_decide_eq_true rfl, by first | exact q_7e599b6d7 h_1 | omega, by first | exact q_1e40ff458 h_1 | omega⟩ (q_iload_n c_146_5 rfl ?_)))))))
    refine q_iload_n c_146_6 rfl (v_ic_gt_f (t := 14) c_146_7 rfl ⟨by first | exact q_a8f1f275b h_1 | omega, by first | exact q_408ec400e h_1 | omega, of_decide_eq_true rfl⟩ (q_iconst c_146_10 (q_goto (t := 15) c_146_11 rfl (v_zret c_146_15 rfl (of_decide_eq_true rfl) (bk_inl (v_if_eq_f (t := 23) c_261_11 rfl (of_decide_eq_true rfl) ?_))))))
    rw [show x1 = 0 from by omega]
    refine q_aload_n c_261_14 rfl (v_gr (t := 42) c_261_15 kf_8_7 rfl (Nat.le_of_ble_eq_true rfl) rfl (q_iload_n c_261_18 rfl (hv_ (ir_42 hI 0) (fun h_3 => (v_ia (v := c 42 0) c_261_19 rfl (of_decide_eq_true rfl) (of_decide_eq_true rfl) (of_decide_eq_true rfl) (up_c (nn rfl)) (q_goto (t := 24) c_261_20 rfl (q_iret c_261_24 rfl (bk_inl ?_))))))))
    refine v_ic_eq_t (t := 1816) c_296_1786 rfl (by omega) (hv_ (iw_41_0 (v := 0) hI ⟨of_decide_eq_true rfl, of_decide_eq_true rfl⟩) (fun hI_4 => (Wp_ls [(4, vi (i0 : Int)), (3, .ref 67), (2, .ref 41), (1, .ref 0), (0, .ref a_SC)] (lsub_cons rfl (lsub_cons rfl (lsub_cons rfl (lsub_cons rfl (lsub_cons rfl lsub_nil))))) (hv_ (ir_1_3 hI) (fun h_5 => (hv_ (p := (up c 41 0 0) 1 3 = c 1 3) ((up_c (nn rfl))) (fun h_6 => (hv_ (ir_41_2 hI) (fun h_7 => (hv_ (p := (up c 41 0 0) 41 2 = c 41 2) ((up_n (ni rfl))) (fun h_8 => (hv_ (p := (up c 41 0 0) P 0 = n0) (((up_c (np0 hP rfl)).trans (hn0))) (fun h_9 => ?_)))))))))))))
    refine hv_ (p := (up c 41 0 0) 41 20 = n0) (((up_n (ni rfl)).trans (hm0))) (fun h_10 => (hv_ (p := (up c 41 0 0) P 1 = n1) (((up_c (np0 hP rfl)).trans (hn1))) (fun h_11 => (hv_ (p := (up c 41 0 0) 41 21 = n1) (((up_n (ni rfl)).trans (hm1))) (fun h_12 => (hv_ (p := (up c 41 0 0) P 2 = n2) (((up_c (np0 hP rfl)).trans (hn2))) (fun h_13 => (hv_ (p := (up c 41 0 0) 41 22 = n2) (((up_n (ni rfl)).trans (hm2))) (fun h_14 => (hv_ (p := (up c 41 0 0) P 3 = n3) (((up_c (np0 hP rfl)).trans (hn3))) (fun h_15 => (hv_ (p := (up c 41 0 0) 41 23 = n3) (((up_n (ni rfl)).trans (hm3))) (fun h_16 => (hv_ (p := (up c 41 0 0) 0 12 = c 0 12) ((up_c (nn rfl))) (fun h_17 => ?_)))))))))))))))
    refine hv_ (p := (up c 41 0 0) 42 0 = c 42 0) ((up_c (nn rfl))) (fun h_18 => (hv_ (ir_0_13 hI) (fun h_19 => (hv_ (p := (up c 41 0 0) 0 13 = c 0 13) ((up_c (nn rfl))) (fun h_20 => (hv_ (ir_42 hI 1) (fun h_21 => (hv_ (p := (up c 41 0 0) 42 1 = c 42 1) ((up_c (nn rfl))) (fun h_22 => ?_)))))))))
    exact K P Q (up c 41 0 0) 0 (of_decide_eq_true rfl) hI_4 ⟨by omega, ub_fr hU (fun j => up_c (nn rfl)) (fun j => up_c (nn rfl)), ⟨by omega, by omega, by omega, by omega⟩, ⟨by omega, by omega⟩⟩
  by_cases h_23 : x1 = 1
  · refine v_lsw (t := 33) (off := 32) 1 c_142_1 (by omega) (of_decide_eq_true rfl) (of_decide_eq_true rfl) (of_decide_eq_true rfl) (of_decide_eq_true rfl) (q_aload_n c_142_33 rfl (hv_ (ir_0_13 hI) (fun h_24 => (v_gi (z := 13) (v := c 0 13) c_142_34 kf_7_330 rfl (Nat.le_of_ble_eq_true rfl) rfl rfl rfl (q_iret c_142_37 rfl (bk_inl (q_aload_n c_296_1776 rfl (q_aload_n c_296_1777 rfl ?_))))))))
    refine q_iload c_296_1778 rfl (q_iconst c_296_1780 (v_iadd (v := (i0 : Int) + 1) c_296_1781 rfl (v_scr (j := i0 + 1) c_296_1782 (by omega) (by omega) hL hx1 (v_cv c_296_1783 km_9_267 rfl rfl (Nat.le_of_ble_eq_true rfl) ⟨⟨rfl, rfl⟩, Nat.le_of_ble_eq_true rfl, rfl⟩ (Nat.le_of_ble_eq_true rfl) (Nat.le_of_ble_eq_true rfl) (q_aload_n c_261_0 rfl (q_iconst c_261_1 (v_pi (z := 0) c_261_2 kf_8_3 rfl (Nat.le_of_ble_eq_true rfl) rfl rfl rfl (of_decide_eq_true rfl) ?_)))))))
    refine q_iload_n c_261_5 rfl (q_iconst c_261_6 (q_iconst c_261_7 (q_call c_261_8 rfl rfl rfl (q_iload_n c_146_0 rfl (q_iload_n c_146_1 rfl (v_ic_lt_f (t := 14) c_146_2 rfl ⟨of_decide_eq_true rfl, by first | exact q_d72e4aea1 h_23 | omega, by first | exact q_71ca93a6c h_23 | omega⟩ (q_iload_n c_146_5 rfl ?_)))))))
    refine q_iload_n c_146_6 rfl (v_ic_gt_f (t := 14) c_146_7 rfl ⟨by first | exact q_bdd517da6 h_23 | omega, by first | exact q_3f988bf0b h_23 | omega, of_decide_eq_true rfl⟩ (q_iconst c_146_10 (q_goto (t := 15) c_146_11 rfl (v_zret c_146_15 rfl (of_decide_eq_true rfl) (bk_inl (v_if_eq_f (t := 23) c_261_11 rfl (of_decide_eq_true rfl) ?_))))))
    rw [show x1 = 1 from by omega]
    refine q_aload_n c_261_14 rfl (v_gr (t := 42) c_261_15 kf_8_7 rfl (Nat.le_of_ble_eq_true rfl) rfl (q_iload_n c_261_18 rfl (hv_ (ir_42 hI 1) (fun h_25 => (v_ia (v := c 42 1) c_261_19 rfl (of_decide_eq_true rfl) (of_decide_eq_true rfl) (of_decide_eq_true rfl) (up_c (nn rfl)) (q_goto (t := 24) c_261_20 rfl (q_iret c_261_24 rfl (bk_inl ?_))))))))
    refine v_ic_eq_t (t := 1816) c_296_1786 rfl (by first | (clear hT h_23 h_24 h_25 h_1; omega) | omega) (hv_ (iw_41_0 (v := 0) hI ⟨of_decide_eq_true rfl, of_decide_eq_true rfl⟩) (fun hI_26 => (Wp_ls [(4, vi (i0 : Int)), (3, .ref 67), (2, .ref 41), (1, .ref 0), (0, .ref a_SC)] (lsub_cons rfl (lsub_cons rfl (lsub_cons rfl (lsub_cons rfl (lsub_cons rfl lsub_nil))))) (hv_ (ir_1_3 hI) (fun h_27 => (hv_ (p := (up c 41 0 0) 1 3 = c 1 3) ((up_c (nn rfl))) (fun h_28 => (hv_ (ir_41_2 hI) (fun h_29 => (hv_ (p := (up c 41 0 0) 41 2 = c 41 2) ((up_n (ni rfl))) (fun h_30 => (hv_ (p := (up c 41 0 0) P 0 = n0) (((up_c (np0 hP rfl)).trans (hn0))) (fun h_31 => ?_)))))))))))))
    refine hv_ (p := (up c 41 0 0) 41 20 = n0) (((up_n (ni rfl)).trans (hm0))) (fun h_32 => (hv_ (p := (up c 41 0 0) P 1 = n1) (((up_c (np0 hP rfl)).trans (hn1))) (fun h_33 => (hv_ (p := (up c 41 0 0) 41 21 = n1) (((up_n (ni rfl)).trans (hm1))) (fun h_34 => (hv_ (p := (up c 41 0 0) P 2 = n2) (((up_c (np0 hP rfl)).trans (hn2))) (fun h_35 => (hv_ (p := (up c 41 0 0) 41 22 = n2) (((up_n (ni rfl)).trans (hm2))) (fun h_36 => (hv_ (p := (up c 41 0 0) P 3 = n3) (((up_c (np0 hP rfl)).trans (hn3))) (fun h_37 => (hv_ (p := (up c 41 0 0) 41 23 = n3) (((up_n (ni rfl)).trans (hm3))) (fun h_38 => (hv_ (ir_0_12 hI) (fun h_39 => ?_)))))))))))))))
    refine hv_ (p := (up c 41 0 0) 0 12 = c 0 12) ((up_c (nn rfl))) (fun h_40 => (hv_ (ir_42 hI 0) (fun h_41 => (hv_ (p := (up c 41 0 0) 42 0 = c 42 0) ((up_c (nn rfl))) (fun h_42 => (hv_ (p := (up c 41 0 0) 0 13 = c 0 13) ((up_c (nn rfl))) (fun h_43 => (hv_ (p := (up c 41 0 0) 42 1 = c 42 1) ((up_c (nn rfl))) (fun h_44 => ?_)))))))))
    exact K P Q (up c 41 0 0) 0 (of_decide_eq_true rfl) hI_26 ⟨by omega, ub_fr hU (fun j => up_c (nn rfl)) (fun j => up_c (nn rfl)), ⟨by omega, by omega, by omega, by omega⟩, ⟨by omega, by omega⟩⟩
  refine v_lsw_o (t := 38) rfl (by omega) (of_decide_eq_true rfl) (by simp [Op.lookupswitch.offset, Ne.symm (show x1 ≠ 0 by omega), Ne.symm (show x1 ≠ 1 by omega)]) (of_decide_eq_true rfl) (q_iconst c_142_38 (q_iret c_142_39 rfl (bk_inl (q_aload_n c_296_1776 rfl (q_aload_n c_296_1777 rfl (q_iload c_296_1778 rfl (q_iconst c_296_1780 ?_)))))))
  refine v_iadd (v := (i0 : Int) + 1) c_296_1781 rfl (v_scr (j := i0 + 1) c_296_1782 (by omega) (by omega) hL hx1 (v_cv c_296_1783 km_9_267 rfl rfl (Nat.le_of_ble_eq_true rfl) ⟨⟨rfl, rfl⟩, Nat.le_of_ble_eq_true rfl, rfl⟩ (Nat.le_of_ble_eq_true rfl) (Nat.le_of_ble_eq_true rfl) (q_aload_n c_261_0 rfl (q_iconst c_261_1 (v_pi (z := 0) c_261_2 kf_8_3 rfl (Nat.le_of_ble_eq_true rfl) rfl rfl rfl (of_decide_eq_true rfl) (q_iload_n c_261_5 rfl (q_iconst c_261_6 ?_)))))))
  refine q_iconst c_261_7 (q_call c_261_8 rfl rfl rfl (q_iload_n c_146_0 rfl (q_iload_n c_146_1 rfl ?_)))
  by_cases h_45 : x1 < 0
  · refine v_ic_lt_t (t := 14) c_146_2 rfl ⟨by first | (clear hT hNcnt2 h_1 h_23; omega) | omega, h_45, of_decide_eq_true rfl⟩ (q_iconst c_146_14 (v_zret c_146_15 rfl (of_decide_eq_true rfl) (bk_inl (v_if_eq_t (t := 23) c_261_11 rfl (of_decide_eq_true rfl) (q_iconst c_261_23 (q_iret c_261_24 rfl (bk_inl ?_)))))))
    refine v_ic_eq_t (t := 1816) c_296_1786 rfl (of_decide_eq_true rfl) (hv_ (iw_41_0 (v := 0) hI ⟨of_decide_eq_true rfl, of_decide_eq_true rfl⟩) (fun hI_46 => (Wp_ls [(4, vi (i0 : Int)), (3, .ref 67), (2, .ref 41), (1, .ref 0), (0, .ref a_SC)] (lsub_cons rfl (lsub_cons rfl (lsub_cons rfl (lsub_cons rfl (lsub_cons rfl lsub_nil))))) (hv_ (ir_1_3 hI) (fun h_47 => (hv_ (p := (up c 41 0 0) 1 3 = c 1 3) ((up_c (nn rfl))) (fun h_48 => (hv_ (ir_41_2 hI) (fun h_49 => (hv_ (p := (up c 41 0 0) 41 2 = c 41 2) ((up_n (ni rfl))) (fun h_50 => (hv_ (p := (up c 41 0 0) P 0 = n0) (((up_c (np0 hP rfl)).trans (hn0))) (fun h_51 => ?_)))))))))))))
    refine hv_ (p := (up c 41 0 0) 41 20 = n0) (((up_n (ni rfl)).trans (hm0))) (fun h_52 => (hv_ (p := (up c 41 0 0) P 1 = n1) (((up_c (np0 hP rfl)).trans (hn1))) (fun h_53 => (hv_ (p := (up c 41 0 0) 41 21 = n1) (((up_n (ni rfl)).trans (hm1))) (fun h_54 => (hv_ (p := (up c 41 0 0) P 2 = n2) (((up_c (np0 hP rfl)).trans (hn2))) (fun h_55 => (hv_ (p := (up c 41 0 0) 41 22 = n2) (((up_n (ni rfl)).trans (hm2))) (fun h_56 => (hv_ (p := (up c 41 0 0) P 3 = n3) (((up_c (np0 hP rfl)).trans (hn3))) (fun h_57 => (hv_ (p := (up c 41 0 0) 41 23 = n3) (((up_n (ni rfl)).trans (hm3))) (fun h_58 => (hv_ (ir_0_12 hI) (fun h_59 => ?_)))))))))))))))
    refine hv_ (p := (up c 41 0 0) 0 12 = c 0 12) ((up_c (nn rfl))) (fun h_60 => (hv_ (ir_42 hI 0) (fun h_61 => (hv_ (p := (up c 41 0 0) 42 0 = c 42 0) ((up_c (nn rfl))) (fun h_62 => (hv_ (ir_0_13 hI) (fun h_63 => (hv_ (p := (up c 41 0 0) 0 13 = c 0 13) ((up_c (nn rfl))) (fun h_64 => (hv_ (ir_42 hI 1) (fun h_65 => (hv_ (p := (up c 41 0 0) 42 1 = c 42 1) ((up_c (nn rfl))) (fun h_66 => ?_)))))))))))))
    exact K P Q (up c 41 0 0) 0 (of_decide_eq_true rfl) hI_46 ⟨by omega, ub_fr hU (fun j => up_c (nn rfl)) (fun j => up_c (nn rfl)), ⟨by omega, by omega, by omega, by omega⟩, ⟨by omega, by omega⟩⟩
  · refine v_ic_lt_f (t := 14) c_146_2 rfl ⟨of_decide_eq_true rfl, (Int.not_lt.mp h_45), by first | (clear hT hNcnt2 h_1 h_23; omega) | omega⟩ (q_iload_n c_146_5 rfl (q_iload_n c_146_6 rfl (v_ic_gt_t (t := 14) c_146_7 rfl ⟨of_decide_eq_true rfl, by first | exact q_dd60ae4e7 h_1 h_23 h_45 | omega, by first | (clear hT hNcnt2 h_45 h_1 h_23; omega) | omega⟩ (q_iconst c_146_14 (v_zret c_146_15 rfl (of_decide_eq_true rfl) (bk_inl (v_if_eq_t (t := 23) c_261_11 rfl (of_decide_eq_true rfl) ?_)))))))
    refine q_iconst c_261_23 (q_iret c_261_24 rfl (bk_inl (v_ic_eq_t (t := 1816) c_296_1786 rfl (of_decide_eq_true rfl) (hv_ (iw_41_0 (v := 0) hI ⟨of_decide_eq_true rfl, of_decide_eq_true rfl⟩) (fun hI_67 => (Wp_ls [(4, vi (i0 : Int)), (3, .ref 67), (2, .ref 41), (1, .ref 0), (0, .ref a_SC)] (lsub_cons rfl (lsub_cons rfl (lsub_cons rfl (lsub_cons rfl (lsub_cons rfl lsub_nil))))) (hv_ (ir_1_3 hI) (fun h_68 => (hv_ (p := (up c 41 0 0) 1 3 = c 1 3) ((up_c (nn rfl))) (fun h_69 => ?_))))))))))
    refine hv_ (ir_41_2 hI) (fun h_70 => (hv_ (p := (up c 41 0 0) 41 2 = c 41 2) ((up_n (ni rfl))) (fun h_71 => (hv_ (p := (up c 41 0 0) P 0 = n0) (((up_c (np0 hP rfl)).trans (hn0))) (fun h_72 => (hv_ (p := (up c 41 0 0) 41 20 = n0) (((up_n (ni rfl)).trans (hm0))) (fun h_73 => (hv_ (p := (up c 41 0 0) P 1 = n1) (((up_c (np0 hP rfl)).trans (hn1))) (fun h_74 => (hv_ (p := (up c 41 0 0) 41 21 = n1) (((up_n (ni rfl)).trans (hm1))) (fun h_75 => (hv_ (p := (up c 41 0 0) P 2 = n2) (((up_c (np0 hP rfl)).trans (hn2))) (fun h_76 => (hv_ (p := (up c 41 0 0) 41 22 = n2) (((up_n (ni rfl)).trans (hm2))) (fun h_77 => ?_)))))))))))))))
    refine hv_ (p := (up c 41 0 0) P 3 = n3) (((up_c (np0 hP rfl)).trans (hn3))) (fun h_78 => (hv_ (p := (up c 41 0 0) 41 23 = n3) (((up_n (ni rfl)).trans (hm3))) (fun h_79 => (hv_ (ir_0_12 hI) (fun h_80 => (hv_ (p := (up c 41 0 0) 0 12 = c 0 12) ((up_c (nn rfl))) (fun h_81 => (hv_ (ir_42 hI 0) (fun h_82 => (hv_ (p := (up c 41 0 0) 42 0 = c 42 0) ((up_c (nn rfl))) (fun h_83 => (hv_ (ir_0_13 hI) (fun h_84 => (hv_ (p := (up c 41 0 0) 0 13 = c 0 13) ((up_c (nn rfl))) (fun h_85 => ?_)))))))))))))))
    refine hv_ (ir_42 hI 1) (fun h_86 => (hv_ (p := (up c 41 0 0) 42 1 = c 42 1) ((up_c (nn rfl))) (fun h_87 => ?_)))
    exact K P Q (up c 41 0 0) 0 (of_decide_eq_true rfl) hI_67 ⟨by omega, ub_fr hU (fun j => up_c (nn rfl)) (fun j => up_c (nn rfl)), ⟨by omega, by omega, by omega, by omega⟩, ⟨by omega, by omega⟩⟩

set_option maxRecDepth 100000 in
set_option maxHeartbeats 4000000 in
theorem o_42 {xs : Nat → Int32} {L i0 d nc ns P Q : Nat} {c : ME} {Z : AR → Prop} (hi : i0 + 8 ≤ L) (hL : L ≤ 100000) (hI : Iv 0 (-1) P Q c) (hR : Rq P c) (K : ∀ (P2 Q2 : Nat) (c2 : ME) (e : Nat), e ≤ 1 → Iv 0 (-1) P2 Q2 c2 → (Rq P2 c2) → Wp (a_scr L xs) (d + 90) 296 1816 [(4, vi (i0 : Int)), (3, .ref 67), (2, .ref 41), (1, .ref 0), (0, .ref a_SC)] [] (Wd P2 Q2 P2 P2 c2) (nc + e) (ns + 6 * e) Z) : Wp (a_scr L xs) (d + 90) 296 1791 [(4, vi (i0 : Int)), (3, .ref 67), (2, .ref 41), (1, .ref 0), (0, .ref a_SC)] [] (Wd P Q P P c) nc ns Z := by
  obtain ⟨x1, hx1⟩ : ∃ z, (xs (i0 + 1)).toInt = z := ⟨_, rfl⟩
  refine hv_ (c_rng (xs (i0 + 1))) (fun x1r => ?_)
  rw [hx1] at x1r
  obtain ⟨x2, hx2⟩ : ∃ z, (xs (i0 + 2)).toInt = z := ⟨_, rfl⟩
  refine hv_ (c_rng (xs (i0 + 2))) (fun x2r => ?_)
  rw [hx2] at x2r
  obtain ⟨x3, hx3⟩ : ∃ z, (xs (i0 + 3)).toInt = z := ⟨_, rfl⟩
  refine hv_ (c_rng (xs (i0 + 3))) (fun x3r => ?_)
  rw [hx3] at x3r
  obtain ⟨x4, hx4⟩ : ∃ z, (xs (i0 + 4)).toInt = z := ⟨_, rfl⟩
  refine hv_ (c_rng (xs (i0 + 4))) (fun x4r => ?_)
  rw [hx4] at x4r
  obtain ⟨x5, hx5⟩ : ∃ z, (xs (i0 + 5)).toInt = z := ⟨_, rfl⟩
  refine hv_ (c_rng (xs (i0 + 5))) (fun x5r => ?_)
  rw [hx5] at x5r
  obtain ⟨x6, hx6⟩ : ∃ z, (xs (i0 + 6)).toInt = z := ⟨_, rfl⟩
  refine hv_ (c_rng (xs (i0 + 6))) (fun x6r => ?_)
  rw [hx6] at x6r
  obtain ⟨x7, hx7⟩ : ∃ z, (xs (i0 + 7)).toInt = z := ⟨_, rfl⟩
  refine hv_ (c_rng (xs (i0 + 7))) (fun x7r => ?_)
  rw [hx7] at x7r
  refine hv_ (iv_P hI) (fun hP => (hv_ (iv_Q hI) (fun hQ => (hv_ (rl_t hR) (fun hT => (hv_ (rl_u hR) (fun hU => ?_)))))))
  obtain ⟨n0, hn0⟩ : ∃ z, c P 0 = z := ⟨_, rfl⟩
  refine hv_ (p := c 41 20 = n0) ((rl_nums hR).1.symm.trans hn0) (fun hm0 => (hv_ (ir_p0_0 hI hP) (fun hr0 => ?_)))
  rw [hn0] at hr0
  obtain ⟨n1, hn1⟩ : ∃ z, c P 1 = z := ⟨_, rfl⟩
  refine hv_ (p := c 41 21 = n1) ((rl_nums hR).2.1.symm.trans hn1) (fun hm1 => (hv_ (ir_p0_1 hI hP) (fun hr1 => ?_)))
  rw [hn1] at hr1
  obtain ⟨n2, hn2⟩ : ∃ z, c P 2 = z := ⟨_, rfl⟩
  refine hv_ (p := c 41 22 = n2) ((rl_nums hR).2.2.1.symm.trans hn2) (fun hm2 => (hv_ (ir_p0_2 hI hP) (fun hr2 => ?_)))
  rw [hn2] at hr2
  obtain ⟨n3, hn3⟩ : ∃ z, c P 3 = z := ⟨_, rfl⟩
  refine hv_ (p := c 41 23 = n3) ((rl_nums hR).2.2.2.symm.trans hn3) (fun hm3 => (hv_ (ir_p0_3 hI hP) (fun hr3 => ?_)))
  rw [hn3] at hr3
  refine hv_ (rl_cnt2 hR) (fun hNcnt2 => (hv_ (rl_cnt2 hR) (fun hNcnt2 => (q_aload_n c_296_1791 rfl (q_aload_n c_296_1792 rfl (q_iload c_296_1793 rfl (q_iconst c_296_1795 (v_iadd (v := (i0 : Int) + 1) c_296_1796 rfl (v_scr (j := i0 + 1) c_296_1797 (by omega) (by omega) hL hx1 ?_)))))))))
  refine v_cv c_296_1798 km_9_268 rfl rfl (Nat.le_of_ble_eq_true rfl) ⟨⟨rfl, rfl⟩, Nat.le_of_ble_eq_true rfl, rfl⟩ (Nat.le_of_ble_eq_true rfl) (Nat.le_of_ble_eq_true rfl) (s_143 (a1 := x1) hI (show (-2147483648) ≤ x1 ∧ x1 ≤ 2147483647 from ⟨by omega, by omega⟩) (fun y_1 hy_1 => (bk_inl (q_pop c_296_1801 rfl (q_aload_n c_296_1802 rfl (q_aload_n c_296_1803 rfl (q_iload c_296_1804 rfl (q_iconst c_296_1806 (v_iadd (v := (i0 : Int) + 1) c_296_1807 rfl ?_)))))))))
  refine v_scr (j := i0 + 1) c_296_1808 (by omega) (by omega) hL hx1 (v_cv c_296_1809 km_9_271 rfl rfl (Nat.le_of_ble_eq_true rfl) ⟨⟨rfl, rfl⟩, Nat.le_of_ble_eq_true rfl, rfl⟩ (Nat.le_of_ble_eq_true rfl) (Nat.le_of_ble_eq_true rfl) (s_262 (a1 := x1) hI (show (-2147483648) ≤ x1 ∧ x1 ≤ 2147483647 from ⟨by omega, by omega⟩) (fun c_2 y_5 hI_3 hF_4 hy_5 => (bk_inl (q_pop c_296_1812 rfl (q_goto (t := 1816) c_296_1813 rfl (Wp_ls [(4, vi (i0 : Int)), (3, .ref 67), (2, .ref 41), (1, .ref 0), (0, .ref a_SC)] (lsub_cons rfl (lsub_cons rfl (lsub_cons rfl (lsub_cons rfl (lsub_cons rfl lsub_nil))))) (hv_ (ir_1_3 hI) (fun h_6 => (hv_ (p := Hid (c_2 1 3 = c 1 3)) (hF_4 1 3 (fun h => absurd h.1 (nn rfl))) (fun kn_7 => ?_)))))))))))
  refine hv_ (p := c_2 1 3 = c 1 3) ((hid kn_7)) (fun h_8 => (hv_ (ir_41_2 hI) (fun h_9 => (hv_ (p := Hid (c_2 41 2 = c 41 2)) (hF_4 41 2 (fun h => absurd h.2 (ni rfl))) (fun kn_10 => (hv_ (p := c_2 41 2 = c 41 2) ((hid kn_10)) (fun h_11 => (hv_ (p := Hid (c_2 P 0 = n0)) ((hF_4 P 0 (fun h => absurd h.1 (np0 hP rfl))).trans (hn0)) (fun kn_12 => (hv_ (p := c_2 P 0 = n0) ((hid kn_12)) (fun h_13 => (hv_ (p := Hid (c_2 41 20 = n0)) ((hF_4 41 20 (fun h => absurd h.2 (ni rfl))).trans (hm0)) (fun kn_14 => (hv_ (p := c_2 41 20 = n0) ((hid kn_14)) (fun h_15 => ?_)))))))))))))))
  refine hv_ (p := Hid (c_2 P 1 = n1)) ((hF_4 P 1 (fun h => absurd h.1 (np0 hP rfl))).trans (hn1)) (fun kn_16 => (hv_ (p := c_2 P 1 = n1) ((hid kn_16)) (fun h_17 => (hv_ (p := Hid (c_2 41 21 = n1)) ((hF_4 41 21 (fun h => absurd h.2 (ni rfl))).trans (hm1)) (fun kn_18 => (hv_ (p := c_2 41 21 = n1) ((hid kn_18)) (fun h_19 => (hv_ (p := Hid (c_2 P 2 = n2)) ((hF_4 P 2 (fun h => absurd h.1 (np0 hP rfl))).trans (hn2)) (fun kn_20 => (hv_ (p := c_2 P 2 = n2) ((hid kn_20)) (fun h_21 => (hv_ (p := Hid (c_2 41 22 = n2)) ((hF_4 41 22 (fun h => absurd h.2 (ni rfl))).trans (hm2)) (fun kn_22 => (hv_ (p := c_2 41 22 = n2) ((hid kn_22)) (fun h_23 => ?_)))))))))))))))
  refine hv_ (p := Hid (c_2 P 3 = n3)) ((hF_4 P 3 (fun h => absurd h.1 (np0 hP rfl))).trans (hn3)) (fun kn_24 => (hv_ (p := c_2 P 3 = n3) ((hid kn_24)) (fun h_25 => (hv_ (p := Hid (c_2 41 23 = n3)) ((hF_4 41 23 (fun h => absurd h.2 (ni rfl))).trans (hm3)) (fun kn_26 => (hv_ (p := c_2 41 23 = n3) ((hid kn_26)) (fun h_27 => (hv_ (ir_0_12 hI) (fun h_28 => (hv_ (p := Hid (c_2 0 12 = c 0 12)) (hF_4 0 12 (fun h => absurd h.1 (nn rfl))) (fun kn_29 => (hv_ (p := c_2 0 12 = c 0 12) ((hid kn_29)) (fun h_30 => (hv_ (ir_42 hI 0) (fun h_31 => ?_)))))))))))))))
  refine hv_ (p := Hid (c_2 42 0 = c 42 0)) (hF_4 42 0 (fun h => absurd h.1 (nn rfl))) (fun kn_32 => (hv_ (p := c_2 42 0 = c 42 0) ((hid kn_32)) (fun h_33 => (hv_ (ir_0_13 hI) (fun h_34 => (hv_ (p := Hid (c_2 0 13 = c 0 13)) (hF_4 0 13 (fun h => absurd h.1 (nn rfl))) (fun kn_35 => (hv_ (p := c_2 0 13 = c 0 13) ((hid kn_35)) (fun h_36 => (hv_ (ir_42 hI 1) (fun h_37 => (hv_ (p := Hid (c_2 42 1 = c 42 1)) (hF_4 42 1 (fun h => absurd h.1 (nn rfl))) (fun kn_38 => (hv_ (p := c_2 42 1 = c 42 1) ((hid kn_38)) (fun h_39 => ?_)))))))))))))))
  exact K P Q c_2 0 (of_decide_eq_true rfl) hI_3 ⟨by omega, ub_fr hU (fun j => hF_4 2 j (fun h => absurd h.1 (nn rfl))) (fun j => hF_4 43 j (fun h => absurd h.1 (nn rfl))), ⟨by omega, by omega, by omega, by omega⟩, ⟨by omega, by omega⟩⟩

