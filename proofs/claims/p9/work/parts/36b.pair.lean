/-! ===== class and reference side by side 3 ===== -/
theorem q_8241eb4bd {x0 x1 : Int} (f0 : (x0 ≥ 0 ∧ x0 ≤ x1 ∧ x0 ≤ 600)) : 0 ≤ x0 := by omega
theorem q_f1a9820a9 {x0 x1 : Int} (f0 : (x0 ≥ 0 ∧ x0 ≤ x1 ∧ x0 ≤ 600)) : x0 ≤ x1 := by omega
theorem qn_73b48ea2f {Q : Nat} {j : Int} (hQ : Q = 13 ∨ Q = 25) : ¬ (((3 : Nat) = 1 ∧ j = 2) ∨ ((3 : Nat) = 1 ∧ j = 4) ∨ ((3 : Nat) = 1 ∧ j = 5) ∨ ((3 : Nat) = Q ∧ j = 0) ∨ ((3 : Nat) = Q ∧ j = 1) ∨ ((3 : Nat) = Q ∧ j = 2) ∨ ((3 : Nat) = Q ∧ j = 3) ∨ (3 : Nat) = (Q + 1) ∨ (3 : Nat) = (Q + 2) ∨ (3 : Nat) = (Q + 3) ∨ ((3 : Nat) = Q ∧ j = 4) ∨ ((3 : Nat) = Q ∧ j = 5) ∨ (3 : Nat) = (Q + 6) ∨ ((3 : Nat) = (Q + 7) ∧ j = 4)) := (fun q => q.elim (fun h => absurd h.1 (nn rfl)) (fun q => q.elim (fun h => absurd h.1 (nn rfl)) (fun q => q.elim (fun h => absurd h.1 (nn rfl)) (fun q => q.elim (fun h => absurd h.1 (pn0 hQ rfl)) (fun q => q.elim (fun h => absurd h.1 (pn0 hQ rfl)) (fun q => q.elim (fun h => absurd h.1 (pn0 hQ rfl)) (fun q => q.elim (fun h => absurd h.1 (pn0 hQ rfl)) (fun q => q.elim (fun h => absurd h (pn hQ rfl rfl)) (fun q => q.elim (fun h => absurd h (pn hQ rfl rfl)) (fun q => q.elim (fun h => absurd h (pn hQ rfl rfl)) (fun q => q.elim (fun h => absurd h.1 (pn0 hQ rfl)) (fun q => q.elim (fun h => absurd h.1 (pn0 hQ rfl)) (fun q => q.elim (fun h => absurd h (pn hQ rfl rfl)) (fun h => absurd h.1 (pn hQ rfl rfl)))))))))))))))
theorem q_366480dfc {x0 x1 : Int} (f0 : (x0 ≥ 0 ∧ x0 ≤ x1 ∧ x0 ≤ 600)) : x0 ≤ 600 := by omega
theorem qn_de2c377ca : ¬ (((41 : Nat) = 41 ∧ (3 : Int) = 16) ∨ ((41 : Nat) = 41 ∧ (3 : Int) = 17) ∨ ((41 : Nat) = 41 ∧ (3 : Int) = 18) ∨ ((41 : Nat) = 41 ∧ (3 : Int) = 19)) := (fun q => q.elim (fun h => absurd h.2 (ni rfl)) (fun q => q.elim (fun h => absurd h.2 (ni rfl)) (fun q => q.elim (fun h => absurd h.2 (ni rfl)) (fun h => absurd h.2 (ni rfl)))))
theorem qn_910516fcd : ¬ (((41 : Nat) = 41 ∧ (5 : Int) = 16) ∨ ((41 : Nat) = 41 ∧ (5 : Int) = 17) ∨ ((41 : Nat) = 41 ∧ (5 : Int) = 18) ∨ ((41 : Nat) = 41 ∧ (5 : Int) = 19)) := (fun q => q.elim (fun h => absurd h.2 (ni rfl)) (fun q => q.elim (fun h => absurd h.2 (ni rfl)) (fun q => q.elim (fun h => absurd h.2 (ni rfl)) (fun h => absurd h.2 (ni rfl)))))
theorem qn_650f73a3f : ¬ (((41 : Nat) = 41 ∧ (4 : Int) = 16) ∨ ((41 : Nat) = 41 ∧ (4 : Int) = 17) ∨ ((41 : Nat) = 41 ∧ (4 : Int) = 18) ∨ ((41 : Nat) = 41 ∧ (4 : Int) = 19)) := (fun q => q.elim (fun h => absurd h.2 (ni rfl)) (fun q => q.elim (fun h => absurd h.2 (ni rfl)) (fun q => q.elim (fun h => absurd h.2 (ni rfl)) (fun h => absurd h.2 (ni rfl)))))
theorem qn_eb0d473e8 : ¬ (((41 : Nat) = 41 ∧ (6 : Int) = 2) ∨ ((41 : Nat) = 41 ∧ (6 : Int) = 3) ∨ ((41 : Nat) = 41 ∧ (6 : Int) = 4) ∨ ((41 : Nat) = 41 ∧ (6 : Int) = 5) ∨ ((41 : Nat) = 41 ∧ (6 : Int) = 7) ∨ ((41 : Nat) = 41 ∧ (6 : Int) = 8)) := (fun q => q.elim (fun h => absurd h.2 (ni rfl)) (fun q => q.elim (fun h => absurd h.2 (ni rfl)) (fun q => q.elim (fun h => absurd h.2 (ni rfl)) (fun q => q.elim (fun h => absurd h.2 (ni rfl)) (fun q => q.elim (fun h => absurd h.2 (ni rfl)) (fun h => absurd h.2 (ni rfl)))))))
theorem qn_f359bb820 : ¬ (((41 : Nat) = 41 ∧ (6 : Int) = 16) ∨ ((41 : Nat) = 41 ∧ (6 : Int) = 17) ∨ ((41 : Nat) = 41 ∧ (6 : Int) = 18) ∨ ((41 : Nat) = 41 ∧ (6 : Int) = 19)) := (fun q => q.elim (fun h => absurd h.2 (ni rfl)) (fun q => q.elim (fun h => absurd h.2 (ni rfl)) (fun q => q.elim (fun h => absurd h.2 (ni rfl)) (fun h => absurd h.2 (ni rfl)))))
theorem qn_1d27fc2bc {j : Int} : ¬ (((43 : Nat) = 41 ∧ j = 16) ∨ ((43 : Nat) = 41 ∧ j = 17) ∨ ((43 : Nat) = 41 ∧ j = 18) ∨ ((43 : Nat) = 41 ∧ j = 19)) := (fun q => q.elim (fun h => absurd h.1 (nn rfl)) (fun q => q.elim (fun h => absurd h.1 (nn rfl)) (fun q => q.elim (fun h => absurd h.1 (nn rfl)) (fun h => absurd h.1 (nn rfl)))))
theorem qn_78d42cb5c {j : Int} : ¬ (((43 : Nat) = 41 ∧ j = 2) ∨ ((43 : Nat) = 41 ∧ j = 3) ∨ ((43 : Nat) = 41 ∧ j = 4) ∨ ((43 : Nat) = 41 ∧ j = 5) ∨ ((43 : Nat) = 41 ∧ j = 7) ∨ ((43 : Nat) = 41 ∧ j = 8)) := (fun q => q.elim (fun h => absurd h.1 (nn rfl)) (fun q => q.elim (fun h => absurd h.1 (nn rfl)) (fun q => q.elim (fun h => absurd h.1 (nn rfl)) (fun q => q.elim (fun h => absurd h.1 (nn rfl)) (fun q => q.elim (fun h => absurd h.1 (nn rfl)) (fun h => absurd h.1 (nn rfl)))))))
theorem q_f7b7d720f {x0 x1 x2 x3 : Int} (f0 : (1 ≤ x0 ∧ x0 ≤ 3) ∧ x1 = x2 ∧ 0 ≤ x2 ∧ x3 = x0) : ¬ x0 = 0 := by omega
theorem qn_d1f210dd4 : ¬ (((41 : Nat) = 41 ∧ (2 : Int) = 16) ∨ ((41 : Nat) = 41 ∧ (2 : Int) = 17) ∨ ((41 : Nat) = 41 ∧ (2 : Int) = 18) ∨ ((41 : Nat) = 41 ∧ (2 : Int) = 19)) := (fun q => q.elim (fun h => absurd h.2 (ni rfl)) (fun q => q.elim (fun h => absurd h.2 (ni rfl)) (fun q => q.elim (fun h => absurd h.2 (ni rfl)) (fun h => absurd h.2 (ni rfl)))))
theorem qn_c33c5b2f3 : ¬ (((41 : Nat) = 41 ∧ (2 : Int) = 4) ∨ ((41 : Nat) = 41 ∧ (2 : Int) = 5) ∨ ((41 : Nat) = 41 ∧ (2 : Int) = 6) ∨ ((41 : Nat) = 41 ∧ (2 : Int) = 16) ∨ ((41 : Nat) = 41 ∧ (2 : Int) = 17) ∨ ((41 : Nat) = 41 ∧ (2 : Int) = 18) ∨ ((41 : Nat) = 41 ∧ (2 : Int) = 19) ∨ (41 : Nat) = 44 ∨ (41 : Nat) = 45 ∨ (41 : Nat) = 46) := (fun q => q.elim (fun h => absurd h.2 (ni rfl)) (fun q => q.elim (fun h => absurd h.2 (ni rfl)) (fun q => q.elim (fun h => absurd h.2 (ni rfl)) (fun q => q.elim (fun h => absurd h.2 (ni rfl)) (fun q => q.elim (fun h => absurd h.2 (ni rfl)) (fun q => q.elim (fun h => absurd h.2 (ni rfl)) (fun q => q.elim (fun h => absurd h.2 (ni rfl)) (fun q => q.elim (fun h => absurd h (nn rfl)) (fun q => q.elim (fun h => absurd h (nn rfl)) (fun h => absurd h (nn rfl)))))))))))
theorem qn_18af663b8 : ¬ (((41 : Nat) = 41 ∧ (0 : Int) = 2) ∨ ((41 : Nat) = 41 ∧ (0 : Int) = 3) ∨ ((41 : Nat) = 41 ∧ (0 : Int) = 4) ∨ ((41 : Nat) = 41 ∧ (0 : Int) = 5) ∨ ((41 : Nat) = 41 ∧ (0 : Int) = 7) ∨ ((41 : Nat) = 41 ∧ (0 : Int) = 8)) := (fun q => q.elim (fun h => absurd h.2 (ni rfl)) (fun q => q.elim (fun h => absurd h.2 (ni rfl)) (fun q => q.elim (fun h => absurd h.2 (ni rfl)) (fun q => q.elim (fun h => absurd h.2 (ni rfl)) (fun q => q.elim (fun h => absurd h.2 (ni rfl)) (fun h => absurd h.2 (ni rfl)))))))
theorem qn_75150763a : ¬ (((41 : Nat) = 41 ∧ (0 : Int) = 16) ∨ ((41 : Nat) = 41 ∧ (0 : Int) = 17) ∨ ((41 : Nat) = 41 ∧ (0 : Int) = 18) ∨ ((41 : Nat) = 41 ∧ (0 : Int) = 19)) := (fun q => q.elim (fun h => absurd h.2 (ni rfl)) (fun q => q.elim (fun h => absurd h.2 (ni rfl)) (fun q => q.elim (fun h => absurd h.2 (ni rfl)) (fun h => absurd h.2 (ni rfl)))))
theorem qn_77f099881 : ¬ (((41 : Nat) = 41 ∧ (0 : Int) = 4) ∨ ((41 : Nat) = 41 ∧ (0 : Int) = 5) ∨ ((41 : Nat) = 41 ∧ (0 : Int) = 6) ∨ ((41 : Nat) = 41 ∧ (0 : Int) = 16) ∨ ((41 : Nat) = 41 ∧ (0 : Int) = 17) ∨ ((41 : Nat) = 41 ∧ (0 : Int) = 18) ∨ ((41 : Nat) = 41 ∧ (0 : Int) = 19) ∨ (41 : Nat) = 44 ∨ (41 : Nat) = 45 ∨ (41 : Nat) = 46) := (fun q => q.elim (fun h => absurd h.2 (ni rfl)) (fun q => q.elim (fun h => absurd h.2 (ni rfl)) (fun q => q.elim (fun h => absurd h.2 (ni rfl)) (fun q => q.elim (fun h => absurd h.2 (ni rfl)) (fun q => q.elim (fun h => absurd h.2 (ni rfl)) (fun q => q.elim (fun h => absurd h.2 (ni rfl)) (fun q => q.elim (fun h => absurd h.2 (ni rfl)) (fun q => q.elim (fun h => absurd h (nn rfl)) (fun q => q.elim (fun h => absurd h (nn rfl)) (fun h => absurd h (nn rfl)))))))))))
theorem qn_7452710ff : ¬ (((41 : Nat) = 41 ∧ (20 : Int) = 2) ∨ ((41 : Nat) = 41 ∧ (20 : Int) = 3) ∨ ((41 : Nat) = 41 ∧ (20 : Int) = 4) ∨ ((41 : Nat) = 41 ∧ (20 : Int) = 5) ∨ ((41 : Nat) = 41 ∧ (20 : Int) = 7) ∨ ((41 : Nat) = 41 ∧ (20 : Int) = 8)) := (fun q => q.elim (fun h => absurd h.2 (ni rfl)) (fun q => q.elim (fun h => absurd h.2 (ni rfl)) (fun q => q.elim (fun h => absurd h.2 (ni rfl)) (fun q => q.elim (fun h => absurd h.2 (ni rfl)) (fun q => q.elim (fun h => absurd h.2 (ni rfl)) (fun h => absurd h.2 (ni rfl)))))))
theorem qn_48ec56b4a : ¬ (((41 : Nat) = 41 ∧ (20 : Int) = 16) ∨ ((41 : Nat) = 41 ∧ (20 : Int) = 17) ∨ ((41 : Nat) = 41 ∧ (20 : Int) = 18) ∨ ((41 : Nat) = 41 ∧ (20 : Int) = 19)) := (fun q => q.elim (fun h => absurd h.2 (ni rfl)) (fun q => q.elim (fun h => absurd h.2 (ni rfl)) (fun q => q.elim (fun h => absurd h.2 (ni rfl)) (fun h => absurd h.2 (ni rfl)))))
theorem qn_282feb47b : ¬ (((41 : Nat) = 41 ∧ (20 : Int) = 4) ∨ ((41 : Nat) = 41 ∧ (20 : Int) = 5) ∨ ((41 : Nat) = 41 ∧ (20 : Int) = 6) ∨ ((41 : Nat) = 41 ∧ (20 : Int) = 16) ∨ ((41 : Nat) = 41 ∧ (20 : Int) = 17) ∨ ((41 : Nat) = 41 ∧ (20 : Int) = 18) ∨ ((41 : Nat) = 41 ∧ (20 : Int) = 19) ∨ (41 : Nat) = 44 ∨ (41 : Nat) = 45 ∨ (41 : Nat) = 46) := (fun q => q.elim (fun h => absurd h.2 (ni rfl)) (fun q => q.elim (fun h => absurd h.2 (ni rfl)) (fun q => q.elim (fun h => absurd h.2 (ni rfl)) (fun q => q.elim (fun h => absurd h.2 (ni rfl)) (fun q => q.elim (fun h => absurd h.2 (ni rfl)) (fun q => q.elim (fun h => absurd h.2 (ni rfl)) (fun q => q.elim (fun h => absurd h.2 (ni rfl)) (fun q => q.elim (fun h => absurd h (nn rfl)) (fun q => q.elim (fun h => absurd h (nn rfl)) (fun h => absurd h (nn rfl)))))))))))
theorem qn_b78d71421 : ¬ (((41 : Nat) = 41 ∧ (21 : Int) = 2) ∨ ((41 : Nat) = 41 ∧ (21 : Int) = 3) ∨ ((41 : Nat) = 41 ∧ (21 : Int) = 4) ∨ ((41 : Nat) = 41 ∧ (21 : Int) = 5) ∨ ((41 : Nat) = 41 ∧ (21 : Int) = 7) ∨ ((41 : Nat) = 41 ∧ (21 : Int) = 8)) := (fun q => q.elim (fun h => absurd h.2 (ni rfl)) (fun q => q.elim (fun h => absurd h.2 (ni rfl)) (fun q => q.elim (fun h => absurd h.2 (ni rfl)) (fun q => q.elim (fun h => absurd h.2 (ni rfl)) (fun q => q.elim (fun h => absurd h.2 (ni rfl)) (fun h => absurd h.2 (ni rfl)))))))
theorem qn_a544b0d39 : ¬ (((41 : Nat) = 41 ∧ (21 : Int) = 16) ∨ ((41 : Nat) = 41 ∧ (21 : Int) = 17) ∨ ((41 : Nat) = 41 ∧ (21 : Int) = 18) ∨ ((41 : Nat) = 41 ∧ (21 : Int) = 19)) := (fun q => q.elim (fun h => absurd h.2 (ni rfl)) (fun q => q.elim (fun h => absurd h.2 (ni rfl)) (fun q => q.elim (fun h => absurd h.2 (ni rfl)) (fun h => absurd h.2 (ni rfl)))))
theorem qn_0dc73d421 : ¬ (((41 : Nat) = 41 ∧ (21 : Int) = 4) ∨ ((41 : Nat) = 41 ∧ (21 : Int) = 5) ∨ ((41 : Nat) = 41 ∧ (21 : Int) = 6) ∨ ((41 : Nat) = 41 ∧ (21 : Int) = 16) ∨ ((41 : Nat) = 41 ∧ (21 : Int) = 17) ∨ ((41 : Nat) = 41 ∧ (21 : Int) = 18) ∨ ((41 : Nat) = 41 ∧ (21 : Int) = 19) ∨ (41 : Nat) = 44 ∨ (41 : Nat) = 45 ∨ (41 : Nat) = 46) := (fun q => q.elim (fun h => absurd h.2 (ni rfl)) (fun q => q.elim (fun h => absurd h.2 (ni rfl)) (fun q => q.elim (fun h => absurd h.2 (ni rfl)) (fun q => q.elim (fun h => absurd h.2 (ni rfl)) (fun q => q.elim (fun h => absurd h.2 (ni rfl)) (fun q => q.elim (fun h => absurd h.2 (ni rfl)) (fun q => q.elim (fun h => absurd h.2 (ni rfl)) (fun q => q.elim (fun h => absurd h (nn rfl)) (fun q => q.elim (fun h => absurd h (nn rfl)) (fun h => absurd h (nn rfl)))))))))))
theorem qn_702f7a732 : ¬ (((41 : Nat) = 41 ∧ (22 : Int) = 2) ∨ ((41 : Nat) = 41 ∧ (22 : Int) = 3) ∨ ((41 : Nat) = 41 ∧ (22 : Int) = 4) ∨ ((41 : Nat) = 41 ∧ (22 : Int) = 5) ∨ ((41 : Nat) = 41 ∧ (22 : Int) = 7) ∨ ((41 : Nat) = 41 ∧ (22 : Int) = 8)) := (fun q => q.elim (fun h => absurd h.2 (ni rfl)) (fun q => q.elim (fun h => absurd h.2 (ni rfl)) (fun q => q.elim (fun h => absurd h.2 (ni rfl)) (fun q => q.elim (fun h => absurd h.2 (ni rfl)) (fun q => q.elim (fun h => absurd h.2 (ni rfl)) (fun h => absurd h.2 (ni rfl)))))))
theorem qn_51a55d310 : ¬ (((41 : Nat) = 41 ∧ (22 : Int) = 16) ∨ ((41 : Nat) = 41 ∧ (22 : Int) = 17) ∨ ((41 : Nat) = 41 ∧ (22 : Int) = 18) ∨ ((41 : Nat) = 41 ∧ (22 : Int) = 19)) := (fun q => q.elim (fun h => absurd h.2 (ni rfl)) (fun q => q.elim (fun h => absurd h.2 (ni rfl)) (fun q => q.elim (fun h => absurd h.2 (ni rfl)) (fun h => absurd h.2 (ni rfl)))))
theorem qn_22b56e317 : ¬ (((41 : Nat) = 41 ∧ (22 : Int) = 4) ∨ ((41 : Nat) = 41 ∧ (22 : Int) = 5) ∨ ((41 : Nat) = 41 ∧ (22 : Int) = 6) ∨ ((41 : Nat) = 41 ∧ (22 : Int) = 16) ∨ ((41 : Nat) = 41 ∧ (22 : Int) = 17) ∨ ((41 : Nat) = 41 ∧ (22 : Int) = 18) ∨ ((41 : Nat) = 41 ∧ (22 : Int) = 19) ∨ (41 : Nat) = 44 ∨ (41 : Nat) = 45 ∨ (41 : Nat) = 46) := (fun q => q.elim (fun h => absurd h.2 (ni rfl)) (fun q => q.elim (fun h => absurd h.2 (ni rfl)) (fun q => q.elim (fun h => absurd h.2 (ni rfl)) (fun q => q.elim (fun h => absurd h.2 (ni rfl)) (fun q => q.elim (fun h => absurd h.2 (ni rfl)) (fun q => q.elim (fun h => absurd h.2 (ni rfl)) (fun q => q.elim (fun h => absurd h.2 (ni rfl)) (fun q => q.elim (fun h => absurd h (nn rfl)) (fun q => q.elim (fun h => absurd h (nn rfl)) (fun h => absurd h (nn rfl)))))))))))
theorem qn_b97c6324d : ¬ (((41 : Nat) = 41 ∧ (23 : Int) = 2) ∨ ((41 : Nat) = 41 ∧ (23 : Int) = 3) ∨ ((41 : Nat) = 41 ∧ (23 : Int) = 4) ∨ ((41 : Nat) = 41 ∧ (23 : Int) = 5) ∨ ((41 : Nat) = 41 ∧ (23 : Int) = 7) ∨ ((41 : Nat) = 41 ∧ (23 : Int) = 8)) := (fun q => q.elim (fun h => absurd h.2 (ni rfl)) (fun q => q.elim (fun h => absurd h.2 (ni rfl)) (fun q => q.elim (fun h => absurd h.2 (ni rfl)) (fun q => q.elim (fun h => absurd h.2 (ni rfl)) (fun q => q.elim (fun h => absurd h.2 (ni rfl)) (fun h => absurd h.2 (ni rfl)))))))
theorem qn_d7064651c : ¬ (((41 : Nat) = 41 ∧ (23 : Int) = 16) ∨ ((41 : Nat) = 41 ∧ (23 : Int) = 17) ∨ ((41 : Nat) = 41 ∧ (23 : Int) = 18) ∨ ((41 : Nat) = 41 ∧ (23 : Int) = 19)) := (fun q => q.elim (fun h => absurd h.2 (ni rfl)) (fun q => q.elim (fun h => absurd h.2 (ni rfl)) (fun q => q.elim (fun h => absurd h.2 (ni rfl)) (fun h => absurd h.2 (ni rfl)))))
theorem qn_ea8766bb1 : ¬ (((41 : Nat) = 41 ∧ (23 : Int) = 4) ∨ ((41 : Nat) = 41 ∧ (23 : Int) = 5) ∨ ((41 : Nat) = 41 ∧ (23 : Int) = 6) ∨ ((41 : Nat) = 41 ∧ (23 : Int) = 16) ∨ ((41 : Nat) = 41 ∧ (23 : Int) = 17) ∨ ((41 : Nat) = 41 ∧ (23 : Int) = 18) ∨ ((41 : Nat) = 41 ∧ (23 : Int) = 19) ∨ (41 : Nat) = 44 ∨ (41 : Nat) = 45 ∨ (41 : Nat) = 46) := (fun q => q.elim (fun h => absurd h.2 (ni rfl)) (fun q => q.elim (fun h => absurd h.2 (ni rfl)) (fun q => q.elim (fun h => absurd h.2 (ni rfl)) (fun q => q.elim (fun h => absurd h.2 (ni rfl)) (fun q => q.elim (fun h => absurd h.2 (ni rfl)) (fun q => q.elim (fun h => absurd h.2 (ni rfl)) (fun q => q.elim (fun h => absurd h.2 (ni rfl)) (fun q => q.elim (fun h => absurd h (nn rfl)) (fun q => q.elim (fun h => absurd h (nn rfl)) (fun h => absurd h (nn rfl)))))))))))
theorem qn_29189991c : ¬ (((41 : Nat) = 41 ∧ (52 : Int) = 2) ∨ ((41 : Nat) = 41 ∧ (52 : Int) = 3) ∨ ((41 : Nat) = 41 ∧ (52 : Int) = 4) ∨ ((41 : Nat) = 41 ∧ (52 : Int) = 5) ∨ ((41 : Nat) = 41 ∧ (52 : Int) = 7) ∨ ((41 : Nat) = 41 ∧ (52 : Int) = 8)) := (fun q => q.elim (fun h => absurd h.2 (ni rfl)) (fun q => q.elim (fun h => absurd h.2 (ni rfl)) (fun q => q.elim (fun h => absurd h.2 (ni rfl)) (fun q => q.elim (fun h => absurd h.2 (ni rfl)) (fun q => q.elim (fun h => absurd h.2 (ni rfl)) (fun h => absurd h.2 (ni rfl)))))))
theorem qn_f295bbde9 : ¬ (((41 : Nat) = 41 ∧ (52 : Int) = 16) ∨ ((41 : Nat) = 41 ∧ (52 : Int) = 17) ∨ ((41 : Nat) = 41 ∧ (52 : Int) = 18) ∨ ((41 : Nat) = 41 ∧ (52 : Int) = 19)) := (fun q => q.elim (fun h => absurd h.2 (ni rfl)) (fun q => q.elim (fun h => absurd h.2 (ni rfl)) (fun q => q.elim (fun h => absurd h.2 (ni rfl)) (fun h => absurd h.2 (ni rfl)))))
theorem qn_a9de43c1c : ¬ (((41 : Nat) = 41 ∧ (52 : Int) = 4) ∨ ((41 : Nat) = 41 ∧ (52 : Int) = 5) ∨ ((41 : Nat) = 41 ∧ (52 : Int) = 6) ∨ ((41 : Nat) = 41 ∧ (52 : Int) = 16) ∨ ((41 : Nat) = 41 ∧ (52 : Int) = 17) ∨ ((41 : Nat) = 41 ∧ (52 : Int) = 18) ∨ ((41 : Nat) = 41 ∧ (52 : Int) = 19) ∨ (41 : Nat) = 44 ∨ (41 : Nat) = 45 ∨ (41 : Nat) = 46) := (fun q => q.elim (fun h => absurd h.2 (ni rfl)) (fun q => q.elim (fun h => absurd h.2 (ni rfl)) (fun q => q.elim (fun h => absurd h.2 (ni rfl)) (fun q => q.elim (fun h => absurd h.2 (ni rfl)) (fun q => q.elim (fun h => absurd h.2 (ni rfl)) (fun q => q.elim (fun h => absurd h.2 (ni rfl)) (fun q => q.elim (fun h => absurd h.2 (ni rfl)) (fun q => q.elim (fun h => absurd h (nn rfl)) (fun q => q.elim (fun h => absurd h (nn rfl)) (fun h => absurd h (nn rfl)))))))))))
theorem qn_010af1ec6 : ¬ (((41 : Nat) = 41 ∧ (35 : Int) = 2) ∨ ((41 : Nat) = 41 ∧ (35 : Int) = 3) ∨ ((41 : Nat) = 41 ∧ (35 : Int) = 4) ∨ ((41 : Nat) = 41 ∧ (35 : Int) = 5) ∨ ((41 : Nat) = 41 ∧ (35 : Int) = 7) ∨ ((41 : Nat) = 41 ∧ (35 : Int) = 8)) := (fun q => q.elim (fun h => absurd h.2 (ni rfl)) (fun q => q.elim (fun h => absurd h.2 (ni rfl)) (fun q => q.elim (fun h => absurd h.2 (ni rfl)) (fun q => q.elim (fun h => absurd h.2 (ni rfl)) (fun q => q.elim (fun h => absurd h.2 (ni rfl)) (fun h => absurd h.2 (ni rfl)))))))
theorem qn_83d1451ee : ¬ (((41 : Nat) = 41 ∧ (35 : Int) = 16) ∨ ((41 : Nat) = 41 ∧ (35 : Int) = 17) ∨ ((41 : Nat) = 41 ∧ (35 : Int) = 18) ∨ ((41 : Nat) = 41 ∧ (35 : Int) = 19)) := (fun q => q.elim (fun h => absurd h.2 (ni rfl)) (fun q => q.elim (fun h => absurd h.2 (ni rfl)) (fun q => q.elim (fun h => absurd h.2 (ni rfl)) (fun h => absurd h.2 (ni rfl)))))
theorem qn_d8396dee5 : ¬ (((41 : Nat) = 41 ∧ (35 : Int) = 4) ∨ ((41 : Nat) = 41 ∧ (35 : Int) = 5) ∨ ((41 : Nat) = 41 ∧ (35 : Int) = 6) ∨ ((41 : Nat) = 41 ∧ (35 : Int) = 16) ∨ ((41 : Nat) = 41 ∧ (35 : Int) = 17) ∨ ((41 : Nat) = 41 ∧ (35 : Int) = 18) ∨ ((41 : Nat) = 41 ∧ (35 : Int) = 19) ∨ (41 : Nat) = 44 ∨ (41 : Nat) = 45 ∨ (41 : Nat) = 46) := (fun q => q.elim (fun h => absurd h.2 (ni rfl)) (fun q => q.elim (fun h => absurd h.2 (ni rfl)) (fun q => q.elim (fun h => absurd h.2 (ni rfl)) (fun q => q.elim (fun h => absurd h.2 (ni rfl)) (fun q => q.elim (fun h => absurd h.2 (ni rfl)) (fun q => q.elim (fun h => absurd h.2 (ni rfl)) (fun q => q.elim (fun h => absurd h.2 (ni rfl)) (fun q => q.elim (fun h => absurd h (nn rfl)) (fun q => q.elim (fun h => absurd h (nn rfl)) (fun h => absurd h (nn rfl)))))))))))
theorem qv_3a3bba8ab {a : Nat} {j : Int} (hm : ¬ ((a = 41 ∧ j = 0) ∨ a = 42 ∨ (a = 41 ∧ j = 2) ∨ (a = 41 ∧ j = 3) ∨ (a = 41 ∧ j = 4) ∨ (a = 41 ∧ j = 5) ∨ (a = 41 ∧ j = 6) ∨ (a = 41 ∧ j = 7) ∨ (a = 41 ∧ j = 8) ∨ (a = 41 ∧ j = 16) ∨ (a = 41 ∧ j = 17) ∨ (a = 41 ∧ j = 18) ∨ (a = 41 ∧ j = 19) ∨ a = 44 ∨ a = 45 ∨ a = 46 ∨ (a = 41 ∧ j = 20) ∨ (a = 41 ∧ j = 21) ∨ (a = 41 ∧ j = 22) ∨ (a = 41 ∧ j = 23) ∨ (a = 41 ∧ j = 30) ∨ (a = 41 ∧ j = 35) ∨ (a = 41 ∧ j = 36) ∨ (a = 41 ∧ j = 47) ∨ (a = 41 ∧ j = 48) ∨ (a = 41 ∧ j = 52) ∨ a = 47 ∨ a = 48 ∨ a = 49 ∨ a = 58 ∨ a = 64)) : ¬ ((a = 41 ∧ j = 4) ∨ (a = 41 ∧ j = 5) ∨ (a = 41 ∧ j = 6) ∨ (a = 41 ∧ j = 16) ∨ (a = 41 ∧ j = 17) ∨ (a = 41 ∧ j = 18) ∨ (a = 41 ∧ j = 19) ∨ a = 44 ∨ a = 45 ∨ a = 46) := (fun q => q.elim (fun h => hm (Or.inr (Or.inr (Or.inr (Or.inr (Or.inl h)))))) (fun q => q.elim (fun h => hm (Or.inr (Or.inr (Or.inr (Or.inr (Or.inr (Or.inl h))))))) (fun q => q.elim (fun h => hm (Or.inr (Or.inr (Or.inr (Or.inr (Or.inr (Or.inr (Or.inl h)))))))) (fun q => q.elim (fun h => hm (Or.inr (Or.inr (Or.inr (Or.inr (Or.inr (Or.inr (Or.inr (Or.inr (Or.inr (Or.inl h))))))))))) (fun q => q.elim (fun h => hm (Or.inr (Or.inr (Or.inr (Or.inr (Or.inr (Or.inr (Or.inr (Or.inr (Or.inr (Or.inr (Or.inl h)))))))))))) (fun q => q.elim (fun h => hm (Or.inr (Or.inr (Or.inr (Or.inr (Or.inr (Or.inr (Or.inr (Or.inr (Or.inr (Or.inr (Or.inr (Or.inl h))))))))))))) (fun q => q.elim (fun h => hm (Or.inr (Or.inr (Or.inr (Or.inr (Or.inr (Or.inr (Or.inr (Or.inr (Or.inr (Or.inr (Or.inr (Or.inr (Or.inl h)))))))))))))) (fun q => q.elim (fun h => hm (Or.inr (Or.inr (Or.inr (Or.inr (Or.inr (Or.inr (Or.inr (Or.inr (Or.inr (Or.inr (Or.inr (Or.inr (Or.inr (Or.inl h))))))))))))))) (fun q => q.elim (fun h => hm (Or.inr (Or.inr (Or.inr (Or.inr (Or.inr (Or.inr (Or.inr (Or.inr (Or.inr (Or.inr (Or.inr (Or.inr (Or.inr (Or.inr (Or.inl h)))))))))))))))) (fun h => hm (Or.inr (Or.inr (Or.inr (Or.inr (Or.inr (Or.inr (Or.inr (Or.inr (Or.inr (Or.inr (Or.inr (Or.inr (Or.inr (Or.inr (Or.inr (Or.inl h))))))))))))))))))))))))))
theorem qv_701798ed8 {a : Nat} {j : Int} (hm : ¬ ((a = 41 ∧ j = 0) ∨ a = 42 ∨ (a = 41 ∧ j = 2) ∨ (a = 41 ∧ j = 3) ∨ (a = 41 ∧ j = 4) ∨ (a = 41 ∧ j = 5) ∨ (a = 41 ∧ j = 6) ∨ (a = 41 ∧ j = 7) ∨ (a = 41 ∧ j = 8) ∨ (a = 41 ∧ j = 16) ∨ (a = 41 ∧ j = 17) ∨ (a = 41 ∧ j = 18) ∨ (a = 41 ∧ j = 19) ∨ a = 44 ∨ a = 45 ∨ a = 46 ∨ (a = 41 ∧ j = 20) ∨ (a = 41 ∧ j = 21) ∨ (a = 41 ∧ j = 22) ∨ (a = 41 ∧ j = 23) ∨ (a = 41 ∧ j = 30) ∨ (a = 41 ∧ j = 35) ∨ (a = 41 ∧ j = 36) ∨ (a = 41 ∧ j = 47) ∨ (a = 41 ∧ j = 48) ∨ (a = 41 ∧ j = 52) ∨ a = 47 ∨ a = 48 ∨ a = 49 ∨ a = 58 ∨ a = 64)) : ¬ ((a = 41 ∧ j = 16) ∨ (a = 41 ∧ j = 17) ∨ (a = 41 ∧ j = 18) ∨ (a = 41 ∧ j = 19)) := (fun q => q.elim (fun h => hm (Or.inr (Or.inr (Or.inr (Or.inr (Or.inr (Or.inr (Or.inr (Or.inr (Or.inr (Or.inl h))))))))))) (fun q => q.elim (fun h => hm (Or.inr (Or.inr (Or.inr (Or.inr (Or.inr (Or.inr (Or.inr (Or.inr (Or.inr (Or.inr (Or.inl h)))))))))))) (fun q => q.elim (fun h => hm (Or.inr (Or.inr (Or.inr (Or.inr (Or.inr (Or.inr (Or.inr (Or.inr (Or.inr (Or.inr (Or.inr (Or.inl h))))))))))))) (fun h => hm (Or.inr (Or.inr (Or.inr (Or.inr (Or.inr (Or.inr (Or.inr (Or.inr (Or.inr (Or.inr (Or.inr (Or.inr (Or.inl h)))))))))))))))))
theorem qv_efbc52a90 {a : Nat} {j : Int} (hm : ¬ ((a = 41 ∧ j = 0) ∨ a = 42 ∨ (a = 41 ∧ j = 2) ∨ (a = 41 ∧ j = 3) ∨ (a = 41 ∧ j = 4) ∨ (a = 41 ∧ j = 5) ∨ (a = 41 ∧ j = 6) ∨ (a = 41 ∧ j = 7) ∨ (a = 41 ∧ j = 8) ∨ (a = 41 ∧ j = 16) ∨ (a = 41 ∧ j = 17) ∨ (a = 41 ∧ j = 18) ∨ (a = 41 ∧ j = 19) ∨ a = 44 ∨ a = 45 ∨ a = 46 ∨ (a = 41 ∧ j = 20) ∨ (a = 41 ∧ j = 21) ∨ (a = 41 ∧ j = 22) ∨ (a = 41 ∧ j = 23) ∨ (a = 41 ∧ j = 30) ∨ (a = 41 ∧ j = 35) ∨ (a = 41 ∧ j = 36) ∨ (a = 41 ∧ j = 47) ∨ (a = 41 ∧ j = 48) ∨ (a = 41 ∧ j = 52) ∨ a = 47 ∨ a = 48 ∨ a = 49 ∨ a = 58 ∨ a = 64)) : ¬ ((a = 41 ∧ j = 2) ∨ (a = 41 ∧ j = 3) ∨ (a = 41 ∧ j = 4) ∨ (a = 41 ∧ j = 5) ∨ (a = 41 ∧ j = 7) ∨ (a = 41 ∧ j = 8)) := (fun q => q.elim (fun h => hm (Or.inr (Or.inr (Or.inl h)))) (fun q => q.elim (fun h => hm (Or.inr (Or.inr (Or.inr (Or.inl h))))) (fun q => q.elim (fun h => hm (Or.inr (Or.inr (Or.inr (Or.inr (Or.inl h)))))) (fun q => q.elim (fun h => hm (Or.inr (Or.inr (Or.inr (Or.inr (Or.inr (Or.inl h))))))) (fun q => q.elim (fun h => hm (Or.inr (Or.inr (Or.inr (Or.inr (Or.inr (Or.inr (Or.inr (Or.inl h))))))))) (fun h => hm (Or.inr (Or.inr (Or.inr (Or.inr (Or.inr (Or.inr (Or.inr (Or.inr (Or.inl h)))))))))))))))
theorem q_e5f29e5a1 {x0 x1 : Int} (f0 : x0 = x1 - 10) : x1 - 10 = x0 := by omega
theorem qn_1d8f8ed06 {j : Int} : ¬ ((1 : Nat) = 38 ∨ (1 : Nat) = 40 ∨ ((1 : Nat) = 3 ∧ j = 3) ∨ ((1 : Nat) = 3 ∧ j = 4) ∨ ((1 : Nat) = 0 ∧ j = 11)) := (fun q => q.elim (fun h => absurd h (nn rfl)) (fun q => q.elim (fun h => absurd h (nn rfl)) (fun q => q.elim (fun h => absurd h.1 (nn rfl)) (fun q => q.elim (fun h => absurd h.1 (nn rfl)) (fun h => absurd h.1 (nn rfl))))))
theorem q_a93a79546 {x0 : Int} (f0 : (-1) ≤ x0 ∧ x0 ≤ 600) : (-2147483648) ≤ x0 := by omega
theorem q_64fbdbf81 {x0 : Int} (f0 : (-1) ≤ x0 ∧ x0 ≤ 600) : x0 ≤ 2147483647 := by omega
theorem qn_60d8a0f85 {Q : Nat} {j : Int} (hQ : Q = 13 ∨ Q = 25) : ¬ (Q = 38 ∨ Q = 40 ∨ (Q = 3 ∧ j = 3) ∨ (Q = 3 ∧ j = 4) ∨ (Q = 0 ∧ j = 11)) := (fun q => q.elim (fun h => absurd h (np0 hQ rfl)) (fun q => q.elim (fun h => absurd h (np0 hQ rfl)) (fun q => q.elim (fun h => absurd h.1 (np0 hQ rfl)) (fun q => q.elim (fun h => absurd h.1 (np0 hQ rfl)) (fun h => absurd h.1 (np0 hQ rfl))))))
theorem qn_040eefb90 : ¬ (((41 : Nat) = 41 ∧ (2 : Int) = 20) ∨ ((41 : Nat) = 41 ∧ (2 : Int) = 21) ∨ ((41 : Nat) = 41 ∧ (2 : Int) = 22) ∨ ((41 : Nat) = 41 ∧ (2 : Int) = 23) ∨ ((41 : Nat) = 41 ∧ (2 : Int) = 30) ∨ ((41 : Nat) = 41 ∧ (2 : Int) = 35) ∨ ((41 : Nat) = 41 ∧ (2 : Int) = 36) ∨ ((41 : Nat) = 41 ∧ (2 : Int) = 47) ∨ ((41 : Nat) = 41 ∧ (2 : Int) = 48) ∨ ((41 : Nat) = 41 ∧ (2 : Int) = 52) ∨ (41 : Nat) = 47 ∨ (41 : Nat) = 48 ∨ (41 : Nat) = 49 ∨ (41 : Nat) = 58 ∨ (41 : Nat) = 64) := (fun q => q.elim (fun h => absurd h.2 (ni rfl)) (fun q => q.elim (fun h => absurd h.2 (ni rfl)) (fun q => q.elim (fun h => absurd h.2 (ni rfl)) (fun q => q.elim (fun h => absurd h.2 (ni rfl)) (fun q => q.elim (fun h => absurd h.2 (ni rfl)) (fun q => q.elim (fun h => absurd h.2 (ni rfl)) (fun q => q.elim (fun h => absurd h.2 (ni rfl)) (fun q => q.elim (fun h => absurd h.2 (ni rfl)) (fun q => q.elim (fun h => absurd h.2 (ni rfl)) (fun q => q.elim (fun h => absurd h.2 (ni rfl)) (fun q => q.elim (fun h => absurd h (nn rfl)) (fun q => q.elim (fun h => absurd h (nn rfl)) (fun q => q.elim (fun h => absurd h (nn rfl)) (fun q => q.elim (fun h => absurd h (nn rfl)) (fun h => absurd h (nn rfl))))))))))))))))
theorem qn_bd6eb8e87 : ¬ (((41 : Nat) = 41 ∧ (8 : Int) = 20) ∨ ((41 : Nat) = 41 ∧ (8 : Int) = 21) ∨ ((41 : Nat) = 41 ∧ (8 : Int) = 22) ∨ ((41 : Nat) = 41 ∧ (8 : Int) = 23) ∨ ((41 : Nat) = 41 ∧ (8 : Int) = 30) ∨ ((41 : Nat) = 41 ∧ (8 : Int) = 35) ∨ ((41 : Nat) = 41 ∧ (8 : Int) = 36) ∨ ((41 : Nat) = 41 ∧ (8 : Int) = 47) ∨ ((41 : Nat) = 41 ∧ (8 : Int) = 48) ∨ ((41 : Nat) = 41 ∧ (8 : Int) = 52) ∨ (41 : Nat) = 47 ∨ (41 : Nat) = 48 ∨ (41 : Nat) = 49 ∨ (41 : Nat) = 58 ∨ (41 : Nat) = 64) := (fun q => q.elim (fun h => absurd h.2 (ni rfl)) (fun q => q.elim (fun h => absurd h.2 (ni rfl)) (fun q => q.elim (fun h => absurd h.2 (ni rfl)) (fun q => q.elim (fun h => absurd h.2 (ni rfl)) (fun q => q.elim (fun h => absurd h.2 (ni rfl)) (fun q => q.elim (fun h => absurd h.2 (ni rfl)) (fun q => q.elim (fun h => absurd h.2 (ni rfl)) (fun q => q.elim (fun h => absurd h.2 (ni rfl)) (fun q => q.elim (fun h => absurd h.2 (ni rfl)) (fun q => q.elim (fun h => absurd h.2 (ni rfl)) (fun q => q.elim (fun h => absurd h (nn rfl)) (fun q => q.elim (fun h => absurd h (nn rfl)) (fun q => q.elim (fun h => absurd h (nn rfl)) (fun q => q.elim (fun h => absurd h (nn rfl)) (fun h => absurd h (nn rfl))))))))))))))))
theorem qn_0f8f6c114 : ¬ (((41 : Nat) = 41 ∧ (0 : Int) = 20) ∨ ((41 : Nat) = 41 ∧ (0 : Int) = 21) ∨ ((41 : Nat) = 41 ∧ (0 : Int) = 22) ∨ ((41 : Nat) = 41 ∧ (0 : Int) = 23) ∨ ((41 : Nat) = 41 ∧ (0 : Int) = 30) ∨ ((41 : Nat) = 41 ∧ (0 : Int) = 35) ∨ ((41 : Nat) = 41 ∧ (0 : Int) = 36) ∨ ((41 : Nat) = 41 ∧ (0 : Int) = 47) ∨ ((41 : Nat) = 41 ∧ (0 : Int) = 48) ∨ ((41 : Nat) = 41 ∧ (0 : Int) = 52) ∨ (41 : Nat) = 47 ∨ (41 : Nat) = 48 ∨ (41 : Nat) = 49 ∨ (41 : Nat) = 58 ∨ (41 : Nat) = 64) := (fun q => q.elim (fun h => absurd h.2 (ni rfl)) (fun q => q.elim (fun h => absurd h.2 (ni rfl)) (fun q => q.elim (fun h => absurd h.2 (ni rfl)) (fun q => q.elim (fun h => absurd h.2 (ni rfl)) (fun q => q.elim (fun h => absurd h.2 (ni rfl)) (fun q => q.elim (fun h => absurd h.2 (ni rfl)) (fun q => q.elim (fun h => absurd h.2 (ni rfl)) (fun q => q.elim (fun h => absurd h.2 (ni rfl)) (fun q => q.elim (fun h => absurd h.2 (ni rfl)) (fun q => q.elim (fun h => absurd h.2 (ni rfl)) (fun q => q.elim (fun h => absurd h (nn rfl)) (fun q => q.elim (fun h => absurd h (nn rfl)) (fun q => q.elim (fun h => absurd h (nn rfl)) (fun q => q.elim (fun h => absurd h (nn rfl)) (fun h => absurd h (nn rfl))))))))))))))))
theorem qv_001693c50 {a : Nat} {j : Int} (hm : ¬ ((a = 41 ∧ j = 0) ∨ a = 42 ∨ (a = 41 ∧ j = 2) ∨ (a = 41 ∧ j = 3) ∨ (a = 41 ∧ j = 4) ∨ (a = 41 ∧ j = 5) ∨ (a = 41 ∧ j = 6) ∨ (a = 41 ∧ j = 7) ∨ (a = 41 ∧ j = 8) ∨ (a = 41 ∧ j = 16) ∨ (a = 41 ∧ j = 17) ∨ (a = 41 ∧ j = 18) ∨ (a = 41 ∧ j = 19) ∨ a = 44 ∨ a = 45 ∨ a = 46 ∨ (a = 41 ∧ j = 20) ∨ (a = 41 ∧ j = 21) ∨ (a = 41 ∧ j = 22) ∨ (a = 41 ∧ j = 23) ∨ (a = 41 ∧ j = 30) ∨ (a = 41 ∧ j = 35) ∨ (a = 41 ∧ j = 36) ∨ (a = 41 ∧ j = 47) ∨ (a = 41 ∧ j = 48) ∨ (a = 41 ∧ j = 52) ∨ a = 47 ∨ a = 48 ∨ a = 49 ∨ a = 58 ∨ a = 64)) : ¬ ((a = 41 ∧ j = 20) ∨ (a = 41 ∧ j = 21) ∨ (a = 41 ∧ j = 22) ∨ (a = 41 ∧ j = 23) ∨ (a = 41 ∧ j = 30) ∨ (a = 41 ∧ j = 35) ∨ (a = 41 ∧ j = 36) ∨ (a = 41 ∧ j = 47) ∨ (a = 41 ∧ j = 48) ∨ (a = 41 ∧ j = 52) ∨ a = 47 ∨ a = 48 ∨ a = 49 ∨ a = 58 ∨ a = 64) := (fun q => q.elim (fun h => hm (Or.inr (Or.inr (Or.inr (Or.inr (Or.inr (Or.inr (Or.inr (Or.inr (Or.inr (Or.inr (Or.inr (Or.inr (Or.inr (Or.inr (Or.inr (Or.inr (Or.inl h)))))))))))))))))) (fun q => q.elim (fun h => hm (Or.inr (Or.inr (Or.inr (Or.inr (Or.inr (Or.inr (Or.inr (Or.inr (Or.inr (Or.inr (Or.inr (Or.inr (Or.inr (Or.inr (Or.inr (Or.inr (Or.inr (Or.inl h))))))))))))))))))) (fun q => q.elim (fun h => hm (Or.inr (Or.inr (Or.inr (Or.inr (Or.inr (Or.inr (Or.inr (Or.inr (Or.inr (Or.inr (Or.inr (Or.inr (Or.inr (Or.inr (Or.inr (Or.inr (Or.inr (Or.inr (Or.inl h)))))))))))))))))))) (fun q => q.elim (fun h => hm (Or.inr (Or.inr (Or.inr (Or.inr (Or.inr (Or.inr (Or.inr (Or.inr (Or.inr (Or.inr (Or.inr (Or.inr (Or.inr (Or.inr (Or.inr (Or.inr (Or.inr (Or.inr (Or.inr (Or.inl h))))))))))))))))))))) (fun q => q.elim (fun h => hm (Or.inr (Or.inr (Or.inr (Or.inr (Or.inr (Or.inr (Or.inr (Or.inr (Or.inr (Or.inr (Or.inr (Or.inr (Or.inr (Or.inr (Or.inr (Or.inr (Or.inr (Or.inr (Or.inr (Or.inr (Or.inl h)))))))))))))))))))))) (fun q => q.elim (fun h => hm (Or.inr (Or.inr (Or.inr (Or.inr (Or.inr (Or.inr (Or.inr (Or.inr (Or.inr (Or.inr (Or.inr (Or.inr (Or.inr (Or.inr (Or.inr (Or.inr (Or.inr (Or.inr (Or.inr (Or.inr (Or.inr (Or.inl h))))))))))))))))))))))) (fun q => q.elim (fun h => hm (Or.inr (Or.inr (Or.inr (Or.inr (Or.inr (Or.inr (Or.inr (Or.inr (Or.inr (Or.inr (Or.inr (Or.inr (Or.inr (Or.inr (Or.inr (Or.inr (Or.inr (Or.inr (Or.inr (Or.inr (Or.inr (Or.inr (Or.inl h)))))))))))))))))))))))) (fun q => q.elim (fun h => hm (Or.inr (Or.inr (Or.inr (Or.inr (Or.inr (Or.inr (Or.inr (Or.inr (Or.inr (Or.inr (Or.inr (Or.inr (Or.inr (Or.inr (Or.inr (Or.inr (Or.inr (Or.inr (Or.inr (Or.inr (Or.inr (Or.inr (Or.inr (Or.inl h))))))))))))))))))))))))) (fun q => q.elim (fun h => hm (Or.inr (Or.inr (Or.inr (Or.inr (Or.inr (Or.inr (Or.inr (Or.inr (Or.inr (Or.inr (Or.inr (Or.inr (Or.inr (Or.inr (Or.inr (Or.inr (Or.inr (Or.inr (Or.inr (Or.inr (Or.inr (Or.inr (Or.inr (Or.inr (Or.inl h)))))))))))))))))))))))))) (fun q => q.elim (fun h => hm (Or.inr (Or.inr (Or.inr (Or.inr (Or.inr (Or.inr (Or.inr (Or.inr (Or.inr (Or.inr (Or.inr (Or.inr (Or.inr (Or.inr (Or.inr (Or.inr (Or.inr (Or.inr (Or.inr (Or.inr (Or.inr (Or.inr (Or.inr (Or.inr (Or.inr (Or.inl h))))))))))))))))))))))))))) (fun q => q.elim (fun h => hm (Or.inr (Or.inr (Or.inr (Or.inr (Or.inr (Or.inr (Or.inr (Or.inr (Or.inr (Or.inr (Or.inr (Or.inr (Or.inr (Or.inr (Or.inr (Or.inr (Or.inr (Or.inr (Or.inr (Or.inr (Or.inr (Or.inr (Or.inr (Or.inr (Or.inr (Or.inr (Or.inl h)))))))))))))))))))))))))))) (fun q => q.elim (fun h => hm (Or.inr (Or.inr (Or.inr (Or.inr (Or.inr (Or.inr (Or.inr (Or.inr (Or.inr (Or.inr (Or.inr (Or.inr (Or.inr (Or.inr (Or.inr (Or.inr (Or.inr (Or.inr (Or.inr (Or.inr (Or.inr (Or.inr (Or.inr (Or.inr (Or.inr (Or.inr (Or.inr (Or.inl h))))))))))))))))))))))))))))) (fun q => q.elim (fun h => hm (Or.inr (Or.inr (Or.inr (Or.inr (Or.inr (Or.inr (Or.inr (Or.inr (Or.inr (Or.inr (Or.inr (Or.inr (Or.inr (Or.inr (Or.inr (Or.inr (Or.inr (Or.inr (Or.inr (Or.inr (Or.inr (Or.inr (Or.inr (Or.inr (Or.inr (Or.inr (Or.inr (Or.inr (Or.inl h)))))))))))))))))))))))))))))) (fun q => q.elim (fun h => hm (Or.inr (Or.inr (Or.inr (Or.inr (Or.inr (Or.inr (Or.inr (Or.inr (Or.inr (Or.inr (Or.inr (Or.inr (Or.inr (Or.inr (Or.inr (Or.inr (Or.inr (Or.inr (Or.inr (Or.inr (Or.inr (Or.inr (Or.inr (Or.inr (Or.inr (Or.inr (Or.inr (Or.inr (Or.inr (Or.inl h))))))))))))))))))))))))))))))) (fun h => hm (Or.inr (Or.inr (Or.inr (Or.inr (Or.inr (Or.inr (Or.inr (Or.inr (Or.inr (Or.inr (Or.inr (Or.inr (Or.inr (Or.inr (Or.inr (Or.inr (Or.inr (Or.inr (Or.inr (Or.inr (Or.inr (Or.inr (Or.inr (Or.inr (Or.inr (Or.inr (Or.inr (Or.inr (Or.inr (Or.inr h)))))))))))))))))))))))))))))))))))))))))))))
theorem q_019e65e0c {x0 x1 x2 x3 x4 x5 : Int} (f0 : (-1) ≤ x0 ∧ x0 ≤ 600) (f1 : x0 = x1) (f2 : x2 = 0 ∧ x3 = -1 ∧ x4 = x5 ∧ x1 = -1) : (-1) = x0 := by omega
theorem qn_87df51461 : ¬ (((41 : Nat) = 41 ∧ (35 : Int) = 37) ∨ ((41 : Nat) = 41 ∧ (35 : Int) = 38) ∨ ((41 : Nat) = 41 ∧ (35 : Int) = 39) ∨ (41 : Nat) = 59 ∨ (41 : Nat) = 54 ∨ (41 : Nat) = 55) := (fun q => q.elim (fun h => absurd h.2 (ni rfl)) (fun q => q.elim (fun h => absurd h.2 (ni rfl)) (fun q => q.elim (fun h => absurd h.2 (ni rfl)) (fun q => q.elim (fun h => absurd h (nn rfl)) (fun q => q.elim (fun h => absurd h (nn rfl)) (fun h => absurd h (nn rfl)))))))
theorem qv_c2f2b1db7 {a : Nat} {j : Int} (hm : ¬ ((a = 41 ∧ j = 35) ∨ (a = 41 ∧ j = 36) ∨ (a = 41 ∧ j = 37) ∨ (a = 41 ∧ j = 38) ∨ (a = 41 ∧ j = 39) ∨ a = 58 ∨ a = 59 ∨ a = 54 ∨ a = 55)) : ¬ ((a = 41 ∧ j = 37) ∨ (a = 41 ∧ j = 38) ∨ (a = 41 ∧ j = 39) ∨ a = 59 ∨ a = 54 ∨ a = 55) := (fun q => q.elim (fun h => hm (Or.inr (Or.inr (Or.inl h)))) (fun q => q.elim (fun h => hm (Or.inr (Or.inr (Or.inr (Or.inl h))))) (fun q => q.elim (fun h => hm (Or.inr (Or.inr (Or.inr (Or.inr (Or.inl h)))))) (fun q => q.elim (fun h => hm (Or.inr (Or.inr (Or.inr (Or.inr (Or.inr (Or.inr (Or.inl h)))))))) (fun q => q.elim (fun h => hm (Or.inr (Or.inr (Or.inr (Or.inr (Or.inr (Or.inr (Or.inr (Or.inl h))))))))) (fun h => hm (Or.inr (Or.inr (Or.inr (Or.inr (Or.inr (Or.inr (Or.inr (Or.inr h))))))))))))))
theorem q_c1bde17fc {x0 x1 x2 x3 : Int} (f0 : x0 ≤ x1 ∧ (x1 ≤ x2 ∨ x1 = x0)) (f1 : 0 ≤ x3 ∧ x3 ≤ 600) (f2 : x3 = x0) : (-2147483648) ≤ x1 := by omega
theorem q_1a04c20dc {x0 x1 x2 x3 x4 : Int} (f0 : 0 ≤ x0 ∧ x0 ≤ 600) (f1 : x1 ≤ x2 ∧ (x2 ≤ x3 ∨ x2 = x1)) (f2 : 0 ≤ x4 ∧ x4 ≤ 600) (f3 : x4 = x1) (f4 : x0 = x3) : x2 ≤ 2147483647 := by omega
theorem q_5e082ea92 {x0 x1 x2 x3 x4 : Int} (f0 : (1 ≤ x0 ∧ x0 ≤ 3) ∧ x1 = x2 ∧ 0 ≤ x2 ∧ x3 = x0) (f1 : x0 = x4) : ¬ x4 = 0 := by omega
theorem q_4ad75e8a2 {x0 x1 : Int} (f0 : 0 ≤ x0 ∧ x0 ≤ 600) (f1 : x0 = x1) : 0 ≤ x1 := by omega
theorem q_b03d63f6f {x0 x1 : Int} (f0 : 0 ≤ x0 ∧ x0 ≤ 600) (f1 : x0 = x1 + 1) : x1 < 600 := by omega
theorem q_5146b7f54 {x0 x1 x2 x3 x4 x5 x6 : Int} (f0 : 0 ≤ x0 ∧ x0 ≤ 600) (f1 : x0 = x1) (f2 : (x2 ≥ 1 ∧ x2 ≤ 3 ∧ x3 = x4 ∧ x4 ≥ 0 ∧ x5 = x2) ∨ (x2 = 0 ∧ x4 = (-1) ∧ x3 = x1 ∧ x1 = x6 ∧ x5 = 1)) : ¬ x3 = (-1) := by omega
theorem q_dcb0bb3ef {x0 x1 : Int} (f0 : 0 ≤ x0 ∧ x0 ≤ 3) (f1 : x0 = x1) (f2 : x1 ≠ 0) : 1 ≤ x0 := by omega
theorem q_499a13b0c {x0 x1 : Int} (f0 : 0 ≤ x0 ∧ x0 ≤ 3) (f1 : x0 = x1) (f2 : x1 ≠ 0) : 0 < x0 := by omega
theorem q_a8a084dc8 {x0 x1 x2 x3 x4 x5 : Int} (f0 : ¬ (x0 ≠ 0)) (f1 : (x0 ≥ 1 ∧ x0 ≤ 3 ∧ x1 = x2 ∧ x2 ≥ 0 ∧ x3 = x0) ∨ (x0 = 0 ∧ x2 = (-1) ∧ x1 = x4 ∧ x4 = x5 ∧ x3 = 1)) : x5 ≤ x4 := by omega
theorem q_14e15ec0e {x0 x1 x2 x3 x4 x5 x6 : Int} (f0 : 0 ≤ x0 ∧ x0 ≤ 600) (f1 : x0 = x1) (f2 : ¬ (x2 ≠ 0)) (f3 : (x2 ≥ 1 ∧ x2 ≤ 3 ∧ x3 = x4 ∧ x4 ≥ 0 ∧ x5 = x2) ∨ (x2 = 0 ∧ x4 = (-1) ∧ x3 = x1 ∧ x1 = x6 ∧ x5 = 1)) : ¬ x3 = (-1) := by omega
theorem q_61d4e0e16 {x0 x1 x2 x3 x4 x5 x6 : Int} (f0 : x0 = x1) (f1 : ¬ (x2 ≠ 0)) (f2 : (x2 ≥ 1 ∧ x2 ≤ 3 ∧ x3 = x4 ∧ x4 ≥ 0 ∧ x5 = x2) ∨ (x2 = 0 ∧ x4 = (-1) ∧ x3 = x1 ∧ x1 = x6 ∧ x5 = 1)) : x3 = x0 := by omega
theorem q_8d9b59732 {x0 x1 x2 : Int} (f0 : x0 = x1) (f1 : 0 ≤ x2 ∧ x2 ≤ 600) (f2 : x2 = x1) : 0 ≤ x0 := by omega
theorem q_8172a5a87 {x0 x1 x2 x3 x4 x5 x6 : Int} (f0 : x0 = 1) (f1 : ¬ (x1 ≠ 0)) (f2 : (x1 ≥ 1 ∧ x1 ≤ 3 ∧ x2 = x3 ∧ x3 ≥ 0 ∧ x4 = x1) ∨ (x1 = 0 ∧ x3 = (-1) ∧ x2 = x5 ∧ x5 = x6 ∧ x4 = 1)) : x4 = x0 := by omega
theorem c_84_0 : mLk 84 0 = some (.aload_n 0, 1) := rfl
theorem c_84_1 : mLk 84 1 = some (.iload_n 1, 1) := rfl
theorem c_84_2 : mLk 84 2 = some (.sipush 600, 3) := rfl
theorem c_84_5 : mLk 84 5 = some (.invokevirtual 81, 3) := rfl
theorem c_82_0 : mLk 82 0 = some (.aload_n 0, 1) := rfl
theorem c_82_1 : mLk 82 1 = some (.iload_n 1, 1) := rfl
theorem c_82_2 : mLk 82 2 = some (.iconst 0, 1) := rfl
theorem c_82_3 : mLk 82 3 = some (.iload_n 2, 1) := rfl
theorem c_82_4 : mLk 82 4 = some (.aload_n 0, 1) := rfl
theorem c_82_5 : mLk 82 5 = some (.getfield 10, 3) := rfl
theorem c_82_8 : mLk 82 8 = some (.getfield 77, 3) := rfl
theorem c_82_11 : mLk 82 11 = some (.invokestatic 278, 3) := rfl
theorem c_82_14 : mLk 82 14 = some (.invokestatic 157, 3) := rfl
theorem c_80_0 : mLk 80 0 = some (.iload_n 0, 1) := rfl
theorem c_80_1 : mLk 80 1 = some (.iload_n 1, 1) := rfl
theorem c_80_2 : mLk 80 2 = some (.if_icmp .lt 12, 3) := rfl
theorem c_80_5 : mLk 80 5 = some (.iload_n 0, 1) := rfl
theorem c_80_6 : mLk 80 6 = some (.iload_n 2, 1) := rfl
theorem c_80_7 : mLk 80 7 = some (.if_icmp .gt 7, 3) := rfl
theorem c_80_10 : mLk 80 10 = some (.iconst 1, 1) := rfl
theorem c_80_11 : mLk 80 11 = some (.goto 4, 3) := rfl
theorem c_80_15 : mLk 80 15 = some (.ireturn, 1) := rfl
theorem c_82_17 : mLk 82 17 = some (.invokevirtual 161, 3) := rfl
theorem c_81_0 : mLk 81 0 = some (.iload_n 1, 1) := rfl
theorem c_81_1 : mLk 81 1 = some (.ifCond .ne 24, 3) := rfl
theorem c_81_25 : mLk 81 25 = some (.return_, 1) := rfl
theorem c_82_20 : mLk 82 20 = some (.aload_n 0, 1) := rfl
theorem c_82_21 : mLk 82 21 = some (.getfield 10, 3) := rfl
theorem c_82_24 : mLk 82 24 = some (.iload_n 1, 1) := rfl
theorem c_82_25 : mLk 82 25 = some (.invokevirtual 348, 3) := rfl
theorem c_74_0 : mLk 74 0 = some (.aload_n 0, 1) := rfl
theorem c_74_1 : mLk 74 1 = some (.iload_n 1, 1) := rfl
theorem c_74_2 : mLk 74 2 = some (.aload_n 0, 1) := rfl
theorem c_74_3 : mLk 74 3 = some (.getfield 19, 3) := rfl
theorem c_74_6 : mLk 74 6 = some (.invokestatic 26, 3) := rfl
theorem c_74_9 : mLk 74 9 = some (.putfield 32, 3) := rfl
theorem c_74_12 : mLk 74 12 = some (.aload_n 0, 1) := rfl
theorem c_74_13 : mLk 74 13 = some (.iconst 0, 1) := rfl
theorem c_74_14 : mLk 74 14 = some (.putfield 35, 3) := rfl
theorem c_74_17 : mLk 74 17 = some (.aload_n 0, 1) := rfl
theorem c_74_18 : mLk 74 18 = some (.iconst 0, 1) := rfl
theorem c_74_19 : mLk 74 19 = some (.putfield 19, 3) := rfl
theorem c_74_22 : mLk 74 22 = some (.aload_n 0, 1) := rfl
theorem c_74_23 : mLk 74 23 = some (.iconst 0, 1) := rfl
theorem c_74_24 : mLk 74 24 = some (.putfield 38, 3) := rfl
theorem c_74_27 : mLk 74 27 = some (.aload_n 0, 1) := rfl
theorem c_74_28 : mLk 74 28 = some (.iconst (-1), 1) := rfl
theorem c_74_29 : mLk 74 29 = some (.putfield 15, 3) := rfl
theorem c_74_32 : mLk 74 32 = some (.return_, 1) := rfl
theorem c_82_28 : mLk 82 28 = some (.return_, 1) := rfl
theorem c_84_8 : mLk 84 8 = some (.aload_n 0, 1) := rfl
theorem c_84_9 : mLk 84 9 = some (.getfield 54, 3) := rfl
theorem c_84_12 : mLk 84 12 = some (.aload_n 0, 1) := rfl
theorem c_84_13 : mLk 84 13 = some (.getfield 10, 3) := rfl
theorem c_84_16 : mLk 84 16 = some (.invokevirtual 85, 3) := rfl
theorem c_84_19 : mLk 84 19 = some (.aload_n 0, 1) := rfl
theorem c_84_20 : mLk 84 20 = some (.getfield 10, 3) := rfl
theorem c_84_23 : mLk 84 23 = some (.invokevirtual 89, 3) := rfl
theorem c_2_0 : mLk 2 0 = some (.aload_n 0, 1) := rfl
theorem c_2_1 : mLk 2 1 = some (.getfield 38, 3) := rfl
theorem c_2_4 : mLk 2 4 = some (.ifCond .ne 7, 3) := rfl
theorem c_2_11 : mLk 2 11 = some (.iconst 0, 1) := rfl
theorem c_2_12 : mLk 2 12 = some (.ireturn, 1) := rfl
theorem c_84_26 : mLk 84 26 = some (.ifCond .eq 55, 3) := rfl
theorem c_84_81 : mLk 84 81 = some (.aload_n 0, 1) := rfl
theorem c_84_82 : mLk 84 82 = some (.aload_n 0, 1) := rfl
theorem c_84_83 : mLk 84 83 = some (.getfield 50, 3) := rfl
theorem c_84_86 : mLk 84 86 = some (.getfield 102, 3) := rfl
theorem c_84_89 : mLk 84 89 = some (.invokevirtual 105, 3) := rfl
theorem c_83_0 : mLk 83 0 = some (.aload_n 0, 1) := rfl
theorem c_83_1 : mLk 83 1 = some (.getfield 10, 3) := rfl
theorem c_83_4 : mLk 83 4 = some (.invokevirtual 89, 3) := rfl
theorem c_83_7 : mLk 83 7 = some (.ifCond .eq 7, 3) := rfl
theorem c_83_14 : mLk 83 14 = some (.aload_n 0, 1) := rfl
theorem c_83_15 : mLk 83 15 = some (.getfield 10, 3) := rfl
theorem c_83_18 : mLk 83 18 = some (.getfield 351, 3) := rfl
theorem c_83_21 : mLk 83 21 = some (.bipush 10, 2) := rfl
theorem c_83_23 : mLk 83 23 = some (.isub, 1) := rfl
theorem c_83_24 : mLk 83 24 = some (.ireturn, 1) := rfl
theorem c_84_92 : mLk 84 92 = some (.ireturn, 1) := rfl
theorem c_169_0 : mLk 169 0 = some (.aload_n 0, 1) := rfl
theorem c_169_1 : mLk 169 1 = some (.iconst 0, 1) := rfl
theorem c_169_2 : mLk 169 2 = some (.putfield 3, 3) := rfl
theorem c_169_5 : mLk 169 5 = some (.aload_n 0, 1) := rfl
theorem c_169_6 : mLk 169 6 = some (.iload_n 1, 1) := rfl
theorem c_169_7 : mLk 169 7 = some (.ifCond .lt 15, 3) := rfl
theorem c_169_10 : mLk 169 10 = some (.iload_n 1, 1) := rfl
theorem c_169_11 : mLk 169 11 = some (.aload_n 0, 1) := rfl
theorem c_169_12 : mLk 169 12 = some (.getfield 99, 3) := rfl
theorem c_169_15 : mLk 169 15 = some (.if_icmp .gt 7, 3) := rfl
theorem c_169_18 : mLk 169 18 = some (.iconst 1, 1) := rfl
theorem c_169_19 : mLk 169 19 = some (.goto 4, 3) := rfl
theorem c_169_23 : mLk 169 23 = some (.iconst 1, 1) := rfl
theorem c_169_24 : mLk 169 24 = some (.iconst 1, 1) := rfl
theorem c_169_25 : mLk 169 25 = some (.invokevirtual 203, 3) := rfl
theorem c_145_0 : mLk 145 0 = some (.iload_n 1, 1) := rfl
theorem c_145_1 : mLk 145 1 = some (.ifCond .ne 25, 3) := rfl
theorem c_145_26 : mLk 145 26 = some (.aload_n 0, 1) := rfl
theorem c_145_27 : mLk 145 27 = some (.getfield 3, 3) := rfl
theorem c_145_30 : mLk 145 30 = some (.ifCond .ne 7, 3) := rfl
theorem c_145_33 : mLk 145 33 = some (.iconst 1, 1) := rfl
theorem c_145_34 : mLk 145 34 = some (.goto 4, 3) := rfl
theorem c_145_38 : mLk 145 38 = some (.ireturn, 1) := rfl
theorem c_169_28 : mLk 169 28 = some (.ifCond .ne 5, 3) := rfl
theorem c_169_33 : mLk 169 33 = some (.aload_n 0, 1) := rfl
theorem c_169_34 : mLk 169 34 = some (.iload_n 1, 1) := rfl
theorem c_169_35 : mLk 169 35 = some (.invokevirtual 207, 3) := rfl
theorem c_169_38 : mLk 169 38 = some (.aload_n 0, 1) := rfl
theorem c_169_39 : mLk 169 39 = some (.invokevirtual 93, 3) := rfl
theorem c_169_42 : mLk 169 42 = some (.iconst 0, 1) := rfl
theorem c_169_43 : mLk 169 43 = some (.istore_n 2, 1) := rfl
theorem c_169_136 : mLk 169 136 = some (.aload_n 0, 1) := rfl
theorem c_169_137 : mLk 169 137 = some (.aload_n 0, 1) := rfl
theorem c_169_138 : mLk 169 138 = some (.getfield 145, 3) := rfl
theorem c_169_141 : mLk 169 141 = some (.invokevirtual 232, 3) := rfl
theorem c_164_0 : mLk 164 0 = some (.aload_n 0, 1) := rfl
theorem c_164_1 : mLk 164 1 = some (.aload_n 0, 1) := rfl
theorem c_164_2 : mLk 164 2 = some (.getfield 102, 3) := rfl
theorem c_164_5 : mLk 164 5 = some (.putfield 17, 3) := rfl
theorem c_164_8 : mLk 164 8 = some (.aload_n 0, 1) := rfl
theorem c_164_9 : mLk 164 9 = some (.invokevirtual 131, 3) := rfl
theorem c_152_0 : mLk 152 0 = some (.aload_n 0, 1) := rfl
theorem c_152_1 : mLk 152 1 = some (.getfield 102, 3) := rfl
theorem c_152_4 : mLk 152 4 = some (.iconst (-1), 1) := rfl
theorem c_152_5 : mLk 152 5 = some (.if_icmp .ne 7, 3) := rfl
theorem c_152_12 : mLk 152 12 = some (.iconst 0, 1) := rfl
theorem c_152_13 : mLk 152 13 = some (.ireturn, 1) := rfl
theorem c_164_12 : mLk 164 12 = some (.ifCond .eq 7, 3) := rfl
theorem c_164_19 : mLk 164 19 = some (.aload_n 0, 1) := rfl
theorem c_164_20 : mLk 164 20 = some (.getfield 105, 3) := rfl
theorem c_164_23 : mLk 164 23 = some (.bipush 10, 2) := rfl
theorem c_164_25 : mLk 164 25 = some (.isub, 1) := rfl
theorem c_164_26 : mLk 164 26 = some (.ireturn, 1) := rfl
theorem c_169_144 : mLk 169 144 = some (.istore_n 3, 1) := rfl
theorem c_169_145 : mLk 169 145 = some (.aload_n 0, 1) := rfl
theorem c_169_146 : mLk 169 146 = some (.getfield 102, 3) := rfl
theorem c_169_149 : mLk 169 149 = some (.iconst (-1), 1) := rfl
theorem c_169_150 : mLk 169 150 = some (.if_icmp .ne 7, 3) := rfl
theorem c_169_157 : mLk 169 157 = some (.iload_n 3, 1) := rfl
theorem c_169_158 : mLk 169 158 = some (.ireturn, 1) := rfl
theorem c_2_7 : mLk 2 7 = some (.iconst 1, 1) := rfl
theorem c_2_8 : mLk 2 8 = some (.goto 4, 3) := rfl
theorem c_84_29 : mLk 84 29 = some (.aload_n 0, 1) := rfl
theorem c_84_30 : mLk 84 30 = some (.getfield 50, 3) := rfl
theorem c_84_33 : mLk 84 33 = some (.astore_n 2, 1) := rfl
theorem c_84_34 : mLk 84 34 = some (.aload_n 0, 1) := rfl
theorem c_84_35 : mLk 84 35 = some (.aload_n 0, 1) := rfl
theorem c_84_36 : mLk 84 36 = some (.getfield 54, 3) := rfl
theorem c_84_39 : mLk 84 39 = some (.putfield 50, 3) := rfl
theorem c_152_8 : mLk 152 8 = some (.iconst 1, 1) := rfl
theorem c_152_9 : mLk 152 9 = some (.goto 4, 3) := rfl
theorem c_164_15 : mLk 164 15 = some (.iload_n 1, 1) := rfl
theorem c_164_16 : mLk 164 16 = some (.goto 10, 3) := rfl
theorem c_169_153 : mLk 169 153 = some (.aload_n 0, 1) := rfl
theorem c_169_154 : mLk 169 154 = some (.invokevirtual 96, 3) := rfl
theorem c_202_155 : mLk 202 155 = some (.aload_n 0, 1) := rfl
theorem c_202_156 : mLk 202 156 = some (.dup, 1) := rfl
theorem c_202_157 : mLk 202 157 = some (.getfield 182, 3) := rfl
theorem c_202_160 : mLk 202 160 = some (.iconst 1, 1) := rfl
theorem c_202_161 : mLk 202 161 = some (.iadd, 1) := rfl
theorem c_202_162 : mLk 202 162 = some (.putfield 182, 3) := rfl
theorem c_202_165 : mLk 202 165 = some (.aload_n 0, 1) := rfl
theorem c_202_166 : mLk 202 166 = some (.invokevirtual 317, 3) := rfl
theorem c_202_169 : mLk 202 169 = some (.aload_n 0, 1) := rfl
theorem c_202_170 : mLk 202 170 = some (.iconst 0, 1) := rfl
theorem c_202_171 : mLk 202 171 = some (.putfield 320, 3) := rfl
theorem c_202_174 : mLk 202 174 = some (.aload_n 0, 1) := rfl
theorem c_202_175 : mLk 202 175 = some (.iconst 0, 1) := rfl
theorem c_202_176 : mLk 202 176 = some (.putfield 323, 3) := rfl
theorem c_202_179 : mLk 202 179 = some (.aload_n 0, 1) := rfl
theorem c_202_180 : mLk 202 180 = some (.iconst 0, 1) := rfl
theorem c_202_181 : mLk 202 181 = some (.putfield 326, 3) := rfl
theorem c_202_184 : mLk 202 184 = some (.aload_n 0, 1) := rfl
theorem c_202_185 : mLk 202 185 = some (.iconst 0, 1) := rfl
theorem c_202_186 : mLk 202 186 = some (.aload_n 0, 1) := rfl
theorem c_202_187 : mLk 202 187 = some (.getfield 284, 3) := rfl
theorem c_202_190 : mLk 202 190 = some (.invokevirtual 329, 3) := rfl
theorem c_202_193 : mLk 202 193 = some (.aload_n 0, 1) := rfl
theorem c_202_194 : mLk 202 194 = some (.aload_n 0, 1) := rfl
theorem c_202_195 : mLk 202 195 = some (.getfield 68, 3) := rfl
theorem c_202_198 : mLk 202 198 = some (.aload_n 0, 1) := rfl
theorem c_202_199 : mLk 202 199 = some (.getfield 65, 3) := rfl
theorem c_202_202 : mLk 202 202 = some (.bipush 37, 2) := rfl
theorem c_202_204 : mLk 202 204 = some (.invokevirtual 169, 3) := rfl
theorem c_202_207 : mLk 202 207 = some (.aload_n 0, 1) := rfl
theorem c_202_208 : mLk 202 208 = some (.aload_n 0, 1) := rfl
theorem c_202_209 : mLk 202 209 = some (.getfield 326, 3) := rfl
theorem c_202_212 : mLk 202 212 = some (.putfield 188, 3) := rfl
theorem c_202_215 : mLk 202 215 = some (.aload_n 0, 1) := rfl
theorem c_202_216 : mLk 202 216 = some (.getfield 323, 3) := rfl
theorem c_202_219 : mLk 202 219 = some (.ireturn, 1) := rfl
theorem c_202_123 : mLk 202 123 = some (.iload_n 3, 1) := rfl
theorem c_202_124 : mLk 202 124 = some (.bipush 37, 2) := rfl
theorem c_202_126 : mLk 202 126 = some (.if_icmp .ge 29, 3) := rfl
theorem c_202_129 : mLk 202 129 = some (.aload_n 0, 1) := rfl
theorem c_202_130 : mLk 202 130 = some (.getfield 71, 3) := rfl
theorem c_202_133 : mLk 202 133 = some (.bipush 37, 2) := rfl
theorem c_202_135 : mLk 202 135 = some (.aload_n 0, 1) := rfl
theorem c_202_136 : mLk 202 136 = some (.getfield 182, 3) := rfl
theorem c_202_139 : mLk 202 139 = some (.imul, 1) := rfl
theorem c_202_140 : mLk 202 140 = some (.iload_n 3, 1) := rfl
theorem c_202_141 : mLk 202 141 = some (.iadd, 1) := rfl
theorem c_202_142 : mLk 202 142 = some (.aload_n 0, 1) := rfl
theorem c_202_143 : mLk 202 143 = some (.getfield 65, 3) := rfl
theorem c_202_146 : mLk 202 146 = some (.iload_n 3, 1) := rfl
theorem c_202_147 : mLk 202 147 = some (.iaload, 1) := rfl
theorem c_202_148 : mLk 202 148 = some (.iastore, 1) := rfl
theorem c_202_149 : mLk 202 149 = some (.iinc 3 1, 3) := rfl
theorem c_202_152 : mLk 202 152 = some (.goto (-29), 3) := rfl
theorem c_202_121 : mLk 202 121 = some (.iconst 0, 1) := rfl
theorem c_202_122 : mLk 202 122 = some (.istore_n 3, 1) := rfl
theorem c_38_0 : mLk 38 0 = some (.aload_n 0, 1) := rfl
theorem c_38_1 : mLk 38 1 = some (.invokevirtual 42, 3) := rfl
theorem c_38_4 : mLk 38 4 = some (.istore_n 1, 1) := rfl
theorem c_38_5 : mLk 38 5 = some (.aload_n 0, 1) := rfl
theorem c_38_6 : mLk 38 6 = some (.sipush 999, 3) := rfl
theorem c_38_9 : mLk 38 9 = some (.invokevirtual 73, 3) := rfl
theorem c_38_12 : mLk 38 12 = some (.istore_n 2, 1) := rfl
theorem c_38_13 : mLk 38 13 = some (.iload_n 2, 1) := rfl
theorem c_38_14 : mLk 38 14 = some (.ifCond .ne 9, 3) := rfl
theorem c_38_17 : mLk 38 17 = some (.aload_n 0, 1) := rfl
theorem c_38_18 : mLk 38 18 = some (.iconst 2, 1) := rfl
theorem c_38_19 : mLk 38 19 = some (.iload_n 1, 1) := rfl
theorem c_38_20 : mLk 38 20 = some (.invokevirtual 51, 3) := rfl
theorem c_7_0 : mLk 7 0 = some (.aload_n 0, 1) := rfl
theorem c_7_1 : mLk 7 1 = some (.getfield 38, 3) := rfl
theorem c_7_4 : mLk 7 4 = some (.ifCond .ne 13, 3) := rfl
theorem c_7_17 : mLk 7 17 = some (.return_, 1) := rfl
theorem c_38_23 : mLk 38 23 = some (.iload_n 2, 1) := rfl
theorem c_38_24 : mLk 38 24 = some (.ireturn, 1) := rfl
theorem c_7_7 : mLk 7 7 = some (.aload_n 0, 1) := rfl
theorem c_7_8 : mLk 7 8 = some (.iload_n 1, 1) := rfl
theorem c_7_9 : mLk 7 9 = some (.putfield 38, 3) := rfl
theorem c_7_12 : mLk 7 12 = some (.aload_n 0, 1) := rfl
theorem c_7_13 : mLk 7 13 = some (.iload_n 2, 1) := rfl
theorem c_7_14 : mLk 7 14 = some (.putfield 15, 3) := rfl
theorem c_11_0 : mLk 11 0 = some (.aload_n 0, 1) := rfl
theorem c_11_1 : mLk 11 1 = some (.invokevirtual 45, 3) := rfl
theorem c_11_4 : mLk 11 4 = some (.ifCond .eq 21, 3) := rfl
theorem c_11_7 : mLk 11 7 = some (.aload_n 0, 1) := rfl
theorem c_11_8 : mLk 11 8 = some (.aload_n 1, 1) := rfl
theorem c_11_9 : mLk 11 9 = some (.invokevirtual 65, 3) := rfl
theorem c_4_0 : mLk 4 0 = some (.aload_n 0, 1) := rfl
theorem c_4_1 : mLk 4 1 = some (.invokevirtual 41, 3) := rfl
theorem c_4_4 : mLk 4 4 = some (.istore_n 2, 1) := rfl
theorem c_4_5 : mLk 4 5 = some (.iconst 0, 1) := rfl
theorem c_4_6 : mLk 4 6 = some (.istore_n 3, 1) := rfl
theorem c_4_7 : mLk 4 7 = some (.iload_n 3, 1) := rfl
theorem c_4_8 : mLk 4 8 = some (.aload_n 1, 1) := rfl
theorem c_4_9 : mLk 4 9 = some (.invokevirtual 56, 3) := rfl
theorem c_4_12 : mLk 4 12 = some (.if_icmp .ge 43, 3) := rfl
theorem c_4_15 : mLk 4 15 = some (.iload_n 2, 1) := rfl
theorem c_4_16 : mLk 4 16 = some (.aload_n 0, 1) := rfl
theorem c_4_17 : mLk 4 17 = some (.getfield 32, 3) := rfl
theorem c_4_20 : mLk 4 20 = some (.if_icmp .ge 35, 3) := rfl
theorem c_4_55 : mLk 4 55 = some (.iconst (-1), 1) := rfl
theorem c_4_56 : mLk 4 56 = some (.ireturn, 1) := rfl
theorem c_11_12 : mLk 11 12 = some (.iconst (-1), 1) := rfl
theorem c_11_13 : mLk 11 13 = some (.if_icmp .ne 12, 3) := rfl
theorem c_11_16 : mLk 11 16 = some (.aload_n 0, 1) := rfl
theorem c_11_17 : mLk 11 17 = some (.iconst 1, 1) := rfl
theorem c_11_18 : mLk 11 18 = some (.aload_n 0, 1) := rfl
theorem c_11_19 : mLk 11 19 = some (.getfield 35, 3) := rfl
theorem c_11_22 : mLk 11 22 = some (.invokevirtual 52, 3) := rfl
theorem c_11_25 : mLk 11 25 = some (.return_, 1) := rfl
theorem c_161_0 : mLk 161 0 = some (.aload_n 0, 1) := rfl
theorem c_161_1 : mLk 161 1 = some (.invokevirtual 131, 3) := rfl
theorem c_161_4 : mLk 161 4 = some (.ifCond .eq 20, 3) := rfl
theorem c_161_7 : mLk 161 7 = some (.aload_n 0, 1) := rfl
theorem c_161_8 : mLk 161 8 = some (.invokevirtual 114, 3) := rfl
theorem c_161_11 : mLk 161 11 = some (.iload_n 1, 1) := rfl
theorem c_161_12 : mLk 161 12 = some (.if_icmp .eq 12, 3) := rfl
theorem c_161_15 : mLk 161 15 = some (.aload_n 0, 1) := rfl
theorem c_161_16 : mLk 161 16 = some (.iconst 1, 1) := rfl
theorem c_161_17 : mLk 161 17 = some (.aload_n 0, 1) := rfl
theorem c_161_18 : mLk 161 18 = some (.getfield 108, 3) := rfl
theorem c_161_21 : mLk 161 21 = some (.invokevirtual 138, 3) := rfl
theorem c_153_0 : mLk 153 0 = some (.aload_n 0, 1) := rfl
theorem c_153_1 : mLk 153 1 = some (.getfield 102, 3) := rfl
theorem c_153_4 : mLk 153 4 = some (.iconst (-1), 1) := rfl
theorem c_153_5 : mLk 153 5 = some (.if_icmp .eq 4, 3) := rfl
theorem c_153_9 : mLk 153 9 = some (.aload_n 0, 1) := rfl
theorem c_153_10 : mLk 153 10 = some (.iload_n 2, 1) := rfl
theorem c_153_11 : mLk 153 11 = some (.putfield 102, 3) := rfl
theorem c_153_14 : mLk 153 14 = some (.aload_n 0, 1) := rfl
theorem c_153_15 : mLk 153 15 = some (.iload_n 1, 1) := rfl
theorem c_153_16 : mLk 153 16 = some (.putfield 105, 3) := rfl
theorem c_153_19 : mLk 153 19 = some (.return_, 1) := rfl
theorem c_161_24 : mLk 161 24 = some (.aload_n 0, 1) := rfl
theorem c_161_25 : mLk 161 25 = some (.invokevirtual 131, 3) := rfl
theorem c_161_28 : mLk 161 28 = some (.ifCond .eq 13, 3) := rfl
theorem c_161_41 : mLk 161 41 = some (.return_, 1) := rfl
theorem c_4_23 : mLk 4 23 = some (.aload_n 0, 1) := rfl
theorem c_4_24 : mLk 4 24 = some (.getfield 9, 3) := rfl
theorem c_4_27 : mLk 4 27 = some (.iload_n 2, 1) := rfl
theorem c_4_28 : mLk 4 28 = some (.baload, 1) := rfl
theorem c_4_29 : mLk 4 29 = some (.aload_n 1, 1) := rfl
theorem c_4_30 : mLk 4 30 = some (.iload_n 3, 1) := rfl
theorem c_4_31 : mLk 4 31 = some (.invokevirtual 61, 3) := rfl
theorem c_4_34 : mLk 4 34 = some (.if_icmp .ne 15, 3) := rfl
theorem c_4_49 : mLk 4 49 = some (.iinc 3 1, 3) := rfl
theorem c_4_52 : mLk 4 52 = some (.goto (-45), 3) := rfl
theorem c_4_37 : mLk 4 37 = some (.aload_n 0, 1) := rfl
theorem c_4_38 : mLk 4 38 = some (.dup, 1) := rfl
theorem c_4_39 : mLk 4 39 = some (.getfield 35, 3) := rfl
theorem c_4_42 : mLk 4 42 = some (.iconst 1, 1) := rfl
theorem c_4_43 : mLk 4 43 = some (.iadd, 1) := rfl
theorem c_4_44 : mLk 4 44 = some (.putfield 35, 3) := rfl
theorem c_4_47 : mLk 4 47 = some (.iload_n 3, 1) := rfl
theorem c_4_48 : mLk 4 48 = some (.ireturn, 1) := rfl
theorem c_161_31 : mLk 161 31 = some (.aload_n 0, 1) := rfl
theorem c_161_32 : mLk 161 32 = some (.dup, 1) := rfl
theorem c_161_33 : mLk 161 33 = some (.getfield 108, 3) := rfl
theorem c_161_36 : mLk 161 36 = some (.iconst 1, 1) := rfl
theorem c_161_37 : mLk 161 37 = some (.iadd, 1) := rfl
theorem c_161_38 : mLk 161 38 = some (.putfield 108, 3) := rfl
theorem km_7_81 : a_lk (kM 7) 81 = some (0, 82) := rfl
theorem kf_7_10 : a_lk (kF 7) 10 = some (7, 0) := rfl
theorem kf_7_77 : a_lk (kF 7) 77 = some (5, 3) := rfl
theorem km_7_161 : a_lk (kM 7) 161 = some (0, 81) := rfl
theorem km_7_348 : a_lk (kM 7) 348 = some (0, 74) := rfl
theorem kf_5_19 : a_lk (kF 5) 19 = some (5, 3) := rfl
theorem kf_5_32 : a_lk (kF 5) 32 = some (5, 1) := rfl
theorem kf_5_35 : a_lk (kF 5) 35 = some (5, 2) := rfl
theorem kf_5_38 : a_lk (kF 5) 38 = some (5, 4) := rfl
theorem kf_5_15 : a_lk (kF 5) 15 = some (5, 5) := rfl
theorem kf_7_54 : a_lk (kF 7) 54 = some (7, 8) := rfl
theorem km_7_85 : a_lk (kM 7) 85 = some (0, 34) := rfl
theorem km_7_89 : a_lk (kM 7) 89 = some (0, 2) := rfl
theorem kf_7_50 : a_lk (kF 7) 50 = some (7, 7) := rfl
theorem kf_7_102 : a_lk (kF 7) 102 = some (2, 0) := rfl
theorem km_7_105 : a_lk (kM 7) 105 = some (0, 83) := rfl
theorem kf_7_351 : a_lk (kF 7) 351 = some (5, 4) := rfl
theorem kf_8_3 : a_lk (kF 8) 3 = some (8, 0) := rfl
theorem kf_8_99 : a_lk (kF 8) 99 = some (8, 2) := rfl
theorem km_8_203 : a_lk (kM 8) 203 = some (0, 145) := rfl
theorem km_8_207 : a_lk (kM 8) 207 = some (0, 163) := rfl
theorem km_8_93 : a_lk (kM 8) 93 = some (0, 147) := rfl
theorem kf_8_145 : a_lk (kF 8) 145 = some (8, 16) := rfl
theorem km_8_232 : a_lk (kM 8) 232 = some (0, 164) := rfl
theorem kf_8_102 : a_lk (kF 8) 102 = some (8, 5) := rfl
theorem kf_8_17 : a_lk (kF 8) 17 = some (8, 8) := rfl
theorem km_8_131 : a_lk (kM 8) 131 = some (0, 152) := rfl
theorem kf_8_105 : a_lk (kF 8) 105 = some (8, 6) := rfl
theorem km_8_96 : a_lk (kM 8) 96 = some (0, 149) := rfl
theorem kf_8_182 : a_lk (kF 8) 182 = some (8, 35) := rfl
theorem km_8_317 : a_lk (kM 8) 317 = some (0, 186) := rfl
theorem kf_8_320 : a_lk (kF 8) 320 = some (8, 37) := rfl
theorem kf_8_323 : a_lk (kF 8) 323 = some (8, 38) := rfl
theorem kf_8_326 : a_lk (kF 8) 326 = some (8, 39) := rfl
theorem kf_8_284 : a_lk (kF 8) 284 = some (8, 34) := rfl
theorem km_8_329 : a_lk (kM 8) 329 = some (0, 201) := rfl
theorem kf_8_68 : a_lk (kF 8) 68 = some (8, 41) := rfl
theorem kf_8_65 : a_lk (kF 8) 65 = some (8, 40) := rfl
theorem km_8_169 : a_lk (kM 8) 169 = some (0, 148) := rfl
theorem kf_8_188 : a_lk (kF 8) 188 = some (8, 36) := rfl
theorem kf_8_71 : a_lk (kF 8) 71 = some (8, 42) := rfl
theorem km_3_42 : a_lk (kM 3) 42 = some (0, 3) := rfl
theorem km_3_73 : a_lk (kM 3) 73 = some (0, 8) := rfl
theorem km_3_51 : a_lk (kM 3) 51 = some (0, 7) := rfl
theorem km_5_45 : a_lk (kM 5) 45 = some (0, 2) := rfl
theorem km_5_65 : a_lk (kM 5) 65 = some (0, 4) := rfl
theorem km_5_41 : a_lk (kM 5) 41 = some (0, 3) := rfl
theorem km_5_52 : a_lk (kM 5) 52 = some (0, 7) := rfl
theorem km_8_114 : a_lk (kM 8) 114 = some (0, 154) := rfl
theorem kf_8_108 : a_lk (kF 8) 108 = some (8, 4) := rfl
theorem km_8_138 : a_lk (kM 8) 138 = some (0, 153) := rfl
theorem kf_5_9 : a_lk (kF 5) 9 = some (5, 0) := rfl
set_option maxRecDepth 100000 in
set_option maxHeartbeats 4000000 in
theorem L_84w {sc : List Int32} {d dh P Q P2 Q2 P9 Q9 : Nat} {c m m9 : ME} {a1 yg t9 n0 n1 n2 n3 im wk : Int} {F H : Int → Int} {Z : AR → Prop} (hI : Iv 0 (-1) P2 Q2 c) (hJ : Iv 0 (-1) P Q m) (hJ9 : Iv 0 (-1) P9 Q9 m9) (ha1 : (-2147483648) ≤ a1 ∧ a1 ≤ 2147483647) (hyg : (-2147483648) ≤ yg ∧ yg ≤ 2147483647) (hq0 : (a1 ≥ 0 ∧ a1 ≤ t9 ∧ a1 ≤ 600)) (hg_t9 : m 1 3 = t9) (hr_t9 : c 41 2 = t9) (hg_n0 : m P 0 = n0) (hr_n0 : c 41 20 = n0) (hg_n1 : m P 1 = n1) (hr_n1 : c 41 21 = n1) (hg_n2 : m P 2 = n2) (hr_n2 : c 41 22 = n2) (hg_n3 : m P 3 = n3) (hr_n3 : c 41 23 = n3) (hg_im : m 3 4 = im) (hr_im : c 41 52 = im) (hg_wk : m 3 3 = wk) (hr_wk : c 41 35 = wk) (hF : ∀ j : Int, m 2 j = F j) (hH : ∀ j : Int, c 43 j = H j) (hU : Ub F H) (hG : Wp sc (dh + 50) 84 0 [(0, .ref 0), (1, vi a1)] [] (Wd P Q P P m) 0 0 (fun q => q = (.inl (some (vi yg)), Wd P9 Q9 P9 P9 m9, 0, 0))) (K : ∀ (c2 : ME) (y : Int), Iv 0 (-1) P2 Q2 c2 → (∀ (a : Nat) (j : Int), ¬ ((a = 41 ∧ j = 0) ∨ a = 42 ∨ (a = 41 ∧ j = 2) ∨ (a = 41 ∧ j = 3) ∨ (a = 41 ∧ j = 4) ∨ (a = 41 ∧ j = 5) ∨ (a = 41 ∧ j = 6) ∨ (a = 41 ∧ j = 7) ∨ (a = 41 ∧ j = 8) ∨ (a = 41 ∧ j = 16) ∨ (a = 41 ∧ j = 17) ∨ (a = 41 ∧ j = 18) ∨ (a = 41 ∧ j = 19) ∨ a = 44 ∨ a = 45 ∨ a = 46 ∨ (a = 41 ∧ j = 20) ∨ (a = 41 ∧ j = 21) ∨ (a = 41 ∧ j = 22) ∨ (a = 41 ∧ j = 23) ∨ (a = 41 ∧ j = 30) ∨ (a = 41 ∧ j = 35) ∨ (a = 41 ∧ j = 36) ∨ (a = 41 ∧ j = 47) ∨ (a = 41 ∧ j = 48) ∨ (a = 41 ∧ j = 52) ∨ a = 47 ∨ a = 48 ∨ a = 49 ∨ a = 58 ∨ a = 64) → c2 a j = c a j) → (-2147483648) ≤ y ∧ y ≤ 2147483647 → ((y = yg)) → ((c2 41 2 = 0)) → ((c2 41 8 = m9 1 5)) → ((c2 41 0 = 0)) → ((m9 P9 0 = c2 41 20)) → ((m9 P9 1 = c2 41 21)) → ((m9 P9 2 = c2 41 22)) → ((m9 P9 3 = c2 41 23)) → ((m9 3 4 = c2 41 52)) → ((m9 3 4 = 0) ∨ (m9 3 4 = im)) → ((m9 3 3 = c2 41 35)) → Z (.inl (some (vi y)), Wd P2 Q2 P2 P2 c2, 0, 0)) : Wp sc (d + 40) 169 0 [(0, .ref 41), (1, vi a1)] [] (Wd P2 Q2 P2 P2 c) 0 0 Z := by
  have hP := iv_P hJ
  have hQ := iv_Q hJ
  have h_1 := ir_1_3 hJ
  have h_2 := ir_41_2 hI
  have h_3 := ir_p0_0 hJ hP
  have h_4 := ir_41_20 hI
  have h_5 := ir_p0_1 hJ hP
  have h_6 := ir_41_21 hI
  have h_7 := ir_p0_2 hJ hP
  have h_8 := ir_41_22 hI
  have h_9 := ir_p0_3 hJ hP
  have h_10 := ir_41_23 hI
  have h_11 := ir_3_4 hJ
  have h_12 := ir_41_52 hI
  have h_13 := ir_3_3 hJ
  have h_14 := ir_41_35 hI
  have hpq := iv_pq hJ
  unfold Pq at hpq
  refine gh hG (q_aload_n c_84_0 rfl (q_iload_n c_84_1 rfl (v_sip c_84_2 (by decide) (v_cv c_84_5 km_7_81 rfl rfl (Nat.le_of_ble_eq_true rfl) ⟨⟨rfl, rfl⟩, Nat.le_of_ble_eq_true rfl, rfl⟩ (Nat.le_of_ble_eq_true rfl) (Nat.le_of_ble_eq_true rfl) (q_aload_n c_82_0 rfl (q_iload_n c_82_1 rfl (q_iconst c_82_2 ?_)))))))
  refine q_iload_n c_82_3 rfl (q_aload_n c_82_4 rfl (v_gr (t := 1) c_82_5 kf_7_10 rfl (Nat.le_of_ble_eq_true rfl) rfl (v_gi (z := 3) (v := t9) c_82_8 kf_7_77 rfl (Nat.le_of_ble_eq_true rfl) rfl rfl (hg_t9) (v_min_g c_82_11 rfl (by omega) (Nat.le_of_ble_eq_true rfl) (by omega) (q_call c_82_14 rfl rfl rfl (q_iload_n c_80_0 rfl (q_iload_n c_80_1 rfl ?_)))))))
  refine v_ic_lt_f (t := 14) c_80_2 rfl ⟨by decide, by first | exact q_8241eb4bd hq0 | (clear ha1 h_1 hg_t9 h_2 hr_t9 h_3 hg_n0 h_4 hr_n0 h_5 hg_n1 h_6 hr_n1 h_7 hg_n2 h_8 hr_n2 h_9 hg_n3 h_10 hr_n3 h_11 hg_im h_12 hr_im h_13 hg_wk h_14 hr_wk; omega) | omega, ha1.2⟩ (q_iload_n c_80_5 rfl (q_iload_n c_80_6 rfl (v_ic_gt_f (t := 14) c_80_7 rfl ⟨ha1.1, by first | exact q_f1a9820a9 hq0 | (clear ha1 h_1 hg_t9 h_2 hr_t9 h_3 hg_n0 h_4 hr_n0 h_5 hg_n1 h_6 hr_n1 h_7 hg_n2 h_8 hr_n2 h_9 hg_n3 h_10 hr_n3 h_11 hg_im h_12 hr_im h_13 hg_wk h_14 hr_wk; omega) | omega, (Int.le_trans (rg_eq hg_t9 h_1).2 (by decide))⟩ (q_iconst c_80_10 (q_goto (t := 15) c_80_11 rfl (v_zret c_80_15 rfl (by decide) (bk_inl ?_)))))))
  refine v_cv c_82_17 km_7_161 rfl rfl (Nat.le_of_ble_eq_true rfl) ⟨⟨rfl, rfl⟩, Nat.le_of_ble_eq_true rfl, rfl⟩ (Nat.le_of_ble_eq_true rfl) (Nat.le_of_ble_eq_true rfl) (q_iload_n c_81_0 rfl (v_if_ne_t (t := 25) c_81_1 rfl (by decide) (q_vret c_81_25 rfl (bk_inl (q_aload_n c_82_20 rfl (v_gr (t := 1) c_82_21 kf_7_10 rfl (Nat.le_of_ble_eq_true rfl) rfl (q_iload_n c_82_24 rfl ?_)))))))
  refine v_cv c_82_25 km_7_348 rfl rfl (Nat.le_of_ble_eq_true rfl) ⟨⟨rfl, rfl⟩, Nat.le_of_ble_eq_true rfl, rfl⟩ (Nat.le_of_ble_eq_true rfl) (Nat.le_of_ble_eq_true rfl) (q_aload_n c_74_0 rfl (q_iload_n c_74_1 rfl (q_aload_n c_74_2 rfl (v_gi (z := 3) (v := t9) c_74_3 kf_5_19 rfl (Nat.le_of_ble_eq_true rfl) rfl rfl (hg_t9) (v_minx c_74_6 rfl (by omega) (Nat.le_of_ble_eq_true rfl) ⟨by omega, by omega, by omega, by omega⟩ (fun y_15 hy_15 => (v_pi (z := 1) c_74_9 kf_5_32 rfl (Nat.le_of_ble_eq_true rfl) rfl rfl rfl (by decide) (q_aload_n c_74_12 rfl ?_))))))))
  refine q_iconst c_74_13 (v_pi (z := 2) c_74_14 kf_5_35 rfl (Nat.le_of_ble_eq_true rfl) rfl rfl rfl (by decide) (q_aload_n c_74_17 rfl (q_iconst c_74_18 (v_pi (z := 3) c_74_19 kf_5_19 rfl (Nat.le_of_ble_eq_true rfl) rfl rfl rfl (by decide) (q_aload_n c_74_22 rfl (q_iconst c_74_23 (v_pi (z := 4) c_74_24 kf_5_38 rfl (Nat.le_of_ble_eq_true rfl) rfl rfl rfl (by decide) ?_)))))))
  refine q_aload_n c_74_27 rfl (q_iconst c_74_28 (v_pi (z := 5) c_74_29 kf_5_15 rfl (Nat.le_of_ble_eq_true rfl) rfl rfl rfl (by decide) (q_vret c_74_32 rfl (bk_inl (q_vret c_82_28 rfl (bk_inl (q_aload_n c_84_8 rfl ?_)))))))
  refine v_gr (t := Q) c_84_9 kf_7_54 rfl (Nat.le_of_ble_eq_true rfl) rfl (q_aload_n c_84_12 rfl (v_gr (t := 1) c_84_13 kf_7_10 rfl (Nat.le_of_ble_eq_true rfl) rfl ?_))
  have hI_16 := iw_1_1 (v := y_15) hJ ⟨by omega, by first | (clear ha1 h_1 hg_t9 h_2 hr_t9 h_3 hg_n0 h_4 hr_n0 h_5 hg_n1 h_6 hr_n1 h_7 hg_n2 h_8 hr_n2 h_9 hg_n3 h_10 hr_n3 h_11 hg_im h_12 hr_im h_13 hg_wk h_14 hr_wk; omega) | omega⟩
  have hI_17 := iw_1_2 (v := 0) hI_16 ⟨by decide, by decide⟩
  have hI_18 := iw_1_3 (v := 0) hI_17 ⟨by decide, by decide⟩
  have hI_19 := iw_1_4 (v := 0) hI_18 ⟨by decide, by decide⟩
  have hI_20 := iw_1_5 (v := (-1)) hI_19 ⟨by decide, by decide⟩
  refine v_cv c_84_16 km_7_85 rfl (ck_p0 hQ) (a68z hQ) ⟨⟨rfl, rfl⟩, by decide, rfl⟩ (Nat.le_of_ble_eq_true rfl) (Nat.le_of_ble_eq_true rfl) (fn_of (s_34 hI_20 hQ (fun c_21 hI_22 hF_23 => ?_)))
  intro hG_24
  refine bk_inl (q_aload_n c_84_19 rfl (v_gr (t := 1) c_84_20 kf_7_10 rfl (Nat.le_of_ble_eq_true rfl) rfl (v_cv c_84_23 km_7_89 rfl rfl (Nat.le_of_ble_eq_true rfl) ⟨⟨rfl, rfl⟩, Nat.le_of_ble_eq_true rfl, rfl⟩ (Nat.le_of_ble_eq_true rfl) (Nat.le_of_ble_eq_true rfl) (q_aload_n c_2_0 rfl ?_))))
  have h_25 := ir_1_4 hI_22
  refine v_gi (z := 4) (v := c_21 1 4) c_2_1 kf_5_38 rfl (Nat.le_of_ble_eq_true rfl) rfl rfl rfl ?_
  by_cases h_26 : c_21 1 4 ≠ 0
  · refine v_if_ne_t (t := 11) c_2_4 rfl ⟨h_26, ⟨(Int.le_trans (by decide) h_25.1), (Int.le_trans h_25.2 (by decide))⟩, by decide, by decide⟩ (q_iconst c_2_11 (v_zret c_2_12 rfl (by decide) (bk_inl (v_if_eq_t (t := 81) c_84_26 rfl (by decide) (q_aload_n c_84_81 rfl (q_aload_n c_84_82 rfl (v_gr (t := P) c_84_83 kf_7_50 rfl (Nat.le_of_ble_eq_true rfl) rfl ?_)))))))
    have kn_27 : Hid (c_21 P 0 = n0) := (hF_23 P 0 (by omega)).trans ((up_c (np0 hP rfl)).trans ((up_c (np0 hP rfl)).trans ((up_c (np0 hP rfl)).trans ((up_c (np0 hP rfl)).trans ((up_c (np0 hP rfl)).trans (hg_n0))))))
    refine v_gi (z := 0) (v := n0) c_84_86 kf_7_102 (ck_p0 hP) (a68z hP) rfl rfl (hid kn_27) (v_cv c_84_89 km_7_105 rfl rfl (Nat.le_of_ble_eq_true rfl) ⟨⟨rfl, rfl⟩, Nat.le_of_ble_eq_true rfl, rfl⟩ (Nat.le_of_ble_eq_true rfl) (Nat.le_of_ble_eq_true rfl) (q_aload_n c_83_0 rfl (v_gr (t := 1) c_83_1 kf_7_10 rfl (Nat.le_of_ble_eq_true rfl) rfl (v_cv c_83_4 km_7_89 rfl rfl (Nat.le_of_ble_eq_true rfl) ⟨⟨rfl, rfl⟩, Nat.le_of_ble_eq_true rfl, rfl⟩ (Nat.le_of_ble_eq_true rfl) (Nat.le_of_ble_eq_true rfl) (q_aload_n c_2_0 rfl (v_gi (z := 4) (v := c_21 1 4) c_2_1 kf_5_38 rfl (Nat.le_of_ble_eq_true rfl) rfl rfl rfl (v_if_ne_t (t := 11) c_2_4 rfl ⟨by first | exact q_646bc4652 h_25 h_26 | (clear ha1 hq0 h_1 hg_t9 h_2 hr_t9 h_3 hg_n0 h_4 hr_n0 h_5 hg_n1 h_6 hr_n1 h_7 hg_n2 h_8 hr_n2 h_9 hg_n3 h_10 hr_n3 h_11 hg_im h_12 hr_im h_13 hg_wk h_14 hr_wk; omega) | omega, ⟨(Int.le_trans (by decide) h_25.1), (Int.le_trans h_25.2 (by decide))⟩, by decide, by decide⟩ ?_)))))))
    refine q_iconst c_2_11 (v_zret c_2_12 rfl (by decide) (bk_inl (v_if_eq_t (t := 14) c_83_7 rfl (by decide) (q_aload_n c_83_14 rfl (v_gr (t := 1) c_83_15 kf_7_10 rfl (Nat.le_of_ble_eq_true rfl) rfl (v_gi (z := 4) (v := c_21 1 4) c_83_18 kf_7_351 rfl (Nat.le_of_ble_eq_true rfl) rfl rfl rfl (v_bip c_83_21 (by decide) ?_)))))))
    refine v_isub (v := c_21 1 4 - 10) c_83_23 rfl (q_iret c_83_24 rfl (bk_inl (q_iret c_84_92 rfl ?_)))
    intro hE_28
    have h_29 : yg = c_21 1 4 - 10 := (vi_inj ⟨by omega, by omega⟩ ⟨by omega, by omega⟩ (Option.some.inj (Sum.inl.inj (Prod.mk.inj hE_28).1))).symm
    have hW : Wd P Q P P c_21 = Wd P9 Q9 P9 P9 m9 := (Prod.mk.inj (Prod.mk.inj hE_28).2).1
    obtain ⟨hp9, hq9⟩ := wd_pq hW
    subst hp9
    subst hq9
    have h_30 := ir_1_5 hI_22
    have h_31 := ir_1_5 hJ9
    have h_32 : m9 1 5 = c_21 1 5 := wd_fv (z := 5) 5 rfl hW rfl rfl rfl rfl (by decide) rfl ⟨(Int.le_trans (by decide) h_30.1), (Int.le_trans h_30.2 (by decide))⟩ ⟨(Int.le_trans (by decide) h_31.1), (Int.le_trans h_31.2 (by decide))⟩
    have h_33 := ir_p0_0 hJ9 hP
    have h_34 : m9 P 0 = n0 := wd_fv (z := 0) 0 rfl hW (ck_A hP) (ck_A hP) rfl rfl (a68z hP) (hid kn_27) ⟨(Int.le_trans (by decide) (rg_eq hg_n0 h_3).1), (Int.le_trans (rg_eq hg_n0 h_3).2 (by decide))⟩ ⟨(Int.le_trans (by decide) h_33.1), (Int.le_trans h_33.2 (by decide))⟩
    have kn_35 : Hid (c_21 P 1 = n1) := (hF_23 P 1 (by omega)).trans ((up_c (np0 hP rfl)).trans ((up_c (np0 hP rfl)).trans ((up_c (np0 hP rfl)).trans ((up_c (np0 hP rfl)).trans ((up_c (np0 hP rfl)).trans (hg_n1))))))
    have h_36 := ir_p0_1 hJ9 hP
    have h_37 : m9 P 1 = n1 := wd_fv (z := 1) 1 rfl hW (ck_A hP) (ck_A hP) rfl rfl (a68z hP) (hid kn_35) ⟨(Int.le_trans (by decide) (rg_eq hg_n1 h_5).1), (Int.le_trans (rg_eq hg_n1 h_5).2 (by decide))⟩ ⟨(Int.le_trans (by decide) h_36.1), (Int.le_trans h_36.2 (by decide))⟩
    have kn_38 : Hid (c_21 P 2 = n2) := (hF_23 P 2 (by omega)).trans ((up_c (np0 hP rfl)).trans ((up_c (np0 hP rfl)).trans ((up_c (np0 hP rfl)).trans ((up_c (np0 hP rfl)).trans ((up_c (np0 hP rfl)).trans (hg_n2))))))
    have h_39 := ir_p0_2 hJ9 hP
    have h_40 : m9 P 2 = n2 := wd_fv (z := 2) 2 rfl hW (ck_A hP) (ck_A hP) rfl rfl (a68z hP) (hid kn_38) ⟨(Int.le_trans (by decide) (rg_eq hg_n2 h_7).1), (Int.le_trans (rg_eq hg_n2 h_7).2 (by decide))⟩ ⟨(Int.le_trans (by decide) h_39.1), (Int.le_trans h_39.2 (by decide))⟩
    have kn_41 : Hid (c_21 P 3 = n3) := (hF_23 P 3 (by omega)).trans ((up_c (np0 hP rfl)).trans ((up_c (np0 hP rfl)).trans ((up_c (np0 hP rfl)).trans ((up_c (np0 hP rfl)).trans ((up_c (np0 hP rfl)).trans (hg_n3))))))
    have h_42 := ir_p0_3 hJ9 hP
    have h_43 : m9 P 3 = n3 := wd_fv (z := 3) 3 rfl hW (ck_A hP) (ck_A hP) rfl rfl (a68z hP) (hid kn_41) ⟨(Int.le_trans (by decide) (rg_eq hg_n3 h_9).1), (Int.le_trans (rg_eq hg_n3 h_9).2 (by decide))⟩ ⟨(Int.le_trans (by decide) h_42.1), (Int.le_trans h_42.2 (by decide))⟩
    have kn_44 : Hid (c_21 3 4 = im) := (hF_23 3 4 (qn_73b48ea2f hQ)).trans ((up_c (nn rfl)).trans ((up_c (nn rfl)).trans ((up_c (nn rfl)).trans ((up_c (nn rfl)).trans ((up_c (nn rfl)).trans (hg_im))))))
    have h_45 := ir_3_4 hJ9
    have h_46 : m9 3 4 = im := wd_fv (z := 4) 4 rfl hW rfl rfl rfl rfl (by decide) (hid kn_44) ⟨(Int.le_trans (by decide) (rg_eq hg_im h_11).1), (Int.le_trans (rg_eq hg_im h_11).2 (by decide))⟩ ⟨(Int.le_trans (by decide) h_45.1), (Int.le_trans h_45.2 (by decide))⟩
    have kn_47 : Hid (c_21 3 3 = wk) := (hF_23 3 3 (qn_73b48ea2f hQ)).trans ((up_c (nn rfl)).trans ((up_c (nn rfl)).trans ((up_c (nn rfl)).trans ((up_c (nn rfl)).trans ((up_c (nn rfl)).trans (hg_wk))))))
    have h_48 := ir_3_3 hJ9
    have h_49 : m9 3 3 = wk := wd_fv (z := 3) 3 rfl hW rfl rfl rfl rfl (by decide) (hid kn_47) ⟨(Int.le_trans (by decide) (rg_eq hg_wk h_13).1), (Int.le_trans (rg_eq hg_wk h_13).2 (by decide))⟩ ⟨(Int.le_trans (by decide) h_48.1), (Int.le_trans h_48.2 (by decide))⟩
    refine q_aload_n c_169_0 rfl (q_iconst c_169_1 (v_pi (z := 0) c_169_2 kf_8_3 rfl (Nat.le_of_ble_eq_true rfl) rfl rfl rfl (by decide) (q_aload_n c_169_5 rfl (q_iload_n c_169_6 rfl (v_if_lt_f (t := 22) c_169_7 rfl ⟨by decide, by first | exact q_8241eb4bd hq0 | (clear ha1 h_1 hg_t9 h_2 hr_t9 h_3 hg_n0 h_4 hr_n0 h_5 hg_n1 h_6 hr_n1 h_7 hg_n2 h_8 hr_n2 h_9 hg_n3 h_10 hr_n3 h_11 hg_im h_12 hr_im h_13 hg_wk h_14 hr_wk h_25 h_29 h_30 h_31 h_32 h_33 h_34 h_36 h_37 h_39 h_40 h_42 h_43 h_45 h_46 h_48 h_49 h_26; omega) | omega, ha1.2⟩ (q_iload_n c_169_10 rfl (q_aload_n c_169_11 rfl ?_)))))))
    refine v_gi (z := 2) (v := t9) c_169_12 kf_8_99 rfl (Nat.le_of_ble_eq_true rfl) rfl rfl ((up_n (by decide)).trans (hr_t9)) (v_ic_gt_f (t := 22) c_169_15 rfl ⟨ha1.1, by first | exact q_f1a9820a9 hq0 | (clear ha1 h_1 hg_t9 h_2 hr_t9 h_3 hg_n0 h_4 hr_n0 h_5 hg_n1 h_6 hr_n1 h_7 hg_n2 h_8 hr_n2 h_9 hg_n3 h_10 hr_n3 h_11 hg_im h_12 hr_im h_13 hg_wk h_14 hr_wk h_25 h_29 h_30 h_31 h_32 h_33 h_34 h_36 h_37 h_39 h_40 h_42 h_43 h_45 h_46 h_48 h_49 h_26; omega) | omega, (Int.le_trans (rg_eq hg_t9 h_1).2 (by decide))⟩ (q_iconst c_169_18 (q_goto (t := 23) c_169_19 rfl (q_iconst c_169_23 (q_iconst c_169_24 (v_cv c_169_25 km_8_203 rfl rfl (Nat.le_of_ble_eq_true rfl) ⟨⟨rfl, rfl⟩, Nat.le_of_ble_eq_true rfl, rfl⟩ (Nat.le_of_ble_eq_true rfl) (Nat.le_of_ble_eq_true rfl) (q_iload_n c_145_0 rfl ?_)))))))
    refine v_if_ne_t (t := 26) c_145_1 rfl (by decide) (q_aload_n c_145_26 rfl (v_gi (z := 0) (v := 0) c_145_27 kf_8_3 rfl (Nat.le_of_ble_eq_true rfl) rfl rfl (up_e rfl) (v_if_ne_f (t := 37) c_145_30 rfl (by decide) (q_iconst c_145_33 (q_goto (t := 38) c_145_34 rfl (v_zret c_145_38 rfl (by decide) (bk_inl ?_)))))))
    refine v_if_ne_t (t := 33) c_169_28 rfl (by decide) (q_aload_n c_169_33 rfl (q_iload_n c_169_34 rfl ?_))
    have hI_50 := iw_41_0 (v := 0) hI ⟨by decide, by decide⟩
    refine v_cv c_169_35 km_8_207 rfl rfl (Nat.le_of_ble_eq_true rfl) ⟨⟨rfl, rfl⟩, Nat.le_of_ble_eq_true rfl, rfl⟩ (Nat.le_of_ble_eq_true rfl) (Nat.le_of_ble_eq_true rfl) (s_163 (a1 := a1) hI_50 (show 0 ≤ a1 ∧ a1 ≤ 600 from ⟨by first | exact q_8241eb4bd hq0 | (clear ha1 h_1 hg_t9 h_2 hr_t9 h_3 hg_n0 h_4 hr_n0 h_5 hg_n1 h_6 hr_n1 h_7 hg_n2 h_8 hr_n2 h_9 hg_n3 h_10 hr_n3 h_11 hg_im h_12 hr_im h_13 hg_wk h_14 hr_wk h_25 h_29 h_30 h_31 h_32 h_33 h_34 h_36 h_37 h_39 h_40 h_42 h_43 h_45 h_46 h_48 h_49 h_26; omega) | omega, by first | exact q_366480dfc hq0 | (clear ha1 h_1 hg_t9 h_2 hr_t9 h_3 hg_n0 h_4 hr_n0 h_5 hg_n1 h_6 hr_n1 h_7 hg_n2 h_8 hr_n2 h_9 hg_n3 h_10 hr_n3 h_11 hg_im h_12 hr_im h_13 hg_wk h_14 hr_wk h_25 h_29 h_30 h_31 h_32 h_33 h_34 h_36 h_37 h_39 h_40 h_42 h_43 h_45 h_46 h_48 h_49 h_26; omega) | omega⟩) (fun c_51 hI_52 hF_53 h_54 => (bk_inl ?_)))
    have h_55 := ir_41_2 hI_52
    have h_56 := ir_41_3 hI_52
    have h_57 := ir_41_4 hI_52
    have h_58 := ir_41_5 hI_52
    have h_59 := ir_41_7 hI_52
    refine q_aload_n c_169_38 rfl (v_cv c_169_39 km_8_93 rfl rfl (Nat.le_of_ble_eq_true rfl) ⟨⟨rfl, rfl⟩, Nat.le_of_ble_eq_true rfl, rfl⟩ (Nat.le_of_ble_eq_true rfl) (Nat.le_of_ble_eq_true rfl) (s_147 hI_52 (fun c_60 hI_61 hF_62 h_63 => (bk_inl ?_))))
    have h_64 := ir_41_16 hI_61
    have h_65 := ir_41_17 hI_61
    have h_66 := ir_41_18 hI_61
    have h_67 := ir_41_19 hI_61
    refine q_iconst c_169_42 (q_istore_n c_169_43 (Nat.le_of_ble_eq_true rfl) (Wp_ls [(0, .ref 41), (1, vi a1), (2, vi 0)] (lsub_cons rfl (lsub_cons rfl (lsub_cons rfl lsub_nil))) ?_))
    have kn_68 : Hid (c_60 41 3 = c_51 41 3) := hF_62 41 3 qn_de2c377ca
    have h_69 : (up (up (up (up (up m 1 1 y_15) 1 2 0) 1 3 0) 1 4 0) 1 5 (-1)) 1 4 = 0 := ((up_n (by decide)).trans (up_e rfl))
    have h_70 : (up (up (up (up (up m 1 1 y_15) 1 2 0) 1 3 0) 1 4 0) 1 5 (-1)) 1 2 = 0 := ((up_n (by decide)).trans ((up_n (by decide)).trans ((up_n (by decide)).trans (up_e rfl))))
    have h_71 : (up (up (up (up (up m 1 1 y_15) 1 2 0) 1 3 0) 1 4 0) 1 5 (-1)) 1 5 = (-1) := (up_e rfl)
    have kn_72 : Hid (c_60 41 5 = c_51 41 5) := hF_62 41 5 qn_910516fcd
    have h_73 : c_60 41 5 = c_51 41 5 := (hid kn_72)
    have kn_74 : Hid (c_60 41 4 = c_51 41 4) := hF_62 41 4 qn_650f73a3f
    have h_75 : c_60 41 4 = c_51 41 4 := (hid kn_74)
    have h_76 := ir_41_6 hI
    have kn_77 : Hid (c_51 41 6 = c 41 6) := (hF_53 41 6 qn_eb0d473e8).trans (up_n (by decide))
    have kn_78 : Hid (c_60 41 6 = c 41 6) := (hF_62 41 6 qn_f359bb820).trans (hid kn_77)
    have h_79 : c_60 41 6 = c 41 6 := (hid kn_78)
    refine L_34 (m := up (up (up (up (up m 1 1 y_15) 1 2 0) 1 3 0) 1 4 0) 1 5 (-1)) (a1 := a1) (e1 := y_15) (f0 := 0) (g0 := (-1)) (z0 := c_60 41 16) (z1 := c_60 41 17) (z2 := c_60 41 18) (z3 := c_60 41 19) (F := F) (H := H) hI_61 hI_20 hI_22 hQ (show (-2147483648) ≤ a1 ∧ a1 ≤ 2147483647 from ha1) (by first | decide | (clear ha1 hq0 h_1 hg_t9 h_2 hr_t9 h_3 hg_n0 h_4 hr_n0 h_5 hg_n1 h_6 hr_n1 h_7 hg_n2 h_8 hr_n2 h_9 hg_n3 h_10 hr_n3 h_11 hg_im h_12 hr_im h_13 hg_wk h_14 hr_wk h_25 h_29 h_30 h_31 h_32 h_33 h_34 h_36 h_37 h_39 h_40 h_42 h_43 h_45 h_46 h_48 h_49 h_55 h_56 h_57 h_58 h_59 h_54 h_64 h_65 h_66 h_67 h_63 h_26; omega) | omega) (by first | decide | (clear ha1 hq0 h_1 hg_t9 h_2 hr_t9 h_3 hg_n0 h_4 hr_n0 h_5 hg_n1 h_6 hr_n1 h_7 hg_n2 h_8 hr_n2 h_9 hg_n3 h_10 hr_n3 h_11 hg_im h_12 hr_im h_13 hg_wk h_14 hr_wk h_25 h_29 h_30 h_31 h_32 h_33 h_34 h_36 h_37 h_39 h_40 h_42 h_43 h_45 h_46 h_48 h_49 h_55 h_56 h_57 h_58 h_59 h_54 h_64 h_65 h_66 h_67 h_63 h_26; omega) | omega) (by first | (clear ha1 hq0 h_1 hg_t9 h_2 hr_t9 h_3 hg_n0 h_4 hr_n0 h_5 hg_n1 h_6 hr_n1 h_7 hg_n2 h_8 hr_n2 h_9 hg_n3 h_10 hr_n3 h_11 hg_im h_12 hr_im h_13 hg_wk h_14 hr_wk h_25 h_29 h_30 h_31 h_32 h_33 h_34 h_36 h_37 h_39 h_40 h_42 h_43 h_45 h_46 h_48 h_49 h_55 h_56 h_57 h_58 h_59 h_54 h_65 h_66 h_67 h_26; omega) | omega) (by first | (clear ha1 hq0 h_1 hg_t9 h_2 hr_t9 h_3 hg_n0 h_4 hr_n0 h_5 hg_n1 h_6 hr_n1 h_7 hg_n2 h_8 hr_n2 h_9 hg_n3 h_10 hr_n3 h_11 hg_im h_12 hr_im h_13 hg_wk h_14 hr_wk h_25 h_29 h_30 h_31 h_32 h_33 h_34 h_36 h_37 h_39 h_40 h_42 h_43 h_45 h_46 h_48 h_49 h_55 h_56 h_57 h_58 h_59 h_54 h_64 h_66 h_67 h_26; omega) | omega) (by first | (clear ha1 hq0 h_1 hg_t9 h_2 hr_t9 h_3 hg_n0 h_4 hr_n0 h_5 hg_n1 h_6 hr_n1 h_7 hg_n2 h_8 hr_n2 h_9 hg_n3 h_10 hr_n3 h_11 hg_im h_12 hr_im h_13 hg_wk h_14 hr_wk h_25 h_29 h_30 h_31 h_32 h_33 h_34 h_36 h_37 h_39 h_40 h_42 h_43 h_45 h_46 h_48 h_49 h_55 h_56 h_57 h_58 h_59 h_54 h_64 h_65 h_67 h_26; omega) | omega) (by first | (clear ha1 hq0 h_1 hg_t9 h_2 hr_t9 h_3 hg_n0 h_4 hr_n0 h_5 hg_n1 h_6 hr_n1 h_7 hg_n2 h_8 hr_n2 h_9 hg_n3 h_10 hr_n3 h_11 hg_im h_12 hr_im h_13 hg_wk h_14 hr_wk h_25 h_29 h_30 h_31 h_32 h_33 h_34 h_36 h_37 h_39 h_40 h_42 h_43 h_45 h_46 h_48 h_49 h_55 h_56 h_57 h_58 h_59 h_54 h_64 h_65 h_66 h_67 h_26; omega) | omega) (((up_n (by decide)).trans ((up_n (by decide)).trans ((up_n (by decide)).trans ((up_n (by decide)).trans (up_e rfl)))))) (((show _ = c_51 41 3 from (hid kn_68)).trans (by first | assumption | exact Int.le_antisymm (by first | (clear h_1 hg_t9 h_2 hr_t9 h_3 hg_n0 h_4 hr_n0 h_5 hg_n1 h_6 hr_n1 h_7 hg_n2 h_8 hr_n2 h_9 hg_n3 h_10 hr_n3 h_11 hg_im h_12 hr_im h_13 hg_wk h_14 hr_wk h_25 h_29 h_30 h_31 h_32 h_33 h_34 h_36 h_37 h_39 h_40 h_42 h_43 h_45 h_46 h_48 h_49 h_64 h_65 h_66 h_67 h_63 h_26; omega) | omega) (by first | (clear ha1 hq0 h_1 hg_t9 h_2 hr_t9 h_3 hg_n0 h_4 hr_n0 h_5 hg_n1 h_6 hr_n1 h_7 hg_n2 h_8 hr_n2 h_9 hg_n3 h_10 hr_n3 h_11 hg_im h_12 hr_im h_13 hg_wk h_14 hr_wk h_25 h_29 h_30 h_31 h_32 h_33 h_34 h_36 h_37 h_39 h_40 h_42 h_43 h_45 h_46 h_48 h_49 h_55 h_56 h_57 h_58 h_59 h_64 h_65 h_66 h_67 h_63 h_26; omega) | omega)))) (((up_n (by decide)).trans (up_e rfl))) ((up_e rfl)) (rfl) (rfl) (rfl) (rfl) (fun j => ((up_c (nn rfl)).trans ((up_c (nn rfl)).trans ((up_c (nn rfl)).trans ((up_c (nn rfl)).trans (up_c (nn rfl)))))).trans (hF j)) (fun j => ((hF_62 43 j qn_1d27fc2bc).trans ((hF_53 43 j qn_78d42cb5c).trans (up_c (nn rfl)))).trans (hH j)) hU (rt_i1 ⟨by first | decide | (clear ha1 hq0 h_1 hg_t9 h_2 hr_t9 h_3 hg_n0 h_4 hr_n0 h_5 hg_n1 h_6 hr_n1 h_7 hg_n2 h_8 hr_n2 h_9 hg_n3 h_10 hr_n3 h_11 hg_im h_12 hr_im h_13 hg_wk h_14 hr_wk h_25 h_29 h_30 h_31 h_32 h_33 h_34 h_36 h_37 h_39 h_40 h_42 h_43 h_45 h_46 h_48 h_49 h_55 h_56 h_57 h_58 h_59 h_54 h_64 h_65 h_66 h_67 h_63 h_76 h_26; omega) | omega, by first | (clear ha1 hq0 h_1 hg_t9 h_2 hr_t9 h_3 hg_n0 h_4 hr_n0 h_5 hg_n1 h_6 hr_n1 h_7 hg_n2 h_8 hr_n2 h_9 hg_n3 h_10 hr_n3 h_11 hg_im h_12 hr_im h_13 hg_wk h_14 hr_wk h_25 h_29 h_30 h_31 h_32 h_33 h_34 h_36 h_37 h_39 h_40 h_42 h_43 h_45 h_46 h_48 h_49 h_55 h_56 h_57 h_59 h_64 h_65 h_66 h_67 h_63 h_76 h_26; omega) | omega, by first | (clear ha1 hq0 h_1 hg_t9 h_2 hr_t9 h_3 hg_n0 h_4 hr_n0 h_5 hg_n1 h_6 hr_n1 h_7 hg_n2 h_8 hr_n2 h_9 hg_n3 h_10 hr_n3 h_11 hg_im h_12 hr_im h_13 hg_wk h_14 hr_wk h_25 h_29 h_30 h_31 h_32 h_33 h_34 h_36 h_37 h_39 h_40 h_42 h_43 h_45 h_46 h_48 h_49 h_55 h_56 h_58 h_59 h_64 h_65 h_66 h_67 h_63 h_76 h_26; omega) | omega, by first | decide | (clear ha1 hq0 h_1 hg_t9 h_2 hr_t9 h_3 hg_n0 h_4 hr_n0 h_5 hg_n1 h_6 hr_n1 h_7 hg_n2 h_8 hr_n2 h_9 hg_n3 h_10 hr_n3 h_11 hg_im h_12 hr_im h_13 hg_wk h_14 hr_wk h_25 h_29 h_30 h_31 h_32 h_33 h_34 h_36 h_37 h_39 h_40 h_42 h_43 h_45 h_46 h_48 h_49 h_55 h_56 h_57 h_58 h_59 h_54 h_64 h_65 h_66 h_67 h_63 h_76 h_26; omega) | omega⟩) hG_24 (fun c_80 hI_81 hF_82 hR_84 h_85 => ?_)
    have h_86 := ir_41_16 hI_81
    have h_87 := ir_41_17 hI_81
    have h_88 := ir_41_18 hI_81
    have h_89 := ir_41_19 hI_81
    have h_90 := ir_p0_0 hI_22 hQ
    have h_91 := ir_p0_1 hI_22 hQ
    have h_92 := ir_p0_2 hI_22 hQ
    have h_93 := ir_p0_3 hI_22 hQ
    refine q_aload_n c_169_136 rfl (q_aload_n c_169_137 rfl (v_gi (z := 16) (v := c_80 41 16) c_169_138 kf_8_145 rfl (Nat.le_of_ble_eq_true rfl) rfl rfl rfl (v_cv c_169_141 km_8_232 rfl rfl (Nat.le_of_ble_eq_true rfl) ⟨⟨rfl, rfl⟩, Nat.le_of_ble_eq_true rfl, rfl⟩ (Nat.le_of_ble_eq_true rfl) (Nat.le_of_ble_eq_true rfl) (q_aload_n c_164_0 rfl (q_aload_n c_164_1 rfl ?_)))))
    have h_94 := ir_41_5 hI_81
    have h_95 := ir_1_2 hI_22
    have h_96 := ir_41_4 hI_81
    have h_97 := ir_41_6 hI_81
    have h_98 := rt_bad hR_84 (by first | exact q_646bc4652 h_25 h_26 | (clear ha1 hq0 h_1 hg_t9 h_2 hr_t9 h_3 hg_n0 h_4 hr_n0 h_5 hg_n1 h_6 hr_n1 h_7 hg_n2 h_8 hr_n2 h_9 hg_n3 h_10 hr_n3 h_11 hg_im h_12 hr_im h_13 hg_wk h_14 hr_wk h_29 h_30 h_31 h_32 h_33 h_34 h_36 h_37 h_39 h_40 h_42 h_43 h_45 h_46 h_48 h_49 h_55 h_56 h_57 h_58 h_59 h_54 h_64 h_65 h_66 h_67 h_63 h_76 h_86 h_87 h_88 h_89 h_90 h_91 h_92 h_93 h_94 h_95 h_96 h_97 h_85; omega) | omega)
    have hrb_hR_84 := rt_bad hR_84 (by first | exact q_f7b7d720f h_98 | (clear ha1 hq0 h_1 hg_t9 h_2 hr_t9 h_3 hg_n0 h_4 hr_n0 h_5 hg_n1 h_6 hr_n1 h_7 hg_n2 h_8 hr_n2 h_9 hg_n3 h_10 hr_n3 h_11 hg_im h_12 hr_im h_13 hg_wk h_14 hr_wk h_25 h_29 h_30 h_31 h_32 h_33 h_34 h_36 h_37 h_39 h_40 h_42 h_43 h_45 h_46 h_48 h_49 h_55 h_56 h_57 h_58 h_59 h_54 h_64 h_65 h_66 h_67 h_63 h_76 h_86 h_87 h_88 h_89 h_90 h_91 h_92 h_93 h_94 h_95 h_96 h_97 h_26 h_85; omega) | omega)
    refine v_gi (z := 5) (v := c_21 1 5) c_164_2 kf_8_102 rfl (Nat.le_of_ble_eq_true rfl) rfl rfl hrb_hR_84.2.1 (v_pi (z := 8) c_164_5 kf_8_17 rfl (Nat.le_of_ble_eq_true rfl) rfl rfl rfl (by decide) (q_aload_n c_164_8 rfl (v_cv c_164_9 km_8_131 rfl rfl (Nat.le_of_ble_eq_true rfl) ⟨⟨rfl, rfl⟩, Nat.le_of_ble_eq_true rfl, rfl⟩ (Nat.le_of_ble_eq_true rfl) (Nat.le_of_ble_eq_true rfl) (q_aload_n c_152_0 rfl (v_gi (z := 5) (v := c_21 1 5) c_152_1 kf_8_102 rfl (Nat.le_of_ble_eq_true rfl) rfl rfl (((up_n (by decide))).trans (hrb_hR_84.2.1)) (q_iconst c_152_4 (v_ic_ne_t (t := 12) c_152_5 rfl ⟨by first | exact q_0f78863d3 h_98 | (clear ha1 hq0 h_1 hg_t9 h_2 hr_t9 h_3 hg_n0 h_4 hr_n0 h_5 hg_n1 h_6 hr_n1 h_7 hg_n2 h_8 hr_n2 h_9 hg_n3 h_10 hr_n3 h_11 hg_im h_12 hr_im h_13 hg_wk h_14 hr_wk h_25 h_29 h_30 h_31 h_32 h_33 h_34 h_36 h_37 h_39 h_40 h_42 h_43 h_45 h_46 h_48 h_49 h_55 h_56 h_57 h_58 h_59 h_54 h_64 h_65 h_66 h_67 h_63 h_76 h_86 h_87 h_88 h_89 h_90 h_91 h_92 h_93 h_94 h_95 h_96 h_97 h_26 h_85; omega) | omega, ⟨(Int.le_trans (by decide) h_30.1), (Int.le_trans h_30.2 (by decide))⟩, by decide, by decide⟩ ?_)))))))
    refine q_iconst c_152_12 (v_zret c_152_13 rfl (by decide) (bk_inl (v_if_eq_t (t := 19) c_164_12 rfl (by decide) (q_aload_n c_164_19 rfl (v_gi (z := 6) (v := c_21 1 4) c_164_20 kf_8_105 rfl (Nat.le_of_ble_eq_true rfl) rfl rfl (((up_n (by decide))).trans (hrb_hR_84.2.2.2)) (v_bip c_164_23 (by decide) (v_isub (v := c_21 1 4 - 10) c_164_25 rfl ?_)))))))
    refine q_iret c_164_26 rfl (bk_inl (q_istore_n c_169_144 (Nat.le_of_ble_eq_true rfl) (q_aload_n c_169_145 rfl (v_gi (z := 5) (v := c_21 1 5) c_169_146 kf_8_102 rfl (Nat.le_of_ble_eq_true rfl) rfl rfl (((up_n (by decide))).trans (hrb_hR_84.2.1)) (q_iconst c_169_149 (v_ic_ne_t (t := 157) c_169_150 rfl ⟨by first | exact q_0f78863d3 h_98 | (clear ha1 hq0 h_1 hg_t9 h_2 hr_t9 h_3 hg_n0 h_4 hr_n0 h_5 hg_n1 h_6 hr_n1 h_7 hg_n2 h_8 hr_n2 h_9 hg_n3 h_10 hr_n3 h_11 hg_im h_12 hr_im h_13 hg_wk h_14 hr_wk h_25 h_29 h_30 h_31 h_32 h_33 h_34 h_36 h_37 h_39 h_40 h_42 h_43 h_45 h_46 h_48 h_49 h_55 h_56 h_57 h_58 h_59 h_54 h_64 h_65 h_66 h_67 h_63 h_76 h_86 h_87 h_88 h_89 h_90 h_91 h_92 h_93 h_94 h_95 h_96 h_97 h_26 h_85; omega) | omega, ⟨(Int.le_trans (by decide) h_30.1), (Int.le_trans h_30.2 (by decide))⟩, by decide, by decide⟩ (q_iload_n c_169_157 rfl ?_)))))))
    refine q_iret c_169_158 rfl ?_
    have hI_99 := iw_41_8 (v := c_21 1 5) hI_81 ⟨h_30.1, (Int.le_trans h_30.2 (by decide))⟩
    have kn_100 : Hid (c_60 41 2 = c_51 41 2) := hF_62 41 2 qn_d1f210dd4
    have kn_101 : Hid (c_80 41 2 = c_51 41 2) := (hF_82 41 2 qn_c33c5b2f3).trans (hid kn_100)
    have h_102 : (up c_80 41 8 (c_21 1 5)) 41 2 = c_51 41 2 := ((up_n (by decide)).trans (hid kn_101))
    have h_103 : (up c_80 41 8 (c_21 1 5)) 41 8 = c_21 1 5 := (up_e rfl)
    have kn_104 : Hid (c_51 41 0 = 0) := (hF_53 41 0 qn_18af663b8).trans (up_e rfl)
    have kn_105 : Hid (c_60 41 0 = 0) := (hF_62 41 0 qn_75150763a).trans (hid kn_104)
    have kn_106 : Hid (c_80 41 0 = 0) := (hF_82 41 0 qn_77f099881).trans (hid kn_105)
    have h_107 : (up c_80 41 8 (c_21 1 5)) 41 0 = 0 := ((up_n (by decide)).trans (hid kn_106))
    have kn_108 : Hid (c_51 41 20 = n0) := (hF_53 41 20 qn_7452710ff).trans ((up_n (by decide)).trans (hr_n0))
    have kn_109 : Hid (c_60 41 20 = n0) := (hF_62 41 20 qn_48ec56b4a).trans (hid kn_108)
    have kn_110 : Hid (c_80 41 20 = n0) := (hF_82 41 20 qn_282feb47b).trans (hid kn_109)
    have h_111 : (up c_80 41 8 (c_21 1 5)) 41 20 = n0 := ((up_n (by decide)).trans (hid kn_110))
    have kn_112 : Hid (c_51 41 21 = n1) := (hF_53 41 21 qn_b78d71421).trans ((up_n (by decide)).trans (hr_n1))
    have kn_113 : Hid (c_60 41 21 = n1) := (hF_62 41 21 qn_a544b0d39).trans (hid kn_112)
    have kn_114 : Hid (c_80 41 21 = n1) := (hF_82 41 21 qn_0dc73d421).trans (hid kn_113)
    have h_115 : (up c_80 41 8 (c_21 1 5)) 41 21 = n1 := ((up_n (by decide)).trans (hid kn_114))
    have kn_116 : Hid (c_51 41 22 = n2) := (hF_53 41 22 qn_702f7a732).trans ((up_n (by decide)).trans (hr_n2))
    have kn_117 : Hid (c_60 41 22 = n2) := (hF_62 41 22 qn_51a55d310).trans (hid kn_116)
    have kn_118 : Hid (c_80 41 22 = n2) := (hF_82 41 22 qn_22b56e317).trans (hid kn_117)
    have h_119 : (up c_80 41 8 (c_21 1 5)) 41 22 = n2 := ((up_n (by decide)).trans (hid kn_118))
    have kn_120 : Hid (c_51 41 23 = n3) := (hF_53 41 23 qn_b97c6324d).trans ((up_n (by decide)).trans (hr_n3))
    have kn_121 : Hid (c_60 41 23 = n3) := (hF_62 41 23 qn_d7064651c).trans (hid kn_120)
    have kn_122 : Hid (c_80 41 23 = n3) := (hF_82 41 23 qn_ea8766bb1).trans (hid kn_121)
    have h_123 : (up c_80 41 8 (c_21 1 5)) 41 23 = n3 := ((up_n (by decide)).trans (hid kn_122))
    have kn_124 : Hid (c_51 41 52 = im) := (hF_53 41 52 qn_29189991c).trans ((up_n (by decide)).trans (hr_im))
    have kn_125 : Hid (c_60 41 52 = im) := (hF_62 41 52 qn_f295bbde9).trans (hid kn_124)
    have kn_126 : Hid (c_80 41 52 = im) := (hF_82 41 52 qn_a9de43c1c).trans (hid kn_125)
    have h_127 : (up c_80 41 8 (c_21 1 5)) 41 52 = im := ((up_n (by decide)).trans (hid kn_126))
    have kn_128 : Hid (c_51 41 35 = wk) := (hF_53 41 35 qn_010af1ec6).trans ((up_n (by decide)).trans (hr_wk))
    have kn_129 : Hid (c_60 41 35 = wk) := (hF_62 41 35 qn_83d1451ee).trans (hid kn_128)
    have kn_130 : Hid (c_80 41 35 = wk) := (hF_82 41 35 qn_d8396dee5).trans (hid kn_129)
    have h_131 : (up c_80 41 8 (c_21 1 5)) 41 35 = wk := ((up_n (by decide)).trans (hid kn_130))
    exact K (up c_80 41 8 (c_21 1 5)) (c_21 1 4 - 10) hI_99 (fun a j hm => (up_b (Decidable.or_iff_not_imp_left.mpr (fun h1 h2 => hm (Or.inr (Or.inr (Or.inr (Or.inr (Or.inr (Or.inr (Or.inr (Or.inr (Or.inl ⟨Decidable.not_not.mp h1, h2⟩)))))))))))).trans ((hF_82 a j (qv_3a3bba8ab hm)).trans ((hF_62 a j (qv_701798ed8 hm)).trans ((hF_53 a j (qv_efbc52a90 hm)).trans (up_b (Decidable.or_iff_not_imp_left.mpr (fun h1 h2 => hm (Or.inl ⟨Decidable.not_not.mp h1, h2⟩)))))))) ⟨by omega, by omega⟩ (by first | exact q_e5f29e5a1 h_29 | (clear ha1 hq0 h_1 hg_t9 h_2 hr_t9 h_3 hg_n0 h_4 hr_n0 h_5 hg_n1 h_6 hr_n1 h_7 hg_n2 h_8 hr_n2 h_9 hg_n3 h_10 hr_n3 h_11 hg_im h_12 hr_im h_13 hg_wk h_14 hr_wk h_25 h_30 h_31 h_32 h_33 h_34 h_36 h_37 h_39 h_40 h_42 h_43 h_45 h_46 h_48 h_49 h_55 h_56 h_57 h_58 h_59 h_54 h_64 h_65 h_66 h_67 h_63 h_76 h_86 h_87 h_88 h_89 h_90 h_91 h_92 h_93 h_94 h_95 h_96 h_97 h_98 h_26 h_85; omega) | omega) (by first | (clear ha1 hq0 h_1 hg_t9 h_2 hr_t9 h_3 hg_n0 h_4 hr_n0 h_5 hg_n1 h_6 hr_n1 h_7 hg_n2 h_8 hr_n2 h_9 hg_n3 h_10 hr_n3 h_11 hg_im h_12 hr_im h_13 hg_wk h_14 hr_wk h_25 h_29 h_30 h_31 h_32 h_33 h_34 h_36 h_37 h_39 h_40 h_42 h_43 h_45 h_46 h_48 h_49 h_56 h_57 h_58 h_59 h_64 h_65 h_66 h_67 h_63 h_76 h_86 h_87 h_88 h_89 h_90 h_91 h_92 h_93 h_94 h_95 h_96 h_97 h_98 h_26 h_85; omega) | omega) (by first | exact q_88dc5fb99 h_32 | (clear ha1 hq0 h_1 hg_t9 h_2 hr_t9 h_3 hg_n0 h_4 hr_n0 h_5 hg_n1 h_6 hr_n1 h_7 hg_n2 h_8 hr_n2 h_9 hg_n3 h_10 hr_n3 h_11 hg_im h_12 hr_im h_13 hg_wk h_14 hr_wk h_25 h_29 h_30 h_31 h_33 h_34 h_36 h_37 h_39 h_40 h_42 h_43 h_45 h_46 h_48 h_49 h_55 h_56 h_57 h_58 h_59 h_54 h_64 h_65 h_66 h_67 h_63 h_76 h_86 h_87 h_88 h_89 h_90 h_91 h_92 h_93 h_94 h_95 h_96 h_97 h_98 h_26 h_85; omega) | omega) (by first | decide | (clear ha1 hq0 h_1 hg_t9 h_2 hr_t9 h_3 hg_n0 h_4 hr_n0 h_5 hg_n1 h_6 hr_n1 h_7 hg_n2 h_8 hr_n2 h_9 hg_n3 h_10 hr_n3 h_11 hg_im h_12 hr_im h_13 hg_wk h_14 hr_wk h_25 h_29 h_30 h_31 h_32 h_33 h_34 h_36 h_37 h_39 h_40 h_42 h_43 h_45 h_46 h_48 h_49 h_55 h_56 h_57 h_58 h_59 h_54 h_64 h_65 h_66 h_67 h_63 h_76 h_86 h_87 h_88 h_89 h_90 h_91 h_92 h_93 h_94 h_95 h_96 h_97 h_98 h_26 h_85; omega) | omega) (by first | exact q_d8da297ae h_34 | (clear ha1 hq0 h_1 hg_t9 h_2 hr_t9 h_3 hg_n0 h_4 hr_n0 h_5 hg_n1 h_6 hr_n1 h_7 hg_n2 h_8 hr_n2 h_9 hg_n3 h_10 hr_n3 h_11 hg_im h_12 hr_im h_13 hg_wk h_14 hr_wk h_25 h_29 h_30 h_31 h_32 h_33 h_36 h_37 h_39 h_40 h_42 h_43 h_45 h_46 h_48 h_49 h_55 h_56 h_57 h_58 h_59 h_54 h_64 h_65 h_66 h_67 h_63 h_76 h_86 h_87 h_88 h_89 h_90 h_91 h_92 h_93 h_94 h_95 h_96 h_97 h_98 h_26 h_85; omega) | omega) (by first | exact q_d8da297ae h_37 | (clear ha1 hq0 h_1 hg_t9 h_2 hr_t9 h_3 hg_n0 h_4 hr_n0 h_5 hg_n1 h_6 hr_n1 h_7 hg_n2 h_8 hr_n2 h_9 hg_n3 h_10 hr_n3 h_11 hg_im h_12 hr_im h_13 hg_wk h_14 hr_wk h_25 h_29 h_30 h_31 h_32 h_33 h_34 h_36 h_39 h_40 h_42 h_43 h_45 h_46 h_48 h_49 h_55 h_56 h_57 h_58 h_59 h_54 h_64 h_65 h_66 h_67 h_63 h_76 h_86 h_87 h_88 h_89 h_90 h_91 h_92 h_93 h_94 h_95 h_96 h_97 h_98 h_26 h_85; omega) | omega) (by first | exact q_d8da297ae h_40 | (clear ha1 hq0 h_1 hg_t9 h_2 hr_t9 h_3 hg_n0 h_4 hr_n0 h_5 hg_n1 h_6 hr_n1 h_7 hg_n2 h_8 hr_n2 h_9 hg_n3 h_10 hr_n3 h_11 hg_im h_12 hr_im h_13 hg_wk h_14 hr_wk h_25 h_29 h_30 h_31 h_32 h_33 h_34 h_36 h_37 h_39 h_42 h_43 h_45 h_46 h_48 h_49 h_55 h_56 h_57 h_58 h_59 h_54 h_64 h_65 h_66 h_67 h_63 h_76 h_86 h_87 h_88 h_89 h_90 h_91 h_92 h_93 h_94 h_95 h_96 h_97 h_98 h_26 h_85; omega) | omega) (by first | exact q_d8da297ae h_43 | (clear ha1 hq0 h_1 hg_t9 h_2 hr_t9 h_3 hg_n0 h_4 hr_n0 h_5 hg_n1 h_6 hr_n1 h_7 hg_n2 h_8 hr_n2 h_9 hg_n3 h_10 hr_n3 h_11 hg_im h_12 hr_im h_13 hg_wk h_14 hr_wk h_25 h_29 h_30 h_31 h_32 h_33 h_34 h_36 h_37 h_39 h_40 h_42 h_45 h_46 h_48 h_49 h_55 h_56 h_57 h_58 h_59 h_54 h_64 h_65 h_66 h_67 h_63 h_76 h_86 h_87 h_88 h_89 h_90 h_91 h_92 h_93 h_94 h_95 h_96 h_97 h_98 h_26 h_85; omega) | omega) (by first | exact q_d8da297ae h_46 | (clear ha1 hq0 h_1 hg_t9 h_2 hr_t9 h_3 hg_n0 h_4 hr_n0 h_5 hg_n1 h_6 hr_n1 h_7 hg_n2 h_8 hr_n2 h_9 hg_n3 h_10 hr_n3 h_11 hg_im h_12 hr_im h_13 hg_wk h_14 hr_wk h_25 h_29 h_30 h_31 h_32 h_33 h_34 h_36 h_37 h_39 h_40 h_42 h_43 h_45 h_48 h_49 h_55 h_56 h_57 h_58 h_59 h_54 h_64 h_65 h_66 h_67 h_63 h_76 h_86 h_87 h_88 h_89 h_90 h_91 h_92 h_93 h_94 h_95 h_96 h_97 h_98 h_26 h_85; omega) | omega) (Or.inr (by first | exact q_d8da297ae h_46 | (clear ha1 hq0 h_1 hg_t9 h_2 hr_t9 h_3 hg_n0 h_4 hr_n0 h_5 hg_n1 h_6 hr_n1 h_7 hg_n2 h_8 hr_n2 h_9 hg_n3 h_10 hr_n3 h_11 hg_im h_12 hr_im h_13 hg_wk h_14 hr_wk h_25 h_29 h_30 h_31 h_32 h_33 h_34 h_36 h_37 h_39 h_40 h_42 h_43 h_45 h_48 h_49 h_55 h_56 h_57 h_58 h_59 h_54 h_64 h_65 h_66 h_67 h_63 h_76 h_86 h_87 h_88 h_89 h_90 h_91 h_92 h_93 h_94 h_95 h_96 h_97 h_98 h_26 h_85; omega) | omega)) (by first | exact q_d8da297ae h_49 | (clear ha1 hq0 h_1 hg_t9 h_2 hr_t9 h_3 hg_n0 h_4 hr_n0 h_5 hg_n1 h_6 hr_n1 h_7 hg_n2 h_8 hr_n2 h_9 hg_n3 h_10 hr_n3 h_11 hg_im h_12 hr_im h_13 hg_wk h_14 hr_wk h_25 h_29 h_30 h_31 h_32 h_33 h_34 h_36 h_37 h_39 h_40 h_42 h_43 h_45 h_46 h_48 h_55 h_56 h_57 h_58 h_59 h_54 h_64 h_65 h_66 h_67 h_63 h_76 h_86 h_87 h_88 h_89 h_90 h_91 h_92 h_93 h_94 h_95 h_96 h_97 h_98 h_26 h_85; omega) | omega)
  · refine v_if_ne_f (t := 11) c_2_4 rfl (Decidable.not_not.mp h_26) (q_iconst c_2_7 (q_goto (t := 12) c_2_8 rfl (v_zret c_2_12 rfl (by decide) (bk_inl (v_if_eq_f (t := 81) c_84_26 rfl (by decide) (q_aload_n c_84_29 rfl (v_gr (t := P) c_84_30 kf_7_50 rfl (Nat.le_of_ble_eq_true rfl) rfl ?_)))))))
    refine q_astore_n c_84_33 (by decide) (q_aload_n c_84_34 rfl (q_aload_n c_84_35 rfl (v_gr (t := Q) c_84_36 kf_7_54 rfl (Nat.le_of_ble_eq_true rfl) rfl (v_pr (P' := Q) (Q' := Q) (N' := P) (T' := P) rfl rfl rfl rfl (by decide) (Nat.lt_of_succ_le (Nat.le_of_ble_eq_true rfl)) (fun c => rfl) rfl (by decide) (fun b hb => ck_x0 hb) (q_aload_n rfl rfl (q_aload_n rfl rfl (v_pr (P' := Q) (Q' := P) (N' := P) (T' := P) rfl rfl rfl rfl (by decide) (Nat.lt_of_succ_le (Nat.le_of_ble_eq_true rfl)) (fun c => rfl) rfl (by decide) (fun b hb => ck_x0 hb) ?_)))))))
    refine Wp_ls [(0, .ref 0)] (lsub_cons rfl lsub_nil) ?_
    have h_132 := ir_p0_0 hI_22 hQ
    refine s_84u (P := Q) (Q := P) (iv_swap hI_22) (fun c_133 y_134 hI_135 hF_136 hy_137 h_138 h_139 => ?_)
    have h_140 := ir_3_3 hI_135
    have h_141 := ir_3_4 hI_135
    have h_142 := ir_0_11 hI_135
    intro hE_143
    have h_144 : yg = y_134 := (vi_inj ⟨by omega, by omega⟩ ⟨by omega, by omega⟩ (Option.some.inj (Sum.inl.inj (Prod.mk.inj hE_143).1))).symm
    have hW : Wd Q P Q Q c_133 = Wd P9 Q9 P9 P9 m9 := (Prod.mk.inj (Prod.mk.inj hE_143).2).1
    obtain ⟨hp9, hq9⟩ := wd_pq hW
    subst hp9
    subst hq9
    have h_145 := ir_1_5 hI_22
    have kn_146 : Hid (c_133 1 5 = c_21 1 5) := hF_136 1 5 qn_1d8f8ed06
    have h_147 := ir_1_5 hJ9
    have h_148 : m9 1 5 = c_21 1 5 := wd_fv (z := 5) 5 rfl hW rfl rfl rfl rfl (by decide) (hid kn_146) ⟨by first | exact q_a93a79546 h_145 | (clear ha1 hq0 h_1 hg_t9 h_2 hr_t9 h_3 hg_n0 h_4 hr_n0 h_5 hg_n1 h_6 hr_n1 h_7 hg_n2 h_8 hr_n2 h_9 hg_n3 h_10 hr_n3 h_11 hg_im h_12 hr_im h_13 hg_wk h_14 hr_wk h_25 h_26 h_132 h_140 h_141 h_142 h_144 h_147; omega) | omega, by first | exact q_64fbdbf81 h_145 | (clear ha1 hq0 h_1 hg_t9 h_2 hr_t9 h_3 hg_n0 h_4 hr_n0 h_5 hg_n1 h_6 hr_n1 h_7 hg_n2 h_8 hr_n2 h_9 hg_n3 h_10 hr_n3 h_11 hg_im h_12 hr_im h_13 hg_wk h_14 hr_wk h_25 h_26 h_132 h_140 h_141 h_142 h_144 h_147; omega) | omega⟩ ⟨(Int.le_trans (by decide) h_147.1), (Int.le_trans h_147.2 (by decide))⟩
    have kn_149 : Hid (c_133 Q 0 = c_21 Q 0) := hF_136 Q 0 (qn_60d8a0f85 hQ)
    have h_150 := ir_p0_0 hJ9 hQ
    have h_151 : m9 Q 0 = c_21 Q 0 := wd_fv (z := 0) 0 rfl hW (ck_A hQ) (ck_A hQ) rfl rfl (a68z hQ) (hid kn_149) ⟨(Int.le_trans (by decide) h_132.1), (Int.le_trans h_132.2 (by decide))⟩ ⟨(Int.le_trans (by decide) h_150.1), (Int.le_trans h_150.2 (by decide))⟩
    have h_152 := ir_p0_1 hI_22 hQ
    have kn_153 : Hid (c_133 Q 1 = c_21 Q 1) := hF_136 Q 1 (qn_60d8a0f85 hQ)
    have h_154 := ir_p0_1 hJ9 hQ
    have h_155 : m9 Q 1 = c_21 Q 1 := wd_fv (z := 1) 1 rfl hW (ck_A hQ) (ck_A hQ) rfl rfl (a68z hQ) (hid kn_153) ⟨by first | exact q_0bfe68f8e h_152 | (clear ha1 hq0 h_1 hg_t9 h_2 hr_t9 h_3 hg_n0 h_4 hr_n0 h_5 hg_n1 h_6 hr_n1 h_7 hg_n2 h_8 hr_n2 h_9 hg_n3 h_10 hr_n3 h_11 hg_im h_12 hr_im h_13 hg_wk h_14 hr_wk h_25 h_26 h_132 h_140 h_141 h_142 h_144 h_145 h_147 h_148 h_150 h_151 h_154; omega) | omega, by first | exact q_82d4f69ff h_152 | (clear ha1 hq0 h_1 hg_t9 h_2 hr_t9 h_3 hg_n0 h_4 hr_n0 h_5 hg_n1 h_6 hr_n1 h_7 hg_n2 h_8 hr_n2 h_9 hg_n3 h_10 hr_n3 h_11 hg_im h_12 hr_im h_13 hg_wk h_14 hr_wk h_25 h_26 h_132 h_140 h_141 h_142 h_144 h_145 h_147 h_148 h_150 h_151 h_154; omega) | omega⟩ ⟨(Int.le_trans (by decide) h_154.1), (Int.le_trans h_154.2 (by decide))⟩
    have h_156 := ir_p0_2 hI_22 hQ
    have kn_157 : Hid (c_133 Q 2 = c_21 Q 2) := hF_136 Q 2 (qn_60d8a0f85 hQ)
    have h_158 := ir_p0_2 hJ9 hQ
    have h_159 : m9 Q 2 = c_21 Q 2 := wd_fv (z := 2) 2 rfl hW (ck_A hQ) (ck_A hQ) rfl rfl (a68z hQ) (hid kn_157) ⟨by first | exact q_0bfe68f8e h_156 | (clear ha1 hq0 h_1 hg_t9 h_2 hr_t9 h_3 hg_n0 h_4 hr_n0 h_5 hg_n1 h_6 hr_n1 h_7 hg_n2 h_8 hr_n2 h_9 hg_n3 h_10 hr_n3 h_11 hg_im h_12 hr_im h_13 hg_wk h_14 hr_wk h_25 h_26 h_132 h_140 h_141 h_142 h_144 h_145 h_147 h_148 h_150 h_151 h_152 h_154 h_155 h_158; omega) | omega, by first | exact q_82d4f69ff h_156 | (clear ha1 hq0 h_1 hg_t9 h_2 hr_t9 h_3 hg_n0 h_4 hr_n0 h_5 hg_n1 h_6 hr_n1 h_7 hg_n2 h_8 hr_n2 h_9 hg_n3 h_10 hr_n3 h_11 hg_im h_12 hr_im h_13 hg_wk h_14 hr_wk h_25 h_26 h_132 h_140 h_141 h_142 h_144 h_145 h_147 h_148 h_150 h_151 h_152 h_154 h_155 h_158; omega) | omega⟩ ⟨(Int.le_trans (by decide) h_158.1), (Int.le_trans h_158.2 (by decide))⟩
    have h_160 := ir_p0_3 hI_22 hQ
    have kn_161 : Hid (c_133 Q 3 = c_21 Q 3) := hF_136 Q 3 (qn_60d8a0f85 hQ)
    have h_162 := ir_p0_3 hJ9 hQ
    have h_163 : m9 Q 3 = c_21 Q 3 := wd_fv (z := 3) 3 rfl hW (ck_A hQ) (ck_A hQ) rfl rfl (a68z hQ) (hid kn_161) ⟨by first | exact q_fe18d6d95 h_160 | (clear ha1 hq0 h_1 hg_t9 h_2 hr_t9 h_3 hg_n0 h_4 hr_n0 h_5 hg_n1 h_6 hr_n1 h_7 hg_n2 h_8 hr_n2 h_9 hg_n3 h_10 hr_n3 h_11 hg_im h_12 hr_im h_13 hg_wk h_14 hr_wk h_25 h_26 h_132 h_140 h_141 h_142 h_144 h_145 h_147 h_148 h_150 h_151 h_152 h_154 h_155 h_156 h_158 h_159 h_162; omega) | omega, by first | exact q_5d4e5294a h_160 | (clear ha1 hq0 h_1 hg_t9 h_2 hr_t9 h_3 hg_n0 h_4 hr_n0 h_5 hg_n1 h_6 hr_n1 h_7 hg_n2 h_8 hr_n2 h_9 hg_n3 h_10 hr_n3 h_11 hg_im h_12 hr_im h_13 hg_wk h_14 hr_wk h_25 h_26 h_132 h_140 h_141 h_142 h_144 h_145 h_147 h_148 h_150 h_151 h_152 h_154 h_155 h_156 h_158 h_159 h_162; omega) | omega⟩ ⟨(Int.le_trans (by decide) h_162.1), (Int.le_trans h_162.2 (by decide))⟩
    have h_164 := ir_3_4 hJ9
    have h_165 : m9 3 4 = c_133 3 4 := wd_fv (z := 4) 4 rfl hW rfl rfl rfl rfl (by decide) rfl ⟨(Int.le_trans (by decide) h_141.1), (Int.le_trans h_141.2 (by decide))⟩ ⟨(Int.le_trans (by decide) h_164.1), (Int.le_trans h_164.2 (by decide))⟩
    have h_166 := ir_3_3 hJ9
    have h_167 : m9 3 3 = c_133 3 3 := wd_fv (z := 3) 3 rfl hW rfl rfl rfl rfl (by decide) rfl ⟨(Int.le_trans (by decide) h_140.1), (Int.le_trans h_140.2 (by decide))⟩ ⟨(Int.le_trans (by decide) h_166.1), (Int.le_trans h_166.2 (by decide))⟩
    refine q_aload_n c_169_0 rfl (q_iconst c_169_1 (v_pi (z := 0) c_169_2 kf_8_3 rfl (Nat.le_of_ble_eq_true rfl) rfl rfl rfl (by decide) (q_aload_n c_169_5 rfl (q_iload_n c_169_6 rfl (v_if_lt_f (t := 22) c_169_7 rfl ⟨by decide, by first | exact q_8241eb4bd hq0 | (clear ha1 h_1 hg_t9 h_2 hr_t9 h_3 hg_n0 h_4 hr_n0 h_5 hg_n1 h_6 hr_n1 h_7 hg_n2 h_8 hr_n2 h_9 hg_n3 h_10 hr_n3 h_11 hg_im h_12 hr_im h_13 hg_wk h_14 hr_wk h_25 h_26 h_132 h_140 h_141 h_142 h_144 h_145 h_147 h_148 h_150 h_151 h_152 h_154 h_155 h_156 h_158 h_159 h_160 h_162 h_163 h_164 h_165 h_166 h_167; omega) | omega, ha1.2⟩ (q_iload_n c_169_10 rfl (q_aload_n c_169_11 rfl ?_)))))))
    refine v_gi (z := 2) (v := t9) c_169_12 kf_8_99 rfl (Nat.le_of_ble_eq_true rfl) rfl rfl ((up_n (by decide)).trans (hr_t9)) (v_ic_gt_f (t := 22) c_169_15 rfl ⟨ha1.1, by first | exact q_f1a9820a9 hq0 | (clear ha1 h_1 hg_t9 h_2 hr_t9 h_3 hg_n0 h_4 hr_n0 h_5 hg_n1 h_6 hr_n1 h_7 hg_n2 h_8 hr_n2 h_9 hg_n3 h_10 hr_n3 h_11 hg_im h_12 hr_im h_13 hg_wk h_14 hr_wk h_25 h_26 h_132 h_140 h_141 h_142 h_144 h_145 h_147 h_148 h_150 h_151 h_152 h_154 h_155 h_156 h_158 h_159 h_160 h_162 h_163 h_164 h_165 h_166 h_167; omega) | omega, (Int.le_trans (rg_eq hg_t9 h_1).2 (by decide))⟩ (q_iconst c_169_18 (q_goto (t := 23) c_169_19 rfl (q_iconst c_169_23 (q_iconst c_169_24 (v_cv c_169_25 km_8_203 rfl rfl (Nat.le_of_ble_eq_true rfl) ⟨⟨rfl, rfl⟩, Nat.le_of_ble_eq_true rfl, rfl⟩ (Nat.le_of_ble_eq_true rfl) (Nat.le_of_ble_eq_true rfl) (q_iload_n c_145_0 rfl ?_)))))))
    refine v_if_ne_t (t := 26) c_145_1 rfl (by decide) (q_aload_n c_145_26 rfl (v_gi (z := 0) (v := 0) c_145_27 kf_8_3 rfl (Nat.le_of_ble_eq_true rfl) rfl rfl (up_e rfl) (v_if_ne_f (t := 37) c_145_30 rfl (by decide) (q_iconst c_145_33 (q_goto (t := 38) c_145_34 rfl (v_zret c_145_38 rfl (by decide) (bk_inl ?_)))))))
    refine v_if_ne_t (t := 33) c_169_28 rfl (by decide) (q_aload_n c_169_33 rfl (q_iload_n c_169_34 rfl ?_))
    have hI_168 := iw_41_0 (v := 0) hI ⟨by decide, by decide⟩
    refine v_cv c_169_35 km_8_207 rfl rfl (Nat.le_of_ble_eq_true rfl) ⟨⟨rfl, rfl⟩, Nat.le_of_ble_eq_true rfl, rfl⟩ (Nat.le_of_ble_eq_true rfl) (Nat.le_of_ble_eq_true rfl) (s_163 (a1 := a1) hI_168 (show 0 ≤ a1 ∧ a1 ≤ 600 from ⟨by first | exact q_8241eb4bd hq0 | (clear ha1 h_1 hg_t9 h_2 hr_t9 h_3 hg_n0 h_4 hr_n0 h_5 hg_n1 h_6 hr_n1 h_7 hg_n2 h_8 hr_n2 h_9 hg_n3 h_10 hr_n3 h_11 hg_im h_12 hr_im h_13 hg_wk h_14 hr_wk h_25 h_26 h_132 h_140 h_141 h_142 h_144 h_145 h_147 h_148 h_150 h_151 h_152 h_154 h_155 h_156 h_158 h_159 h_160 h_162 h_163 h_164 h_165 h_166 h_167; omega) | omega, by first | exact q_366480dfc hq0 | (clear ha1 h_1 hg_t9 h_2 hr_t9 h_3 hg_n0 h_4 hr_n0 h_5 hg_n1 h_6 hr_n1 h_7 hg_n2 h_8 hr_n2 h_9 hg_n3 h_10 hr_n3 h_11 hg_im h_12 hr_im h_13 hg_wk h_14 hr_wk h_25 h_26 h_132 h_140 h_141 h_142 h_144 h_145 h_147 h_148 h_150 h_151 h_152 h_154 h_155 h_156 h_158 h_159 h_160 h_162 h_163 h_164 h_165 h_166 h_167; omega) | omega⟩) (fun c_169 hI_170 hF_171 h_172 => (bk_inl ?_)))
    have h_173 := ir_41_2 hI_170
    have h_174 := ir_41_3 hI_170
    have h_175 := ir_41_4 hI_170
    have h_176 := ir_41_5 hI_170
    have h_177 := ir_41_7 hI_170
    refine q_aload_n c_169_38 rfl (v_cv c_169_39 km_8_93 rfl rfl (Nat.le_of_ble_eq_true rfl) ⟨⟨rfl, rfl⟩, Nat.le_of_ble_eq_true rfl, rfl⟩ (Nat.le_of_ble_eq_true rfl) (Nat.le_of_ble_eq_true rfl) (s_147 hI_170 (fun c_178 hI_179 hF_180 h_181 => (bk_inl ?_))))
    have h_182 := ir_41_16 hI_179
    have h_183 := ir_41_17 hI_179
    have h_184 := ir_41_18 hI_179
    have h_185 := ir_41_19 hI_179
    refine q_iconst c_169_42 (q_istore_n c_169_43 (Nat.le_of_ble_eq_true rfl) (Wp_ls [(0, .ref 41), (1, vi a1), (2, vi 0)] (lsub_cons rfl (lsub_cons rfl (lsub_cons rfl lsub_nil))) ?_))
    have kn_186 : Hid (c_178 41 3 = c_169 41 3) := hF_180 41 3 qn_de2c377ca
    have h_187 : (up (up (up (up (up m 1 1 y_15) 1 2 0) 1 3 0) 1 4 0) 1 5 (-1)) 1 4 = 0 := ((up_n (by decide)).trans (up_e rfl))
    have h_188 : (up (up (up (up (up m 1 1 y_15) 1 2 0) 1 3 0) 1 4 0) 1 5 (-1)) 1 2 = 0 := ((up_n (by decide)).trans ((up_n (by decide)).trans ((up_n (by decide)).trans (up_e rfl))))
    have h_189 : (up (up (up (up (up m 1 1 y_15) 1 2 0) 1 3 0) 1 4 0) 1 5 (-1)) 1 5 = (-1) := (up_e rfl)
    have kn_190 : Hid (c_178 41 5 = c_169 41 5) := hF_180 41 5 qn_910516fcd
    have h_191 : c_178 41 5 = c_169 41 5 := (hid kn_190)
    have kn_192 : Hid (c_178 41 4 = c_169 41 4) := hF_180 41 4 qn_650f73a3f
    have h_193 : c_178 41 4 = c_169 41 4 := (hid kn_192)
    have h_194 := ir_41_6 hI
    have kn_195 : Hid (c_169 41 6 = c 41 6) := (hF_171 41 6 qn_eb0d473e8).trans (up_n (by decide))
    have kn_196 : Hid (c_178 41 6 = c 41 6) := (hF_180 41 6 qn_f359bb820).trans (hid kn_195)
    have h_197 : c_178 41 6 = c 41 6 := (hid kn_196)
    refine L_34 (m := up (up (up (up (up m 1 1 y_15) 1 2 0) 1 3 0) 1 4 0) 1 5 (-1)) (a1 := a1) (e1 := y_15) (f0 := 0) (g0 := (-1)) (z0 := c_178 41 16) (z1 := c_178 41 17) (z2 := c_178 41 18) (z3 := c_178 41 19) (F := F) (H := H) hI_179 hI_20 hI_22 hQ (show (-2147483648) ≤ a1 ∧ a1 ≤ 2147483647 from ha1) (by first | decide | (clear ha1 hq0 h_1 hg_t9 h_2 hr_t9 h_3 hg_n0 h_4 hr_n0 h_5 hg_n1 h_6 hr_n1 h_7 hg_n2 h_8 hr_n2 h_9 hg_n3 h_10 hr_n3 h_11 hg_im h_12 hr_im h_13 hg_wk h_14 hr_wk h_25 h_26 h_132 h_140 h_141 h_142 h_144 h_145 h_147 h_148 h_150 h_151 h_152 h_154 h_155 h_156 h_158 h_159 h_160 h_162 h_163 h_164 h_165 h_166 h_167 h_173 h_174 h_175 h_176 h_177 h_172 h_182 h_183 h_184 h_185 h_181; omega) | omega) (by first | decide | (clear ha1 hq0 h_1 hg_t9 h_2 hr_t9 h_3 hg_n0 h_4 hr_n0 h_5 hg_n1 h_6 hr_n1 h_7 hg_n2 h_8 hr_n2 h_9 hg_n3 h_10 hr_n3 h_11 hg_im h_12 hr_im h_13 hg_wk h_14 hr_wk h_25 h_26 h_132 h_140 h_141 h_142 h_144 h_145 h_147 h_148 h_150 h_151 h_152 h_154 h_155 h_156 h_158 h_159 h_160 h_162 h_163 h_164 h_165 h_166 h_167 h_173 h_174 h_175 h_176 h_177 h_172 h_182 h_183 h_184 h_185 h_181; omega) | omega) (by first | (clear ha1 hq0 h_1 hg_t9 h_2 hr_t9 h_3 hg_n0 h_4 hr_n0 h_5 hg_n1 h_6 hr_n1 h_7 hg_n2 h_8 hr_n2 h_9 hg_n3 h_10 hr_n3 h_11 hg_im h_12 hr_im h_13 hg_wk h_14 hr_wk h_25 h_26 h_132 h_140 h_141 h_142 h_144 h_145 h_147 h_148 h_150 h_151 h_152 h_154 h_155 h_156 h_158 h_159 h_160 h_162 h_163 h_164 h_165 h_166 h_167 h_173 h_174 h_175 h_176 h_177 h_172 h_183 h_184 h_185; omega) | omega) (by first | (clear ha1 hq0 h_1 hg_t9 h_2 hr_t9 h_3 hg_n0 h_4 hr_n0 h_5 hg_n1 h_6 hr_n1 h_7 hg_n2 h_8 hr_n2 h_9 hg_n3 h_10 hr_n3 h_11 hg_im h_12 hr_im h_13 hg_wk h_14 hr_wk h_25 h_26 h_132 h_140 h_141 h_142 h_144 h_145 h_147 h_148 h_150 h_151 h_152 h_154 h_155 h_156 h_158 h_159 h_160 h_162 h_163 h_164 h_165 h_166 h_167 h_173 h_174 h_175 h_176 h_177 h_172 h_182 h_184 h_185; omega) | omega) (by first | (clear ha1 hq0 h_1 hg_t9 h_2 hr_t9 h_3 hg_n0 h_4 hr_n0 h_5 hg_n1 h_6 hr_n1 h_7 hg_n2 h_8 hr_n2 h_9 hg_n3 h_10 hr_n3 h_11 hg_im h_12 hr_im h_13 hg_wk h_14 hr_wk h_25 h_26 h_132 h_140 h_141 h_142 h_144 h_145 h_147 h_148 h_150 h_151 h_152 h_154 h_155 h_156 h_158 h_159 h_160 h_162 h_163 h_164 h_165 h_166 h_167 h_173 h_174 h_175 h_176 h_177 h_172 h_182 h_183 h_185; omega) | omega) (by first | (clear ha1 hq0 h_1 hg_t9 h_2 hr_t9 h_3 hg_n0 h_4 hr_n0 h_5 hg_n1 h_6 hr_n1 h_7 hg_n2 h_8 hr_n2 h_9 hg_n3 h_10 hr_n3 h_11 hg_im h_12 hr_im h_13 hg_wk h_14 hr_wk h_25 h_26 h_132 h_140 h_141 h_142 h_144 h_145 h_147 h_148 h_150 h_151 h_152 h_154 h_155 h_156 h_158 h_159 h_160 h_162 h_163 h_164 h_165 h_166 h_167 h_173 h_174 h_175 h_176 h_177 h_172 h_182 h_183 h_184 h_185; omega) | omega) (((up_n (by decide)).trans ((up_n (by decide)).trans ((up_n (by decide)).trans ((up_n (by decide)).trans (up_e rfl)))))) (((show _ = c_169 41 3 from (hid kn_186)).trans (by first | assumption | exact Int.le_antisymm (by first | (clear h_1 hg_t9 h_2 hr_t9 h_3 hg_n0 h_4 hr_n0 h_5 hg_n1 h_6 hr_n1 h_7 hg_n2 h_8 hr_n2 h_9 hg_n3 h_10 hr_n3 h_11 hg_im h_12 hr_im h_13 hg_wk h_14 hr_wk h_25 h_26 h_132 h_140 h_141 h_142 h_144 h_145 h_147 h_148 h_150 h_151 h_152 h_154 h_155 h_156 h_158 h_159 h_160 h_162 h_163 h_164 h_165 h_166 h_167 h_182 h_183 h_184 h_185 h_181; omega) | omega) (by first | (clear ha1 hq0 h_1 hg_t9 h_2 hr_t9 h_3 hg_n0 h_4 hr_n0 h_5 hg_n1 h_6 hr_n1 h_7 hg_n2 h_8 hr_n2 h_9 hg_n3 h_10 hr_n3 h_11 hg_im h_12 hr_im h_13 hg_wk h_14 hr_wk h_25 h_26 h_132 h_140 h_141 h_142 h_144 h_145 h_147 h_148 h_150 h_151 h_152 h_154 h_155 h_156 h_158 h_159 h_160 h_162 h_163 h_164 h_165 h_166 h_167 h_173 h_174 h_175 h_176 h_177 h_182 h_183 h_184 h_185 h_181; omega) | omega)))) (((up_n (by decide)).trans (up_e rfl))) ((up_e rfl)) (rfl) (rfl) (rfl) (rfl) (fun j => ((up_c (nn rfl)).trans ((up_c (nn rfl)).trans ((up_c (nn rfl)).trans ((up_c (nn rfl)).trans (up_c (nn rfl)))))).trans (hF j)) (fun j => ((hF_180 43 j qn_1d27fc2bc).trans ((hF_171 43 j qn_78d42cb5c).trans (up_c (nn rfl)))).trans (hH j)) hU (rt_i1 ⟨by first | decide | (clear ha1 hq0 h_1 hg_t9 h_2 hr_t9 h_3 hg_n0 h_4 hr_n0 h_5 hg_n1 h_6 hr_n1 h_7 hg_n2 h_8 hr_n2 h_9 hg_n3 h_10 hr_n3 h_11 hg_im h_12 hr_im h_13 hg_wk h_14 hr_wk h_25 h_26 h_132 h_140 h_141 h_142 h_144 h_145 h_147 h_148 h_150 h_151 h_152 h_154 h_155 h_156 h_158 h_159 h_160 h_162 h_163 h_164 h_165 h_166 h_167 h_173 h_174 h_175 h_176 h_177 h_172 h_182 h_183 h_184 h_185 h_181 h_194; omega) | omega, by first | (clear ha1 hq0 h_1 hg_t9 h_2 hr_t9 h_3 hg_n0 h_4 hr_n0 h_5 hg_n1 h_6 hr_n1 h_7 hg_n2 h_8 hr_n2 h_9 hg_n3 h_10 hr_n3 h_11 hg_im h_12 hr_im h_13 hg_wk h_14 hr_wk h_25 h_26 h_132 h_140 h_141 h_142 h_144 h_145 h_147 h_148 h_150 h_151 h_152 h_154 h_155 h_156 h_158 h_159 h_160 h_162 h_163 h_164 h_165 h_166 h_167 h_173 h_174 h_175 h_177 h_182 h_183 h_184 h_185 h_181 h_194; omega) | omega, by first | (clear ha1 hq0 h_1 hg_t9 h_2 hr_t9 h_3 hg_n0 h_4 hr_n0 h_5 hg_n1 h_6 hr_n1 h_7 hg_n2 h_8 hr_n2 h_9 hg_n3 h_10 hr_n3 h_11 hg_im h_12 hr_im h_13 hg_wk h_14 hr_wk h_25 h_26 h_132 h_140 h_141 h_142 h_144 h_145 h_147 h_148 h_150 h_151 h_152 h_154 h_155 h_156 h_158 h_159 h_160 h_162 h_163 h_164 h_165 h_166 h_167 h_173 h_174 h_176 h_177 h_182 h_183 h_184 h_185 h_181 h_194; omega) | omega, by first | decide | (clear ha1 hq0 h_1 hg_t9 h_2 hr_t9 h_3 hg_n0 h_4 hr_n0 h_5 hg_n1 h_6 hr_n1 h_7 hg_n2 h_8 hr_n2 h_9 hg_n3 h_10 hr_n3 h_11 hg_im h_12 hr_im h_13 hg_wk h_14 hr_wk h_25 h_26 h_132 h_140 h_141 h_142 h_144 h_145 h_147 h_148 h_150 h_151 h_152 h_154 h_155 h_156 h_158 h_159 h_160 h_162 h_163 h_164 h_165 h_166 h_167 h_173 h_174 h_175 h_176 h_177 h_172 h_182 h_183 h_184 h_185 h_181 h_194; omega) | omega⟩) hG_24 (fun c_198 hI_199 hF_200 hR_202 h_203 => ?_)
    have h_204 := ir_41_16 hI_199
    have h_205 := ir_41_17 hI_199
    have h_206 := ir_41_18 hI_199
    have h_207 := ir_41_19 hI_199
    refine q_aload_n c_169_136 rfl (q_aload_n c_169_137 rfl (v_gi (z := 16) (v := c_198 41 16) c_169_138 kf_8_145 rfl (Nat.le_of_ble_eq_true rfl) rfl rfl rfl (v_cv c_169_141 km_8_232 rfl rfl (Nat.le_of_ble_eq_true rfl) ⟨⟨rfl, rfl⟩, Nat.le_of_ble_eq_true rfl, rfl⟩ (Nat.le_of_ble_eq_true rfl) (Nat.le_of_ble_eq_true rfl) (q_aload_n c_164_0 rfl (q_aload_n c_164_1 rfl ?_)))))
    have h_208 := ir_41_5 hI_199
    have h_209 := ir_1_2 hI_22
    have h_210 := ir_41_4 hI_199
    have h_211 := ir_41_6 hI_199
    have h_212 := rt_ok hR_202 (by first | exact q_163d1c5eb h_25 h_26 | (clear ha1 hq0 h_1 hg_t9 h_2 hr_t9 h_3 hg_n0 h_4 hr_n0 h_5 hg_n1 h_6 hr_n1 h_7 hg_n2 h_8 hr_n2 h_9 hg_n3 h_10 hr_n3 h_11 hg_im h_12 hr_im h_13 hg_wk h_14 hr_wk h_132 h_140 h_141 h_142 h_144 h_145 h_147 h_148 h_150 h_151 h_152 h_154 h_155 h_156 h_158 h_159 h_160 h_162 h_163 h_164 h_165 h_166 h_167 h_173 h_174 h_175 h_176 h_177 h_172 h_182 h_183 h_184 h_185 h_181 h_194 h_204 h_205 h_206 h_207 h_208 h_209 h_210 h_211 h_203; omega) | omega)
    have hro_hR_202 := rt_ok hR_202 (by first | exact q_163d1c5eb h_25 h_26 | (clear ha1 hq0 h_1 hg_t9 h_2 hr_t9 h_3 hg_n0 h_4 hr_n0 h_5 hg_n1 h_6 hr_n1 h_7 hg_n2 h_8 hr_n2 h_9 hg_n3 h_10 hr_n3 h_11 hg_im h_12 hr_im h_13 hg_wk h_14 hr_wk h_132 h_140 h_141 h_142 h_144 h_145 h_147 h_148 h_150 h_151 h_152 h_154 h_155 h_156 h_158 h_159 h_160 h_162 h_163 h_164 h_165 h_166 h_167 h_173 h_174 h_175 h_176 h_177 h_172 h_182 h_183 h_184 h_185 h_181 h_194 h_204 h_205 h_206 h_207 h_208 h_209 h_210 h_211 h_212 h_203; omega) | omega)
    refine v_gi (z := 5) (v := (-1)) c_164_2 kf_8_102 rfl (Nat.le_of_ble_eq_true rfl) rfl rfl hro_hR_202.2.1 (v_pi (z := 8) c_164_5 kf_8_17 rfl (Nat.le_of_ble_eq_true rfl) rfl rfl rfl (by decide) (q_aload_n c_164_8 rfl (v_cv c_164_9 km_8_131 rfl rfl (Nat.le_of_ble_eq_true rfl) ⟨⟨rfl, rfl⟩, Nat.le_of_ble_eq_true rfl, rfl⟩ (Nat.le_of_ble_eq_true rfl) (Nat.le_of_ble_eq_true rfl) (q_aload_n c_152_0 rfl (v_gi (z := 5) (v := (-1)) c_152_1 kf_8_102 rfl (Nat.le_of_ble_eq_true rfl) rfl rfl (((up_n (by decide))).trans (hro_hR_202.2.1)) (q_iconst c_152_4 (v_ic_ne_f (t := 12) c_152_5 rfl (by decide) ?_)))))))
    refine q_iconst c_152_8 (q_goto (t := 13) c_152_9 rfl (v_zret c_152_13 rfl (by decide) (bk_inl (v_if_eq_f (t := 19) c_164_12 rfl (by decide) (q_iload_n c_164_15 rfl (q_goto (t := 26) c_164_16 rfl (q_iret c_164_26 rfl ?_)))))))
    refine bk_inl (q_istore_n c_169_144 (Nat.le_of_ble_eq_true rfl) (q_aload_n c_169_145 rfl (v_gi (z := 5) (v := (-1)) c_169_146 kf_8_102 rfl (Nat.le_of_ble_eq_true rfl) rfl rfl (((up_n (by decide))).trans (hro_hR_202.2.1)) (q_iconst c_169_149 (v_ic_ne_f (t := 157) c_169_150 rfl (by decide) (q_aload_n c_169_153 rfl ?_))))))
    have hI_213 := iw_41_8 (v := (-1)) hI_199 ⟨by decide, by decide⟩
    have h_214 : (up c_198 41 8 (-1)) 41 16 = c_198 41 16 := (up_n (by decide))
    have h_215 : (up c_198 41 8 (-1)) 41 17 = c_198 41 17 := (up_n (by decide))
    have h_216 : (up c_198 41 8 (-1)) 41 18 = c_198 41 18 := (up_n (by decide))
    have h_217 : (up c_198 41 8 (-1)) 41 19 = c_198 41 19 := (up_n (by decide))
    refine v_cv c_169_154 km_8_96 rfl rfl (Nat.le_of_ble_eq_true rfl) ⟨⟨rfl, rfl⟩, Nat.le_of_ble_eq_true rfl, rfl⟩ (Nat.le_of_ble_eq_true rfl) (Nat.le_of_ble_eq_true rfl) (s_149 (iv_open hI_213) (fun c_218 hI_219 hF_220 h_221 => (bk_inl ?_)))
    have h_222 := ir_41_20 hI_219
    have h_223 := ir_41_21 hI_219
    have h_224 := ir_41_22 hI_219
    have h_225 := ir_41_23 hI_219
    have h_226 := ir_41_30 hI_219
    have h_227 := ir_41_35 hI_219
    have h_228 := ir_41_36 hI_219
    have h_229 := ir_41_47 hI_219
    have h_230 := ir_41_48 hI_219
    have h_231 := ir_41_52 hI_219
    refine q_iload_n c_169_157 rfl (q_iret c_169_158 rfl ?_)
    have kn_232 : Hid (c_178 41 2 = c_169 41 2) := hF_180 41 2 qn_d1f210dd4
    have kn_233 : Hid (c_198 41 2 = c_169 41 2) := (hF_200 41 2 qn_c33c5b2f3).trans (hid kn_232)
    have kn_234 : Hid (c_218 41 2 = c_169 41 2) := (hF_220 41 2 qn_040eefb90).trans ((up_n (by decide)).trans (hid kn_233))
    have h_235 : c_218 41 2 = c_169 41 2 := (hid kn_234)
    have kn_236 : Hid (c_218 41 8 = (-1)) := (hF_220 41 8 qn_bd6eb8e87).trans (up_e rfl)
    have h_237 : c_218 41 8 = (-1) := (hid kn_236)
    have kn_238 : Hid (c_169 41 0 = 0) := (hF_171 41 0 qn_18af663b8).trans (up_e rfl)
    have kn_239 : Hid (c_178 41 0 = 0) := (hF_180 41 0 qn_75150763a).trans (hid kn_238)
    have kn_240 : Hid (c_198 41 0 = 0) := (hF_200 41 0 qn_77f099881).trans (hid kn_239)
    have kn_241 : Hid (c_218 41 0 = 0) := (hF_220 41 0 qn_0f8f6c114).trans ((up_n (by decide)).trans (hid kn_240))
    have h_242 : c_218 41 0 = 0 := (hid kn_241)
    exact K c_218 (c_198 41 16) hI_219 (fun a j hm => (hF_220 a j (qv_001693c50 hm)).trans ((up_b (Decidable.or_iff_not_imp_left.mpr (fun h1 h2 => hm (Or.inr (Or.inr (Or.inr (Or.inr (Or.inr (Or.inr (Or.inr (Or.inr (Or.inl ⟨Decidable.not_not.mp h1, h2⟩)))))))))))).trans ((hF_200 a j (qv_3a3bba8ab hm)).trans ((hF_180 a j (qv_701798ed8 hm)).trans ((hF_171 a j (qv_efbc52a90 hm)).trans (up_b (Decidable.or_iff_not_imp_left.mpr (fun h1 h2 => hm (Or.inl ⟨Decidable.not_not.mp h1, h2⟩))))))))) ⟨by omega, by omega⟩ (by first | (clear ha1 hq0 h_1 hg_t9 h_2 hr_t9 h_3 hg_n0 h_4 hr_n0 h_5 hg_n1 h_6 hr_n1 h_7 hg_n2 h_8 hr_n2 h_9 hg_n3 h_10 hr_n3 h_11 hg_im h_12 hr_im h_13 hg_wk h_14 hr_wk h_140 h_141 h_142 h_145 h_147 h_148 h_150 h_154 h_158 h_162 h_164 h_165 h_166 h_167 h_173 h_174 h_175 h_176 h_177 h_172 h_182 h_183 h_184 h_185 h_181 h_194 h_208 h_209 h_210 h_211; omega) | omega) (by first | (clear ha1 hq0 h_1 hg_t9 h_2 hr_t9 h_3 hg_n0 h_4 hr_n0 h_5 hg_n1 h_6 hr_n1 h_7 hg_n2 h_8 hr_n2 h_9 hg_n3 h_10 hr_n3 h_11 hg_im h_12 hr_im h_13 hg_wk h_14 hr_wk h_25 h_26 h_132 h_140 h_141 h_142 h_144 h_145 h_147 h_148 h_150 h_151 h_152 h_154 h_155 h_156 h_158 h_159 h_160 h_162 h_163 h_164 h_165 h_166 h_167 h_174 h_175 h_176 h_177 h_182 h_183 h_184 h_185 h_181 h_194 h_204 h_205 h_206 h_207 h_208 h_209 h_210 h_211 h_212 h_222 h_223 h_224 h_225 h_226 h_227 h_228 h_229 h_230 h_231 h_221 h_203; omega) | omega) (by first | exact q_019e65e0c h_147 h_148 h_212 | (clear ha1 hq0 h_1 hg_t9 h_2 hr_t9 h_3 hg_n0 h_4 hr_n0 h_5 hg_n1 h_6 hr_n1 h_7 hg_n2 h_8 hr_n2 h_9 hg_n3 h_10 hr_n3 h_11 hg_im h_12 hr_im h_13 hg_wk h_14 hr_wk h_25 h_26 h_132 h_140 h_141 h_142 h_144 h_145 h_150 h_151 h_152 h_154 h_155 h_156 h_158 h_159 h_160 h_162 h_163 h_164 h_165 h_166 h_167 h_173 h_174 h_175 h_176 h_177 h_172 h_182 h_183 h_184 h_185 h_181 h_194 h_204 h_205 h_206 h_207 h_208 h_209 h_210 h_211 h_222 h_223 h_224 h_225 h_226 h_227 h_228 h_229 h_230 h_231 h_221 h_203; omega) | omega) (by first | decide | (clear ha1 hq0 h_1 hg_t9 h_2 hr_t9 h_3 hg_n0 h_4 hr_n0 h_5 hg_n1 h_6 hr_n1 h_7 hg_n2 h_8 hr_n2 h_9 hg_n3 h_10 hr_n3 h_11 hg_im h_12 hr_im h_13 hg_wk h_14 hr_wk h_25 h_26 h_132 h_140 h_141 h_142 h_144 h_145 h_147 h_148 h_150 h_151 h_152 h_154 h_155 h_156 h_158 h_159 h_160 h_162 h_163 h_164 h_165 h_166 h_167 h_173 h_174 h_175 h_176 h_177 h_172 h_182 h_183 h_184 h_185 h_181 h_194 h_204 h_205 h_206 h_207 h_208 h_209 h_210 h_211 h_212 h_222 h_223 h_224 h_225 h_226 h_227 h_228 h_229 h_230 h_231 h_221 h_203; omega) | omega) (by first | (clear ha1 hq0 h_1 hg_t9 h_2 hr_t9 h_3 hg_n0 h_4 hr_n0 h_5 hg_n1 h_6 hr_n1 h_7 hg_n2 h_8 hr_n2 h_9 hg_n3 h_10 hr_n3 h_11 hg_im h_12 hr_im h_13 hg_wk h_14 hr_wk h_132 h_140 h_141 h_142 h_144 h_145 h_147 h_148 h_150 h_152 h_154 h_155 h_156 h_158 h_159 h_160 h_162 h_163 h_164 h_165 h_166 h_167 h_173 h_174 h_175 h_176 h_177 h_172 h_182 h_183 h_184 h_185 h_181 h_194 h_204 h_205 h_206 h_207 h_208 h_209 h_210 h_211 h_212 h_222 h_223 h_224 h_225 h_226 h_227 h_228 h_229 h_230 h_231; omega) | omega) (by first | (clear ha1 hq0 h_1 hg_t9 h_2 hr_t9 h_3 hg_n0 h_4 hr_n0 h_5 hg_n1 h_6 hr_n1 h_7 hg_n2 h_8 hr_n2 h_9 hg_n3 h_10 hr_n3 h_11 hg_im h_12 hr_im h_13 hg_wk h_14 hr_wk h_132 h_140 h_141 h_142 h_144 h_145 h_147 h_148 h_150 h_151 h_152 h_154 h_156 h_158 h_159 h_160 h_162 h_163 h_164 h_165 h_166 h_167 h_173 h_174 h_175 h_176 h_177 h_172 h_182 h_183 h_184 h_185 h_181 h_194 h_204 h_205 h_206 h_207 h_208 h_209 h_210 h_211 h_212 h_222 h_223 h_224 h_225 h_226 h_227 h_228 h_229 h_230 h_231; omega) | omega) (by first | (clear ha1 hq0 h_1 hg_t9 h_2 hr_t9 h_3 hg_n0 h_4 hr_n0 h_5 hg_n1 h_6 hr_n1 h_7 hg_n2 h_8 hr_n2 h_9 hg_n3 h_10 hr_n3 h_11 hg_im h_12 hr_im h_13 hg_wk h_14 hr_wk h_132 h_140 h_141 h_142 h_144 h_145 h_147 h_148 h_150 h_151 h_152 h_154 h_155 h_156 h_158 h_160 h_162 h_163 h_164 h_165 h_166 h_167 h_173 h_174 h_175 h_176 h_177 h_172 h_182 h_183 h_184 h_185 h_181 h_194 h_204 h_205 h_206 h_207 h_208 h_209 h_210 h_211 h_212 h_222 h_223 h_224 h_225 h_226 h_227 h_228 h_229 h_230 h_231; omega) | omega) (by first | (clear ha1 hq0 h_1 hg_t9 h_2 hr_t9 h_3 hg_n0 h_4 hr_n0 h_5 hg_n1 h_6 hr_n1 h_7 hg_n2 h_8 hr_n2 h_9 hg_n3 h_10 hr_n3 h_11 hg_im h_12 hr_im h_13 hg_wk h_14 hr_wk h_132 h_140 h_141 h_142 h_144 h_145 h_147 h_148 h_150 h_151 h_152 h_154 h_155 h_156 h_158 h_159 h_160 h_162 h_164 h_165 h_166 h_167 h_173 h_174 h_175 h_176 h_177 h_172 h_182 h_183 h_184 h_185 h_181 h_194 h_204 h_205 h_206 h_207 h_208 h_209 h_210 h_211 h_212 h_222 h_223 h_224 h_225 h_226 h_227 h_228 h_229 h_230 h_231; omega) | omega) (by first | (clear ha1 hq0 h_1 hg_t9 h_2 hr_t9 h_3 hg_n0 h_4 hr_n0 h_5 hg_n1 h_6 hr_n1 h_7 hg_n2 h_8 hr_n2 h_9 hg_n3 h_10 hr_n3 h_11 hg_im h_12 hr_im h_13 hg_wk h_14 hr_wk h_25 h_26 h_132 h_140 h_142 h_144 h_145 h_147 h_148 h_150 h_151 h_152 h_154 h_155 h_156 h_158 h_159 h_160 h_162 h_163 h_166 h_167 h_173 h_174 h_175 h_176 h_177 h_172 h_182 h_183 h_184 h_185 h_181 h_194 h_204 h_205 h_206 h_207 h_208 h_209 h_210 h_211 h_212 h_222 h_223 h_224 h_225 h_226 h_227 h_228 h_229 h_230 h_203; omega) | omega) (Or.inl (by first | (clear ha1 hq0 h_1 hg_t9 h_2 hr_t9 h_3 hg_n0 h_4 hr_n0 h_5 hg_n1 h_6 hr_n1 h_7 hg_n2 h_8 hr_n2 h_9 hg_n3 h_10 hr_n3 h_11 hg_im h_12 hr_im h_13 hg_wk h_14 hr_wk h_25 h_26 h_132 h_140 h_142 h_144 h_145 h_147 h_148 h_150 h_151 h_152 h_154 h_155 h_156 h_158 h_159 h_160 h_162 h_163 h_166 h_167 h_173 h_174 h_175 h_176 h_177 h_172 h_182 h_183 h_184 h_185 h_181 h_194 h_204 h_205 h_206 h_207 h_208 h_209 h_210 h_211 h_212 h_222 h_223 h_224 h_225 h_226 h_227 h_228 h_229 h_230 h_231 h_221 h_203; omega) | omega)) (by first | (clear ha1 hq0 h_1 hg_t9 h_2 hr_t9 h_3 hg_n0 h_4 hr_n0 h_5 hg_n1 h_6 hr_n1 h_7 hg_n2 h_8 hr_n2 h_9 hg_n3 h_10 hr_n3 h_11 hg_im h_12 hr_im h_13 hg_wk h_14 hr_wk h_25 h_26 h_132 h_141 h_142 h_144 h_145 h_147 h_148 h_150 h_151 h_152 h_154 h_155 h_156 h_158 h_159 h_160 h_162 h_163 h_164 h_165 h_173 h_174 h_175 h_176 h_177 h_172 h_182 h_183 h_184 h_185 h_181 h_194 h_204 h_205 h_206 h_207 h_208 h_209 h_210 h_211 h_212 h_222 h_223 h_224 h_225 h_226 h_228 h_229 h_230 h_231 h_203; omega) | omega)

set_option maxRecDepth 100000 in
set_option maxHeartbeats 4000000 in
theorem s_202cx {sc : List Int32} {d P Q : Nat} {c : ME} {Z : AR → Prop} (hI : Iv 0 (-1) P Q c) (hq0 : (c 41 35 ≤ 15)) (hq1 : (((c 41 34) % 5) = 0)) (hq2 : (c 41 34 ≤ 250)) (K : ∀ (c2 : ME) (y : Int), Iv 0 (-1) P Q c2 → (∀ (a : Nat) (j : Int), ¬ ((a = 41 ∧ j = 35) ∨ (a = 41 ∧ j = 36) ∨ (a = 41 ∧ j = 37) ∨ (a = 41 ∧ j = 38) ∨ (a = 41 ∧ j = 39) ∨ a = 58 ∨ a = 59 ∨ a = 54 ∨ a = 55) → c2 a j = c a j) → (-2147483648) ≤ y ∧ y ≤ 2147483647 → ((c2 41 35 = c 41 35 + 1)) → Z (.inl (some (vi y)), Wd P Q P P c2, 0, 0)) : Wp sc (d + 67) 202 155 [(0, .ref 41)] [] (Wd P Q P P c) 0 0 Z := by
  have hP := iv_P hI
  have hQ := iv_Q hI
  have h_1 := ir_41_35 hI
  have h_2 := ir_41_34 hI
  refine q_aload_n c_202_155 rfl (q_dup c_202_156 rfl (v_gi (z := 35) (v := c 41 35) c_202_157 kf_8_182 rfl (Nat.le_of_ble_eq_true rfl) rfl rfl rfl (q_iconst c_202_160 (v_iadd (v := c 41 35 + 1) c_202_161 rfl (v_pi (z := 35) c_202_162 kf_8_182 rfl (Nat.le_of_ble_eq_true rfl) rfl rfl rfl (by decide) (q_aload_n c_202_165 rfl ?_))))))
  have hI_3 := iw_41_35 (v := c 41 35 + 1) hI ⟨by first | exact rgp_l h_1.1 (by decide) | omega, by first | exact q_f67065af8 hq0 | omega⟩
  refine v_cv c_202_166 km_8_317 rfl rfl (Nat.le_of_ble_eq_true rfl) ⟨⟨rfl, rfl⟩, Nat.le_of_ble_eq_true rfl, rfl⟩ (Nat.le_of_ble_eq_true rfl) (Nat.le_of_ble_eq_true rfl) (s_186 hI_3 (fun c_4 hI_5 hF_6 => (bk_inl (q_aload_n c_202_169 rfl (q_iconst c_202_170 (v_pi (z := 37) c_202_171 kf_8_320 rfl (Nat.le_of_ble_eq_true rfl) rfl rfl rfl (by decide) (q_aload_n c_202_174 rfl (q_iconst c_202_175 (v_pi (z := 38) c_202_176 kf_8_323 rfl (Nat.le_of_ble_eq_true rfl) rfl rfl rfl (by decide) ?_)))))))))
  refine q_aload_n c_202_179 rfl (q_iconst c_202_180 (v_pi (z := 39) c_202_181 kf_8_326 rfl (Nat.le_of_ble_eq_true rfl) rfl rfl rfl (by decide) (q_aload_n c_202_184 rfl (q_iconst c_202_185 (q_aload_n c_202_186 rfl ?_)))))
  have kn_7 : Hid (c_4 41 34 = c 41 34) := (hF_6 41 34 (fun h => absurd h (nn rfl))).trans (up_n (by decide))
  refine v_gi (z := 34) (v := c 41 34) c_202_187 kf_8_284 rfl (Nat.le_of_ble_eq_true rfl) rfl rfl ((up_n (by decide)).trans ((up_n (by decide)).trans ((up_n (by decide)).trans (hid kn_7)))) ?_
  have hI_8 := iw_41_37 (v := 0) hI_5 ⟨by decide, by decide⟩
  have hI_9 := iw_41_38 (v := 0) hI_8 ⟨by decide, by decide⟩
  have hI_10 := iw_41_39 (v := 0) hI_9 ⟨by decide, by decide⟩
  have h_11 : (up (up (up c_4 41 37 0) 41 38 0) 41 39 0) 41 37 = 0 := ((up_n (by decide)).trans ((up_n (by decide)).trans (up_e rfl)))
  refine v_cv c_202_190 km_8_329 rfl rfl (Nat.le_of_ble_eq_true rfl) ⟨⟨rfl, rfl⟩, Nat.le_of_ble_eq_true rfl, rfl⟩ (Nat.le_of_ble_eq_true rfl) (Nat.le_of_ble_eq_true rfl) (r_201 (t := 0) (a2 := c 41 34) hI_10 (show 0 ≤ 0 ∧ 0 ≤ 50 from by omega) (show 0 ≤ c 41 34 ∧ c 41 34 ≤ 250 from h_2) (fun c_12 hI_13 hF_14 h_15 => (bk_inl ?_)))
  have h_16 := ir_41_37 hI_13
  refine q_aload_n c_202_193 rfl (q_aload_n c_202_194 rfl (v_gr (t := 59) c_202_195 kf_8_68 rfl (Nat.le_of_ble_eq_true rfl) rfl (q_aload_n c_202_198 rfl (v_gr (t := 58) c_202_199 kf_8_65 rfl (Nat.le_of_ble_eq_true rfl) rfl (v_bip c_202_202 (by decide) (v_cv c_202_204 km_8_169 rfl rfl (Nat.le_of_ble_eq_true rfl) ⟨⟨rfl, rfl⟩, Nat.le_of_ble_eq_true rfl, rfl⟩ (Nat.le_of_ble_eq_true rfl) (Nat.le_of_ble_eq_true rfl) (s_148 (f := 59) (t := 58) (nf := 37) (nt := 37) (n := 37) rfl rfl (by decide) (by decide) (by decide) (by decide) (by decide) (by omega) (bk_inl ?_))))))))
  refine q_aload_n c_202_207 rfl (q_aload_n c_202_208 rfl ?_)
  have h_17 := ir_41_39 hI_13
  refine v_gi (z := 39) (v := c_12 41 39) c_202_209 kf_8_326 rfl (Nat.le_of_ble_eq_true rfl) rfl rfl (upc_c (by omega)) (v_pi (z := 36) c_202_212 kf_8_188 rfl (Nat.le_of_ble_eq_true rfl) rfl rfl rfl (by decide) (q_aload_n c_202_215 rfl ?_))
  have h_18 := ir_41_38 hI_13
  refine v_gi (z := 38) (v := c_12 41 38) c_202_216 kf_8_323 rfl (Nat.le_of_ble_eq_true rfl) rfl rfl ((up_n (by decide)).trans (upc_c (by omega))) (q_iret c_202_219 rfl ?_)
  have hI_19 := cp_59_58 hI_13
  have hI_20 := iw_41_36 (v := c_12 41 39) hI_19 ⟨h_17.1, h_17.2⟩
  have kn_21 : Hid (c_4 41 35 = c 41 35 + 1) := (hF_6 41 35 (fun h => absurd h (nn rfl))).trans (up_e rfl)
  have kn_22 : Hid (c_12 41 35 = c 41 35 + 1) := (hF_14 41 35 qn_87df51461).trans ((up_n (by decide)).trans ((up_n (by decide)).trans ((up_n (by decide)).trans (hid kn_21))))
  have h_23 : (up (upc c_12 59 0 58 0 37) 41 36 (c_12 41 39)) 41 35 = c 41 35 + 1 := ((up_n (by decide)).trans ((upc_c (by omega)).trans (hid kn_22)))
  exact K (up (upc c_12 59 0 58 0 37) 41 36 (c_12 41 39)) (c_12 41 38) hI_20 (fun a j hm => (up_b (Decidable.or_iff_not_imp_left.mpr (fun h1 h2 => hm (Or.inr (Or.inl ⟨Decidable.not_not.mp h1, h2⟩))))).trans ((upc_c (fun h => hm (Or.inr (Or.inr (Or.inr (Or.inr (Or.inr (Or.inl h)))))))).trans ((hF_14 a j (qv_c2f2b1db7 hm)).trans ((up_b (Decidable.or_iff_not_imp_left.mpr (fun h1 h2 => hm (Or.inr (Or.inr (Or.inr (Or.inr (Or.inl ⟨Decidable.not_not.mp h1, h2⟩)))))))).trans ((up_b (Decidable.or_iff_not_imp_left.mpr (fun h1 h2 => hm (Or.inr (Or.inr (Or.inr (Or.inl ⟨Decidable.not_not.mp h1, h2⟩))))))).trans ((up_b (Decidable.or_iff_not_imp_left.mpr (fun h1 h2 => hm (Or.inr (Or.inr (Or.inl ⟨Decidable.not_not.mp h1, h2⟩)))))).trans ((hF_6 a j (fun h => hm (Or.inr (Or.inr (Or.inr (Or.inr (Or.inr (Or.inr (Or.inl h))))))))).trans (up_b (Decidable.or_iff_not_imp_left.mpr (fun h1 h2 => hm (Or.inl ⟨Decidable.not_not.mp h1, h2⟩))))))))))) h_18 (by first | exact q_17ab3fb37 | omega)

set_option maxRecDepth 100000 in
set_option maxHeartbeats 4000000 in
theorem s_202bx_l {sc : List Int32} {d P Q : Nat} {c : ME} {Z : AR → Prop} (hI : Iv 60 (-1) P Q c) (hq0 : (c 41 35 ≤ 15)) (hq1 : (((c 41 34) % 5) = 0)) (hq2 : (c 41 34 ≤ 250)) (hq3 : ∀ j : Int, rs 60 j → c 60 j + c 60 (j + 1) + c 60 (j + 2) + c 60 (j + 3) ≤ 9999) (K : ∀ (c2 : ME) (y : Int), Iv 0 (-1) P Q c2 → (∀ (a : Nat) (j : Int), ¬ ((a = 41 ∧ j = 35) ∨ (a = 41 ∧ j = 36) ∨ (a = 41 ∧ j = 37) ∨ (a = 41 ∧ j = 38) ∨ (a = 41 ∧ j = 39) ∨ a = 58 ∨ a = 59 ∨ a = 54 ∨ a = 55 ∨ a = 60) → c2 a j = c a j) → (-2147483648) ≤ y ∧ y ≤ 2147483647 → ((c2 41 35 = c 41 35 + 1)) → Z (.inl (some (vi y)), Wd P Q P P c2, 0, 0)) : ∀ n : Nat, (∀ (c2 : ME) (v3 : Int), Iv 60 (-1) P Q c2 → (∀ (a : Nat) (j : Int), ¬ (a = 60) → c2 a j = c a j) → 0 ≤ v3 ∧ v3 ≤ 37 → (∀ j : Int, 0 ≤ j → j < v3 → c2 60 (37 * c 41 35 + j) = c 58 j) → (∀ j : Int, ¬ (37 * c 41 35 ≤ j ∧ j < 37 * c 41 35 + 37) → c2 60 j = c 60 j) → 75 - 2 * v3 < (n : Int) → Wp sc (d + 67) 202 123 [(0, .ref 41), (3, vi v3)] [] (Wd P Q P P c2) 0 0 Z)
  | 0 => by intro c2 v3 hI2 hF hv3 hx0 hx1 hm9; have hP := iv_P hI; have hQ := iv_Q hI; exfalso; omega
  | n + 1 => by
    have hP := iv_P hI
    have hQ := iv_Q hI
    have ih := s_202bx_l (sc := sc) (d := d) hI hq0 hq1 hq2 hq3 K n
    intro c2 v3 hI2 hF hv3 hx0 hx1 hm9
    have h_1 := ir_41_35 hI
    have h_2 := ir_41_34 hI
    refine q_iload_n c_202_123 rfl (v_bip c_202_124 (by decide) ?_)
    by_cases h_3 : v3 ≥ 37
    · refine v_ic_ge_t (t := 155) c_202_126 rfl ⟨by decide, h_3, (Int.le_trans hv3.2 (by decide))⟩ (Wp_ls [(0, .ref 41)] (lsub_cons rfl lsub_nil) ?_)
      have hc9 : Iv 0 (-1) P Q c2 := iv_close hI2 (fun j hj => by
        by_cases q9 : 37 * c 41 35 ≤ j ∧ j < 37 * c 41 35 + 37
        · rw [ri_60] at hj
          have h8 : j / 37 = c 41 35 := by omega
          obtain ⟨i9, hi9⟩ : ∃ i : Int, j = 37 * c 41 35 + i := ⟨j - 37 * c 41 35, by omega⟩
          subst hi9
          rw [show 37 * c 41 35 + i9 + 1 = 37 * c 41 35 + (i9 + 1) by omega, show 37 * c 41 35 + i9 + 2 = 37 * c 41 35 + (i9 + 2) by omega, show 37 * c 41 35 + i9 + 3 = 37 * c 41 35 + (i9 + 3) by omega, hx0 i9 (by omega) (by omega), hx0 (i9 + 1) (by omega) (by omega), hx0 (i9 + 2) (by omega) (by omega), hx0 (i9 + 3) (by omega) (by omega)]
          exact iv_r hI 58 i9 (by rw [ri_58]; omega) (by omega)
        · have hj9 := hj
          rw [ri_60] at hj9
          have h7 : ¬ j / 37 = c 41 35 := by omega
          rw [hx1 j q9, hx1 (j + 1) (by omega), hx1 (j + 2) (by omega), hx1 (j + 3) (by omega)]
          exact hq3 j hj)
      exact s_202cx hc9 (by rw [hF 41 35 (by omega)]; omega) (by rw [hF 41 34 (by omega)]; omega) (by rw [hF 41 34 (by omega)]; omega) (fun c9 y9 hI9 hF9 hy9 hp9 => K c9 y9 hI9 (fun a j hm => (hF9 a j (by omega)).trans (hF a j (by omega))) hy9 (by rw [hp9, hF 41 35 (by omega)]))
    · refine v_ic_ge_f (t := 155) c_202_126 rfl ⟨(Int.le_trans (by decide) hv3.1), (Int.not_le.mp h_3), by decide⟩ (q_aload_n c_202_129 rfl (v_gr (t := 60) c_202_130 kf_8_71 rfl (Nat.le_of_ble_eq_true rfl) rfl (v_bip c_202_133 (by decide) (q_aload_n c_202_135 rfl ?_))))
      have kn_4 : Hid (c2 41 35 = c 41 35) := hF 41 35 (fun h => absurd h (nn rfl))
      refine v_gi (z := 35) (v := c 41 35) c_202_136 kf_8_182 rfl (Nat.le_of_ble_eq_true rfl) rfl rfl (hid kn_4) (v_imul (v := 37 * c 41 35) c_202_139 (by omega) (q_iload_n c_202_140 rfl (v_iadd (v := 37 * c 41 35 + v3) c_202_141 rfl (q_aload_n c_202_142 rfl (v_gr (t := 58) c_202_143 kf_8_65 rfl (Nat.le_of_ble_eq_true rfl) rfl (q_iload_n c_202_146 rfl ?_))))))
      have h_5 := ir_58 hI v3
      have kn_6 : Hid (c2 58 v3 = c 58 v3) := hF 58 v3 (fun h => absurd h (nn rfl))
      refine v_ia (v := c 58 v3) c_202_147 rfl (by decide) (by decide) ⟨hv3.1, by first | exact q_3cc4a238e h_3 | omega⟩ (hid kn_6) (v_is c_202_148 rfl (by decide) (by decide) ⟨by first | exact q_6c1724e14 h_1 hv3 | omega, by first | exact q_d8bb91acd h_3 hq0 | omega⟩ (v_iinc (v := v3 + 1) c_202_149 rfl (Nat.le_of_ble_eq_true rfl) rfl (q_goto (t := 123) c_202_152 rfl ?_)))
      have hI_7 := iw_60 (j := 37 * c 41 35 + v3) (v := c 58 v3) hI2 (fun h9 => ir_58_g hI (by omega)) ⟨by omega, by omega⟩
      refine Wp_ls [(0, .ref 41), (3, vi (v3 + 1))] (lsub_cons rfl (lsub_cons rfl lsub_nil)) ?_
      have hr_8 : ∀ j : Int, 0 ≤ j → j < v3 + 1 → (up c2 60 (37 * c 41 35 + v3) (c 58 v3)) 60 (37 * c 41 35 + j) = c 58 j := by
        intro j hj1 hj2
        by_cases e9 : j = v3
        · rw [show (up c2 60 (37 * c 41 35 + v3) (c 58 v3)) 60 (37 * c 41 35 + j) = c 58 v3 from up_e (by omega), e9]
        · rw [show (up c2 60 (37 * c 41 35 + v3) (c 58 v3)) 60 (37 * c 41 35 + j) = c2 60 (37 * c 41 35 + j) from up_n (by omega)]; exact hx0 j hj1 (by omega)
      have hr_9 : ∀ j : Int, ¬ (37 * c 41 35 ≤ j ∧ j < 37 * c 41 35 + 37) → (up c2 60 (37 * c 41 35 + v3) (c 58 v3)) 60 j = c 60 j := by
        intro j hj1
        rw [show (up c2 60 (37 * c 41 35 + v3) (c 58 v3)) 60 j = c2 60 j from up_n (by omega)]; exact hx1 j hj1
      exact ih (up c2 60 (37 * c 41 35 + v3) (c 58 v3)) (v3 + 1) hI_7 (fun a j hm => (up_b (Decidable.or_iff_not_imp_left.mpr (fun h1 h2 => hm (Decidable.not_not.mp h1)))).trans (hF a j hm)) ⟨by first | exact rgp_l hv3.1 (by decide) | omega, by first | exact q_6a0ddf4b6 h_3 | omega⟩ hr_8 hr_9 (by omega)
set_option maxRecDepth 100000 in
set_option maxHeartbeats 4000000 in
theorem s_202bx {sc : List Int32} {d P Q : Nat} {c : ME} {Z : AR → Prop} (hI : Iv 60 (-1) P Q c) (hq0 : (c 41 35 ≤ 15)) (hq1 : (((c 41 34) % 5) = 0)) (hq2 : (c 41 34 ≤ 250)) (hq3 : ∀ j : Int, rs 60 j → c 60 j + c 60 (j + 1) + c 60 (j + 2) + c 60 (j + 3) ≤ 9999) (K : ∀ (c2 : ME) (y : Int), Iv 0 (-1) P Q c2 → (∀ (a : Nat) (j : Int), ¬ ((a = 41 ∧ j = 35) ∨ (a = 41 ∧ j = 36) ∨ (a = 41 ∧ j = 37) ∨ (a = 41 ∧ j = 38) ∨ (a = 41 ∧ j = 39) ∨ a = 58 ∨ a = 59 ∨ a = 54 ∨ a = 55 ∨ a = 60) → c2 a j = c a j) → (-2147483648) ≤ y ∧ y ≤ 2147483647 → ((c2 41 35 = c 41 35 + 1)) → Z (.inl (some (vi y)), Wd P Q P P c2, 0, 0)) : Wp sc (d + 67) 202 121 [(0, .ref 41)] [] (Wd P Q P P c) 0 0 Z := by
  have hP := iv_P hI
  have hQ := iv_Q hI
  have h_10 := ir_41_35 hI
  have h_11 := ir_41_34 hI
  refine q_iconst c_202_121 (q_istore_n c_202_122 (Nat.le_of_ble_eq_true rfl) (Wp_ls [(0, .ref 41), (3, vi 0)] (lsub_cons rfl (lsub_cons rfl lsub_nil)) ?_))
  have hr_12 : ∀ j : Int, 0 ≤ j → j < 0 → c 60 (37 * c 41 35 + j) = c 58 j := by
    intro j hj1 hj2
    omega
  have hr_13 : ∀ j : Int, ¬ (37 * c 41 35 ≤ j ∧ j < 37 * c 41 35 + 37) → c 60 j = c 60 j := by
    intro j hj1
    rfl
  exact (s_202bx_l (sc := sc) (d := d) hI hq0 hq1 hq2 hq3 K 78) c 0 hI (fun a j hm => rfl) ⟨by decide, by decide⟩ hr_12 hr_13 (by omega)

set_option maxRecDepth 100000 in
set_option maxHeartbeats 4000000 in
theorem L_38 {sc : List Int32} {e eg : Int} {d dh u ug P Q P2 Q2 : Nat} {c m m9 : ME} {yg e1 a9 f0 : Int} {F H : Int → Int} {Z : AR → Prop} (hI : Iv u e P2 Q2 c) (hJ : Iv ug eg P Q m) (hJ9 : Iv ug eg P Q m9) (hyg : 0 ≤ yg ∧ yg ≤ 999) (hg_e1 : m 1 1 = e1) (hr_e1 : c 41 3 = e1) (hg_a9 : m 1 2 = a9) (hg_f0 : m 1 4 = f0) (hF : ∀ j : Int, m 2 j = F j) (hH : ∀ j : Int, c 43 j = H j) (hU : Ub F H) (hRt : Rt m c) (hG : Wp sc (dh + 16) 38 0 [(0, .ref 1)] [] (Wd P Q P P m) 0 0 (fun q => q = (.inl (some (vi yg)), Wd P Q P P m9, 0, 0))) (K : ∀ (c2 : ME) (y : Int), Iv u e P2 Q2 c2 → (∀ (a : Nat) (j : Int), ¬ ((a = 41 ∧ j = 4) ∨ (a = 41 ∧ j = 5) ∨ (a = 41 ∧ j = 6)) → c2 a j = c a j) → 0 ≤ y ∧ y ≤ 9999 → (Rt m9 c2) → ((y = yg)) → ((m9 1 4 < 0) ∨ (m9 1 4 > 0) ∨ (m9 1 2 > a9 ∧ m9 1 2 ≤ e1)) → ((m9 1 4 < 0) ∨ (m9 1 4 > 0) ∨ (f0 = 0)) → ((m9 1 4 < 0) ∨ (m9 1 4 > 0) ∨ (y ≥ 1)) → Z (.inl (some (vi y)), Wd P2 Q2 P2 P2 c2, 0, 0)) : Wp sc (d + 14) 160 0 [(0, .ref 41), (1, vi 1), (2, vi 999)] [] (Wd P2 Q2 P2 P2 c) 0 0 Z := by
  have hP := iv_P hJ
  have hQ := iv_Q hJ
  have h_1 := ir_1_1 hJ
  have h_2 := ir_41_3 hI
  have h_3 := ir_1_2 hJ
  have h_4 := ir_1_4 hJ
  refine gh hG ?_
  by_cases hs9 : m 1 4 = 0
  · skip
    have hs8 := (rt_ok hRt hs9).2.2.2
    refine q_aload_n c_38_0 rfl ?_
    have h_5 : -2147483648 ≤ (F a9) ∧ (F a9) ≤ 2147483647 := by rw [← hF a9]; exact ir_2 hJ a9
    have h_6 := nx_bd (b := F) (e := e1) (a := a9)
    have h_7 : -2147483648 ≤ (F (nx F e1 a9)) ∧ (F (nx F e1 a9)) ≤ 2147483647 := by rw [← hF (nx F e1 a9)]; exact ir_2 hJ (nx F e1 a9)
    have h_8 := nx_n (b := F) (e := e1) (a := a9)
    refine v_cv c_38_1 km_3_42 rfl rfl (Nat.le_of_ble_eq_true rfl) ⟨⟨rfl, rfl⟩, Nat.le_of_ble_eq_true rfl, rfl⟩ (Nat.le_of_ble_eq_true rfl) (Nat.le_of_ble_eq_true rfl) (f_3 (e1 := e1) (a9 := a9) (B := F) (r8 := (nx F e1 a9)) hJ ((hg_e1)) ((hg_a9)) (fun j => hF j) rfl (fun c_9 hI_10 hF_11 hz_12 => (bk_inl (q_istore_n c_38_4 (Nat.le_of_ble_eq_true rfl) (q_aload_n c_38_5 rfl (v_sip c_38_6 (by decide) ?_))))))
    have kn_13 : Hid (c_9 1 1 = e1) := (hF_11 1 1 (fun h => absurd h.2 (ni rfl))).trans (hg_e1)
    have kn_14 : Hid (c_9 1 4 = 0) := (hF_11 1 4 (fun h => absurd h.2 (ni rfl))).trans (hs9)
    have kn_15 : Hid (c_9 1 5 = (-1)) := (hF_11 1 5 (fun h => absurd h.2 (ni rfl))).trans (hs8)
    have h_16 := dg_bd (b := F) (e := e1) (a := (nx F e1 a9)) (v := 0) (by decide)
    have h_17 := dg_p (b := F) (e := e1) (a := (nx F e1 a9)) (v := 0) (by decide)
    refine v_cv c_38_9 km_3_73 rfl rfl (Nat.le_of_ble_eq_true rfl) ⟨⟨rfl, rfl⟩, Nat.le_of_ble_eq_true rfl, rfl⟩ (Nat.le_of_ble_eq_true rfl) (Nat.le_of_ble_eq_true rfl) (f_8 (a1 := 999) (e1 := e1) (a9 := (nx F e1 a9)) (f9 := 0) (p9 := (-1)) (B := F) (r8 := (nx F e1 a9)) (D8 := (dg F e1 (nx F e1 a9) 0).1) (V8 := (dg F e1 (nx F e1 a9) 0).2) hI_10 (show (-1) ≤ 999 ∧ 999 ≤ 9999 from ⟨by decide, by decide⟩) ((hid kn_13)) ((hz_12)) ((hid kn_14)) ((hid kn_15)) (fun j => (hF_11 2 j (fun h => absurd h.1 (nn rfl))).trans (hF j)) (nx_z (by omega)) rfl rfl (fun c_18 hI_19 hF_20 h_21 hz_22 hz_23 hz_24 => by exfalso; first | (clear h_1 hg_e1 h_2 hr_e1 h_3 hg_a9 h_4 hg_f0 h_5 h_6 h_7 h_16 h_8 h_17; omega) | omega) (fun c_25 hI_26 hF_27 h_28 h_29 hz_30 hz_31 hz_32 => ?_) (fun c_33 hI_34 hF_35 h_36 h_37 h_38 hz_39 hz_40 hz_41 => ?_) (fun c_42 hI_43 hF_44 h_45 h_46 h_47 hz_48 hz_49 hz_50 => ?_))
    · skip
      refine bk_inl (q_istore_n c_38_12 (Nat.le_of_ble_eq_true rfl) (q_iload_n c_38_13 rfl (v_if_ne_f (t := 23) c_38_14 rfl (by decide) (q_aload_n c_38_17 rfl (q_iconst c_38_18 (q_iload_n c_38_19 rfl (v_cv c_38_20 km_3_51 rfl rfl (Nat.le_of_ble_eq_true rfl) ⟨⟨rfl, rfl⟩, Nat.le_of_ble_eq_true rfl, rfl⟩ (Nat.le_of_ble_eq_true rfl) (Nat.le_of_ble_eq_true rfl) ?_)))))))
      refine q_aload_n c_7_0 rfl (v_gi (z := 4) (v := 1) c_7_1 kf_5_38 rfl (Nat.le_of_ble_eq_true rfl) rfl rfl (hz_31) (v_if_ne_t (t := 17) c_7_4 rfl (by decide) (q_vret c_7_17 rfl (bk_inl (q_iload_n c_38_23 rfl (q_iret c_38_24 rfl ?_))))))
      intro hE_51
      have h_52 : yg = 0 := (vi_inj ⟨by omega, by omega⟩ ⟨by omega, by omega⟩ (Option.some.inj (Sum.inl.inj (Prod.mk.inj hE_51).1))).symm
      have hW : Wd P Q P P c_25 = Wd P Q P P m9 := (Prod.mk.inj (Prod.mk.inj hE_51).2).1
      have h_53 := ir_1_4 hJ9
      have h_54 : m9 1 4 = 1 := wd_fv (z := 4) 4 rfl hW rfl rfl rfl rfl (by decide) (hz_31) ⟨by decide, by decide⟩ ⟨(Int.le_trans (by decide) h_53.1), (Int.le_trans h_53.2 (by decide))⟩
      have h_55 := ir_1_2 hJ9
      have h_56 : m9 1 2 = (nx F e1 a9) := wd_fv (z := 2) 2 rfl hW rfl rfl rfl rfl (by decide) (hz_30) ⟨by first | exact q_a3bce4abb h_3 h_6 hg_a9 | (clear h_1 hg_e1 h_2 hr_e1 h_4 hg_f0 h_5 h_7 h_16 h_28 h_52 h_53 h_54 h_55 h_8 h_17 h_29; omega) | omega, by first | exact q_b3bd846dd h_2 h_3 h_6 hg_a9 hr_e1 | (clear h_1 hg_e1 h_4 hg_f0 h_5 h_7 h_16 h_28 h_52 h_53 h_54 h_55 h_8 h_17 h_29; omega) | omega⟩ ⟨(Int.le_trans (by decide) h_55.1), (Int.le_trans h_55.2 (by decide))⟩
      have h_57 := ir_1_5 hJ9
      have h_58 : m9 1 5 = (nx F e1 a9) := wd_fv (z := 5) 5 rfl hW rfl rfl rfl rfl (by decide) (hz_32) ⟨by first | exact q_17990f574 h_55 h_56 | (clear h_1 hg_e1 h_2 hr_e1 h_3 hg_a9 h_4 hg_f0 h_5 h_6 h_7 h_16 h_28 h_52 h_53 h_54 h_57 h_8 h_17 h_29; omega) | omega, by first | exact q_757c304f4 h_55 h_56 | (clear h_1 hg_e1 h_2 hr_e1 h_3 hg_a9 h_4 hg_f0 h_5 h_6 h_7 h_16 h_28 h_52 h_53 h_54 h_57 h_8 h_17 h_29; omega) | omega⟩ ⟨(Int.le_trans (by decide) h_57.1), (Int.le_trans h_57.2 (by decide))⟩
      have h_59 := ir_41_4 hI
      have h_60 := ir_1_5 hJ
      have h_61 := ir_41_5 hI
      have h_62 := ir_41_6 hI
      have h_63 := rt_ok hRt (by first | (clear h_1 hg_e1 h_2 hr_e1 h_3 hg_a9 hg_f0 h_5 h_6 h_7 h_16 h_28 h_52 h_53 h_54 h_55 h_56 h_57 h_58 h_59 h_60 h_61 h_62 h_8 h_17 h_29; omega) | omega)
      have hro_hRt := rt_ok hRt (by first | decide | (clear h_1 hg_e1 h_2 hr_e1 h_3 hg_a9 h_4 hg_f0 h_5 h_6 h_7 h_16 h_28 h_52 h_53 h_54 h_55 h_56 h_57 h_58 h_59 h_60 h_61 h_62 h_63 h_8 h_17 h_29; omega) | omega)
      have h_71 : -2147483648 ≤ (H (nx F e1 a9)) ∧ (H (nx F e1 a9)) ≤ 2147483647 := by rw [← hH (nx F e1 a9)]; exact ir_43 hI (nx F e1 a9)
      have h_72 : (nx F e1 a9) < 600 → (H (nx F e1 a9)) = (F (nx F e1 a9)) % 256 ∧ -128 ≤ (F (nx F e1 a9)) ∧ (F (nx F e1 a9)) ≤ 127 := fun q => hU (nx F e1 a9) (by omega) q
      refine f_160 (a1 := 1) (a2 := 999) (e1 := e1) (a9 := a9) (f9 := (-1)) (k9 := c 41 6) (B := H) (r8 := (nx F e1 a9)) (D8 := (dg F e1 (nx F e1 a9) 0).1) (V8 := (dg F e1 (nx F e1 a9) 0).2) hI (show 0 ≤ 1 ∧ 1 ≤ 1 from ⟨by decide, by decide⟩) (show (-1) ≤ 999 ∧ 999 ≤ 9999 from ⟨by decide, by decide⟩) ((hr_e1)) (((hro_hRt.2.2.1).trans ((hg_a9)))) (hro_hRt.2.1) (rfl) (fun j => hH j) ((nx_tr hU ((rg_eq hg_a9 h_3).1) ((rg_eq hg_e1 h_1).2)).trans (rfl)) ((congrArg (fun q : Int × Int => q.1) (dg_tr hU (by omega) (by omega))).trans (rfl)) ((congrArg (fun q : Int × Int => q.2) (dg_tr hU (by omega) (by omega))).trans (rfl)) (fun c_64 hI_65 hF_66 h_67 hz_68 hz_69 hz_70 => by exfalso; first | (clear h_1 hg_e1 h_2 hr_e1 h_3 hg_a9 h_4 hg_f0 h_5 h_6 h_7 h_16 h_28 h_52 h_53 h_54 h_55 h_56 h_57 h_58 h_59 h_60 h_61 h_62 h_63 h_8 h_17 h_29; omega) | omega) (fun c_73 hI_74 hF_75 h_76 h_77 hz_78 hz_79 hz_80 => ?_) (fun c_81 hI_82 hF_83 h_84 h_85 h_86 hz_87 hz_88 hz_89 => by exfalso; omega) (fun c_90 hI_91 hF_92 h_93 h_94 h_95 h_96 hz_97 hz_98 hz_99 => by exfalso; omega)
      have h_100 : c_73 41 5 = (nx F e1 a9) := (hz_79)
      have h_101 : c_73 41 4 = (nx F e1 a9) := (hz_78)
      have h_102 : c_73 41 6 = 1 := (hz_80)
      exact K c_73 0 hI_74 (fun a j hm => hF_75 a j hm) ⟨by omega, by omega⟩ (rt_i2 ⟨⟨by first | exact q_5935f82f1 h_54 | (clear h_1 hg_e1 h_2 hr_e1 h_3 hg_a9 h_4 hg_f0 h_5 h_6 h_7 h_16 h_28 h_52 h_53 h_55 h_56 h_57 h_58 h_59 h_60 h_61 h_62 h_63 h_71 h_76 h_8 h_17 h_29 h_72 h_77; omega) | omega, by first | exact q_63461c6bf h_54 | (clear h_1 hg_e1 h_2 hr_e1 h_3 hg_a9 h_4 hg_f0 h_5 h_6 h_7 h_16 h_28 h_52 h_53 h_55 h_56 h_57 h_58 h_59 h_60 h_61 h_62 h_63 h_71 h_76 h_8 h_17 h_29 h_72 h_77; omega) | omega⟩, by first | exact q_88dc5fb99 h_58 | (clear h_1 hg_e1 h_2 hr_e1 h_3 hg_a9 h_4 hg_f0 h_5 h_6 h_7 h_16 h_28 h_52 h_53 h_54 h_55 h_56 h_57 h_59 h_60 h_61 h_62 h_63 h_71 h_76 h_8 h_17 h_29 h_72 h_77; omega) | omega, by first | exact q_a060fbdd4 h_55 h_56 h_58 | (clear h_1 hg_e1 h_2 hr_e1 h_3 hg_a9 h_4 hg_f0 h_5 h_6 h_7 h_16 h_28 h_52 h_53 h_54 h_57 h_59 h_60 h_61 h_62 h_63 h_71 h_76 h_8 h_17 h_29 h_72 h_77; omega) | omega, by first | exact q_69efb464e h_54 | (clear h_1 hg_e1 h_2 hr_e1 h_3 hg_a9 h_4 hg_f0 h_5 h_6 h_7 h_16 h_28 h_52 h_53 h_55 h_56 h_57 h_58 h_59 h_60 h_61 h_62 h_63 h_71 h_76 h_8 h_17 h_29 h_72 h_77; omega) | omega⟩) (by first | (clear h_1 hg_e1 h_2 hr_e1 h_3 hg_a9 h_4 hg_f0 h_5 h_6 h_7 h_16 h_28 h_53 h_54 h_55 h_56 h_57 h_58 h_59 h_60 h_61 h_62 h_63 h_71 h_76 h_8 h_17 h_29 h_72 h_77; omega) | omega) (Or.inr (Or.inl (by first | exact q_e2d2b4ae2 h_54 | (clear h_1 hg_e1 h_2 hr_e1 h_3 hg_a9 h_4 hg_f0 h_5 h_6 h_7 h_16 h_28 h_52 h_53 h_55 h_56 h_57 h_58 h_59 h_60 h_61 h_62 h_63 h_71 h_76 h_8 h_17 h_29 h_72 h_77; omega) | omega))) (Or.inr (Or.inl (by first | exact q_e2d2b4ae2 h_54 | (clear h_1 hg_e1 h_2 hr_e1 h_3 hg_a9 h_4 hg_f0 h_5 h_6 h_7 h_16 h_28 h_52 h_53 h_55 h_56 h_57 h_58 h_59 h_60 h_61 h_62 h_63 h_71 h_76 h_8 h_17 h_29 h_72 h_77; omega) | omega))) (Or.inr (Or.inl (by first | exact q_e2d2b4ae2 h_54 | (clear h_1 hg_e1 h_2 hr_e1 h_3 hg_a9 h_4 hg_f0 h_5 h_6 h_7 h_16 h_28 h_52 h_53 h_55 h_56 h_57 h_58 h_59 h_60 h_61 h_62 h_63 h_71 h_76 h_8 h_17 h_29 h_72 h_77; omega) | omega)))
    · skip
      refine bk_inl (q_istore_n c_38_12 (Nat.le_of_ble_eq_true rfl) (q_iload_n c_38_13 rfl (v_if_ne_f (t := 23) c_38_14 rfl (by decide) (q_aload_n c_38_17 rfl (q_iconst c_38_18 (q_iload_n c_38_19 rfl (v_cv c_38_20 km_3_51 rfl rfl (Nat.le_of_ble_eq_true rfl) ⟨⟨rfl, rfl⟩, Nat.le_of_ble_eq_true rfl, rfl⟩ (Nat.le_of_ble_eq_true rfl) (Nat.le_of_ble_eq_true rfl) ?_)))))))
      refine q_aload_n c_7_0 rfl (v_gi (z := 4) (v := 2) c_7_1 kf_5_38 rfl (Nat.le_of_ble_eq_true rfl) rfl rfl (hz_40) (v_if_ne_t (t := 17) c_7_4 rfl (by decide) (q_vret c_7_17 rfl (bk_inl (q_iload_n c_38_23 rfl (q_iret c_38_24 rfl ?_))))))
      intro hE_103
      have h_104 : yg = 0 := (vi_inj ⟨by omega, by omega⟩ ⟨by omega, by omega⟩ (Option.some.inj (Sum.inl.inj (Prod.mk.inj hE_103).1))).symm
      have hW : Wd P Q P P c_33 = Wd P Q P P m9 := (Prod.mk.inj (Prod.mk.inj hE_103).2).1
      have h_105 := ir_1_4 hJ9
      have h_106 : m9 1 4 = 2 := wd_fv (z := 4) 4 rfl hW rfl rfl rfl rfl (by decide) (hz_40) ⟨by decide, by decide⟩ ⟨(Int.le_trans (by decide) h_105.1), (Int.le_trans h_105.2 (by decide))⟩
      have h_107 := ir_1_2 hJ9
      have h_108 : m9 1 2 = (dg F e1 (nx F e1 a9) 0).1 := wd_fv (z := 2) 2 rfl hW rfl rfl rfl rfl (by decide) (hz_39) ⟨by first | (clear h_1 hg_e1 h_2 hr_e1 h_4 hg_f0 h_5 h_7 h_36 h_37 h_38 h_104 h_105 h_106 h_107 h_8 h_17; omega) | omega, by first | (clear h_3 hg_a9 h_4 hg_f0 h_5 h_6 h_7 h_36 h_38 h_104 h_105 h_106 h_107 h_8 h_17; omega) | omega⟩ ⟨(Int.le_trans (by decide) h_107.1), (Int.le_trans h_107.2 (by decide))⟩
      have h_109 := ir_1_5 hJ9
      have h_110 : m9 1 5 = (nx F e1 a9) := wd_fv (z := 5) 5 rfl hW rfl rfl rfl rfl (by decide) (hz_41) ⟨by first | exact q_a3bce4abb h_3 h_6 hg_a9 | (clear h_1 hg_e1 h_2 hr_e1 h_4 hg_f0 h_5 h_7 h_16 h_36 h_37 h_38 h_104 h_105 h_106 h_107 h_108 h_109 h_8 h_17; omega) | omega, by first | (clear h_2 hr_e1 h_3 hg_a9 h_4 hg_f0 h_5 h_6 h_7 h_16 h_36 h_38 h_104 h_105 h_106 h_107 h_108 h_109 h_8 h_17; omega) | omega⟩ ⟨(Int.le_trans (by decide) h_109.1), (Int.le_trans h_109.2 (by decide))⟩
      have h_111 := ir_41_4 hI
      have h_112 := ir_1_5 hJ
      have h_113 := ir_41_5 hI
      have h_114 := ir_41_6 hI
      have h_115 := rt_ok hRt (by first | (clear h_1 hg_e1 h_2 hr_e1 h_3 hg_a9 hg_f0 h_5 h_6 h_7 h_16 h_36 h_37 h_38 h_104 h_105 h_106 h_107 h_108 h_109 h_110 h_111 h_112 h_113 h_114 h_8 h_17; omega) | omega)
      have hro_hRt := rt_ok hRt (by first | decide | (clear h_1 hg_e1 h_2 hr_e1 h_3 hg_a9 h_4 hg_f0 h_5 h_6 h_7 h_16 h_36 h_37 h_38 h_104 h_105 h_106 h_107 h_108 h_109 h_110 h_111 h_112 h_113 h_114 h_115 h_8 h_17; omega) | omega)
      have h_123 : -2147483648 ≤ (H (nx F e1 a9)) ∧ (H (nx F e1 a9)) ≤ 2147483647 := by rw [← hH (nx F e1 a9)]; exact ir_43 hI (nx F e1 a9)
      have h_124 := hU (nx F e1 a9) (by first | exact q_828522d69 h_3 h_6 hg_a9 | (clear h_1 hg_e1 h_2 hr_e1 h_4 hg_f0 h_5 h_7 h_16 h_36 h_37 h_38 h_104 h_105 h_106 h_107 h_108 h_109 h_110 h_111 h_112 h_113 h_114 h_115 h_123 h_8 h_17; omega) | omega) (by first | (clear h_2 hr_e1 h_3 hg_a9 h_4 hg_f0 h_5 h_6 h_7 h_16 h_36 h_38 h_104 h_105 h_106 h_107 h_108 h_109 h_110 h_111 h_112 h_113 h_114 h_115 h_123 h_8 h_17; omega) | omega)
      refine f_160 (a1 := 1) (a2 := 999) (e1 := e1) (a9 := a9) (f9 := (-1)) (k9 := c 41 6) (B := H) (r8 := (nx F e1 a9)) (D8 := (dg F e1 (nx F e1 a9) 0).1) (V8 := (dg F e1 (nx F e1 a9) 0).2) hI (show 0 ≤ 1 ∧ 1 ≤ 1 from ⟨by decide, by decide⟩) (show (-1) ≤ 999 ∧ 999 ≤ 9999 from ⟨by decide, by decide⟩) ((hr_e1)) (((hro_hRt.2.2.1).trans ((hg_a9)))) (hro_hRt.2.1) (rfl) (fun j => hH j) ((nx_tr hU ((rg_eq hg_a9 h_3).1) ((rg_eq hg_e1 h_1).2)).trans (rfl)) ((congrArg (fun q : Int × Int => q.1) (dg_tr hU (by omega) (by omega))).trans (rfl)) ((congrArg (fun q : Int × Int => q.2) (dg_tr hU (by omega) (by omega))).trans (rfl)) (fun c_116 hI_117 hF_118 h_119 hz_120 hz_121 hz_122 => by exfalso; first | (clear h_1 hg_e1 h_2 hr_e1 h_3 hg_a9 h_4 hg_f0 h_5 h_6 h_7 h_16 h_36 h_37 h_38 h_104 h_105 h_106 h_107 h_108 h_109 h_110 h_111 h_112 h_113 h_114 h_115 h_8 h_17; omega) | omega) (fun c_125 hI_126 hF_127 h_128 h_129 hz_130 hz_131 hz_132 => by exfalso; omega) (fun c_133 hI_134 hF_135 h_136 h_137 h_138 hz_139 hz_140 hz_141 => ?_) (fun c_142 hI_143 hF_144 h_145 h_146 h_147 h_148 hz_149 hz_150 hz_151 => by exfalso; first | (clear h_1 hg_e1 h_2 hr_e1 h_3 hg_a9 h_4 hg_f0 h_5 h_6 h_7 h_16 h_36 h_37 h_104 h_105 h_106 h_107 h_108 h_109 h_110 h_111 h_112 h_113 h_114 h_115 h_123 h_124 h_8 h_17; omega) | omega)
      have h_152 : c_133 41 5 = (nx F e1 a9) := (hz_140)
      have h_153 : c_133 41 4 = (dg F e1 (nx F e1 a9) 0).1 := (hz_139)
      have h_154 : c_133 41 6 = 2 := (hz_141)
      exact K c_133 0 hI_134 (fun a j hm => hF_135 a j hm) ⟨by omega, by omega⟩ (rt_i2 ⟨⟨by first | exact q_254d2140e h_106 | (clear h_1 hg_e1 h_2 hr_e1 h_3 hg_a9 h_4 hg_f0 h_5 h_6 h_7 h_16 h_36 h_37 h_38 h_104 h_105 h_107 h_108 h_109 h_110 h_111 h_112 h_113 h_114 h_115 h_123 h_124 h_136 h_137 h_8 h_17 h_138; omega) | omega, by first | exact q_6ff6db68e h_106 | (clear h_1 hg_e1 h_2 hr_e1 h_3 hg_a9 h_4 hg_f0 h_5 h_6 h_7 h_16 h_36 h_37 h_38 h_104 h_105 h_107 h_108 h_109 h_110 h_111 h_112 h_113 h_114 h_115 h_123 h_124 h_136 h_137 h_8 h_17 h_138; omega) | omega⟩, by first | exact q_88dc5fb99 h_110 | (clear h_1 hg_e1 h_2 hr_e1 h_3 hg_a9 h_4 hg_f0 h_5 h_6 h_7 h_16 h_36 h_37 h_38 h_104 h_105 h_106 h_107 h_108 h_109 h_111 h_112 h_113 h_114 h_115 h_123 h_124 h_136 h_137 h_8 h_17 h_138; omega) | omega, by first | exact q_99ecb86e9 h_110 h_3 h_6 hg_a9 | (clear h_1 hg_e1 h_2 hr_e1 h_4 hg_f0 h_5 h_7 h_16 h_36 h_37 h_38 h_104 h_105 h_106 h_107 h_108 h_109 h_111 h_112 h_113 h_114 h_115 h_123 h_124 h_136 h_137 h_8 h_17 h_138; omega) | omega, by first | exact q_8af79aa5c h_106 | (clear h_1 hg_e1 h_2 hr_e1 h_3 hg_a9 h_4 hg_f0 h_5 h_6 h_7 h_16 h_36 h_37 h_38 h_104 h_105 h_107 h_108 h_109 h_110 h_111 h_112 h_113 h_114 h_115 h_123 h_124 h_136 h_137 h_8 h_17 h_138; omega) | omega⟩) (by first | (clear h_1 hg_e1 h_2 hr_e1 h_3 hg_a9 h_4 hg_f0 h_5 h_6 h_7 h_16 h_36 h_37 h_38 h_105 h_106 h_107 h_108 h_109 h_110 h_111 h_112 h_113 h_114 h_115 h_123 h_124 h_136 h_137 h_8 h_17 h_138; omega) | omega) (Or.inr (Or.inl (by first | exact q_8d38fc194 h_106 | (clear h_1 hg_e1 h_2 hr_e1 h_3 hg_a9 h_4 hg_f0 h_5 h_6 h_7 h_16 h_36 h_37 h_38 h_104 h_105 h_107 h_108 h_109 h_110 h_111 h_112 h_113 h_114 h_115 h_123 h_124 h_136 h_137 h_8 h_17 h_138; omega) | omega))) (Or.inr (Or.inl (by first | exact q_8d38fc194 h_106 | (clear h_1 hg_e1 h_2 hr_e1 h_3 hg_a9 h_4 hg_f0 h_5 h_6 h_7 h_16 h_36 h_37 h_38 h_104 h_105 h_107 h_108 h_109 h_110 h_111 h_112 h_113 h_114 h_115 h_123 h_124 h_136 h_137 h_8 h_17 h_138; omega) | omega))) (Or.inr (Or.inl (by first | exact q_8d38fc194 h_106 | (clear h_1 hg_e1 h_2 hr_e1 h_3 hg_a9 h_4 hg_f0 h_5 h_6 h_7 h_16 h_36 h_37 h_38 h_104 h_105 h_107 h_108 h_109 h_110 h_111 h_112 h_113 h_114 h_115 h_123 h_124 h_136 h_137 h_8 h_17 h_138; omega) | omega)))
    · skip
      refine bk_inl (q_istore_n c_38_12 (Nat.le_of_ble_eq_true rfl) (q_iload_n c_38_13 rfl ?_))
      by_cases h_155 : (dg F e1 (nx F e1 a9) 0).2 ≠ 0
      · refine v_if_ne_t (t := 23) c_38_14 rfl ⟨h_155, ⟨by first | (clear h_1 hg_e1 h_2 hr_e1 h_3 hg_a9 h_4 hg_f0 h_5 h_6 h_7 h_45 h_46 h_47 h_8 h_17; omega) | omega, by first | (clear h_1 hg_e1 h_2 hr_e1 h_3 hg_a9 h_4 hg_f0 h_5 h_6 h_7 h_16 h_45 h_46 h_8 h_17; omega) | omega⟩, by decide, by decide⟩ (q_iload_n c_38_23 rfl (q_iret c_38_24 rfl ?_))
        intro hE_156
        have h_157 : yg = (dg F e1 (nx F e1 a9) 0).2 := (vi_inj ⟨by omega, by omega⟩ ⟨by omega, by omega⟩ (Option.some.inj (Sum.inl.inj (Prod.mk.inj hE_156).1))).symm
        have hW : Wd P Q P P c_42 = Wd P Q P P m9 := (Prod.mk.inj (Prod.mk.inj hE_156).2).1
        have h_158 := ir_1_4 hJ9
        have h_159 : m9 1 4 = 0 := wd_fv (z := 4) 4 rfl hW rfl rfl rfl rfl (by decide) (hz_49) ⟨by decide, by decide⟩ ⟨(Int.le_trans (by decide) h_158.1), (Int.le_trans h_158.2 (by decide))⟩
        have h_160 := ir_1_2 hJ9
        have h_161 : m9 1 2 = (dg F e1 (nx F e1 a9) 0).1 := wd_fv (z := 2) 2 rfl hW rfl rfl rfl rfl (by decide) (hz_48) ⟨by first | (clear h_1 hg_e1 h_2 hr_e1 h_4 hg_f0 h_5 h_7 h_45 h_46 h_47 h_157 h_158 h_159 h_160 h_8 h_17 h_155; omega) | omega, by first | (clear h_1 hg_e1 h_3 hg_a9 h_4 hg_f0 h_5 h_6 h_7 h_45 h_47 h_157 h_158 h_159 h_160 h_8 h_17 h_155; omega) | omega⟩ ⟨(Int.le_trans (by decide) h_160.1), (Int.le_trans h_160.2 (by decide))⟩
        have h_162 := ir_1_5 hJ9
        have h_163 : m9 1 5 = (-1) := wd_fv (z := 5) 5 rfl hW rfl rfl rfl rfl (by decide) (hz_50) ⟨by decide, by decide⟩ ⟨(Int.le_trans (by decide) h_162.1), (Int.le_trans h_162.2 (by decide))⟩
        have h_164 := ir_41_4 hI
        have h_165 := ir_1_5 hJ
        have h_166 := ir_41_5 hI
        have h_167 := ir_41_6 hI
        have h_168 := rt_ok hRt (by first | (clear h_1 hg_e1 h_2 hr_e1 h_3 hg_a9 hg_f0 h_5 h_6 h_7 h_16 h_45 h_46 h_47 h_157 h_158 h_159 h_160 h_161 h_162 h_163 h_164 h_165 h_166 h_167 h_8 h_17 h_155; omega) | omega)
        have hro_hRt := rt_ok hRt (by first | decide | (clear h_1 hg_e1 h_2 hr_e1 h_3 hg_a9 h_4 hg_f0 h_5 h_6 h_7 h_16 h_45 h_46 h_47 h_157 h_158 h_159 h_160 h_161 h_162 h_163 h_164 h_165 h_166 h_167 h_168 h_8 h_17 h_155; omega) | omega)
        have h_176 : -2147483648 ≤ (H (nx F e1 a9)) ∧ (H (nx F e1 a9)) ≤ 2147483647 := by rw [← hH (nx F e1 a9)]; exact ir_43 hI (nx F e1 a9)
        have h_177 := hU (nx F e1 a9) (by first | exact q_828522d69 h_3 h_6 hg_a9 | (clear h_1 hg_e1 h_2 hr_e1 h_4 hg_f0 h_5 h_7 h_16 h_45 h_46 h_47 h_157 h_158 h_159 h_160 h_161 h_162 h_163 h_164 h_165 h_166 h_167 h_168 h_176 h_8 h_17 h_155; omega) | omega) (by first | (clear h_2 hr_e1 h_3 hg_a9 h_4 hg_f0 h_5 h_6 h_7 h_16 h_45 h_47 h_157 h_158 h_159 h_160 h_161 h_162 h_163 h_164 h_165 h_166 h_167 h_168 h_176 h_8 h_17 h_155; omega) | omega)
        refine f_160 (a1 := 1) (a2 := 999) (e1 := e1) (a9 := a9) (f9 := (-1)) (k9 := c 41 6) (B := H) (r8 := (nx F e1 a9)) (D8 := (dg F e1 (nx F e1 a9) 0).1) (V8 := (dg F e1 (nx F e1 a9) 0).2) hI (show 0 ≤ 1 ∧ 1 ≤ 1 from ⟨by decide, by decide⟩) (show (-1) ≤ 999 ∧ 999 ≤ 9999 from ⟨by decide, by decide⟩) ((hr_e1)) (((hro_hRt.2.2.1).trans ((hg_a9)))) (hro_hRt.2.1) (rfl) (fun j => hH j) ((nx_tr hU ((rg_eq hg_a9 h_3).1) ((rg_eq hg_e1 h_1).2)).trans (rfl)) ((congrArg (fun q : Int × Int => q.1) (dg_tr hU (by omega) (by omega))).trans (rfl)) ((congrArg (fun q : Int × Int => q.2) (dg_tr hU (by omega) (by omega))).trans (rfl)) (fun c_169 hI_170 hF_171 h_172 hz_173 hz_174 hz_175 => by exfalso; first | (clear h_1 hg_e1 h_2 hr_e1 h_3 hg_a9 h_4 hg_f0 h_5 h_6 h_7 h_16 h_45 h_46 h_47 h_157 h_158 h_159 h_160 h_161 h_162 h_163 h_164 h_165 h_166 h_167 h_168 h_8 h_17 h_155; omega) | omega) (fun c_178 hI_179 hF_180 h_181 h_182 hz_183 hz_184 hz_185 => by exfalso; omega) (fun c_186 hI_187 hF_188 h_189 h_190 h_191 hz_192 hz_193 hz_194 => by exfalso; omega) (fun c_195 hI_196 hF_197 h_198 h_199 h_200 h_201 hz_202 hz_203 hz_204 => ?_)
        have h_205 : c_195 41 5 = (-1) := (hz_203)
        have h_206 : c_195 41 4 = (dg F e1 (nx F e1 a9) 0).1 := (hz_202)
        have h_207 : c_195 41 6 = c 41 6 := (hz_204)
        exact K c_195 ((dg F e1 (nx F e1 a9) 0).2) hI_196 (fun a j hm => hF_197 a j hm) ⟨by omega, by omega⟩ (rt_i1 ⟨by first | exact q_f6b658f58 h_158 h_159 | (clear h_1 hg_e1 h_2 hr_e1 h_3 hg_a9 h_4 hg_f0 h_5 h_6 h_7 h_16 h_45 h_46 h_47 h_157 h_160 h_161 h_162 h_163 h_164 h_165 h_166 h_167 h_168 h_176 h_177 h_198 h_199 h_200 h_201 h_8 h_17 h_155; omega) | omega, by first | decide | (clear h_1 hg_e1 h_2 hr_e1 h_3 hg_a9 h_4 hg_f0 h_5 h_6 h_7 h_16 h_45 h_46 h_47 h_157 h_158 h_159 h_160 h_161 h_162 h_163 h_164 h_165 h_166 h_167 h_168 h_176 h_177 h_198 h_199 h_200 h_201 h_8 h_17 h_155; omega) | omega, by first | exact q_88dc5fb99 h_161 | (clear h_1 hg_e1 h_2 hr_e1 h_3 hg_a9 h_4 hg_f0 h_5 h_6 h_7 h_16 h_45 h_46 h_47 h_157 h_158 h_159 h_160 h_162 h_163 h_164 h_165 h_166 h_167 h_168 h_176 h_177 h_198 h_199 h_200 h_201 h_8 h_17 h_155; omega) | omega, by first | exact q_f39655ca6 h_162 h_163 | (clear h_1 hg_e1 h_2 hr_e1 h_3 hg_a9 h_4 hg_f0 h_5 h_6 h_7 h_16 h_45 h_46 h_47 h_157 h_158 h_159 h_160 h_161 h_164 h_165 h_166 h_167 h_168 h_176 h_177 h_198 h_199 h_200 h_201 h_8 h_17 h_155; omega) | omega⟩) (by first | exact q_88dc5fb99 h_157 | (clear h_1 hg_e1 h_2 hr_e1 h_3 hg_a9 h_4 hg_f0 h_5 h_6 h_7 h_16 h_45 h_46 h_47 h_158 h_159 h_160 h_161 h_162 h_163 h_164 h_165 h_166 h_167 h_168 h_176 h_177 h_198 h_199 h_200 h_201 h_8 h_17 h_155; omega) | omega) (Or.inr (Or.inr ⟨by first | (clear h_1 hg_e1 h_2 hr_e1 h_3 hg_a9 h_4 hg_f0 h_5 h_7 h_16 h_45 h_47 h_157 h_158 h_159 h_160 h_162 h_163 h_164 h_165 h_166 h_167 h_168 h_176 h_177 h_198 h_199 h_200 h_201 h_8 h_155; omega) | omega, by first | (clear h_1 hg_e1 h_2 hr_e1 h_3 hg_a9 h_4 hg_f0 h_5 h_6 h_7 h_45 h_47 h_157 h_158 h_159 h_160 h_162 h_163 h_164 h_165 h_166 h_167 h_168 h_176 h_177 h_198 h_199 h_200 h_201 h_8 h_17 h_155; omega) | omega⟩)) (Or.inr (Or.inr (by first | (clear h_1 hg_e1 h_2 hr_e1 h_3 hg_a9 h_5 h_6 h_7 h_16 h_45 h_46 h_47 h_157 h_158 h_159 h_160 h_161 h_162 h_163 h_164 h_165 h_166 h_167 h_168 h_176 h_177 h_198 h_199 h_200 h_201 h_8 h_17 h_155; omega) | omega))) (Or.inr (Or.inr (by first | (clear h_1 hg_e1 h_2 hr_e1 h_3 hg_a9 h_4 hg_f0 h_5 h_6 h_7 h_16 h_45 h_46 h_47 h_157 h_158 h_159 h_160 h_161 h_162 h_163 h_164 h_165 h_166 h_167 h_168 h_176 h_177 h_198 h_199 h_201 h_8 h_17 h_155; omega) | omega)))
      · refine v_if_ne_f (t := 23) c_38_14 rfl (Decidable.not_not.mp h_155) (q_aload_n c_38_17 rfl (q_iconst c_38_18 (q_iload_n c_38_19 rfl (v_cv c_38_20 km_3_51 rfl rfl (Nat.le_of_ble_eq_true rfl) ⟨⟨rfl, rfl⟩, Nat.le_of_ble_eq_true rfl, rfl⟩ (Nat.le_of_ble_eq_true rfl) (Nat.le_of_ble_eq_true rfl) (q_aload_n c_7_0 rfl (v_gi (z := 4) (v := 0) c_7_1 kf_5_38 rfl (Nat.le_of_ble_eq_true rfl) rfl rfl (hz_49) (v_if_ne_f (t := 17) c_7_4 rfl (by decide) ?_)))))))
        refine q_aload_n c_7_7 rfl (q_iload_n c_7_8 rfl (v_pi (z := 4) c_7_9 kf_5_38 rfl (Nat.le_of_ble_eq_true rfl) rfl rfl rfl (by decide) (q_aload_n c_7_12 rfl (q_iload_n c_7_13 rfl (v_pi (z := 5) c_7_14 kf_5_15 rfl (Nat.le_of_ble_eq_true rfl) rfl rfl rfl (by decide) (q_vret c_7_17 rfl (bk_inl ?_)))))))
        refine q_iload_n c_38_23 rfl (q_iret c_38_24 rfl ?_)
        have hI_208 := iw_1_4 (v := 2) hI_43 ⟨by decide, by decide⟩
        have hI_209 := iw_1_5 (v := (nx F e1 a9)) hI_208 ⟨by first | exact q_e3021f629 h_3 h_6 hg_a9 | (clear h_1 hg_e1 h_2 hr_e1 h_4 hg_f0 h_5 h_7 h_16 h_45 h_46 h_47 h_155 h_8 h_17; omega) | omega, by first | (clear h_1 hg_e1 h_3 hg_a9 h_4 hg_f0 h_5 h_6 h_7 h_16 h_45 h_47 h_155 h_8 h_17; omega) | omega⟩
        intro hE_210
        have h_211 : yg = (dg F e1 (nx F e1 a9) 0).2 := (vi_inj ⟨by omega, by omega⟩ ⟨by omega, by omega⟩ (Option.some.inj (Sum.inl.inj (Prod.mk.inj hE_210).1))).symm
        have hW : Wd P Q P P (up (up c_42 1 4 2) 1 5 (nx F e1 a9)) = Wd P Q P P m9 := (Prod.mk.inj (Prod.mk.inj hE_210).2).1
        have h_212 := ir_1_4 hJ9
        have h_213 : m9 1 4 = 2 := wd_fv (z := 4) 4 rfl hW rfl rfl rfl rfl (by decide) ((up_n (by decide)).trans (up_e rfl)) ⟨by decide, by decide⟩ ⟨(Int.le_trans (by decide) h_212.1), (Int.le_trans h_212.2 (by decide))⟩
        have h_214 := ir_1_2 hJ9
        have h_215 : m9 1 2 = (dg F e1 (nx F e1 a9) 0).1 := wd_fv (z := 2) 2 rfl hW rfl rfl rfl rfl (by decide) ((up_n (by decide)).trans ((up_n (by decide)).trans (hz_48))) ⟨by first | (clear h_1 hg_e1 h_2 hr_e1 h_4 hg_f0 h_5 h_7 h_45 h_46 h_47 h_155 h_211 h_212 h_213 h_214 h_8 h_17; omega) | omega, by first | (clear h_1 hg_e1 h_3 hg_a9 h_4 hg_f0 h_5 h_6 h_7 h_45 h_47 h_155 h_211 h_212 h_213 h_214 h_8 h_17; omega) | omega⟩ ⟨(Int.le_trans (by decide) h_214.1), (Int.le_trans h_214.2 (by decide))⟩
        have h_216 := ir_1_5 hJ9
        have h_217 : m9 1 5 = (nx F e1 a9) := wd_fv (z := 5) 5 rfl hW rfl rfl rfl rfl (by decide) (up_e rfl) ⟨by first | exact q_a3bce4abb h_3 h_6 hg_a9 | (clear h_1 hg_e1 h_2 hr_e1 h_4 hg_f0 h_5 h_7 h_16 h_45 h_46 h_47 h_155 h_211 h_212 h_213 h_214 h_215 h_216 h_8 h_17; omega) | omega, by first | (clear h_2 hr_e1 h_3 hg_a9 h_4 hg_f0 h_5 h_6 h_7 h_16 h_45 h_47 h_155 h_211 h_212 h_213 h_214 h_215 h_216 h_8 h_17; omega) | omega⟩ ⟨(Int.le_trans (by decide) h_216.1), (Int.le_trans h_216.2 (by decide))⟩
        have h_218 := ir_41_4 hI
        have h_219 := ir_1_5 hJ
        have h_220 := ir_41_5 hI
        have h_221 := ir_41_6 hI
        have h_222 := rt_ok hRt (by first | (clear h_1 hg_e1 h_2 hr_e1 h_3 hg_a9 hg_f0 h_5 h_6 h_7 h_16 h_45 h_46 h_47 h_155 h_211 h_212 h_213 h_214 h_215 h_216 h_217 h_218 h_219 h_220 h_221 h_8 h_17; omega) | omega)
        have hro_hRt := rt_ok hRt (by first | decide | (clear h_1 hg_e1 h_2 hr_e1 h_3 hg_a9 h_4 hg_f0 h_5 h_6 h_7 h_16 h_45 h_46 h_47 h_155 h_211 h_212 h_213 h_214 h_215 h_216 h_217 h_218 h_219 h_220 h_221 h_222 h_8 h_17; omega) | omega)
        have h_230 : -2147483648 ≤ (H (nx F e1 a9)) ∧ (H (nx F e1 a9)) ≤ 2147483647 := by rw [← hH (nx F e1 a9)]; exact ir_43 hI (nx F e1 a9)
        have h_231 := hU (nx F e1 a9) (by first | exact q_828522d69 h_3 h_6 hg_a9 | (clear h_1 hg_e1 h_2 hr_e1 h_4 hg_f0 h_5 h_7 h_16 h_45 h_46 h_47 h_155 h_211 h_212 h_213 h_214 h_215 h_216 h_217 h_218 h_219 h_220 h_221 h_222 h_230 h_8 h_17; omega) | omega) (by first | (clear h_2 hr_e1 h_3 hg_a9 h_4 hg_f0 h_5 h_6 h_7 h_16 h_45 h_47 h_155 h_211 h_212 h_213 h_214 h_215 h_216 h_217 h_218 h_219 h_220 h_221 h_222 h_230 h_8 h_17; omega) | omega)
        refine f_160 (a1 := 1) (a2 := 999) (e1 := e1) (a9 := a9) (f9 := (-1)) (k9 := c 41 6) (B := H) (r8 := (nx F e1 a9)) (D8 := (dg F e1 (nx F e1 a9) 0).1) (V8 := (dg F e1 (nx F e1 a9) 0).2) hI (show 0 ≤ 1 ∧ 1 ≤ 1 from ⟨by decide, by decide⟩) (show (-1) ≤ 999 ∧ 999 ≤ 9999 from ⟨by decide, by decide⟩) ((hr_e1)) (((hro_hRt.2.2.1).trans ((hg_a9)))) (hro_hRt.2.1) (rfl) (fun j => hH j) ((nx_tr hU ((rg_eq hg_a9 h_3).1) ((rg_eq hg_e1 h_1).2)).trans (rfl)) ((congrArg (fun q : Int × Int => q.1) (dg_tr hU (by omega) (by omega))).trans (rfl)) ((congrArg (fun q : Int × Int => q.2) (dg_tr hU (by omega) (by omega))).trans (rfl)) (fun c_223 hI_224 hF_225 h_226 hz_227 hz_228 hz_229 => by exfalso; first | (clear h_1 hg_e1 h_2 hr_e1 h_3 hg_a9 h_4 hg_f0 h_5 h_6 h_7 h_16 h_45 h_46 h_47 h_155 h_211 h_212 h_213 h_214 h_215 h_216 h_217 h_218 h_219 h_220 h_221 h_222 h_8 h_17; omega) | omega) (fun c_232 hI_233 hF_234 h_235 h_236 hz_237 hz_238 hz_239 => by exfalso; omega) (fun c_240 hI_241 hF_242 h_243 h_244 h_245 hz_246 hz_247 hz_248 => ?_) (fun c_249 hI_250 hF_251 h_252 h_253 h_254 h_255 hz_256 hz_257 hz_258 => by exfalso; first | (clear h_1 hg_e1 h_2 hr_e1 h_3 hg_a9 h_4 hg_f0 h_5 h_6 h_7 h_16 h_45 h_46 h_47 h_211 h_212 h_213 h_214 h_215 h_216 h_217 h_218 h_219 h_220 h_221 h_222 h_230 h_231 h_8 h_17; omega) | omega)
        have h_259 : c_240 41 5 = (nx F e1 a9) := (hz_247)
        have h_260 : c_240 41 4 = (dg F e1 (nx F e1 a9) 0).1 := (hz_246)
        have h_261 : c_240 41 6 = 2 := (hz_248)
        exact K c_240 0 hI_241 (fun a j hm => hF_242 a j hm) ⟨by omega, by omega⟩ (rt_i2 ⟨⟨by first | exact q_254d2140e h_213 | (clear h_1 hg_e1 h_2 hr_e1 h_3 hg_a9 h_4 hg_f0 h_5 h_6 h_7 h_16 h_45 h_46 h_47 h_155 h_211 h_212 h_214 h_215 h_216 h_217 h_218 h_219 h_220 h_221 h_222 h_230 h_231 h_243 h_244 h_8 h_17 h_245; omega) | omega, by first | exact q_6ff6db68e h_213 | (clear h_1 hg_e1 h_2 hr_e1 h_3 hg_a9 h_4 hg_f0 h_5 h_6 h_7 h_16 h_45 h_46 h_47 h_155 h_211 h_212 h_214 h_215 h_216 h_217 h_218 h_219 h_220 h_221 h_222 h_230 h_231 h_243 h_244 h_8 h_17 h_245; omega) | omega⟩, by first | exact q_88dc5fb99 h_217 | (clear h_1 hg_e1 h_2 hr_e1 h_3 hg_a9 h_4 hg_f0 h_5 h_6 h_7 h_16 h_45 h_46 h_47 h_155 h_211 h_212 h_213 h_214 h_215 h_216 h_218 h_219 h_220 h_221 h_222 h_230 h_231 h_243 h_244 h_8 h_17 h_245; omega) | omega, by first | exact q_99ecb86e9 h_217 h_3 h_6 hg_a9 | (clear h_1 hg_e1 h_2 hr_e1 h_4 hg_f0 h_5 h_7 h_16 h_45 h_46 h_47 h_155 h_211 h_212 h_213 h_214 h_215 h_216 h_218 h_219 h_220 h_221 h_222 h_230 h_231 h_243 h_244 h_8 h_17 h_245; omega) | omega, by first | exact q_8af79aa5c h_213 | (clear h_1 hg_e1 h_2 hr_e1 h_3 hg_a9 h_4 hg_f0 h_5 h_6 h_7 h_16 h_45 h_46 h_47 h_155 h_211 h_212 h_214 h_215 h_216 h_217 h_218 h_219 h_220 h_221 h_222 h_230 h_231 h_243 h_244 h_8 h_17 h_245; omega) | omega⟩) (by first | (clear h_1 hg_e1 h_2 hr_e1 h_3 hg_a9 h_4 hg_f0 h_5 h_6 h_7 h_16 h_45 h_46 h_47 h_212 h_213 h_214 h_215 h_216 h_217 h_218 h_219 h_220 h_221 h_222 h_230 h_231 h_243 h_244 h_8 h_17 h_245; omega) | omega) (Or.inr (Or.inl (by first | exact q_8d38fc194 h_213 | (clear h_1 hg_e1 h_2 hr_e1 h_3 hg_a9 h_4 hg_f0 h_5 h_6 h_7 h_16 h_45 h_46 h_47 h_155 h_211 h_212 h_214 h_215 h_216 h_217 h_218 h_219 h_220 h_221 h_222 h_230 h_231 h_243 h_244 h_8 h_17 h_245; omega) | omega))) (Or.inr (Or.inl (by first | exact q_8d38fc194 h_213 | (clear h_1 hg_e1 h_2 hr_e1 h_3 hg_a9 h_4 hg_f0 h_5 h_6 h_7 h_16 h_45 h_46 h_47 h_155 h_211 h_212 h_214 h_215 h_216 h_217 h_218 h_219 h_220 h_221 h_222 h_230 h_231 h_243 h_244 h_8 h_17 h_245; omega) | omega))) (Or.inr (Or.inl (by first | exact q_8d38fc194 h_213 | (clear h_1 hg_e1 h_2 hr_e1 h_3 hg_a9 h_4 hg_f0 h_5 h_6 h_7 h_16 h_45 h_46 h_47 h_155 h_211 h_212 h_214 h_215 h_216 h_217 h_218 h_219 h_220 h_221 h_222 h_230 h_231 h_243 h_244 h_8 h_17 h_245; omega) | omega)))
  · skip
    refine q_aload_n c_38_0 rfl ?_
    have h_262 : -2147483648 ≤ (F a9) ∧ (F a9) ≤ 2147483647 := by rw [← hF a9]; exact ir_2 hJ a9
    have h_263 := nx_bd (b := F) (e := e1) (a := a9)
    have h_264 : -2147483648 ≤ (F (nx F e1 a9)) ∧ (F (nx F e1 a9)) ≤ 2147483647 := by rw [← hF (nx F e1 a9)]; exact ir_2 hJ (nx F e1 a9)
    have h_265 := nx_n (b := F) (e := e1) (a := a9)
    refine v_cv c_38_1 km_3_42 rfl rfl (Nat.le_of_ble_eq_true rfl) ⟨⟨rfl, rfl⟩, Nat.le_of_ble_eq_true rfl, rfl⟩ (Nat.le_of_ble_eq_true rfl) (Nat.le_of_ble_eq_true rfl) (f_3 (e1 := e1) (a9 := a9) (B := F) (r8 := (nx F e1 a9)) hJ ((hg_e1)) ((hg_a9)) (fun j => hF j) rfl (fun c_266 hI_267 hF_268 hz_269 => (bk_inl (q_istore_n c_38_4 (Nat.le_of_ble_eq_true rfl) (q_aload_n c_38_5 rfl (v_sip c_38_6 (by decide) ?_))))))
    have kn_270 : Hid (c_266 1 1 = e1) := (hF_268 1 1 (fun h => absurd h.2 (ni rfl))).trans (hg_e1)
    have kn_271 : Hid (c_266 1 4 = f0) := (hF_268 1 4 (fun h => absurd h.2 (ni rfl))).trans (hg_f0)
    have h_272 := ir_1_5 hJ
    have kn_273 : Hid (c_266 1 5 = m 1 5) := hF_268 1 5 (fun h => absurd h.2 (ni rfl))
    have h_274 := dg_bd (b := F) (e := e1) (a := (nx F e1 a9)) (v := 0) (by decide)
    have h_275 := dg_p (b := F) (e := e1) (a := (nx F e1 a9)) (v := 0) (by decide)
    refine v_cv c_38_9 km_3_73 rfl rfl (Nat.le_of_ble_eq_true rfl) ⟨⟨rfl, rfl⟩, Nat.le_of_ble_eq_true rfl, rfl⟩ (Nat.le_of_ble_eq_true rfl) (Nat.le_of_ble_eq_true rfl) (f_8 (a1 := 999) (e1 := e1) (a9 := (nx F e1 a9)) (f9 := f0) (p9 := m 1 5) (B := F) (r8 := (nx F e1 a9)) (D8 := (dg F e1 (nx F e1 a9) 0).1) (V8 := (dg F e1 (nx F e1 a9) 0).2) hI_267 (show (-1) ≤ 999 ∧ 999 ≤ 9999 from ⟨by decide, by decide⟩) ((hid kn_270)) ((hz_269)) ((hid kn_271)) ((hid kn_273)) (fun j => (hF_268 2 j (fun h => absurd h.1 (nn rfl))).trans (hF j)) (nx_z (by omega)) rfl rfl (fun c_276 hI_277 hF_278 h_279 hz_280 hz_281 hz_282 => (bk_inl (q_istore_n c_38_12 (Nat.le_of_ble_eq_true rfl) (q_iload_n c_38_13 rfl (v_if_ne_f (t := 23) c_38_14 rfl (by decide) (q_aload_n c_38_17 rfl (q_iconst c_38_18 (q_iload_n c_38_19 rfl ?_)))))))) (fun c_283 hI_284 hF_285 h_286 h_287 hz_288 hz_289 hz_290 => by exfalso; omega) (fun c_291 hI_292 hF_293 h_294 h_295 h_296 hz_297 hz_298 hz_299 => by exfalso; omega) (fun c_300 hI_301 hF_302 h_303 h_304 h_305 hz_306 hz_307 hz_308 => by exfalso; omega))
    refine v_cv c_38_20 km_3_51 rfl rfl (Nat.le_of_ble_eq_true rfl) ⟨⟨rfl, rfl⟩, Nat.le_of_ble_eq_true rfl, rfl⟩ (Nat.le_of_ble_eq_true rfl) (Nat.le_of_ble_eq_true rfl) (q_aload_n c_7_0 rfl (v_gi (z := 4) (v := f0) c_7_1 kf_5_38 rfl (Nat.le_of_ble_eq_true rfl) rfl rfl (hz_281) (v_if_ne_t (t := 17) c_7_4 rfl ⟨by first | (clear h_1 hg_e1 h_2 hr_e1 h_3 hg_a9 h_4 hg_f0 h_262 h_263 h_264 h_272 h_274 h_265 h_275; omega) | omega, ⟨(Int.le_trans (by decide) (rg_eq hg_f0 h_4).1), (Int.le_trans (rg_eq hg_f0 h_4).2 (by decide))⟩, by decide, by decide⟩ (q_vret c_7_17 rfl (bk_inl (q_iload_n c_38_23 rfl (q_iret c_38_24 rfl ?_)))))))
    intro hE_309
    have h_310 : yg = 0 := (vi_inj ⟨by omega, by omega⟩ ⟨by omega, by omega⟩ (Option.some.inj (Sum.inl.inj (Prod.mk.inj hE_309).1))).symm
    have hW : Wd P Q P P c_276 = Wd P Q P P m9 := (Prod.mk.inj (Prod.mk.inj hE_309).2).1
    have h_311 := ir_1_4 hJ9
    have h_312 : m9 1 4 = f0 := wd_fv (z := 4) 4 rfl hW rfl rfl rfl rfl (by decide) (hz_281) ⟨(Int.le_trans (by decide) (rg_eq hg_f0 h_4).1), (Int.le_trans (rg_eq hg_f0 h_4).2 (by decide))⟩ ⟨(Int.le_trans (by decide) h_311.1), (Int.le_trans h_311.2 (by decide))⟩
    have h_313 := ir_1_2 hJ9
    have h_314 : m9 1 2 = (nx F e1 a9) := wd_fv (z := 2) 2 rfl hW rfl rfl rfl rfl (by decide) (hz_280) ⟨by first | exact q_c1bde17fc h_263 h_3 hg_a9 | (clear h_1 hg_e1 h_2 hr_e1 h_4 hg_f0 h_262 h_264 h_272 h_274 h_310 h_311 h_312 h_313 h_265 h_275 h_279; omega) | omega, by first | exact q_1a04c20dc h_1 h_263 h_3 hg_a9 hg_e1 | (clear h_2 hr_e1 h_4 hg_f0 h_262 h_264 h_272 h_274 h_310 h_311 h_312 h_313 h_265 h_275 h_279; omega) | omega⟩ ⟨(Int.le_trans (by decide) h_313.1), (Int.le_trans h_313.2 (by decide))⟩
    have h_315 := ir_1_5 hJ9
    have h_316 : m9 1 5 = m 1 5 := wd_fv (z := 5) 5 rfl hW rfl rfl rfl rfl (by decide) (hz_282) ⟨by first | exact q_a93a79546 h_272 | (clear h_1 hg_e1 h_2 hr_e1 h_3 hg_a9 h_4 hg_f0 h_262 h_263 h_264 h_274 h_310 h_311 h_312 h_313 h_314 h_315 h_265 h_275 h_279; omega) | omega, by first | exact q_64fbdbf81 h_272 | (clear h_1 hg_e1 h_2 hr_e1 h_3 hg_a9 h_4 hg_f0 h_262 h_263 h_264 h_274 h_310 h_311 h_312 h_313 h_314 h_315 h_265 h_275 h_279; omega) | omega⟩ ⟨(Int.le_trans (by decide) h_315.1), (Int.le_trans h_315.2 (by decide))⟩
    have h_317 := ir_41_4 hI
    have h_318 := ir_41_5 hI
    have h_319 := ir_41_6 hI
    have h_320 := rt_bad hRt (by first | (clear h_1 hg_e1 h_2 hr_e1 h_3 hg_a9 h_262 h_263 h_264 h_272 h_274 h_310 h_311 h_312 h_313 h_314 h_315 h_316 h_317 h_318 h_319 h_265 h_275; omega) | omega)
    have hrb_hRt := rt_bad hRt (by first | exact q_5e082ea92 h_320 hg_f0 | (clear h_1 hg_e1 h_2 hr_e1 h_3 hg_a9 h_4 h_262 h_263 h_264 h_272 h_274 h_310 h_311 h_312 h_313 h_314 h_315 h_316 h_317 h_318 h_319 h_265 h_275 h_279; omega) | omega)
    have h_321 : -2147483648 ≤ (F (c 41 4)) ∧ (F (c 41 4)) ≤ 2147483647 := by rw [← hF (c 41 4)]; exact ir_2 hJ (c 41 4)
    have h_322 := nx_bd (b := F) (e := e1) (a := c 41 4)
    have h_323 : -2147483648 ≤ (F (nx F e1 (c 41 4))) ∧ (F (nx F e1 (c 41 4))) ≤ 2147483647 := by rw [← hF (nx F e1 (c 41 4))]; exact ir_2 hJ (nx F e1 (c 41 4))
    have h_324 := nx_n (b := F) (e := e1) (a := c 41 4)
    have h_325 := dg_bd (b := F) (e := e1) (a := (nx F e1 (c 41 4))) (v := 0) (by decide)
    have h_326 := dg_p (b := F) (e := e1) (a := (nx F e1 (c 41 4))) (v := 0) (by decide)
    have h_334 : -2147483648 ≤ (H (nx F e1 (c 41 4))) ∧ (H (nx F e1 (c 41 4))) ≤ 2147483647 := by rw [← hH (nx F e1 (c 41 4))]; exact ir_43 hI (nx F e1 (c 41 4))
    have h_335 : (nx F e1 (c 41 4)) < 600 → (H (nx F e1 (c 41 4))) = (F (nx F e1 (c 41 4))) % 256 ∧ -128 ≤ (F (nx F e1 (c 41 4))) ∧ (F (nx F e1 (c 41 4))) ≤ 127 := fun q => hU (nx F e1 (c 41 4)) (by omega) q
    refine f_160 (a1 := 1) (a2 := 999) (e1 := e1) (a9 := c 41 4) (f9 := m 1 5) (k9 := f0) (B := H) (r8 := (nx F e1 (c 41 4))) (D8 := (dg F e1 (nx F e1 (c 41 4)) 0).1) (V8 := (dg F e1 (nx F e1 (c 41 4)) 0).2) hI (show 0 ≤ 1 ∧ 1 ≤ 1 from ⟨by decide, by decide⟩) (show (-1) ≤ 999 ∧ 999 ≤ 9999 from ⟨by decide, by decide⟩) ((hr_e1)) (rfl) (hrb_hRt.2.1) (((hrb_hRt.2.2.2).trans ((hg_f0)))) (fun j => hH j) ((nx_tr hU (h_317.1) ((rg_eq hg_e1 h_1).2)).trans (rfl)) ((congrArg (fun q : Int × Int => q.1) (dg_tr hU (by omega) (by omega))).trans (rfl)) ((congrArg (fun q : Int × Int => q.2) (dg_tr hU (by omega) (by omega))).trans (rfl)) (fun c_327 hI_328 hF_329 h_330 hz_331 hz_332 hz_333 => ?_) (fun c_336 hI_337 hF_338 h_339 h_340 hz_341 hz_342 hz_343 => by exfalso; first | (clear h_1 hg_e1 h_2 hr_e1 h_3 hg_a9 h_4 hg_f0 h_262 h_263 h_264 h_272 h_274 h_310 h_311 h_312 h_313 h_314 h_315 h_316 h_317 h_318 h_319 h_321 h_322 h_323 h_325 h_334 h_265 h_275 h_279 h_324 h_326 h_335; omega) | omega) (fun c_344 hI_345 hF_346 h_347 h_348 h_349 hz_350 hz_351 hz_352 => by exfalso; first | (clear h_1 hg_e1 h_2 hr_e1 h_3 hg_a9 h_4 hg_f0 h_262 h_263 h_264 h_272 h_274 h_310 h_311 h_312 h_313 h_314 h_315 h_316 h_317 h_318 h_319 h_321 h_322 h_323 h_325 h_334 h_265 h_275 h_279 h_324 h_326 h_335; omega) | omega) (fun c_353 hI_354 hF_355 h_356 h_357 h_358 h_359 hz_360 hz_361 hz_362 => by exfalso; first | (clear h_1 hg_e1 h_2 hr_e1 h_3 hg_a9 h_4 hg_f0 h_262 h_263 h_264 h_272 h_274 h_310 h_311 h_312 h_313 h_314 h_315 h_316 h_317 h_318 h_319 h_321 h_322 h_323 h_325 h_334 h_265 h_275 h_279 h_324 h_326 h_335; omega) | omega)
    have h_363 : c_327 41 5 = m 1 5 := (hz_332)
    have h_364 : c_327 41 4 = c 41 4 := (hz_331)
    have h_365 : c_327 41 6 = f0 := (hz_333)
    exact K c_327 0 hI_328 (fun a j hm => hF_329 a j hm) ⟨by omega, by omega⟩ (rt_i2 ⟨⟨by first | exact q_3b8ab523e h_312 h_320 hg_f0 | (clear h_1 hg_e1 h_2 hr_e1 h_3 hg_a9 h_4 h_262 h_263 h_264 h_272 h_274 h_310 h_311 h_313 h_314 h_315 h_316 h_317 h_318 h_319 h_321 h_322 h_323 h_325 h_334 h_265 h_275 h_279 h_324 h_326 h_335 h_330; omega) | omega, by first | exact q_c99d6ea93 h_311 | (clear h_1 hg_e1 h_2 hr_e1 h_3 hg_a9 h_4 hg_f0 h_262 h_263 h_264 h_272 h_274 h_310 h_312 h_313 h_314 h_315 h_316 h_317 h_318 h_319 h_320 h_321 h_322 h_323 h_325 h_334 h_265 h_275 h_279 h_324 h_326 h_335 h_330; omega) | omega⟩, by first | exact q_88dc5fb99 h_316 | (clear h_1 hg_e1 h_2 hr_e1 h_3 hg_a9 h_4 hg_f0 h_262 h_263 h_264 h_272 h_274 h_310 h_311 h_312 h_313 h_314 h_315 h_317 h_318 h_319 h_320 h_321 h_322 h_323 h_325 h_334 h_265 h_275 h_279 h_324 h_326 h_335 h_330; omega) | omega, by first | exact q_cb71117a2 h_316 h_320 | (clear h_1 hg_e1 h_2 hr_e1 h_3 hg_a9 h_4 hg_f0 h_262 h_263 h_264 h_272 h_274 h_310 h_311 h_312 h_313 h_314 h_315 h_317 h_318 h_319 h_321 h_322 h_323 h_325 h_334 h_265 h_275 h_279 h_324 h_326 h_335 h_330; omega) | omega, by first | exact q_88dc5fb99 h_312 | (clear h_1 hg_e1 h_2 hr_e1 h_3 hg_a9 h_4 hg_f0 h_262 h_263 h_264 h_272 h_274 h_310 h_311 h_313 h_314 h_315 h_316 h_317 h_318 h_319 h_320 h_321 h_322 h_323 h_325 h_334 h_265 h_275 h_279 h_324 h_326 h_335 h_330; omega) | omega⟩) (by first | (clear h_1 hg_e1 h_2 hr_e1 h_3 hg_a9 h_4 hg_f0 h_262 h_263 h_264 h_272 h_274 h_311 h_312 h_313 h_314 h_315 h_316 h_317 h_318 h_319 h_320 h_321 h_322 h_323 h_325 h_334 h_265 h_275 h_279 h_324 h_326 h_335 h_330; omega) | omega) (Or.inr (Or.inl (by first | exact q_2ce17e943 h_312 h_320 hg_f0 | (clear h_1 hg_e1 h_2 hr_e1 h_3 hg_a9 h_4 h_262 h_263 h_264 h_272 h_274 h_310 h_311 h_313 h_314 h_315 h_316 h_317 h_318 h_319 h_321 h_322 h_323 h_325 h_334 h_265 h_275 h_279 h_324 h_326 h_335 h_330; omega) | omega))) (Or.inr (Or.inl (by first | exact q_2ce17e943 h_312 h_320 hg_f0 | (clear h_1 hg_e1 h_2 hr_e1 h_3 hg_a9 h_4 h_262 h_263 h_264 h_272 h_274 h_310 h_311 h_313 h_314 h_315 h_316 h_317 h_318 h_319 h_321 h_322 h_323 h_325 h_334 h_265 h_275 h_279 h_324 h_326 h_335 h_330; omega) | omega))) (Or.inr (Or.inl (by first | exact q_2ce17e943 h_312 h_320 hg_f0 | (clear h_1 hg_e1 h_2 hr_e1 h_3 hg_a9 h_4 h_262 h_263 h_264 h_272 h_274 h_310 h_311 h_313 h_314 h_315 h_316 h_317 h_318 h_319 h_321 h_322 h_323 h_325 h_334 h_265 h_275 h_279 h_324 h_326 h_335 h_330; omega) | omega)))

set_option maxRecDepth 100000 in
set_option maxHeartbeats 4000000 in
theorem L_11_11 {sc : List Int32} {e eg : Int} {d dh u ug P Q P2 Q2 : Nat} {c m m9 : ME} {e1 a9 f0 : Int} {F H : Int → Int} {Z : AR → Prop} (hI : Iv u e P2 Q2 c) (hJ : Iv ug eg P Q m) (hJ9 : Iv ug eg P Q m9) (hg_e1 : m 1 1 = e1) (hr_e1 : c 41 3 = e1) (hg_a9 : m 1 2 = a9) (hg_f0 : m 1 4 = f0) (hF : ∀ j : Int, m 2 j = F j) (hH : ∀ j : Int, c 43 j = H j) (hU : Ub F H) (hRt : Rt m c) (hG : Wp sc (dh + 14) 11 0 [(0, .ref 1), (1, .ref (a_SB + 11))] [] (Wd P Q P P m) 0 0 (fun q => q = (.inl (none), Wd P Q P P m9, 0, 0))) (K : ∀ (c2 : ME), Iv u e P2 Q2 c2 → (∀ (a : Nat) (j : Int), ¬ ((a = 41 ∧ j = 4) ∨ (a = 41 ∧ j = 5) ∨ (a = 41 ∧ j = 6)) → c2 a j = c a j) → (Rt m9 c2) → ((m9 1 4 < 0) ∨ (m9 1 4 > 0) ∨ (m9 1 2 > a9 ∧ m9 1 2 ≤ e1)) → ((m9 1 4 < 0) ∨ (m9 1 4 > 0) ∨ (f0 = 0)) → Z (.inl (none), Wd P2 Q2 P2 P2 c2, 0, 0)) : Wp sc (d + 14) 161 0 [(0, .ref 41), (1, vi 91)] [] (Wd P2 Q2 P2 P2 c) 0 0 Z := by
  have hP := iv_P hJ
  have hQ := iv_Q hJ
  have h_1 := ir_1_1 hJ
  have h_2 := ir_41_3 hI
  have h_3 := ir_1_2 hJ
  have h_4 := ir_1_4 hJ
  refine gh hG ?_
  by_cases hs9 : m 1 4 = 0
  · skip
    have hs8 := (rt_ok hRt hs9).2.2.2
    refine q_aload_n c_11_0 rfl (v_cv c_11_1 km_5_45 rfl rfl (Nat.le_of_ble_eq_true rfl) ⟨⟨rfl, rfl⟩, Nat.le_of_ble_eq_true rfl, rfl⟩ (Nat.le_of_ble_eq_true rfl) (Nat.le_of_ble_eq_true rfl) (q_aload_n c_2_0 rfl (v_gi (z := 4) (v := 0) c_2_1 kf_5_38 rfl (Nat.le_of_ble_eq_true rfl) rfl rfl (hs9) (v_if_ne_f (t := 11) c_2_4 rfl (by decide) (q_iconst c_2_7 (q_goto (t := 12) c_2_8 rfl (v_zret c_2_12 rfl (by decide) ?_)))))))
    refine bk_inl (v_if_eq_f (t := 25) c_11_4 rfl (by decide) (q_aload_n c_11_7 rfl (q_aload_n c_11_8 rfl (v_cv c_11_9 km_5_65 rfl rfl (Nat.le_of_ble_eq_true rfl) ⟨⟨rfl, rfl⟩, Nat.le_of_ble_eq_true rfl, rfl⟩ (Nat.le_of_ble_eq_true rfl) (Nat.le_of_ble_eq_true rfl) (q_aload_n c_4_0 rfl ?_)))))
    have h_5 : -2147483648 ≤ (F a9) ∧ (F a9) ≤ 2147483647 := by rw [← hF a9]; exact ir_2 hJ a9
    have h_6 := nx_bd (b := F) (e := e1) (a := a9)
    have h_7 : -2147483648 ≤ (F (nx F e1 a9)) ∧ (F (nx F e1 a9)) ≤ 2147483647 := by rw [← hF (nx F e1 a9)]; exact ir_2 hJ (nx F e1 a9)
    have h_8 := nx_n (b := F) (e := e1) (a := a9)
    refine v_cv c_4_1 km_5_41 rfl rfl (Nat.le_of_ble_eq_true rfl) ⟨⟨rfl, rfl⟩, Nat.le_of_ble_eq_true rfl, rfl⟩ (Nat.le_of_ble_eq_true rfl) (Nat.le_of_ble_eq_true rfl) (f_3 (e1 := e1) (a9 := a9) (B := F) (r8 := (nx F e1 a9)) hJ ((hg_e1)) ((hg_a9)) (fun j => hF j) rfl (fun c_9 hI_10 hF_11 hz_12 => (bk_inl (q_istore_n c_4_4 (Nat.le_of_ble_eq_true rfl) (q_iconst c_4_5 (q_istore_n c_4_6 (Nat.le_of_ble_eq_true rfl) (q_iload_n c_4_7 rfl (q_aload_n c_4_8 rfl (v_sln 1 c_4_9 rfl (by omega) (Nat.le_of_ble_eq_true rfl) (by decide) (by decide) ?_)))))))))
    refine v_ic_ge_f (t := 55) c_4_12 rfl (by decide) (q_iload_n c_4_15 rfl (q_aload_n c_4_16 rfl ?_))
    have kn_13 : Hid (c_9 1 1 = e1) := (hF_11 1 1 (fun h => absurd h.2 (ni rfl))).trans (hg_e1)
    refine v_gi (z := 1) (v := e1) c_4_17 kf_5_32 rfl (Nat.le_of_ble_eq_true rfl) rfl rfl (hid kn_13) ?_
    by_cases h_14 : (nx F e1 a9) ≥ e1
    · refine v_ic_ge_t (t := 55) c_4_20 rfl ⟨(Int.le_trans (by decide) (rg_eq hg_e1 h_1).1), h_14, by first | exact q_b3bd846dd h_2 h_3 h_6 hg_a9 hr_e1 | (clear h_1 hg_e1 h_4 hg_f0 h_5 h_7 h_8; omega) | omega⟩ (q_iconst c_4_55 (q_iret c_4_56 rfl (bk_inl (q_iconst c_11_12 (v_ic_ne_f (t := 25) c_11_13 rfl (by decide) (q_aload_n c_11_16 rfl (q_iconst c_11_17 ?_)))))))
      refine q_aload_n c_11_18 rfl (v_gi (z := 2) (v := (nx F e1 a9)) c_11_19 kf_5_35 rfl (Nat.le_of_ble_eq_true rfl) rfl rfl (hz_12) (v_cv c_11_22 km_5_52 rfl rfl (Nat.le_of_ble_eq_true rfl) ⟨⟨rfl, rfl⟩, Nat.le_of_ble_eq_true rfl, rfl⟩ (Nat.le_of_ble_eq_true rfl) (Nat.le_of_ble_eq_true rfl) (q_aload_n c_7_0 rfl ?_)))
      have kn_15 : Hid (c_9 1 4 = 0) := (hF_11 1 4 (fun h => absurd h.2 (ni rfl))).trans (hs9)
      refine v_gi (z := 4) (v := 0) c_7_1 kf_5_38 rfl (Nat.le_of_ble_eq_true rfl) rfl rfl (hid kn_15) (v_if_ne_f (t := 17) c_7_4 rfl (by decide) (q_aload_n c_7_7 rfl (q_iload_n c_7_8 rfl (v_pi (z := 4) c_7_9 kf_5_38 rfl (Nat.le_of_ble_eq_true rfl) rfl rfl rfl (by decide) (q_aload_n c_7_12 rfl (q_iload_n c_7_13 rfl (v_pi (z := 5) c_7_14 kf_5_15 rfl (Nat.le_of_ble_eq_true rfl) rfl rfl rfl (by decide) ?_)))))))
      refine q_vret c_7_17 rfl (bk_inl (q_vret c_11_25 rfl ?_))
      have hI_16 := iw_1_4 (v := 1) hI_10 ⟨by decide, by decide⟩
      have hI_17 := iw_1_5 (v := (nx F e1 a9)) hI_16 ⟨by first | exact q_e3021f629 h_3 h_6 hg_a9 | (clear h_1 hg_e1 h_2 hr_e1 h_4 hg_f0 h_5 h_7 h_14 h_8; omega) | omega, by first | exact q_f657906b2 h_2 h_3 h_6 hg_a9 hr_e1 | (clear h_1 hg_e1 h_4 hg_f0 h_5 h_7 h_14 h_8; omega) | omega⟩
      intro hE_18
      have hW : Wd P Q P P (up (up c_9 1 4 1) 1 5 (nx F e1 a9)) = Wd P Q P P m9 := (Prod.mk.inj (Prod.mk.inj hE_18).2).1
      have h_19 := ir_1_4 hJ9
      have h_20 : m9 1 4 = 1 := wd_fv (z := 4) 4 rfl hW rfl rfl rfl rfl (by decide) ((up_n (by decide)).trans (up_e rfl)) ⟨by decide, by decide⟩ ⟨(Int.le_trans (by decide) h_19.1), (Int.le_trans h_19.2 (by decide))⟩
      have h_21 := ir_1_2 hJ9
      have h_22 : m9 1 2 = (nx F e1 a9) := wd_fv (z := 2) 2 rfl hW rfl rfl rfl rfl (by decide) ((up_n (by decide)).trans ((up_n (by decide)).trans (hz_12))) ⟨by first | exact q_a3bce4abb h_3 h_6 hg_a9 | (clear h_1 hg_e1 h_2 hr_e1 h_4 hg_f0 h_5 h_7 h_14 h_19 h_20 h_21 h_8; omega) | omega, by first | exact q_b3bd846dd h_2 h_3 h_6 hg_a9 hr_e1 | (clear h_1 hg_e1 h_4 hg_f0 h_5 h_7 h_14 h_19 h_20 h_21 h_8; omega) | omega⟩ ⟨(Int.le_trans (by decide) h_21.1), (Int.le_trans h_21.2 (by decide))⟩
      have h_23 := ir_1_5 hJ9
      have h_24 : m9 1 5 = (nx F e1 a9) := wd_fv (z := 5) 5 rfl hW rfl rfl rfl rfl (by decide) (up_e rfl) ⟨by first | exact q_17990f574 h_21 h_22 | (clear h_1 hg_e1 h_2 hr_e1 h_3 hg_a9 h_4 hg_f0 h_5 h_6 h_7 h_14 h_19 h_20 h_23 h_8; omega) | omega, by first | exact q_757c304f4 h_21 h_22 | (clear h_1 hg_e1 h_2 hr_e1 h_3 hg_a9 h_4 hg_f0 h_5 h_6 h_7 h_14 h_19 h_20 h_23 h_8; omega) | omega⟩ ⟨(Int.le_trans (by decide) h_23.1), (Int.le_trans h_23.2 (by decide))⟩
      refine q_aload_n c_161_0 rfl (v_cv c_161_1 km_8_131 rfl rfl (Nat.le_of_ble_eq_true rfl) ⟨⟨rfl, rfl⟩, Nat.le_of_ble_eq_true rfl, rfl⟩ (Nat.le_of_ble_eq_true rfl) (Nat.le_of_ble_eq_true rfl) (q_aload_n c_152_0 rfl ?_))
      have h_25 := ir_41_5 hI
      have h_26 := ir_1_5 hJ
      have h_27 := ir_41_4 hI
      have h_28 := ir_41_6 hI
      have h_29 := rt_ok hRt (by first | (clear h_1 hg_e1 h_2 hr_e1 h_3 hg_a9 hg_f0 h_5 h_6 h_7 h_14 h_19 h_20 h_21 h_22 h_23 h_24 h_25 h_26 h_27 h_28 h_8; omega) | omega)
      have hro_hRt := rt_ok hRt (by first | decide | (clear h_1 hg_e1 h_2 hr_e1 h_3 hg_a9 h_4 hg_f0 h_5 h_6 h_7 h_14 h_19 h_20 h_21 h_22 h_23 h_24 h_25 h_26 h_27 h_28 h_29 h_8; omega) | omega)
      refine v_gi (z := 5) (v := (-1)) c_152_1 kf_8_102 rfl (Nat.le_of_ble_eq_true rfl) rfl rfl hro_hRt.2.1 (q_iconst c_152_4 (v_ic_ne_f (t := 12) c_152_5 rfl (by decide) (q_iconst c_152_8 (q_goto (t := 13) c_152_9 rfl (v_zret c_152_13 rfl (by decide) (bk_inl (v_if_eq_f (t := 24) c_161_4 rfl (by decide) ?_)))))))
      refine q_aload_n c_161_7 rfl ?_
      have h_30 : -2147483648 ≤ (H (nx F e1 a9)) ∧ (H (nx F e1 a9)) ≤ 2147483647 := by rw [← hH (nx F e1 a9)]; exact ir_43 hI (nx F e1 a9)
      have h_31 : (nx F e1 a9) < 600 → (H (nx F e1 a9)) = (F (nx F e1 a9)) % 256 ∧ -128 ≤ (F (nx F e1 a9)) ∧ (F (nx F e1 a9)) ≤ 127 := fun q => hU (nx F e1 a9) (by omega) q
      have h_32 := hb_or (b := H) (e := e1) (r := (nx F e1 a9))
      have h_33 := hb_bd (b := H) (e := e1) (r := (nx F e1 a9)) (lo := -2147483648) (hi := 2147483647) h_30 (by decide)
      refine v_cv c_161_8 km_8_114 rfl rfl (Nat.le_of_ble_eq_true rfl) ⟨⟨rfl, rfl⟩, Nat.le_of_ble_eq_true rfl, rfl⟩ (Nat.le_of_ble_eq_true rfl) (Nat.le_of_ble_eq_true rfl) (f_154 (e1 := e1) (a9 := a9) (B := H) (r8 := (nx F e1 a9)) (r := (hb H e1 (nx F e1 a9))) hI ((hr_e1)) (((hro_hRt.2.2.1).trans ((hg_a9)))) (fun j => hH j) ((nx_tr hU ((rg_eq hg_a9 h_3).1) ((rg_eq hg_e1 h_1).2)).trans (rfl)) rfl (fun c_34 hI_35 hF_36 h_37 => (bk_inl (q_iload_n c_161_11 rfl (v_ic_eq_f (t := 24) c_161_12 rfl ⟨by first | (clear h_1 hg_e1 h_2 hr_e1 h_3 hg_a9 h_4 hg_f0 h_5 h_6 h_7 h_19 h_20 h_21 h_22 h_23 h_24 h_25 h_26 h_27 h_28 h_29 h_30 h_33 h_8 h_31; omega) | omega, ⟨h_33.1, h_33.2⟩, by decide, by decide⟩ (q_aload_n c_161_15 rfl (q_iconst c_161_16 (q_aload_n c_161_17 rfl (v_gi (z := 4) (v := (nx F e1 a9)) c_161_18 kf_8_108 rfl (Nat.le_of_ble_eq_true rfl) rfl rfl (h_37) ?_)))))))))
      refine v_cv c_161_21 km_8_138 rfl rfl (Nat.le_of_ble_eq_true rfl) ⟨⟨rfl, rfl⟩, Nat.le_of_ble_eq_true rfl, rfl⟩ (Nat.le_of_ble_eq_true rfl) (Nat.le_of_ble_eq_true rfl) (q_aload_n c_153_0 rfl ?_)
      have kn_38 : Hid (c_34 41 5 = (-1)) := (hF_36 41 5 (fun h => absurd h.2 (ni rfl))).trans hro_hRt.2.1
      refine v_gi (z := 5) (v := (-1)) c_153_1 kf_8_102 rfl (Nat.le_of_ble_eq_true rfl) rfl rfl (hid kn_38) (q_iconst c_153_4 (v_ic_eq_t (t := 9) c_153_5 rfl (by decide) (q_aload_n c_153_9 rfl (q_iload_n c_153_10 rfl (v_pi (z := 5) c_153_11 kf_8_102 rfl (Nat.le_of_ble_eq_true rfl) rfl rfl rfl (by decide) (q_aload_n c_153_14 rfl (q_iload_n c_153_15 rfl ?_)))))))
      refine v_pi (z := 6) c_153_16 kf_8_105 rfl (Nat.le_of_ble_eq_true rfl) rfl rfl rfl (by decide) (q_vret c_153_19 rfl (bk_inl (q_aload_n c_161_24 rfl (v_cv c_161_25 km_8_131 rfl rfl (Nat.le_of_ble_eq_true rfl) ⟨⟨rfl, rfl⟩, Nat.le_of_ble_eq_true rfl, rfl⟩ (Nat.le_of_ble_eq_true rfl) (Nat.le_of_ble_eq_true rfl) (q_aload_n c_152_0 rfl (v_gi (z := 5) (v := (nx F e1 a9)) c_152_1 kf_8_102 rfl (Nat.le_of_ble_eq_true rfl) rfl rfl ((up_n (by decide)).trans (up_e rfl)) (q_iconst c_152_4 ?_)))))))
      refine v_ic_ne_t (t := 12) c_152_5 rfl ⟨by first | exact q_90762221b h_21 h_22 | (clear h_1 hg_e1 h_2 hr_e1 h_3 hg_a9 h_4 hg_f0 h_5 h_6 h_7 h_14 h_19 h_20 h_23 h_24 h_25 h_26 h_27 h_28 h_29 h_30 h_33 h_8 h_31 h_32; omega) | omega, ⟨by first | exact q_17990f574 h_21 h_22 | (clear h_1 hg_e1 h_2 hr_e1 h_3 hg_a9 h_4 hg_f0 h_5 h_6 h_7 h_14 h_19 h_20 h_23 h_24 h_25 h_26 h_27 h_28 h_29 h_30 h_33 h_8 h_31 h_32; omega) | omega, by first | exact q_757c304f4 h_21 h_22 | (clear h_1 hg_e1 h_2 hr_e1 h_3 hg_a9 h_4 hg_f0 h_5 h_6 h_7 h_14 h_19 h_20 h_23 h_24 h_25 h_26 h_27 h_28 h_29 h_30 h_33 h_8 h_31 h_32; omega) | omega⟩, by decide, by decide⟩ (q_iconst c_152_12 (v_zret c_152_13 rfl (by decide) (bk_inl (v_if_eq_t (t := 41) c_161_28 rfl (by decide) (q_vret c_161_41 rfl ?_)))))
      have hI_39 := iw_41_5 (v := (nx F e1 a9)) hI_35 ⟨by first | exact q_5ce231cbd h_21 h_22 | (clear h_1 hg_e1 h_2 hr_e1 h_3 hg_a9 h_4 hg_f0 h_5 h_6 h_7 h_14 h_19 h_20 h_23 h_24 h_25 h_26 h_27 h_28 h_29 h_30 h_33 h_8 h_31 h_32; omega) | omega, by first | exact q_6094bb0fa h_23 h_24 | (clear h_1 hg_e1 h_2 hr_e1 h_3 hg_a9 h_4 hg_f0 h_5 h_6 h_7 h_14 h_19 h_20 h_21 h_22 h_25 h_26 h_27 h_28 h_29 h_30 h_33 h_8 h_31 h_32; omega) | omega⟩
      have hI_40 := iw_41_6 (v := 1) hI_39 ⟨by decide, by decide⟩
      have h_41 : (up (up c_34 41 5 (nx F e1 a9)) 41 6 1) 41 5 = (nx F e1 a9) := ((up_n (by decide)).trans (up_e rfl))
      have h_42 : (up (up c_34 41 5 (nx F e1 a9)) 41 6 1) 41 4 = (nx F e1 a9) := ((up_n (by decide)).trans ((up_n (by decide)).trans (h_37)))
      have h_43 : (up (up c_34 41 5 (nx F e1 a9)) 41 6 1) 41 6 = 1 := (up_e rfl)
      exact K (up (up c_34 41 5 (nx F e1 a9)) 41 6 1)  hI_40 (fun a j hm => (up_b (Decidable.or_iff_not_imp_left.mpr (fun h1 h2 => hm (Or.inr (Or.inr ⟨Decidable.not_not.mp h1, h2⟩))))).trans ((up_b (Decidable.or_iff_not_imp_left.mpr (fun h1 h2 => hm (Or.inr (Or.inl ⟨Decidable.not_not.mp h1, h2⟩))))).trans (hF_36 a j (fun h => hm (Or.inl h))))) (rt_i2 ⟨⟨by first | exact q_5935f82f1 h_20 | (clear h_1 hg_e1 h_2 hr_e1 h_3 hg_a9 h_4 hg_f0 h_5 h_6 h_7 h_14 h_19 h_21 h_22 h_23 h_24 h_25 h_26 h_27 h_28 h_29 h_30 h_33 h_8 h_31 h_32; omega) | omega, by first | exact q_63461c6bf h_20 | (clear h_1 hg_e1 h_2 hr_e1 h_3 hg_a9 h_4 hg_f0 h_5 h_6 h_7 h_14 h_19 h_21 h_22 h_23 h_24 h_25 h_26 h_27 h_28 h_29 h_30 h_33 h_8 h_31 h_32; omega) | omega⟩, by first | exact q_88dc5fb99 h_24 | (clear h_1 hg_e1 h_2 hr_e1 h_3 hg_a9 h_4 hg_f0 h_5 h_6 h_7 h_14 h_19 h_20 h_21 h_22 h_23 h_25 h_26 h_27 h_28 h_29 h_30 h_33 h_8 h_31 h_32; omega) | omega, by first | exact q_a060fbdd4 h_21 h_22 h_24 | (clear h_1 hg_e1 h_2 hr_e1 h_3 hg_a9 h_4 hg_f0 h_5 h_6 h_7 h_14 h_19 h_20 h_23 h_25 h_26 h_27 h_28 h_29 h_30 h_33 h_8 h_31 h_32; omega) | omega, by first | exact q_69efb464e h_20 | (clear h_1 hg_e1 h_2 hr_e1 h_3 hg_a9 h_4 hg_f0 h_5 h_6 h_7 h_14 h_19 h_21 h_22 h_23 h_24 h_25 h_26 h_27 h_28 h_29 h_30 h_33 h_8 h_31 h_32; omega) | omega⟩) (Or.inr (Or.inl (by first | exact q_e2d2b4ae2 h_20 | (clear h_1 hg_e1 h_2 hr_e1 h_3 hg_a9 h_4 hg_f0 h_5 h_6 h_7 h_14 h_19 h_21 h_22 h_23 h_24 h_25 h_26 h_27 h_28 h_29 h_30 h_33 h_8 h_31 h_32; omega) | omega))) (Or.inr (Or.inl (by first | exact q_e2d2b4ae2 h_20 | (clear h_1 hg_e1 h_2 hr_e1 h_3 hg_a9 h_4 hg_f0 h_5 h_6 h_7 h_14 h_19 h_21 h_22 h_23 h_24 h_25 h_26 h_27 h_28 h_29 h_30 h_33 h_8 h_31 h_32; omega) | omega)))
    · refine v_ic_ge_f (t := 55) c_4_20 rfl ⟨by first | exact q_a3bce4abb h_3 h_6 hg_a9 | (clear h_1 hg_e1 h_2 hr_e1 h_4 hg_f0 h_5 h_7 h_8; omega) | omega, (Int.not_le.mp h_14), (Int.le_trans (rg_eq hg_e1 h_1).2 (by decide))⟩ (q_aload_n c_4_23 rfl (v_gr (t := 2) c_4_24 kf_5_9 rfl (Nat.le_of_ble_eq_true rfl) rfl (q_iload_n c_4_27 rfl ?_)))
      have kn_44 : Hid (c_9 2 (nx F e1 a9) = (F (nx F e1 a9))) := (hF_11 2 (nx F e1 a9) (fun h => absurd h.1 (nn rfl))).trans (hF (nx F e1 a9))
      refine v_ba (v := (F (nx F e1 a9))) c_4_28 rfl (by decide) (by decide) ⟨by first | exact q_828522d69 h_3 h_6 hg_a9 | (clear h_1 hg_e1 h_2 hr_e1 h_4 hg_f0 h_5 h_7 h_14 h_8; omega) | omega, by first | exact q_b867e77c7 h_14 h_2 hr_e1 | (clear h_1 hg_e1 h_3 hg_a9 h_4 hg_f0 h_5 h_6 h_7 h_8; omega) | omega⟩ (hid kn_44) (q_aload_n c_4_29 rfl (q_iload_n c_4_30 rfl (v_sch 91 c_4_31 rfl (by omega) (Nat.le_of_ble_eq_true rfl) (by decide) (by decide) (by decide) ?_)))
      by_cases h_45 : (F (nx F e1 a9)) ≠ 91
      · refine v_ic_ne_t (t := 49) c_4_34 rfl ⟨h_45, ⟨h_7.1, h_7.2⟩, by decide, by decide⟩ (v_iinc (v := 1) c_4_49 rfl (Nat.le_of_ble_eq_true rfl) (by decide) (q_goto (t := 7) c_4_52 rfl (q_iload_n c_4_7 rfl (q_aload_n c_4_8 rfl (v_sln 1 c_4_9 rfl (by omega) (Nat.le_of_ble_eq_true rfl) (by decide) (by decide) (v_ic_ge_t (t := 55) c_4_12 rfl (by decide) (q_iconst c_4_55 ?_)))))))
        refine q_iret c_4_56 rfl (bk_inl (q_iconst c_11_12 (v_ic_ne_f (t := 25) c_11_13 rfl (by decide) (q_aload_n c_11_16 rfl (q_iconst c_11_17 (q_aload_n c_11_18 rfl (v_gi (z := 2) (v := (nx F e1 a9)) c_11_19 kf_5_35 rfl (Nat.le_of_ble_eq_true rfl) rfl rfl (hz_12) ?_)))))))
        refine v_cv c_11_22 km_5_52 rfl rfl (Nat.le_of_ble_eq_true rfl) ⟨⟨rfl, rfl⟩, Nat.le_of_ble_eq_true rfl, rfl⟩ (Nat.le_of_ble_eq_true rfl) (Nat.le_of_ble_eq_true rfl) (q_aload_n c_7_0 rfl ?_)
        have kn_46 : Hid (c_9 1 4 = 0) := (hF_11 1 4 (fun h => absurd h.2 (ni rfl))).trans (hs9)
        refine v_gi (z := 4) (v := 0) c_7_1 kf_5_38 rfl (Nat.le_of_ble_eq_true rfl) rfl rfl (hid kn_46) (v_if_ne_f (t := 17) c_7_4 rfl (by decide) (q_aload_n c_7_7 rfl (q_iload_n c_7_8 rfl (v_pi (z := 4) c_7_9 kf_5_38 rfl (Nat.le_of_ble_eq_true rfl) rfl rfl rfl (by decide) (q_aload_n c_7_12 rfl (q_iload_n c_7_13 rfl (v_pi (z := 5) c_7_14 kf_5_15 rfl (Nat.le_of_ble_eq_true rfl) rfl rfl rfl (by decide) ?_)))))))
        refine q_vret c_7_17 rfl (bk_inl (q_vret c_11_25 rfl ?_))
        have hI_47 := iw_1_4 (v := 1) hI_10 ⟨by decide, by decide⟩
        have hI_48 := iw_1_5 (v := (nx F e1 a9)) hI_47 ⟨by first | exact q_e3021f629 h_3 h_6 hg_a9 | (clear h_1 hg_e1 h_2 hr_e1 h_4 hg_f0 h_5 h_7 h_14 h_8 h_45; omega) | omega, by first | exact q_15401fa7c h_14 h_2 hr_e1 | (clear h_1 hg_e1 h_3 hg_a9 h_4 hg_f0 h_5 h_6 h_7 h_8 h_45; omega) | omega⟩
        intro hE_49
        have hW : Wd P Q P P (up (up c_9 1 4 1) 1 5 (nx F e1 a9)) = Wd P Q P P m9 := (Prod.mk.inj (Prod.mk.inj hE_49).2).1
        have h_50 := ir_1_4 hJ9
        have h_51 : m9 1 4 = 1 := wd_fv (z := 4) 4 rfl hW rfl rfl rfl rfl (by decide) ((up_n (by decide)).trans (up_e rfl)) ⟨by decide, by decide⟩ ⟨(Int.le_trans (by decide) h_50.1), (Int.le_trans h_50.2 (by decide))⟩
        have h_52 := ir_1_2 hJ9
        have h_53 : m9 1 2 = (nx F e1 a9) := wd_fv (z := 2) 2 rfl hW rfl rfl rfl rfl (by decide) ((up_n (by decide)).trans ((up_n (by decide)).trans (hz_12))) ⟨by first | exact q_a3bce4abb h_3 h_6 hg_a9 | (clear h_1 hg_e1 h_2 hr_e1 h_4 hg_f0 h_5 h_7 h_14 h_50 h_51 h_52 h_8 h_45; omega) | omega, by first | exact q_2e6ee4ea6 h_14 h_2 hr_e1 | (clear h_1 hg_e1 h_3 hg_a9 h_4 hg_f0 h_5 h_6 h_7 h_50 h_51 h_52 h_8 h_45; omega) | omega⟩ ⟨(Int.le_trans (by decide) h_52.1), (Int.le_trans h_52.2 (by decide))⟩
        have h_54 := ir_1_5 hJ9
        have h_55 : m9 1 5 = (nx F e1 a9) := wd_fv (z := 5) 5 rfl hW rfl rfl rfl rfl (by decide) (up_e rfl) ⟨by first | exact q_17990f574 h_52 h_53 | (clear h_1 hg_e1 h_2 hr_e1 h_3 hg_a9 h_4 hg_f0 h_5 h_6 h_7 h_14 h_50 h_51 h_54 h_8 h_45; omega) | omega, by first | exact q_757c304f4 h_52 h_53 | (clear h_1 hg_e1 h_2 hr_e1 h_3 hg_a9 h_4 hg_f0 h_5 h_6 h_7 h_14 h_50 h_51 h_54 h_8 h_45; omega) | omega⟩ ⟨(Int.le_trans (by decide) h_54.1), (Int.le_trans h_54.2 (by decide))⟩
        refine q_aload_n c_161_0 rfl (v_cv c_161_1 km_8_131 rfl rfl (Nat.le_of_ble_eq_true rfl) ⟨⟨rfl, rfl⟩, Nat.le_of_ble_eq_true rfl, rfl⟩ (Nat.le_of_ble_eq_true rfl) (Nat.le_of_ble_eq_true rfl) (q_aload_n c_152_0 rfl ?_))
        have h_56 := ir_41_5 hI
        have h_57 := ir_1_5 hJ
        have h_58 := ir_41_4 hI
        have h_59 := ir_41_6 hI
        have h_60 := rt_ok hRt (by first | (clear h_1 hg_e1 h_2 hr_e1 h_3 hg_a9 hg_f0 h_5 h_6 h_7 h_14 h_50 h_51 h_52 h_53 h_54 h_55 h_56 h_57 h_58 h_59 h_8 h_45; omega) | omega)
        have hro_hRt := rt_ok hRt (by first | decide | (clear h_1 hg_e1 h_2 hr_e1 h_3 hg_a9 h_4 hg_f0 h_5 h_6 h_7 h_14 h_50 h_51 h_52 h_53 h_54 h_55 h_56 h_57 h_58 h_59 h_60 h_8 h_45; omega) | omega)
        refine v_gi (z := 5) (v := (-1)) c_152_1 kf_8_102 rfl (Nat.le_of_ble_eq_true rfl) rfl rfl hro_hRt.2.1 (q_iconst c_152_4 (v_ic_ne_f (t := 12) c_152_5 rfl (by decide) (q_iconst c_152_8 (q_goto (t := 13) c_152_9 rfl (v_zret c_152_13 rfl (by decide) (bk_inl (v_if_eq_f (t := 24) c_161_4 rfl (by decide) ?_)))))))
        refine q_aload_n c_161_7 rfl ?_
        have h_61 : -2147483648 ≤ (H (nx F e1 a9)) ∧ (H (nx F e1 a9)) ≤ 2147483647 := by rw [← hH (nx F e1 a9)]; exact ir_43 hI (nx F e1 a9)
        have h_62 := hU (nx F e1 a9) (by first | exact q_4ad75e8a2 h_52 h_53 | (clear h_1 hg_e1 h_2 hr_e1 h_3 hg_a9 h_4 hg_f0 h_5 h_6 h_7 h_14 h_50 h_51 h_54 h_55 h_56 h_57 h_58 h_59 h_60 h_61 h_8 h_45; omega) | omega) (by first | exact q_b867e77c7 h_14 h_2 hr_e1 | (clear h_1 hg_e1 h_3 hg_a9 h_4 hg_f0 h_5 h_6 h_7 h_50 h_51 h_52 h_53 h_54 h_55 h_56 h_57 h_58 h_59 h_60 h_61 h_8 h_45; omega) | omega)
        have h_63 := hb_or (b := H) (e := e1) (r := (nx F e1 a9))
        have h_64 := hb_bd (b := H) (e := e1) (r := (nx F e1 a9)) (lo := -2147483648) (hi := 2147483647) h_61 (by decide)
        refine v_cv c_161_8 km_8_114 rfl rfl (Nat.le_of_ble_eq_true rfl) ⟨⟨rfl, rfl⟩, Nat.le_of_ble_eq_true rfl, rfl⟩ (Nat.le_of_ble_eq_true rfl) (Nat.le_of_ble_eq_true rfl) (f_154 (e1 := e1) (a9 := a9) (B := H) (r8 := (nx F e1 a9)) (r := (hb H e1 (nx F e1 a9))) hI ((hr_e1)) (((hro_hRt.2.2.1).trans ((hg_a9)))) (fun j => hH j) ((nx_tr hU ((rg_eq hg_a9 h_3).1) ((rg_eq hg_e1 h_1).2)).trans (rfl)) rfl (fun c_65 hI_66 hF_67 h_68 => (bk_inl (q_iload_n c_161_11 rfl (v_ic_eq_f (t := 24) c_161_12 rfl ⟨by first | (clear h_3 h_4 hg_f0 h_5 h_50 h_51 h_56 h_57 h_58 h_59 h_60; omega) | omega, ⟨h_64.1, h_64.2⟩, by decide, by decide⟩ (q_aload_n c_161_15 rfl (q_iconst c_161_16 (q_aload_n c_161_17 rfl (v_gi (z := 4) (v := (nx F e1 a9)) c_161_18 kf_8_108 rfl (Nat.le_of_ble_eq_true rfl) rfl rfl (h_68) ?_)))))))))
        refine v_cv c_161_21 km_8_138 rfl rfl (Nat.le_of_ble_eq_true rfl) ⟨⟨rfl, rfl⟩, Nat.le_of_ble_eq_true rfl, rfl⟩ (Nat.le_of_ble_eq_true rfl) (Nat.le_of_ble_eq_true rfl) (q_aload_n c_153_0 rfl ?_)
        have kn_69 : Hid (c_65 41 5 = (-1)) := (hF_67 41 5 (fun h => absurd h.2 (ni rfl))).trans hro_hRt.2.1
        refine v_gi (z := 5) (v := (-1)) c_153_1 kf_8_102 rfl (Nat.le_of_ble_eq_true rfl) rfl rfl (hid kn_69) (q_iconst c_153_4 (v_ic_eq_t (t := 9) c_153_5 rfl (by decide) (q_aload_n c_153_9 rfl (q_iload_n c_153_10 rfl (v_pi (z := 5) c_153_11 kf_8_102 rfl (Nat.le_of_ble_eq_true rfl) rfl rfl rfl (by decide) (q_aload_n c_153_14 rfl (q_iload_n c_153_15 rfl ?_)))))))
        refine v_pi (z := 6) c_153_16 kf_8_105 rfl (Nat.le_of_ble_eq_true rfl) rfl rfl rfl (by decide) (q_vret c_153_19 rfl (bk_inl (q_aload_n c_161_24 rfl (v_cv c_161_25 km_8_131 rfl rfl (Nat.le_of_ble_eq_true rfl) ⟨⟨rfl, rfl⟩, Nat.le_of_ble_eq_true rfl, rfl⟩ (Nat.le_of_ble_eq_true rfl) (Nat.le_of_ble_eq_true rfl) (q_aload_n c_152_0 rfl (v_gi (z := 5) (v := (nx F e1 a9)) c_152_1 kf_8_102 rfl (Nat.le_of_ble_eq_true rfl) rfl rfl ((up_n (by decide)).trans (up_e rfl)) (q_iconst c_152_4 ?_)))))))
        refine v_ic_ne_t (t := 12) c_152_5 rfl ⟨by first | exact q_90762221b h_52 h_53 | (clear h_1 hg_e1 h_2 hr_e1 h_3 hg_a9 h_4 hg_f0 h_5 h_6 h_7 h_14 h_50 h_51 h_54 h_55 h_56 h_57 h_58 h_59 h_60 h_61 h_62 h_64 h_8 h_45 h_63; omega) | omega, ⟨by first | exact q_17990f574 h_52 h_53 | (clear h_1 hg_e1 h_2 hr_e1 h_3 hg_a9 h_4 hg_f0 h_5 h_6 h_7 h_14 h_50 h_51 h_54 h_55 h_56 h_57 h_58 h_59 h_60 h_61 h_62 h_64 h_8 h_45 h_63; omega) | omega, by first | exact q_783468581 h_54 h_55 | (clear h_1 hg_e1 h_2 hr_e1 h_3 hg_a9 h_4 hg_f0 h_5 h_6 h_7 h_14 h_50 h_51 h_52 h_53 h_56 h_57 h_58 h_59 h_60 h_61 h_62 h_64 h_8 h_45 h_63; omega) | omega⟩, by decide, by decide⟩ (q_iconst c_152_12 (v_zret c_152_13 rfl (by decide) (bk_inl (v_if_eq_t (t := 41) c_161_28 rfl (by decide) (q_vret c_161_41 rfl ?_)))))
        have hI_70 := iw_41_5 (v := (nx F e1 a9)) hI_66 ⟨by first | exact q_5ce231cbd h_52 h_53 | (clear h_1 hg_e1 h_2 hr_e1 h_3 hg_a9 h_4 hg_f0 h_5 h_6 h_7 h_14 h_50 h_51 h_54 h_55 h_56 h_57 h_58 h_59 h_60 h_61 h_62 h_64 h_8 h_45 h_63; omega) | omega, by first | exact q_deaeab841 h_52 h_53 | (clear h_1 hg_e1 h_2 hr_e1 h_3 hg_a9 h_4 hg_f0 h_5 h_6 h_7 h_14 h_50 h_51 h_54 h_55 h_56 h_57 h_58 h_59 h_60 h_61 h_62 h_64 h_8 h_45 h_63; omega) | omega⟩
        have hI_71 := iw_41_6 (v := 1) hI_70 ⟨by decide, by decide⟩
        have h_72 : (up (up c_65 41 5 (nx F e1 a9)) 41 6 1) 41 5 = (nx F e1 a9) := ((up_n (by decide)).trans (up_e rfl))
        have h_73 : (up (up c_65 41 5 (nx F e1 a9)) 41 6 1) 41 4 = (nx F e1 a9) := ((up_n (by decide)).trans ((up_n (by decide)).trans (h_68)))
        have h_74 : (up (up c_65 41 5 (nx F e1 a9)) 41 6 1) 41 6 = 1 := (up_e rfl)
        exact K (up (up c_65 41 5 (nx F e1 a9)) 41 6 1)  hI_71 (fun a j hm => (up_b (Decidable.or_iff_not_imp_left.mpr (fun h1 h2 => hm (Or.inr (Or.inr ⟨Decidable.not_not.mp h1, h2⟩))))).trans ((up_b (Decidable.or_iff_not_imp_left.mpr (fun h1 h2 => hm (Or.inr (Or.inl ⟨Decidable.not_not.mp h1, h2⟩))))).trans (hF_67 a j (fun h => hm (Or.inl h))))) (rt_i2 ⟨⟨by first | exact q_5935f82f1 h_51 | (clear h_1 hg_e1 h_2 hr_e1 h_3 hg_a9 h_4 hg_f0 h_5 h_6 h_7 h_14 h_50 h_52 h_53 h_54 h_55 h_56 h_57 h_58 h_59 h_60 h_61 h_62 h_64 h_8 h_45 h_63; omega) | omega, by first | exact q_63461c6bf h_51 | (clear h_1 hg_e1 h_2 hr_e1 h_3 hg_a9 h_4 hg_f0 h_5 h_6 h_7 h_14 h_50 h_52 h_53 h_54 h_55 h_56 h_57 h_58 h_59 h_60 h_61 h_62 h_64 h_8 h_45 h_63; omega) | omega⟩, by first | exact q_88dc5fb99 h_55 | (clear h_1 hg_e1 h_2 hr_e1 h_3 hg_a9 h_4 hg_f0 h_5 h_6 h_7 h_14 h_50 h_51 h_52 h_53 h_54 h_56 h_57 h_58 h_59 h_60 h_61 h_62 h_64 h_8 h_45 h_63; omega) | omega, by first | exact q_a060fbdd4 h_52 h_53 h_55 | (clear h_1 hg_e1 h_2 hr_e1 h_3 hg_a9 h_4 hg_f0 h_5 h_6 h_7 h_14 h_50 h_51 h_54 h_56 h_57 h_58 h_59 h_60 h_61 h_62 h_64 h_8 h_45 h_63; omega) | omega, by first | exact q_69efb464e h_51 | (clear h_1 hg_e1 h_2 hr_e1 h_3 hg_a9 h_4 hg_f0 h_5 h_6 h_7 h_14 h_50 h_52 h_53 h_54 h_55 h_56 h_57 h_58 h_59 h_60 h_61 h_62 h_64 h_8 h_45 h_63; omega) | omega⟩) (Or.inr (Or.inl (by first | exact q_e2d2b4ae2 h_51 | (clear h_1 hg_e1 h_2 hr_e1 h_3 hg_a9 h_4 hg_f0 h_5 h_6 h_7 h_14 h_50 h_52 h_53 h_54 h_55 h_56 h_57 h_58 h_59 h_60 h_61 h_62 h_64 h_8 h_45 h_63; omega) | omega))) (Or.inr (Or.inl (by first | exact q_e2d2b4ae2 h_51 | (clear h_1 hg_e1 h_2 hr_e1 h_3 hg_a9 h_4 hg_f0 h_5 h_6 h_7 h_14 h_50 h_52 h_53 h_54 h_55 h_56 h_57 h_58 h_59 h_60 h_61 h_62 h_64 h_8 h_45 h_63; omega) | omega)))
      · refine v_ic_ne_f (t := 49) c_4_34 rfl (Decidable.not_not.mp h_45) (q_aload_n c_4_37 rfl (q_dup c_4_38 rfl (v_gi (z := 2) (v := (nx F e1 a9)) c_4_39 kf_5_35 rfl (Nat.le_of_ble_eq_true rfl) rfl rfl (hz_12) (q_iconst c_4_42 (v_iadd (v := (nx F e1 a9) + 1) c_4_43 rfl (v_pi (z := 2) c_4_44 kf_5_35 rfl (Nat.le_of_ble_eq_true rfl) rfl rfl rfl (by decide) (q_iload_n c_4_47 rfl ?_)))))))
        refine q_iret c_4_48 rfl (bk_inl (q_iconst c_11_12 (v_ic_ne_t (t := 25) c_11_13 rfl (by decide) (q_vret c_11_25 rfl ?_))))
        have hI_75 := iw_1_2 (v := (nx F e1 a9) + 1) hI_10 ⟨by first | exact q_e260493d5 h_3 h_6 hg_a9 | (clear h_1 hg_e1 h_2 hr_e1 h_4 hg_f0 h_5 h_7 h_14 h_45 h_8; omega) | omega, by first | exact q_6ea34058e h_14 h_2 hr_e1 | (clear h_1 hg_e1 h_3 hg_a9 h_4 hg_f0 h_5 h_6 h_7 h_45 h_8; omega) | omega⟩
        intro hE_76
        have hW : Wd P Q P P (up c_9 1 2 ((nx F e1 a9) + 1)) = Wd P Q P P m9 := (Prod.mk.inj (Prod.mk.inj hE_76).2).1
        have kn_77 : Hid (c_9 1 4 = 0) := (hF_11 1 4 (fun h => absurd h.2 (ni rfl))).trans (hs9)
        have h_78 := ir_1_4 hJ9
        have h_79 : m9 1 4 = 0 := wd_fv (z := 4) 4 rfl hW rfl rfl rfl rfl (by decide) ((up_n (by decide)).trans (hid kn_77)) ⟨by decide, by decide⟩ ⟨(Int.le_trans (by decide) h_78.1), (Int.le_trans h_78.2 (by decide))⟩
        have h_80 := ir_1_2 hJ9
        have h_81 : m9 1 2 = (nx F e1 a9) + 1 := wd_fv (z := 2) 2 rfl hW rfl rfl rfl rfl (by decide) (up_e rfl) ⟨by first | exact q_86633cc1b h_3 h_6 hg_a9 | (clear h_1 hg_e1 h_2 hr_e1 h_4 hg_f0 h_5 h_7 h_14 h_45 h_78 h_79 h_80 h_8; omega) | omega, by first | exact q_1da59465c h_14 h_2 hr_e1 | (clear h_1 hg_e1 h_3 hg_a9 h_4 hg_f0 h_5 h_6 h_7 h_45 h_78 h_79 h_80 h_8; omega) | omega⟩ ⟨(Int.le_trans (by decide) h_80.1), (Int.le_trans h_80.2 (by decide))⟩
        have kn_82 : Hid (c_9 1 5 = (-1)) := (hF_11 1 5 (fun h => absurd h.2 (ni rfl))).trans (hs8)
        have h_83 := ir_1_5 hJ9
        have h_84 : m9 1 5 = (-1) := wd_fv (z := 5) 5 rfl hW rfl rfl rfl rfl (by decide) ((up_n (by decide)).trans (hid kn_82)) ⟨by decide, by decide⟩ ⟨(Int.le_trans (by decide) h_83.1), (Int.le_trans h_83.2 (by decide))⟩
        refine q_aload_n c_161_0 rfl (v_cv c_161_1 km_8_131 rfl rfl (Nat.le_of_ble_eq_true rfl) ⟨⟨rfl, rfl⟩, Nat.le_of_ble_eq_true rfl, rfl⟩ (Nat.le_of_ble_eq_true rfl) (Nat.le_of_ble_eq_true rfl) (q_aload_n c_152_0 rfl ?_))
        have h_85 := ir_41_5 hI
        have h_86 := ir_1_5 hJ
        have h_87 := ir_41_4 hI
        have h_88 := ir_41_6 hI
        have h_89 := rt_ok hRt (by first | (clear h_1 hg_e1 h_2 hr_e1 h_3 hg_a9 hg_f0 h_5 h_6 h_7 h_14 h_45 h_78 h_79 h_80 h_81 h_83 h_84 h_85 h_86 h_87 h_88 h_8; omega) | omega)
        have hro_hRt := rt_ok hRt (by first | decide | (clear h_1 hg_e1 h_2 hr_e1 h_3 hg_a9 h_4 hg_f0 h_5 h_6 h_7 h_14 h_45 h_78 h_79 h_80 h_81 h_83 h_84 h_85 h_86 h_87 h_88 h_89 h_8; omega) | omega)
        refine v_gi (z := 5) (v := (-1)) c_152_1 kf_8_102 rfl (Nat.le_of_ble_eq_true rfl) rfl rfl hro_hRt.2.1 (q_iconst c_152_4 (v_ic_ne_f (t := 12) c_152_5 rfl (by decide) (q_iconst c_152_8 (q_goto (t := 13) c_152_9 rfl (v_zret c_152_13 rfl (by decide) (bk_inl (v_if_eq_f (t := 24) c_161_4 rfl (by decide) ?_)))))))
        refine q_aload_n c_161_7 rfl ?_
        have h_90 : -2147483648 ≤ (H (nx F e1 a9)) ∧ (H (nx F e1 a9)) ≤ 2147483647 := by rw [← hH (nx F e1 a9)]; exact ir_43 hI (nx F e1 a9)
        have h_91 := hU (nx F e1 a9) (by first | exact q_828522d69 h_3 h_6 hg_a9 | (clear h_1 hg_e1 h_2 hr_e1 h_4 hg_f0 h_5 h_7 h_14 h_45 h_78 h_79 h_80 h_81 h_83 h_84 h_85 h_86 h_87 h_88 h_89 h_90 h_8; omega) | omega) (by first | exact q_b03d63f6f h_80 h_81 | (clear h_1 hg_e1 h_2 hr_e1 h_3 hg_a9 h_4 hg_f0 h_5 h_6 h_7 h_14 h_45 h_78 h_79 h_83 h_84 h_85 h_86 h_87 h_88 h_89 h_90 h_8; omega) | omega)
        have h_92 := hb_or (b := H) (e := e1) (r := (nx F e1 a9))
        have h_93 := hb_bd (b := H) (e := e1) (r := (nx F e1 a9)) (lo := -2147483648) (hi := 2147483647) h_90 (by decide)
        refine v_cv c_161_8 km_8_114 rfl rfl (Nat.le_of_ble_eq_true rfl) ⟨⟨rfl, rfl⟩, Nat.le_of_ble_eq_true rfl, rfl⟩ (Nat.le_of_ble_eq_true rfl) (Nat.le_of_ble_eq_true rfl) (f_154 (e1 := e1) (a9 := a9) (B := H) (r8 := (nx F e1 a9)) (r := (hb H e1 (nx F e1 a9))) hI ((hr_e1)) (((hro_hRt.2.2.1).trans ((hg_a9)))) (fun j => hH j) ((nx_tr hU ((rg_eq hg_a9 h_3).1) ((rg_eq hg_e1 h_1).2)).trans (rfl)) rfl (fun c_94 hI_95 hF_96 h_97 => (bk_inl (q_iload_n c_161_11 rfl (v_ic_eq_t (t := 24) c_161_12 rfl (by first | (clear h_3 h_4 hg_f0 h_5 h_78 h_79 h_83 h_84 h_85 h_86 h_87 h_88 h_89; omega) | omega) (q_aload_n c_161_24 rfl (v_cv c_161_25 km_8_131 rfl rfl (Nat.le_of_ble_eq_true rfl) ⟨⟨rfl, rfl⟩, Nat.le_of_ble_eq_true rfl, rfl⟩ (Nat.le_of_ble_eq_true rfl) (Nat.le_of_ble_eq_true rfl) (q_aload_n c_152_0 rfl ?_))))))))
        have kn_98 : Hid (c_94 41 5 = (-1)) := (hF_96 41 5 (fun h => absurd h.2 (ni rfl))).trans hro_hRt.2.1
        refine v_gi (z := 5) (v := (-1)) c_152_1 kf_8_102 rfl (Nat.le_of_ble_eq_true rfl) rfl rfl (hid kn_98) (q_iconst c_152_4 (v_ic_ne_f (t := 12) c_152_5 rfl (by decide) (q_iconst c_152_8 (q_goto (t := 13) c_152_9 rfl (v_zret c_152_13 rfl (by decide) (bk_inl (v_if_eq_f (t := 41) c_161_28 rfl (by decide) ?_)))))))
        refine q_aload_n c_161_31 rfl (q_dup c_161_32 rfl (v_gi (z := 4) (v := (nx F e1 a9)) c_161_33 kf_8_108 rfl (Nat.le_of_ble_eq_true rfl) rfl rfl (h_97) (q_iconst c_161_36 (v_iadd (v := (nx F e1 a9) + 1) c_161_37 rfl (v_pi (z := 4) c_161_38 kf_8_108 rfl (Nat.le_of_ble_eq_true rfl) rfl rfl rfl (by decide) (q_vret c_161_41 rfl ?_))))))
        have hI_99 := iw_41_4 (v := (nx F e1 a9) + 1) hI_95 ⟨by first | exact q_e260493d5 h_3 h_6 hg_a9 | (clear h_1 hg_e1 h_2 hr_e1 h_4 hg_f0 h_5 h_7 h_14 h_45 h_78 h_79 h_80 h_81 h_83 h_84 h_85 h_86 h_87 h_88 h_89 h_90 h_91 h_93 h_8 h_92; omega) | omega, by first | exact q_369ecf7f1 h_80 h_81 | (clear h_1 hg_e1 h_2 hr_e1 h_3 hg_a9 h_4 hg_f0 h_5 h_6 h_7 h_14 h_45 h_78 h_79 h_83 h_84 h_85 h_86 h_87 h_88 h_89 h_90 h_91 h_93 h_8 h_92; omega) | omega⟩
        have h_100 : (up c_94 41 4 ((nx F e1 a9) + 1)) 41 5 = (-1) := ((up_n (by decide)).trans (hid kn_98))
        have h_101 : (up c_94 41 4 ((nx F e1 a9) + 1)) 41 4 = (nx F e1 a9) + 1 := (up_e rfl)
        have kn_102 : Hid (c_94 41 6 = c 41 6) := hF_96 41 6 (fun h => absurd h.2 (ni rfl))
        have h_103 : (up c_94 41 4 ((nx F e1 a9) + 1)) 41 6 = c 41 6 := ((up_n (by decide)).trans (hid kn_102))
        exact K (up c_94 41 4 ((nx F e1 a9) + 1))  hI_99 (fun a j hm => (up_b (Decidable.or_iff_not_imp_left.mpr (fun h1 h2 => hm (Or.inl ⟨Decidable.not_not.mp h1, h2⟩)))).trans (hF_96 a j (fun h => hm (Or.inl h)))) (rt_i1 ⟨by first | exact q_f6b658f58 h_78 h_79 | (clear h_1 hg_e1 h_2 hr_e1 h_3 hg_a9 h_4 hg_f0 h_5 h_6 h_7 h_14 h_45 h_80 h_81 h_83 h_84 h_85 h_86 h_87 h_88 h_89 h_90 h_91 h_93 h_8 h_92; omega) | omega, by first | decide | (clear h_1 hg_e1 h_2 hr_e1 h_3 hg_a9 h_4 hg_f0 h_5 h_6 h_7 h_14 h_45 h_78 h_79 h_80 h_81 h_83 h_84 h_85 h_86 h_87 h_88 h_89 h_90 h_91 h_93 h_8 h_92; omega) | omega, by first | exact q_58a890de0 h_81 | (clear h_1 hg_e1 h_2 hr_e1 h_3 hg_a9 h_4 hg_f0 h_5 h_6 h_7 h_14 h_45 h_78 h_79 h_80 h_83 h_84 h_85 h_86 h_87 h_88 h_89 h_90 h_91 h_93 h_8 h_92; omega) | omega, by first | exact q_f39655ca6 h_83 h_84 | (clear h_1 hg_e1 h_2 hr_e1 h_3 hg_a9 h_4 hg_f0 h_5 h_6 h_7 h_14 h_45 h_78 h_79 h_80 h_81 h_85 h_86 h_87 h_88 h_89 h_90 h_91 h_93 h_8 h_92; omega) | omega⟩) (Or.inr (Or.inr ⟨by first | exact q_1caa53e22 h_6 h_81 | (clear h_1 hg_e1 h_2 hr_e1 h_3 hg_a9 h_4 hg_f0 h_5 h_7 h_14 h_45 h_78 h_79 h_80 h_83 h_84 h_85 h_86 h_87 h_88 h_89 h_90 h_91 h_93 h_8 h_92; omega) | omega, by first | exact q_639ed28ca h_14 h_81 | (clear h_1 hg_e1 h_2 hr_e1 h_3 hg_a9 h_4 hg_f0 h_5 h_6 h_7 h_45 h_78 h_79 h_80 h_83 h_84 h_85 h_86 h_87 h_88 h_89 h_90 h_91 h_93 h_8 h_92; omega) | omega⟩)) (Or.inr (Or.inr (by first | (clear h_1 hg_e1 h_2 hr_e1 h_3 hg_a9 h_5 h_6 h_7 h_14 h_45 h_78 h_79 h_80 h_81 h_83 h_84 h_85 h_86 h_87 h_88 h_89 h_90 h_91 h_93 h_8 h_92; omega) | omega)))
  · skip
    refine q_aload_n c_11_0 rfl (v_cv c_11_1 km_5_45 rfl rfl (Nat.le_of_ble_eq_true rfl) ⟨⟨rfl, rfl⟩, Nat.le_of_ble_eq_true rfl, rfl⟩ (Nat.le_of_ble_eq_true rfl) (Nat.le_of_ble_eq_true rfl) (q_aload_n c_2_0 rfl (v_gi (z := 4) (v := f0) c_2_1 kf_5_38 rfl (Nat.le_of_ble_eq_true rfl) rfl rfl (hg_f0) (v_if_ne_t (t := 11) c_2_4 rfl ⟨by omega, ⟨(Int.le_trans (by decide) (rg_eq hg_f0 h_4).1), (Int.le_trans (rg_eq hg_f0 h_4).2 (by decide))⟩, by decide, by decide⟩ (q_iconst c_2_11 (v_zret c_2_12 rfl (by decide) (bk_inl ?_)))))))
    refine v_if_eq_t (t := 25) c_11_4 rfl (by decide) (q_vret c_11_25 rfl ?_)
    intro hE_104
    have hW : Wd P Q P P m = Wd P Q P P m9 := (Prod.mk.inj (Prod.mk.inj hE_104).2).1
    have h_105 := ir_1_4 hJ9
    have h_106 : m9 1 4 = f0 := wd_fv (z := 4) 4 rfl hW rfl rfl rfl rfl (by decide) (hg_f0) ⟨(Int.le_trans (by decide) (rg_eq hg_f0 h_4).1), (Int.le_trans (rg_eq hg_f0 h_4).2 (by decide))⟩ ⟨(Int.le_trans (by decide) h_105.1), (Int.le_trans h_105.2 (by decide))⟩
    have h_107 := ir_1_2 hJ9
    have h_108 : m9 1 2 = a9 := wd_fv (z := 2) 2 rfl hW rfl rfl rfl rfl (by decide) (hg_a9) ⟨(Int.le_trans (by decide) (rg_eq hg_a9 h_3).1), (Int.le_trans (rg_eq hg_a9 h_3).2 (by decide))⟩ ⟨(Int.le_trans (by decide) h_107.1), (Int.le_trans h_107.2 (by decide))⟩
    have h_109 := ir_1_5 hJ
    have h_110 := ir_1_5 hJ9
    have h_111 : m9 1 5 = m 1 5 := wd_fv (z := 5) 5 rfl hW rfl rfl rfl rfl (by decide) rfl ⟨(Int.le_trans (by decide) h_109.1), (Int.le_trans h_109.2 (by decide))⟩ ⟨(Int.le_trans (by decide) h_110.1), (Int.le_trans h_110.2 (by decide))⟩
    refine q_aload_n c_161_0 rfl (v_cv c_161_1 km_8_131 rfl rfl (Nat.le_of_ble_eq_true rfl) ⟨⟨rfl, rfl⟩, Nat.le_of_ble_eq_true rfl, rfl⟩ (Nat.le_of_ble_eq_true rfl) (Nat.le_of_ble_eq_true rfl) (q_aload_n c_152_0 rfl ?_))
    have h_112 := ir_41_5 hI
    have h_113 := ir_41_4 hI
    have h_114 := ir_41_6 hI
    have h_115 := rt_bad hRt (by first | (clear h_1 hg_e1 h_2 hr_e1 h_3 hg_a9 h_4 hg_f0 h_105 h_106 h_107 h_108 h_109 h_110 h_111 h_112 h_113 h_114; omega) | omega)
    have hrb_hRt := rt_bad hRt (by first | exact q_5e082ea92 h_115 hg_f0 | (clear h_1 hg_e1 h_2 hr_e1 h_3 hg_a9 h_4 h_105 h_106 h_107 h_108 h_109 h_110 h_111 h_112 h_113 h_114; omega) | omega)
    refine v_gi (z := 5) (v := m 1 5) c_152_1 kf_8_102 rfl (Nat.le_of_ble_eq_true rfl) rfl rfl hrb_hRt.2.1 (q_iconst c_152_4 (v_ic_ne_t (t := 12) c_152_5 rfl ⟨by first | exact q_0f78863d3 h_115 | (clear h_1 hg_e1 h_2 hr_e1 h_3 hg_a9 h_4 hg_f0 h_105 h_106 h_107 h_108 h_109 h_110 h_111 h_112 h_113 h_114; omega) | omega, ⟨(Int.le_trans (by decide) h_109.1), (Int.le_trans h_109.2 (by decide))⟩, by decide, by decide⟩ (q_iconst c_152_12 (v_zret c_152_13 rfl (by decide) (bk_inl (v_if_eq_t (t := 24) c_161_4 rfl (by decide) (q_aload_n c_161_24 rfl ?_)))))))
    refine v_cv c_161_25 km_8_131 rfl rfl (Nat.le_of_ble_eq_true rfl) ⟨⟨rfl, rfl⟩, Nat.le_of_ble_eq_true rfl, rfl⟩ (Nat.le_of_ble_eq_true rfl) (Nat.le_of_ble_eq_true rfl) (q_aload_n c_152_0 rfl (v_gi (z := 5) (v := m 1 5) c_152_1 kf_8_102 rfl (Nat.le_of_ble_eq_true rfl) rfl rfl hrb_hRt.2.1 (q_iconst c_152_4 (v_ic_ne_t (t := 12) c_152_5 rfl ⟨by first | exact q_0f78863d3 h_115 | (clear h_1 hg_e1 h_2 hr_e1 h_3 hg_a9 h_4 hg_f0 h_105 h_106 h_107 h_108 h_109 h_110 h_111 h_112 h_113 h_114; omega) | omega, ⟨(Int.le_trans (by decide) h_109.1), (Int.le_trans h_109.2 (by decide))⟩, by decide, by decide⟩ (q_iconst c_152_12 (v_zret c_152_13 rfl (by decide) (bk_inl ?_)))))))
    refine v_if_eq_t (t := 41) c_161_28 rfl (by decide) (q_vret c_161_41 rfl ?_)
    have h_116 : c 41 5 = m 1 5 := hrb_hRt.2.1
    have h_117 : c 41 6 = f0 := ((hrb_hRt.2.2.2).trans ((hg_f0)))
    exact K c  hI (fun a j hm => rfl) (rt_i2 ⟨⟨by first | exact q_3b8ab523e h_106 h_115 hg_f0 | (clear h_1 hg_e1 h_2 hr_e1 h_3 hg_a9 h_4 h_105 h_107 h_108 h_109 h_110 h_111 h_112 h_113 h_114; omega) | omega, by first | exact q_c99d6ea93 h_105 | (clear h_1 hg_e1 h_2 hr_e1 h_3 hg_a9 h_4 hg_f0 h_106 h_107 h_108 h_109 h_110 h_111 h_112 h_113 h_114 h_115; omega) | omega⟩, by first | exact q_88dc5fb99 h_111 | (clear h_1 hg_e1 h_2 hr_e1 h_3 hg_a9 h_4 hg_f0 h_105 h_106 h_107 h_108 h_109 h_110 h_112 h_113 h_114 h_115; omega) | omega, by first | exact q_cb71117a2 h_111 h_115 | (clear h_1 hg_e1 h_2 hr_e1 h_3 hg_a9 h_4 hg_f0 h_105 h_106 h_107 h_108 h_109 h_110 h_112 h_113 h_114; omega) | omega, by first | exact q_88dc5fb99 h_106 | (clear h_1 hg_e1 h_2 hr_e1 h_3 hg_a9 h_4 hg_f0 h_105 h_107 h_108 h_109 h_110 h_111 h_112 h_113 h_114 h_115; omega) | omega⟩) (Or.inr (Or.inl (by first | exact q_2ce17e943 h_106 h_115 hg_f0 | (clear h_1 hg_e1 h_2 hr_e1 h_3 hg_a9 h_4 h_105 h_107 h_108 h_109 h_110 h_111 h_112 h_113 h_114; omega) | omega))) (Or.inr (Or.inl (by first | exact q_2ce17e943 h_106 h_115 hg_f0 | (clear h_1 hg_e1 h_2 hr_e1 h_3 hg_a9 h_4 h_105 h_107 h_108 h_109 h_110 h_111 h_112 h_113 h_114; omega) | omega)))

set_option maxRecDepth 100000 in
set_option maxHeartbeats 4000000 in
theorem L_11_12 {sc : List Int32} {e eg : Int} {d dh u ug P Q P2 Q2 : Nat} {c m m9 : ME} {e1 a9 f0 : Int} {F H : Int → Int} {Z : AR → Prop} (hI : Iv u e P2 Q2 c) (hJ : Iv ug eg P Q m) (hJ9 : Iv ug eg P Q m9) (hg_e1 : m 1 1 = e1) (hr_e1 : c 41 3 = e1) (hg_a9 : m 1 2 = a9) (hg_f0 : m 1 4 = f0) (hF : ∀ j : Int, m 2 j = F j) (hH : ∀ j : Int, c 43 j = H j) (hU : Ub F H) (hRt : Rt m c) (hG : Wp sc (dh + 14) 11 0 [(0, .ref 1), (1, .ref (a_SB + 12))] [] (Wd P Q P P m) 0 0 (fun q => q = (.inl (none), Wd P Q P P m9, 0, 0))) (K : ∀ (c2 : ME), Iv u e P2 Q2 c2 → (∀ (a : Nat) (j : Int), ¬ ((a = 41 ∧ j = 4) ∨ (a = 41 ∧ j = 5) ∨ (a = 41 ∧ j = 6)) → c2 a j = c a j) → (Rt m9 c2) → ((m9 1 4 < 0) ∨ (m9 1 4 > 0) ∨ (m9 1 2 > a9 ∧ m9 1 2 ≤ e1)) → ((m9 1 4 < 0) ∨ (m9 1 4 > 0) ∨ (f0 = 0)) → Z (.inl (none), Wd P2 Q2 P2 P2 c2, 0, 0)) : Wp sc (d + 14) 161 0 [(0, .ref 41), (1, vi 93)] [] (Wd P2 Q2 P2 P2 c) 0 0 Z := by
  have hP := iv_P hJ
  have hQ := iv_Q hJ
  have h_1 := ir_1_1 hJ
  have h_2 := ir_41_3 hI
  have h_3 := ir_1_2 hJ
  have h_4 := ir_1_4 hJ
  refine gh hG ?_
  by_cases hs9 : m 1 4 = 0
  · skip
    have hs8 := (rt_ok hRt hs9).2.2.2
    refine q_aload_n c_11_0 rfl (v_cv c_11_1 km_5_45 rfl rfl (Nat.le_of_ble_eq_true rfl) ⟨⟨rfl, rfl⟩, Nat.le_of_ble_eq_true rfl, rfl⟩ (Nat.le_of_ble_eq_true rfl) (Nat.le_of_ble_eq_true rfl) (q_aload_n c_2_0 rfl (v_gi (z := 4) (v := 0) c_2_1 kf_5_38 rfl (Nat.le_of_ble_eq_true rfl) rfl rfl (hs9) (v_if_ne_f (t := 11) c_2_4 rfl (by decide) (q_iconst c_2_7 (q_goto (t := 12) c_2_8 rfl (v_zret c_2_12 rfl (by decide) ?_)))))))
    refine bk_inl (v_if_eq_f (t := 25) c_11_4 rfl (by decide) (q_aload_n c_11_7 rfl (q_aload_n c_11_8 rfl (v_cv c_11_9 km_5_65 rfl rfl (Nat.le_of_ble_eq_true rfl) ⟨⟨rfl, rfl⟩, Nat.le_of_ble_eq_true rfl, rfl⟩ (Nat.le_of_ble_eq_true rfl) (Nat.le_of_ble_eq_true rfl) (q_aload_n c_4_0 rfl ?_)))))
    have h_5 : -2147483648 ≤ (F a9) ∧ (F a9) ≤ 2147483647 := by rw [← hF a9]; exact ir_2 hJ a9
    have h_6 := nx_bd (b := F) (e := e1) (a := a9)
    have h_7 : -2147483648 ≤ (F (nx F e1 a9)) ∧ (F (nx F e1 a9)) ≤ 2147483647 := by rw [← hF (nx F e1 a9)]; exact ir_2 hJ (nx F e1 a9)
    have h_8 := nx_n (b := F) (e := e1) (a := a9)
    refine v_cv c_4_1 km_5_41 rfl rfl (Nat.le_of_ble_eq_true rfl) ⟨⟨rfl, rfl⟩, Nat.le_of_ble_eq_true rfl, rfl⟩ (Nat.le_of_ble_eq_true rfl) (Nat.le_of_ble_eq_true rfl) (f_3 (e1 := e1) (a9 := a9) (B := F) (r8 := (nx F e1 a9)) hJ ((hg_e1)) ((hg_a9)) (fun j => hF j) rfl (fun c_9 hI_10 hF_11 hz_12 => (bk_inl (q_istore_n c_4_4 (Nat.le_of_ble_eq_true rfl) (q_iconst c_4_5 (q_istore_n c_4_6 (Nat.le_of_ble_eq_true rfl) (q_iload_n c_4_7 rfl (q_aload_n c_4_8 rfl (v_sln 1 c_4_9 rfl (by omega) (Nat.le_of_ble_eq_true rfl) (by decide) (by decide) ?_)))))))))
    refine v_ic_ge_f (t := 55) c_4_12 rfl (by decide) (q_iload_n c_4_15 rfl (q_aload_n c_4_16 rfl ?_))
    have kn_13 : Hid (c_9 1 1 = e1) := (hF_11 1 1 (fun h => absurd h.2 (ni rfl))).trans (hg_e1)
    refine v_gi (z := 1) (v := e1) c_4_17 kf_5_32 rfl (Nat.le_of_ble_eq_true rfl) rfl rfl (hid kn_13) ?_
    by_cases h_14 : (nx F e1 a9) ≥ e1
    · refine v_ic_ge_t (t := 55) c_4_20 rfl ⟨(Int.le_trans (by decide) (rg_eq hg_e1 h_1).1), h_14, by first | exact q_b3bd846dd h_2 h_3 h_6 hg_a9 hr_e1 | (clear h_1 hg_e1 h_4 hg_f0 h_5 h_7 h_8; omega) | omega⟩ (q_iconst c_4_55 (q_iret c_4_56 rfl (bk_inl (q_iconst c_11_12 (v_ic_ne_f (t := 25) c_11_13 rfl (by decide) (q_aload_n c_11_16 rfl (q_iconst c_11_17 ?_)))))))
      refine q_aload_n c_11_18 rfl (v_gi (z := 2) (v := (nx F e1 a9)) c_11_19 kf_5_35 rfl (Nat.le_of_ble_eq_true rfl) rfl rfl (hz_12) (v_cv c_11_22 km_5_52 rfl rfl (Nat.le_of_ble_eq_true rfl) ⟨⟨rfl, rfl⟩, Nat.le_of_ble_eq_true rfl, rfl⟩ (Nat.le_of_ble_eq_true rfl) (Nat.le_of_ble_eq_true rfl) (q_aload_n c_7_0 rfl ?_)))
      have kn_15 : Hid (c_9 1 4 = 0) := (hF_11 1 4 (fun h => absurd h.2 (ni rfl))).trans (hs9)
      refine v_gi (z := 4) (v := 0) c_7_1 kf_5_38 rfl (Nat.le_of_ble_eq_true rfl) rfl rfl (hid kn_15) (v_if_ne_f (t := 17) c_7_4 rfl (by decide) (q_aload_n c_7_7 rfl (q_iload_n c_7_8 rfl (v_pi (z := 4) c_7_9 kf_5_38 rfl (Nat.le_of_ble_eq_true rfl) rfl rfl rfl (by decide) (q_aload_n c_7_12 rfl (q_iload_n c_7_13 rfl (v_pi (z := 5) c_7_14 kf_5_15 rfl (Nat.le_of_ble_eq_true rfl) rfl rfl rfl (by decide) ?_)))))))
      refine q_vret c_7_17 rfl (bk_inl (q_vret c_11_25 rfl ?_))
      have hI_16 := iw_1_4 (v := 1) hI_10 ⟨by decide, by decide⟩
      have hI_17 := iw_1_5 (v := (nx F e1 a9)) hI_16 ⟨by first | exact q_e3021f629 h_3 h_6 hg_a9 | (clear h_1 hg_e1 h_2 hr_e1 h_4 hg_f0 h_5 h_7 h_14 h_8; omega) | omega, by first | exact q_f657906b2 h_2 h_3 h_6 hg_a9 hr_e1 | (clear h_1 hg_e1 h_4 hg_f0 h_5 h_7 h_14 h_8; omega) | omega⟩
      intro hE_18
      have hW : Wd P Q P P (up (up c_9 1 4 1) 1 5 (nx F e1 a9)) = Wd P Q P P m9 := (Prod.mk.inj (Prod.mk.inj hE_18).2).1
      have h_19 := ir_1_4 hJ9
      have h_20 : m9 1 4 = 1 := wd_fv (z := 4) 4 rfl hW rfl rfl rfl rfl (by decide) ((up_n (by decide)).trans (up_e rfl)) ⟨by decide, by decide⟩ ⟨(Int.le_trans (by decide) h_19.1), (Int.le_trans h_19.2 (by decide))⟩
      have h_21 := ir_1_2 hJ9
      have h_22 : m9 1 2 = (nx F e1 a9) := wd_fv (z := 2) 2 rfl hW rfl rfl rfl rfl (by decide) ((up_n (by decide)).trans ((up_n (by decide)).trans (hz_12))) ⟨by first | exact q_a3bce4abb h_3 h_6 hg_a9 | (clear h_1 hg_e1 h_2 hr_e1 h_4 hg_f0 h_5 h_7 h_14 h_19 h_20 h_21 h_8; omega) | omega, by first | exact q_b3bd846dd h_2 h_3 h_6 hg_a9 hr_e1 | (clear h_1 hg_e1 h_4 hg_f0 h_5 h_7 h_14 h_19 h_20 h_21 h_8; omega) | omega⟩ ⟨(Int.le_trans (by decide) h_21.1), (Int.le_trans h_21.2 (by decide))⟩
      have h_23 := ir_1_5 hJ9
      have h_24 : m9 1 5 = (nx F e1 a9) := wd_fv (z := 5) 5 rfl hW rfl rfl rfl rfl (by decide) (up_e rfl) ⟨by first | exact q_17990f574 h_21 h_22 | (clear h_1 hg_e1 h_2 hr_e1 h_3 hg_a9 h_4 hg_f0 h_5 h_6 h_7 h_14 h_19 h_20 h_23 h_8; omega) | omega, by first | exact q_757c304f4 h_21 h_22 | (clear h_1 hg_e1 h_2 hr_e1 h_3 hg_a9 h_4 hg_f0 h_5 h_6 h_7 h_14 h_19 h_20 h_23 h_8; omega) | omega⟩ ⟨(Int.le_trans (by decide) h_23.1), (Int.le_trans h_23.2 (by decide))⟩
      refine q_aload_n c_161_0 rfl (v_cv c_161_1 km_8_131 rfl rfl (Nat.le_of_ble_eq_true rfl) ⟨⟨rfl, rfl⟩, Nat.le_of_ble_eq_true rfl, rfl⟩ (Nat.le_of_ble_eq_true rfl) (Nat.le_of_ble_eq_true rfl) (q_aload_n c_152_0 rfl ?_))
      have h_25 := ir_41_5 hI
      have h_26 := ir_1_5 hJ
      have h_27 := ir_41_4 hI
      have h_28 := ir_41_6 hI
      have h_29 := rt_ok hRt (by first | (clear h_1 hg_e1 h_2 hr_e1 h_3 hg_a9 hg_f0 h_5 h_6 h_7 h_14 h_19 h_20 h_21 h_22 h_23 h_24 h_25 h_26 h_27 h_28 h_8; omega) | omega)
      have hro_hRt := rt_ok hRt (by first | decide | (clear h_1 hg_e1 h_2 hr_e1 h_3 hg_a9 h_4 hg_f0 h_5 h_6 h_7 h_14 h_19 h_20 h_21 h_22 h_23 h_24 h_25 h_26 h_27 h_28 h_29 h_8; omega) | omega)
      refine v_gi (z := 5) (v := (-1)) c_152_1 kf_8_102 rfl (Nat.le_of_ble_eq_true rfl) rfl rfl hro_hRt.2.1 (q_iconst c_152_4 (v_ic_ne_f (t := 12) c_152_5 rfl (by decide) (q_iconst c_152_8 (q_goto (t := 13) c_152_9 rfl (v_zret c_152_13 rfl (by decide) (bk_inl (v_if_eq_f (t := 24) c_161_4 rfl (by decide) ?_)))))))
      refine q_aload_n c_161_7 rfl ?_
      have h_30 : -2147483648 ≤ (H (nx F e1 a9)) ∧ (H (nx F e1 a9)) ≤ 2147483647 := by rw [← hH (nx F e1 a9)]; exact ir_43 hI (nx F e1 a9)
      have h_31 : (nx F e1 a9) < 600 → (H (nx F e1 a9)) = (F (nx F e1 a9)) % 256 ∧ -128 ≤ (F (nx F e1 a9)) ∧ (F (nx F e1 a9)) ≤ 127 := fun q => hU (nx F e1 a9) (by omega) q
      have h_32 := hb_or (b := H) (e := e1) (r := (nx F e1 a9))
      have h_33 := hb_bd (b := H) (e := e1) (r := (nx F e1 a9)) (lo := -2147483648) (hi := 2147483647) h_30 (by decide)
      refine v_cv c_161_8 km_8_114 rfl rfl (Nat.le_of_ble_eq_true rfl) ⟨⟨rfl, rfl⟩, Nat.le_of_ble_eq_true rfl, rfl⟩ (Nat.le_of_ble_eq_true rfl) (Nat.le_of_ble_eq_true rfl) (f_154 (e1 := e1) (a9 := a9) (B := H) (r8 := (nx F e1 a9)) (r := (hb H e1 (nx F e1 a9))) hI ((hr_e1)) (((hro_hRt.2.2.1).trans ((hg_a9)))) (fun j => hH j) ((nx_tr hU ((rg_eq hg_a9 h_3).1) ((rg_eq hg_e1 h_1).2)).trans (rfl)) rfl (fun c_34 hI_35 hF_36 h_37 => (bk_inl (q_iload_n c_161_11 rfl (v_ic_eq_f (t := 24) c_161_12 rfl ⟨by first | (clear h_1 hg_e1 h_2 hr_e1 h_3 hg_a9 h_4 hg_f0 h_5 h_6 h_7 h_19 h_20 h_21 h_22 h_23 h_24 h_25 h_26 h_27 h_28 h_29 h_30 h_33 h_8 h_31; omega) | omega, ⟨h_33.1, h_33.2⟩, by decide, by decide⟩ (q_aload_n c_161_15 rfl (q_iconst c_161_16 (q_aload_n c_161_17 rfl (v_gi (z := 4) (v := (nx F e1 a9)) c_161_18 kf_8_108 rfl (Nat.le_of_ble_eq_true rfl) rfl rfl (h_37) ?_)))))))))
      refine v_cv c_161_21 km_8_138 rfl rfl (Nat.le_of_ble_eq_true rfl) ⟨⟨rfl, rfl⟩, Nat.le_of_ble_eq_true rfl, rfl⟩ (Nat.le_of_ble_eq_true rfl) (Nat.le_of_ble_eq_true rfl) (q_aload_n c_153_0 rfl ?_)
      have kn_38 : Hid (c_34 41 5 = (-1)) := (hF_36 41 5 (fun h => absurd h.2 (ni rfl))).trans hro_hRt.2.1
      refine v_gi (z := 5) (v := (-1)) c_153_1 kf_8_102 rfl (Nat.le_of_ble_eq_true rfl) rfl rfl (hid kn_38) (q_iconst c_153_4 (v_ic_eq_t (t := 9) c_153_5 rfl (by decide) (q_aload_n c_153_9 rfl (q_iload_n c_153_10 rfl (v_pi (z := 5) c_153_11 kf_8_102 rfl (Nat.le_of_ble_eq_true rfl) rfl rfl rfl (by decide) (q_aload_n c_153_14 rfl (q_iload_n c_153_15 rfl ?_)))))))
      refine v_pi (z := 6) c_153_16 kf_8_105 rfl (Nat.le_of_ble_eq_true rfl) rfl rfl rfl (by decide) (q_vret c_153_19 rfl (bk_inl (q_aload_n c_161_24 rfl (v_cv c_161_25 km_8_131 rfl rfl (Nat.le_of_ble_eq_true rfl) ⟨⟨rfl, rfl⟩, Nat.le_of_ble_eq_true rfl, rfl⟩ (Nat.le_of_ble_eq_true rfl) (Nat.le_of_ble_eq_true rfl) (q_aload_n c_152_0 rfl (v_gi (z := 5) (v := (nx F e1 a9)) c_152_1 kf_8_102 rfl (Nat.le_of_ble_eq_true rfl) rfl rfl ((up_n (by decide)).trans (up_e rfl)) (q_iconst c_152_4 ?_)))))))
      refine v_ic_ne_t (t := 12) c_152_5 rfl ⟨by first | exact q_90762221b h_21 h_22 | (clear h_1 hg_e1 h_2 hr_e1 h_3 hg_a9 h_4 hg_f0 h_5 h_6 h_7 h_14 h_19 h_20 h_23 h_24 h_25 h_26 h_27 h_28 h_29 h_30 h_33 h_8 h_31 h_32; omega) | omega, ⟨by first | exact q_17990f574 h_21 h_22 | (clear h_1 hg_e1 h_2 hr_e1 h_3 hg_a9 h_4 hg_f0 h_5 h_6 h_7 h_14 h_19 h_20 h_23 h_24 h_25 h_26 h_27 h_28 h_29 h_30 h_33 h_8 h_31 h_32; omega) | omega, by first | exact q_757c304f4 h_21 h_22 | (clear h_1 hg_e1 h_2 hr_e1 h_3 hg_a9 h_4 hg_f0 h_5 h_6 h_7 h_14 h_19 h_20 h_23 h_24 h_25 h_26 h_27 h_28 h_29 h_30 h_33 h_8 h_31 h_32; omega) | omega⟩, by decide, by decide⟩ (q_iconst c_152_12 (v_zret c_152_13 rfl (by decide) (bk_inl (v_if_eq_t (t := 41) c_161_28 rfl (by decide) (q_vret c_161_41 rfl ?_)))))
      have hI_39 := iw_41_5 (v := (nx F e1 a9)) hI_35 ⟨by first | exact q_5ce231cbd h_21 h_22 | (clear h_1 hg_e1 h_2 hr_e1 h_3 hg_a9 h_4 hg_f0 h_5 h_6 h_7 h_14 h_19 h_20 h_23 h_24 h_25 h_26 h_27 h_28 h_29 h_30 h_33 h_8 h_31 h_32; omega) | omega, by first | exact q_6094bb0fa h_23 h_24 | (clear h_1 hg_e1 h_2 hr_e1 h_3 hg_a9 h_4 hg_f0 h_5 h_6 h_7 h_14 h_19 h_20 h_21 h_22 h_25 h_26 h_27 h_28 h_29 h_30 h_33 h_8 h_31 h_32; omega) | omega⟩
      have hI_40 := iw_41_6 (v := 1) hI_39 ⟨by decide, by decide⟩
      have h_41 : (up (up c_34 41 5 (nx F e1 a9)) 41 6 1) 41 5 = (nx F e1 a9) := ((up_n (by decide)).trans (up_e rfl))
      have h_42 : (up (up c_34 41 5 (nx F e1 a9)) 41 6 1) 41 4 = (nx F e1 a9) := ((up_n (by decide)).trans ((up_n (by decide)).trans (h_37)))
      have h_43 : (up (up c_34 41 5 (nx F e1 a9)) 41 6 1) 41 6 = 1 := (up_e rfl)
      exact K (up (up c_34 41 5 (nx F e1 a9)) 41 6 1)  hI_40 (fun a j hm => (up_b (Decidable.or_iff_not_imp_left.mpr (fun h1 h2 => hm (Or.inr (Or.inr ⟨Decidable.not_not.mp h1, h2⟩))))).trans ((up_b (Decidable.or_iff_not_imp_left.mpr (fun h1 h2 => hm (Or.inr (Or.inl ⟨Decidable.not_not.mp h1, h2⟩))))).trans (hF_36 a j (fun h => hm (Or.inl h))))) (rt_i2 ⟨⟨by first | exact q_5935f82f1 h_20 | (clear h_1 hg_e1 h_2 hr_e1 h_3 hg_a9 h_4 hg_f0 h_5 h_6 h_7 h_14 h_19 h_21 h_22 h_23 h_24 h_25 h_26 h_27 h_28 h_29 h_30 h_33 h_8 h_31 h_32; omega) | omega, by first | exact q_63461c6bf h_20 | (clear h_1 hg_e1 h_2 hr_e1 h_3 hg_a9 h_4 hg_f0 h_5 h_6 h_7 h_14 h_19 h_21 h_22 h_23 h_24 h_25 h_26 h_27 h_28 h_29 h_30 h_33 h_8 h_31 h_32; omega) | omega⟩, by first | exact q_88dc5fb99 h_24 | (clear h_1 hg_e1 h_2 hr_e1 h_3 hg_a9 h_4 hg_f0 h_5 h_6 h_7 h_14 h_19 h_20 h_21 h_22 h_23 h_25 h_26 h_27 h_28 h_29 h_30 h_33 h_8 h_31 h_32; omega) | omega, by first | exact q_a060fbdd4 h_21 h_22 h_24 | (clear h_1 hg_e1 h_2 hr_e1 h_3 hg_a9 h_4 hg_f0 h_5 h_6 h_7 h_14 h_19 h_20 h_23 h_25 h_26 h_27 h_28 h_29 h_30 h_33 h_8 h_31 h_32; omega) | omega, by first | exact q_69efb464e h_20 | (clear h_1 hg_e1 h_2 hr_e1 h_3 hg_a9 h_4 hg_f0 h_5 h_6 h_7 h_14 h_19 h_21 h_22 h_23 h_24 h_25 h_26 h_27 h_28 h_29 h_30 h_33 h_8 h_31 h_32; omega) | omega⟩) (Or.inr (Or.inl (by first | exact q_e2d2b4ae2 h_20 | (clear h_1 hg_e1 h_2 hr_e1 h_3 hg_a9 h_4 hg_f0 h_5 h_6 h_7 h_14 h_19 h_21 h_22 h_23 h_24 h_25 h_26 h_27 h_28 h_29 h_30 h_33 h_8 h_31 h_32; omega) | omega))) (Or.inr (Or.inl (by first | exact q_e2d2b4ae2 h_20 | (clear h_1 hg_e1 h_2 hr_e1 h_3 hg_a9 h_4 hg_f0 h_5 h_6 h_7 h_14 h_19 h_21 h_22 h_23 h_24 h_25 h_26 h_27 h_28 h_29 h_30 h_33 h_8 h_31 h_32; omega) | omega)))
    · refine v_ic_ge_f (t := 55) c_4_20 rfl ⟨by first | exact q_a3bce4abb h_3 h_6 hg_a9 | (clear h_1 hg_e1 h_2 hr_e1 h_4 hg_f0 h_5 h_7 h_8; omega) | omega, (Int.not_le.mp h_14), (Int.le_trans (rg_eq hg_e1 h_1).2 (by decide))⟩ (q_aload_n c_4_23 rfl (v_gr (t := 2) c_4_24 kf_5_9 rfl (Nat.le_of_ble_eq_true rfl) rfl (q_iload_n c_4_27 rfl ?_)))
      have kn_44 : Hid (c_9 2 (nx F e1 a9) = (F (nx F e1 a9))) := (hF_11 2 (nx F e1 a9) (fun h => absurd h.1 (nn rfl))).trans (hF (nx F e1 a9))
      refine v_ba (v := (F (nx F e1 a9))) c_4_28 rfl (by decide) (by decide) ⟨by first | exact q_828522d69 h_3 h_6 hg_a9 | (clear h_1 hg_e1 h_2 hr_e1 h_4 hg_f0 h_5 h_7 h_14 h_8; omega) | omega, by first | exact q_b867e77c7 h_14 h_2 hr_e1 | (clear h_1 hg_e1 h_3 hg_a9 h_4 hg_f0 h_5 h_6 h_7 h_8; omega) | omega⟩ (hid kn_44) (q_aload_n c_4_29 rfl (q_iload_n c_4_30 rfl (v_sch 93 c_4_31 rfl (by omega) (Nat.le_of_ble_eq_true rfl) (by decide) (by decide) (by decide) ?_)))
      by_cases h_45 : (F (nx F e1 a9)) ≠ 93
      · refine v_ic_ne_t (t := 49) c_4_34 rfl ⟨h_45, ⟨h_7.1, h_7.2⟩, by decide, by decide⟩ (v_iinc (v := 1) c_4_49 rfl (Nat.le_of_ble_eq_true rfl) (by decide) (q_goto (t := 7) c_4_52 rfl (q_iload_n c_4_7 rfl (q_aload_n c_4_8 rfl (v_sln 1 c_4_9 rfl (by omega) (Nat.le_of_ble_eq_true rfl) (by decide) (by decide) (v_ic_ge_t (t := 55) c_4_12 rfl (by decide) (q_iconst c_4_55 ?_)))))))
        refine q_iret c_4_56 rfl (bk_inl (q_iconst c_11_12 (v_ic_ne_f (t := 25) c_11_13 rfl (by decide) (q_aload_n c_11_16 rfl (q_iconst c_11_17 (q_aload_n c_11_18 rfl (v_gi (z := 2) (v := (nx F e1 a9)) c_11_19 kf_5_35 rfl (Nat.le_of_ble_eq_true rfl) rfl rfl (hz_12) ?_)))))))
        refine v_cv c_11_22 km_5_52 rfl rfl (Nat.le_of_ble_eq_true rfl) ⟨⟨rfl, rfl⟩, Nat.le_of_ble_eq_true rfl, rfl⟩ (Nat.le_of_ble_eq_true rfl) (Nat.le_of_ble_eq_true rfl) (q_aload_n c_7_0 rfl ?_)
        have kn_46 : Hid (c_9 1 4 = 0) := (hF_11 1 4 (fun h => absurd h.2 (ni rfl))).trans (hs9)
        refine v_gi (z := 4) (v := 0) c_7_1 kf_5_38 rfl (Nat.le_of_ble_eq_true rfl) rfl rfl (hid kn_46) (v_if_ne_f (t := 17) c_7_4 rfl (by decide) (q_aload_n c_7_7 rfl (q_iload_n c_7_8 rfl (v_pi (z := 4) c_7_9 kf_5_38 rfl (Nat.le_of_ble_eq_true rfl) rfl rfl rfl (by decide) (q_aload_n c_7_12 rfl (q_iload_n c_7_13 rfl (v_pi (z := 5) c_7_14 kf_5_15 rfl (Nat.le_of_ble_eq_true rfl) rfl rfl rfl (by decide) ?_)))))))
        refine q_vret c_7_17 rfl (bk_inl (q_vret c_11_25 rfl ?_))
        have hI_47 := iw_1_4 (v := 1) hI_10 ⟨by decide, by decide⟩
        have hI_48 := iw_1_5 (v := (nx F e1 a9)) hI_47 ⟨by first | exact q_e3021f629 h_3 h_6 hg_a9 | (clear h_1 hg_e1 h_2 hr_e1 h_4 hg_f0 h_5 h_7 h_14 h_8 h_45; omega) | omega, by first | exact q_15401fa7c h_14 h_2 hr_e1 | (clear h_1 hg_e1 h_3 hg_a9 h_4 hg_f0 h_5 h_6 h_7 h_8 h_45; omega) | omega⟩
        intro hE_49
        have hW : Wd P Q P P (up (up c_9 1 4 1) 1 5 (nx F e1 a9)) = Wd P Q P P m9 := (Prod.mk.inj (Prod.mk.inj hE_49).2).1
        have h_50 := ir_1_4 hJ9
        have h_51 : m9 1 4 = 1 := wd_fv (z := 4) 4 rfl hW rfl rfl rfl rfl (by decide) ((up_n (by decide)).trans (up_e rfl)) ⟨by decide, by decide⟩ ⟨(Int.le_trans (by decide) h_50.1), (Int.le_trans h_50.2 (by decide))⟩
        have h_52 := ir_1_2 hJ9
        have h_53 : m9 1 2 = (nx F e1 a9) := wd_fv (z := 2) 2 rfl hW rfl rfl rfl rfl (by decide) ((up_n (by decide)).trans ((up_n (by decide)).trans (hz_12))) ⟨by first | exact q_a3bce4abb h_3 h_6 hg_a9 | (clear h_1 hg_e1 h_2 hr_e1 h_4 hg_f0 h_5 h_7 h_14 h_50 h_51 h_52 h_8 h_45; omega) | omega, by first | exact q_2e6ee4ea6 h_14 h_2 hr_e1 | (clear h_1 hg_e1 h_3 hg_a9 h_4 hg_f0 h_5 h_6 h_7 h_50 h_51 h_52 h_8 h_45; omega) | omega⟩ ⟨(Int.le_trans (by decide) h_52.1), (Int.le_trans h_52.2 (by decide))⟩
        have h_54 := ir_1_5 hJ9
        have h_55 : m9 1 5 = (nx F e1 a9) := wd_fv (z := 5) 5 rfl hW rfl rfl rfl rfl (by decide) (up_e rfl) ⟨by first | exact q_17990f574 h_52 h_53 | (clear h_1 hg_e1 h_2 hr_e1 h_3 hg_a9 h_4 hg_f0 h_5 h_6 h_7 h_14 h_50 h_51 h_54 h_8 h_45; omega) | omega, by first | exact q_757c304f4 h_52 h_53 | (clear h_1 hg_e1 h_2 hr_e1 h_3 hg_a9 h_4 hg_f0 h_5 h_6 h_7 h_14 h_50 h_51 h_54 h_8 h_45; omega) | omega⟩ ⟨(Int.le_trans (by decide) h_54.1), (Int.le_trans h_54.2 (by decide))⟩
        refine q_aload_n c_161_0 rfl (v_cv c_161_1 km_8_131 rfl rfl (Nat.le_of_ble_eq_true rfl) ⟨⟨rfl, rfl⟩, Nat.le_of_ble_eq_true rfl, rfl⟩ (Nat.le_of_ble_eq_true rfl) (Nat.le_of_ble_eq_true rfl) (q_aload_n c_152_0 rfl ?_))
        have h_56 := ir_41_5 hI
        have h_57 := ir_1_5 hJ
        have h_58 := ir_41_4 hI
        have h_59 := ir_41_6 hI
        have h_60 := rt_ok hRt (by first | (clear h_1 hg_e1 h_2 hr_e1 h_3 hg_a9 hg_f0 h_5 h_6 h_7 h_14 h_50 h_51 h_52 h_53 h_54 h_55 h_56 h_57 h_58 h_59 h_8 h_45; omega) | omega)
        have hro_hRt := rt_ok hRt (by first | decide | (clear h_1 hg_e1 h_2 hr_e1 h_3 hg_a9 h_4 hg_f0 h_5 h_6 h_7 h_14 h_50 h_51 h_52 h_53 h_54 h_55 h_56 h_57 h_58 h_59 h_60 h_8 h_45; omega) | omega)
        refine v_gi (z := 5) (v := (-1)) c_152_1 kf_8_102 rfl (Nat.le_of_ble_eq_true rfl) rfl rfl hro_hRt.2.1 (q_iconst c_152_4 (v_ic_ne_f (t := 12) c_152_5 rfl (by decide) (q_iconst c_152_8 (q_goto (t := 13) c_152_9 rfl (v_zret c_152_13 rfl (by decide) (bk_inl (v_if_eq_f (t := 24) c_161_4 rfl (by decide) ?_)))))))
        refine q_aload_n c_161_7 rfl ?_
        have h_61 : -2147483648 ≤ (H (nx F e1 a9)) ∧ (H (nx F e1 a9)) ≤ 2147483647 := by rw [← hH (nx F e1 a9)]; exact ir_43 hI (nx F e1 a9)
        have h_62 := hU (nx F e1 a9) (by first | exact q_4ad75e8a2 h_52 h_53 | (clear h_1 hg_e1 h_2 hr_e1 h_3 hg_a9 h_4 hg_f0 h_5 h_6 h_7 h_14 h_50 h_51 h_54 h_55 h_56 h_57 h_58 h_59 h_60 h_61 h_8 h_45; omega) | omega) (by first | exact q_b867e77c7 h_14 h_2 hr_e1 | (clear h_1 hg_e1 h_3 hg_a9 h_4 hg_f0 h_5 h_6 h_7 h_50 h_51 h_52 h_53 h_54 h_55 h_56 h_57 h_58 h_59 h_60 h_61 h_8 h_45; omega) | omega)
        have h_63 := hb_or (b := H) (e := e1) (r := (nx F e1 a9))
        have h_64 := hb_bd (b := H) (e := e1) (r := (nx F e1 a9)) (lo := -2147483648) (hi := 2147483647) h_61 (by decide)
        refine v_cv c_161_8 km_8_114 rfl rfl (Nat.le_of_ble_eq_true rfl) ⟨⟨rfl, rfl⟩, Nat.le_of_ble_eq_true rfl, rfl⟩ (Nat.le_of_ble_eq_true rfl) (Nat.le_of_ble_eq_true rfl) (f_154 (e1 := e1) (a9 := a9) (B := H) (r8 := (nx F e1 a9)) (r := (hb H e1 (nx F e1 a9))) hI ((hr_e1)) (((hro_hRt.2.2.1).trans ((hg_a9)))) (fun j => hH j) ((nx_tr hU ((rg_eq hg_a9 h_3).1) ((rg_eq hg_e1 h_1).2)).trans (rfl)) rfl (fun c_65 hI_66 hF_67 h_68 => (bk_inl (q_iload_n c_161_11 rfl (v_ic_eq_f (t := 24) c_161_12 rfl ⟨by first | (clear h_3 h_4 hg_f0 h_5 h_50 h_51 h_56 h_57 h_58 h_59 h_60; omega) | omega, ⟨h_64.1, h_64.2⟩, by decide, by decide⟩ (q_aload_n c_161_15 rfl (q_iconst c_161_16 (q_aload_n c_161_17 rfl (v_gi (z := 4) (v := (nx F e1 a9)) c_161_18 kf_8_108 rfl (Nat.le_of_ble_eq_true rfl) rfl rfl (h_68) ?_)))))))))
        refine v_cv c_161_21 km_8_138 rfl rfl (Nat.le_of_ble_eq_true rfl) ⟨⟨rfl, rfl⟩, Nat.le_of_ble_eq_true rfl, rfl⟩ (Nat.le_of_ble_eq_true rfl) (Nat.le_of_ble_eq_true rfl) (q_aload_n c_153_0 rfl ?_)
        have kn_69 : Hid (c_65 41 5 = (-1)) := (hF_67 41 5 (fun h => absurd h.2 (ni rfl))).trans hro_hRt.2.1
        refine v_gi (z := 5) (v := (-1)) c_153_1 kf_8_102 rfl (Nat.le_of_ble_eq_true rfl) rfl rfl (hid kn_69) (q_iconst c_153_4 (v_ic_eq_t (t := 9) c_153_5 rfl (by decide) (q_aload_n c_153_9 rfl (q_iload_n c_153_10 rfl (v_pi (z := 5) c_153_11 kf_8_102 rfl (Nat.le_of_ble_eq_true rfl) rfl rfl rfl (by decide) (q_aload_n c_153_14 rfl (q_iload_n c_153_15 rfl ?_)))))))
        refine v_pi (z := 6) c_153_16 kf_8_105 rfl (Nat.le_of_ble_eq_true rfl) rfl rfl rfl (by decide) (q_vret c_153_19 rfl (bk_inl (q_aload_n c_161_24 rfl (v_cv c_161_25 km_8_131 rfl rfl (Nat.le_of_ble_eq_true rfl) ⟨⟨rfl, rfl⟩, Nat.le_of_ble_eq_true rfl, rfl⟩ (Nat.le_of_ble_eq_true rfl) (Nat.le_of_ble_eq_true rfl) (q_aload_n c_152_0 rfl (v_gi (z := 5) (v := (nx F e1 a9)) c_152_1 kf_8_102 rfl (Nat.le_of_ble_eq_true rfl) rfl rfl ((up_n (by decide)).trans (up_e rfl)) (q_iconst c_152_4 ?_)))))))
        refine v_ic_ne_t (t := 12) c_152_5 rfl ⟨by first | exact q_90762221b h_52 h_53 | (clear h_1 hg_e1 h_2 hr_e1 h_3 hg_a9 h_4 hg_f0 h_5 h_6 h_7 h_14 h_50 h_51 h_54 h_55 h_56 h_57 h_58 h_59 h_60 h_61 h_62 h_64 h_8 h_45 h_63; omega) | omega, ⟨by first | exact q_17990f574 h_52 h_53 | (clear h_1 hg_e1 h_2 hr_e1 h_3 hg_a9 h_4 hg_f0 h_5 h_6 h_7 h_14 h_50 h_51 h_54 h_55 h_56 h_57 h_58 h_59 h_60 h_61 h_62 h_64 h_8 h_45 h_63; omega) | omega, by first | exact q_783468581 h_54 h_55 | (clear h_1 hg_e1 h_2 hr_e1 h_3 hg_a9 h_4 hg_f0 h_5 h_6 h_7 h_14 h_50 h_51 h_52 h_53 h_56 h_57 h_58 h_59 h_60 h_61 h_62 h_64 h_8 h_45 h_63; omega) | omega⟩, by decide, by decide⟩ (q_iconst c_152_12 (v_zret c_152_13 rfl (by decide) (bk_inl (v_if_eq_t (t := 41) c_161_28 rfl (by decide) (q_vret c_161_41 rfl ?_)))))
        have hI_70 := iw_41_5 (v := (nx F e1 a9)) hI_66 ⟨by first | exact q_5ce231cbd h_52 h_53 | (clear h_1 hg_e1 h_2 hr_e1 h_3 hg_a9 h_4 hg_f0 h_5 h_6 h_7 h_14 h_50 h_51 h_54 h_55 h_56 h_57 h_58 h_59 h_60 h_61 h_62 h_64 h_8 h_45 h_63; omega) | omega, by first | exact q_deaeab841 h_52 h_53 | (clear h_1 hg_e1 h_2 hr_e1 h_3 hg_a9 h_4 hg_f0 h_5 h_6 h_7 h_14 h_50 h_51 h_54 h_55 h_56 h_57 h_58 h_59 h_60 h_61 h_62 h_64 h_8 h_45 h_63; omega) | omega⟩
        have hI_71 := iw_41_6 (v := 1) hI_70 ⟨by decide, by decide⟩
        have h_72 : (up (up c_65 41 5 (nx F e1 a9)) 41 6 1) 41 5 = (nx F e1 a9) := ((up_n (by decide)).trans (up_e rfl))
        have h_73 : (up (up c_65 41 5 (nx F e1 a9)) 41 6 1) 41 4 = (nx F e1 a9) := ((up_n (by decide)).trans ((up_n (by decide)).trans (h_68)))
        have h_74 : (up (up c_65 41 5 (nx F e1 a9)) 41 6 1) 41 6 = 1 := (up_e rfl)
        exact K (up (up c_65 41 5 (nx F e1 a9)) 41 6 1)  hI_71 (fun a j hm => (up_b (Decidable.or_iff_not_imp_left.mpr (fun h1 h2 => hm (Or.inr (Or.inr ⟨Decidable.not_not.mp h1, h2⟩))))).trans ((up_b (Decidable.or_iff_not_imp_left.mpr (fun h1 h2 => hm (Or.inr (Or.inl ⟨Decidable.not_not.mp h1, h2⟩))))).trans (hF_67 a j (fun h => hm (Or.inl h))))) (rt_i2 ⟨⟨by first | exact q_5935f82f1 h_51 | (clear h_1 hg_e1 h_2 hr_e1 h_3 hg_a9 h_4 hg_f0 h_5 h_6 h_7 h_14 h_50 h_52 h_53 h_54 h_55 h_56 h_57 h_58 h_59 h_60 h_61 h_62 h_64 h_8 h_45 h_63; omega) | omega, by first | exact q_63461c6bf h_51 | (clear h_1 hg_e1 h_2 hr_e1 h_3 hg_a9 h_4 hg_f0 h_5 h_6 h_7 h_14 h_50 h_52 h_53 h_54 h_55 h_56 h_57 h_58 h_59 h_60 h_61 h_62 h_64 h_8 h_45 h_63; omega) | omega⟩, by first | exact q_88dc5fb99 h_55 | (clear h_1 hg_e1 h_2 hr_e1 h_3 hg_a9 h_4 hg_f0 h_5 h_6 h_7 h_14 h_50 h_51 h_52 h_53 h_54 h_56 h_57 h_58 h_59 h_60 h_61 h_62 h_64 h_8 h_45 h_63; omega) | omega, by first | exact q_a060fbdd4 h_52 h_53 h_55 | (clear h_1 hg_e1 h_2 hr_e1 h_3 hg_a9 h_4 hg_f0 h_5 h_6 h_7 h_14 h_50 h_51 h_54 h_56 h_57 h_58 h_59 h_60 h_61 h_62 h_64 h_8 h_45 h_63; omega) | omega, by first | exact q_69efb464e h_51 | (clear h_1 hg_e1 h_2 hr_e1 h_3 hg_a9 h_4 hg_f0 h_5 h_6 h_7 h_14 h_50 h_52 h_53 h_54 h_55 h_56 h_57 h_58 h_59 h_60 h_61 h_62 h_64 h_8 h_45 h_63; omega) | omega⟩) (Or.inr (Or.inl (by first | exact q_e2d2b4ae2 h_51 | (clear h_1 hg_e1 h_2 hr_e1 h_3 hg_a9 h_4 hg_f0 h_5 h_6 h_7 h_14 h_50 h_52 h_53 h_54 h_55 h_56 h_57 h_58 h_59 h_60 h_61 h_62 h_64 h_8 h_45 h_63; omega) | omega))) (Or.inr (Or.inl (by first | exact q_e2d2b4ae2 h_51 | (clear h_1 hg_e1 h_2 hr_e1 h_3 hg_a9 h_4 hg_f0 h_5 h_6 h_7 h_14 h_50 h_52 h_53 h_54 h_55 h_56 h_57 h_58 h_59 h_60 h_61 h_62 h_64 h_8 h_45 h_63; omega) | omega)))
      · refine v_ic_ne_f (t := 49) c_4_34 rfl (Decidable.not_not.mp h_45) (q_aload_n c_4_37 rfl (q_dup c_4_38 rfl (v_gi (z := 2) (v := (nx F e1 a9)) c_4_39 kf_5_35 rfl (Nat.le_of_ble_eq_true rfl) rfl rfl (hz_12) (q_iconst c_4_42 (v_iadd (v := (nx F e1 a9) + 1) c_4_43 rfl (v_pi (z := 2) c_4_44 kf_5_35 rfl (Nat.le_of_ble_eq_true rfl) rfl rfl rfl (by decide) (q_iload_n c_4_47 rfl ?_)))))))
        refine q_iret c_4_48 rfl (bk_inl (q_iconst c_11_12 (v_ic_ne_t (t := 25) c_11_13 rfl (by decide) (q_vret c_11_25 rfl ?_))))
        have hI_75 := iw_1_2 (v := (nx F e1 a9) + 1) hI_10 ⟨by first | exact q_e260493d5 h_3 h_6 hg_a9 | (clear h_1 hg_e1 h_2 hr_e1 h_4 hg_f0 h_5 h_7 h_14 h_45 h_8; omega) | omega, by first | exact q_6ea34058e h_14 h_2 hr_e1 | (clear h_1 hg_e1 h_3 hg_a9 h_4 hg_f0 h_5 h_6 h_7 h_45 h_8; omega) | omega⟩
        intro hE_76
        have hW : Wd P Q P P (up c_9 1 2 ((nx F e1 a9) + 1)) = Wd P Q P P m9 := (Prod.mk.inj (Prod.mk.inj hE_76).2).1
        have kn_77 : Hid (c_9 1 4 = 0) := (hF_11 1 4 (fun h => absurd h.2 (ni rfl))).trans (hs9)
        have h_78 := ir_1_4 hJ9
        have h_79 : m9 1 4 = 0 := wd_fv (z := 4) 4 rfl hW rfl rfl rfl rfl (by decide) ((up_n (by decide)).trans (hid kn_77)) ⟨by decide, by decide⟩ ⟨(Int.le_trans (by decide) h_78.1), (Int.le_trans h_78.2 (by decide))⟩
        have h_80 := ir_1_2 hJ9
        have h_81 : m9 1 2 = (nx F e1 a9) + 1 := wd_fv (z := 2) 2 rfl hW rfl rfl rfl rfl (by decide) (up_e rfl) ⟨by first | exact q_86633cc1b h_3 h_6 hg_a9 | (clear h_1 hg_e1 h_2 hr_e1 h_4 hg_f0 h_5 h_7 h_14 h_45 h_78 h_79 h_80 h_8; omega) | omega, by first | exact q_1da59465c h_14 h_2 hr_e1 | (clear h_1 hg_e1 h_3 hg_a9 h_4 hg_f0 h_5 h_6 h_7 h_45 h_78 h_79 h_80 h_8; omega) | omega⟩ ⟨(Int.le_trans (by decide) h_80.1), (Int.le_trans h_80.2 (by decide))⟩
        have kn_82 : Hid (c_9 1 5 = (-1)) := (hF_11 1 5 (fun h => absurd h.2 (ni rfl))).trans (hs8)
        have h_83 := ir_1_5 hJ9
        have h_84 : m9 1 5 = (-1) := wd_fv (z := 5) 5 rfl hW rfl rfl rfl rfl (by decide) ((up_n (by decide)).trans (hid kn_82)) ⟨by decide, by decide⟩ ⟨(Int.le_trans (by decide) h_83.1), (Int.le_trans h_83.2 (by decide))⟩
        refine q_aload_n c_161_0 rfl (v_cv c_161_1 km_8_131 rfl rfl (Nat.le_of_ble_eq_true rfl) ⟨⟨rfl, rfl⟩, Nat.le_of_ble_eq_true rfl, rfl⟩ (Nat.le_of_ble_eq_true rfl) (Nat.le_of_ble_eq_true rfl) (q_aload_n c_152_0 rfl ?_))
        have h_85 := ir_41_5 hI
        have h_86 := ir_1_5 hJ
        have h_87 := ir_41_4 hI
        have h_88 := ir_41_6 hI
        have h_89 := rt_ok hRt (by first | (clear h_1 hg_e1 h_2 hr_e1 h_3 hg_a9 hg_f0 h_5 h_6 h_7 h_14 h_45 h_78 h_79 h_80 h_81 h_83 h_84 h_85 h_86 h_87 h_88 h_8; omega) | omega)
        have hro_hRt := rt_ok hRt (by first | decide | (clear h_1 hg_e1 h_2 hr_e1 h_3 hg_a9 h_4 hg_f0 h_5 h_6 h_7 h_14 h_45 h_78 h_79 h_80 h_81 h_83 h_84 h_85 h_86 h_87 h_88 h_89 h_8; omega) | omega)
        refine v_gi (z := 5) (v := (-1)) c_152_1 kf_8_102 rfl (Nat.le_of_ble_eq_true rfl) rfl rfl hro_hRt.2.1 (q_iconst c_152_4 (v_ic_ne_f (t := 12) c_152_5 rfl (by decide) (q_iconst c_152_8 (q_goto (t := 13) c_152_9 rfl (v_zret c_152_13 rfl (by decide) (bk_inl (v_if_eq_f (t := 24) c_161_4 rfl (by decide) ?_)))))))
        refine q_aload_n c_161_7 rfl ?_
        have h_90 : -2147483648 ≤ (H (nx F e1 a9)) ∧ (H (nx F e1 a9)) ≤ 2147483647 := by rw [← hH (nx F e1 a9)]; exact ir_43 hI (nx F e1 a9)
        have h_91 := hU (nx F e1 a9) (by first | exact q_828522d69 h_3 h_6 hg_a9 | (clear h_1 hg_e1 h_2 hr_e1 h_4 hg_f0 h_5 h_7 h_14 h_45 h_78 h_79 h_80 h_81 h_83 h_84 h_85 h_86 h_87 h_88 h_89 h_90 h_8; omega) | omega) (by first | exact q_b03d63f6f h_80 h_81 | (clear h_1 hg_e1 h_2 hr_e1 h_3 hg_a9 h_4 hg_f0 h_5 h_6 h_7 h_14 h_45 h_78 h_79 h_83 h_84 h_85 h_86 h_87 h_88 h_89 h_90 h_8; omega) | omega)
        have h_92 := hb_or (b := H) (e := e1) (r := (nx F e1 a9))
        have h_93 := hb_bd (b := H) (e := e1) (r := (nx F e1 a9)) (lo := -2147483648) (hi := 2147483647) h_90 (by decide)
        refine v_cv c_161_8 km_8_114 rfl rfl (Nat.le_of_ble_eq_true rfl) ⟨⟨rfl, rfl⟩, Nat.le_of_ble_eq_true rfl, rfl⟩ (Nat.le_of_ble_eq_true rfl) (Nat.le_of_ble_eq_true rfl) (f_154 (e1 := e1) (a9 := a9) (B := H) (r8 := (nx F e1 a9)) (r := (hb H e1 (nx F e1 a9))) hI ((hr_e1)) (((hro_hRt.2.2.1).trans ((hg_a9)))) (fun j => hH j) ((nx_tr hU ((rg_eq hg_a9 h_3).1) ((rg_eq hg_e1 h_1).2)).trans (rfl)) rfl (fun c_94 hI_95 hF_96 h_97 => (bk_inl (q_iload_n c_161_11 rfl (v_ic_eq_t (t := 24) c_161_12 rfl (by first | (clear h_3 h_4 hg_f0 h_5 h_78 h_79 h_83 h_84 h_85 h_86 h_87 h_88 h_89; omega) | omega) (q_aload_n c_161_24 rfl (v_cv c_161_25 km_8_131 rfl rfl (Nat.le_of_ble_eq_true rfl) ⟨⟨rfl, rfl⟩, Nat.le_of_ble_eq_true rfl, rfl⟩ (Nat.le_of_ble_eq_true rfl) (Nat.le_of_ble_eq_true rfl) (q_aload_n c_152_0 rfl ?_))))))))
        have kn_98 : Hid (c_94 41 5 = (-1)) := (hF_96 41 5 (fun h => absurd h.2 (ni rfl))).trans hro_hRt.2.1
        refine v_gi (z := 5) (v := (-1)) c_152_1 kf_8_102 rfl (Nat.le_of_ble_eq_true rfl) rfl rfl (hid kn_98) (q_iconst c_152_4 (v_ic_ne_f (t := 12) c_152_5 rfl (by decide) (q_iconst c_152_8 (q_goto (t := 13) c_152_9 rfl (v_zret c_152_13 rfl (by decide) (bk_inl (v_if_eq_f (t := 41) c_161_28 rfl (by decide) ?_)))))))
        refine q_aload_n c_161_31 rfl (q_dup c_161_32 rfl (v_gi (z := 4) (v := (nx F e1 a9)) c_161_33 kf_8_108 rfl (Nat.le_of_ble_eq_true rfl) rfl rfl (h_97) (q_iconst c_161_36 (v_iadd (v := (nx F e1 a9) + 1) c_161_37 rfl (v_pi (z := 4) c_161_38 kf_8_108 rfl (Nat.le_of_ble_eq_true rfl) rfl rfl rfl (by decide) (q_vret c_161_41 rfl ?_))))))
        have hI_99 := iw_41_4 (v := (nx F e1 a9) + 1) hI_95 ⟨by first | exact q_e260493d5 h_3 h_6 hg_a9 | (clear h_1 hg_e1 h_2 hr_e1 h_4 hg_f0 h_5 h_7 h_14 h_45 h_78 h_79 h_80 h_81 h_83 h_84 h_85 h_86 h_87 h_88 h_89 h_90 h_91 h_93 h_8 h_92; omega) | omega, by first | exact q_369ecf7f1 h_80 h_81 | (clear h_1 hg_e1 h_2 hr_e1 h_3 hg_a9 h_4 hg_f0 h_5 h_6 h_7 h_14 h_45 h_78 h_79 h_83 h_84 h_85 h_86 h_87 h_88 h_89 h_90 h_91 h_93 h_8 h_92; omega) | omega⟩
        have h_100 : (up c_94 41 4 ((nx F e1 a9) + 1)) 41 5 = (-1) := ((up_n (by decide)).trans (hid kn_98))
        have h_101 : (up c_94 41 4 ((nx F e1 a9) + 1)) 41 4 = (nx F e1 a9) + 1 := (up_e rfl)
        have kn_102 : Hid (c_94 41 6 = c 41 6) := hF_96 41 6 (fun h => absurd h.2 (ni rfl))
        have h_103 : (up c_94 41 4 ((nx F e1 a9) + 1)) 41 6 = c 41 6 := ((up_n (by decide)).trans (hid kn_102))
        exact K (up c_94 41 4 ((nx F e1 a9) + 1))  hI_99 (fun a j hm => (up_b (Decidable.or_iff_not_imp_left.mpr (fun h1 h2 => hm (Or.inl ⟨Decidable.not_not.mp h1, h2⟩)))).trans (hF_96 a j (fun h => hm (Or.inl h)))) (rt_i1 ⟨by first | exact q_f6b658f58 h_78 h_79 | (clear h_1 hg_e1 h_2 hr_e1 h_3 hg_a9 h_4 hg_f0 h_5 h_6 h_7 h_14 h_45 h_80 h_81 h_83 h_84 h_85 h_86 h_87 h_88 h_89 h_90 h_91 h_93 h_8 h_92; omega) | omega, by first | decide | (clear h_1 hg_e1 h_2 hr_e1 h_3 hg_a9 h_4 hg_f0 h_5 h_6 h_7 h_14 h_45 h_78 h_79 h_80 h_81 h_83 h_84 h_85 h_86 h_87 h_88 h_89 h_90 h_91 h_93 h_8 h_92; omega) | omega, by first | exact q_58a890de0 h_81 | (clear h_1 hg_e1 h_2 hr_e1 h_3 hg_a9 h_4 hg_f0 h_5 h_6 h_7 h_14 h_45 h_78 h_79 h_80 h_83 h_84 h_85 h_86 h_87 h_88 h_89 h_90 h_91 h_93 h_8 h_92; omega) | omega, by first | exact q_f39655ca6 h_83 h_84 | (clear h_1 hg_e1 h_2 hr_e1 h_3 hg_a9 h_4 hg_f0 h_5 h_6 h_7 h_14 h_45 h_78 h_79 h_80 h_81 h_85 h_86 h_87 h_88 h_89 h_90 h_91 h_93 h_8 h_92; omega) | omega⟩) (Or.inr (Or.inr ⟨by first | exact q_1caa53e22 h_6 h_81 | (clear h_1 hg_e1 h_2 hr_e1 h_3 hg_a9 h_4 hg_f0 h_5 h_7 h_14 h_45 h_78 h_79 h_80 h_83 h_84 h_85 h_86 h_87 h_88 h_89 h_90 h_91 h_93 h_8 h_92; omega) | omega, by first | exact q_639ed28ca h_14 h_81 | (clear h_1 hg_e1 h_2 hr_e1 h_3 hg_a9 h_4 hg_f0 h_5 h_6 h_7 h_45 h_78 h_79 h_80 h_83 h_84 h_85 h_86 h_87 h_88 h_89 h_90 h_91 h_93 h_8 h_92; omega) | omega⟩)) (Or.inr (Or.inr (by first | (clear h_1 hg_e1 h_2 hr_e1 h_3 hg_a9 h_5 h_6 h_7 h_14 h_45 h_78 h_79 h_80 h_81 h_83 h_84 h_85 h_86 h_87 h_88 h_89 h_90 h_91 h_93 h_8 h_92; omega) | omega)))
  · skip
    refine q_aload_n c_11_0 rfl (v_cv c_11_1 km_5_45 rfl rfl (Nat.le_of_ble_eq_true rfl) ⟨⟨rfl, rfl⟩, Nat.le_of_ble_eq_true rfl, rfl⟩ (Nat.le_of_ble_eq_true rfl) (Nat.le_of_ble_eq_true rfl) (q_aload_n c_2_0 rfl (v_gi (z := 4) (v := f0) c_2_1 kf_5_38 rfl (Nat.le_of_ble_eq_true rfl) rfl rfl (hg_f0) (v_if_ne_t (t := 11) c_2_4 rfl ⟨by omega, ⟨(Int.le_trans (by decide) (rg_eq hg_f0 h_4).1), (Int.le_trans (rg_eq hg_f0 h_4).2 (by decide))⟩, by decide, by decide⟩ (q_iconst c_2_11 (v_zret c_2_12 rfl (by decide) (bk_inl ?_)))))))
    refine v_if_eq_t (t := 25) c_11_4 rfl (by decide) (q_vret c_11_25 rfl ?_)
    intro hE_104
    have hW : Wd P Q P P m = Wd P Q P P m9 := (Prod.mk.inj (Prod.mk.inj hE_104).2).1
    have h_105 := ir_1_4 hJ9
    have h_106 : m9 1 4 = f0 := wd_fv (z := 4) 4 rfl hW rfl rfl rfl rfl (by decide) (hg_f0) ⟨(Int.le_trans (by decide) (rg_eq hg_f0 h_4).1), (Int.le_trans (rg_eq hg_f0 h_4).2 (by decide))⟩ ⟨(Int.le_trans (by decide) h_105.1), (Int.le_trans h_105.2 (by decide))⟩
    have h_107 := ir_1_2 hJ9
    have h_108 : m9 1 2 = a9 := wd_fv (z := 2) 2 rfl hW rfl rfl rfl rfl (by decide) (hg_a9) ⟨(Int.le_trans (by decide) (rg_eq hg_a9 h_3).1), (Int.le_trans (rg_eq hg_a9 h_3).2 (by decide))⟩ ⟨(Int.le_trans (by decide) h_107.1), (Int.le_trans h_107.2 (by decide))⟩
    have h_109 := ir_1_5 hJ
    have h_110 := ir_1_5 hJ9
    have h_111 : m9 1 5 = m 1 5 := wd_fv (z := 5) 5 rfl hW rfl rfl rfl rfl (by decide) rfl ⟨(Int.le_trans (by decide) h_109.1), (Int.le_trans h_109.2 (by decide))⟩ ⟨(Int.le_trans (by decide) h_110.1), (Int.le_trans h_110.2 (by decide))⟩
    refine q_aload_n c_161_0 rfl (v_cv c_161_1 km_8_131 rfl rfl (Nat.le_of_ble_eq_true rfl) ⟨⟨rfl, rfl⟩, Nat.le_of_ble_eq_true rfl, rfl⟩ (Nat.le_of_ble_eq_true rfl) (Nat.le_of_ble_eq_true rfl) (q_aload_n c_152_0 rfl ?_))
    have h_112 := ir_41_5 hI
    have h_113 := ir_41_4 hI
    have h_114 := ir_41_6 hI
    have h_115 := rt_bad hRt (by first | (clear h_1 hg_e1 h_2 hr_e1 h_3 hg_a9 h_4 hg_f0 h_105 h_106 h_107 h_108 h_109 h_110 h_111 h_112 h_113 h_114; omega) | omega)
    have hrb_hRt := rt_bad hRt (by first | exact q_5e082ea92 h_115 hg_f0 | (clear h_1 hg_e1 h_2 hr_e1 h_3 hg_a9 h_4 h_105 h_106 h_107 h_108 h_109 h_110 h_111 h_112 h_113 h_114; omega) | omega)
    refine v_gi (z := 5) (v := m 1 5) c_152_1 kf_8_102 rfl (Nat.le_of_ble_eq_true rfl) rfl rfl hrb_hRt.2.1 (q_iconst c_152_4 (v_ic_ne_t (t := 12) c_152_5 rfl ⟨by first | exact q_0f78863d3 h_115 | (clear h_1 hg_e1 h_2 hr_e1 h_3 hg_a9 h_4 hg_f0 h_105 h_106 h_107 h_108 h_109 h_110 h_111 h_112 h_113 h_114; omega) | omega, ⟨(Int.le_trans (by decide) h_109.1), (Int.le_trans h_109.2 (by decide))⟩, by decide, by decide⟩ (q_iconst c_152_12 (v_zret c_152_13 rfl (by decide) (bk_inl (v_if_eq_t (t := 24) c_161_4 rfl (by decide) (q_aload_n c_161_24 rfl ?_)))))))
    refine v_cv c_161_25 km_8_131 rfl rfl (Nat.le_of_ble_eq_true rfl) ⟨⟨rfl, rfl⟩, Nat.le_of_ble_eq_true rfl, rfl⟩ (Nat.le_of_ble_eq_true rfl) (Nat.le_of_ble_eq_true rfl) (q_aload_n c_152_0 rfl (v_gi (z := 5) (v := m 1 5) c_152_1 kf_8_102 rfl (Nat.le_of_ble_eq_true rfl) rfl rfl hrb_hRt.2.1 (q_iconst c_152_4 (v_ic_ne_t (t := 12) c_152_5 rfl ⟨by first | exact q_0f78863d3 h_115 | (clear h_1 hg_e1 h_2 hr_e1 h_3 hg_a9 h_4 hg_f0 h_105 h_106 h_107 h_108 h_109 h_110 h_111 h_112 h_113 h_114; omega) | omega, ⟨(Int.le_trans (by decide) h_109.1), (Int.le_trans h_109.2 (by decide))⟩, by decide, by decide⟩ (q_iconst c_152_12 (v_zret c_152_13 rfl (by decide) (bk_inl ?_)))))))
    refine v_if_eq_t (t := 41) c_161_28 rfl (by decide) (q_vret c_161_41 rfl ?_)
    have h_116 : c 41 5 = m 1 5 := hrb_hRt.2.1
    have h_117 : c 41 6 = f0 := ((hrb_hRt.2.2.2).trans ((hg_f0)))
    exact K c  hI (fun a j hm => rfl) (rt_i2 ⟨⟨by first | exact q_3b8ab523e h_106 h_115 hg_f0 | (clear h_1 hg_e1 h_2 hr_e1 h_3 hg_a9 h_4 h_105 h_107 h_108 h_109 h_110 h_111 h_112 h_113 h_114; omega) | omega, by first | exact q_c99d6ea93 h_105 | (clear h_1 hg_e1 h_2 hr_e1 h_3 hg_a9 h_4 hg_f0 h_106 h_107 h_108 h_109 h_110 h_111 h_112 h_113 h_114 h_115; omega) | omega⟩, by first | exact q_88dc5fb99 h_111 | (clear h_1 hg_e1 h_2 hr_e1 h_3 hg_a9 h_4 hg_f0 h_105 h_106 h_107 h_108 h_109 h_110 h_112 h_113 h_114 h_115; omega) | omega, by first | exact q_cb71117a2 h_111 h_115 | (clear h_1 hg_e1 h_2 hr_e1 h_3 hg_a9 h_4 hg_f0 h_105 h_106 h_107 h_108 h_109 h_110 h_112 h_113 h_114; omega) | omega, by first | exact q_88dc5fb99 h_106 | (clear h_1 hg_e1 h_2 hr_e1 h_3 hg_a9 h_4 hg_f0 h_105 h_107 h_108 h_109 h_110 h_111 h_112 h_113 h_114 h_115; omega) | omega⟩) (Or.inr (Or.inl (by first | exact q_2ce17e943 h_106 h_115 hg_f0 | (clear h_1 hg_e1 h_2 hr_e1 h_3 hg_a9 h_4 h_105 h_107 h_108 h_109 h_110 h_111 h_112 h_113 h_114; omega) | omega))) (Or.inr (Or.inl (by first | exact q_2ce17e943 h_106 h_115 hg_f0 | (clear h_1 hg_e1 h_2 hr_e1 h_3 hg_a9 h_4 h_105 h_107 h_108 h_109 h_110 h_111 h_112 h_113 h_114; omega) | omega)))

set_option maxRecDepth 100000 in
set_option maxHeartbeats 4000000 in
theorem L_11_13 {sc : List Int32} {e eg : Int} {d dh u ug P Q P2 Q2 : Nat} {c m m9 : ME} {e1 a9 f0 : Int} {F H : Int → Int} {Z : AR → Prop} (hI : Iv u e P2 Q2 c) (hJ : Iv ug eg P Q m) (hJ9 : Iv ug eg P Q m9) (hg_e1 : m 1 1 = e1) (hr_e1 : c 41 3 = e1) (hg_a9 : m 1 2 = a9) (hg_f0 : m 1 4 = f0) (hF : ∀ j : Int, m 2 j = F j) (hH : ∀ j : Int, c 43 j = H j) (hU : Ub F H) (hRt : Rt m c) (hG : Wp sc (dh + 14) 11 0 [(0, .ref 1), (1, .ref (a_SB + 13))] [] (Wd P Q P P m) 0 0 (fun q => q = (.inl (none), Wd P Q P P m9, 0, 0))) (K : ∀ (c2 : ME), Iv u e P2 Q2 c2 → (∀ (a : Nat) (j : Int), ¬ ((a = 41 ∧ j = 4) ∨ (a = 41 ∧ j = 5) ∨ (a = 41 ∧ j = 6)) → c2 a j = c a j) → (Rt m9 c2) → ((m9 1 4 < 0) ∨ (m9 1 4 > 0) ∨ (m9 1 2 > a9 ∧ m9 1 2 ≤ e1)) → ((m9 1 4 < 0) ∨ (m9 1 4 > 0) ∨ (f0 = 0)) → Z (.inl (none), Wd P2 Q2 P2 P2 c2, 0, 0)) : Wp sc (d + 14) 161 0 [(0, .ref 41), (1, vi 59)] [] (Wd P2 Q2 P2 P2 c) 0 0 Z := by
  have hP := iv_P hJ
  have hQ := iv_Q hJ
  have h_1 := ir_1_1 hJ
  have h_2 := ir_41_3 hI
  have h_3 := ir_1_2 hJ
  have h_4 := ir_1_4 hJ
  refine gh hG ?_
  by_cases hs9 : m 1 4 = 0
  · skip
    have hs8 := (rt_ok hRt hs9).2.2.2
    refine q_aload_n c_11_0 rfl (v_cv c_11_1 km_5_45 rfl rfl (Nat.le_of_ble_eq_true rfl) ⟨⟨rfl, rfl⟩, Nat.le_of_ble_eq_true rfl, rfl⟩ (Nat.le_of_ble_eq_true rfl) (Nat.le_of_ble_eq_true rfl) (q_aload_n c_2_0 rfl (v_gi (z := 4) (v := 0) c_2_1 kf_5_38 rfl (Nat.le_of_ble_eq_true rfl) rfl rfl (hs9) (v_if_ne_f (t := 11) c_2_4 rfl (by decide) (q_iconst c_2_7 (q_goto (t := 12) c_2_8 rfl (v_zret c_2_12 rfl (by decide) ?_)))))))
    refine bk_inl (v_if_eq_f (t := 25) c_11_4 rfl (by decide) (q_aload_n c_11_7 rfl (q_aload_n c_11_8 rfl (v_cv c_11_9 km_5_65 rfl rfl (Nat.le_of_ble_eq_true rfl) ⟨⟨rfl, rfl⟩, Nat.le_of_ble_eq_true rfl, rfl⟩ (Nat.le_of_ble_eq_true rfl) (Nat.le_of_ble_eq_true rfl) (q_aload_n c_4_0 rfl ?_)))))
    have h_5 : -2147483648 ≤ (F a9) ∧ (F a9) ≤ 2147483647 := by rw [← hF a9]; exact ir_2 hJ a9
    have h_6 := nx_bd (b := F) (e := e1) (a := a9)
    have h_7 : -2147483648 ≤ (F (nx F e1 a9)) ∧ (F (nx F e1 a9)) ≤ 2147483647 := by rw [← hF (nx F e1 a9)]; exact ir_2 hJ (nx F e1 a9)
    have h_8 := nx_n (b := F) (e := e1) (a := a9)
    refine v_cv c_4_1 km_5_41 rfl rfl (Nat.le_of_ble_eq_true rfl) ⟨⟨rfl, rfl⟩, Nat.le_of_ble_eq_true rfl, rfl⟩ (Nat.le_of_ble_eq_true rfl) (Nat.le_of_ble_eq_true rfl) (f_3 (e1 := e1) (a9 := a9) (B := F) (r8 := (nx F e1 a9)) hJ ((hg_e1)) ((hg_a9)) (fun j => hF j) rfl (fun c_9 hI_10 hF_11 hz_12 => (bk_inl (q_istore_n c_4_4 (Nat.le_of_ble_eq_true rfl) (q_iconst c_4_5 (q_istore_n c_4_6 (Nat.le_of_ble_eq_true rfl) (q_iload_n c_4_7 rfl (q_aload_n c_4_8 rfl (v_sln 1 c_4_9 rfl (by omega) (Nat.le_of_ble_eq_true rfl) (by decide) (by decide) ?_)))))))))
    refine v_ic_ge_f (t := 55) c_4_12 rfl (by decide) (q_iload_n c_4_15 rfl (q_aload_n c_4_16 rfl ?_))
    have kn_13 : Hid (c_9 1 1 = e1) := (hF_11 1 1 (fun h => absurd h.2 (ni rfl))).trans (hg_e1)
    refine v_gi (z := 1) (v := e1) c_4_17 kf_5_32 rfl (Nat.le_of_ble_eq_true rfl) rfl rfl (hid kn_13) ?_
    by_cases h_14 : (nx F e1 a9) ≥ e1
    · refine v_ic_ge_t (t := 55) c_4_20 rfl ⟨(Int.le_trans (by decide) (rg_eq hg_e1 h_1).1), h_14, by first | exact q_b3bd846dd h_2 h_3 h_6 hg_a9 hr_e1 | (clear h_1 hg_e1 h_4 hg_f0 h_5 h_7 h_8; omega) | omega⟩ (q_iconst c_4_55 (q_iret c_4_56 rfl (bk_inl (q_iconst c_11_12 (v_ic_ne_f (t := 25) c_11_13 rfl (by decide) (q_aload_n c_11_16 rfl (q_iconst c_11_17 ?_)))))))
      refine q_aload_n c_11_18 rfl (v_gi (z := 2) (v := (nx F e1 a9)) c_11_19 kf_5_35 rfl (Nat.le_of_ble_eq_true rfl) rfl rfl (hz_12) (v_cv c_11_22 km_5_52 rfl rfl (Nat.le_of_ble_eq_true rfl) ⟨⟨rfl, rfl⟩, Nat.le_of_ble_eq_true rfl, rfl⟩ (Nat.le_of_ble_eq_true rfl) (Nat.le_of_ble_eq_true rfl) (q_aload_n c_7_0 rfl ?_)))
      have kn_15 : Hid (c_9 1 4 = 0) := (hF_11 1 4 (fun h => absurd h.2 (ni rfl))).trans (hs9)
      refine v_gi (z := 4) (v := 0) c_7_1 kf_5_38 rfl (Nat.le_of_ble_eq_true rfl) rfl rfl (hid kn_15) (v_if_ne_f (t := 17) c_7_4 rfl (by decide) (q_aload_n c_7_7 rfl (q_iload_n c_7_8 rfl (v_pi (z := 4) c_7_9 kf_5_38 rfl (Nat.le_of_ble_eq_true rfl) rfl rfl rfl (by decide) (q_aload_n c_7_12 rfl (q_iload_n c_7_13 rfl (v_pi (z := 5) c_7_14 kf_5_15 rfl (Nat.le_of_ble_eq_true rfl) rfl rfl rfl (by decide) ?_)))))))
      refine q_vret c_7_17 rfl (bk_inl (q_vret c_11_25 rfl ?_))
      have hI_16 := iw_1_4 (v := 1) hI_10 ⟨by decide, by decide⟩
      have hI_17 := iw_1_5 (v := (nx F e1 a9)) hI_16 ⟨by first | exact q_e3021f629 h_3 h_6 hg_a9 | (clear h_1 hg_e1 h_2 hr_e1 h_4 hg_f0 h_5 h_7 h_14 h_8; omega) | omega, by first | exact q_f657906b2 h_2 h_3 h_6 hg_a9 hr_e1 | (clear h_1 hg_e1 h_4 hg_f0 h_5 h_7 h_14 h_8; omega) | omega⟩
      intro hE_18
      have hW : Wd P Q P P (up (up c_9 1 4 1) 1 5 (nx F e1 a9)) = Wd P Q P P m9 := (Prod.mk.inj (Prod.mk.inj hE_18).2).1
      have h_19 := ir_1_4 hJ9
      have h_20 : m9 1 4 = 1 := wd_fv (z := 4) 4 rfl hW rfl rfl rfl rfl (by decide) ((up_n (by decide)).trans (up_e rfl)) ⟨by decide, by decide⟩ ⟨(Int.le_trans (by decide) h_19.1), (Int.le_trans h_19.2 (by decide))⟩
      have h_21 := ir_1_2 hJ9
      have h_22 : m9 1 2 = (nx F e1 a9) := wd_fv (z := 2) 2 rfl hW rfl rfl rfl rfl (by decide) ((up_n (by decide)).trans ((up_n (by decide)).trans (hz_12))) ⟨by first | exact q_a3bce4abb h_3 h_6 hg_a9 | (clear h_1 hg_e1 h_2 hr_e1 h_4 hg_f0 h_5 h_7 h_14 h_19 h_20 h_21 h_8; omega) | omega, by first | exact q_b3bd846dd h_2 h_3 h_6 hg_a9 hr_e1 | (clear h_1 hg_e1 h_4 hg_f0 h_5 h_7 h_14 h_19 h_20 h_21 h_8; omega) | omega⟩ ⟨(Int.le_trans (by decide) h_21.1), (Int.le_trans h_21.2 (by decide))⟩
      have h_23 := ir_1_5 hJ9
      have h_24 : m9 1 5 = (nx F e1 a9) := wd_fv (z := 5) 5 rfl hW rfl rfl rfl rfl (by decide) (up_e rfl) ⟨by first | exact q_17990f574 h_21 h_22 | (clear h_1 hg_e1 h_2 hr_e1 h_3 hg_a9 h_4 hg_f0 h_5 h_6 h_7 h_14 h_19 h_20 h_23 h_8; omega) | omega, by first | exact q_757c304f4 h_21 h_22 | (clear h_1 hg_e1 h_2 hr_e1 h_3 hg_a9 h_4 hg_f0 h_5 h_6 h_7 h_14 h_19 h_20 h_23 h_8; omega) | omega⟩ ⟨(Int.le_trans (by decide) h_23.1), (Int.le_trans h_23.2 (by decide))⟩
      refine q_aload_n c_161_0 rfl (v_cv c_161_1 km_8_131 rfl rfl (Nat.le_of_ble_eq_true rfl) ⟨⟨rfl, rfl⟩, Nat.le_of_ble_eq_true rfl, rfl⟩ (Nat.le_of_ble_eq_true rfl) (Nat.le_of_ble_eq_true rfl) (q_aload_n c_152_0 rfl ?_))
      have h_25 := ir_41_5 hI
      have h_26 := ir_1_5 hJ
      have h_27 := ir_41_4 hI
      have h_28 := ir_41_6 hI
      have h_29 := rt_ok hRt (by first | (clear h_1 hg_e1 h_2 hr_e1 h_3 hg_a9 hg_f0 h_5 h_6 h_7 h_14 h_19 h_20 h_21 h_22 h_23 h_24 h_25 h_26 h_27 h_28 h_8; omega) | omega)
      have hro_hRt := rt_ok hRt (by first | decide | (clear h_1 hg_e1 h_2 hr_e1 h_3 hg_a9 h_4 hg_f0 h_5 h_6 h_7 h_14 h_19 h_20 h_21 h_22 h_23 h_24 h_25 h_26 h_27 h_28 h_29 h_8; omega) | omega)
      refine v_gi (z := 5) (v := (-1)) c_152_1 kf_8_102 rfl (Nat.le_of_ble_eq_true rfl) rfl rfl hro_hRt.2.1 (q_iconst c_152_4 (v_ic_ne_f (t := 12) c_152_5 rfl (by decide) (q_iconst c_152_8 (q_goto (t := 13) c_152_9 rfl (v_zret c_152_13 rfl (by decide) (bk_inl (v_if_eq_f (t := 24) c_161_4 rfl (by decide) ?_)))))))
      refine q_aload_n c_161_7 rfl ?_
      have h_30 : -2147483648 ≤ (H (nx F e1 a9)) ∧ (H (nx F e1 a9)) ≤ 2147483647 := by rw [← hH (nx F e1 a9)]; exact ir_43 hI (nx F e1 a9)
      have h_31 : (nx F e1 a9) < 600 → (H (nx F e1 a9)) = (F (nx F e1 a9)) % 256 ∧ -128 ≤ (F (nx F e1 a9)) ∧ (F (nx F e1 a9)) ≤ 127 := fun q => hU (nx F e1 a9) (by omega) q
      have h_32 := hb_or (b := H) (e := e1) (r := (nx F e1 a9))
      have h_33 := hb_bd (b := H) (e := e1) (r := (nx F e1 a9)) (lo := -2147483648) (hi := 2147483647) h_30 (by decide)
      refine v_cv c_161_8 km_8_114 rfl rfl (Nat.le_of_ble_eq_true rfl) ⟨⟨rfl, rfl⟩, Nat.le_of_ble_eq_true rfl, rfl⟩ (Nat.le_of_ble_eq_true rfl) (Nat.le_of_ble_eq_true rfl) (f_154 (e1 := e1) (a9 := a9) (B := H) (r8 := (nx F e1 a9)) (r := (hb H e1 (nx F e1 a9))) hI ((hr_e1)) (((hro_hRt.2.2.1).trans ((hg_a9)))) (fun j => hH j) ((nx_tr hU ((rg_eq hg_a9 h_3).1) ((rg_eq hg_e1 h_1).2)).trans (rfl)) rfl (fun c_34 hI_35 hF_36 h_37 => (bk_inl (q_iload_n c_161_11 rfl (v_ic_eq_f (t := 24) c_161_12 rfl ⟨by first | (clear h_1 hg_e1 h_2 hr_e1 h_3 hg_a9 h_4 hg_f0 h_5 h_6 h_7 h_19 h_20 h_21 h_22 h_23 h_24 h_25 h_26 h_27 h_28 h_29 h_30 h_33 h_8 h_31; omega) | omega, ⟨h_33.1, h_33.2⟩, by decide, by decide⟩ (q_aload_n c_161_15 rfl (q_iconst c_161_16 (q_aload_n c_161_17 rfl (v_gi (z := 4) (v := (nx F e1 a9)) c_161_18 kf_8_108 rfl (Nat.le_of_ble_eq_true rfl) rfl rfl (h_37) ?_)))))))))
      refine v_cv c_161_21 km_8_138 rfl rfl (Nat.le_of_ble_eq_true rfl) ⟨⟨rfl, rfl⟩, Nat.le_of_ble_eq_true rfl, rfl⟩ (Nat.le_of_ble_eq_true rfl) (Nat.le_of_ble_eq_true rfl) (q_aload_n c_153_0 rfl ?_)
      have kn_38 : Hid (c_34 41 5 = (-1)) := (hF_36 41 5 (fun h => absurd h.2 (ni rfl))).trans hro_hRt.2.1
      refine v_gi (z := 5) (v := (-1)) c_153_1 kf_8_102 rfl (Nat.le_of_ble_eq_true rfl) rfl rfl (hid kn_38) (q_iconst c_153_4 (v_ic_eq_t (t := 9) c_153_5 rfl (by decide) (q_aload_n c_153_9 rfl (q_iload_n c_153_10 rfl (v_pi (z := 5) c_153_11 kf_8_102 rfl (Nat.le_of_ble_eq_true rfl) rfl rfl rfl (by decide) (q_aload_n c_153_14 rfl (q_iload_n c_153_15 rfl ?_)))))))
      refine v_pi (z := 6) c_153_16 kf_8_105 rfl (Nat.le_of_ble_eq_true rfl) rfl rfl rfl (by decide) (q_vret c_153_19 rfl (bk_inl (q_aload_n c_161_24 rfl (v_cv c_161_25 km_8_131 rfl rfl (Nat.le_of_ble_eq_true rfl) ⟨⟨rfl, rfl⟩, Nat.le_of_ble_eq_true rfl, rfl⟩ (Nat.le_of_ble_eq_true rfl) (Nat.le_of_ble_eq_true rfl) (q_aload_n c_152_0 rfl (v_gi (z := 5) (v := (nx F e1 a9)) c_152_1 kf_8_102 rfl (Nat.le_of_ble_eq_true rfl) rfl rfl ((up_n (by decide)).trans (up_e rfl)) (q_iconst c_152_4 ?_)))))))
      refine v_ic_ne_t (t := 12) c_152_5 rfl ⟨by first | exact q_90762221b h_21 h_22 | (clear h_1 hg_e1 h_2 hr_e1 h_3 hg_a9 h_4 hg_f0 h_5 h_6 h_7 h_14 h_19 h_20 h_23 h_24 h_25 h_26 h_27 h_28 h_29 h_30 h_33 h_8 h_31 h_32; omega) | omega, ⟨by first | exact q_17990f574 h_21 h_22 | (clear h_1 hg_e1 h_2 hr_e1 h_3 hg_a9 h_4 hg_f0 h_5 h_6 h_7 h_14 h_19 h_20 h_23 h_24 h_25 h_26 h_27 h_28 h_29 h_30 h_33 h_8 h_31 h_32; omega) | omega, by first | exact q_757c304f4 h_21 h_22 | (clear h_1 hg_e1 h_2 hr_e1 h_3 hg_a9 h_4 hg_f0 h_5 h_6 h_7 h_14 h_19 h_20 h_23 h_24 h_25 h_26 h_27 h_28 h_29 h_30 h_33 h_8 h_31 h_32; omega) | omega⟩, by decide, by decide⟩ (q_iconst c_152_12 (v_zret c_152_13 rfl (by decide) (bk_inl (v_if_eq_t (t := 41) c_161_28 rfl (by decide) (q_vret c_161_41 rfl ?_)))))
      have hI_39 := iw_41_5 (v := (nx F e1 a9)) hI_35 ⟨by first | exact q_5ce231cbd h_21 h_22 | (clear h_1 hg_e1 h_2 hr_e1 h_3 hg_a9 h_4 hg_f0 h_5 h_6 h_7 h_14 h_19 h_20 h_23 h_24 h_25 h_26 h_27 h_28 h_29 h_30 h_33 h_8 h_31 h_32; omega) | omega, by first | exact q_6094bb0fa h_23 h_24 | (clear h_1 hg_e1 h_2 hr_e1 h_3 hg_a9 h_4 hg_f0 h_5 h_6 h_7 h_14 h_19 h_20 h_21 h_22 h_25 h_26 h_27 h_28 h_29 h_30 h_33 h_8 h_31 h_32; omega) | omega⟩
      have hI_40 := iw_41_6 (v := 1) hI_39 ⟨by decide, by decide⟩
      have h_41 : (up (up c_34 41 5 (nx F e1 a9)) 41 6 1) 41 5 = (nx F e1 a9) := ((up_n (by decide)).trans (up_e rfl))
      have h_42 : (up (up c_34 41 5 (nx F e1 a9)) 41 6 1) 41 4 = (nx F e1 a9) := ((up_n (by decide)).trans ((up_n (by decide)).trans (h_37)))
      have h_43 : (up (up c_34 41 5 (nx F e1 a9)) 41 6 1) 41 6 = 1 := (up_e rfl)
      exact K (up (up c_34 41 5 (nx F e1 a9)) 41 6 1)  hI_40 (fun a j hm => (up_b (Decidable.or_iff_not_imp_left.mpr (fun h1 h2 => hm (Or.inr (Or.inr ⟨Decidable.not_not.mp h1, h2⟩))))).trans ((up_b (Decidable.or_iff_not_imp_left.mpr (fun h1 h2 => hm (Or.inr (Or.inl ⟨Decidable.not_not.mp h1, h2⟩))))).trans (hF_36 a j (fun h => hm (Or.inl h))))) (rt_i2 ⟨⟨by first | exact q_5935f82f1 h_20 | (clear h_1 hg_e1 h_2 hr_e1 h_3 hg_a9 h_4 hg_f0 h_5 h_6 h_7 h_14 h_19 h_21 h_22 h_23 h_24 h_25 h_26 h_27 h_28 h_29 h_30 h_33 h_8 h_31 h_32; omega) | omega, by first | exact q_63461c6bf h_20 | (clear h_1 hg_e1 h_2 hr_e1 h_3 hg_a9 h_4 hg_f0 h_5 h_6 h_7 h_14 h_19 h_21 h_22 h_23 h_24 h_25 h_26 h_27 h_28 h_29 h_30 h_33 h_8 h_31 h_32; omega) | omega⟩, by first | exact q_88dc5fb99 h_24 | (clear h_1 hg_e1 h_2 hr_e1 h_3 hg_a9 h_4 hg_f0 h_5 h_6 h_7 h_14 h_19 h_20 h_21 h_22 h_23 h_25 h_26 h_27 h_28 h_29 h_30 h_33 h_8 h_31 h_32; omega) | omega, by first | exact q_a060fbdd4 h_21 h_22 h_24 | (clear h_1 hg_e1 h_2 hr_e1 h_3 hg_a9 h_4 hg_f0 h_5 h_6 h_7 h_14 h_19 h_20 h_23 h_25 h_26 h_27 h_28 h_29 h_30 h_33 h_8 h_31 h_32; omega) | omega, by first | exact q_69efb464e h_20 | (clear h_1 hg_e1 h_2 hr_e1 h_3 hg_a9 h_4 hg_f0 h_5 h_6 h_7 h_14 h_19 h_21 h_22 h_23 h_24 h_25 h_26 h_27 h_28 h_29 h_30 h_33 h_8 h_31 h_32; omega) | omega⟩) (Or.inr (Or.inl (by first | exact q_e2d2b4ae2 h_20 | (clear h_1 hg_e1 h_2 hr_e1 h_3 hg_a9 h_4 hg_f0 h_5 h_6 h_7 h_14 h_19 h_21 h_22 h_23 h_24 h_25 h_26 h_27 h_28 h_29 h_30 h_33 h_8 h_31 h_32; omega) | omega))) (Or.inr (Or.inl (by first | exact q_e2d2b4ae2 h_20 | (clear h_1 hg_e1 h_2 hr_e1 h_3 hg_a9 h_4 hg_f0 h_5 h_6 h_7 h_14 h_19 h_21 h_22 h_23 h_24 h_25 h_26 h_27 h_28 h_29 h_30 h_33 h_8 h_31 h_32; omega) | omega)))
    · refine v_ic_ge_f (t := 55) c_4_20 rfl ⟨by first | exact q_a3bce4abb h_3 h_6 hg_a9 | (clear h_1 hg_e1 h_2 hr_e1 h_4 hg_f0 h_5 h_7 h_8; omega) | omega, (Int.not_le.mp h_14), (Int.le_trans (rg_eq hg_e1 h_1).2 (by decide))⟩ (q_aload_n c_4_23 rfl (v_gr (t := 2) c_4_24 kf_5_9 rfl (Nat.le_of_ble_eq_true rfl) rfl (q_iload_n c_4_27 rfl ?_)))
      have kn_44 : Hid (c_9 2 (nx F e1 a9) = (F (nx F e1 a9))) := (hF_11 2 (nx F e1 a9) (fun h => absurd h.1 (nn rfl))).trans (hF (nx F e1 a9))
      refine v_ba (v := (F (nx F e1 a9))) c_4_28 rfl (by decide) (by decide) ⟨by first | exact q_828522d69 h_3 h_6 hg_a9 | (clear h_1 hg_e1 h_2 hr_e1 h_4 hg_f0 h_5 h_7 h_14 h_8; omega) | omega, by first | exact q_b867e77c7 h_14 h_2 hr_e1 | (clear h_1 hg_e1 h_3 hg_a9 h_4 hg_f0 h_5 h_6 h_7 h_8; omega) | omega⟩ (hid kn_44) (q_aload_n c_4_29 rfl (q_iload_n c_4_30 rfl (v_sch 59 c_4_31 rfl (by omega) (Nat.le_of_ble_eq_true rfl) (by decide) (by decide) (by decide) ?_)))
      by_cases h_45 : (F (nx F e1 a9)) ≠ 59
      · refine v_ic_ne_t (t := 49) c_4_34 rfl ⟨h_45, ⟨h_7.1, h_7.2⟩, by decide, by decide⟩ (v_iinc (v := 1) c_4_49 rfl (Nat.le_of_ble_eq_true rfl) (by decide) (q_goto (t := 7) c_4_52 rfl (q_iload_n c_4_7 rfl (q_aload_n c_4_8 rfl (v_sln 1 c_4_9 rfl (by omega) (Nat.le_of_ble_eq_true rfl) (by decide) (by decide) (v_ic_ge_t (t := 55) c_4_12 rfl (by decide) (q_iconst c_4_55 ?_)))))))
        refine q_iret c_4_56 rfl (bk_inl (q_iconst c_11_12 (v_ic_ne_f (t := 25) c_11_13 rfl (by decide) (q_aload_n c_11_16 rfl (q_iconst c_11_17 (q_aload_n c_11_18 rfl (v_gi (z := 2) (v := (nx F e1 a9)) c_11_19 kf_5_35 rfl (Nat.le_of_ble_eq_true rfl) rfl rfl (hz_12) ?_)))))))
        refine v_cv c_11_22 km_5_52 rfl rfl (Nat.le_of_ble_eq_true rfl) ⟨⟨rfl, rfl⟩, Nat.le_of_ble_eq_true rfl, rfl⟩ (Nat.le_of_ble_eq_true rfl) (Nat.le_of_ble_eq_true rfl) (q_aload_n c_7_0 rfl ?_)
        have kn_46 : Hid (c_9 1 4 = 0) := (hF_11 1 4 (fun h => absurd h.2 (ni rfl))).trans (hs9)
        refine v_gi (z := 4) (v := 0) c_7_1 kf_5_38 rfl (Nat.le_of_ble_eq_true rfl) rfl rfl (hid kn_46) (v_if_ne_f (t := 17) c_7_4 rfl (by decide) (q_aload_n c_7_7 rfl (q_iload_n c_7_8 rfl (v_pi (z := 4) c_7_9 kf_5_38 rfl (Nat.le_of_ble_eq_true rfl) rfl rfl rfl (by decide) (q_aload_n c_7_12 rfl (q_iload_n c_7_13 rfl (v_pi (z := 5) c_7_14 kf_5_15 rfl (Nat.le_of_ble_eq_true rfl) rfl rfl rfl (by decide) ?_)))))))
        refine q_vret c_7_17 rfl (bk_inl (q_vret c_11_25 rfl ?_))
        have hI_47 := iw_1_4 (v := 1) hI_10 ⟨by decide, by decide⟩
        have hI_48 := iw_1_5 (v := (nx F e1 a9)) hI_47 ⟨by first | exact q_e3021f629 h_3 h_6 hg_a9 | (clear h_1 hg_e1 h_2 hr_e1 h_4 hg_f0 h_5 h_7 h_14 h_8 h_45; omega) | omega, by first | exact q_15401fa7c h_14 h_2 hr_e1 | (clear h_1 hg_e1 h_3 hg_a9 h_4 hg_f0 h_5 h_6 h_7 h_8 h_45; omega) | omega⟩
        intro hE_49
        have hW : Wd P Q P P (up (up c_9 1 4 1) 1 5 (nx F e1 a9)) = Wd P Q P P m9 := (Prod.mk.inj (Prod.mk.inj hE_49).2).1
        have h_50 := ir_1_4 hJ9
        have h_51 : m9 1 4 = 1 := wd_fv (z := 4) 4 rfl hW rfl rfl rfl rfl (by decide) ((up_n (by decide)).trans (up_e rfl)) ⟨by decide, by decide⟩ ⟨(Int.le_trans (by decide) h_50.1), (Int.le_trans h_50.2 (by decide))⟩
        have h_52 := ir_1_2 hJ9
        have h_53 : m9 1 2 = (nx F e1 a9) := wd_fv (z := 2) 2 rfl hW rfl rfl rfl rfl (by decide) ((up_n (by decide)).trans ((up_n (by decide)).trans (hz_12))) ⟨by first | exact q_a3bce4abb h_3 h_6 hg_a9 | (clear h_1 hg_e1 h_2 hr_e1 h_4 hg_f0 h_5 h_7 h_14 h_50 h_51 h_52 h_8 h_45; omega) | omega, by first | exact q_2e6ee4ea6 h_14 h_2 hr_e1 | (clear h_1 hg_e1 h_3 hg_a9 h_4 hg_f0 h_5 h_6 h_7 h_50 h_51 h_52 h_8 h_45; omega) | omega⟩ ⟨(Int.le_trans (by decide) h_52.1), (Int.le_trans h_52.2 (by decide))⟩
        have h_54 := ir_1_5 hJ9
        have h_55 : m9 1 5 = (nx F e1 a9) := wd_fv (z := 5) 5 rfl hW rfl rfl rfl rfl (by decide) (up_e rfl) ⟨by first | exact q_17990f574 h_52 h_53 | (clear h_1 hg_e1 h_2 hr_e1 h_3 hg_a9 h_4 hg_f0 h_5 h_6 h_7 h_14 h_50 h_51 h_54 h_8 h_45; omega) | omega, by first | exact q_757c304f4 h_52 h_53 | (clear h_1 hg_e1 h_2 hr_e1 h_3 hg_a9 h_4 hg_f0 h_5 h_6 h_7 h_14 h_50 h_51 h_54 h_8 h_45; omega) | omega⟩ ⟨(Int.le_trans (by decide) h_54.1), (Int.le_trans h_54.2 (by decide))⟩
        refine q_aload_n c_161_0 rfl (v_cv c_161_1 km_8_131 rfl rfl (Nat.le_of_ble_eq_true rfl) ⟨⟨rfl, rfl⟩, Nat.le_of_ble_eq_true rfl, rfl⟩ (Nat.le_of_ble_eq_true rfl) (Nat.le_of_ble_eq_true rfl) (q_aload_n c_152_0 rfl ?_))
        have h_56 := ir_41_5 hI
        have h_57 := ir_1_5 hJ
        have h_58 := ir_41_4 hI
        have h_59 := ir_41_6 hI
        have h_60 := rt_ok hRt (by first | (clear h_1 hg_e1 h_2 hr_e1 h_3 hg_a9 hg_f0 h_5 h_6 h_7 h_14 h_50 h_51 h_52 h_53 h_54 h_55 h_56 h_57 h_58 h_59 h_8 h_45; omega) | omega)
        have hro_hRt := rt_ok hRt (by first | decide | (clear h_1 hg_e1 h_2 hr_e1 h_3 hg_a9 h_4 hg_f0 h_5 h_6 h_7 h_14 h_50 h_51 h_52 h_53 h_54 h_55 h_56 h_57 h_58 h_59 h_60 h_8 h_45; omega) | omega)
        refine v_gi (z := 5) (v := (-1)) c_152_1 kf_8_102 rfl (Nat.le_of_ble_eq_true rfl) rfl rfl hro_hRt.2.1 (q_iconst c_152_4 (v_ic_ne_f (t := 12) c_152_5 rfl (by decide) (q_iconst c_152_8 (q_goto (t := 13) c_152_9 rfl (v_zret c_152_13 rfl (by decide) (bk_inl (v_if_eq_f (t := 24) c_161_4 rfl (by decide) ?_)))))))
        refine q_aload_n c_161_7 rfl ?_
        have h_61 : -2147483648 ≤ (H (nx F e1 a9)) ∧ (H (nx F e1 a9)) ≤ 2147483647 := by rw [← hH (nx F e1 a9)]; exact ir_43 hI (nx F e1 a9)
        have h_62 := hU (nx F e1 a9) (by first | exact q_4ad75e8a2 h_52 h_53 | (clear h_1 hg_e1 h_2 hr_e1 h_3 hg_a9 h_4 hg_f0 h_5 h_6 h_7 h_14 h_50 h_51 h_54 h_55 h_56 h_57 h_58 h_59 h_60 h_61 h_8 h_45; omega) | omega) (by first | exact q_b867e77c7 h_14 h_2 hr_e1 | (clear h_1 hg_e1 h_3 hg_a9 h_4 hg_f0 h_5 h_6 h_7 h_50 h_51 h_52 h_53 h_54 h_55 h_56 h_57 h_58 h_59 h_60 h_61 h_8 h_45; omega) | omega)
        have h_63 := hb_or (b := H) (e := e1) (r := (nx F e1 a9))
        have h_64 := hb_bd (b := H) (e := e1) (r := (nx F e1 a9)) (lo := -2147483648) (hi := 2147483647) h_61 (by decide)
        refine v_cv c_161_8 km_8_114 rfl rfl (Nat.le_of_ble_eq_true rfl) ⟨⟨rfl, rfl⟩, Nat.le_of_ble_eq_true rfl, rfl⟩ (Nat.le_of_ble_eq_true rfl) (Nat.le_of_ble_eq_true rfl) (f_154 (e1 := e1) (a9 := a9) (B := H) (r8 := (nx F e1 a9)) (r := (hb H e1 (nx F e1 a9))) hI ((hr_e1)) (((hro_hRt.2.2.1).trans ((hg_a9)))) (fun j => hH j) ((nx_tr hU ((rg_eq hg_a9 h_3).1) ((rg_eq hg_e1 h_1).2)).trans (rfl)) rfl (fun c_65 hI_66 hF_67 h_68 => (bk_inl (q_iload_n c_161_11 rfl (v_ic_eq_f (t := 24) c_161_12 rfl ⟨by first | (clear h_3 h_4 hg_f0 h_5 h_50 h_51 h_56 h_57 h_58 h_59 h_60; omega) | omega, ⟨h_64.1, h_64.2⟩, by decide, by decide⟩ (q_aload_n c_161_15 rfl (q_iconst c_161_16 (q_aload_n c_161_17 rfl (v_gi (z := 4) (v := (nx F e1 a9)) c_161_18 kf_8_108 rfl (Nat.le_of_ble_eq_true rfl) rfl rfl (h_68) ?_)))))))))
        refine v_cv c_161_21 km_8_138 rfl rfl (Nat.le_of_ble_eq_true rfl) ⟨⟨rfl, rfl⟩, Nat.le_of_ble_eq_true rfl, rfl⟩ (Nat.le_of_ble_eq_true rfl) (Nat.le_of_ble_eq_true rfl) (q_aload_n c_153_0 rfl ?_)
        have kn_69 : Hid (c_65 41 5 = (-1)) := (hF_67 41 5 (fun h => absurd h.2 (ni rfl))).trans hro_hRt.2.1
        refine v_gi (z := 5) (v := (-1)) c_153_1 kf_8_102 rfl (Nat.le_of_ble_eq_true rfl) rfl rfl (hid kn_69) (q_iconst c_153_4 (v_ic_eq_t (t := 9) c_153_5 rfl (by decide) (q_aload_n c_153_9 rfl (q_iload_n c_153_10 rfl (v_pi (z := 5) c_153_11 kf_8_102 rfl (Nat.le_of_ble_eq_true rfl) rfl rfl rfl (by decide) (q_aload_n c_153_14 rfl (q_iload_n c_153_15 rfl ?_)))))))
        refine v_pi (z := 6) c_153_16 kf_8_105 rfl (Nat.le_of_ble_eq_true rfl) rfl rfl rfl (by decide) (q_vret c_153_19 rfl (bk_inl (q_aload_n c_161_24 rfl (v_cv c_161_25 km_8_131 rfl rfl (Nat.le_of_ble_eq_true rfl) ⟨⟨rfl, rfl⟩, Nat.le_of_ble_eq_true rfl, rfl⟩ (Nat.le_of_ble_eq_true rfl) (Nat.le_of_ble_eq_true rfl) (q_aload_n c_152_0 rfl (v_gi (z := 5) (v := (nx F e1 a9)) c_152_1 kf_8_102 rfl (Nat.le_of_ble_eq_true rfl) rfl rfl ((up_n (by decide)).trans (up_e rfl)) (q_iconst c_152_4 ?_)))))))
        refine v_ic_ne_t (t := 12) c_152_5 rfl ⟨by first | exact q_90762221b h_52 h_53 | (clear h_1 hg_e1 h_2 hr_e1 h_3 hg_a9 h_4 hg_f0 h_5 h_6 h_7 h_14 h_50 h_51 h_54 h_55 h_56 h_57 h_58 h_59 h_60 h_61 h_62 h_64 h_8 h_45 h_63; omega) | omega, ⟨by first | exact q_17990f574 h_52 h_53 | (clear h_1 hg_e1 h_2 hr_e1 h_3 hg_a9 h_4 hg_f0 h_5 h_6 h_7 h_14 h_50 h_51 h_54 h_55 h_56 h_57 h_58 h_59 h_60 h_61 h_62 h_64 h_8 h_45 h_63; omega) | omega, by first | exact q_783468581 h_54 h_55 | (clear h_1 hg_e1 h_2 hr_e1 h_3 hg_a9 h_4 hg_f0 h_5 h_6 h_7 h_14 h_50 h_51 h_52 h_53 h_56 h_57 h_58 h_59 h_60 h_61 h_62 h_64 h_8 h_45 h_63; omega) | omega⟩, by decide, by decide⟩ (q_iconst c_152_12 (v_zret c_152_13 rfl (by decide) (bk_inl (v_if_eq_t (t := 41) c_161_28 rfl (by decide) (q_vret c_161_41 rfl ?_)))))
        have hI_70 := iw_41_5 (v := (nx F e1 a9)) hI_66 ⟨by first | exact q_5ce231cbd h_52 h_53 | (clear h_1 hg_e1 h_2 hr_e1 h_3 hg_a9 h_4 hg_f0 h_5 h_6 h_7 h_14 h_50 h_51 h_54 h_55 h_56 h_57 h_58 h_59 h_60 h_61 h_62 h_64 h_8 h_45 h_63; omega) | omega, by first | exact q_deaeab841 h_52 h_53 | (clear h_1 hg_e1 h_2 hr_e1 h_3 hg_a9 h_4 hg_f0 h_5 h_6 h_7 h_14 h_50 h_51 h_54 h_55 h_56 h_57 h_58 h_59 h_60 h_61 h_62 h_64 h_8 h_45 h_63; omega) | omega⟩
        have hI_71 := iw_41_6 (v := 1) hI_70 ⟨by decide, by decide⟩
        have h_72 : (up (up c_65 41 5 (nx F e1 a9)) 41 6 1) 41 5 = (nx F e1 a9) := ((up_n (by decide)).trans (up_e rfl))
        have h_73 : (up (up c_65 41 5 (nx F e1 a9)) 41 6 1) 41 4 = (nx F e1 a9) := ((up_n (by decide)).trans ((up_n (by decide)).trans (h_68)))
        have h_74 : (up (up c_65 41 5 (nx F e1 a9)) 41 6 1) 41 6 = 1 := (up_e rfl)
        exact K (up (up c_65 41 5 (nx F e1 a9)) 41 6 1)  hI_71 (fun a j hm => (up_b (Decidable.or_iff_not_imp_left.mpr (fun h1 h2 => hm (Or.inr (Or.inr ⟨Decidable.not_not.mp h1, h2⟩))))).trans ((up_b (Decidable.or_iff_not_imp_left.mpr (fun h1 h2 => hm (Or.inr (Or.inl ⟨Decidable.not_not.mp h1, h2⟩))))).trans (hF_67 a j (fun h => hm (Or.inl h))))) (rt_i2 ⟨⟨by first | exact q_5935f82f1 h_51 | (clear h_1 hg_e1 h_2 hr_e1 h_3 hg_a9 h_4 hg_f0 h_5 h_6 h_7 h_14 h_50 h_52 h_53 h_54 h_55 h_56 h_57 h_58 h_59 h_60 h_61 h_62 h_64 h_8 h_45 h_63; omega) | omega, by first | exact q_63461c6bf h_51 | (clear h_1 hg_e1 h_2 hr_e1 h_3 hg_a9 h_4 hg_f0 h_5 h_6 h_7 h_14 h_50 h_52 h_53 h_54 h_55 h_56 h_57 h_58 h_59 h_60 h_61 h_62 h_64 h_8 h_45 h_63; omega) | omega⟩, by first | exact q_88dc5fb99 h_55 | (clear h_1 hg_e1 h_2 hr_e1 h_3 hg_a9 h_4 hg_f0 h_5 h_6 h_7 h_14 h_50 h_51 h_52 h_53 h_54 h_56 h_57 h_58 h_59 h_60 h_61 h_62 h_64 h_8 h_45 h_63; omega) | omega, by first | exact q_a060fbdd4 h_52 h_53 h_55 | (clear h_1 hg_e1 h_2 hr_e1 h_3 hg_a9 h_4 hg_f0 h_5 h_6 h_7 h_14 h_50 h_51 h_54 h_56 h_57 h_58 h_59 h_60 h_61 h_62 h_64 h_8 h_45 h_63; omega) | omega, by first | exact q_69efb464e h_51 | (clear h_1 hg_e1 h_2 hr_e1 h_3 hg_a9 h_4 hg_f0 h_5 h_6 h_7 h_14 h_50 h_52 h_53 h_54 h_55 h_56 h_57 h_58 h_59 h_60 h_61 h_62 h_64 h_8 h_45 h_63; omega) | omega⟩) (Or.inr (Or.inl (by first | exact q_e2d2b4ae2 h_51 | (clear h_1 hg_e1 h_2 hr_e1 h_3 hg_a9 h_4 hg_f0 h_5 h_6 h_7 h_14 h_50 h_52 h_53 h_54 h_55 h_56 h_57 h_58 h_59 h_60 h_61 h_62 h_64 h_8 h_45 h_63; omega) | omega))) (Or.inr (Or.inl (by first | exact q_e2d2b4ae2 h_51 | (clear h_1 hg_e1 h_2 hr_e1 h_3 hg_a9 h_4 hg_f0 h_5 h_6 h_7 h_14 h_50 h_52 h_53 h_54 h_55 h_56 h_57 h_58 h_59 h_60 h_61 h_62 h_64 h_8 h_45 h_63; omega) | omega)))
      · refine v_ic_ne_f (t := 49) c_4_34 rfl (Decidable.not_not.mp h_45) (q_aload_n c_4_37 rfl (q_dup c_4_38 rfl (v_gi (z := 2) (v := (nx F e1 a9)) c_4_39 kf_5_35 rfl (Nat.le_of_ble_eq_true rfl) rfl rfl (hz_12) (q_iconst c_4_42 (v_iadd (v := (nx F e1 a9) + 1) c_4_43 rfl (v_pi (z := 2) c_4_44 kf_5_35 rfl (Nat.le_of_ble_eq_true rfl) rfl rfl rfl (by decide) (q_iload_n c_4_47 rfl ?_)))))))
        refine q_iret c_4_48 rfl (bk_inl (q_iconst c_11_12 (v_ic_ne_t (t := 25) c_11_13 rfl (by decide) (q_vret c_11_25 rfl ?_))))
        have hI_75 := iw_1_2 (v := (nx F e1 a9) + 1) hI_10 ⟨by first | exact q_e260493d5 h_3 h_6 hg_a9 | (clear h_1 hg_e1 h_2 hr_e1 h_4 hg_f0 h_5 h_7 h_14 h_45 h_8; omega) | omega, by first | exact q_6ea34058e h_14 h_2 hr_e1 | (clear h_1 hg_e1 h_3 hg_a9 h_4 hg_f0 h_5 h_6 h_7 h_45 h_8; omega) | omega⟩
        intro hE_76
        have hW : Wd P Q P P (up c_9 1 2 ((nx F e1 a9) + 1)) = Wd P Q P P m9 := (Prod.mk.inj (Prod.mk.inj hE_76).2).1
        have kn_77 : Hid (c_9 1 4 = 0) := (hF_11 1 4 (fun h => absurd h.2 (ni rfl))).trans (hs9)
        have h_78 := ir_1_4 hJ9
        have h_79 : m9 1 4 = 0 := wd_fv (z := 4) 4 rfl hW rfl rfl rfl rfl (by decide) ((up_n (by decide)).trans (hid kn_77)) ⟨by decide, by decide⟩ ⟨(Int.le_trans (by decide) h_78.1), (Int.le_trans h_78.2 (by decide))⟩
        have h_80 := ir_1_2 hJ9
        have h_81 : m9 1 2 = (nx F e1 a9) + 1 := wd_fv (z := 2) 2 rfl hW rfl rfl rfl rfl (by decide) (up_e rfl) ⟨by first | exact q_86633cc1b h_3 h_6 hg_a9 | (clear h_1 hg_e1 h_2 hr_e1 h_4 hg_f0 h_5 h_7 h_14 h_45 h_78 h_79 h_80 h_8; omega) | omega, by first | exact q_1da59465c h_14 h_2 hr_e1 | (clear h_1 hg_e1 h_3 hg_a9 h_4 hg_f0 h_5 h_6 h_7 h_45 h_78 h_79 h_80 h_8; omega) | omega⟩ ⟨(Int.le_trans (by decide) h_80.1), (Int.le_trans h_80.2 (by decide))⟩
        have kn_82 : Hid (c_9 1 5 = (-1)) := (hF_11 1 5 (fun h => absurd h.2 (ni rfl))).trans (hs8)
        have h_83 := ir_1_5 hJ9
        have h_84 : m9 1 5 = (-1) := wd_fv (z := 5) 5 rfl hW rfl rfl rfl rfl (by decide) ((up_n (by decide)).trans (hid kn_82)) ⟨by decide, by decide⟩ ⟨(Int.le_trans (by decide) h_83.1), (Int.le_trans h_83.2 (by decide))⟩
        refine q_aload_n c_161_0 rfl (v_cv c_161_1 km_8_131 rfl rfl (Nat.le_of_ble_eq_true rfl) ⟨⟨rfl, rfl⟩, Nat.le_of_ble_eq_true rfl, rfl⟩ (Nat.le_of_ble_eq_true rfl) (Nat.le_of_ble_eq_true rfl) (q_aload_n c_152_0 rfl ?_))
        have h_85 := ir_41_5 hI
        have h_86 := ir_1_5 hJ
        have h_87 := ir_41_4 hI
        have h_88 := ir_41_6 hI
        have h_89 := rt_ok hRt (by first | (clear h_1 hg_e1 h_2 hr_e1 h_3 hg_a9 hg_f0 h_5 h_6 h_7 h_14 h_45 h_78 h_79 h_80 h_81 h_83 h_84 h_85 h_86 h_87 h_88 h_8; omega) | omega)
        have hro_hRt := rt_ok hRt (by first | decide | (clear h_1 hg_e1 h_2 hr_e1 h_3 hg_a9 h_4 hg_f0 h_5 h_6 h_7 h_14 h_45 h_78 h_79 h_80 h_81 h_83 h_84 h_85 h_86 h_87 h_88 h_89 h_8; omega) | omega)
        refine v_gi (z := 5) (v := (-1)) c_152_1 kf_8_102 rfl (Nat.le_of_ble_eq_true rfl) rfl rfl hro_hRt.2.1 (q_iconst c_152_4 (v_ic_ne_f (t := 12) c_152_5 rfl (by decide) (q_iconst c_152_8 (q_goto (t := 13) c_152_9 rfl (v_zret c_152_13 rfl (by decide) (bk_inl (v_if_eq_f (t := 24) c_161_4 rfl (by decide) ?_)))))))
        refine q_aload_n c_161_7 rfl ?_
        have h_90 : -2147483648 ≤ (H (nx F e1 a9)) ∧ (H (nx F e1 a9)) ≤ 2147483647 := by rw [← hH (nx F e1 a9)]; exact ir_43 hI (nx F e1 a9)
        have h_91 := hU (nx F e1 a9) (by first | exact q_828522d69 h_3 h_6 hg_a9 | (clear h_1 hg_e1 h_2 hr_e1 h_4 hg_f0 h_5 h_7 h_14 h_45 h_78 h_79 h_80 h_81 h_83 h_84 h_85 h_86 h_87 h_88 h_89 h_90 h_8; omega) | omega) (by first | exact q_b03d63f6f h_80 h_81 | (clear h_1 hg_e1 h_2 hr_e1 h_3 hg_a9 h_4 hg_f0 h_5 h_6 h_7 h_14 h_45 h_78 h_79 h_83 h_84 h_85 h_86 h_87 h_88 h_89 h_90 h_8; omega) | omega)
        have h_92 := hb_or (b := H) (e := e1) (r := (nx F e1 a9))
        have h_93 := hb_bd (b := H) (e := e1) (r := (nx F e1 a9)) (lo := -2147483648) (hi := 2147483647) h_90 (by decide)
        refine v_cv c_161_8 km_8_114 rfl rfl (Nat.le_of_ble_eq_true rfl) ⟨⟨rfl, rfl⟩, Nat.le_of_ble_eq_true rfl, rfl⟩ (Nat.le_of_ble_eq_true rfl) (Nat.le_of_ble_eq_true rfl) (f_154 (e1 := e1) (a9 := a9) (B := H) (r8 := (nx F e1 a9)) (r := (hb H e1 (nx F e1 a9))) hI ((hr_e1)) (((hro_hRt.2.2.1).trans ((hg_a9)))) (fun j => hH j) ((nx_tr hU ((rg_eq hg_a9 h_3).1) ((rg_eq hg_e1 h_1).2)).trans (rfl)) rfl (fun c_94 hI_95 hF_96 h_97 => (bk_inl (q_iload_n c_161_11 rfl (v_ic_eq_t (t := 24) c_161_12 rfl (by first | (clear h_3 h_4 hg_f0 h_5 h_78 h_79 h_83 h_84 h_85 h_86 h_87 h_88 h_89; omega) | omega) (q_aload_n c_161_24 rfl (v_cv c_161_25 km_8_131 rfl rfl (Nat.le_of_ble_eq_true rfl) ⟨⟨rfl, rfl⟩, Nat.le_of_ble_eq_true rfl, rfl⟩ (Nat.le_of_ble_eq_true rfl) (Nat.le_of_ble_eq_true rfl) (q_aload_n c_152_0 rfl ?_))))))))
        have kn_98 : Hid (c_94 41 5 = (-1)) := (hF_96 41 5 (fun h => absurd h.2 (ni rfl))).trans hro_hRt.2.1
        refine v_gi (z := 5) (v := (-1)) c_152_1 kf_8_102 rfl (Nat.le_of_ble_eq_true rfl) rfl rfl (hid kn_98) (q_iconst c_152_4 (v_ic_ne_f (t := 12) c_152_5 rfl (by decide) (q_iconst c_152_8 (q_goto (t := 13) c_152_9 rfl (v_zret c_152_13 rfl (by decide) (bk_inl (v_if_eq_f (t := 41) c_161_28 rfl (by decide) ?_)))))))
        refine q_aload_n c_161_31 rfl (q_dup c_161_32 rfl (v_gi (z := 4) (v := (nx F e1 a9)) c_161_33 kf_8_108 rfl (Nat.le_of_ble_eq_true rfl) rfl rfl (h_97) (q_iconst c_161_36 (v_iadd (v := (nx F e1 a9) + 1) c_161_37 rfl (v_pi (z := 4) c_161_38 kf_8_108 rfl (Nat.le_of_ble_eq_true rfl) rfl rfl rfl (by decide) (q_vret c_161_41 rfl ?_))))))
        have hI_99 := iw_41_4 (v := (nx F e1 a9) + 1) hI_95 ⟨by first | exact q_e260493d5 h_3 h_6 hg_a9 | (clear h_1 hg_e1 h_2 hr_e1 h_4 hg_f0 h_5 h_7 h_14 h_45 h_78 h_79 h_80 h_81 h_83 h_84 h_85 h_86 h_87 h_88 h_89 h_90 h_91 h_93 h_8 h_92; omega) | omega, by first | exact q_369ecf7f1 h_80 h_81 | (clear h_1 hg_e1 h_2 hr_e1 h_3 hg_a9 h_4 hg_f0 h_5 h_6 h_7 h_14 h_45 h_78 h_79 h_83 h_84 h_85 h_86 h_87 h_88 h_89 h_90 h_91 h_93 h_8 h_92; omega) | omega⟩
        have h_100 : (up c_94 41 4 ((nx F e1 a9) + 1)) 41 5 = (-1) := ((up_n (by decide)).trans (hid kn_98))
        have h_101 : (up c_94 41 4 ((nx F e1 a9) + 1)) 41 4 = (nx F e1 a9) + 1 := (up_e rfl)
        have kn_102 : Hid (c_94 41 6 = c 41 6) := hF_96 41 6 (fun h => absurd h.2 (ni rfl))
        have h_103 : (up c_94 41 4 ((nx F e1 a9) + 1)) 41 6 = c 41 6 := ((up_n (by decide)).trans (hid kn_102))
        exact K (up c_94 41 4 ((nx F e1 a9) + 1))  hI_99 (fun a j hm => (up_b (Decidable.or_iff_not_imp_left.mpr (fun h1 h2 => hm (Or.inl ⟨Decidable.not_not.mp h1, h2⟩)))).trans (hF_96 a j (fun h => hm (Or.inl h)))) (rt_i1 ⟨by first | exact q_f6b658f58 h_78 h_79 | (clear h_1 hg_e1 h_2 hr_e1 h_3 hg_a9 h_4 hg_f0 h_5 h_6 h_7 h_14 h_45 h_80 h_81 h_83 h_84 h_85 h_86 h_87 h_88 h_89 h_90 h_91 h_93 h_8 h_92; omega) | omega, by first | decide | (clear h_1 hg_e1 h_2 hr_e1 h_3 hg_a9 h_4 hg_f0 h_5 h_6 h_7 h_14 h_45 h_78 h_79 h_80 h_81 h_83 h_84 h_85 h_86 h_87 h_88 h_89 h_90 h_91 h_93 h_8 h_92; omega) | omega, by first | exact q_58a890de0 h_81 | (clear h_1 hg_e1 h_2 hr_e1 h_3 hg_a9 h_4 hg_f0 h_5 h_6 h_7 h_14 h_45 h_78 h_79 h_80 h_83 h_84 h_85 h_86 h_87 h_88 h_89 h_90 h_91 h_93 h_8 h_92; omega) | omega, by first | exact q_f39655ca6 h_83 h_84 | (clear h_1 hg_e1 h_2 hr_e1 h_3 hg_a9 h_4 hg_f0 h_5 h_6 h_7 h_14 h_45 h_78 h_79 h_80 h_81 h_85 h_86 h_87 h_88 h_89 h_90 h_91 h_93 h_8 h_92; omega) | omega⟩) (Or.inr (Or.inr ⟨by first | exact q_1caa53e22 h_6 h_81 | (clear h_1 hg_e1 h_2 hr_e1 h_3 hg_a9 h_4 hg_f0 h_5 h_7 h_14 h_45 h_78 h_79 h_80 h_83 h_84 h_85 h_86 h_87 h_88 h_89 h_90 h_91 h_93 h_8 h_92; omega) | omega, by first | exact q_639ed28ca h_14 h_81 | (clear h_1 hg_e1 h_2 hr_e1 h_3 hg_a9 h_4 hg_f0 h_5 h_6 h_7 h_45 h_78 h_79 h_80 h_83 h_84 h_85 h_86 h_87 h_88 h_89 h_90 h_91 h_93 h_8 h_92; omega) | omega⟩)) (Or.inr (Or.inr (by first | (clear h_1 hg_e1 h_2 hr_e1 h_3 hg_a9 h_5 h_6 h_7 h_14 h_45 h_78 h_79 h_80 h_81 h_83 h_84 h_85 h_86 h_87 h_88 h_89 h_90 h_91 h_93 h_8 h_92; omega) | omega)))
  · skip
    refine q_aload_n c_11_0 rfl (v_cv c_11_1 km_5_45 rfl rfl (Nat.le_of_ble_eq_true rfl) ⟨⟨rfl, rfl⟩, Nat.le_of_ble_eq_true rfl, rfl⟩ (Nat.le_of_ble_eq_true rfl) (Nat.le_of_ble_eq_true rfl) (q_aload_n c_2_0 rfl (v_gi (z := 4) (v := f0) c_2_1 kf_5_38 rfl (Nat.le_of_ble_eq_true rfl) rfl rfl (hg_f0) (v_if_ne_t (t := 11) c_2_4 rfl ⟨by omega, ⟨(Int.le_trans (by decide) (rg_eq hg_f0 h_4).1), (Int.le_trans (rg_eq hg_f0 h_4).2 (by decide))⟩, by decide, by decide⟩ (q_iconst c_2_11 (v_zret c_2_12 rfl (by decide) (bk_inl ?_)))))))
    refine v_if_eq_t (t := 25) c_11_4 rfl (by decide) (q_vret c_11_25 rfl ?_)
    intro hE_104
    have hW : Wd P Q P P m = Wd P Q P P m9 := (Prod.mk.inj (Prod.mk.inj hE_104).2).1
    have h_105 := ir_1_4 hJ9
    have h_106 : m9 1 4 = f0 := wd_fv (z := 4) 4 rfl hW rfl rfl rfl rfl (by decide) (hg_f0) ⟨(Int.le_trans (by decide) (rg_eq hg_f0 h_4).1), (Int.le_trans (rg_eq hg_f0 h_4).2 (by decide))⟩ ⟨(Int.le_trans (by decide) h_105.1), (Int.le_trans h_105.2 (by decide))⟩
    have h_107 := ir_1_2 hJ9
    have h_108 : m9 1 2 = a9 := wd_fv (z := 2) 2 rfl hW rfl rfl rfl rfl (by decide) (hg_a9) ⟨(Int.le_trans (by decide) (rg_eq hg_a9 h_3).1), (Int.le_trans (rg_eq hg_a9 h_3).2 (by decide))⟩ ⟨(Int.le_trans (by decide) h_107.1), (Int.le_trans h_107.2 (by decide))⟩
    have h_109 := ir_1_5 hJ
    have h_110 := ir_1_5 hJ9
    have h_111 : m9 1 5 = m 1 5 := wd_fv (z := 5) 5 rfl hW rfl rfl rfl rfl (by decide) rfl ⟨(Int.le_trans (by decide) h_109.1), (Int.le_trans h_109.2 (by decide))⟩ ⟨(Int.le_trans (by decide) h_110.1), (Int.le_trans h_110.2 (by decide))⟩
    refine q_aload_n c_161_0 rfl (v_cv c_161_1 km_8_131 rfl rfl (Nat.le_of_ble_eq_true rfl) ⟨⟨rfl, rfl⟩, Nat.le_of_ble_eq_true rfl, rfl⟩ (Nat.le_of_ble_eq_true rfl) (Nat.le_of_ble_eq_true rfl) (q_aload_n c_152_0 rfl ?_))
    have h_112 := ir_41_5 hI
    have h_113 := ir_41_4 hI
    have h_114 := ir_41_6 hI
    have h_115 := rt_bad hRt (by first | (clear h_1 hg_e1 h_2 hr_e1 h_3 hg_a9 h_4 hg_f0 h_105 h_106 h_107 h_108 h_109 h_110 h_111 h_112 h_113 h_114; omega) | omega)
    have hrb_hRt := rt_bad hRt (by first | exact q_5e082ea92 h_115 hg_f0 | (clear h_1 hg_e1 h_2 hr_e1 h_3 hg_a9 h_4 h_105 h_106 h_107 h_108 h_109 h_110 h_111 h_112 h_113 h_114; omega) | omega)
    refine v_gi (z := 5) (v := m 1 5) c_152_1 kf_8_102 rfl (Nat.le_of_ble_eq_true rfl) rfl rfl hrb_hRt.2.1 (q_iconst c_152_4 (v_ic_ne_t (t := 12) c_152_5 rfl ⟨by first | exact q_0f78863d3 h_115 | (clear h_1 hg_e1 h_2 hr_e1 h_3 hg_a9 h_4 hg_f0 h_105 h_106 h_107 h_108 h_109 h_110 h_111 h_112 h_113 h_114; omega) | omega, ⟨(Int.le_trans (by decide) h_109.1), (Int.le_trans h_109.2 (by decide))⟩, by decide, by decide⟩ (q_iconst c_152_12 (v_zret c_152_13 rfl (by decide) (bk_inl (v_if_eq_t (t := 24) c_161_4 rfl (by decide) (q_aload_n c_161_24 rfl ?_)))))))
    refine v_cv c_161_25 km_8_131 rfl rfl (Nat.le_of_ble_eq_true rfl) ⟨⟨rfl, rfl⟩, Nat.le_of_ble_eq_true rfl, rfl⟩ (Nat.le_of_ble_eq_true rfl) (Nat.le_of_ble_eq_true rfl) (q_aload_n c_152_0 rfl (v_gi (z := 5) (v := m 1 5) c_152_1 kf_8_102 rfl (Nat.le_of_ble_eq_true rfl) rfl rfl hrb_hRt.2.1 (q_iconst c_152_4 (v_ic_ne_t (t := 12) c_152_5 rfl ⟨by first | exact q_0f78863d3 h_115 | (clear h_1 hg_e1 h_2 hr_e1 h_3 hg_a9 h_4 hg_f0 h_105 h_106 h_107 h_108 h_109 h_110 h_111 h_112 h_113 h_114; omega) | omega, ⟨(Int.le_trans (by decide) h_109.1), (Int.le_trans h_109.2 (by decide))⟩, by decide, by decide⟩ (q_iconst c_152_12 (v_zret c_152_13 rfl (by decide) (bk_inl ?_)))))))
    refine v_if_eq_t (t := 41) c_161_28 rfl (by decide) (q_vret c_161_41 rfl ?_)
    have h_116 : c 41 5 = m 1 5 := hrb_hRt.2.1
    have h_117 : c 41 6 = f0 := ((hrb_hRt.2.2.2).trans ((hg_f0)))
    exact K c  hI (fun a j hm => rfl) (rt_i2 ⟨⟨by first | exact q_3b8ab523e h_106 h_115 hg_f0 | (clear h_1 hg_e1 h_2 hr_e1 h_3 hg_a9 h_4 h_105 h_107 h_108 h_109 h_110 h_111 h_112 h_113 h_114; omega) | omega, by first | exact q_c99d6ea93 h_105 | (clear h_1 hg_e1 h_2 hr_e1 h_3 hg_a9 h_4 hg_f0 h_106 h_107 h_108 h_109 h_110 h_111 h_112 h_113 h_114 h_115; omega) | omega⟩, by first | exact q_88dc5fb99 h_111 | (clear h_1 hg_e1 h_2 hr_e1 h_3 hg_a9 h_4 hg_f0 h_105 h_106 h_107 h_108 h_109 h_110 h_112 h_113 h_114 h_115; omega) | omega, by first | exact q_cb71117a2 h_111 h_115 | (clear h_1 hg_e1 h_2 hr_e1 h_3 hg_a9 h_4 hg_f0 h_105 h_106 h_107 h_108 h_109 h_110 h_112 h_113 h_114; omega) | omega, by first | exact q_88dc5fb99 h_106 | (clear h_1 hg_e1 h_2 hr_e1 h_3 hg_a9 h_4 hg_f0 h_105 h_107 h_108 h_109 h_110 h_111 h_112 h_113 h_114 h_115; omega) | omega⟩) (Or.inr (Or.inl (by first | exact q_2ce17e943 h_106 h_115 hg_f0 | (clear h_1 hg_e1 h_2 hr_e1 h_3 hg_a9 h_4 h_105 h_107 h_108 h_109 h_110 h_111 h_112 h_113 h_114; omega) | omega))) (Or.inr (Or.inl (by first | exact q_2ce17e943 h_106 h_115 hg_f0 | (clear h_1 hg_e1 h_2 hr_e1 h_3 hg_a9 h_4 h_105 h_107 h_108 h_109 h_110 h_111 h_112 h_113 h_114; omega) | omega)))

set_option maxRecDepth 100000 in
set_option maxHeartbeats 4000000 in
theorem L_11x {sc : List Int32} {e eg : Int} {d dh u ug P Q P2 Q2 : Nat} {c m m9 : ME} {e1 f0 g0 p0 b0 k0 : Int} {F H : Int → Int} {Z : AR → Prop} (hI : Iv u e P2 Q2 c) (hJ : Iv ug eg P Q m) (hJ9 : Iv ug eg P Q m9) (hq0 : (f0 ≥ 1 ∧ f0 ≤ 3 ∧ b0 = g0 ∧ g0 ≥ 0 ∧ k0 = f0) ∨ (f0 = 0 ∧ g0 = (-1) ∧ b0 = p0 ∧ p0 = e1 ∧ k0 = 1)) (hg_e1 : m 1 1 = e1) (hr_e1 : c 41 3 = e1) (hg_f0 : m 1 4 = f0) (hg_g0 : m 1 5 = g0) (hg_p0 : m 1 2 = p0) (hr_b0 : c 41 5 = b0) (hr_k0 : c 41 6 = k0) (hF : ∀ j : Int, m 2 j = F j) (hH : ∀ j : Int, c 43 j = H j) (hU : Ub F H) (hG : Wp sc (dh + 14) 11 0 [(0, .ref 1), (1, .ref (a_SB + 12))] [] (Wd P Q P P m) 0 0 (fun q => q = (.inl (none), Wd P Q P P m9, 0, 0))) (K : ∀ (c2 : ME), Iv u e P2 Q2 c2 → (∀ (a : Nat) (j : Int), ¬ ((a = 41 ∧ j = 4) ∨ (a = 41 ∧ j = 5) ∨ (a = 41 ∧ j = 6)) → c2 a j = c a j) → (Rt m9 c2) → ((m9 1 4 < 0) ∨ (m9 1 4 > 0)) → Z (.inl (none), Wd P2 Q2 P2 P2 c2, 0, 0)) : Wp sc (d + 14) 161 0 [(0, .ref 41), (1, vi 93)] [] (Wd P2 Q2 P2 P2 c) 0 0 Z := by
  have hP := iv_P hJ
  have hQ := iv_Q hJ
  have h_1 := ir_1_1 hJ
  have h_2 := ir_41_3 hI
  have h_3 := ir_1_4 hJ
  have h_4 := ir_1_5 hJ
  have h_5 := ir_1_2 hJ
  have h_6 := ir_41_5 hI
  have h_7 := ir_41_6 hI
  refine gh hG (q_aload_n c_11_0 rfl (v_cv c_11_1 km_5_45 rfl rfl (Nat.le_of_ble_eq_true rfl) ⟨⟨rfl, rfl⟩, Nat.le_of_ble_eq_true rfl, rfl⟩ (Nat.le_of_ble_eq_true rfl) (Nat.le_of_ble_eq_true rfl) (q_aload_n c_2_0 rfl (v_gi (z := 4) (v := f0) c_2_1 kf_5_38 rfl (Nat.le_of_ble_eq_true rfl) rfl rfl (hg_f0) ?_))))
  by_cases h_8 : f0 ≠ 0
  · refine v_if_ne_t (t := 11) c_2_4 rfl ⟨h_8, ⟨(Int.le_trans (by decide) (rg_eq hg_f0 h_3).1), (Int.le_trans (rg_eq hg_f0 h_3).2 (by decide))⟩, by decide, by decide⟩ (q_iconst c_2_11 (v_zret c_2_12 rfl (by decide) (bk_inl (v_if_eq_t (t := 25) c_11_4 rfl (by decide) (q_vret c_11_25 rfl ?_)))))
    intro hE_9
    have hW : Wd P Q P P m = Wd P Q P P m9 := (Prod.mk.inj (Prod.mk.inj hE_9).2).1
    have h_10 := ir_1_4 hJ9
    have h_11 : m9 1 4 = f0 := wd_fv (z := 4) 4 rfl hW rfl rfl rfl rfl (by decide) (hg_f0) ⟨(Int.le_trans (by decide) (rg_eq hg_f0 h_3).1), (Int.le_trans (rg_eq hg_f0 h_3).2 (by decide))⟩ ⟨(Int.le_trans (by decide) h_10.1), (Int.le_trans h_10.2 (by decide))⟩
    have h_12 := ir_1_2 hJ9
    have h_13 : m9 1 2 = p0 := wd_fv (z := 2) 2 rfl hW rfl rfl rfl rfl (by decide) (hg_p0) ⟨(Int.le_trans (by decide) (rg_eq hg_p0 h_5).1), (Int.le_trans (rg_eq hg_p0 h_5).2 (by decide))⟩ ⟨(Int.le_trans (by decide) h_12.1), (Int.le_trans h_12.2 (by decide))⟩
    have h_14 := ir_1_5 hJ9
    have h_15 : m9 1 5 = g0 := wd_fv (z := 5) 5 rfl hW rfl rfl rfl rfl (by decide) (hg_g0) ⟨(Int.le_trans (by decide) (rg_eq hg_g0 h_4).1), (Int.le_trans (rg_eq hg_g0 h_4).2 (by decide))⟩ ⟨(Int.le_trans (by decide) h_14.1), (Int.le_trans h_14.2 (by decide))⟩
    refine q_aload_n c_161_0 rfl (v_cv c_161_1 km_8_131 rfl rfl (Nat.le_of_ble_eq_true rfl) ⟨⟨rfl, rfl⟩, Nat.le_of_ble_eq_true rfl, rfl⟩ (Nat.le_of_ble_eq_true rfl) (Nat.le_of_ble_eq_true rfl) (q_aload_n c_152_0 rfl (v_gi (z := 5) (v := b0) c_152_1 kf_8_102 rfl (Nat.le_of_ble_eq_true rfl) rfl rfl (hr_b0) (q_iconst c_152_4 (v_ic_ne_t (t := 12) c_152_5 rfl ⟨by first | exact q_5146b7f54 h_5 hg_p0 hq0 | (clear h_1 hg_e1 h_2 hr_e1 h_3 hg_f0 h_4 hg_g0 h_6 hr_b0 h_7 hr_k0 h_10 h_11 h_12 h_13 h_14 h_15 h_8; omega) | omega, ⟨(Int.le_trans (by decide) (rg_eq hr_b0 h_6).1), (Int.le_trans (rg_eq hr_b0 h_6).2 (by decide))⟩, by decide, by decide⟩ (q_iconst c_152_12 (v_zret c_152_13 rfl (by decide) ?_)))))))
    refine bk_inl (v_if_eq_t (t := 24) c_161_4 rfl (by decide) (q_aload_n c_161_24 rfl (v_cv c_161_25 km_8_131 rfl rfl (Nat.le_of_ble_eq_true rfl) ⟨⟨rfl, rfl⟩, Nat.le_of_ble_eq_true rfl, rfl⟩ (Nat.le_of_ble_eq_true rfl) (Nat.le_of_ble_eq_true rfl) (q_aload_n c_152_0 rfl (v_gi (z := 5) (v := b0) c_152_1 kf_8_102 rfl (Nat.le_of_ble_eq_true rfl) rfl rfl (hr_b0) (q_iconst c_152_4 (v_ic_ne_t (t := 12) c_152_5 rfl ⟨by first | exact q_5146b7f54 h_5 hg_p0 hq0 | (clear h_1 hg_e1 h_2 hr_e1 h_3 hg_f0 h_4 hg_g0 h_6 hr_b0 h_7 hr_k0 h_10 h_11 h_12 h_13 h_14 h_15 h_8; omega) | omega, ⟨(Int.le_trans (by decide) (rg_eq hr_b0 h_6).1), (Int.le_trans (rg_eq hr_b0 h_6).2 (by decide))⟩, by decide, by decide⟩ ?_)))))))
    refine q_iconst c_152_12 (v_zret c_152_13 rfl (by decide) (bk_inl (v_if_eq_t (t := 41) c_161_28 rfl (by decide) (q_vret c_161_41 rfl ?_))))
    have h_16 : c 41 5 = b0 := (hr_b0)
    have h_17 := ir_41_4 hI
    have h_18 : c 41 6 = k0 := (hr_k0)
    exact K c  hI (fun a j hm => rfl) (rt_i2 ⟨⟨by first | exact q_dcb0bb3ef h_10 h_11 h_8 | (clear h_1 hg_e1 h_2 hr_e1 h_3 hg_f0 h_4 hg_g0 h_5 hg_p0 h_6 hr_b0 h_7 hr_k0 h_12 h_13 h_14 h_15 h_17 hq0; omega) | omega, by first | exact q_c99d6ea93 h_10 | (clear h_1 hg_e1 h_2 hr_e1 h_3 hg_f0 h_4 hg_g0 h_5 hg_p0 h_6 hr_b0 h_7 hr_k0 h_11 h_12 h_13 h_14 h_15 h_17 hq0 h_8; omega) | omega⟩, by omega, by omega, by omega⟩) (Or.inr (by first | exact q_499a13b0c h_10 h_11 h_8 | (clear h_1 hg_e1 h_2 hr_e1 h_3 hg_f0 h_4 hg_g0 h_5 hg_p0 h_6 hr_b0 h_7 hr_k0 h_12 h_13 h_14 h_15 h_17 hq0; omega) | omega))
  · refine v_if_ne_f (t := 11) c_2_4 rfl (Decidable.not_not.mp h_8) (q_iconst c_2_7 (q_goto (t := 12) c_2_8 rfl (v_zret c_2_12 rfl (by decide) (bk_inl (v_if_eq_f (t := 25) c_11_4 rfl (by decide) (q_aload_n c_11_7 rfl (q_aload_n c_11_8 rfl ?_)))))))
    refine v_cv c_11_9 km_5_65 rfl rfl (Nat.le_of_ble_eq_true rfl) ⟨⟨rfl, rfl⟩, Nat.le_of_ble_eq_true rfl, rfl⟩ (Nat.le_of_ble_eq_true rfl) (Nat.le_of_ble_eq_true rfl) (q_aload_n c_4_0 rfl ?_)
    have h_19 : -2147483648 ≤ (F p0) ∧ (F p0) ≤ 2147483647 := by rw [← hF p0]; exact ir_2 hJ p0
    refine v_cv c_4_1 km_5_41 rfl rfl (Nat.le_of_ble_eq_true rfl) ⟨⟨rfl, rfl⟩, Nat.le_of_ble_eq_true rfl, rfl⟩ (Nat.le_of_ble_eq_true rfl) (Nat.le_of_ble_eq_true rfl) (f_3 (e1 := e1) (a9 := p0) (B := F) (r8 := p0) hJ ((hg_e1)) ((hg_p0)) (fun j => hF j) (nx_z (Or.inl (by first | exact q_a8a084dc8 h_8 hq0 | (clear h_1 hg_e1 h_2 hr_e1 h_3 hg_f0 h_4 hg_g0 h_5 hg_p0 h_6 hr_b0 h_7 hr_k0 h_19; omega) | omega))) (fun c_20 hI_21 hF_22 hz_23 => (bk_inl (q_istore_n c_4_4 (Nat.le_of_ble_eq_true rfl) (q_iconst c_4_5 (q_istore_n c_4_6 (Nat.le_of_ble_eq_true rfl) (q_iload_n c_4_7 rfl (q_aload_n c_4_8 rfl (v_sln 1 c_4_9 rfl (by omega) (Nat.le_of_ble_eq_true rfl) (by decide) (by decide) ?_)))))))))
    refine v_ic_ge_f (t := 55) c_4_12 rfl (by decide) (q_iload_n c_4_15 rfl (q_aload_n c_4_16 rfl ?_))
    have kn_24 : Hid (c_20 1 1 = e1) := (hF_22 1 1 (fun h => absurd h.2 (ni rfl))).trans (hg_e1)
    refine v_gi (z := 1) (v := e1) c_4_17 kf_5_32 rfl (Nat.le_of_ble_eq_true rfl) rfl rfl (hid kn_24) (v_ic_ge_t (t := 55) c_4_20 rfl ⟨(Int.le_trans (by decide) (rg_eq hg_e1 h_1).1), by first | exact q_a8a084dc8 h_8 hq0 | (clear h_1 hg_e1 h_2 hr_e1 h_3 hg_f0 h_4 hg_g0 h_5 hg_p0 h_6 hr_b0 h_7 hr_k0 h_19; omega) | omega, (Int.le_trans (rg_eq hg_p0 h_5).2 (by decide))⟩ (q_iconst c_4_55 (q_iret c_4_56 rfl (bk_inl (q_iconst c_11_12 (v_ic_ne_f (t := 25) c_11_13 rfl (by decide) (q_aload_n c_11_16 rfl ?_)))))))
    refine q_iconst c_11_17 (q_aload_n c_11_18 rfl (v_gi (z := 2) (v := p0) c_11_19 kf_5_35 rfl (Nat.le_of_ble_eq_true rfl) rfl rfl (hz_23) (v_cv c_11_22 km_5_52 rfl rfl (Nat.le_of_ble_eq_true rfl) ⟨⟨rfl, rfl⟩, Nat.le_of_ble_eq_true rfl, rfl⟩ (Nat.le_of_ble_eq_true rfl) (Nat.le_of_ble_eq_true rfl) (q_aload_n c_7_0 rfl ?_))))
    have kn_25 : Hid (c_20 1 4 = f0) := (hF_22 1 4 (fun h => absurd h.2 (ni rfl))).trans (hg_f0)
    refine v_gi (z := 4) (v := f0) c_7_1 kf_5_38 rfl (Nat.le_of_ble_eq_true rfl) rfl rfl (hid kn_25) (v_if_ne_f (t := 17) c_7_4 rfl (by first | exact q_0002e0578 h_8 | (clear h_1 hg_e1 h_2 hr_e1 h_3 hg_f0 h_4 hg_g0 h_5 hg_p0 h_6 hr_b0 h_7 hr_k0 h_19 hq0; omega) | omega) (q_aload_n c_7_7 rfl (q_iload_n c_7_8 rfl (v_pi (z := 4) c_7_9 kf_5_38 rfl (Nat.le_of_ble_eq_true rfl) rfl rfl rfl (by decide) (q_aload_n c_7_12 rfl (q_iload_n c_7_13 rfl (v_pi (z := 5) c_7_14 kf_5_15 rfl (Nat.le_of_ble_eq_true rfl) rfl rfl rfl (by decide) ?_)))))))
    refine q_vret c_7_17 rfl (bk_inl (q_vret c_11_25 rfl ?_))
    have hI_26 := iw_1_4 (v := 1) hI_21 ⟨by decide, by decide⟩
    have hI_27 := iw_1_5 (v := p0) hI_26 ⟨(Int.le_trans (by decide) (rg_eq hg_p0 h_5).1), (rg_eq hg_p0 h_5).2⟩
    intro hE_28
    have hW : Wd P Q P P (up (up c_20 1 4 1) 1 5 p0) = Wd P Q P P m9 := (Prod.mk.inj (Prod.mk.inj hE_28).2).1
    have h_29 := ir_1_4 hJ9
    have h_30 : m9 1 4 = 1 := wd_fv (z := 4) 4 rfl hW rfl rfl rfl rfl (by decide) ((up_n (by decide)).trans (up_e rfl)) ⟨by decide, by decide⟩ ⟨(Int.le_trans (by decide) h_29.1), (Int.le_trans h_29.2 (by decide))⟩
    have h_31 := ir_1_2 hJ9
    have h_32 : m9 1 2 = p0 := wd_fv (z := 2) 2 rfl hW rfl rfl rfl rfl (by decide) ((up_n (by decide)).trans ((up_n (by decide)).trans (hz_23))) ⟨(Int.le_trans (by decide) (rg_eq hg_p0 h_5).1), (Int.le_trans (rg_eq hg_p0 h_5).2 (by decide))⟩ ⟨(Int.le_trans (by decide) h_31.1), (Int.le_trans h_31.2 (by decide))⟩
    have h_33 := ir_1_5 hJ9
    have h_34 : m9 1 5 = p0 := wd_fv (z := 5) 5 rfl hW rfl rfl rfl rfl (by decide) (up_e rfl) ⟨(Int.le_trans (by decide) (rg_eq hg_p0 h_5).1), (Int.le_trans (rg_eq hg_p0 h_5).2 (by decide))⟩ ⟨(Int.le_trans (by decide) h_33.1), (Int.le_trans h_33.2 (by decide))⟩
    refine q_aload_n c_161_0 rfl (v_cv c_161_1 km_8_131 rfl rfl (Nat.le_of_ble_eq_true rfl) ⟨⟨rfl, rfl⟩, Nat.le_of_ble_eq_true rfl, rfl⟩ (Nat.le_of_ble_eq_true rfl) (Nat.le_of_ble_eq_true rfl) (q_aload_n c_152_0 rfl (v_gi (z := 5) (v := b0) c_152_1 kf_8_102 rfl (Nat.le_of_ble_eq_true rfl) rfl rfl (hr_b0) (q_iconst c_152_4 (v_ic_ne_t (t := 12) c_152_5 rfl ⟨by first | exact q_14e15ec0e h_31 h_32 h_8 hq0 | (clear h_1 hg_e1 h_2 hr_e1 h_3 hg_f0 h_4 hg_g0 h_5 hg_p0 h_6 hr_b0 h_7 hr_k0 h_19 h_29 h_30 h_33 h_34; omega) | omega, ⟨(Int.le_trans (by decide) (rg_eq hr_b0 h_6).1), (Int.le_trans (rg_eq hr_b0 h_6).2 (by decide))⟩, by decide, by decide⟩ (q_iconst c_152_12 (v_zret c_152_13 rfl (by decide) ?_)))))))
    refine bk_inl (v_if_eq_t (t := 24) c_161_4 rfl (by decide) (q_aload_n c_161_24 rfl (v_cv c_161_25 km_8_131 rfl rfl (Nat.le_of_ble_eq_true rfl) ⟨⟨rfl, rfl⟩, Nat.le_of_ble_eq_true rfl, rfl⟩ (Nat.le_of_ble_eq_true rfl) (Nat.le_of_ble_eq_true rfl) (q_aload_n c_152_0 rfl (v_gi (z := 5) (v := b0) c_152_1 kf_8_102 rfl (Nat.le_of_ble_eq_true rfl) rfl rfl (hr_b0) (q_iconst c_152_4 (v_ic_ne_t (t := 12) c_152_5 rfl ⟨by first | exact q_14e15ec0e h_31 h_32 h_8 hq0 | (clear h_1 hg_e1 h_2 hr_e1 h_3 hg_f0 h_4 hg_g0 h_5 hg_p0 h_6 hr_b0 h_7 hr_k0 h_19 h_29 h_30 h_33 h_34; omega) | omega, ⟨(Int.le_trans (by decide) (rg_eq hr_b0 h_6).1), (Int.le_trans (rg_eq hr_b0 h_6).2 (by decide))⟩, by decide, by decide⟩ ?_)))))))
    refine q_iconst c_152_12 (v_zret c_152_13 rfl (by decide) (bk_inl (v_if_eq_t (t := 41) c_161_28 rfl (by decide) (q_vret c_161_41 rfl ?_))))
    have h_35 : c 41 5 = b0 := (hr_b0)
    have h_36 := ir_41_4 hI
    have h_37 : c 41 6 = k0 := (hr_k0)
    exact K c  hI (fun a j hm => rfl) (rt_i2 ⟨⟨by first | exact q_5935f82f1 h_30 | (clear h_1 hg_e1 h_2 hr_e1 h_3 hg_f0 h_4 hg_g0 h_5 hg_p0 h_6 hr_b0 h_7 hr_k0 h_8 h_19 h_29 h_31 h_32 h_33 h_34 h_36 hq0; omega) | omega, by first | exact q_63461c6bf h_30 | (clear h_1 hg_e1 h_2 hr_e1 h_3 hg_f0 h_4 hg_g0 h_5 hg_p0 h_6 hr_b0 h_7 hr_k0 h_8 h_19 h_29 h_31 h_32 h_33 h_34 h_36 hq0; omega) | omega⟩, by first | exact q_61d4e0e16 h_34 h_8 hq0 | (clear h_1 hg_e1 h_2 hr_e1 h_3 hg_f0 h_4 hg_g0 h_5 hg_p0 h_6 hr_b0 h_7 hr_k0 h_19 h_29 h_30 h_31 h_32 h_33 h_36; omega) | omega, by first | exact q_8d9b59732 h_34 h_5 hg_p0 | (clear h_1 hg_e1 h_2 hr_e1 h_3 hg_f0 h_4 hg_g0 h_6 hr_b0 h_7 hr_k0 h_8 h_19 h_29 h_30 h_31 h_32 h_33 h_36 hq0; omega) | omega, by first | exact q_8172a5a87 h_30 h_8 hq0 | (clear h_1 hg_e1 h_2 hr_e1 h_3 hg_f0 h_4 hg_g0 h_5 hg_p0 h_6 hr_b0 h_7 hr_k0 h_19 h_29 h_31 h_32 h_33 h_34 h_36; omega) | omega⟩) (Or.inr (by first | exact q_e2d2b4ae2 h_30 | (clear h_1 hg_e1 h_2 hr_e1 h_3 hg_f0 h_4 hg_g0 h_5 hg_p0 h_6 hr_b0 h_7 hr_k0 h_8 h_19 h_29 h_31 h_32 h_33 h_34 h_36 hq0; omega) | omega))

