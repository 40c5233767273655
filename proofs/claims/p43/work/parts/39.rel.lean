/-! ===== what class and reference hold alike ===== -/
theorem ub_fr {f g f2 g2 : Int → Int} (h : Ub f g) (e1 : ∀ j : Int, f2 j = f j) (e2 : ∀ j : Int, g2 j = g j) : Ub f2 g2 := fun j h1 h2 => by
  rw [e1 j, e2 j]
  exact h j h1 h2
noncomputable def Rq (P : Nat) (c : ME) : Prop := (c 1 3 = c 41 2) ∧ (Ub (c 2) (c 43)) ∧ (c P 0 = c 41 20 ∧ c P 1 = c 41 21 ∧ c P 2 = c 41 22 ∧ c P 3 = c 41 23) ∧ (c 0 12 = c 42 0 ∧ c 0 13 = c 42 1)
theorem rl_t {P : Nat} {c : ME} (h : Rq P c) : c 1 3 = c 41 2 := h.1
theorem rl_u {P : Nat} {c : ME} (h : Rq P c) : Ub (c 2) (c 43) := h.2.1
theorem rl_nums {P : Nat} {c : ME} (h : Rq P c) : c P 0 = c 41 20 ∧ c P 1 = c 41 21 ∧ c P 2 = c 41 22 ∧ c P 3 = c 41 23 := h.2.2.1
theorem rl_cnt2 {P : Nat} {c : ME} (h : Rq P c) : c 0 12 = c 42 0 ∧ c 0 13 = c 42 1 := h.2.2.2
theorem rl_feed {P : Nat} {c c2 c3 : ME} (hP : P = 13 ∨ P = 25) (h : Rq P c) (hF : ∀ (a : Nat) (j : Int), ¬ (a = 2 ∨ a = 43 ∨ (a = 1 ∧ j = 3) ∨ (a = 41 ∧ (j = 0 ∨ j = 2))) → c2 a j = c a j) (h1 : c3 1 3 = c3 41 2) (h2 : Ub (c3 2) (c3 43)) (he : ∀ (a : Nat) (j : Int), ¬ (a = 2 ∨ a = 43 ∨ (a = 41 ∧ j = 0)) → c3 a j = c2 a j) : Rq P c3 := ⟨h1, h2, ⟨((he P 0 (by omega)).trans ((hF P 0 (by omega)).trans ((h.2.2.1).1.trans ((he 41 20 (by omega)).trans (hF 41 20 (by omega))).symm))), ((he P 1 (by omega)).trans ((hF P 1 (by omega)).trans ((h.2.2.1).2.1.trans ((he 41 21 (by omega)).trans (hF 41 21 (by omega))).symm))), ((he P 2 (by omega)).trans ((hF P 2 (by omega)).trans ((h.2.2.1).2.2.1.trans ((he 41 22 (by omega)).trans (hF 41 22 (by omega))).symm))), ((he P 3 (by omega)).trans ((hF P 3 (by omega)).trans ((h.2.2.1).2.2.2.trans ((he 41 23 (by omega)).trans (hF 41 23 (by omega))).symm)))⟩, ⟨((he 0 12 (by omega)).trans ((hF 0 12 (by omega)).trans ((h.2.2.2).1.trans ((he 42 0 (by omega)).trans (hF 42 0 (by omega))).symm))), ((he 0 13 (by omega)).trans ((hF 0 13 (by omega)).trans ((h.2.2.2).2.trans ((he 42 1 (by omega)).trans (hF 42 1 (by omega))).symm)))⟩⟩
theorem rl_0 : Rq 13 c0 := ⟨by decide, fun j _ _ => (show (0 : Int) = 0 % 256 ∧ (-128 : Int) ≤ 0 ∧ (0 : Int) ≤ 127 from by decide), by decide, by decide⟩
