/-! ===== what class and reference hold alike ===== -/
theorem ub_fr {f g f2 g2 : Int → Int} (h : Ub f g) (e1 : ∀ j : Int, f2 j = f j) (e2 : ∀ j : Int, g2 j = g j) : Ub f2 g2 := fun j h1 h2 => by
  rw [e1 j, e2 j]
  exact h j h1 h2
noncomputable def Rq (P : Nat) (c : ME) : Prop := (c 1 3 = c 41 2) ∧ (Ub (c 2) (c 43)) ∧ (c P 0 = c 41 20 ∧ c P 1 = c 41 21 ∧ c P 2 = c 41 22 ∧ c P 3 = c 41 23) ∧ (Ae (3 * c P 1) (c (P + 2)) (c 48)) ∧ (Ae (c P 2) (c (P + 3)) (c 49)) ∧ (c (P + 7) 4 = c 41 30 ∧ Ce (c 41 30) (c (P + 8)) (c 52) (c 53)) ∧ (c 3 3 = c 41 35) ∧ (c 3 4 = c 41 52) ∧ (Iw (c 3 4) (c 6) (c 66)) ∧ (c 0 11 = c 41 36) ∧ (Sr (c P 2) (c 38) (c 58)) ∧ (Wk (c P 2) (c 3 3) (c 4) (c 60)) ∧ (Im (c P 2) (c 3 4) (c 6) (c 5) (c 66))
theorem rl_t {P : Nat} {c : ME} (h : Rq P c) : c 1 3 = c 41 2 := h.1
theorem rl_u {P : Nat} {c : ME} (h : Rq P c) : Ub (c 2) (c 43) := h.2.1
theorem rl_nums {P : Nat} {c : ME} (h : Rq P c) : c P 0 = c 41 20 ∧ c P 1 = c 41 21 ∧ c P 2 = c 41 22 ∧ c P 3 = c 41 23 := h.2.2.1
theorem rl_shares {P : Nat} {c : ME} (h : Rq P c) : Ae (3 * c P 1) (c (P + 2)) (c 48) := h.2.2.2.1
theorem rl_meshes {P : Nat} {c : ME} (h : Rq P c) : Ae (c P 2) (c (P + 3)) (c 49) := h.2.2.2.2.1
theorem rl_law {P : Nat} {c : ME} (h : Rq P c) : c (P + 7) 4 = c 41 30 ∧ Ce (c 41 30) (c (P + 8)) (c 52) (c 53) := h.2.2.2.2.2.1
theorem rl_wk {P : Nat} {c : ME} (h : Rq P c) : c 3 3 = c 41 35 := h.2.2.2.2.2.2.1
theorem rl_img {P : Nat} {c : ME} (h : Rq P c) : c 3 4 = c 41 52 := h.2.2.2.2.2.2.2.1
theorem rl_iw {P : Nat} {c : ME} (h : Rq P c) : Iw (c 3 4) (c 6) (c 66) := h.2.2.2.2.2.2.2.2.1
theorem rl_ref {P : Nat} {c : ME} (h : Rq P c) : c 0 11 = c 41 36 := h.2.2.2.2.2.2.2.2.2.1
theorem rl_row {P : Nat} {c : ME} (h : Rq P c) : Sr (c P 2) (c 38) (c 58) := h.2.2.2.2.2.2.2.2.2.2.1
theorem rl_wkr {P : Nat} {c : ME} (h : Rq P c) : Wk (c P 2) (c 3 3) (c 4) (c 60) := h.2.2.2.2.2.2.2.2.2.2.2.1
theorem rl_imr {P : Nat} {c : ME} (h : Rq P c) : Im (c P 2) (c 3 4) (c 6) (c 5) (c 66) := h.2.2.2.2.2.2.2.2.2.2.2.2
theorem rl_feed {P : Nat} {c c2 c3 : ME} (hP : P = 13 ∨ P = 25) (h : Rq P c) (hF : ∀ (a : Nat) (j : Int), ¬ (a = 2 ∨ a = 43 ∨ (a = 1 ∧ j = 3) ∨ (a = 41 ∧ (j = 0 ∨ j = 2))) → c2 a j = c a j) (h1 : c3 1 3 = c3 41 2) (h2 : Ub (c3 2) (c3 43)) (he : ∀ (a : Nat) (j : Int), ¬ (a = 2 ∨ a = 43 ∨ (a = 41 ∧ j = 0)) → c3 a j = c2 a j) : Rq P c3 := ⟨h1, h2, ⟨((he P 0 (by omega)).trans ((hF P 0 (by omega)).trans ((h.2.2.1).1.trans ((he 41 20 (by omega)).trans (hF 41 20 (by omega))).symm))), ((he P 1 (by omega)).trans ((hF P 1 (by omega)).trans ((h.2.2.1).2.1.trans ((he 41 21 (by omega)).trans (hF 41 21 (by omega))).symm))), ((he P 2 (by omega)).trans ((hF P 2 (by omega)).trans ((h.2.2.1).2.2.1.trans ((he 41 22 (by omega)).trans (hF 41 22 (by omega))).symm))), ((he P 3 (by omega)).trans ((hF P 3 (by omega)).trans ((h.2.2.1).2.2.2.trans ((he 41 23 (by omega)).trans (hF 41 23 (by omega))).symm)))⟩, (ae_fr2 (h.2.2.2.1) (congrArg (fun z : Int => 3 * z) ((he P 1 (by omega)).trans (hF P 1 (by omega)))) (fun j => (he (P + 2) j (by omega)).trans (hF (P + 2) j (by omega))) (fun j => (he 48 j (by omega)).trans (hF 48 j (by omega)))), (ae_fr2 (h.2.2.2.2.1) ((he P 2 (by omega)).trans (hF P 2 (by omega))) (fun j => (he (P + 3) j (by omega)).trans (hF (P + 3) j (by omega))) (fun j => (he 49 j (by omega)).trans (hF 49 j (by omega)))), ⟨((he (P + 7) 4 (by omega)).trans (hF (P + 7) 4 (by omega))).trans ((h.2.2.2.2.2.1).1.trans ((he 41 30 (by omega)).trans (hF 41 30 (by omega))).symm), ce_fr2 (h.2.2.2.2.2.1).2 ((he 41 30 (by omega)).trans (hF 41 30 (by omega))) (fun j => (he (P + 8) j (by omega)).trans (hF (P + 8) j (by omega))) (fun j => (he 52 j (by omega)).trans (hF 52 j (by omega))) (fun j => (he 53 j (by omega)).trans (hF 53 j (by omega)))⟩, ((he 3 3 (by omega)).trans ((hF 3 3 (by omega)).trans ((h.2.2.2.2.2.2.1).trans ((he 41 35 (by omega)).trans (hF 41 35 (by omega))).symm))), ((he 3 4 (by omega)).trans ((hF 3 4 (by omega)).trans ((h.2.2.2.2.2.2.2.1).trans ((he 41 52 (by omega)).trans (hF 41 52 (by omega))).symm))), (iw_fr2 (h.2.2.2.2.2.2.2.2.1) (Int.le_of_eq ((he 3 4 (by omega)).trans (hF 3 4 (by omega)))) (fun j => (he 6 j (by omega)).trans (hF 6 j (by omega))) (fun j => (he 66 j (by omega)).trans (hF 66 j (by omega)))), ((he 0 11 (by omega)).trans ((hF 0 11 (by omega)).trans ((h.2.2.2.2.2.2.2.2.2.1).trans ((he 41 36 (by omega)).trans (hF 41 36 (by omega))).symm))), (sr_le (sr_fr (h.2.2.2.2.2.2.2.2.2.2.1) (fun j h1 h2 => (he 38 j (by omega)).trans (hF 38 j (by omega))) (fun j h1 h2 => (he 58 j (by omega)).trans (hF 58 j (by omega)))) ((he P 2 (by omega)).trans (hF P 2 (by omega)))), (wk_le (wk_fr (h.2.2.2.2.2.2.2.2.2.2.2.1) (fun j h1 h2 => (he 4 j (by omega)).trans (hF 4 j (by omega))) (fun j h1 h2 => (he 60 j (by omega)).trans (hF 60 j (by omega)))) (Int.le_of_eq ((he 3 3 (by omega)).trans (hF 3 3 (by omega)))) ((he P 2 (by omega)).trans (hF P 2 (by omega)))), (im_le (im_fr (h.2.2.2.2.2.2.2.2.2.2.2.2) (fun j h1 h2 => (he 6 j (by omega)).trans (hF 6 j (by omega))) (fun j h1 h2 => (he 5 j (by omega)).trans (hF 5 j (by omega))) (fun j h1 h2 => (he 66 j (by omega)).trans (hF 66 j (by omega)))) (Int.le_of_eq ((he 3 4 (by omega)).trans (hF 3 4 (by omega)))) ((he P 2 (by omega)).trans (hF P 2 (by omega))))⟩
theorem c0_z0 {a : Nat} (h : ¬ (a = 1 ∨ a = 13 ∨ a = 19 ∨ a = 25 ∨ a = 31 ∨ a = 41 ∨ a = 64)) (j : Int) : c0 a j = 0 := by
  unfold c0
  split <;> first | omega | rfl
theorem rl_row0 : Sr (c0 13 2) (c0 38) (c0 58) := by
  refine hv_ (p := ∀ j : Int, c0 58 j = 0) (fun j => c0_z0 (by decide) j) (fun z => ?_)
  refine hv_ (p := ∀ j : Int, c0 38 j = 0) (fun j => c0_z0 (by decide) j) (fun y => ?_)
  refine ⟨fun j _ _ => (y j).trans (z j).symm, ?_, fun k _ _ => ?_, ?_, ?_, ?_⟩
  · rw [y, z, z, z, z]; decide
  · rw [z]; exact ⟨by decide, fun _ => rfl⟩
  · rw [y, z]
  · rw [y, z]
  · rw [y, z]
theorem rl_0 : Rq 13 c0 := ⟨by decide, fun j _ _ => (show (0 : Int) = 0 % 256 ∧ (-128 : Int) ≤ 0 ∧ (0 : Int) ≤ 127 from by decide), by decide, ae_z (by decide), ae_z (by decide), ⟨by decide, ce_z (by decide)⟩, by decide, by decide, iw_z (by decide), by decide, rl_row0, wk_z (by decide), im_z (by decide)⟩
