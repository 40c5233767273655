/-! ===== what both sides hold, whole ===== -/
theorem ae_cp {n : Int} {f g g2 : Int → Int} (h : Ae n f g) (hc : ∀ j : Int, 0 ≤ j → j < n → g2 j = g j) : Ae n f g2 := fun j h1 h2 => (h j h1 h2).trans (hc j h1 h2).symm
theorem ae_cg {n : Int} {f f2 g : Int → Int} (h : Ae n f g) (e : ∀ j : Int, 0 ≤ j → j < n → f2 j = f j) : Ae n f2 g := fun j h1 h2 => (e j h1 h2).trans (h j h1 h2)
theorem ae_fr2 {n n2 : Int} {f g f2 g2 : Int → Int} (h : Ae n f g) (hn : n2 = n) (hf : ∀ j : Int, f2 j = f j) (hg : ∀ j : Int, g2 j = g j) : Ae n2 f2 g2 := hn.symm ▸ ae_fr h hf hg
/-! a step of both sides: what is told of it, by its kind -/
noncomputable def Sx (sv t a0 a1 a2 a3 a4 b0 b1 b2 b3 b4 : Int) : Prop := a0 = b0 ∧ (0 ≤ a0 ∧ a0 ≤ 7) ∧ (a0 = 6 ∨ a1 = b1) ∧ (a0 ≤ 3 → a2 = b2) ∧ (a0 = 7 → b2 = 5 * a2 ∧ t + 1 ≤ a2) ∧ (a0 = 1 ∨ a0 = 3 → a3 = b3) ∧ (a0 = 1 → a4 = b4) ∧ (a0 = 4 → a1 < sv) ∧ (a0 = 3 → 1 ≤ a3)
noncomputable def St (sv lo n : Int) (f g : Int → Int) : Prop := ∀ t : Int, lo ≤ t → t < n → Sx sv t (f (5 * t)) (f (5 * t + 1)) (f (5 * t + 2)) (f (5 * t + 3)) (f (5 * t + 4)) (g (5 * t)) (g (5 * t + 1)) (g (5 * t + 2)) (g (5 * t + 3)) (g (5 * t + 4))
section ST
variable {sv lo n n2 t : Int} {f g f2 g2 : Int → Int}
theorem st_z (h : n ≤ lo) : St sv lo n f g := fun t h1 h2 => absurd h2 (by omega)
theorem st_le (h : St sv lo n f g) (hn : n2 ≤ n) : St sv lo n2 f g := fun t h1 h2 => h t h1 (by omega)
theorem st_fr (h : St sv lo n f g) (hf : ∀ j : Int, 5 * lo ≤ j → j < 5 * n → f2 j = f j) (hg : ∀ j : Int, 5 * lo ≤ j → j < 5 * n → g2 j = g j) : St sv lo n f2 g2 := fun t h1 h2 => by
  rw [hf _ (by omega) (by omega), hf _ (by omega) (by omega), hf _ (by omega) (by omega), hf _ (by omega) (by omega), hf _ (by omega) (by omega), hg _ (by omega) (by omega), hg _ (by omega) (by omega), hg _ (by omega) (by omega), hg _ (by omega) (by omega), hg _ (by omega) (by omega)]
  exact h t h1 h2
theorem st_l (h : St sv lo n f g) (h0 : 0 ≤ lo) (hf : ∀ j : Int, 0 ≤ j → j < 5 * n → f2 j = f j) : St sv lo n f2 g := st_fr h (fun j h1 h2 => hf j (by omega) h2) (fun _ _ _ => rfl)
theorem st_one (h : Sx sv t (f (5 * t)) (f (5 * t + 1)) (f (5 * t + 2)) (f (5 * t + 3)) (f (5 * t + 4)) (g (5 * t)) (g (5 * t + 1)) (g (5 * t + 2)) (g (5 * t + 3)) (g (5 * t + 4))) (hl : lo = t) (hn : n = t + 1) : St sv lo n f g := fun i h1 h2 => by
  refine hv_ (p := i = t) (by omega) (fun e => ?_)
  subst e
  exact h
theorem st_j (h : St sv lo t f g) (h2 : St sv t n f g) : St sv lo n f g := fun i q1 q2 => by
  by_cases q : i < t
  · exact h i q1 q
  · exact h2 i (by omega) q2
theorem st_ap {c : ME} (h : St sv 0 n f (c 56)) {m : Int} (hm : m = 5 * n) : Ap c 56 0 m := fun i h1 h2 h7 => by
  refine hv_ (h i (by omega) (by omega)) (fun q => ?_)
  unfold Sx at q
  omega
end ST
/-! how many works each image has -/
noncomputable def Iw (n : Int) (f g : Int → Int) : Prop := ∀ i : Int, 0 ≤ i → i < n → f i = g (630 * i + 629)
section IW
variable {n n2 : Int} {f g f2 g2 : Int → Int}
theorem iw_z (h : n ≤ 0) : Iw n f g := fun i h1 h2 => absurd h2 (by omega)
theorem iw_fr2 (h : Iw n f g) (hn : n2 ≤ n) (hf : ∀ j : Int, f2 j = f j) (hg : ∀ j : Int, g2 j = g j) : Iw n2 f2 g2 := fun i h1 h2 => by
  rw [hf, hg]
  exact h i h1 (by omega)
theorem iw_w (h : Iw n f g) (hn : n2 = n + 1) (hv : f2 n = g2 (630 * n + 629)) (hf : ∀ j : Int, ¬ j = n → f2 j = f j) (hg : ∀ j : Int, j % 630 = 629 → ¬ j = 630 * n + 629 → g2 j = g j) : Iw n2 f2 g2 := fun i h1 h2 => by
  by_cases e : i = n
  · rw [e]
    exact hv
  · rw [hf i e, hg (630 * i + 629) (by omega) (by omega)]
    exact h i h1 (by omega)
end IW
