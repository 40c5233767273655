/-! ===== the plans that a world names ===== -/
theorem wd_pq {P Q N T P' Q' N' T' : Nat} {x y : ME} (h : Wd P Q N T x = Wd P' Q' N' T' y) : P = P' ∧ Q = Q' := by
  have e := wd_ce h (a := 0) (by decide)
  have e2 : fe x 0 0 [some 1, some 3, some 7, some 9, some 10, some 11, some 12, some P, some Q, some 37, some 39, none, none, none] = fe y 0 0 [some 1, some 3, some 7, some 9, some 10, some 11, some 12, some P', some Q', some 37, some 39, none, none, none] := (Prod.mk.inj (Sum.inr.inj e)).2
  have e7 := congrArg (fun l : List Value => l[7]?) e2
  have e8 := congrArg (fun l : List Value => l[8]?) e2
  have e7 : (fe x 0 0 _)[7]? = (fe y 0 0 _)[7]? := e7
  rw [fe_some (t := P) (j := 7) rfl, fe_some (t := P') (j := 7) rfl] at e7
  have e8 : (fe x 0 0 _)[8]? = (fe y 0 0 _)[8]? := e8
  rw [fe_some (t := Q) (j := 8) rfl, fe_some (t := Q') (j := 8) rfl] at e8
  exact ⟨Value.ref.inj (Option.some.inj e7), Value.ref.inj (Option.some.inj e8)⟩
/-! the first places of two arrays are alike -/
def Ae (n : Int) (f g : Int → Int) : Prop := ∀ j : Int, 0 ≤ j → j < n → f j = g j
section AE
variable {n n2 i v : Int} {f g f2 g2 : Int → Int}
theorem ae_z (h : n ≤ 0) : Ae n f g := fun j h1 h2 => absurd h2 (by omega)
theorem ae_le (h : Ae n f g) (hn : n2 ≤ n) : Ae n2 f g := fun j h1 h2 => h j h1 (by omega)
theorem ae_fr (h : Ae n f g) (hf : ∀ j : Int, f2 j = f j) (hg : ∀ j : Int, g2 j = g j) : Ae n f2 g2 := fun j h1 h2 => by
  rw [hf j, hg j]
  exact h j h1 h2
theorem ae_l (h : Ae n f g) (hf : ∀ j : Int, 0 ≤ j → j < n → f2 j = f j) : Ae n f2 g := fun j h1 h2 => (hf j h1 h2).trans (h j h1 h2)
theorem ae_w (h : Ae n f g) (hn : n2 ≤ n ∨ n2 = n + 1 ∧ i = n) (hf : f2 i = v) (hg : g2 i = v) (hf2 : ∀ j : Int, ¬ j = i → f2 j = f j) (hg2 : ∀ j : Int, ¬ j = i → g2 j = g j) : Ae n2 f2 g2 := fun j h1 h2 => by
  by_cases e : j = i
  · rw [e, hf, hg]
  · rw [hf2 j e, hg2 j e]
    exact h j h1 (by omega)
theorem ae_rd (h : Ae n f g) (h1 : 0 ≤ i) (h2 : i < n) : f i = g i := h i h1 h2
theorem ae_4 (h0 : f 0 = g 0) (h1 : f 1 = g 1) (h2 : f 2 = g 2) (h3 : f 3 = g 3) : Ae 4 f g := fun j a b => by
  have e : j = 0 ∨ j = 1 ∨ j = 2 ∨ j = 3 := by omega
  rcases e with rfl | rfl | rfl | rfl
  · exact h0
  · exact h1
  · exact h2
  · exact h3
end AE
theorem wide {lo hi x : Int} (h : lo ≤ x ∧ x ≤ hi) (h1 : -2147483648 ≤ lo) (h2 : hi ≤ 2147483647) : -2147483648 ≤ x ∧ x ≤ 2147483647 := ⟨by omega, by omega⟩
/-! how many of four places are taken -/
def cn1 (x : Int) : Int := if 0 ≤ x then 1 else 0
def cnt (f : Int → Int) : Int := cn1 (f 0) + cn1 (f 1) + cn1 (f 2) + cn1 (f 3)
theorem cn1_r (x : Int) : 0 ≤ cn1 x ∧ cn1 x ≤ 1 := by
  unfold cn1
  split <;> omega
theorem cnt_r (f : Int → Int) : 0 ≤ cnt f ∧ cnt f ≤ 4 := by
  have a := cn1_r (f 0)
  have b := cn1_r (f 1)
  have c := cn1_r (f 2)
  have d := cn1_r (f 3)
  unfold cnt
  omega
theorem cnt_0 {f : Int → Int} (h0 : f 0 = -1) (h1 : f 1 = -1) (h2 : f 2 = -1) (h3 : f 3 = -1) : cnt f = 0 := by
  unfold cnt
  rw [h0, h1, h2, h3]
  decide
theorem cnt_w {f f2 : Int → Int} {i v : Int} (h1 : 0 ≤ i) (h2 : i ≤ 3) (ho : f i = -1) (hv : f2 i = v) (h0 : 0 ≤ v) (hf : ∀ j : Int, ¬ j = i → f2 j = f j) : cnt f2 = cnt f + 1 := by
  have a0 : cn1 (-1) = 0 := by decide
  have a1 : cn1 v = 1 := if_pos h0
  have e : i = 0 ∨ i = 1 ∨ i = 2 ∨ i = 3 := by omega
  unfold cnt
  rcases e with rfl | rfl | rfl | rfl
  · rw [ho, hv, hf 1 (by decide), hf 2 (by decide), hf 3 (by decide), a0, a1]
    omega
  · rw [ho, hv, hf 0 (by decide), hf 2 (by decide), hf 3 (by decide), a0, a1]
    omega
  · rw [ho, hv, hf 0 (by decide), hf 1 (by decide), hf 3 (by decide), a0, a1]
    omega
  · rw [ho, hv, hf 0 (by decide), hf 1 (by decide), hf 2 (by decide), a0, a1]
    omega
theorem cnt_lt {f : Int → Int} {i : Int} (h1 : 0 ≤ i) (h2 : i ≤ 3) (ho : f i = -1) : cnt f ≤ 3 := by
  have a := cn1_r (f 0)
  have b := cn1_r (f 1)
  have c := cn1_r (f 2)
  have d := cn1_r (f 3)
  have a0 : cn1 (-1) = 0 := by decide
  have e : i = 0 ∨ i = 1 ∨ i = 2 ∨ i = 3 := by omega
  unfold cnt
  rcases e with rfl | rfl | rfl | rfl <;> rw [ho, a0] <;> omega
