/-! ===== what both sides hold, whole ===== -/
theorem ae_cp {n : Int} {f g g2 : Int → Int} (h : Ae n f g) (hc : ∀ j : Int, 0 ≤ j → j < n → g2 j = g j) : Ae n f g2 := fun j h1 h2 => (h j h1 h2).trans (hc j h1 h2).symm
theorem ae_fr2 {n n2 : Int} {f g f2 g2 : Int → Int} (h : Ae n f g) (hn : n2 = n) (hf : ∀ j : Int, f2 j = f j) (hg : ∀ j : Int, g2 j = g j) : Ae n2 f2 g2 := hn.symm ▸ ae_fr h hf hg
