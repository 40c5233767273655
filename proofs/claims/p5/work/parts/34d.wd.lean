/-! ===== the plans that a world names ===== -/
theorem wd_pq {P Q N T P' Q' N' T' : Nat} {x y : ME} (h : Wd P Q N T x = Wd P' Q' N' T' y) : P = P' ∧ Q = Q' := by
  refine hv_ (wd_ce h (a := 0) (by decide)) (fun e => ?_)
  refine hv_ (p := fe x 0 0 [some 1, some 3, some 7, some 9, some 10, some 11, some 12, some P, some Q, some 37, some 39, none, none, none] = fe y 0 0 [some 1, some 3, some 7, some 9, some 10, some 11, some 12, some P', some Q', some 37, some 39, none, none, none]) ((Prod.mk.inj (Sum.inr.inj e)).2) (fun e2 => ?_)
  refine hv_ (congrArg (fun l : List Value => l[7]?) e2) (fun e7 => ?_)
  refine hv_ (congrArg (fun l : List Value => l[8]?) e2) (fun e8 => ?_)
  refine hv_ (p := (fe x 0 0 _)[7]? = (fe y 0 0 _)[7]?) (e7) (fun e7 => ?_)
  rw [fe_some (t := P) (j := 7) rfl, fe_some (t := P') (j := 7) rfl] at e7
  refine hv_ (p := (fe x 0 0 _)[8]? = (fe y 0 0 _)[8]?) (e8) (fun e8 => ?_)
  rw [fe_some (t := Q) (j := 8) rfl, fe_some (t := Q') (j := 8) rfl] at e8
  exact ⟨Value.ref.inj (Option.some.inj e7), Value.ref.inj (Option.some.inj e8)⟩
/-! the first places of two arrays are alike -/
noncomputable def Ae (n : Int) (f g : Int → Int) : Prop := ∀ j : Int, 0 ≤ j → j < n → f j = g j
section AE
variable {n n2 i v : Int} {f g f2 g2 : Int → Int}
theorem ae_z (h : n ≤ 0) : Ae n f g := fun j h1 h2 => absurd h2 (by omega)
theorem ae_le (h : Ae n f g) (hn : n2 ≤ n) : Ae n2 f g := fun j h1 h2 => h j h1 (by omega)
theorem ae_fr (h : Ae n f g) (hf : ∀ j : Int, f2 j = f j) (hg : ∀ j : Int, g2 j = g j) : Ae n f2 g2 := fun j h1 h2 => by
  rw [hf j, hg j]
  exact h j h1 h2
theorem ae_l (h : Ae n f g) (hf : ∀ j : Int, 0 ≤ j → j < n → f2 j = f j) : Ae n f2 g := fun j h1 h2 => (hf j h1 h2).trans (h j h1 h2)
theorem ae_w (h : Ae n f g) (hn : n2 ≤ n ∨ n2 = n + 1 ∧ i = n) (hf : f2 i = v) (hg : g2 i = v) (hf2 : ∀ j : Int, ¬ j = i → f2 j = f j) (hg2 : ∀ j : Int, ¬ j = i → g2 j = g j) : Ae n2 f2 g2 := fun j h1 h2 => by
  by_cases e : j = i
  · rw [e, hf, hg]
  · rw [hf2 j e, hg2 j e]
    exact h j h1 (by omega)
theorem ae_rd (h : Ae n f g) (h1 : 0 ≤ i) (h2 : i < n) : f i = g i := h i h1 h2
theorem ae_4 (h0 : f 0 = g 0) (h1 : f 1 = g 1) (h2 : f 2 = g 2) (h3 : f 3 = g 3) : Ae 4 f g := fun j a b => by
  refine hv_ (p := j = 0 ∨ j = 1 ∨ j = 2 ∨ j = 3) (by omega) (fun e => ?_)
  rcases e with rfl | rfl | rfl | rfl
  · exact h0
  · exact h1
  · exact h2
  · exact h3
end AE
theorem wide {lo hi x : Int} (h : lo ≤ x ∧ x ≤ hi) (h1 : -2147483648 ≤ lo) (h2 : hi ≤ 2147483647) : -2147483648 ≤ x ∧ x ≤ 2147483647 := ⟨by omega, by omega⟩
/-! how many of four places are taken -/
noncomputable def cn1 (x : Int) : Int := if 0 ≤ x then 1 else 0
noncomputable def cnt (f : Int → Int) : Int := cn1 (f 0) + cn1 (f 1) + cn1 (f 2) + cn1 (f 3)
theorem cn1_r (x : Int) : 0 ≤ cn1 x ∧ cn1 x ≤ 1 := by
  unfold cn1
  split <;> omega
theorem cnt_r (f : Int → Int) : 0 ≤ cnt f ∧ cnt f ≤ 4 := by
  refine hv_ (cn1_r (f 0)) (fun a => ?_)
  refine hv_ (cn1_r (f 1)) (fun b => ?_)
  refine hv_ (cn1_r (f 2)) (fun c => ?_)
  refine hv_ (cn1_r (f 3)) (fun d => ?_)
  unfold cnt
  omega
theorem cnt_0 {f : Int → Int} (h0 : f 0 = -1) (h1 : f 1 = -1) (h2 : f 2 = -1) (h3 : f 3 = -1) : cnt f = 0 := by
  unfold cnt
  rw [h0, h1, h2, h3]
  decide
theorem cnt_w {f f2 : Int → Int} {i v : Int} (h1 : 0 ≤ i) (h2 : i ≤ 3) (ho : f i = -1) (hv : f2 i = v) (h0 : 0 ≤ v) (hf : ∀ j : Int, ¬ j = i → f2 j = f j) : cnt f2 = cnt f + 1 := by
  refine hv_ (p := cn1 (-1) = 0) (by decide) (fun a0 => ?_)
  refine hv_ (p := cn1 v = 1) (if_pos h0) (fun a1 => ?_)
  refine hv_ (p := i = 0 ∨ i = 1 ∨ i = 2 ∨ i = 3) (by omega) (fun e => ?_)
  unfold cnt
  rcases e with rfl | rfl | rfl | rfl
  · rw [ho, hv, hf 1 (by decide), hf 2 (by decide), hf 3 (by decide), a0, a1]
    omega
  · rw [ho, hv, hf 0 (by decide), hf 2 (by decide), hf 3 (by decide), a0, a1]
    omega
  · rw [ho, hv, hf 0 (by decide), hf 1 (by decide), hf 3 (by decide), a0, a1]
    omega
  · rw [ho, hv, hf 0 (by decide), hf 1 (by decide), hf 2 (by decide), a0, a1]
    omega
theorem cnt_lt {f : Int → Int} {i : Int} (h1 : 0 ≤ i) (h2 : i ≤ 3) (ho : f i = -1) : cnt f ≤ 3 := by
  refine hv_ (cn1_r (f 0)) (fun a => ?_)
  refine hv_ (cn1_r (f 1)) (fun b => ?_)
  refine hv_ (cn1_r (f 2)) (fun c => ?_)
  refine hv_ (cn1_r (f 3)) (fun d => ?_)
  refine hv_ (p := cn1 (-1) = 0) (by decide) (fun a0 => ?_)
  refine hv_ (p := i = 0 ∨ i = 1 ∨ i = 2 ∨ i = 3) (by omega) (fun e => ?_)
  unfold cnt
  rcases e with rfl | rfl | rfl | rfl <;> rw [ho, a0] <;> omega
/-! codes of the law on both sides -/
noncomputable def Cr (v w o : Int) : Prop := (0 ≤ v ∧ v < 1000 ∧ w = 0 ∧ o = v) ∨ (1000 ≤ v ∧ v < 1008 ∧ w = 1 ∧ o = v - 1000) ∨ (2000 ≤ v ∧ v ≤ 2003 ∧ w = v - 1998 ∧ o = 0) ∨ (v = 2004 ∧ w = 8 ∧ o = 0) ∨ (2005 ≤ v ∧ v ≤ 2006 ∧ w = v - 1999 ∧ o = 0)
noncomputable def Ce (n : Int) (f g h : Int → Int) : Prop := ∀ j : Int, 0 ≤ j → j < n → Cr (f j) (g j) (h j)
section CE
variable {n n2 i v w o : Int} {f g h f2 g2 h2 : Int → Int}
theorem ce_z (q : n ≤ 0) : Ce n f g h := fun j a b => absurd b (by omega)
theorem ce_le (q : Ce n f g h) (hn : n2 ≤ n) : Ce n2 f g h := fun j a b => q j a (by omega)
theorem ce_fr (q : Ce n f g h) (hf : ∀ j : Int, f2 j = f j) (hg : ∀ j : Int, g2 j = g j) (hh : ∀ j : Int, h2 j = h j) : Ce n f2 g2 h2 := fun j a b => by
  rw [hf j, hg j, hh j]
  exact q j a b
theorem ce_l (q : Ce n f g h) (hf : ∀ j : Int, 0 ≤ j → j < n → f2 j = f j) : Ce n f2 g h := fun j a b => by
  rw [hf j a b]
  exact q j a b
theorem ce_w (q : Ce n f g h) (hn : n2 = n + 1 ∧ i = n) (hf : f2 i = v) (hg : g2 i = w) (hh : h2 i = o) (hf2 : ∀ j : Int, ¬ j = i → f2 j = f j) (hg2 : ∀ j : Int, ¬ j = i → g2 j = g j) (hh2 : ∀ j : Int, ¬ j = i → h2 j = h j) (hc : Cr v w o) : Ce n2 f2 g2 h2 := fun j a b => by
  by_cases e : j = i
  · rw [e, hf, hg, hh]
    exact hc
  · rw [hf2 j e, hg2 j e, hh2 j e]
    exact q j a (by omega)
end CE
/-! how long a word is -/
theorem wl_again {b : Int → Int} {r l : Int} (hr : r ≤ l) (h : ∀ j : Int, r ≤ j → j < l → 97 ≤ b j ∧ b j ≤ 122) (hv : wv b r l = 1279278) : l - r = 5 := by
  rcases wq_again hr h with e | e
  · exact e.2.1
  · exact absurd hv e.1
theorem wl_age {b : Int → Int} {r l : Int} (hr : r ≤ l) (h : ∀ j : Int, r ≤ j → j < l → 97 ≤ b j ∧ b j ≤ 122) (hv : wv b r l = 1253) : l - r = 3 := by
  rcases wq_age hr h with e | e
  · exact e.2.1
  · exact absurd hv e.1
theorem wl_all {b : Int → Int} {r l : Int} (hr : r ≤ l) (h : ∀ j : Int, r ≤ j → j < l → 97 ≤ b j ∧ b j ≤ 122) (hv : wv b r l = 1420) : l - r = 3 := by
  rcases wq_all hr h with e | e
  · exact e.2.1
  · exact absurd hv e.1
theorem wl_coarse {b : Int → Int} {r l : Int} (hr : r ≤ l) (h : ∀ j : Int, r ≤ j → j < l → 97 ≤ b j ∧ b j ≤ 122) (hv : wv b r l = 116443749) : l - r = 6 := by
  rcases wq_coarse hr h with e | e
  · exact e.2.1
  · exact absurd hv e.1
theorem wl_day {b : Int → Int} {r l : Int} (hr : r ≤ l) (h : ∀ j : Int, r ≤ j → j < l → 97 ≤ b j ∧ b j ≤ 122) (hv : wv b r l = 4153) : l - r = 3 := by
  rcases wq_day hr h with e | e
  · exact e.2.1
  · exact absurd hv e.1
theorem wl_fine {b : Int → Int} {r l : Int} (hr : r ≤ l) (h : ∀ j : Int, r ≤ j → j < l → 97 ≤ b j ∧ b j ≤ 122) (hv : wv b r l = 206277) : l - r = 4 := by
  rcases wq_fine hr h with e | e
  · exact e.2.1
  · exact absurd hv e.1
theorem wl_grind {b : Int → Int} {r l : Int} (hr : r ≤ l) (h : ∀ j : Int, r ≤ j → j < l → 97 ≤ b j ∧ b j ≤ 122) (hv : wv b r l = 7939524) : l - r = 5 := by
  rcases wq_grind hr h with e | e
  · exact e.2.1
  · exact absurd hv e.1
theorem wl_husk {b : Int → Int} {r l : Int} (hr : r ≤ l) (h : ∀ j : Int, r ≤ j → j < l → 97 ≤ b j ∧ b j ≤ 122) (hv : wv b r l = 284267) : l - r = 4 := by
  rcases wq_husk hr h with e | e
  · exact e.2.1
  · exact absurd hv e.1
theorem wl_jar {b : Int → Int} {r l : Int} (hr : r ≤ l) (h : ∀ j : Int, r ≤ j → j < l → 97 ≤ b j ∧ b j ≤ 122) (hv : wv b r l = 10290) : l - r = 3 := by
  rcases wq_jar hr h with e | e
  · exact e.2.1
  · exact absurd hv e.1
theorem wl_least {b : Int → Int} {r l : Int} (hr : r ≤ l) (h : ∀ j : Int, r ≤ j → j < l → 97 ≤ b j ∧ b j ≤ 122) (hv : wv b r l = 12748404) : l - r = 5 := by
  rcases wq_least hr h with e | e
  · exact e.2.1
  · exact absurd hv e.1
theorem wl_mid {b : Int → Int} {r l : Int} (hr : r ≤ l) (h : ∀ j : Int, r ≤ j → j < l → 97 ≤ b j ∧ b j ≤ 122) (hv : wv b r l = 13604) : l - r = 3 := by
  rcases wq_mid hr h with e | e
  · exact e.2.1
  · exact absurd hv e.1
theorem wl_most {b : Int → Int} {r l : Int} (hr : r ≤ l) (h : ∀ j : Int, r ≤ j → j < l → 97 ≤ b j ∧ b j ≤ 122) (hv : wv b r l = 441972) : l - r = 4 := by
  rcases wq_most hr h with e | e
  · exact e.2.1
  · exact absurd hv e.1
theorem wl_pour {b : Int → Int} {r l : Int} (hr : r ≤ l) (h : ∀ j : Int, r ≤ j → j < l → 97 ≤ b j ∧ b j ≤ 122) (hv : wv b r l = 540338) : l - r = 4 := by
  rcases wq_pour hr h with e | e
  · exact e.2.1
  · exact absurd hv e.1
theorem wl_scoop {b : Int → Int} {r l : Int} (hr : r ≤ l) (h : ∀ j : Int, r ≤ j → j < l → 97 ≤ b j ∧ b j ≤ 122) (hv : wv b r l = 20037104) : l - r = 5 := by
  rcases wq_scoop hr h with e | e
  · exact e.2.1
  · exact absurd hv e.1
theorem wl_sell {b : Int → Int} {r l : Int} (hr : r ≤ l) (h : ∀ j : Int, r ≤ j → j < l → 97 ≤ b j ∧ b j ≤ 122) (hv : wv b r l = 628108) : l - r = 4 := by
  rcases wq_sell hr h with e | e
  · exact e.2.1
  · exact absurd hv e.1
theorem wl_sift {b : Int → Int} {r l : Int} (hr : r ≤ l) (h : ∀ j : Int, r ≤ j → j < l → 97 ≤ b j ∧ b j ≤ 122) (hv : wv b r l = 632020) : l - r = 4 := by
  rcases wq_sift hr h with e | e
  · exact e.2.1
  · exact absurd hv e.1
theorem wl_tear {b : Int → Int} {r l : Int} (hr : r ≤ l) (h : ∀ j : Int, r ≤ j → j < l → 97 ≤ b j ∧ b j ≤ 122) (hv : wv b r l = 660530) : l - r = 4 := by
  rcases wq_tear hr h with e | e
  · exact e.2.1
  · exact absurd hv e.1
theorem wn1 {b : Int → Int} {r l : Int} (hr : r ≤ l) (h : ∀ j : Int, r ≤ j → j < l → 97 ≤ b j ∧ b j ≤ 122) : wd1_0 b r l = -1 ∨ 3 ≤ l - r := by
  rcases wr1 hr h with e0 | e1 | e2 | e3 | e4 | e5 | e6 | e7 | e8 | e9 | e10
  · have := wl_fine hr h e0.2
    omega
  · have := wl_mid hr h e1.2
    omega
  · have := wl_coarse hr h e2.2
    omega
  · have := wl_husk hr h e3.2
    omega
  · have := wl_all hr h e4.2
    omega
  · have := wl_age hr h e5.2
    omega
  · have := wl_day hr h e6.2
    omega
  · have := wl_jar hr h e7.2
    omega
  · have := wl_least hr h e8.2
    omega
  · have := wl_most hr h e9.2
    omega
  · exact Or.inl e10.1
theorem wn10 {b : Int → Int} {r l : Int} (hr : r ≤ l) (h : ∀ j : Int, r ≤ j → j < l → 97 ≤ b j ∧ b j ≤ 122) : wd10_0 b r l = -1 ∨ 3 ≤ l - r := by
  rcases wr10 hr h with e0 | e1 | e2 | e3 | e4 | e5 | e6 | e7 | e8
  · have := wl_grind hr h e0.2
    omega
  · have := wl_sift hr h e1.2
    omega
  · have := wl_pour hr h e2.2
    omega
  · have := wl_scoop hr h e3.2
    omega
  · have := wl_tear hr h e4.2
    omega
  · have := wl_sell hr h e5.2
    omega
  · have := wl_day hr h e6.2
    omega
  · have := wl_again hr h e7.2
    omega
  · exact Or.inl e8.1
/-! the reference's text, read off its world -/
theorem rt_wd {P Q N T P' Q' N' T' u u2 : Nat} {e e2 : Int} {P1 Q1 P3 Q3 : Nat} {m x y : ME} (h : Rt m x) (hw : Wd P Q N T x = Wd P' Q' N' T' y) (hx : Iv u e P1 Q1 x) (hy : Iv u2 e2 P3 Q3 y) : Rt m y :=
  rt_fr h rfl rfl rfl (wd_fv (z := 5) 5 rfl hw rfl rfl rfl rfl (by decide) rfl (wide (ir_41_5 hx) (by decide) (by decide)) (wide (ir_41_5 hy) (by decide) (by decide))) (wd_fv (z := 4) 4 rfl hw rfl rfl rfl rfl (by decide) rfl (wide (ir_41_4 hx) (by decide) (by decide)) (wide (ir_41_4 hy) (by decide) (by decide))) (wd_fv (z := 6) 6 rfl hw rfl rfl rfl rfl (by decide) rfl (wide (ir_41_6 hx) (by decide) (by decide)) (wide (ir_41_6 hy) (by decide) (by decide)))
/-! what a word can be -/
theorem wd1_r {b : Int → Int} {r l : Int} : -1 ≤ wd1_0 b r l ∧ wd1_0 b r l ≤ 9 := by
  unfold wd1_0 wd1_1 wd1_2 wd1_3 wd1_4 wd1_5 wd1_6 wd1_7 wd1_8 wd1_9 wd1_10
  repeat' split
  all_goals omega
theorem wd10_r {b : Int → Int} {r l : Int} : -1 ≤ wd10_0 b r l ∧ wd10_0 b r l ≤ 7 := by
  unfold wd10_0 wd10_1 wd10_2 wd10_3 wd10_4 wd10_5 wd10_6 wd10_7 wd10_8
  repeat' split
  all_goals omega
theorem cr_i0 {v w o : Int} (h : 0 ≤ v ∧ v < 1000 ∧ w = 0 ∧ o = v) : Cr v w o := Or.inl h
theorem cr_i1 {v w o : Int} (h : 1000 ≤ v ∧ v < 1008 ∧ w = 1 ∧ o = v - 1000) : Cr v w o := Or.inr (Or.inl h)
theorem cr_i2 {v w o : Int} (h : 2000 ≤ v ∧ v ≤ 2003 ∧ w = v - 1998 ∧ o = 0) : Cr v w o := Or.inr (Or.inr (Or.inl h))
theorem cr_i3 {v w o : Int} (h : v = 2004 ∧ w = 8 ∧ o = 0) : Cr v w o := Or.inr (Or.inr (Or.inr (Or.inl h)))
theorem cr_i4 {v w o : Int} (h : 2005 ≤ v ∧ v ≤ 2006 ∧ w = v - 1999 ∧ o = 0) : Cr v w o := Or.inr (Or.inr (Or.inr (Or.inr h)))
