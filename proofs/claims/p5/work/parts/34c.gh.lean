/-! ===== a run that is told beside: the class's, while the reference runs ===== -/
section GH
variable {sc : List Int32} {d k pc nc ns : Nat} {ls : AL} {st : List Value} {w : AW}
/-- what a run ends with -/
noncomputable def Fn (sc : List Int32) (d k pc : Nat) (ls : AL) (st : List Value) (w : AW) (r : AR) : Prop := Wp sc d k pc ls st w 0 0 (fun q => q = r)
theorem wp_det {r1 r2 : AR} {n m : Nat} (h1 : ev sc n d k pc ls st w nc ns = some r1) (h2 : ev sc m d k pc ls st w nc ns = some r2) : r1 = r2 := by
  refine hv_ (ev_to h1 (Nat.le_max_left n m)) (fun a => ?_)
  refine hv_ (ev_to h2 (Nat.le_max_right n m)) (fun b => ?_)
  rw [a] at b
  exact Option.some.inj b
theorem gh {R : AR} {G : Prop} (h : Wp sc d k pc ls st w nc ns (fun q => q = R)) (h2 : Wp sc d k pc ls st w nc ns (fun q => q = R → G)) : G := by
  obtain ⟨n, r, h3, h4⟩ := h
  obtain ⟨m, r2, h5, h6⟩ := h2
  exact h6 ((wp_det h5 h3).trans h4)
theorem gh_stop {R : AR} {G : Prop} (T : Wp sc d k pc ls st w nc ns (fun _ => True)) (K : Wp sc d k pc ls st w nc ns (fun q => q = R) → G) : Wp sc d k pc ls st w nc ns (fun q => q = R → G) := by
  obtain ⟨n, r, h1, _⟩ := T
  exact ⟨n, r, h1, fun e => K ⟨n, r, h1, e⟩⟩
theorem fn_of {Z : AR → Prop} (T : Wp sc d k pc ls st w 0 0 (fun r => Fn sc d k pc ls st w r → Z r)) : Wp sc d k pc ls st w 0 0 Z := by
  obtain ⟨n, r, h1, h2⟩ := T
  exact ⟨n, r, h1, h2 ⟨n, r, h1, rfl⟩⟩
end GH
/-! what a world holds is told by it -/
theorem vi_inj {a b : Int} (ha : -2147483648 ≤ a ∧ a ≤ 2147483647) (hb : -2147483648 ≤ b ∧ b ≤ 2147483647) (h : vi a = vi b) : a = b := by
  refine hv_ (p := Int32.ofInt a = Int32.ofInt b) (Value.int.inj h) (fun e => ?_)
  refine hv_ (congrArg Int32.toInt e) (fun e2 => ?_)
  rw [Int32.toInt_ofInt_of_le (by omega) (by omega), Int32.toInt_ofInt_of_le (by omega) (by omega)] at e2
  exact e2
theorem wd_ce {P Q N T P' Q' N' T' : Nat} {x y : ME} (h : Wd P Q N T x = Wd P' Q' N' T' y) {a : Nat} (ha : a < 68) : ce x a (ck P Q N T a) = ce y a (ck P' Q' N' T' a) := by
  refine hv_ (congrArg (fun l : AW => l[a]?) h) (fun e => ?_)
  rw [wd_get ha, wd_get ha] at e
  exact Option.some.inj e
theorem wd_fv {P Q N T P' Q' N' T' : Nat} {x y : ME} (j : Nat) {z : Int} (hz : (j : Int) = z) (h : Wd P Q N T x = Wd P' Q' N' T' y) {a ci ci' : Nat} {fl fl' : List (Option Nat)} (hk : ck P Q N T a = .inr (ci, fl)) (hk' : ck P' Q' N' T' a = .inr (ci', fl')) (hj : fl[j]? = some none) (hj' : fl'[j]? = some none) (ha : a < 68) {v : Int} (hp : x a z = v) (hv : -2147483648 ≤ v ∧ v ≤ 2147483647) (hy : -2147483648 ≤ y a z ∧ y a z ≤ 2147483647) : y a z = v := by
  subst hz
  refine hv_ (wd_ce h ha) (fun e => ?_)
  rw [hk, hk'] at e
  refine hv_ (p := fe x a 0 fl = fe y a 0 fl') ((Prod.mk.inj (Sum.inr.inj e)).2) (fun e2 => ?_)
  refine hv_ (congrArg (fun l : List Value => l[j]?) e2) (fun e3 => ?_)
  rw [fe_none hj, fe_none hj', Nat.zero_add] at e3
  rw [← hp]
  exact (vi_inj (by rw [hp]; exact hv) hy (Option.some.inj e3)).symm
theorem wd_av {P Q N T P' Q' N' T' : Nat} {x y : ME} (h : Wd P Q N T x = Wd P' Q' N' T' y) {a t n : Nat} {j : Int} (hk : ck P Q N T a = .inl (t, n)) (hk' : ck P' Q' N' T' a = .inl (t, n)) (ht : ¬ t = 2) (ha : a < 68) (hj : 0 ≤ j ∧ j < (n : Int)) {v : Int} (hp : x a j = v) (hv : -2147483648 ≤ v ∧ v ≤ 2147483647) (hy : -2147483648 ≤ y a j ∧ y a j ≤ 2147483647) : y a j = v := by
  refine hv_ (wd_ce h ha) (fun e => ?_)
  rw [hk, hk'] at e
  unfold ce at e
  dsimp only at e
  rw [if_neg ht, if_neg ht] at e
  refine hv_ (p := ar n (x a) = ar n (y a)) (Sum.inl.inj (Prod.mk.inj (Sum.inl.inj e)).2) (fun e2 => ?_)
  obtain ⟨i, rfl⟩ := Int.eq_ofNat_of_zero_le hj.1
  refine hv_ (congrArg (fun l : List Int32 => l[i]?) e2) (fun e3 => ?_)
  rw [ar_get (by omega), ar_get (by omega)] at e3
  refine hv_ (Option.some.inj e3) (fun e4 => ?_)
  refine hv_ (congrArg Int32.toInt e4) (fun e5 => ?_)
  rw [Int32.toInt_ofInt_of_le (by rw [hp]; omega) (by rw [hp]; omega), Int32.toInt_ofInt_of_le (by omega) (by omega)] at e5
  rw [← hp]
  exact e5.symm
theorem ck_A {P Q N T A : Nat} (h : A = 13 ∨ A = 25) : ck P Q N T A = .inr (2, [none, none, none, none, none, none, some (A + 1), some (A + 2), some (A + 3), some (A + 4), some (A + 5), some (A + 6), some (A + 7)]) := by
  rcases h with rfl | rfl <;> rfl
/-! the texts of both sides stand alike: sound and at one place, or with one fault -/
noncomputable def Rt (m c : ME) : Prop := (m 1 4 = 0 ∧ c 41 5 = -1 ∧ c 41 4 = m 1 2 ∧ m 1 5 = -1) ∨ ((1 ≤ m 1 4 ∧ m 1 4 ≤ 3) ∧ c 41 5 = m 1 5 ∧ 0 ≤ m 1 5 ∧ c 41 6 = m 1 4)
theorem rt_or {m c : ME} (h : Rt m c) : (m 1 4 = 0 ∧ c 41 5 = -1 ∧ c 41 4 = m 1 2 ∧ m 1 5 = -1) ∨ ((1 ≤ m 1 4 ∧ m 1 4 ≤ 3) ∧ c 41 5 = m 1 5 ∧ 0 ≤ m 1 5 ∧ c 41 6 = m 1 4) := h
theorem rt_i1 {m c : ME} (h : m 1 4 = 0 ∧ c 41 5 = -1 ∧ c 41 4 = m 1 2 ∧ m 1 5 = -1) : Rt m c := Or.inl h
theorem rt_i2 {m c : ME} (h : (1 ≤ m 1 4 ∧ m 1 4 ≤ 3) ∧ c 41 5 = m 1 5 ∧ 0 ≤ m 1 5 ∧ c 41 6 = m 1 4) : Rt m c := Or.inr h
theorem rt_ok {m c : ME} (h : Rt m c) (q : m 1 4 = 0) : m 1 4 = 0 ∧ c 41 5 = -1 ∧ c 41 4 = m 1 2 ∧ m 1 5 = -1 := h.elim id (fun z => by omega)
theorem rt_bad {m c : ME} (h : Rt m c) (q : ¬ m 1 4 = 0) : (1 ≤ m 1 4 ∧ m 1 4 ≤ 3) ∧ c 41 5 = m 1 5 ∧ 0 ≤ m 1 5 ∧ c 41 6 = m 1 4 := h.elim (fun z => absurd z.1 q) id
theorem rt_fr {m c m2 c2 : ME} (h : Rt m c) (p1 : m2 1 4 = m 1 4) (p2 : m2 1 2 = m 1 2) (p3 : m2 1 5 = m 1 5) (q1 : c2 41 5 = c 41 5) (q2 : c2 41 4 = c 41 4) (q3 : c2 41 6 = c 41 6) : Rt m2 c2 := by
  unfold Rt
  rw [p1, p2, p3, q1, q2, q3]
  exact h
