/-! ===== the law, as a function of its codes ===== -/
noncomputable def dv (a b : Int) : Int := (Int32.ofInt a / Int32.ofInt b).toInt
noncomputable def rm (a b : Int) : Int := (Int32.ofInt a - Int32.ofInt a / Int32.ofInt b * Int32.ofInt b).toInt
theorem dv_rng (a b : Int) : -2147483648 ≤ dv a b ∧ dv a b ≤ 2147483647 := c_rng _
theorem rm_rng (a b : Int) : -2147483648 ≤ rm a b ∧ rm a b ≤ 2147483647 := c_rng _
section LV
variable {sc : List Int32} {d k pc len nc ns : Nat} {ls : AL} {st r : List Value} {w : AW} {Z : AR → Prop}
theorem v_nrw {a : Int} (K : Wp sc d k pc ls (vi (wr a) :: st) w nc ns Z) : Wp sc d k pc ls (vi a :: st) w nc ns Z := by
  refine hv_ (p := vi (wr a) = vi a) (congrArg Value.int (wr_of a)) (fun e => ?_)
  rw [← e]
  exact K
theorem v_idive {a b : Int} (hd : mLk k pc = some (.idiv, len)) (hb : ¬ b = 0 ∧ -2147483648 ≤ b ∧ b ≤ 2147483647) (K : Wp sc d k (pc + 1) ls (vi (dv a b) :: r) w nc ns Z) : Wp sc d k pc ls (vi b :: vi a :: r) w nc ns Z := by
  refine hv_ (K) (fun q => ?_)
  unfold vi dv at q
  rw [Int32.ofInt_toInt] at q
  exact q_idiv hd (c_ne (b := 0) ⟨hb.1, hb.2, by omega, by omega⟩) q
theorem v_ireme {a b : Int} (hd : mLk k pc = some (.irem, len)) (hb : ¬ b = 0 ∧ -2147483648 ≤ b ∧ b ≤ 2147483647) (K : Wp sc d k (pc + 1) ls (vi (rm a b) :: r) w nc ns Z) : Wp sc d k pc ls (vi b :: vi a :: r) w nc ns Z := by
  refine hv_ (K) (fun q => ?_)
  unfold vi rm at q
  rw [Int32.ofInt_toInt] at q
  exact q_irem hd (c_ne (b := 0) ⟨hb.1, hb.2, by omega, by omega⟩) q
end LV
noncomputable def jn (w a b : Int) : Int := if w = 2 then wr (a + b) else if w = 3 then wr (a - b) else if w = 4 then wr (a * b) else if w = 5 then (if b = 0 then 0 else dv a b) else if w = 8 then (if b = 0 then 0 else rm a b) else if w = 6 then (if a < b then a else b) else (if a < b then b else a)
section JN
variable {w a b : Int}
theorem jn_2 (h : w = 2) : jn w a b = wr (a + b) := by subst h; rfl
theorem jn_3 (h : w = 3) : jn w a b = wr (a - b) := by subst h; rfl
theorem jn_4 (h : w = 4) : jn w a b = wr (a * b) := by subst h; rfl
theorem jn_5 (h : w = 5) (hb : ¬ b = 0) : jn w a b = dv a b := by subst h; exact if_neg hb
theorem jn_5z (h : w = 5) (hb : b = 0) : jn w a b = 0 := by subst h; exact if_pos hb
theorem jn_8 (h : w = 8) (hb : ¬ b = 0) : jn w a b = rm a b := by subst h; exact if_neg hb
theorem jn_8z (h : w = 8) (hb : b = 0) : jn w a b = 0 := by subst h; exact if_pos hb
theorem jn_6a (h : w = 6) (q : a ≤ b) : jn w a b = a := by
  subst h
  show (if a < b then a else b) = a
  split <;> omega
theorem jn_6b (h : w = 6) (q : b ≤ a) : jn w a b = b := by
  subst h
  show (if a < b then a else b) = b
  split <;> omega
theorem jn_7a (h : w = 7) (q : b ≤ a) : jn w a b = a := by
  subst h
  show (if a < b then b else a) = a
  split <;> omega
theorem jn_7b (h : w = 7) (q : a ≤ b) : jn w a b = b := by
  subst h
  show (if a < b then b else a) = b
  split <;> omega
end JN
noncomputable def bnd (v : Int) : Int := if v < 0 then 0 else if 99 < v then 99 else v
theorem bnd_l {v : Int} (h : v < 0) : bnd v = 0 := if_pos h
theorem bnd_h {v : Int} (h : 99 < v) : bnd v = 99 := by
  unfold bnd
  rw [if_neg (by omega), if_pos h]
theorem bnd_m {v : Int} (h : 0 ≤ v ∧ v ≤ 99) : bnd v = v := by
  unfold bnd
  rw [if_neg (by omega), if_neg (by omega)]
theorem bnd_r (v : Int) : 0 ≤ bnd v ∧ bnd v ≤ 99 := by
  unfold bnd
  split
  · omega
  · split <;> omega
noncomputable def nmf (x0 x1 x2 x3 x5 x6 x7 : Int) (i : Int) : Int := if i = 0 then x0 else if i = 1 then x1 else if i = 2 then x2 else if i = 3 then x3 else if i = 4 then x0 + x1 + x2 + x3 else if i = 5 then x5 else if i = 6 then x6 else x7
/-- what stands on the pile behind so many codes -/
noncomputable def pil (nm G H : Int → Int) : Nat → Int → Int
  | 0 => fun _ => 0
  | k + 1 => if G k = 0 then ud (pil nm G H k) (hgt G k) (H k) else if G k = 1 then ud (pil nm G H k) (hgt G k) (nm (H k)) else ud (pil nm G H k) (hgt G k - 2) (jn (G k) (pil nm G H k (hgt G k - 2)) (pil nm G H k (hgt G k - 1)))
noncomputable def pw (G H : Int → Int) (n x0 x1 x2 x3 x5 x6 x7 : Int) : Int := bnd (if n = 0 then 90 * x0 / (x0 + x1 + x2 + x3 + 1) else pil (nmf x0 x1 x2 x3 x5 x6 x7) G H n.toNat 0)
theorem pw_r (G H : Int → Int) (n x0 x1 x2 x3 x5 x6 x7 : Int) : 0 ≤ pw G H n x0 x1 x2 x3 x5 x6 x7 ∧ pw G H n x0 x1 x2 x3 x5 x6 x7 ≤ 99 := bnd_r _
noncomputable def Pg (nm G H : Int → Int) (k : Int) (f : Int → Int) : Prop := ∀ j : Int, 0 ≤ j → j < hgt G k.toNat → f j = pil nm G H k.toNat j
section PG
variable {nm G H f f2 : Int → Int} {k k2 top v a b n r : Int}
theorem pg_z (hk : k = 0) : Pg nm G H k f := fun j h1 h2 => by
  subst hk
  refine hv_ (p := j < 0) (h2) (fun h3 => ?_)
  omega
theorem pg_fr (h : Pg nm G H k f) (hf : ∀ j : Int, f2 j = f j) : Pg nm G H k f2 := fun j h1 h2 => (hf j).trans (h j h1 h2)
theorem pil_s (h0 : 0 ≤ k) : pil nm G H (k + 1).toNat = (if G k = 0 then ud (pil nm G H k.toNat) (hgt G k.toNat) (H k) else if G k = 1 then ud (pil nm G H k.toNat) (hgt G k.toNat) (nm (H k)) else ud (pil nm G H k.toNat) (hgt G k.toNat - 2) (jn (G k) (pil nm G H k.toNat (hgt G k.toNat - 2)) (pil nm G H k.toNat (hgt G k.toNat - 1)))) := by
  obtain ⟨m, rfl⟩ := Int.eq_ofNat_of_zero_le h0
  rw [show ((m : Int) + 1).toNat = m + 1 by omega, Int.toNat_natCast]
  rfl
theorem pg_0 (h : Pg nm G H k f) (h0 : 0 ≤ k) (hk : k2 = k + 1) (ht : top = hgt G k.toNat) (hg : G k = 0) (hv : f2 top = v) (hv2 : v = H k) (hf : ∀ j : Int, ¬ j = top → f2 j = f j) : Pg nm G H k2 f2 := fun j h1 h2 => by
  subst hk
  refine hv_ ((hgt_s (f := G) h0).1 (by omega)) (fun hs => ?_)
  rw [hs] at h2
  rw [pil_s h0, if_pos hg]
  by_cases e : j = top
  · rw [ud_eq (e.trans ht), e, hv, hv2]
  · rw [ud_ne (fun q => e (q.trans ht.symm)), hf j e]
    exact h j h1 (by omega)
theorem pg_1 (h : Pg nm G H k f) (h0 : 0 ≤ k) (hk : k2 = k + 1) (ht : top = hgt G k.toNat) (hg : G k = 1) (hv : f2 top = v) (hv2 : v = nm (H k)) (hf : ∀ j : Int, ¬ j = top → f2 j = f j) : Pg nm G H k2 f2 := fun j h1 h2 => by
  subst hk
  refine hv_ ((hgt_s (f := G) h0).1 (by omega)) (fun hs => ?_)
  rw [hs] at h2
  rw [pil_s h0, if_neg (by omega), if_pos hg]
  by_cases e : j = top
  · rw [ud_eq (e.trans ht), e, hv, hv2]
  · rw [ud_ne (fun q => e (q.trans ht.symm)), hf j e]
    exact h j h1 (by omega)
theorem pg_2 (h : Pg nm G H k f) (h0 : 0 ≤ k) (hk : k2 = k + 1) (ht : top = hgt G k.toNat) (hg : 2 ≤ G k) (h2t : 2 ≤ top) (ha : f (top - 2) = a) (hb : f (top - 1) = b) (hv : f2 (top - 2) = v) (hv2 : jn (G k) a b = v) (hf : ∀ j : Int, ¬ j = top - 2 → f2 j = f j) : Pg nm G H k2 f2 := fun j h1 h2 => by
  subst hk
  refine hv_ ((hgt_s (f := G) h0).2 hg) (fun hs => ?_)
  rw [hs] at h2
  rw [pil_s h0, if_neg (by omega), if_neg (by omega)]
  refine hv_ (h (top - 2) (by omega) (by omega)) (fun ea => ?_)
  refine hv_ (h (top - 1) (by omega) (by omega)) (fun eb => ?_)
  rw [ha] at ea
  rw [hb] at eb
  by_cases e : j = top - 2
  · rw [ud_eq (by omega), e, hv, ← hv2, ea, eb, ht]
  · rw [ud_ne (by omega), hf j e]
    exact h j h1 (by omega)
theorem pw_n {x0 x1 x2 x3 x5 x6 x7 p : Int} (hn : ¬ n = 0) (hp : p = pil (nmf x0 x1 x2 x3 x5 x6 x7) G H n.toNat 0) (hb : bnd p = r) : pw G H n x0 x1 x2 x3 x5 x6 x7 = r := by
  unfold pw
  rw [if_neg hn, ← hp]
  exact hb
theorem pw_0 {x0 x1 x2 x3 x5 x6 x7 : Int} (hn : n = 0) (hb : bnd (90 * x0 / (x0 + x1 + x2 + x3 + 1)) = r) : pw G H n x0 x1 x2 x3 x5 x6 x7 = r := by
  unfold pw
  rw [if_pos hn]
  exact hb
theorem ae_8 {g : Int → Int} (h0 : f 0 = g 0) (h1 : f 1 = g 1) (h2 : f 2 = g 2) (h3 : f 3 = g 3) (h4 : f 4 = g 4) (h5 : f 5 = g 5) (h6 : f 6 = g 6) (h7 : f 7 = g 7) : Ae 8 f g := fun j a b => by
  refine hv_ (p := j = 0 ∨ j = 1 ∨ j = 2 ∨ j = 3 ∨ j = 4 ∨ j = 5 ∨ j = 6 ∨ j = 7) (by omega) (fun e => ?_)
  rcases e with rfl | rfl | rfl | rfl | rfl | rfl | rfl | rfl
  · exact h0
  · exact h1
  · exact h2
  · exact h3
  · exact h4
  · exact h5
  · exact h6
  · exact h7
theorem hgt_1 (h : Hw G H n) (hn : 1 ≤ n) : 1 ≤ hgt G n.toNat := by
  obtain ⟨m, hm⟩ : ∃ m : Nat, n = (m : Int) + 1 := ⟨(n - 1).toNat, by omega⟩
  subst hm
  refine hv_ (h m (by omega)) (fun h1 => ?_)
  refine hv_ (hgt_nn h m (by omega)) (fun h3 => ?_)
  refine hv_ (hgt_s (f := G) (k := (m : Int)) (by omega)) (fun h2 => ?_)
  rw [Int.toNat_natCast] at h2
  by_cases q : G m ≤ 1
  · have := h2.1 q
    omega
  · have := h2.2 (by omega)
    have := h1.1 (by omega)
    omega
theorem hw_k (h : Hw G H n) (h0 : 0 ≤ k) (hk : k < n) : (2 ≤ G k → 2 ≤ hgt G k.toNat) ∧ (G k = 1 → H k ≤ 7) := by
  refine hv_ (h k.toNat (by omega)) (fun q => ?_)
  rw [Int.toNat_of_nonneg h0] at q
  exact q
end PG
theorem div_r {a b : Int} (h : 0 ≤ a) (hb : 1 ≤ b) : 0 ≤ a / b ∧ a / b ≤ a := ⟨Int.ediv_nonneg h (by omega), Int.ediv_le_self b h⟩
theorem ce_fr2 {n n2 : Int} {f g h f2 g2 h2 : Int → Int} (q : Ce n f g h) (hn : n2 = n) (hf : ∀ j : Int, f2 j = f j) (hg : ∀ j : Int, g2 j = g j) (hh : ∀ j : Int, h2 j = h j) : Ce n2 f2 g2 h2 := hn.symm ▸ ce_fr q hf hg hh
theorem ce_cp {n : Int} {f g h f2 g2 h2 : Int → Int} (q : Ce n f g h) (hf : ∀ j : Int, 0 ≤ j → j < n → f2 j = f j) (hg : ∀ j : Int, 0 ≤ j → j < n → g2 j = g j) (hh : ∀ j : Int, 0 ≤ j → j < n → h2 j = h j) : Ce n f2 g2 h2 := fun j a b => by
  rw [hf j a b, hg j a b, hh j a b]
  exact q j a b
theorem ce_wd {P Q N T P' Q' N' T' u u2 : Nat} {e e2 a : Int} {P1 Q1 P3 Q3 : Nat} {x y : ME} {f : Int → Int} (h : Ce (x 41 29) f (x 50) (x 51)) (hl : a = x 41 29) (hw : Wd P Q N T x = Wd P' Q' N' T' y) (hx : Iv u e P1 Q1 x) (hy : Iv u2 e2 P3 Q3 y) : a = y 41 29 ∧ Ce (y 41 29) f (y 50) (y 51) := by
  refine hv_ (p := y 41 29 = x 41 29) (wd_fv (z := 29) 29 rfl hw rfl rfl rfl rfl (by decide) rfl (wide (ir_41_29 hx) (by decide) (by decide)) (wide (ir_41_29 hy) (by decide) (by decide))) (fun e29 => ?_)
  refine hv_ (ir_41_29 hx) (fun hb => ?_)
  refine ⟨hl.trans e29.symm, ?_⟩
  rw [e29]
  refine ce_cp h (fun j _ _ => rfl) (fun j h1 h2 => ?_) (fun j h1 h2 => ?_)
  · exact wd_av hw rfl rfl (by decide) (by decide) ⟨h1, by omega⟩ rfl (wide (ir_50 hx j) (by decide) (by decide)) (wide (ir_50 hy j) (by decide) (by decide))
  · exact wd_av hw rfl rfl (by decide) (by decide) ⟨h1, by omega⟩ rfl (wide (ir_51 hx j) (by decide) (by decide)) (wide (ir_51 hy j) (by decide) (by decide))
/-! ages and smaller ones -/
noncomputable def ag (g o n : Int) : Int := if 0 < g then (if o < n then n else o) else o
noncomputable def mn (a b : Int) : Int := if b < a then b else a
section AG
variable {g g0 g1 g2 g3 o n a b : Int}
theorem ag_1 (h : 0 < g) (q : o < n) : ag g o n = n := by unfold ag; rw [if_pos h, if_pos q]
theorem ag_2 (h : 0 < g) (q : n ≤ o) : ag g o n = o := by unfold ag; rw [if_pos h, if_neg (by omega)]
theorem ag_3 (h : g ≤ 0) : ag g o n = o := by unfold ag; rw [if_neg (by omega)]
theorem ag_or : ag g o n = n ∨ ag g o n = o := by
  unfold ag
  split
  · split
    · exact Or.inl rfl
    · exact Or.inr rfl
  · exact Or.inr rfl
theorem ag_s (h0 : 0 ≤ g0) (h1 : 0 ≤ g1) : ag g1 (ag g0 o n) n = ag (g0 + g1) o n := by
  by_cases p0 : 0 < g0
  · by_cases q : o < n
    · rw [ag_1 p0 q, ag_1 (g := g0 + g1) (by omega) q]
      by_cases p1 : 0 < g1
      · rw [ag_2 p1 (Int.le_refl n)]
      · rw [ag_3 (by omega)]
    · rw [ag_2 p0 (by omega), ag_2 (g := g0 + g1) (by omega) (by omega)]
      by_cases p1 : 0 < g1
      · rw [ag_2 p1 (by omega)]
      · rw [ag_3 (by omega)]
  · rw [ag_3 (g := g0) (by omega), show g0 + g1 = g1 by omega]
theorem ag_4 (h0 : 0 ≤ g0) (h1 : 0 ≤ g1) (h2 : 0 ≤ g2) (h3 : 0 ≤ g3) (hg : g = g0 + g1 + g2 + g3) : ag g3 (ag g2 (ag g1 (ag g0 o n) n) n) n = ag g o n := by
  rw [ag_s h0 h1, ag_s (by omega) h2, ag_s (by omega) h3, hg]
theorem mn_or : (mn a b = a ∧ a ≤ b) ∨ (mn a b = b ∧ b ≤ a) := by
  unfold mn
  by_cases h : b < a
  · rw [if_pos h]; exact Or.inr ⟨rfl, by omega⟩
  · rw [if_neg h]; exact Or.inl ⟨rfl, by omega⟩
end AG
section AV
variable {sc : List Int32} {d k pc len nc ns : Nat} {ls : AL} {st r : List Value} {w : AW} {Z : AR → Prop}
theorem v_mine {x j : Nat} {a b : Int} (hd : mLk k pc = some (.invokestatic x, len)) (hk : a_lk (kM (mK k)) x = some (4, j)) (h1 : 1 ≤ d) (hc : a_cat r ≤ 8) (h : -2147483648 ≤ a ∧ a ≤ 2147483647 ∧ -2147483648 ≤ b ∧ b ≤ 2147483647) (K : Wp sc d k (pc + 3) ls (vi (mn a b) :: r) w nc ns Z) : Wp sc d k pc ls (vi b :: vi a :: r) w nc ns Z :=
  v_minx hd hk h1 hc h (fun y hy => by
    refine hv_ (mn_or (a := a) (b := b)) (fun q => ?_)
    refine hv_ (p := y = mn a b) (by omega) (fun e => ?_)
    rw [e]
    exact K)
end AV
theorem ag_mx {g o n y : Int} (h : 0 < g) (h1 : o ≤ y ∧ n ≤ y) (h2 : y = o ∨ y = n) : ag g o n = y := by
  by_cases q : o < n
  · rw [ag_1 h q]; omega
  · rw [ag_2 h (by omega)]; omega
theorem mn_l {a b : Int} (h : b < a) : b = mn a b := (if_pos h).symm
theorem mn_r {a b : Int} (h : ¬ b < a) : a = mn a b := (if_neg h).symm
