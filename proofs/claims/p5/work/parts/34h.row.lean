/-! ===== rows of both sides ===== -/
noncomputable def sh1 (k : Int) : Int := (Int32.ofInt 1 <<< (Int32.ofInt k &&& 31)).toInt
noncomputable def xo (a b : Int) : Int := (Int32.ofInt a ^^^ Int32.ofInt b).toInt
theorem sh1_rng (k : Int) : -2147483648 ≤ sh1 k ∧ sh1 k ≤ 2147483647 := c_rng _
noncomputable def io (a b : Int) : Int := (Int32.ofInt a ||| Int32.ofInt b).toInt
theorem io_rng (a b : Int) : -2147483648 ≤ io a b ∧ io a b ≤ 2147483647 := c_rng _
theorem xo_rng (a b : Int) : -2147483648 ≤ xo a b ∧ xo a b ≤ 2147483647 := c_rng _
section RV
variable {sc : List Int32} {d k pc len nc ns : Nat} {ls : AL} {st r : List Value} {w : AW} {Z : AR → Prop}
theorem v_shle {a : Int} (hd : mLk k pc = some (.ishl, len)) (K : Wp sc d k (pc + 1) ls (vi (sh1 a) :: r) w nc ns Z) : Wp sc d k pc ls (vi a :: vi 1 :: r) w nc ns Z := by
  refine hv_ (K) (fun q => ?_)
  unfold vi sh1 at q
  rw [Int32.ofInt_toInt] at q
  exact q_ishl hd q
theorem v_xore {a b : Int} (hd : mLk k pc = some (.ixor, len)) (K : Wp sc d k (pc + 1) ls (vi (xo a b) :: r) w nc ns Z) : Wp sc d k pc ls (vi b :: vi a :: r) w nc ns Z := by
  refine hv_ (K) (fun q => ?_)
  unfold vi xo at q
  rw [Int32.ofInt_toInt] at q
  exact q_ixor hd q
theorem v_iore {a b : Int} (hd : mLk k pc = some (.ior, len)) (K : Wp sc d k (pc + 1) ls (vi (io a b) :: r) w nc ns Z) : Wp sc d k pc ls (vi b :: vi a :: r) w nc ns Z := by
  refine hv_ (K) (fun q => ?_)
  unfold vi io at q
  rw [Int32.ofInt_toInt] at q
  exact q_ior hd q
theorem v_ior0 {a : Int} (hd : mLk k pc = some (.ior, len)) (K : Wp sc d k (pc + 1) ls (vi a :: r) w nc ns Z) : Wp sc d k pc ls (vi 0 :: vi a :: r) w nc ns Z := by
  refine hv_ (p := Int32.ofInt a ||| Int32.ofInt 0 = Int32.ofInt a) (Int32.or_zero) (fun e => ?_)
  refine hv_ (K) (fun q => ?_)
  unfold vi at q
  rw [← e] at q
  exact q_ior hd q
end RV
theorem bit_or {x : Int} (h : 0 ≤ x ∧ x ≤ 1) : x = 0 ∨ x = 1 := by omega
theorem tb_4 {a b c d : Int} (ha : 0 ≤ a ∧ a ≤ 1) (hb : 0 ≤ b ∧ b ≤ 1) (hc : 0 ≤ c ∧ c ≤ 1) (hd : 0 ≤ d ∧ d ≤ 1) : tb (a + 2 * b + 4 * c + 8 * d) 0 = a ∧ tb (a + 2 * b + 4 * c + 8 * d) 1 = b ∧ tb (a + 2 * b + 4 * c + 8 * d) 2 = c ∧ tb (a + 2 * b + 4 * c + 8 * d) 3 = d := by
  rcases bit_or ha with rfl | rfl <;> rcases bit_or hb with rfl | rfl <;> rcases bit_or hc with rfl | rfl <;> rcases bit_or hd with rfl | rfl <;> decide
theorem xo_4 {a b c d : Int} (ha : 0 ≤ a ∧ a ≤ 1) (hb : 0 ≤ b ∧ b ≤ 1) (hc : 0 ≤ c ∧ c ≤ 1) (hd : 0 ≤ d ∧ d ≤ 1) : xo (a + 2 * b + 4 * c + 8 * d) (sh1 0) = (1 - a) + 2 * b + 4 * c + 8 * d ∧ xo (a + 2 * b + 4 * c + 8 * d) (sh1 1) = a + 2 * (1 - b) + 4 * c + 8 * d ∧ xo (a + 2 * b + 4 * c + 8 * d) (sh1 2) = a + 2 * b + 4 * (1 - c) + 8 * d ∧ xo (a + 2 * b + 4 * c + 8 * d) (sh1 3) = a + 2 * b + 4 * c + 8 * (1 - d) := by
  rcases bit_or ha with rfl | rfl <;> rcases bit_or hb with rfl | rfl <;> rcases bit_or hc with rfl | rfl <;> rcases bit_or hd with rfl | rfl <;> decide
/-- which sieves are torn: none above those that are -/
noncomputable def Tn (nv : Int) (g : Int → Int) : Prop := ∀ k : Int, 30 ≤ k → k < 34 → (0 ≤ g k ∧ g k ≤ 1) ∧ (30 + nv ≤ k → g k = 0)
noncomputable def Sr (nv : Int) (f g : Int → Int) : Prop := (∀ j : Int, 0 ≤ j → j < 30 → f j = g j) ∧ f 30 = g 30 + 2 * g 31 + 4 * g 32 + 8 * g 33 ∧ Tn nv g ∧ f 31 = g 34 ∧ f 32 = g 35 ∧ f 33 = g 36
section SR
variable {nv nv2 i a : Int} {f g f2 g2 : Int → Int}
theorem sr_rd (h : Sr nv f g) (h0 : 0 ≤ i) (h1 : i < 30) : f i = g i := h.1 i h0 h1
theorem sr_31 (h : Sr nv f g) : f 31 = g 34 := h.2.2.2.1
theorem sr_32 (h : Sr nv f g) : f 32 = g 35 := h.2.2.2.2.1
theorem sr_33 (h : Sr nv f g) : f 33 = g 36 := h.2.2.2.2.2
theorem sr_tb (h : Sr nv f g) (h0 : 0 ≤ a) (h3 : a ≤ 3) (hi : i = 30 + a) : tb (f 30) a = g i := by
  refine hv_ ((h.2.2.1 30 (by decide) (by decide)).1) (fun b0 => ?_)
  refine hv_ ((h.2.2.1 31 (by decide) (by decide)).1) (fun b1 => ?_)
  refine hv_ ((h.2.2.1 32 (by decide) (by decide)).1) (fun b2 => ?_)
  refine hv_ ((h.2.2.1 33 (by decide) (by decide)).1) (fun b3 => ?_)
  refine hv_ (tb_4 b0 b1 b2 b3) (fun q => ?_)
  rw [h.2.1, hi]
  refine hv_ (p := a = 0 ∨ a = 1 ∨ a = 2 ∨ a = 3) (by omega) (fun e => ?_)
  rcases e with rfl | rfl | rfl | rfl
  · exact q.1
  · exact q.2.1
  · exact q.2.2.1
  · exact q.2.2.2
theorem sr_mk (h : Sr nv f g) (hp : ∀ j : Int, 0 ≤ j → j < 30 → f2 j = g2 j) (ht : f2 30 = f 30) (hk : ∀ j : Int, 30 ≤ j → j < 34 → g2 j = g j) (h1 : f2 31 = g2 34) (h2 : f2 32 = g2 35) (h3 : f2 33 = g2 36) : Sr nv f2 g2 := by
  refine ⟨hp, ?_, ?_, h1, h2, h3⟩
  · rw [ht, hk 30 (by decide) (by decide), hk 31 (by decide) (by decide), hk 32 (by decide) (by decide), hk 33 (by decide) (by decide)]
    exact h.2.1
  · intro k q1 q2
    rw [hk k q1 q2]
    exact h.2.2.1 k q1 q2
theorem sr_le (h : Sr nv f g) (hn : nv2 = nv) : Sr nv2 f g := hn.symm ▸ h
theorem sr_l (h : Sr nv f g) (hf : ∀ j : Int, 0 ≤ j → j < 34 → f2 j = f j) : Sr nv f2 g := sr_mk h (fun j h1 h2 => (hf j h1 (by omega)).trans (h.1 j h1 h2)) (hf 30 (by decide) (by decide)) (fun _ _ _ => rfl) ((hf 31 (by decide) (by decide)).trans (sr_31 h)) ((hf 32 (by decide) (by decide)).trans (sr_32 h)) ((hf 33 (by decide) (by decide)).trans (sr_33 h))
theorem sr_fr (h : Sr nv f g) (hf : ∀ j : Int, 0 ≤ j → j < 34 → f2 j = f j) (hg : ∀ j : Int, 0 ≤ j → j < 37 → g2 j = g j) : Sr nv f2 g2 := by
  refine sr_mk h (fun j h1 h2 => ?_) (hf 30 (by decide) (by decide)) (fun j h1 h2 => hg j (by omega) (by omega)) ?_ ?_ ?_
  · rw [hf j h1 (by omega), hg j h1 (by omega)]
    exact h.1 j h1 h2
  · rw [hf 31 (by decide) (by decide), hg 34 (by decide) (by decide)]; exact sr_31 h
  · rw [hf 32 (by decide) (by decide), hg 35 (by decide) (by decide)]; exact sr_32 h
  · rw [hf 33 (by decide) (by decide), hg 36 (by decide) (by decide)]; exact sr_33 h
theorem sr_tear (h : Sr nv f g) (h0 : 0 ≤ a ∧ a ≤ 3) (han : a < nv) (hf : f2 30 = xo (f 30) (sh1 a)) (hf2 : ∀ j : Int, ¬ j = 30 → f2 j = f j) (hg : g2 (30 + a) = 1 - g (30 + a)) (hg2 : ∀ j : Int, ¬ j = 30 + a → g2 j = g j) : Sr nv f2 g2 := by
  refine hv_ ((h.2.2.1 30 (by decide) (by decide)).1) (fun b0 => ?_)
  refine hv_ ((h.2.2.1 31 (by decide) (by decide)).1) (fun b1 => ?_)
  refine hv_ ((h.2.2.1 32 (by decide) (by decide)).1) (fun b2 => ?_)
  refine hv_ ((h.2.2.1 33 (by decide) (by decide)).1) (fun b3 => ?_)
  refine hv_ (xo_4 b0 b1 b2 b3) (fun q => ?_)
  refine ⟨fun j h1 h2 => ?_, ?_, fun k h1 h2 => ?_, ?_, ?_, ?_⟩
  · rw [hf2 j (by omega), hg2 j (by omega)]
    exact h.1 j h1 h2
  · rw [hf, h.2.1]
    refine hv_ (p := a = 0 ∨ a = 1 ∨ a = 2 ∨ a = 3) (by omega) (fun e => ?_)
    rcases e with rfl | rfl | rfl | rfl
    · rw [show (30 : Int) + 0 = 30 by decide] at hg
      rw [q.1, hg, hg2 31 (by decide), hg2 32 (by decide), hg2 33 (by decide)]
    · rw [show (30 : Int) + 1 = 31 by decide] at hg
      rw [q.2.1, hg, hg2 30 (by decide), hg2 32 (by decide), hg2 33 (by decide)]
    · rw [show (30 : Int) + 2 = 32 by decide] at hg
      rw [q.2.2.1, hg, hg2 30 (by decide), hg2 31 (by decide), hg2 33 (by decide)]
    · rw [show (30 : Int) + 3 = 33 by decide] at hg
      rw [q.2.2.2, hg, hg2 30 (by decide), hg2 31 (by decide), hg2 32 (by decide)]
  · refine hv_ (h.2.2.1 k h1 h2) (fun z => ?_)
    by_cases e : k = 30 + a
    · rw [e, hg, ← e]
      exact ⟨by omega, fun q => by omega⟩
    · rw [hg2 k e]
      exact z
  · rw [hf2 31 (by decide), hg2 34 (by omega)]; exact sr_31 h
  · rw [hf2 32 (by decide), hg2 35 (by omega)]; exact sr_32 h
  · rw [hf2 33 (by decide), hg2 36 (by omega)]; exact sr_33 h
end SR
/-! the steps of both sides, for their run -/
noncomputable def Sy (st sv t a0 a1 a2 a3 a4 b0 b1 b2 b3 b4 : Int) : Prop := Sx sv t a0 a1 a2 a3 a4 b0 b1 b2 b3 b4 ∧ (a0 = 0 → a1 < st) ∧ (a0 = 1 → a1 < sv)
/-- so deep are agains in each other, and each ends inside -/
noncomputable def Nd : Nat → (Int → Int) → Int → Int → Prop
  | 0, f, lo, n => ∀ t : Int, lo ≤ t → t < n → ¬ f (5 * t) = 7
  | k + 1, f, lo, n => ∀ t : Int, lo ≤ t → t < n → f (5 * t) = 7 → f (5 * t + 2) ≤ n ∧ Nd k f (t + 1) (f (5 * t + 2))
noncomputable def Su (k : Nat) (st sv lo n : Int) (f g : Int → Int) : Prop := (∀ t : Int, lo ≤ t → t < n → Sy st sv t (f (5 * t)) (f (5 * t + 1)) (f (5 * t + 2)) (f (5 * t + 3)) (f (5 * t + 4)) (g (5 * t)) (g (5 * t + 1)) (g (5 * t + 2)) (g (5 * t + 3)) (g (5 * t + 4))) ∧ Nd k f lo n
section SU
variable {f g f2 g2 : Int → Int} {st sv lo n n2 t m : Int} {k kin : Nat}
theorem nd_z : ∀ {k : Nat} {lo n : Int}, n ≤ lo → Nd k f lo n
  | 0, lo, n, h => fun t h1 h2 => absurd h2 (by omega)
  | k + 1, lo, n, h => fun t h1 h2 => absurd h2 (by omega)
theorem nd_up : ∀ {k : Nat} {lo n : Int}, Nd k f lo n → Nd (k + 1) f lo n
  | 0, lo, n, h => fun t h1 h2 h7 => absurd h7 (h t h1 h2)
  | k + 1, lo, n, h => fun t h1 h2 h7 => ⟨(h t h1 h2 h7).1, nd_up (h t h1 h2 h7).2⟩
theorem nd_fr : ∀ {k : Nat} {lo n : Int}, Nd k f lo n → (∀ j : Int, 5 * lo ≤ j → j < 5 * n → f2 j = f j) → Nd k f2 lo n
  | 0, lo, n, h, hf => fun t h1 h2 => by
    rw [hf (5 * t) (by omega) (by omega)]
    exact h t h1 h2
  | k + 1, lo, n, h, hf => fun t h1 h2 h7 => by
    rw [hf (5 * t) (by omega) (by omega)] at h7
    rw [hf (5 * t + 2) (by omega) (by omega)]
    refine hv_ (h t h1 h2 h7) (fun q => ?_)
    exact ⟨q.1, nd_fr q.2 (fun j q1 q2 => hf j (by omega) (by omega))⟩
theorem nd_j : ∀ {k : Nat}, Nd k f lo t → Nd k f t n → t ≤ n → Nd k f lo n
  | 0, h1, h2, hn => fun i q1 q2 => by
    by_cases q : i < t
    · exact h1 i q1 q
    · exact h2 i (by omega) q2
  | k + 1, h1, h2, hn => fun i q1 q2 h7 => by
    by_cases q : i < t
    · refine hv_ (h1 i q1 q h7) (fun z => ?_)
      exact ⟨by omega, z.2⟩
    · exact h2 i (by omega) q2 h7
theorem nd_one : ∀ {k : Nat}, ¬ f (5 * t) = 7 → n = t + 1 → Nd k f t n
  | 0, h, hn => fun i q1 q2 => by
    refine hv_ (p := i = t) (by omega) (fun e => ?_)
    subst e
    exact h
  | k + 1, h, hn => fun i q1 q2 h7 => by
    refine hv_ (p := i = t) (by omega) (fun e => ?_)
    subst e
    exact absurd h7 h
theorem nd_ag (h : Nd kin f (t + 1) n) (hk : k = kin + 1) (he : f (5 * t + 2) = n) : Nd k f t n := by
  subst hk
  intro i q1 q2 h7
  by_cases e : i = t
  · subst e
    rw [he]
    exact ⟨by omega, h⟩
  · exact nd_up h i (by omega) q2 h7
theorem su_z (h : n ≤ lo) : Su k st sv lo n f g := ⟨fun t h1 h2 => absurd h2 (by omega), nd_z h⟩
theorem su_eq (h : Su k st sv lo n f g) (hn : n2 = n) : Su k st sv lo n2 f g := hn.symm ▸ h
theorem su_fr (h : Su k st sv lo n f g) (hf : ∀ j : Int, 5 * lo ≤ j → j < 5 * n → f2 j = f j) (hg : ∀ j : Int, 5 * lo ≤ j → j < 5 * n → g2 j = g j) : Su k st sv lo n f2 g2 := ⟨fun t h1 h2 => by
  rw [hf _ (by omega) (by omega), hf _ (by omega) (by omega), hf _ (by omega) (by omega), hf _ (by omega) (by omega), hf _ (by omega) (by omega), hg _ (by omega) (by omega), hg _ (by omega) (by omega), hg _ (by omega) (by omega), hg _ (by omega) (by omega), hg _ (by omega) (by omega)]
  exact h.1 t h1 h2, nd_fr h.2 hf⟩
theorem su_l (h : Su k st sv lo n f g) (h0 : 0 ≤ lo) (hf : ∀ j : Int, 0 ≤ j → j < 5 * n → f2 j = f j) : Su k st sv lo n f2 g := su_fr h (fun j h1 h2 => hf j (by omega) h2) (fun _ _ _ => rfl)
theorem su_one (h : Sy st sv t (f (5 * t)) (f (5 * t + 1)) (f (5 * t + 2)) (f (5 * t + 3)) (f (5 * t + 4)) (g (5 * t)) (g (5 * t + 1)) (g (5 * t + 2)) (g (5 * t + 3)) (g (5 * t + 4))) (h7 : ¬ f (5 * t) = 7) : Su k st sv t (t + 1) f g := ⟨fun i h1 h2 => by
  refine hv_ (p := i = t) (by omega) (fun e => ?_)
  subst e
  exact h, nd_one h7 rfl⟩
theorem su_ag (h : Sy st sv t (f (5 * t)) (f (5 * t + 1)) (f (5 * t + 2)) (f (5 * t + 3)) (f (5 * t + 4)) (g (5 * t)) (g (5 * t + 1)) (g (5 * t + 2)) (g (5 * t + 3)) (g (5 * t + 4))) (hi : Su kin st sv (t + 1) n f g) (hk : k = kin + 1) (he : f (5 * t + 2) = n) : Su k st sv t n f g := ⟨fun i h1 h2 => by
  by_cases e : i = t
  · subst e
    exact h
  · exact hi.1 i (by omega) h2, nd_ag hi.2 hk he⟩
theorem tn_s {a : Int} (h : a < 6) : (6 - a).toNat = (6 - (a + 1)).toNat + 1 := by omega
theorem su_j (h : Su k st sv lo t f g) (h2 : Su k st sv t n f g) (hn : t ≤ n) : Su k st sv lo n f g := ⟨fun i q1 q2 => by
  by_cases q : i < t
  · exact h.1 i q1 q
  · exact h2.1 i (by omega) q2, nd_j h.2 h2.2 hn⟩
theorem su_ap {c : ME} (h : Su k st sv 0 n f (c 56)) {m : Int} (hm : m = 5 * n) : Ap c 56 0 m := fun i h1 h2 h7 => by
  refine hv_ ((h.1 i (by omega) (by omega)).1) (fun q => ?_)
  unfold Sx at q
  omega
theorem su_cp (h : Su k st sv lo n f g) (hg : ∀ j : Int, 5 * lo ≤ j → j < 5 * n → g2 j = g j) : Su k st sv lo n f g2 := su_fr h (fun _ _ _ => rfl) hg
end SU
/-! a step, by its kind -/
section SY
variable {st sv t a0 a1 a2 a3 a4 b0 b1 b2 b3 b4 : Int}
theorem sy_k (h : Sy st sv t a0 a1 a2 a3 a4 b0 b1 b2 b3 b4) : a0 = b0 ∧ 0 ≤ a0 ∧ a0 ≤ 7 := ⟨h.1.1, h.1.2.1⟩
theorem sy_0 (h : Sy st sv t a0 a1 a2 a3 a4 b0 b1 b2 b3 b4) (e : a0 = 0) : a1 = b1 ∧ a2 = b2 ∧ a1 < st := by
  refine hv_ (h.1) (fun q => ?_)
  unfold Sx at q
  refine hv_ (h.2.1 e) (fun z => ?_)
  omega
theorem sy_1 (h : Sy st sv t a0 a1 a2 a3 a4 b0 b1 b2 b3 b4) (e : a0 = 1) : a1 = b1 ∧ a2 = b2 ∧ a3 = b3 ∧ a4 = b4 ∧ a1 < sv := by
  refine hv_ (h.1) (fun q => ?_)
  unfold Sx at q
  refine hv_ (h.2.2 e) (fun z => ?_)
  omega
theorem sy_2 (h : Sy st sv t a0 a1 a2 a3 a4 b0 b1 b2 b3 b4) (e : a0 = 2) : a1 = b1 ∧ a2 = b2 := by
  refine hv_ (h.1) (fun q => ?_)
  unfold Sx at q
  omega
theorem sy_3 (h : Sy st sv t a0 a1 a2 a3 a4 b0 b1 b2 b3 b4) (e : a0 = 3) : a1 = b1 ∧ a2 = b2 ∧ a3 = b3 ∧ 1 ≤ a3 := by
  refine hv_ (h.1) (fun q => ?_)
  unfold Sx at q
  omega
theorem sy_4 (h : Sy st sv t a0 a1 a2 a3 a4 b0 b1 b2 b3 b4) (e : a0 = 4) : a1 = b1 ∧ a1 < sv := by
  refine hv_ (h.1) (fun q => ?_)
  unfold Sx at q
  omega
theorem sy_5 (h : Sy st sv t a0 a1 a2 a3 a4 b0 b1 b2 b3 b4) (e : a0 = 5) : a1 = b1 := by
  refine hv_ (h.1) (fun q => ?_)
  unfold Sx at q
  omega
theorem sy_7 (h : Sy st sv t a0 a1 a2 a3 a4 b0 b1 b2 b3 b4) (e : a0 = 7) : a1 = b1 ∧ b2 = 5 * a2 ∧ t + 1 ≤ a2 := by
  refine hv_ (h.1) (fun q => ?_)
  unfold Sx at q
  omega
end SY
theorem su_in {f g : Int → Int} {st sv lo n t a be : Int} (h : Su (6 - a).toNat st sv lo n f g) (h0 : 0 ≤ a ∧ a ≤ 6) (h1 : lo ≤ t) (h2 : t < n) (h7 : f (5 * t) = 7) (hb : f (5 * t + 2) = be) : (a ≤ 5 ∧ be ≤ n ∧ t + 1 ≤ be ∧ g (5 * t + 2) = 5 * be ∧ f (5 * t + 1) = g (5 * t + 1) ∧ g (5 * t) = 7) ∧ Su (6 - (a + 1)).toNat st sv (t + 1) be f g := by
  refine hv_ (sy_7 (h.1 t h1 h2) h7) (fun q => ?_)
  refine hv_ (sy_k (h.1 t h1 h2)) (fun k => ?_)
  refine hv_ (h.2) (fun hn => ?_)
  by_cases ha : a ≤ 5
  · refine hv_ (p := (6 - a).toNat = (6 - (a + 1)).toNat + 1) (by omega) (fun e => ?_)
    rw [e] at hn
    refine hv_ (hn t h1 h2 h7) (fun z => ?_)
    rw [hb] at z q
    exact ⟨⟨ha, z.1, by omega, by omega, q.1, by omega⟩, ⟨fun i q1 q2 => h.1 i (by omega) (by omega), z.2⟩⟩
  · refine hv_ (p := (6 - a).toNat = 0) (by omega) (fun e => ?_)
    rw [e] at hn
    exact absurd h7 (hn t h1 h2)
/-! rows kept ahead of each work -/
noncomputable def Wk (nv w : Int) (f g : Int → Int) : Prop := ∀ i : Int, 0 ≤ i → i < w → Sr nv (fun j => f (34 * i + j)) (fun j => g (37 * i + j))
section WK
variable {nv nv2 w w2 : Int} {f g f2 g2 r r2 : Int → Int}
theorem wk_z (h : w ≤ 0) : Wk nv w f g := fun i h1 h2 => absurd h2 (by omega)
theorem wk_le (h : Wk nv w f g) (hw : w2 ≤ w) (hn : nv2 = nv) : Wk nv2 w2 f g := fun i h1 h2 => hn.symm ▸ h i h1 (by omega)
theorem wk_fr (h : Wk nv w f g) (hf : ∀ j : Int, 0 ≤ j → j < 34 * w → f2 j = f j) (hg : ∀ j : Int, 0 ≤ j → j < 37 * w → g2 j = g j) : Wk nv w f2 g2 := fun i h1 h2 => sr_fr (h i h1 h2) (fun j q1 q2 => hf _ (by omega) (by omega)) (fun j q1 q2 => hg _ (by omega) (by omega))
theorem wk_s (h : Wk nv w f g) (h0 : 0 ≤ w) (hw : w2 = w + 1) (hr : Sr nv r r2) (hf : ∀ j : Int, 0 ≤ j → j < 34 → f2 (34 * w + j) = r j) (hf2 : ∀ j : Int, 0 ≤ j → j < 34 * w → f2 j = f j) (hg : ∀ j : Int, 0 ≤ j → j < 37 → g2 (37 * w + j) = r2 j) (hg2 : ∀ j : Int, 0 ≤ j → j < 37 * w → g2 j = g j) : Wk nv w2 f2 g2 := fun i h1 h2 => by
  by_cases e : i = w
  · subst e
    exact sr_fr hr hf hg
  · exact wk_fr h hf2 hg2 i h1 (by omega)
theorem wk_rd (h : Wk nv w f g) (h1 : 0 ≤ w2) (h2 : w2 < w) (hf : ∀ j : Int, 0 ≤ j → j < 34 → r j = f (34 * w2 + j)) (hg : ∀ j : Int, 0 ≤ j → j < 37 → r2 j = g (37 * w2 + j)) : Sr nv r r2 := sr_fr (h w2 h1 h2) hf hg
end WK
theorem wk_or {nv nv2 w w2 : Int} {f g : Int → Int} (h : Wk nv w f g) (hc : w2 ≤ 0 ∨ (w2 ≤ w ∧ nv2 = nv)) : Wk nv2 w2 f g := by
  rcases hc with e | e
  · exact wk_z e
  · exact wk_le h e.1 e.2
/-! images -/
noncomputable def Im (nv n : Int) (q f g : Int → Int) : Prop := ∀ i : Int, 0 ≤ i → i < n → (0 ≤ q i ∧ q i ≤ 16) ∧ Sr nv (fun j => f (578 * i + j)) (fun j => g (630 * i + j)) ∧ Wk nv (q i) (fun j => f (578 * i + 34 + j)) (fun j => g (630 * i + 37 + j))
section IM
variable {nv nv2 n n2 w : Int} {q f g q2 f2 g2 r r2 a b : Int → Int}
theorem im_z (h : n ≤ 0) : Im nv n q f g := fun i h1 h2 => absurd h2 (by omega)
theorem im_le (h : Im nv n q f g) (hn : n2 ≤ n) (hv : nv2 = nv) : Im nv2 n2 q f g := fun i h1 h2 => hv.symm ▸ h i h1 (by omega)
theorem im_or (h : Im nv n q f g) (hc : n2 ≤ 0 ∨ (n2 ≤ n ∧ nv2 = nv)) : Im nv2 n2 q f g := by
  rcases hc with e | e
  · exact im_z e
  · exact im_le h e.1 e.2
theorem im_fr (h : Im nv n q f g) (hq : ∀ j : Int, 0 ≤ j → j < n → q2 j = q j) (hf : ∀ j : Int, 0 ≤ j → j < 578 * n → f2 j = f j) (hg : ∀ j : Int, 0 ≤ j → j < 630 * n → g2 j = g j) : Im nv n q2 f2 g2 := fun i h1 h2 => by
  refine hv_ (h i h1 h2) (fun z => ?_)
  rw [hq i h1 h2]
  refine ⟨z.1, sr_fr z.2.1 (fun j q1 q2 => hf _ (by omega) (by omega)) (fun j q1 q2 => hg _ (by omega) (by omega)), wk_fr z.2.2 (fun j q1 q2 => hf _ (by omega) (by omega)) (fun j q1 q2 => hg _ (by omega) (by omega))⟩
theorem im_s (h : Im nv n q f g) (h0 : 0 ≤ n) (hn : n2 = n + 1) (hw : 0 ≤ w ∧ w ≤ 16) (hr : Sr nv r r2) (hk : Wk nv w a b) (hq : q2 n = w) (hq2 : ∀ j : Int, 0 ≤ j → j < n → q2 j = q j) (hf : ∀ j : Int, 0 ≤ j → j < 34 → f2 (578 * n + j) = r j) (hfa : ∀ j : Int, 0 ≤ j → j < 34 * w → f2 (578 * n + 34 + j) = a j) (hf2 : ∀ j : Int, 0 ≤ j → j < 578 * n → f2 j = f j) (hg : ∀ j : Int, 0 ≤ j → j < 37 → g2 (630 * n + j) = r2 j) (hgb : ∀ j : Int, 0 ≤ j → j < 37 * w → g2 (630 * n + 37 + j) = b j) (hg2 : ∀ j : Int, 0 ≤ j → j < 630 * n → g2 j = g j) : Im nv n2 q2 f2 g2 := fun i h1 h2 => by
  by_cases e : i = n
  · subst e
    rw [hq]
    exact ⟨hw, sr_fr hr hf hg, wk_fr hk hfa hgb⟩
  · exact im_fr h hq2 hf2 hg2 i h1 (by omega)
theorem im_row (h : Im nv n q f g) (h1 : 0 ≤ n2) (h2 : n2 < n) (hf : ∀ j : Int, 0 ≤ j → j < 34 → r j = f (578 * n2 + j)) (hg : ∀ j : Int, 0 ≤ j → j < 37 → r2 j = g (630 * n2 + j)) : Sr nv r r2 := sr_fr (h n2 h1 h2).2.1 hf hg
theorem im_wks (h : Im nv n q f g) (h1 : 0 ≤ n2) (h2 : n2 < n) (hw : w = q n2) (hf : ∀ j : Int, 0 ≤ j → j < 34 * w → r j = f (578 * n2 + 34 + j)) (hg : ∀ j : Int, 0 ≤ j → j < 37 * w → r2 j = g (630 * n2 + 37 + j)) : Wk nv w r r2 := by
  refine hv_ ((h n2 h1 h2).2.2) (fun z => ?_)
  rw [← hw] at z
  exact wk_fr z hf hg
end IM
/-! a mill's row -/
noncomputable def bg (n : Int) (f : Int → Int) (j : Int) : Int := if j < n then f j else 0
theorem bg_1 {n j : Int} {f : Int → Int} (h : j < n) : bg n f j = f j := if_pos h
theorem bg_0 {n j : Int} {f : Int → Int} (h : n ≤ j) : bg n f j = 0 := if_neg (by omega)
theorem sr_bg {nv n n2 : Int} {f g a b : Int → Int} (hn : 0 ≤ n ∧ n ≤ 24) (he : n2 = n) (hf : ∀ j : Int, 0 ≤ j → j < 34 → f j = bg n a j) (hg : ∀ j : Int, 0 ≤ j → j < 37 → g j = bg n2 b j) (hab : Ae n a b) : Sr nv f g := by
  subst he
  refine hv_ (p := ∀ j : Int, 24 ≤ j → j < 37 → g j = 0) (fun j h1 h2 => (hg j (by omega) h2).trans (bg_0 (by omega))) (fun z => ?_)
  refine hv_ (p := ∀ j : Int, 24 ≤ j → j < 34 → f j = 0) (fun j h1 h2 => (hf j (by omega) h2).trans (bg_0 (by omega))) (fun y => ?_)
  refine ⟨fun j h1 h2 => ?_, ?_, fun k h1 h2 => ?_, ?_, ?_, ?_⟩
  · rw [hf j h1 (by omega), hg j h1 (by omega)]
    by_cases q : j < n2
    · rw [bg_1 q, bg_1 q]
      exact hab j h1 q
    · rw [bg_0 (by omega), bg_0 (by omega)]
  · rw [y 30 (by decide) (by decide), z 30 (by decide) (by decide), z 31 (by decide) (by decide), z 32 (by decide) (by decide), z 33 (by decide) (by decide)]
    decide
  · rw [z k (by omega) (by omega)]
    exact ⟨by decide, fun _ => rfl⟩
  · rw [y 31 (by decide) (by decide), z 34 (by decide) (by decide)]
  · rw [y 32 (by decide) (by decide), z 35 (by decide) (by decide)]
  · rw [y 33 (by decide) (by decide), z 36 (by decide) (by decide)]
theorem bg_z {f : Int → Int} {j : Int} (h : 0 ≤ j) : bg 0 f j = 0 := bg_0 h
theorem bg_s {n v : Int} {f g g2 : Int → Int} (h : ∀ j : Int, 0 ≤ j → j < 37 → g j = bg n f j) (hv : g2 n = v) (hv2 : v = f n) (hf : ∀ j : Int, ¬ j = n → g2 j = g j) : ∀ j : Int, 0 ≤ j → j < 37 → g2 j = bg (n + 1) f j := fun j h1 h2 => by
  by_cases e : j = n
  · rw [e, hv, hv2, bg_1 (by omega)]
  · rw [hf j e, h j h1 h2]
    by_cases q : j < n
    · rw [bg_1 q, bg_1 (by omega)]
    · rw [bg_0 (by omega), bg_0 (by omega)]
/-! how fine a jar is -/
noncomputable def fn (a b c d : Int) : Int := if a + b + c + d ≤ 0 then 0 else (1000 * a) / (a + b + c + d)
theorem fn_z {a b c d : Int} (h : a + b + c + d ≤ 0) : fn a b c d = 0 := if_pos h
theorem fn_p {a b c d : Int} (h : ¬ a + b + c + d ≤ 0) : fn a b c d = (1000 * a) / (a + b + c + d) := if_neg h
theorem fn_r (a b c d : Int) (ha : 0 ≤ a) (hb : 0 ≤ b) (hc : 0 ≤ c) (hd : 0 ≤ d) : 0 ≤ fn a b c d ∧ fn a b c d ≤ 1000 := by
  by_cases h : a + b + c + d ≤ 0
  · rw [fn_z h]; decide
  · rw [fn_p h]
    exact ⟨Int.ediv_nonneg (by omega) (by omega), Int.ediv_le_of_le_mul (by omega) (by omega)⟩
theorem gq_10 {x q : Int} (hx : 0 ≤ x) (hq : 0 ≤ q) (h : q ≤ 10) : 0 ≤ (x * q) / 10 ∧ (x * q) / 10 ≤ x := ⟨Int.ediv_nonneg (Int.mul_nonneg hx hq) (by decide), Int.ediv_le_of_le_mul (by decide) (Int.mul_le_mul_of_nonneg_left h hx)⟩
theorem gq_100 {x d : Int} (hx : 0 ≤ x) (hd : 0 ≤ d) (h : d ≤ 50) : 0 ≤ (x * d) / 100 ∧ 2 * ((x * d) / 100) ≤ x := by
  refine hv_ (p := x * d ≤ x * 50) (Int.mul_le_mul_of_nonneg_left h hx) (fun h1 => ?_)
  refine hv_ (Int.mul_nonneg hx hd) (fun h2 => ?_)
  generalize x * d = y at *
  omega
theorem rm_bd {a b : Int} (ha : 0 ≤ a ∧ a ≤ 2147483647) (hb : 1 ≤ b ∧ b ≤ 2147483647) : 0 ≤ rm a b ∧ rm a b < b := by
  unfold rm
  rw [c_rem ⟨ha.1, ha.2, by omega, hb.2⟩]
  refine hv_ (Int.emod_nonneg a (show b ≠ 0 by omega)) (fun h1 => ?_)
  refine hv_ (Int.emod_lt_of_pos a (show 0 < b by omega)) (fun h2 => ?_)
  rw [Int32.toInt_ofInt_of_le (by omega) (by omega)]
  exact ⟨h1, h2⟩
theorem ush_b (x : BitVec 32) : (x >>> 16) &&& 32767#32 = (x.sshiftRight 16) &&& 32767#32 := by
  refine BitVec.eq_of_getLsbD_eq (fun i hi => ?_)
  rw [BitVec.getLsbD_and, BitVec.getLsbD_and]
  by_cases h : i < 15
  · have e : (x >>> 16).getLsbD i = (x.sshiftRight 16).getLsbD i := by
      rw [BitVec.getLsbD_ushiftRight, BitVec.getLsbD_sshiftRight]
      refine hv_ (p := decide (32 ≤ i) = false) (decide_eq_false (by omega)) (fun h1 => ?_)
      refine hv_ (p := 16 + i < 32) (by omega) (fun h2 => ?_)
      rw [h1, if_pos h2]
      rfl
    rw [e]
  · have e : (32767#32).getLsbD i = false := by
      rw [BitVec.getLsbD_ofNat, Nat.testBit_lt_two_pow (Nat.lt_of_lt_of_le (show 32767 < 2 ^ 15 by decide) (Nat.pow_le_pow_right (by decide) (by omega))), Bool.and_false]
    rw [e, Bool.and_false, Bool.and_false]
theorem ush_i (x : Int32) : (x.toUInt32 >>> ((Int32.ofInt 16).toUInt32 &&& Int32.toUInt32 31)).toInt32 &&& Int32.ofInt 32767 = (x >>> (Int32.ofInt 16 &&& 31)) &&& Int32.ofInt 32767 := Int32.toBitVec.inj (ush_b x.toBitVec)
theorem v_ush {sc : List Int32} {d k pc len len2 len3 nc ns : Nat} {ls : AL} {r : List Value} {w : AW} {Z : AR → Prop} {a v : Int} (hd : mLk k pc = some (.iushr, len)) (hd2 : mLk k (pc + 1) = some (.sipush 32767, len2)) (hd3 : mLk k (pc + 1 + 3) = some (.iand, len3)) (h : -2147483648 ≤ a ∧ a ≤ 2147483647) (hv : a / 65536 % 32768 = v) (K : Wp sc d k (pc + 1 + 3 + 1) ls (vi v :: r) w nc ns Z) : Wp sc d k pc ls (vi 16 :: vi a :: r) w nc ns Z := by
  refine q_iushr hd ?_
  refine v_sip hd2 (by decide) ?_
  refine q_iand hd3 ?_
  rw [ush_i, c_shr (b := 16) 16 h rfl (by decide) rfl, c_and15]
  refine hv_ (p := a / ((2 ^ 16 : Nat) : Int) % 32768 = v) (hv) (fun e => ?_)
  rw [e]
  exact K
theorem wr_2 {a : Int} (h : -2147483648 ≤ a ∧ a ≤ 4294967295) : (-2147483648 ≤ wr a ∧ wr a ≤ 2147483647) ∧ (wr a = a ∨ wr a = a - 4294967296) := by
  refine ⟨wr_rng a, ?_⟩
  by_cases h1 : a ≤ 2147483647
  · exact Or.inl (wr_id ⟨h.1, h1⟩)
  · have e : Int32.ofInt a = Int32.ofInt (a - 4294967296) := by
      have e2 : Int32.ofInt ((a - 4294967296) + 4294967296) = Int32.ofInt (a - 4294967296) := by
        rw [Int32.ofInt_add]
        exact (congrArg (fun z => Int32.ofInt (a - 4294967296) + z) (by decide : Int32.ofInt 4294967296 = 0)).trans (Int32.add_zero _)
      rw [← e2]
      exact congrArg Int32.ofInt (by omega)
    refine Or.inr ?_
    refine hv_ (p := wr a = wr (a - 4294967296)) (congrArg Int32.toInt e) (fun e3 => ?_)
    rw [e3]
    exact wr_id ⟨by omega, by omega⟩
theorem wr_3 {a : Int} (h : -4294967295 ≤ a ∧ a ≤ 4294967295) : (-2147483648 ≤ wr a ∧ wr a ≤ 2147483647) ∧ (wr a = a ∨ wr a = a - 4294967296 ∨ wr a = a + 4294967296) := by
  by_cases h1 : -2147483648 ≤ a
  · refine hv_ (wr_2 (a := a) ⟨h1, h.2⟩) (fun h2 => ?_)
    exact ⟨h2.1, h2.2.elim Or.inl (fun z => Or.inr (Or.inl z))⟩
  · have e : wr a = wr (a + 4294967296) := by
      have e2 : Int32.ofInt (a + 4294967296) = Int32.ofInt a := by
        rw [Int32.ofInt_add]
        exact (congrArg (fun z => Int32.ofInt a + z) (by decide : Int32.ofInt 4294967296 = 0)).trans (Int32.add_zero _)
      exact (congrArg Int32.toInt e2).symm
    refine ⟨wr_rng a, Or.inr (Or.inr ?_)⟩
    rw [e]
    exact wr_id ⟨by omega, by omega⟩
/-! the first places are below a bound -/
noncomputable def Lb (n : Int) (f : Int → Int) (b : Int) : Prop := ∀ j : Int, 0 ≤ j → j < n → f j < b
section LB
variable {n n2 i v b b2 : Int} {f f2 : Int → Int}
theorem lb_z (h : n ≤ 0) : Lb n f b := fun j h1 h2 => absurd h2 (by omega)
theorem lb_le (h : Lb n f b) (hn : n2 ≤ n) : Lb n2 f b := fun j h1 h2 => h j h1 (by omega)
theorem lb_leb (h : Lb n f b) (hn : n2 ≤ n) (hb : b ≤ b2) : Lb n2 f b2 := fun j h1 h2 => Int.lt_of_lt_of_le (h j h1 (by omega)) hb
theorem lb_fr (h : Lb n f b) (hf : ∀ j : Int, f2 j = f j) : Lb n f2 b := fun j h1 h2 => by
  rw [hf j]
  exact h j h1 h2
theorem lb_cg (h : Lb n f b) (e : ∀ j : Int, 0 ≤ j → j < n → f2 j = f j) : Lb n f2 b := fun j h1 h2 => by
  rw [e j h1 h2]
  exact h j h1 h2
theorem lb_w (h : Lb n f b) (hn : n2 ≤ n ∨ n2 = n + 1 ∧ i = n) (hv : v < b) (hf : f2 i = v) (hf2 : ∀ j : Int, ¬ j = i → f2 j = f j) : Lb n2 f2 b := fun j h1 h2 => by
  by_cases e : j = i
  · rw [e, hf]
    exact hv
  · rw [hf2 j e]
    exact h j h1 (by omega)
end LB
