/-! ===== numbers and words of the texts, as functions of the bytes ===== -/
noncomputable def cp (x : Int) : Int := if x ≤ 99999 then x else 99999
theorem cp_or (x : Int) : (x ≤ 99999 ∧ cp x = x) ∨ (99999 < x ∧ cp x = 99999) := by
  unfold cp
  by_cases h : x ≤ 99999
  · rw [if_pos h]; exact Or.inl ⟨h, rfl⟩
  · rw [if_neg h]; exact Or.inr ⟨by omega, rfl⟩
noncomputable def dr (b : Int → Int) (e : Int) : Nat → Int → Int → Int × Int
  | 0, a, v => (a, v)
  | n + 1, a, v => if a < e ∧ 48 ≤ b a ∧ b a ≤ 57 then dr b e n (a + 1) (cp (10 * v + b a - 48)) else (a, v)
noncomputable def dg (b : Int → Int) (e a v : Int) : Int × Int := dr b e (e - a).toNat a v
theorem dg_s {b : Int → Int} {e a v : Int} (h : a < e ∧ 48 ≤ b a ∧ b a ≤ 57) : dg b e a v = dg b e (a + 1) (cp (10 * v + b a - 48)) := by
  unfold dg
  obtain ⟨n, hn⟩ : ∃ n : Nat, (e - a).toNat = n + 1 := ⟨(e - a).toNat - 1, by omega⟩
  rw [hn, show (e - (a + 1)).toNat = n by omega]
  show (if a < e ∧ 48 ≤ b a ∧ b a ≤ 57 then dr b e n (a + 1) (cp (10 * v + b a - 48)) else (a, v)) = _
  rw [if_pos h]
theorem dg_z {b : Int → Int} {e a v : Int} (h : e ≤ a ∨ b a < 48 ∨ 57 < b a) : dg b e a v = (a, v) := by
  unfold dg
  cases hn : (e - a).toNat with
  | zero => rfl
  | succ n =>
    show (if a < e ∧ 48 ≤ b a ∧ b a ≤ 57 then dr b e n (a + 1) (cp (10 * v + b a - 48)) else (a, v)) = (a, v)
    rw [if_neg (fun q => by omega)]
theorem dr_bd {b : Int → Int} {e : Int} : ∀ (n : Nat) (a v : Int), 0 ≤ v ∧ v ≤ 99999 → (a ≤ (dr b e n a v).1 ∧ ((dr b e n a v).1 ≤ e ∨ (dr b e n a v).1 = a)) ∧ 0 ≤ (dr b e n a v).2 ∧ (dr b e n a v).2 ≤ 99999
  | 0, a, v, h => ⟨⟨Int.le_refl a, Or.inr rfl⟩, h⟩
  | n + 1, a, v, h => by
    show (a ≤ (if a < e ∧ 48 ≤ b a ∧ b a ≤ 57 then dr b e n (a + 1) (cp (10 * v + b a - 48)) else (a, v)).1 ∧ ((if a < e ∧ 48 ≤ b a ∧ b a ≤ 57 then dr b e n (a + 1) (cp (10 * v + b a - 48)) else (a, v)).1 ≤ e ∨ (if a < e ∧ 48 ≤ b a ∧ b a ≤ 57 then dr b e n (a + 1) (cp (10 * v + b a - 48)) else (a, v)).1 = a)) ∧ 0 ≤ (if a < e ∧ 48 ≤ b a ∧ b a ≤ 57 then dr b e n (a + 1) (cp (10 * v + b a - 48)) else (a, v)).2 ∧ (if a < e ∧ 48 ≤ b a ∧ b a ≤ 57 then dr b e n (a + 1) (cp (10 * v + b a - 48)) else (a, v)).2 ≤ 99999
    by_cases q : a < e ∧ 48 ≤ b a ∧ b a ≤ 57
    · rw [if_pos q]
      refine hv_ (cp_or (10 * v + b a - 48)) (fun hc => ?_)
      refine hv_ (dr_bd (b := b) (e := e) n (a + 1) (cp (10 * v + b a - 48)) (by omega)) (fun ih => ?_)
      omega
    · rw [if_neg q]
      exact ⟨⟨Int.le_refl a, Or.inr rfl⟩, h⟩
theorem dg_bd {b : Int → Int} {e a v : Int} (h : 0 ≤ v ∧ v ≤ 99999) : (a ≤ (dg b e a v).1 ∧ ((dg b e a v).1 ≤ e ∨ (dg b e a v).1 = a)) ∧ 0 ≤ (dg b e a v).2 ∧ (dg b e a v).2 ≤ 99999 := dr_bd _ a v h
theorem dg_p {b : Int → Int} {e a v : Int} (h : 0 ≤ v ∧ v ≤ 99999) : e ≤ a ∨ b a < 48 ∨ 57 < b a ∨ a + 1 ≤ (dg b e a v).1 := by
  by_cases q : a < e ∧ 48 ≤ b a ∧ b a ≤ 57
  · refine hv_ (cp_or (10 * v + b a - 48)) (fun hc => ?_)
    have := (dg_bd (b := b) (e := e) (a := a + 1) (v := cp (10 * v + b a - 48)) (by omega)).1.1
    rw [← dg_s q] at this
    exact Or.inr (Or.inr (Or.inr this))
  · omega
/-- letters are passed -/
noncomputable def lr (b : Int → Int) (e : Int) : Nat → Int → Int
  | 0, a => a
  | n + 1, a => if a < e ∧ 97 ≤ b a ∧ b a ≤ 122 then lr b e n (a + 1) else a
noncomputable def ln (b : Int → Int) (e a : Int) : Int := lr b e (e - a).toNat a
theorem ln_s {b : Int → Int} {e a : Int} (h : a < e ∧ 97 ≤ b a ∧ b a ≤ 122) : ln b e a = ln b e (a + 1) := by
  unfold ln
  obtain ⟨n, hn⟩ : ∃ n : Nat, (e - a).toNat = n + 1 := ⟨(e - a).toNat - 1, by omega⟩
  rw [hn, show (e - (a + 1)).toNat = n by omega]
  show (if a < e ∧ 97 ≤ b a ∧ b a ≤ 122 then lr b e n (a + 1) else a) = _
  rw [if_pos h]
theorem ln_z {b : Int → Int} {e a : Int} (h : e ≤ a ∨ b a < 97 ∨ 122 < b a) : ln b e a = a := by
  unfold ln
  cases hn : (e - a).toNat with
  | zero => rfl
  | succ n =>
    show (if a < e ∧ 97 ≤ b a ∧ b a ≤ 122 then lr b e n (a + 1) else a) = a
    rw [if_neg (fun q => by omega)]
theorem lr_bd {b : Int → Int} {e : Int} : ∀ (n : Nat) (a : Int), a ≤ lr b e n a ∧ (lr b e n a ≤ e ∨ lr b e n a = a)
  | 0, a => ⟨Int.le_refl a, Or.inr rfl⟩
  | n + 1, a => by
    show a ≤ (if a < e ∧ 97 ≤ b a ∧ b a ≤ 122 then lr b e n (a + 1) else a) ∧ ((if a < e ∧ 97 ≤ b a ∧ b a ≤ 122 then lr b e n (a + 1) else a) ≤ e ∨ (if a < e ∧ 97 ≤ b a ∧ b a ≤ 122 then lr b e n (a + 1) else a) = a)
    by_cases h : a < e ∧ 97 ≤ b a ∧ b a ≤ 122
    · rw [if_pos h]
      refine hv_ (lr_bd (b := b) (e := e) n (a + 1)) (fun ih => ?_)
      omega
    · rw [if_neg h]
      exact ⟨Int.le_refl a, Or.inr rfl⟩
theorem ln_bd {b : Int → Int} {e a : Int} : a ≤ ln b e a ∧ (ln b e a ≤ e ∨ ln b e a = a) := lr_bd _ _
theorem ln_be {b : Int → Int} {e a : Int} (h : a ≤ e) : a ≤ ln b e a ∧ ln b e a ≤ e := ⟨ln_bd.1, ln_bd.2.elim id (fun z => by rw [z]; exact h)⟩
theorem lr_in {b : Int → Int} {e : Int} : ∀ (n : Nat) (a j : Int), a ≤ j → j < lr b e n a → 97 ≤ b j ∧ b j ≤ 122 ∧ j < e
  | 0, a, j, h1, h2 => by
    refine hv_ (p := j < a) (h2) (fun h3 => ?_)
    omega
  | n + 1, a, j, h1, h2 => by
    refine hv_ (p := j < (if a < e ∧ 97 ≤ b a ∧ b a ≤ 122 then lr b e n (a + 1) else a)) (h2) (fun h3 => ?_)
    by_cases h : a < e ∧ 97 ≤ b a ∧ b a ≤ 122
    · rw [if_pos h] at h3
      by_cases q : j = a
      · subst q; omega
      · exact lr_in n (a + 1) j (by omega) h3
    · rw [if_neg h] at h3
      omega
theorem ln_in {b : Int → Int} {e a j : Int} (h1 : a ≤ j) (h2 : j < ln b e a) : 97 ≤ b j ∧ b j ≤ 122 ∧ j < e := lr_in _ a j h1 h2
theorem lr_n {b : Int → Int} {e : Int} : ∀ (n : Nat) (a : Int), e - a ≤ (n : Int) → (e ≤ lr b e n a ∨ b (lr b e n a) < 97 ∨ 122 < b (lr b e n a))
  | 0, a, h => Or.inl (show e ≤ a by omega)
  | n + 1, a, h => by
    show e ≤ (if a < e ∧ 97 ≤ b a ∧ b a ≤ 122 then lr b e n (a + 1) else a) ∨ b (if a < e ∧ 97 ≤ b a ∧ b a ≤ 122 then lr b e n (a + 1) else a) < 97 ∨ 122 < b (if a < e ∧ 97 ≤ b a ∧ b a ≤ 122 then lr b e n (a + 1) else a)
    by_cases q : a < e ∧ 97 ≤ b a ∧ b a ≤ 122
    · rw [if_pos q]
      exact lr_n n (a + 1) (by omega)
    · rw [if_neg q]
      omega
theorem ln_n {b : Int → Int} {e a : Int} : e ≤ ln b e a ∨ b (ln b e a) < 97 ∨ 122 < b (ln b e a) := lr_n _ _ (by omega)
/-- what is told by unsigned bytes is told by signed ones -/
noncomputable def Ub (f g : Int → Int) : Prop := ∀ j : Int, 0 ≤ j → j < 600 → g j = f j % 256 ∧ -128 ≤ f j ∧ f j ≤ 127
theorem nx_tr {f g : Int → Int} {e a : Int} (h : Ub f g) (ha : 0 ≤ a) (he : e ≤ 600) : nx g e a = nx f e a := by
  have key : ∀ (n : Nat) (a : Int), 0 ≤ a → sk g e n a = sk f e n a := by
    intro n
    induction n with
    | zero => intro a _; rfl
    | succ n ih =>
      intro a ha
      show (if a < e ∧ g a = 32 then sk g e n (a + 1) else a) = (if a < e ∧ f a = 32 then sk f e n (a + 1) else a)
      by_cases q : a < e
      · refine hv_ (h a ha (by omega)) (fun hb => ?_)
        by_cases r : f a = 32
        · rw [if_pos ⟨q, by omega⟩, if_pos ⟨q, r⟩]
          exact ih (a + 1) (by omega)
        · rw [if_neg (fun z => r (by omega)), if_neg (fun z => r z.2)]
      · rw [if_neg (fun z => q z.1), if_neg (fun z => q z.1)]
  exact key _ a ha
theorem dg_tr {f g : Int → Int} {e a v : Int} (h : Ub f g) (ha : 0 ≤ a) (he : e ≤ 600) : dg g e a v = dg f e a v := by
  have key : ∀ (n : Nat) (a v : Int), 0 ≤ a → dr g e n a v = dr f e n a v := by
    intro n
    induction n with
    | zero => intro a v _; rfl
    | succ n ih =>
      intro a v ha
      show (if a < e ∧ 48 ≤ g a ∧ g a ≤ 57 then dr g e n (a + 1) (cp (10 * v + g a - 48)) else (a, v)) = (if a < e ∧ 48 ≤ f a ∧ f a ≤ 57 then dr f e n (a + 1) (cp (10 * v + f a - 48)) else (a, v))
      by_cases q : a < e
      · refine hv_ (h a ha (by omega)) (fun hb => ?_)
        by_cases r : 48 ≤ f a ∧ f a ≤ 57
        · rw [if_pos ⟨q, by omega⟩, if_pos ⟨q, r⟩, show g a = f a by omega]
          exact ih (a + 1) _ (by omega)
        · rw [if_neg (fun z => r (by omega)), if_neg (fun z => r z.2)]
      · rw [if_neg (fun z => q z.1), if_neg (fun z => q z.1)]
  exact key _ a v ha
theorem ln_tr {f g : Int → Int} {e a : Int} (h : Ub f g) (ha : 0 ≤ a) (he : e ≤ 600) : ln g e a = ln f e a := by
  have key : ∀ (n : Nat) (a : Int), 0 ≤ a → lr g e n a = lr f e n a := by
    intro n
    induction n with
    | zero => intro a _; rfl
    | succ n ih =>
      intro a ha
      show (if a < e ∧ 97 ≤ g a ∧ g a ≤ 122 then lr g e n (a + 1) else a) = (if a < e ∧ 97 ≤ f a ∧ f a ≤ 122 then lr f e n (a + 1) else a)
      by_cases q : a < e
      · refine hv_ (h a ha (by omega)) (fun hb => ?_)
        by_cases r : 97 ≤ f a ∧ f a ≤ 122
        · rw [if_pos ⟨q, by omega⟩, if_pos ⟨q, r⟩]
          exact ih (a + 1) (by omega)
        · rw [if_neg (fun z => r (by omega)), if_neg (fun z => r z.2)]
      · rw [if_neg (fun z => q z.1), if_neg (fun z => q z.1)]
  exact key _ a ha
theorem c_shl5 (a : Int) : Int32.ofInt a <<< (Int32.ofInt 5 &&& 31) = Int32.ofInt (32 * a) := by
  refine Int32.toBitVec_inj.mp (BitVec.eq_of_toNat_eq ?_)
  rw [Int32.toBitVec_shiftLeft, BitVec.shiftLeft_eq', show ((Int32.ofInt 5 &&& 31).toBitVec.smod 32).toNat = 5 from by decide, BitVec.toNat_shiftLeft, Nat.shiftLeft_eq]
  show (BitVec.ofInt 32 a).toNat * 2 ^ 5 % 2 ^ 32 = (BitVec.ofInt 32 (32 * a)).toNat
  rw [BitVec.toNat_ofInt, BitVec.toNat_ofInt]
  omega
theorem c_or5 {m b : Int} (h : 0 ≤ m ∧ m < 33554432 ∧ 0 ≤ b ∧ b < 32) : Int32.ofInt (32 * m) ||| Int32.ofInt b = Int32.ofInt (32 * m + b) := by
  refine Int32.toBitVec_inj.mp (BitVec.eq_of_toNat_eq ?_)
  rw [Int32.toBitVec_or, BitVec.toNat_or]
  show (BitVec.ofInt 32 (32 * m)).toNat ||| (BitVec.ofInt 32 b).toNat = (BitVec.ofInt 32 (32 * m + b)).toNat
  refine hv_ (p := (BitVec.ofInt 32 (32 * m)).toNat = 2 ^ 5 * m.toNat) (by rw [BitVec.toNat_ofInt]; omega) (fun e1 => ?_)
  refine hv_ (p := (BitVec.ofInt 32 b).toNat = b.toNat) (by rw [BitVec.toNat_ofInt]; omega) (fun e2 => ?_)
  refine hv_ (p := (BitVec.ofInt 32 (32 * m + b)).toNat = 2 ^ 5 * m.toNat + b.toNat) (by rw [BitVec.toNat_ofInt]; omega) (fun e3 => ?_)
  rw [e1, e2, e3]
  exact (Nat.two_pow_add_eq_or_of_lt (show b.toNat < 2 ^ 5 by omega) m.toNat).symm
section TX9
variable {sc : List Int32} {d k pc len nc ns : Nat} {ls : AL} {st r : List Value} {Z : AR → Prop} {w : AW}
theorem v_shl5 {a v : Int} (hd : mLk k pc = some (.ishl, len)) (hv : 32 * a = v) (K : Wp sc d k (pc + 1) ls (vi v :: r) w nc ns Z) : Wp sc d k pc ls (vi 5 :: vi a :: r) w nc ns Z := q_ishl hd (by rw [c_shl5, hv]; exact K)
theorem v_or5 {a m b v : Int} (hd : mLk k pc = some (.ior, len)) (ha : a = 32 * m) (h : 0 ≤ m ∧ m < 33554432 ∧ 0 ≤ b ∧ b < 32) (hv : a + b = v) (K : Wp sc d k (pc + 1) ls (vi v :: r) w nc ns Z) : Wp sc d k pc ls (vi b :: vi a :: r) w nc ns Z := q_ior hd (by
  subst ha
  rw [c_or5 h, hv]
  exact K)
end TX9
