section
/-! ===== numbers and words of the texts, as functions of the bytes ===== -/
noncomputable def cp (x : Int) : Int := if x ≤ 99999 then x else 99999
theorem cp_or (x : Int) : (x ≤ 99999 ∧ cp x = x) ∨ (99999 < x ∧ cp x = 99999) := by
  unfold cp
  by_cases h : x ≤ 99999
  · rw [if_pos h]; exact Or.inl ⟨h, rfl⟩
  · rw [if_neg h]; exact Or.inr ⟨by omega, rfl⟩
noncomputable def dr (b : Int → Int) (e : Int) : Nat → Int → Int → Int × Int
  | 0, a, v => (a, v)
  | n + 1, a, v => if a < e ∧ 48 ≤ b a ∧ b a ≤ 57 then dr b e n (a + 1) (cp (10 * v + b a - 48)) else (a, v)
noncomputable def dg (b : Int → Int) (e a v : Int) : Int × Int := dr b e (e - a).toNat a v
theorem dg_s {b : Int → Int} {e a v : Int} (h : a < e ∧ 48 ≤ b a ∧ b a ≤ 57) : dg b e a v = dg b e (a + 1) (cp (10 * v + b a - 48)) := by
  unfold dg
  obtain ⟨n, hn⟩ : ∃ n : Nat, (e - a).toNat = n + 1 := ⟨(e - a).toNat - 1, by omega⟩
  rw [hn, show (e - (a + 1)).toNat = n by omega]
  show (if a < e ∧ 48 ≤ b a ∧ b a ≤ 57 then dr b e n (a + 1) (cp (10 * v + b a - 48)) else (a, v)) = _
  rw [if_pos h]
theorem dg_z {b : Int → Int} {e a v : Int} (h : e ≤ a ∨ b a < 48 ∨ 57 < b a) : dg b e a v = (a, v) := by
  unfold dg
  cases hn : (e - a).toNat with
  | zero => rfl
  | succ n =>
    show (if a < e ∧ 48 ≤ b a ∧ b a ≤ 57 then dr b e n (a + 1) (cp (10 * v + b a - 48)) else (a, v)) = (a, v)
    rw [if_neg (fun q => by omega)]
theorem dr_bd {b : Int → Int} {e : Int} : ∀ (n : Nat) (a v : Int), 0 ≤ v ∧ v ≤ 99999 → (a ≤ (dr b e n a v).1 ∧ ((dr b e n a v).1 ≤ e ∨ (dr b e n a v).1 = a)) ∧ 0 ≤ (dr b e n a v).2 ∧ (dr b e n a v).2 ≤ 99999
  | 0, a, v, h => ⟨⟨Int.le_refl a, Or.inr rfl⟩, h⟩
  | n + 1, a, v, h => by
    show (a ≤ (if a < e ∧ 48 ≤ b a ∧ b a ≤ 57 then dr b e n (a + 1) (cp (10 * v + b a - 48)) else (a, v)).1 ∧ ((if a < e ∧ 48 ≤ b a ∧ b a ≤ 57 then dr b e n (a + 1) (cp (10 * v + b a - 48)) else (a, v)).1 ≤ e ∨ (if a < e ∧ 48 ≤ b a ∧ b a ≤ 57 then dr b e n (a + 1) (cp (10 * v + b a - 48)) else (a, v)).1 = a)) ∧ 0 ≤ (if a < e ∧ 48 ≤ b a ∧ b a ≤ 57 then dr b e n (a + 1) (cp (10 * v + b a - 48)) else (a, v)).2 ∧ (if a < e ∧ 48 ≤ b a ∧ b a ≤ 57 then dr b e n (a + 1) (cp (10 * v + b a - 48)) else (a, v)).2 ≤ 99999
    by_cases q : a < e ∧ 48 ≤ b a ∧ b a ≤ 57
    · rw [if_pos q]
      refine hv_ (cp_or (10 * v + b a - 48)) (fun hc => ?_)
      refine hv_ (dr_bd (b := b) (e := e) n (a + 1) (cp (10 * v + b a - 48)) (by omega)) (fun ih => ?_)
      omega
    · rw [if_neg q]
      exact ⟨⟨Int.le_refl a, Or.inr rfl⟩, h⟩
theorem dg_bd {b : Int → Int} {e a v : Int} (h : 0 ≤ v ∧ v ≤ 99999) : (a ≤ (dg b e a v).1 ∧ ((dg b e a v).1 ≤ e ∨ (dg b e a v).1 = a)) ∧ 0 ≤ (dg b e a v).2 ∧ (dg b e a v).2 ≤ 99999 := dr_bd _ a v h
theorem dg_p {b : Int → Int} {e a v : Int} (h : 0 ≤ v ∧ v ≤ 99999) : e ≤ a ∨ b a < 48 ∨ 57 < b a ∨ a + 1 ≤ (dg b e a v).1 := by
  by_cases q : a < e ∧ 48 ≤ b a ∧ b a ≤ 57
  · refine hv_ (cp_or (10 * v + b a - 48)) (fun hc => ?_)
    have := (dg_bd (b := b) (e := e) (a := a + 1) (v := cp (10 * v + b a - 48)) (by omega)).1.1
    rw [← dg_s q] at this
    exact Or.inr (Or.inr (Or.inr this))
  · omega
/-- letters are passed -/
noncomputable def lr (b : Int → Int) (e : Int) : Nat → Int → Int
  | 0, a => a
  | n + 1, a => if a < e ∧ 97 ≤ b a ∧ b a ≤ 122 then lr b e n (a + 1) else a
noncomputable def ln (b : Int → Int) (e a : Int) : Int := lr b e (e - a).toNat a
theorem ln_s {b : Int → Int} {e a : Int} (h : a < e ∧ 97 ≤ b a ∧ b a ≤ 122) : ln b e a = ln b e (a + 1) := by
  unfold ln
  obtain ⟨n, hn⟩ : ∃ n : Nat, (e - a).toNat = n + 1 := ⟨(e - a).toNat - 1, by omega⟩
  rw [hn, show (e - (a + 1)).toNat = n by omega]
  show (if a < e ∧ 97 ≤ b a ∧ b a ≤ 122 then lr b e n (a + 1) else a) = _
  rw [if_pos h]
theorem ln_z {b : Int → Int} {e a : Int} (h : e ≤ a ∨ b a < 97 ∨ 122 < b a) : ln b e a = a := by
  unfold ln
  cases hn : (e - a).toNat with
  | zero => rfl
  | succ n =>
    show (if a < e ∧ 97 ≤ b a ∧ b a ≤ 122 then lr b e n (a + 1) else a) = a
    rw [if_neg (fun q => by omega)]
theorem lr_bd {b : Int → Int} {e : Int} : ∀ (n : Nat) (a : Int), a ≤ lr b e n a ∧ (lr b e n a ≤ e ∨ lr b e n a = a)
  | 0, a => ⟨Int.le_refl a, Or.inr rfl⟩
  | n + 1, a => by
    show a ≤ (if a < e ∧ 97 ≤ b a ∧ b a ≤ 122 then lr b e n (a + 1) else a) ∧ ((if a < e ∧ 97 ≤ b a ∧ b a ≤ 122 then lr b e n (a + 1) else a) ≤ e ∨ (if a < e ∧ 97 ≤ b a ∧ b a ≤ 122 then lr b e n (a + 1) else a) = a)
    by_cases h : a < e ∧ 97 ≤ b a ∧ b a ≤ 122
    · rw [if_pos h]
      refine hv_ (lr_bd (b := b) (e := e) n (a + 1)) (fun ih => ?_)
      omega
    · rw [if_neg h]
      exact ⟨Int.le_refl a, Or.inr rfl⟩
theorem ln_bd {b : Int → Int} {e a : Int} : a ≤ ln b e a ∧ (ln b e a ≤ e ∨ ln b e a = a) := lr_bd _ _
theorem ln_be {b : Int → Int} {e a : Int} (h : a ≤ e) : a ≤ ln b e a ∧ ln b e a ≤ e := ⟨ln_bd.1, ln_bd.2.elim id (fun z => by rw [z]; exact h)⟩
theorem lr_in {b : Int → Int} {e : Int} : ∀ (n : Nat) (a j : Int), a ≤ j → j < lr b e n a → 97 ≤ b j ∧ b j ≤ 122 ∧ j < e
  | 0, a, j, h1, h2 => by
    refine hv_ (p := j < a) (h2) (fun h3 => ?_)
    omega
  | n + 1, a, j, h1, h2 => by
    refine hv_ (p := j < (if a < e ∧ 97 ≤ b a ∧ b a ≤ 122 then lr b e n (a + 1) else a)) (h2) (fun h3 => ?_)
    by_cases h : a < e ∧ 97 ≤ b a ∧ b a ≤ 122
    · rw [if_pos h] at h3
      by_cases q : j = a
      · subst q; omega
      · exact lr_in n (a + 1) j (by omega) h3
    · rw [if_neg h] at h3
      omega
theorem ln_in {b : Int → Int} {e a j : Int} (h1 : a ≤ j) (h2 : j < ln b e a) : 97 ≤ b j ∧ b j ≤ 122 ∧ j < e := lr_in _ a j h1 h2
theorem lr_n {b : Int → Int} {e : Int} : ∀ (n : Nat) (a : Int), e - a ≤ (n : Int) → (e ≤ lr b e n a ∨ b (lr b e n a) < 97 ∨ 122 < b (lr b e n a))
  | 0, a, h => Or.inl (show e ≤ a by omega)
  | n + 1, a, h => by
    show e ≤ (if a < e ∧ 97 ≤ b a ∧ b a ≤ 122 then lr b e n (a + 1) else a) ∨ b (if a < e ∧ 97 ≤ b a ∧ b a ≤ 122 then lr b e n (a + 1) else a) < 97 ∨ 122 < b (if a < e ∧ 97 ≤ b a ∧ b a ≤ 122 then lr b e n (a + 1) else a)
    by_cases q : a < e ∧ 97 ≤ b a ∧ b a ≤ 122
    · rw [if_pos q]
      exact lr_n n (a + 1) (by omega)
    · rw [if_neg q]
      omega
theorem ln_n {b : Int → Int} {e a : Int} : e ≤ ln b e a ∨ b (ln b e a) < 97 ∨ 122 < b (ln b e a) := lr_n _ _ (by omega)
/-- what is told by unsigned bytes is told by signed ones -/
noncomputable def Ub (f g : Int → Int) : Prop := ∀ j : Int, 0 ≤ j → j < 600 → g j = f j % 256 ∧ -128 ≤ f j ∧ f j ≤ 127
theorem nx_tr {f g : Int → Int} {e a : Int} (h : Ub f g) (ha : 0 ≤ a) (he : e ≤ 600) : nx g e a = nx f e a := by
  have key : ∀ (n : Nat) (a : Int), 0 ≤ a → sk g e n a = sk f e n a := by
    intro n
    induction n with
    | zero => intro a _; rfl
    | succ n ih =>
      intro a ha
      show (if a < e ∧ g a = 32 then sk g e n (a + 1) else a) = (if a < e ∧ f a = 32 then sk f e n (a + 1) else a)
      by_cases q : a < e
      · refine hv_ (h a ha (by omega)) (fun hb => ?_)
        by_cases r : f a = 32
        · rw [if_pos ⟨q, by omega⟩, if_pos ⟨q, r⟩]
          exact ih (a + 1) (by omega)
        · rw [if_neg (fun z => r (by omega)), if_neg (fun z => r z.2)]
      · rw [if_neg (fun z => q z.1), if_neg (fun z => q z.1)]
  exact key _ a ha
theorem dg_tr {f g : Int → Int} {e a v : Int} (h : Ub f g) (ha : 0 ≤ a) (he : e ≤ 600) : dg g e a v = dg f e a v := by
  have key : ∀ (n : Nat) (a v : Int), 0 ≤ a → dr g e n a v = dr f e n a v := by
    intro n
    induction n with
    | zero => intro a v _; rfl
    | succ n ih =>
      intro a v ha
      show (if a < e ∧ 48 ≤ g a ∧ g a ≤ 57 then dr g e n (a + 1) (cp (10 * v + g a - 48)) else (a, v)) = (if a < e ∧ 48 ≤ f a ∧ f a ≤ 57 then dr f e n (a + 1) (cp (10 * v + f a - 48)) else (a, v))
      by_cases q : a < e
      · refine hv_ (h a ha (by omega)) (fun hb => ?_)
        by_cases r : 48 ≤ f a ∧ f a ≤ 57
        · rw [if_pos ⟨q, by omega⟩, if_pos ⟨q, r⟩, show g a = f a by omega]
          exact ih (a + 1) _ (by omega)
        · rw [if_neg (fun z => r (by omega)), if_neg (fun z => r z.2)]
      · rw [if_neg (fun z => q z.1), if_neg (fun z => q z.1)]
  exact key _ a v ha
theorem ln_tr {f g : Int → Int} {e a : Int} (h : Ub f g) (ha : 0 ≤ a) (he : e ≤ 600) : ln g e a = ln f e a := by
  have key : ∀ (n : Nat) (a : Int), 0 ≤ a → lr g e n a = lr f e n a := by
    intro n
    induction n with
    | zero => intro a _; rfl
    | succ n ih =>
      intro a ha
      show (if a < e ∧ 97 ≤ g a ∧ g a ≤ 122 then lr g e n (a + 1) else a) = (if a < e ∧ 97 ≤ f a ∧ f a ≤ 122 then lr f e n (a + 1) else a)
      by_cases q : a < e
      · refine hv_ (h a ha (by omega)) (fun hb => ?_)
        by_cases r : 97 ≤ f a ∧ f a ≤ 122
        · rw [if_pos ⟨q, by omega⟩, if_pos ⟨q, r⟩]
          exact ih (a + 1) (by omega)
        · rw [if_neg (fun z => r (by omega)), if_neg (fun z => r z.2)]
      · rw [if_neg (fun z => q z.1), if_neg (fun z => q z.1)]
  exact key _ a ha
theorem c_shl5 (a : Int) : Int32.ofInt a <<< (Int32.ofInt 5 &&& 31) = Int32.ofInt (32 * a) := by
  refine Int32.toBitVec_inj.mp (BitVec.eq_of_toNat_eq ?_)
  rw [Int32.toBitVec_shiftLeft, BitVec.shiftLeft_eq', show ((Int32.ofInt 5 &&& 31).toBitVec.smod 32).toNat = 5 from by decide, BitVec.toNat_shiftLeft, Nat.shiftLeft_eq]
  show (BitVec.ofInt 32 a).toNat * 2 ^ 5 % 2 ^ 32 = (BitVec.ofInt 32 (32 * a)).toNat
  rw [BitVec.toNat_ofInt, BitVec.toNat_ofInt]
  omega
theorem c_or5 {m b : Int} (h : 0 ≤ m ∧ m < 33554432 ∧ 0 ≤ b ∧ b < 32) : Int32.ofInt (32 * m) ||| Int32.ofInt b = Int32.ofInt (32 * m + b) := by
  refine Int32.toBitVec_inj.mp (BitVec.eq_of_toNat_eq ?_)
  rw [Int32.toBitVec_or, BitVec.toNat_or]
  show (BitVec.ofInt 32 (32 * m)).toNat ||| (BitVec.ofInt 32 b).toNat = (BitVec.ofInt 32 (32 * m + b)).toNat
  refine hv_ (p := (BitVec.ofInt 32 (32 * m)).toNat = 2 ^ 5 * m.toNat) (by rw [BitVec.toNat_ofInt]; omega) (fun e1 => ?_)
  refine hv_ (p := (BitVec.ofInt 32 b).toNat = b.toNat) (by rw [BitVec.toNat_ofInt]; omega) (fun e2 => ?_)
  refine hv_ (p := (BitVec.ofInt 32 (32 * m + b)).toNat = 2 ^ 5 * m.toNat + b.toNat) (by rw [BitVec.toNat_ofInt]; omega) (fun e3 => ?_)
  rw [e1, e2, e3]
  exact (Nat.two_pow_add_eq_or_of_lt (show b.toNat < 2 ^ 5 by omega) m.toNat).symm
section TX9
variable {sc : List Int32} {d k pc len nc ns : Nat} {ls : AL} {st r : List Value} {Z : AR → Prop} {w : AW}
theorem v_shl5 {a v : Int} (hd : mLk k pc = some (.ishl, len)) (hv : 32 * a = v) (K : Wp sc d k (pc + 1) ls (vi v :: r) w nc ns Z) : Wp sc d k pc ls (vi 5 :: vi a :: r) w nc ns Z := q_ishl hd (by rw [c_shl5, hv]; exact K)
theorem v_or5 {a m b v : Int} (hd : mLk k pc = some (.ior, len)) (ha : a = 32 * m) (h : 0 ≤ m ∧ m < 33554432 ∧ 0 ≤ b ∧ b < 32) (hv : a + b = v) (K : Wp sc d k (pc + 1) ls (vi v :: r) w nc ns Z) : Wp sc d k pc ls (vi b :: vi a :: r) w nc ns Z := q_ior hd (by
  subst ha
  rw [c_or5 h, hv]
  exact K)
end TX9
end
section
/-! ===== words ===== -/
noncomputable def pv (b : Int → Int) (r : Int) : Nat → Int
  | 0 => 0
  | n + 1 => 32 * pv b r n + (b (r + (n : Int)) - 96)
noncomputable def wv (b : Int → Int) (r l : Int) : Int := if l - r ≤ 6 then pv b r (l - r).toNat else 0
theorem pv_bd {b : Int → Int} {r : Int} : ∀ n : Nat, (∀ j : Int, r ≤ j → j < r + (n : Int) → 97 ≤ b j ∧ b j ≤ 122) → 0 ≤ pv b r n ∧ (n ≤ 1 → pv b r n < 32) ∧ (n ≤ 2 → pv b r n < 1024) ∧ (n ≤ 3 → pv b r n < 32768) ∧ (n ≤ 4 → pv b r n < 1048576) ∧ (n ≤ 5 → pv b r n < 33554432) ∧ (n ≤ 6 → pv b r n < 1073741824)
  | 0, _ => by
    show (0 : Int) ≤ 0 ∧ _
    exact ⟨by decide, fun _ => by show (0 : Int) < 32; decide, fun _ => by show (0 : Int) < 1024; decide, fun _ => by show (0 : Int) < 32768; decide, fun _ => by show (0 : Int) < 1048576; decide, fun _ => by show (0 : Int) < 33554432; decide, fun _ => by show (0 : Int) < 1073741824; decide⟩
  | n + 1, h => by
    refine hv_ (pv_bd n (fun j h1 h2 => h j h1 (by omega))) (fun ih => ?_)
    refine hv_ (h (r + (n : Int)) (by omega) (by omega)) (fun hb => ?_)
    refine hv_ (p := pv b r (n + 1) = 32 * pv b r n + (b (r + (n : Int)) - 96)) (rfl) (fun e => ?_)
    rw [e]
    obtain ⟨i0, i1, i2, i3, i4, i5, i6⟩ := ih
    refine hv_ (p := n = 0 → pv b r n = 0) (fun q => by rw [q]; rfl) (fun z => ?_)
    refine ⟨by omega, fun q => ?_, fun q => ?_, fun q => ?_, fun q => ?_, fun q => ?_, fun q => ?_⟩
    · have := z (by omega); omega
    · have := i1 (by omega); omega
    · have := i2 (by omega); omega
    · have := i3 (by omega); omega
    · have := i4 (by omega); omega
    · have := i5 (by omega); omega
theorem pv_0 {b : Int → Int} {r : Int} : pv b r 0 = 0 := rfl
theorem pv_1 {b : Int → Int} {r : Int} : pv b r 1 = b r - 96 := by
  show 32 * 0 + (b (r + 0) - 96) = _
  rw [Int.add_zero]; omega
theorem pv_2 {b : Int → Int} {r : Int} : pv b r 2 = 32 * (b r - 96) + (b (r + 1) - 96) := by
  show 32 * pv b r 1 + (b (r + 1) - 96) = _
  rw [pv_1]
theorem pv_3 {b : Int → Int} {r : Int} : pv b r 3 = 1024 * (b r - 96) + 32 * (b (r + 1) - 96) + (b (r + 2) - 96) := by
  show 32 * pv b r 2 + (b (r + 2) - 96) = _
  rw [pv_2]; omega
theorem pv_4 {b : Int → Int} {r : Int} : pv b r 4 = 32768 * (b r - 96) + 1024 * (b (r + 1) - 96) + 32 * (b (r + 2) - 96) + (b (r + 3) - 96) := by
  show 32 * pv b r 3 + (b (r + 3) - 96) = _
  rw [pv_3]; omega
theorem pv_5 {b : Int → Int} {r : Int} : pv b r 5 = 1048576 * (b r - 96) + 32768 * (b (r + 1) - 96) + 1024 * (b (r + 2) - 96) + 32 * (b (r + 3) - 96) + (b (r + 4) - 96) := by
  show 32 * pv b r 4 + (b (r + 4) - 96) = _
  rw [pv_4]; omega
theorem pv_6 {b : Int → Int} {r : Int} : pv b r 6 = 33554432 * (b r - 96) + 1048576 * (b (r + 1) - 96) + 32768 * (b (r + 2) - 96) + 1024 * (b (r + 3) - 96) + 32 * (b (r + 4) - 96) + (b (r + 5) - 96) := by
  show 32 * pv b r 5 + (b (r + 5) - 96) = _
  rw [pv_5]; omega
/-- what a word of letters comes to, by its length -/
theorem wv_by {b : Int → Int} {r l : Int} (hr : r ≤ l) (h : ∀ j : Int, r ≤ j → j < l → 97 ≤ b j ∧ b j ≤ 122) : (6 < l - r ∧ wv b r l = 0) ∨ (l - r = 0 ∧ wv b r l = 0) ∨ (l - r = 1 ∧ wv b r l = b r - 96 ∧ 97 ≤ b r ∧ b r ≤ 122) ∨
    (l - r = 2 ∧ wv b r l = 32 * (b r - 96) + (b (r + 1) - 96) ∧ (97 ≤ b r ∧ b r ≤ 122) ∧ (97 ≤ b (r + 1) ∧ b (r + 1) ≤ 122)) ∨
    (l - r = 3 ∧ wv b r l = 1024 * (b r - 96) + 32 * (b (r + 1) - 96) + (b (r + 2) - 96) ∧ (97 ≤ b r ∧ b r ≤ 122) ∧ (97 ≤ b (r + 1) ∧ b (r + 1) ≤ 122) ∧ (97 ≤ b (r + 2) ∧ b (r + 2) ≤ 122)) ∨
    (l - r = 4 ∧ wv b r l = 32768 * (b r - 96) + 1024 * (b (r + 1) - 96) + 32 * (b (r + 2) - 96) + (b (r + 3) - 96) ∧ (97 ≤ b r ∧ b r ≤ 122) ∧ (97 ≤ b (r + 1) ∧ b (r + 1) ≤ 122) ∧ (97 ≤ b (r + 2) ∧ b (r + 2) ≤ 122) ∧ (97 ≤ b (r + 3) ∧ b (r + 3) ≤ 122)) ∨
    (l - r = 5 ∧ wv b r l = 1048576 * (b r - 96) + 32768 * (b (r + 1) - 96) + 1024 * (b (r + 2) - 96) + 32 * (b (r + 3) - 96) + (b (r + 4) - 96) ∧ (97 ≤ b r ∧ b r ≤ 122) ∧ (97 ≤ b (r + 1) ∧ b (r + 1) ≤ 122) ∧ (97 ≤ b (r + 2) ∧ b (r + 2) ≤ 122) ∧ (97 ≤ b (r + 3) ∧ b (r + 3) ≤ 122) ∧ (97 ≤ b (r + 4) ∧ b (r + 4) ≤ 122)) ∨
    (l - r = 6 ∧ wv b r l = 33554432 * (b r - 96) + 1048576 * (b (r + 1) - 96) + 32768 * (b (r + 2) - 96) + 1024 * (b (r + 3) - 96) + 32 * (b (r + 4) - 96) + (b (r + 5) - 96) ∧ (97 ≤ b r ∧ b r ≤ 122) ∧ (97 ≤ b (r + 1) ∧ b (r + 1) ≤ 122) ∧ (97 ≤ b (r + 2) ∧ b (r + 2) ≤ 122) ∧ (97 ≤ b (r + 3) ∧ b (r + 3) ≤ 122) ∧ (97 ≤ b (r + 4) ∧ b (r + 4) ≤ 122) ∧ (97 ≤ b (r + 5) ∧ b (r + 5) ≤ 122)) := by
  unfold wv
  by_cases q : l - r ≤ 6
  · rw [if_pos q]
    refine hv_ (p := l - r = 0 ∨ l - r = 1 ∨ l - r = 2 ∨ l - r = 3 ∨ l - r = 4 ∨ l - r = 5 ∨ l - r = 6) (by omega) (fun hc => ?_)
    rcases hc with e | e | e | e | e | e | e
    · exact Or.inr (Or.inl ⟨e, by rw [e]; rfl⟩)
    · exact Or.inr (Or.inr (Or.inl ⟨e, by rw [e]; exact pv_1, h r (by omega) (by omega)⟩))
    · exact Or.inr (Or.inr (Or.inr (Or.inl ⟨e, by rw [e]; exact pv_2, h r (by omega) (by omega), h (r + 1) (by omega) (by omega)⟩)))
    · exact Or.inr (Or.inr (Or.inr (Or.inr (Or.inl ⟨e, by rw [e]; exact pv_3, h r (by omega) (by omega), h (r + 1) (by omega) (by omega), h (r + 2) (by omega) (by omega)⟩))))
    · exact Or.inr (Or.inr (Or.inr (Or.inr (Or.inr (Or.inl ⟨e, by rw [e]; exact pv_4, h r (by omega) (by omega), h (r + 1) (by omega) (by omega), h (r + 2) (by omega) (by omega), h (r + 3) (by omega) (by omega)⟩)))))
    · exact Or.inr (Or.inr (Or.inr (Or.inr (Or.inr (Or.inr (Or.inl ⟨e, by rw [e]; exact pv_5, h r (by omega) (by omega), h (r + 1) (by omega) (by omega), h (r + 2) (by omega) (by omega), h (r + 3) (by omega) (by omega), h (r + 4) (by omega) (by omega)⟩))))))
    · exact Or.inr (Or.inr (Or.inr (Or.inr (Or.inr (Or.inr (Or.inr ⟨e, by rw [e]; exact pv_6, h r (by omega) (by omega), h (r + 1) (by omega) (by omega), h (r + 2) (by omega) (by omega), h (r + 3) (by omega) (by omega), h (r + 4) (by omega) (by omega), h (r + 5) (by omega) (by omega)⟩))))))
  · rw [if_neg q]
    exact Or.inl ⟨by omega, rfl⟩
theorem wv_tr {f g : Int → Int} {r l : Int} (h : Ub f g) (hr : 0 ≤ r) (hl : l ≤ 600) (hf : ∀ j : Int, r ≤ j → j < l → 97 ≤ f j ∧ f j ≤ 122) : wv g r l = wv f r l := by
  have key : ∀ n : Nat, r + (n : Int) ≤ l → pv g r n = pv f r n := by
    intro n
    induction n with
    | zero => intro _; rfl
    | succ n ih =>
      intro hn
      show 32 * pv g r n + (g (r + (n : Int)) - 96) = 32 * pv f r n + (f (r + (n : Int)) - 96)
      refine hv_ (h (r + (n : Int)) (by omega) (by omega)) (fun h1 => ?_)
      refine hv_ (hf (r + (n : Int)) (by omega) (by omega)) (fun h2 => ?_)
      rw [ih (by omega), show g (r + (n : Int)) = f (r + (n : Int)) by omega]
  unfold wv
  by_cases q : l - r ≤ 6
  · rw [if_pos q, if_pos q]
    by_cases q2 : r ≤ l
    · exact key _ (by omega)
    · rw [show (l - r).toNat = 0 by omega]; rfl
  · rw [if_neg q, if_neg q]
theorem wv_bd {b : Int → Int} {r l : Int} (h : ∀ j : Int, r ≤ j → j < l → 97 ≤ b j ∧ b j ≤ 122) : 0 ≤ wv b r l ∧ wv b r l ≤ 1073741823 := by
  unfold wv
  by_cases q : l - r ≤ 6
  · rw [if_pos q]
    by_cases q2 : r ≤ l
    · have := pv_bd (b := b) (r := r) (l - r).toNat (fun j h1 h2 => h j h1 (by omega))
      refine hv_ (this.2.2.2.2.2.2 (by omega)) (fun h6 => ?_)
      exact ⟨this.1, by omega⟩
    · rw [show (l - r).toNat = 0 by omega, pv_0]
      exact ⟨by decide, by decide⟩
  · rw [if_neg q]
    exact ⟨by decide, by decide⟩
theorem wq_again {b : Int → Int} {r l : Int} (hr : r ≤ l) (h : ∀ j : Int, r ≤ j → j < l → 97 ≤ b j ∧ b j ≤ 122) : (wv b r l = 1279278 ∧ l - r = 5 ∧ b r = 97 ∧ b (r + 1) = 103 ∧ b (r + 2) = 97 ∧ b (r + 3) = 105 ∧ b (r + 4) = 110) ∨ (¬ wv b r l = 1279278 ∧ ¬ (l - r = 5 ∧ b r = 97 ∧ b (r + 1) = 103 ∧ b (r + 2) = 97 ∧ b (r + 3) = 105 ∧ b (r + 4) = 110)) := by
  rcases wv_by hr h with e | e | e | e | e | e | e | e <;> omega
theorem wq_age {b : Int → Int} {r l : Int} (hr : r ≤ l) (h : ∀ j : Int, r ≤ j → j < l → 97 ≤ b j ∧ b j ≤ 122) : (wv b r l = 1253 ∧ l - r = 3 ∧ b r = 97 ∧ b (r + 1) = 103 ∧ b (r + 2) = 101) ∨ (¬ wv b r l = 1253 ∧ ¬ (l - r = 3 ∧ b r = 97 ∧ b (r + 1) = 103 ∧ b (r + 2) = 101)) := by
  rcases wv_by hr h with e | e | e | e | e | e | e | e <;> omega
theorem wq_all {b : Int → Int} {r l : Int} (hr : r ≤ l) (h : ∀ j : Int, r ≤ j → j < l → 97 ≤ b j ∧ b j ≤ 122) : (wv b r l = 1420 ∧ l - r = 3 ∧ b r = 97 ∧ b (r + 1) = 108 ∧ b (r + 2) = 108) ∨ (¬ wv b r l = 1420 ∧ ¬ (l - r = 3 ∧ b r = 97 ∧ b (r + 1) = 108 ∧ b (r + 2) = 108)) := by
  rcases wv_by hr h with e | e | e | e | e | e | e | e <;> omega
theorem wq_coarse {b : Int → Int} {r l : Int} (hr : r ≤ l) (h : ∀ j : Int, r ≤ j → j < l → 97 ≤ b j ∧ b j ≤ 122) : (wv b r l = 116443749 ∧ l - r = 6 ∧ b r = 99 ∧ b (r + 1) = 111 ∧ b (r + 2) = 97 ∧ b (r + 3) = 114 ∧ b (r + 4) = 115 ∧ b (r + 5) = 101) ∨ (¬ wv b r l = 116443749 ∧ ¬ (l - r = 6 ∧ b r = 99 ∧ b (r + 1) = 111 ∧ b (r + 2) = 97 ∧ b (r + 3) = 114 ∧ b (r + 4) = 115 ∧ b (r + 5) = 101)) := by
  rcases wv_by hr h with e | e | e | e | e | e | e | e <;> omega
theorem wq_day {b : Int → Int} {r l : Int} (hr : r ≤ l) (h : ∀ j : Int, r ≤ j → j < l → 97 ≤ b j ∧ b j ≤ 122) : (wv b r l = 4153 ∧ l - r = 3 ∧ b r = 100 ∧ b (r + 1) = 97 ∧ b (r + 2) = 121) ∨ (¬ wv b r l = 4153 ∧ ¬ (l - r = 3 ∧ b r = 100 ∧ b (r + 1) = 97 ∧ b (r + 2) = 121)) := by
  rcases wv_by hr h with e | e | e | e | e | e | e | e <;> omega
theorem wq_dust {b : Int → Int} {r l : Int} (hr : r ≤ l) (h : ∀ j : Int, r ≤ j → j < l → 97 ≤ b j ∧ b j ≤ 122) : (wv b r l = 153204 ∧ l - r = 4 ∧ b r = 100 ∧ b (r + 1) = 117 ∧ b (r + 2) = 115 ∧ b (r + 3) = 116) ∨ (¬ wv b r l = 153204 ∧ ¬ (l - r = 4 ∧ b r = 100 ∧ b (r + 1) = 117 ∧ b (r + 2) = 115 ∧ b (r + 3) = 116)) := by
  rcases wv_by hr h with e | e | e | e | e | e | e | e <;> omega
theorem wq_fine {b : Int → Int} {r l : Int} (hr : r ≤ l) (h : ∀ j : Int, r ≤ j → j < l → 97 ≤ b j ∧ b j ≤ 122) : (wv b r l = 206277 ∧ l - r = 4 ∧ b r = 102 ∧ b (r + 1) = 105 ∧ b (r + 2) = 110 ∧ b (r + 3) = 101) ∨ (¬ wv b r l = 206277 ∧ ¬ (l - r = 4 ∧ b r = 102 ∧ b (r + 1) = 105 ∧ b (r + 2) = 110 ∧ b (r + 3) = 101)) := by
  rcases wv_by hr h with e | e | e | e | e | e | e | e <;> omega
theorem wq_grind {b : Int → Int} {r l : Int} (hr : r ≤ l) (h : ∀ j : Int, r ≤ j → j < l → 97 ≤ b j ∧ b j ≤ 122) : (wv b r l = 7939524 ∧ l - r = 5 ∧ b r = 103 ∧ b (r + 1) = 114 ∧ b (r + 2) = 105 ∧ b (r + 3) = 110 ∧ b (r + 4) = 100) ∨ (¬ wv b r l = 7939524 ∧ ¬ (l - r = 5 ∧ b r = 103 ∧ b (r + 1) = 114 ∧ b (r + 2) = 105 ∧ b (r + 3) = 110 ∧ b (r + 4) = 100)) := by
  rcases wv_by hr h with e | e | e | e | e | e | e | e <;> omega
theorem wq_husk {b : Int → Int} {r l : Int} (hr : r ≤ l) (h : ∀ j : Int, r ≤ j → j < l → 97 ≤ b j ∧ b j ≤ 122) : (wv b r l = 284267 ∧ l - r = 4 ∧ b r = 104 ∧ b (r + 1) = 117 ∧ b (r + 2) = 115 ∧ b (r + 3) = 107) ∨ (¬ wv b r l = 284267 ∧ ¬ (l - r = 4 ∧ b r = 104 ∧ b (r + 1) = 117 ∧ b (r + 2) = 115 ∧ b (r + 3) = 107)) := by
  rcases wv_by hr h with e | e | e | e | e | e | e | e <;> omega
theorem wq_jar {b : Int → Int} {r l : Int} (hr : r ≤ l) (h : ∀ j : Int, r ≤ j → j < l → 97 ≤ b j ∧ b j ≤ 122) : (wv b r l = 10290 ∧ l - r = 3 ∧ b r = 106 ∧ b (r + 1) = 97 ∧ b (r + 2) = 114) ∨ (¬ wv b r l = 10290 ∧ ¬ (l - r = 3 ∧ b r = 106 ∧ b (r + 1) = 97 ∧ b (r + 2) = 114)) := by
  rcases wv_by hr h with e | e | e | e | e | e | e | e <;> omega
theorem wq_least {b : Int → Int} {r l : Int} (hr : r ≤ l) (h : ∀ j : Int, r ≤ j → j < l → 97 ≤ b j ∧ b j ≤ 122) : (wv b r l = 12748404 ∧ l - r = 5 ∧ b r = 108 ∧ b (r + 1) = 101 ∧ b (r + 2) = 97 ∧ b (r + 3) = 115 ∧ b (r + 4) = 116) ∨ (¬ wv b r l = 12748404 ∧ ¬ (l - r = 5 ∧ b r = 108 ∧ b (r + 1) = 101 ∧ b (r + 2) = 97 ∧ b (r + 3) = 115 ∧ b (r + 4) = 116)) := by
  rcases wv_by hr h with e | e | e | e | e | e | e | e <;> omega
theorem wq_mid {b : Int → Int} {r l : Int} (hr : r ≤ l) (h : ∀ j : Int, r ≤ j → j < l → 97 ≤ b j ∧ b j ≤ 122) : (wv b r l = 13604 ∧ l - r = 3 ∧ b r = 109 ∧ b (r + 1) = 105 ∧ b (r + 2) = 100) ∨ (¬ wv b r l = 13604 ∧ ¬ (l - r = 3 ∧ b r = 109 ∧ b (r + 1) = 105 ∧ b (r + 2) = 100)) := by
  rcases wv_by hr h with e | e | e | e | e | e | e | e <;> omega
theorem wq_most {b : Int → Int} {r l : Int} (hr : r ≤ l) (h : ∀ j : Int, r ≤ j → j < l → 97 ≤ b j ∧ b j ≤ 122) : (wv b r l = 441972 ∧ l - r = 4 ∧ b r = 109 ∧ b (r + 1) = 111 ∧ b (r + 2) = 115 ∧ b (r + 3) = 116) ∨ (¬ wv b r l = 441972 ∧ ¬ (l - r = 4 ∧ b r = 109 ∧ b (r + 1) = 111 ∧ b (r + 2) = 115 ∧ b (r + 3) = 116)) := by
  rcases wv_by hr h with e | e | e | e | e | e | e | e <;> omega
theorem wq_pour {b : Int → Int} {r l : Int} (hr : r ≤ l) (h : ∀ j : Int, r ≤ j → j < l → 97 ≤ b j ∧ b j ≤ 122) : (wv b r l = 540338 ∧ l - r = 4 ∧ b r = 112 ∧ b (r + 1) = 111 ∧ b (r + 2) = 117 ∧ b (r + 3) = 114) ∨ (¬ wv b r l = 540338 ∧ ¬ (l - r = 4 ∧ b r = 112 ∧ b (r + 1) = 111 ∧ b (r + 2) = 117 ∧ b (r + 3) = 114)) := by
  rcases wv_by hr h with e | e | e | e | e | e | e | e <;> omega
theorem wq_scoop {b : Int → Int} {r l : Int} (hr : r ≤ l) (h : ∀ j : Int, r ≤ j → j < l → 97 ≤ b j ∧ b j ≤ 122) : (wv b r l = 20037104 ∧ l - r = 5 ∧ b r = 115 ∧ b (r + 1) = 99 ∧ b (r + 2) = 111 ∧ b (r + 3) = 111 ∧ b (r + 4) = 112) ∨ (¬ wv b r l = 20037104 ∧ ¬ (l - r = 5 ∧ b r = 115 ∧ b (r + 1) = 99 ∧ b (r + 2) = 111 ∧ b (r + 3) = 111 ∧ b (r + 4) = 112)) := by
  rcases wv_by hr h with e | e | e | e | e | e | e | e <;> omega
theorem wq_sell {b : Int → Int} {r l : Int} (hr : r ≤ l) (h : ∀ j : Int, r ≤ j → j < l → 97 ≤ b j ∧ b j ≤ 122) : (wv b r l = 628108 ∧ l - r = 4 ∧ b r = 115 ∧ b (r + 1) = 101 ∧ b (r + 2) = 108 ∧ b (r + 3) = 108) ∨ (¬ wv b r l = 628108 ∧ ¬ (l - r = 4 ∧ b r = 115 ∧ b (r + 1) = 101 ∧ b (r + 2) = 108 ∧ b (r + 3) = 108)) := by
  rcases wv_by hr h with e | e | e | e | e | e | e | e <;> omega
theorem wq_sieve {b : Int → Int} {r l : Int} (hr : r ≤ l) (h : ∀ j : Int, r ≤ j → j < l → 97 ≤ b j ∧ b j ≤ 122) : (wv b r l = 20223685 ∧ l - r = 5 ∧ b r = 115 ∧ b (r + 1) = 105 ∧ b (r + 2) = 101 ∧ b (r + 3) = 118 ∧ b (r + 4) = 101) ∨ (¬ wv b r l = 20223685 ∧ ¬ (l - r = 5 ∧ b r = 115 ∧ b (r + 1) = 105 ∧ b (r + 2) = 101 ∧ b (r + 3) = 118 ∧ b (r + 4) = 101)) := by
  rcases wv_by hr h with e | e | e | e | e | e | e | e <;> omega
theorem wq_sift {b : Int → Int} {r l : Int} (hr : r ≤ l) (h : ∀ j : Int, r ≤ j → j < l → 97 ≤ b j ∧ b j ≤ 122) : (wv b r l = 632020 ∧ l - r = 4 ∧ b r = 115 ∧ b (r + 1) = 105 ∧ b (r + 2) = 102 ∧ b (r + 3) = 116) ∨ (¬ wv b r l = 632020 ∧ ¬ (l - r = 4 ∧ b r = 115 ∧ b (r + 1) = 105 ∧ b (r + 2) = 102 ∧ b (r + 3) = 116)) := by
  rcases wv_by hr h with e | e | e | e | e | e | e | e <;> omega
theorem wq_stone {b : Int → Int} {r l : Int} (hr : r ≤ l) (h : ∀ j : Int, r ≤ j → j < l → 97 ≤ b j ∧ b j ≤ 122) : (wv b r l = 20594117 ∧ l - r = 5 ∧ b r = 115 ∧ b (r + 1) = 116 ∧ b (r + 2) = 111 ∧ b (r + 3) = 110 ∧ b (r + 4) = 101) ∨ (¬ wv b r l = 20594117 ∧ ¬ (l - r = 5 ∧ b r = 115 ∧ b (r + 1) = 116 ∧ b (r + 2) = 111 ∧ b (r + 3) = 110 ∧ b (r + 4) = 101)) := by
  rcases wv_by hr h with e | e | e | e | e | e | e | e <;> omega
theorem wq_tear {b : Int → Int} {r l : Int} (hr : r ≤ l) (h : ∀ j : Int, r ≤ j → j < l → 97 ≤ b j ∧ b j ≤ 122) : (wv b r l = 660530 ∧ l - r = 4 ∧ b r = 116 ∧ b (r + 1) = 101 ∧ b (r + 2) = 97 ∧ b (r + 3) = 114) ∨ (¬ wv b r l = 660530 ∧ ¬ (l - r = 4 ∧ b r = 116 ∧ b (r + 1) = 101 ∧ b (r + 2) = 97 ∧ b (r + 3) = 114)) := by
  rcases wv_by hr h with e | e | e | e | e | e | e | e <;> omega
noncomputable def wd8_4 (_ : Int → Int) (_ _ : Int) : Int := -1
noncomputable def wd8_3 (b : Int → Int) (r l : Int) : Int := if l - r = 4 ∧ b r = 100 ∧ b (r + 1) = 117 ∧ b (r + 2) = 115 ∧ b (r + 3) = 116 then 3 else wd8_4 b r l
noncomputable def wd8_2 (b : Int → Int) (r l : Int) : Int := if l - r = 5 ∧ b r = 115 ∧ b (r + 1) = 105 ∧ b (r + 2) = 101 ∧ b (r + 3) = 118 ∧ b (r + 4) = 101 then 2 else wd8_3 b r l
noncomputable def wd8_1 (b : Int → Int) (r l : Int) : Int := if l - r = 5 ∧ b r = 115 ∧ b (r + 1) = 116 ∧ b (r + 2) = 111 ∧ b (r + 3) = 110 ∧ b (r + 4) = 101 then 1 else wd8_2 b r l
noncomputable def wd8_0 (b : Int → Int) (r l : Int) : Int := if l - r = 3 ∧ b r = 106 ∧ b (r + 1) = 97 ∧ b (r + 2) = 114 then 0 else wd8_1 b r l
theorem wd8_0_t {b : Int → Int} {r l : Int} (h : l - r = 3 ∧ b r = 106 ∧ b (r + 1) = 97 ∧ b (r + 2) = 114) : wd8_0 b r l = 0 := if_pos h
theorem wd8_0_f {b : Int → Int} {r l : Int} (h : ¬ (l - r = 3 ∧ b r = 106 ∧ b (r + 1) = 97 ∧ b (r + 2) = 114)) : wd8_0 b r l = wd8_1 b r l := if_neg h
theorem wd8_1_t {b : Int → Int} {r l : Int} (h : l - r = 5 ∧ b r = 115 ∧ b (r + 1) = 116 ∧ b (r + 2) = 111 ∧ b (r + 3) = 110 ∧ b (r + 4) = 101) : wd8_1 b r l = 1 := if_pos h
theorem wd8_1_f {b : Int → Int} {r l : Int} (h : ¬ (l - r = 5 ∧ b r = 115 ∧ b (r + 1) = 116 ∧ b (r + 2) = 111 ∧ b (r + 3) = 110 ∧ b (r + 4) = 101)) : wd8_1 b r l = wd8_2 b r l := if_neg h
theorem wd8_2_t {b : Int → Int} {r l : Int} (h : l - r = 5 ∧ b r = 115 ∧ b (r + 1) = 105 ∧ b (r + 2) = 101 ∧ b (r + 3) = 118 ∧ b (r + 4) = 101) : wd8_2 b r l = 2 := if_pos h
theorem wd8_2_f {b : Int → Int} {r l : Int} (h : ¬ (l - r = 5 ∧ b r = 115 ∧ b (r + 1) = 105 ∧ b (r + 2) = 101 ∧ b (r + 3) = 118 ∧ b (r + 4) = 101)) : wd8_2 b r l = wd8_3 b r l := if_neg h
theorem wd8_3_t {b : Int → Int} {r l : Int} (h : l - r = 4 ∧ b r = 100 ∧ b (r + 1) = 117 ∧ b (r + 2) = 115 ∧ b (r + 3) = 116) : wd8_3 b r l = 3 := if_pos h
theorem wd8_3_f {b : Int → Int} {r l : Int} (h : ¬ (l - r = 4 ∧ b r = 100 ∧ b (r + 1) = 117 ∧ b (r + 2) = 115 ∧ b (r + 3) = 116)) : wd8_3 b r l = wd8_4 b r l := if_neg h
theorem wr8 {b : Int → Int} {r l : Int} (hr : r ≤ l) (h : ∀ j : Int, r ≤ j → j < l → 97 ≤ b j ∧ b j ≤ 122) : (wd8_0 b r l = 0 ∧ wv b r l = 10290) ∨ (wd8_0 b r l = 1 ∧ wv b r l = 20594117) ∨ (wd8_0 b r l = 2 ∧ wv b r l = 20223685) ∨ (wd8_0 b r l = 3 ∧ wv b r l = 153204) ∨ (wd8_0 b r l = -1 ∧ ¬ wv b r l = 10290 ∧ ¬ wv b r l = 20594117 ∧ ¬ wv b r l = 20223685 ∧ ¬ wv b r l = 153204) := by
  rcases wq_jar hr h with ⟨a0, b0⟩ | ⟨a0, b0⟩
  · exact (Or.inl ⟨show wd8_0 b r l = 0 from wd8_0_t b0, a0⟩)
  rcases wq_stone hr h with ⟨a1, b1⟩ | ⟨a1, b1⟩
  · exact (Or.inr (Or.inl ⟨show wd8_0 b r l = 1 from (wd8_0_f b0).trans (wd8_1_t b1), a1⟩))
  rcases wq_sieve hr h with ⟨a2, b2⟩ | ⟨a2, b2⟩
  · exact (Or.inr (Or.inr (Or.inl ⟨show wd8_0 b r l = 2 from (wd8_0_f b0).trans ((wd8_1_f b1).trans (wd8_2_t b2)), a2⟩)))
  rcases wq_dust hr h with ⟨a3, b3⟩ | ⟨a3, b3⟩
  · exact (Or.inr (Or.inr (Or.inr (Or.inl ⟨show wd8_0 b r l = 3 from (wd8_0_f b0).trans ((wd8_1_f b1).trans ((wd8_2_f b2).trans (wd8_3_t b3))), a3⟩))))
  exact (Or.inr (Or.inr (Or.inr (Or.inr ⟨show wd8_0 b r l = -1 from (wd8_0_f b0).trans ((wd8_1_f b1).trans ((wd8_2_f b2).trans ((wd8_3_f b3).trans (rfl)))), a0, a1, a2, a3⟩))))
noncomputable def wd1_10 (_ : Int → Int) (_ _ : Int) : Int := -1
noncomputable def wd1_9 (b : Int → Int) (r l : Int) : Int := if l - r = 4 ∧ b r = 109 ∧ b (r + 1) = 111 ∧ b (r + 2) = 115 ∧ b (r + 3) = 116 then 9 else wd1_10 b r l
noncomputable def wd1_8 (b : Int → Int) (r l : Int) : Int := if l - r = 5 ∧ b r = 108 ∧ b (r + 1) = 101 ∧ b (r + 2) = 97 ∧ b (r + 3) = 115 ∧ b (r + 4) = 116 then 8 else wd1_9 b r l
noncomputable def wd1_7 (b : Int → Int) (r l : Int) : Int := if l - r = 3 ∧ b r = 106 ∧ b (r + 1) = 97 ∧ b (r + 2) = 114 then 7 else wd1_8 b r l
noncomputable def wd1_6 (b : Int → Int) (r l : Int) : Int := if l - r = 3 ∧ b r = 100 ∧ b (r + 1) = 97 ∧ b (r + 2) = 121 then 6 else wd1_7 b r l
noncomputable def wd1_5 (b : Int → Int) (r l : Int) : Int := if l - r = 3 ∧ b r = 97 ∧ b (r + 1) = 103 ∧ b (r + 2) = 101 then 5 else wd1_6 b r l
noncomputable def wd1_4 (b : Int → Int) (r l : Int) : Int := if l - r = 3 ∧ b r = 97 ∧ b (r + 1) = 108 ∧ b (r + 2) = 108 then 4 else wd1_5 b r l
noncomputable def wd1_3 (b : Int → Int) (r l : Int) : Int := if l - r = 4 ∧ b r = 104 ∧ b (r + 1) = 117 ∧ b (r + 2) = 115 ∧ b (r + 3) = 107 then 3 else wd1_4 b r l
noncomputable def wd1_2 (b : Int → Int) (r l : Int) : Int := if l - r = 6 ∧ b r = 99 ∧ b (r + 1) = 111 ∧ b (r + 2) = 97 ∧ b (r + 3) = 114 ∧ b (r + 4) = 115 ∧ b (r + 5) = 101 then 2 else wd1_3 b r l
noncomputable def wd1_1 (b : Int → Int) (r l : Int) : Int := if l - r = 3 ∧ b r = 109 ∧ b (r + 1) = 105 ∧ b (r + 2) = 100 then 1 else wd1_2 b r l
noncomputable def wd1_0 (b : Int → Int) (r l : Int) : Int := if l - r = 4 ∧ b r = 102 ∧ b (r + 1) = 105 ∧ b (r + 2) = 110 ∧ b (r + 3) = 101 then 0 else wd1_1 b r l
theorem wd1_0_t {b : Int → Int} {r l : Int} (h : l - r = 4 ∧ b r = 102 ∧ b (r + 1) = 105 ∧ b (r + 2) = 110 ∧ b (r + 3) = 101) : wd1_0 b r l = 0 := if_pos h
theorem wd1_0_f {b : Int → Int} {r l : Int} (h : ¬ (l - r = 4 ∧ b r = 102 ∧ b (r + 1) = 105 ∧ b (r + 2) = 110 ∧ b (r + 3) = 101)) : wd1_0 b r l = wd1_1 b r l := if_neg h
theorem wd1_1_t {b : Int → Int} {r l : Int} (h : l - r = 3 ∧ b r = 109 ∧ b (r + 1) = 105 ∧ b (r + 2) = 100) : wd1_1 b r l = 1 := if_pos h
theorem wd1_1_f {b : Int → Int} {r l : Int} (h : ¬ (l - r = 3 ∧ b r = 109 ∧ b (r + 1) = 105 ∧ b (r + 2) = 100)) : wd1_1 b r l = wd1_2 b r l := if_neg h
theorem wd1_2_t {b : Int → Int} {r l : Int} (h : l - r = 6 ∧ b r = 99 ∧ b (r + 1) = 111 ∧ b (r + 2) = 97 ∧ b (r + 3) = 114 ∧ b (r + 4) = 115 ∧ b (r + 5) = 101) : wd1_2 b r l = 2 := if_pos h
theorem wd1_2_f {b : Int → Int} {r l : Int} (h : ¬ (l - r = 6 ∧ b r = 99 ∧ b (r + 1) = 111 ∧ b (r + 2) = 97 ∧ b (r + 3) = 114 ∧ b (r + 4) = 115 ∧ b (r + 5) = 101)) : wd1_2 b r l = wd1_3 b r l := if_neg h
theorem wd1_3_t {b : Int → Int} {r l : Int} (h : l - r = 4 ∧ b r = 104 ∧ b (r + 1) = 117 ∧ b (r + 2) = 115 ∧ b (r + 3) = 107) : wd1_3 b r l = 3 := if_pos h
theorem wd1_3_f {b : Int → Int} {r l : Int} (h : ¬ (l - r = 4 ∧ b r = 104 ∧ b (r + 1) = 117 ∧ b (r + 2) = 115 ∧ b (r + 3) = 107)) : wd1_3 b r l = wd1_4 b r l := if_neg h
theorem wd1_4_t {b : Int → Int} {r l : Int} (h : l - r = 3 ∧ b r = 97 ∧ b (r + 1) = 108 ∧ b (r + 2) = 108) : wd1_4 b r l = 4 := if_pos h
theorem wd1_4_f {b : Int → Int} {r l : Int} (h : ¬ (l - r = 3 ∧ b r = 97 ∧ b (r + 1) = 108 ∧ b (r + 2) = 108)) : wd1_4 b r l = wd1_5 b r l := if_neg h
theorem wd1_5_t {b : Int → Int} {r l : Int} (h : l - r = 3 ∧ b r = 97 ∧ b (r + 1) = 103 ∧ b (r + 2) = 101) : wd1_5 b r l = 5 := if_pos h
theorem wd1_5_f {b : Int → Int} {r l : Int} (h : ¬ (l - r = 3 ∧ b r = 97 ∧ b (r + 1) = 103 ∧ b (r + 2) = 101)) : wd1_5 b r l = wd1_6 b r l := if_neg h
theorem wd1_6_t {b : Int → Int} {r l : Int} (h : l - r = 3 ∧ b r = 100 ∧ b (r + 1) = 97 ∧ b (r + 2) = 121) : wd1_6 b r l = 6 := if_pos h
theorem wd1_6_f {b : Int → Int} {r l : Int} (h : ¬ (l - r = 3 ∧ b r = 100 ∧ b (r + 1) = 97 ∧ b (r + 2) = 121)) : wd1_6 b r l = wd1_7 b r l := if_neg h
theorem wd1_7_t {b : Int → Int} {r l : Int} (h : l - r = 3 ∧ b r = 106 ∧ b (r + 1) = 97 ∧ b (r + 2) = 114) : wd1_7 b r l = 7 := if_pos h
theorem wd1_7_f {b : Int → Int} {r l : Int} (h : ¬ (l - r = 3 ∧ b r = 106 ∧ b (r + 1) = 97 ∧ b (r + 2) = 114)) : wd1_7 b r l = wd1_8 b r l := if_neg h
theorem wd1_8_t {b : Int → Int} {r l : Int} (h : l - r = 5 ∧ b r = 108 ∧ b (r + 1) = 101 ∧ b (r + 2) = 97 ∧ b (r + 3) = 115 ∧ b (r + 4) = 116) : wd1_8 b r l = 8 := if_pos h
theorem wd1_8_f {b : Int → Int} {r l : Int} (h : ¬ (l - r = 5 ∧ b r = 108 ∧ b (r + 1) = 101 ∧ b (r + 2) = 97 ∧ b (r + 3) = 115 ∧ b (r + 4) = 116)) : wd1_8 b r l = wd1_9 b r l := if_neg h
theorem wd1_9_t {b : Int → Int} {r l : Int} (h : l - r = 4 ∧ b r = 109 ∧ b (r + 1) = 111 ∧ b (r + 2) = 115 ∧ b (r + 3) = 116) : wd1_9 b r l = 9 := if_pos h
theorem wd1_9_f {b : Int → Int} {r l : Int} (h : ¬ (l - r = 4 ∧ b r = 109 ∧ b (r + 1) = 111 ∧ b (r + 2) = 115 ∧ b (r + 3) = 116)) : wd1_9 b r l = wd1_10 b r l := if_neg h
theorem wr1 {b : Int → Int} {r l : Int} (hr : r ≤ l) (h : ∀ j : Int, r ≤ j → j < l → 97 ≤ b j ∧ b j ≤ 122) : (wd1_0 b r l = 0 ∧ wv b r l = 206277) ∨ (wd1_0 b r l = 1 ∧ wv b r l = 13604) ∨ (wd1_0 b r l = 2 ∧ wv b r l = 116443749) ∨ (wd1_0 b r l = 3 ∧ wv b r l = 284267) ∨ (wd1_0 b r l = 4 ∧ wv b r l = 1420) ∨ (wd1_0 b r l = 5 ∧ wv b r l = 1253) ∨ (wd1_0 b r l = 6 ∧ wv b r l = 4153) ∨ (wd1_0 b r l = 7 ∧ wv b r l = 10290) ∨ (wd1_0 b r l = 8 ∧ wv b r l = 12748404) ∨ (wd1_0 b r l = 9 ∧ wv b r l = 441972) ∨ (wd1_0 b r l = -1 ∧ ¬ wv b r l = 206277 ∧ ¬ wv b r l = 13604 ∧ ¬ wv b r l = 116443749 ∧ ¬ wv b r l = 284267 ∧ ¬ wv b r l = 1420 ∧ ¬ wv b r l = 1253 ∧ ¬ wv b r l = 4153 ∧ ¬ wv b r l = 10290 ∧ ¬ wv b r l = 12748404 ∧ ¬ wv b r l = 441972) := by
  rcases wq_fine hr h with ⟨a0, b0⟩ | ⟨a0, b0⟩
  · exact (Or.inl ⟨show wd1_0 b r l = 0 from wd1_0_t b0, a0⟩)
  rcases wq_mid hr h with ⟨a1, b1⟩ | ⟨a1, b1⟩
  · exact (Or.inr (Or.inl ⟨show wd1_0 b r l = 1 from (wd1_0_f b0).trans (wd1_1_t b1), a1⟩))
  rcases wq_coarse hr h with ⟨a2, b2⟩ | ⟨a2, b2⟩
  · exact (Or.inr (Or.inr (Or.inl ⟨show wd1_0 b r l = 2 from (wd1_0_f b0).trans ((wd1_1_f b1).trans (wd1_2_t b2)), a2⟩)))
  rcases wq_husk hr h with ⟨a3, b3⟩ | ⟨a3, b3⟩
  · exact (Or.inr (Or.inr (Or.inr (Or.inl ⟨show wd1_0 b r l = 3 from (wd1_0_f b0).trans ((wd1_1_f b1).trans ((wd1_2_f b2).trans (wd1_3_t b3))), a3⟩))))
  rcases wq_all hr h with ⟨a4, b4⟩ | ⟨a4, b4⟩
  · exact (Or.inr (Or.inr (Or.inr (Or.inr (Or.inl ⟨show wd1_0 b r l = 4 from (wd1_0_f b0).trans ((wd1_1_f b1).trans ((wd1_2_f b2).trans ((wd1_3_f b3).trans (wd1_4_t b4)))), a4⟩)))))
  rcases wq_age hr h with ⟨a5, b5⟩ | ⟨a5, b5⟩
  · exact (Or.inr (Or.inr (Or.inr (Or.inr (Or.inr (Or.inl ⟨show wd1_0 b r l = 5 from (wd1_0_f b0).trans ((wd1_1_f b1).trans ((wd1_2_f b2).trans ((wd1_3_f b3).trans ((wd1_4_f b4).trans (wd1_5_t b5))))), a5⟩))))))
  rcases wq_day hr h with ⟨a6, b6⟩ | ⟨a6, b6⟩
  · exact (Or.inr (Or.inr (Or.inr (Or.inr (Or.inr (Or.inr (Or.inl ⟨show wd1_0 b r l = 6 from (wd1_0_f b0).trans ((wd1_1_f b1).trans ((wd1_2_f b2).trans ((wd1_3_f b3).trans ((wd1_4_f b4).trans ((wd1_5_f b5).trans (wd1_6_t b6)))))), a6⟩)))))))
  rcases wq_jar hr h with ⟨a7, b7⟩ | ⟨a7, b7⟩
  · exact (Or.inr (Or.inr (Or.inr (Or.inr (Or.inr (Or.inr (Or.inr (Or.inl ⟨show wd1_0 b r l = 7 from (wd1_0_f b0).trans ((wd1_1_f b1).trans ((wd1_2_f b2).trans ((wd1_3_f b3).trans ((wd1_4_f b4).trans ((wd1_5_f b5).trans ((wd1_6_f b6).trans (wd1_7_t b7))))))), a7⟩))))))))
  rcases wq_least hr h with ⟨a8, b8⟩ | ⟨a8, b8⟩
  · exact (Or.inr (Or.inr (Or.inr (Or.inr (Or.inr (Or.inr (Or.inr (Or.inr (Or.inl ⟨show wd1_0 b r l = 8 from (wd1_0_f b0).trans ((wd1_1_f b1).trans ((wd1_2_f b2).trans ((wd1_3_f b3).trans ((wd1_4_f b4).trans ((wd1_5_f b5).trans ((wd1_6_f b6).trans ((wd1_7_f b7).trans (wd1_8_t b8)))))))), a8⟩)))))))))
  rcases wq_most hr h with ⟨a9, b9⟩ | ⟨a9, b9⟩
  · exact (Or.inr (Or.inr (Or.inr (Or.inr (Or.inr (Or.inr (Or.inr (Or.inr (Or.inr (Or.inl ⟨show wd1_0 b r l = 9 from (wd1_0_f b0).trans ((wd1_1_f b1).trans ((wd1_2_f b2).trans ((wd1_3_f b3).trans ((wd1_4_f b4).trans ((wd1_5_f b5).trans ((wd1_6_f b6).trans ((wd1_7_f b7).trans ((wd1_8_f b8).trans (wd1_9_t b9))))))))), a9⟩))))))))))
  exact (Or.inr (Or.inr (Or.inr (Or.inr (Or.inr (Or.inr (Or.inr (Or.inr (Or.inr (Or.inr ⟨show wd1_0 b r l = -1 from (wd1_0_f b0).trans ((wd1_1_f b1).trans ((wd1_2_f b2).trans ((wd1_3_f b3).trans ((wd1_4_f b4).trans ((wd1_5_f b5).trans ((wd1_6_f b6).trans ((wd1_7_f b7).trans ((wd1_8_f b8).trans ((wd1_9_f b9).trans (rfl)))))))))), a0, a1, a2, a3, a4, a5, a6, a7, a8, a9⟩))))))))))
noncomputable def wd10_8 (_ : Int → Int) (_ _ : Int) : Int := -1
noncomputable def wd10_7 (b : Int → Int) (r l : Int) : Int := if l - r = 5 ∧ b r = 97 ∧ b (r + 1) = 103 ∧ b (r + 2) = 97 ∧ b (r + 3) = 105 ∧ b (r + 4) = 110 then 7 else wd10_8 b r l
noncomputable def wd10_6 (b : Int → Int) (r l : Int) : Int := if l - r = 3 ∧ b r = 100 ∧ b (r + 1) = 97 ∧ b (r + 2) = 121 then 6 else wd10_7 b r l
noncomputable def wd10_5 (b : Int → Int) (r l : Int) : Int := if l - r = 4 ∧ b r = 115 ∧ b (r + 1) = 101 ∧ b (r + 2) = 108 ∧ b (r + 3) = 108 then 5 else wd10_6 b r l
noncomputable def wd10_4 (b : Int → Int) (r l : Int) : Int := if l - r = 4 ∧ b r = 116 ∧ b (r + 1) = 101 ∧ b (r + 2) = 97 ∧ b (r + 3) = 114 then 4 else wd10_5 b r l
noncomputable def wd10_3 (b : Int → Int) (r l : Int) : Int := if l - r = 5 ∧ b r = 115 ∧ b (r + 1) = 99 ∧ b (r + 2) = 111 ∧ b (r + 3) = 111 ∧ b (r + 4) = 112 then 3 else wd10_4 b r l
noncomputable def wd10_2 (b : Int → Int) (r l : Int) : Int := if l - r = 4 ∧ b r = 112 ∧ b (r + 1) = 111 ∧ b (r + 2) = 117 ∧ b (r + 3) = 114 then 2 else wd10_3 b r l
noncomputable def wd10_1 (b : Int → Int) (r l : Int) : Int := if l - r = 4 ∧ b r = 115 ∧ b (r + 1) = 105 ∧ b (r + 2) = 102 ∧ b (r + 3) = 116 then 1 else wd10_2 b r l
noncomputable def wd10_0 (b : Int → Int) (r l : Int) : Int := if l - r = 5 ∧ b r = 103 ∧ b (r + 1) = 114 ∧ b (r + 2) = 105 ∧ b (r + 3) = 110 ∧ b (r + 4) = 100 then 0 else wd10_1 b r l
theorem wd10_0_t {b : Int → Int} {r l : Int} (h : l - r = 5 ∧ b r = 103 ∧ b (r + 1) = 114 ∧ b (r + 2) = 105 ∧ b (r + 3) = 110 ∧ b (r + 4) = 100) : wd10_0 b r l = 0 := if_pos h
theorem wd10_0_f {b : Int → Int} {r l : Int} (h : ¬ (l - r = 5 ∧ b r = 103 ∧ b (r + 1) = 114 ∧ b (r + 2) = 105 ∧ b (r + 3) = 110 ∧ b (r + 4) = 100)) : wd10_0 b r l = wd10_1 b r l := if_neg h
theorem wd10_1_t {b : Int → Int} {r l : Int} (h : l - r = 4 ∧ b r = 115 ∧ b (r + 1) = 105 ∧ b (r + 2) = 102 ∧ b (r + 3) = 116) : wd10_1 b r l = 1 := if_pos h
theorem wd10_1_f {b : Int → Int} {r l : Int} (h : ¬ (l - r = 4 ∧ b r = 115 ∧ b (r + 1) = 105 ∧ b (r + 2) = 102 ∧ b (r + 3) = 116)) : wd10_1 b r l = wd10_2 b r l := if_neg h
theorem wd10_2_t {b : Int → Int} {r l : Int} (h : l - r = 4 ∧ b r = 112 ∧ b (r + 1) = 111 ∧ b (r + 2) = 117 ∧ b (r + 3) = 114) : wd10_2 b r l = 2 := if_pos h
theorem wd10_2_f {b : Int → Int} {r l : Int} (h : ¬ (l - r = 4 ∧ b r = 112 ∧ b (r + 1) = 111 ∧ b (r + 2) = 117 ∧ b (r + 3) = 114)) : wd10_2 b r l = wd10_3 b r l := if_neg h
theorem wd10_3_t {b : Int → Int} {r l : Int} (h : l - r = 5 ∧ b r = 115 ∧ b (r + 1) = 99 ∧ b (r + 2) = 111 ∧ b (r + 3) = 111 ∧ b (r + 4) = 112) : wd10_3 b r l = 3 := if_pos h
theorem wd10_3_f {b : Int → Int} {r l : Int} (h : ¬ (l - r = 5 ∧ b r = 115 ∧ b (r + 1) = 99 ∧ b (r + 2) = 111 ∧ b (r + 3) = 111 ∧ b (r + 4) = 112)) : wd10_3 b r l = wd10_4 b r l := if_neg h
theorem wd10_4_t {b : Int → Int} {r l : Int} (h : l - r = 4 ∧ b r = 116 ∧ b (r + 1) = 101 ∧ b (r + 2) = 97 ∧ b (r + 3) = 114) : wd10_4 b r l = 4 := if_pos h
theorem wd10_4_f {b : Int → Int} {r l : Int} (h : ¬ (l - r = 4 ∧ b r = 116 ∧ b (r + 1) = 101 ∧ b (r + 2) = 97 ∧ b (r + 3) = 114)) : wd10_4 b r l = wd10_5 b r l := if_neg h
theorem wd10_5_t {b : Int → Int} {r l : Int} (h : l - r = 4 ∧ b r = 115 ∧ b (r + 1) = 101 ∧ b (r + 2) = 108 ∧ b (r + 3) = 108) : wd10_5 b r l = 5 := if_pos h
theorem wd10_5_f {b : Int → Int} {r l : Int} (h : ¬ (l - r = 4 ∧ b r = 115 ∧ b (r + 1) = 101 ∧ b (r + 2) = 108 ∧ b (r + 3) = 108)) : wd10_5 b r l = wd10_6 b r l := if_neg h
theorem wd10_6_t {b : Int → Int} {r l : Int} (h : l - r = 3 ∧ b r = 100 ∧ b (r + 1) = 97 ∧ b (r + 2) = 121) : wd10_6 b r l = 6 := if_pos h
theorem wd10_6_f {b : Int → Int} {r l : Int} (h : ¬ (l - r = 3 ∧ b r = 100 ∧ b (r + 1) = 97 ∧ b (r + 2) = 121)) : wd10_6 b r l = wd10_7 b r l := if_neg h
theorem wd10_7_t {b : Int → Int} {r l : Int} (h : l - r = 5 ∧ b r = 97 ∧ b (r + 1) = 103 ∧ b (r + 2) = 97 ∧ b (r + 3) = 105 ∧ b (r + 4) = 110) : wd10_7 b r l = 7 := if_pos h
theorem wd10_7_f {b : Int → Int} {r l : Int} (h : ¬ (l - r = 5 ∧ b r = 97 ∧ b (r + 1) = 103 ∧ b (r + 2) = 97 ∧ b (r + 3) = 105 ∧ b (r + 4) = 110)) : wd10_7 b r l = wd10_8 b r l := if_neg h
theorem wr10 {b : Int → Int} {r l : Int} (hr : r ≤ l) (h : ∀ j : Int, r ≤ j → j < l → 97 ≤ b j ∧ b j ≤ 122) : (wd10_0 b r l = 0 ∧ wv b r l = 7939524) ∨ (wd10_0 b r l = 1 ∧ wv b r l = 632020) ∨ (wd10_0 b r l = 2 ∧ wv b r l = 540338) ∨ (wd10_0 b r l = 3 ∧ wv b r l = 20037104) ∨ (wd10_0 b r l = 4 ∧ wv b r l = 660530) ∨ (wd10_0 b r l = 5 ∧ wv b r l = 628108) ∨ (wd10_0 b r l = 6 ∧ wv b r l = 4153) ∨ (wd10_0 b r l = 7 ∧ wv b r l = 1279278) ∨ (wd10_0 b r l = -1 ∧ ¬ wv b r l = 7939524 ∧ ¬ wv b r l = 632020 ∧ ¬ wv b r l = 540338 ∧ ¬ wv b r l = 20037104 ∧ ¬ wv b r l = 660530 ∧ ¬ wv b r l = 628108 ∧ ¬ wv b r l = 4153 ∧ ¬ wv b r l = 1279278) := by
  rcases wq_grind hr h with ⟨a0, b0⟩ | ⟨a0, b0⟩
  · exact (Or.inl ⟨show wd10_0 b r l = 0 from wd10_0_t b0, a0⟩)
  rcases wq_sift hr h with ⟨a1, b1⟩ | ⟨a1, b1⟩
  · exact (Or.inr (Or.inl ⟨show wd10_0 b r l = 1 from (wd10_0_f b0).trans (wd10_1_t b1), a1⟩))
  rcases wq_pour hr h with ⟨a2, b2⟩ | ⟨a2, b2⟩
  · exact (Or.inr (Or.inr (Or.inl ⟨show wd10_0 b r l = 2 from (wd10_0_f b0).trans ((wd10_1_f b1).trans (wd10_2_t b2)), a2⟩)))
  rcases wq_scoop hr h with ⟨a3, b3⟩ | ⟨a3, b3⟩
  · exact (Or.inr (Or.inr (Or.inr (Or.inl ⟨show wd10_0 b r l = 3 from (wd10_0_f b0).trans ((wd10_1_f b1).trans ((wd10_2_f b2).trans (wd10_3_t b3))), a3⟩))))
  rcases wq_tear hr h with ⟨a4, b4⟩ | ⟨a4, b4⟩
  · exact (Or.inr (Or.inr (Or.inr (Or.inr (Or.inl ⟨show wd10_0 b r l = 4 from (wd10_0_f b0).trans ((wd10_1_f b1).trans ((wd10_2_f b2).trans ((wd10_3_f b3).trans (wd10_4_t b4)))), a4⟩)))))
  rcases wq_sell hr h with ⟨a5, b5⟩ | ⟨a5, b5⟩
  · exact (Or.inr (Or.inr (Or.inr (Or.inr (Or.inr (Or.inl ⟨show wd10_0 b r l = 5 from (wd10_0_f b0).trans ((wd10_1_f b1).trans ((wd10_2_f b2).trans ((wd10_3_f b3).trans ((wd10_4_f b4).trans (wd10_5_t b5))))), a5⟩))))))
  rcases wq_day hr h with ⟨a6, b6⟩ | ⟨a6, b6⟩
  · exact (Or.inr (Or.inr (Or.inr (Or.inr (Or.inr (Or.inr (Or.inl ⟨show wd10_0 b r l = 6 from (wd10_0_f b0).trans ((wd10_1_f b1).trans ((wd10_2_f b2).trans ((wd10_3_f b3).trans ((wd10_4_f b4).trans ((wd10_5_f b5).trans (wd10_6_t b6)))))), a6⟩)))))))
  rcases wq_again hr h with ⟨a7, b7⟩ | ⟨a7, b7⟩
  · exact (Or.inr (Or.inr (Or.inr (Or.inr (Or.inr (Or.inr (Or.inr (Or.inl ⟨show wd10_0 b r l = 7 from (wd10_0_f b0).trans ((wd10_1_f b1).trans ((wd10_2_f b2).trans ((wd10_3_f b3).trans ((wd10_4_f b4).trans ((wd10_5_f b5).trans ((wd10_6_f b6).trans (wd10_7_t b7))))))), a7⟩))))))))
  exact (Or.inr (Or.inr (Or.inr (Or.inr (Or.inr (Or.inr (Or.inr (Or.inr ⟨show wd10_0 b r l = -1 from (wd10_0_f b0).trans ((wd10_1_f b1).trans ((wd10_2_f b2).trans ((wd10_3_f b3).trans ((wd10_4_f b4).trans ((wd10_5_f b5).trans ((wd10_6_f b6).trans ((wd10_7_f b7).trans (rfl)))))))), a0, a1, a2, a3, a4, a5, a6, a7⟩))))))))
theorem wr8_0 {b : Int → Int} {r l : Int} (hr : r ≤ l) (h : ∀ j : Int, r ≤ j → j < l → 97 ≤ b j ∧ b j ≤ 122) (hw : wd8_0 b r l = 0) : wv b r l = 10290 := by
  rcases wr8 hr h with e0 | e1 | e2 | e3 | e4
  · exact e0.2
  · have := e1.1
    omega
  · have := e2.1
    omega
  · have := e3.1
    omega
  · have := e4.1
    omega
theorem wr8_1 {b : Int → Int} {r l : Int} (hr : r ≤ l) (h : ∀ j : Int, r ≤ j → j < l → 97 ≤ b j ∧ b j ≤ 122) (hw : wd8_0 b r l = 1) : wv b r l = 20594117 := by
  rcases wr8 hr h with e0 | e1 | e2 | e3 | e4
  · have := e0.1
    omega
  · exact e1.2
  · have := e2.1
    omega
  · have := e3.1
    omega
  · have := e4.1
    omega
theorem wr8_2 {b : Int → Int} {r l : Int} (hr : r ≤ l) (h : ∀ j : Int, r ≤ j → j < l → 97 ≤ b j ∧ b j ≤ 122) (hw : wd8_0 b r l = 2) : wv b r l = 20223685 := by
  rcases wr8 hr h with e0 | e1 | e2 | e3 | e4
  · have := e0.1
    omega
  · have := e1.1
    omega
  · exact e2.2
  · have := e3.1
    omega
  · have := e4.1
    omega
theorem wr8_3 {b : Int → Int} {r l : Int} (hr : r ≤ l) (h : ∀ j : Int, r ≤ j → j < l → 97 ≤ b j ∧ b j ≤ 122) (hw : wd8_0 b r l = 3) : wv b r l = 153204 := by
  rcases wr8 hr h with e0 | e1 | e2 | e3 | e4
  · have := e0.1
    omega
  · have := e1.1
    omega
  · have := e2.1
    omega
  · exact e3.2
  · have := e4.1
    omega
theorem wr8_4 {b : Int → Int} {r l : Int} (hr : r ≤ l) (h : ∀ j : Int, r ≤ j → j < l → 97 ≤ b j ∧ b j ≤ 122) (hw : wd8_0 b r l = -1) : ¬ wv b r l = 10290 ∧ ¬ wv b r l = 20594117 ∧ ¬ wv b r l = 20223685 ∧ ¬ wv b r l = 153204 := by
  rcases wr8 hr h with e0 | e1 | e2 | e3 | e4
  · have := e0.1
    omega
  · have := e1.1
    omega
  · have := e2.1
    omega
  · have := e3.1
    omega
  · exact e4.2
theorem wr1_0 {b : Int → Int} {r l : Int} (hr : r ≤ l) (h : ∀ j : Int, r ≤ j → j < l → 97 ≤ b j ∧ b j ≤ 122) (hw : wd1_0 b r l = 0) : wv b r l = 206277 := by
  rcases wr1 hr h with e0 | e1 | e2 | e3 | e4 | e5 | e6 | e7 | e8 | e9 | e10
  · exact e0.2
  · have := e1.1
    omega
  · have := e2.1
    omega
  · have := e3.1
    omega
  · have := e4.1
    omega
  · have := e5.1
    omega
  · have := e6.1
    omega
  · have := e7.1
    omega
  · have := e8.1
    omega
  · have := e9.1
    omega
  · have := e10.1
    omega
theorem wr1_1 {b : Int → Int} {r l : Int} (hr : r ≤ l) (h : ∀ j : Int, r ≤ j → j < l → 97 ≤ b j ∧ b j ≤ 122) (hw : wd1_0 b r l = 1) : wv b r l = 13604 := by
  rcases wr1 hr h with e0 | e1 | e2 | e3 | e4 | e5 | e6 | e7 | e8 | e9 | e10
  · have := e0.1
    omega
  · exact e1.2
  · have := e2.1
    omega
  · have := e3.1
    omega
  · have := e4.1
    omega
  · have := e5.1
    omega
  · have := e6.1
    omega
  · have := e7.1
    omega
  · have := e8.1
    omega
  · have := e9.1
    omega
  · have := e10.1
    omega
theorem wr1_2 {b : Int → Int} {r l : Int} (hr : r ≤ l) (h : ∀ j : Int, r ≤ j → j < l → 97 ≤ b j ∧ b j ≤ 122) (hw : wd1_0 b r l = 2) : wv b r l = 116443749 := by
  rcases wr1 hr h with e0 | e1 | e2 | e3 | e4 | e5 | e6 | e7 | e8 | e9 | e10
  · have := e0.1
    omega
  · have := e1.1
    omega
  · exact e2.2
  · have := e3.1
    omega
  · have := e4.1
    omega
  · have := e5.1
    omega
  · have := e6.1
    omega
  · have := e7.1
    omega
  · have := e8.1
    omega
  · have := e9.1
    omega
  · have := e10.1
    omega
theorem wr1_3 {b : Int → Int} {r l : Int} (hr : r ≤ l) (h : ∀ j : Int, r ≤ j → j < l → 97 ≤ b j ∧ b j ≤ 122) (hw : wd1_0 b r l = 3) : wv b r l = 284267 := by
  rcases wr1 hr h with e0 | e1 | e2 | e3 | e4 | e5 | e6 | e7 | e8 | e9 | e10
  · have := e0.1
    omega
  · have := e1.1
    omega
  · have := e2.1
    omega
  · exact e3.2
  · have := e4.1
    omega
  · have := e5.1
    omega
  · have := e6.1
    omega
  · have := e7.1
    omega
  · have := e8.1
    omega
  · have := e9.1
    omega
  · have := e10.1
    omega
theorem wr1_4 {b : Int → Int} {r l : Int} (hr : r ≤ l) (h : ∀ j : Int, r ≤ j → j < l → 97 ≤ b j ∧ b j ≤ 122) (hw : wd1_0 b r l = 4) : wv b r l = 1420 := by
  rcases wr1 hr h with e0 | e1 | e2 | e3 | e4 | e5 | e6 | e7 | e8 | e9 | e10
  · have := e0.1
    omega
  · have := e1.1
    omega
  · have := e2.1
    omega
  · have := e3.1
    omega
  · exact e4.2
  · have := e5.1
    omega
  · have := e6.1
    omega
  · have := e7.1
    omega
  · have := e8.1
    omega
  · have := e9.1
    omega
  · have := e10.1
    omega
theorem wr1_5 {b : Int → Int} {r l : Int} (hr : r ≤ l) (h : ∀ j : Int, r ≤ j → j < l → 97 ≤ b j ∧ b j ≤ 122) (hw : wd1_0 b r l = 5) : wv b r l = 1253 := by
  rcases wr1 hr h with e0 | e1 | e2 | e3 | e4 | e5 | e6 | e7 | e8 | e9 | e10
  · have := e0.1
    omega
  · have := e1.1
    omega
  · have := e2.1
    omega
  · have := e3.1
    omega
  · have := e4.1
    omega
  · exact e5.2
  · have := e6.1
    omega
  · have := e7.1
    omega
  · have := e8.1
    omega
  · have := e9.1
    omega
  · have := e10.1
    omega
theorem wr1_6 {b : Int → Int} {r l : Int} (hr : r ≤ l) (h : ∀ j : Int, r ≤ j → j < l → 97 ≤ b j ∧ b j ≤ 122) (hw : wd1_0 b r l = 6) : wv b r l = 4153 := by
  rcases wr1 hr h with e0 | e1 | e2 | e3 | e4 | e5 | e6 | e7 | e8 | e9 | e10
  · have := e0.1
    omega
  · have := e1.1
    omega
  · have := e2.1
    omega
  · have := e3.1
    omega
  · have := e4.1
    omega
  · have := e5.1
    omega
  · exact e6.2
  · have := e7.1
    omega
  · have := e8.1
    omega
  · have := e9.1
    omega
  · have := e10.1
    omega
theorem wr1_7 {b : Int → Int} {r l : Int} (hr : r ≤ l) (h : ∀ j : Int, r ≤ j → j < l → 97 ≤ b j ∧ b j ≤ 122) (hw : wd1_0 b r l = 7) : wv b r l = 10290 := by
  rcases wr1 hr h with e0 | e1 | e2 | e3 | e4 | e5 | e6 | e7 | e8 | e9 | e10
  · have := e0.1
    omega
  · have := e1.1
    omega
  · have := e2.1
    omega
  · have := e3.1
    omega
  · have := e4.1
    omega
  · have := e5.1
    omega
  · have := e6.1
    omega
  · exact e7.2
  · have := e8.1
    omega
  · have := e9.1
    omega
  · have := e10.1
    omega
theorem wr1_8 {b : Int → Int} {r l : Int} (hr : r ≤ l) (h : ∀ j : Int, r ≤ j → j < l → 97 ≤ b j ∧ b j ≤ 122) (hw : wd1_0 b r l = 8) : wv b r l = 12748404 := by
  rcases wr1 hr h with e0 | e1 | e2 | e3 | e4 | e5 | e6 | e7 | e8 | e9 | e10
  · have := e0.1
    omega
  · have := e1.1
    omega
  · have := e2.1
    omega
  · have := e3.1
    omega
  · have := e4.1
    omega
  · have := e5.1
    omega
  · have := e6.1
    omega
  · have := e7.1
    omega
  · exact e8.2
  · have := e9.1
    omega
  · have := e10.1
    omega
theorem wr1_9 {b : Int → Int} {r l : Int} (hr : r ≤ l) (h : ∀ j : Int, r ≤ j → j < l → 97 ≤ b j ∧ b j ≤ 122) (hw : wd1_0 b r l = 9) : wv b r l = 441972 := by
  rcases wr1 hr h with e0 | e1 | e2 | e3 | e4 | e5 | e6 | e7 | e8 | e9 | e10
  · have := e0.1
    omega
  · have := e1.1
    omega
  · have := e2.1
    omega
  · have := e3.1
    omega
  · have := e4.1
    omega
  · have := e5.1
    omega
  · have := e6.1
    omega
  · have := e7.1
    omega
  · have := e8.1
    omega
  · exact e9.2
  · have := e10.1
    omega
theorem wr1_10 {b : Int → Int} {r l : Int} (hr : r ≤ l) (h : ∀ j : Int, r ≤ j → j < l → 97 ≤ b j ∧ b j ≤ 122) (hw : wd1_0 b r l = -1) : ¬ wv b r l = 206277 ∧ ¬ wv b r l = 13604 ∧ ¬ wv b r l = 116443749 ∧ ¬ wv b r l = 284267 ∧ ¬ wv b r l = 1420 ∧ ¬ wv b r l = 1253 ∧ ¬ wv b r l = 4153 ∧ ¬ wv b r l = 10290 ∧ ¬ wv b r l = 12748404 ∧ ¬ wv b r l = 441972 := by
  rcases wr1 hr h with e0 | e1 | e2 | e3 | e4 | e5 | e6 | e7 | e8 | e9 | e10
  · have := e0.1
    omega
  · have := e1.1
    omega
  · have := e2.1
    omega
  · have := e3.1
    omega
  · have := e4.1
    omega
  · have := e5.1
    omega
  · have := e6.1
    omega
  · have := e7.1
    omega
  · have := e8.1
    omega
  · have := e9.1
    omega
  · exact e10.2
theorem wr10_0 {b : Int → Int} {r l : Int} (hr : r ≤ l) (h : ∀ j : Int, r ≤ j → j < l → 97 ≤ b j ∧ b j ≤ 122) (hw : wd10_0 b r l = 0) : wv b r l = 7939524 := by
  rcases wr10 hr h with e0 | e1 | e2 | e3 | e4 | e5 | e6 | e7 | e8
  · exact e0.2
  · have := e1.1
    omega
  · have := e2.1
    omega
  · have := e3.1
    omega
  · have := e4.1
    omega
  · have := e5.1
    omega
  · have := e6.1
    omega
  · have := e7.1
    omega
  · have := e8.1
    omega
theorem wr10_1 {b : Int → Int} {r l : Int} (hr : r ≤ l) (h : ∀ j : Int, r ≤ j → j < l → 97 ≤ b j ∧ b j ≤ 122) (hw : wd10_0 b r l = 1) : wv b r l = 632020 := by
  rcases wr10 hr h with e0 | e1 | e2 | e3 | e4 | e5 | e6 | e7 | e8
  · have := e0.1
    omega
  · exact e1.2
  · have := e2.1
    omega
  · have := e3.1
    omega
  · have := e4.1
    omega
  · have := e5.1
    omega
  · have := e6.1
    omega
  · have := e7.1
    omega
  · have := e8.1
    omega
theorem wr10_2 {b : Int → Int} {r l : Int} (hr : r ≤ l) (h : ∀ j : Int, r ≤ j → j < l → 97 ≤ b j ∧ b j ≤ 122) (hw : wd10_0 b r l = 2) : wv b r l = 540338 := by
  rcases wr10 hr h with e0 | e1 | e2 | e3 | e4 | e5 | e6 | e7 | e8
  · have := e0.1
    omega
  · have := e1.1
    omega
  · exact e2.2
  · have := e3.1
    omega
  · have := e4.1
    omega
  · have := e5.1
    omega
  · have := e6.1
    omega
  · have := e7.1
    omega
  · have := e8.1
    omega
theorem wr10_3 {b : Int → Int} {r l : Int} (hr : r ≤ l) (h : ∀ j : Int, r ≤ j → j < l → 97 ≤ b j ∧ b j ≤ 122) (hw : wd10_0 b r l = 3) : wv b r l = 20037104 := by
  rcases wr10 hr h with e0 | e1 | e2 | e3 | e4 | e5 | e6 | e7 | e8
  · have := e0.1
    omega
  · have := e1.1
    omega
  · have := e2.1
    omega
  · exact e3.2
  · have := e4.1
    omega
  · have := e5.1
    omega
  · have := e6.1
    omega
  · have := e7.1
    omega
  · have := e8.1
    omega
theorem wr10_4 {b : Int → Int} {r l : Int} (hr : r ≤ l) (h : ∀ j : Int, r ≤ j → j < l → 97 ≤ b j ∧ b j ≤ 122) (hw : wd10_0 b r l = 4) : wv b r l = 660530 := by
  rcases wr10 hr h with e0 | e1 | e2 | e3 | e4 | e5 | e6 | e7 | e8
  · have := e0.1
    omega
  · have := e1.1
    omega
  · have := e2.1
    omega
  · have := e3.1
    omega
  · exact e4.2
  · have := e5.1
    omega
  · have := e6.1
    omega
  · have := e7.1
    omega
  · have := e8.1
    omega
theorem wr10_5 {b : Int → Int} {r l : Int} (hr : r ≤ l) (h : ∀ j : Int, r ≤ j → j < l → 97 ≤ b j ∧ b j ≤ 122) (hw : wd10_0 b r l = 5) : wv b r l = 628108 := by
  rcases wr10 hr h with e0 | e1 | e2 | e3 | e4 | e5 | e6 | e7 | e8
  · have := e0.1
    omega
  · have := e1.1
    omega
  · have := e2.1
    omega
  · have := e3.1
    omega
  · have := e4.1
    omega
  · exact e5.2
  · have := e6.1
    omega
  · have := e7.1
    omega
  · have := e8.1
    omega
theorem wr10_6 {b : Int → Int} {r l : Int} (hr : r ≤ l) (h : ∀ j : Int, r ≤ j → j < l → 97 ≤ b j ∧ b j ≤ 122) (hw : wd10_0 b r l = 6) : wv b r l = 4153 := by
  rcases wr10 hr h with e0 | e1 | e2 | e3 | e4 | e5 | e6 | e7 | e8
  · have := e0.1
    omega
  · have := e1.1
    omega
  · have := e2.1
    omega
  · have := e3.1
    omega
  · have := e4.1
    omega
  · have := e5.1
    omega
  · exact e6.2
  · have := e7.1
    omega
  · have := e8.1
    omega
theorem wr10_7 {b : Int → Int} {r l : Int} (hr : r ≤ l) (h : ∀ j : Int, r ≤ j → j < l → 97 ≤ b j ∧ b j ≤ 122) (hw : wd10_0 b r l = 7) : wv b r l = 1279278 := by
  rcases wr10 hr h with e0 | e1 | e2 | e3 | e4 | e5 | e6 | e7 | e8
  · have := e0.1
    omega
  · have := e1.1
    omega
  · have := e2.1
    omega
  · have := e3.1
    omega
  · have := e4.1
    omega
  · have := e5.1
    omega
  · have := e6.1
    omega
  · exact e7.2
  · have := e8.1
    omega
theorem wr10_8 {b : Int → Int} {r l : Int} (hr : r ≤ l) (h : ∀ j : Int, r ≤ j → j < l → 97 ≤ b j ∧ b j ≤ 122) (hw : wd10_0 b r l = -1) : ¬ wv b r l = 7939524 ∧ ¬ wv b r l = 632020 ∧ ¬ wv b r l = 540338 ∧ ¬ wv b r l = 20037104 ∧ ¬ wv b r l = 660530 ∧ ¬ wv b r l = 628108 ∧ ¬ wv b r l = 4153 ∧ ¬ wv b r l = 1279278 := by
  rcases wr10 hr h with e0 | e1 | e2 | e3 | e4 | e5 | e6 | e7 | e8
  · have := e0.1
    omega
  · have := e1.1
    omega
  · have := e2.1
    omega
  · have := e3.1
    omega
  · have := e4.1
    omega
  · have := e5.1
    omega
  · have := e6.1
    omega
  · have := e7.1
    omega
  · exact e8.2
end
section
/-! ===== a run that is told beside: the class's, while the reference runs ===== -/
section GH
variable {sc : List Int32} {d k pc nc ns : Nat} {ls : AL} {st : List Value} {w : AW}
/-- what a run ends with -/
noncomputable def Fn (sc : List Int32) (d k pc : Nat) (ls : AL) (st : List Value) (w : AW) (r : AR) : Prop := Wp sc d k pc ls st w 0 0 (fun q => q = r)
theorem wp_det {r1 r2 : AR} {n m : Nat} (h1 : ev sc n d k pc ls st w nc ns = some r1) (h2 : ev sc m d k pc ls st w nc ns = some r2) : r1 = r2 := by
  refine hv_ (ev_to h1 (Nat.le_max_left n m)) (fun a => ?_)
  refine hv_ (ev_to h2 (Nat.le_max_right n m)) (fun b => ?_)
  rw [a] at b
  exact Option.some.inj b
theorem gh {R : AR} {G : Prop} (h : Wp sc d k pc ls st w nc ns (fun q => q = R)) (h2 : Wp sc d k pc ls st w nc ns (fun q => q = R → G)) : G := by
  obtain ⟨n, r, h3, h4⟩ := h
  obtain ⟨m, r2, h5, h6⟩ := h2
  exact h6 ((wp_det h5 h3).trans h4)
theorem gh_stop {R : AR} {G : Prop} (T : Wp sc d k pc ls st w nc ns (fun _ => True)) (K : Wp sc d k pc ls st w nc ns (fun q => q = R) → G) : Wp sc d k pc ls st w nc ns (fun q => q = R → G) := by
  obtain ⟨n, r, h1, _⟩ := T
  exact ⟨n, r, h1, fun e => K ⟨n, r, h1, e⟩⟩
theorem fn_of {Z : AR → Prop} (T : Wp sc d k pc ls st w 0 0 (fun r => Fn sc d k pc ls st w r → Z r)) : Wp sc d k pc ls st w 0 0 Z := by
  obtain ⟨n, r, h1, h2⟩ := T
  exact ⟨n, r, h1, h2 ⟨n, r, h1, rfl⟩⟩
end GH
/-! what a world holds is told by it -/
theorem vi_inj {a b : Int} (ha : -2147483648 ≤ a ∧ a ≤ 2147483647) (hb : -2147483648 ≤ b ∧ b ≤ 2147483647) (h : vi a = vi b) : a = b := by
  refine hv_ (p := Int32.ofInt a = Int32.ofInt b) (Value.int.inj h) (fun e => ?_)
  refine hv_ (congrArg Int32.toInt e) (fun e2 => ?_)
  rw [Int32.toInt_ofInt_of_le (by omega) (by omega), Int32.toInt_ofInt_of_le (by omega) (by omega)] at e2
  exact e2
theorem wd_ce {P Q N T P' Q' N' T' : Nat} {x y : ME} (h : Wd P Q N T x = Wd P' Q' N' T' y) {a : Nat} (ha : a < 68) : ce x a (ck P Q N T a) = ce y a (ck P' Q' N' T' a) := by
  refine hv_ (congrArg (fun l : AW => l[a]?) h) (fun e => ?_)
  rw [wd_get ha, wd_get ha] at e
  exact Option.some.inj e
theorem wd_fv {P Q N T P' Q' N' T' : Nat} {x y : ME} (j : Nat) {z : Int} (hz : (j : Int) = z) (h : Wd P Q N T x = Wd P' Q' N' T' y) {a ci ci' : Nat} {fl fl' : List (Option Nat)} (hk : ck P Q N T a = .inr (ci, fl)) (hk' : ck P' Q' N' T' a = .inr (ci', fl')) (hj : fl[j]? = some none) (hj' : fl'[j]? = some none) (ha : a < 68) {v : Int} (hp : x a z = v) (hv : -2147483648 ≤ v ∧ v ≤ 2147483647) (hy : -2147483648 ≤ y a z ∧ y a z ≤ 2147483647) : y a z = v := by
  subst hz
  refine hv_ (wd_ce h ha) (fun e => ?_)
  rw [hk, hk'] at e
  refine hv_ (p := fe x a 0 fl = fe y a 0 fl') ((Prod.mk.inj (Sum.inr.inj e)).2) (fun e2 => ?_)
  refine hv_ (congrArg (fun l : List Value => l[j]?) e2) (fun e3 => ?_)
  rw [fe_none hj, fe_none hj', Nat.zero_add] at e3
  rw [← hp]
  exact (vi_inj (by rw [hp]; exact hv) hy (Option.some.inj e3)).symm
theorem wd_av {P Q N T P' Q' N' T' : Nat} {x y : ME} (h : Wd P Q N T x = Wd P' Q' N' T' y) {a t n : Nat} {j : Int} (hk : ck P Q N T a = .inl (t, n)) (hk' : ck P' Q' N' T' a = .inl (t, n)) (ht : ¬ t = 2) (ha : a < 68) (hj : 0 ≤ j ∧ j < (n : Int)) {v : Int} (hp : x a j = v) (hv : -2147483648 ≤ v ∧ v ≤ 2147483647) (hy : -2147483648 ≤ y a j ∧ y a j ≤ 2147483647) : y a j = v := by
  refine hv_ (wd_ce h ha) (fun e => ?_)
  rw [hk, hk'] at e
  unfold ce at e
  dsimp only at e
  rw [if_neg ht, if_neg ht] at e
  refine hv_ (p := ar n (x a) = ar n (y a)) (Sum.inl.inj (Prod.mk.inj (Sum.inl.inj e)).2) (fun e2 => ?_)
  obtain ⟨i, rfl⟩ := Int.eq_ofNat_of_zero_le hj.1
  refine hv_ (congrArg (fun l : List Int32 => l[i]?) e2) (fun e3 => ?_)
  rw [ar_get (by omega), ar_get (by omega)] at e3
  refine hv_ (Option.some.inj e3) (fun e4 => ?_)
  refine hv_ (congrArg Int32.toInt e4) (fun e5 => ?_)
  rw [Int32.toInt_ofInt_of_le (by rw [hp]; omega) (by rw [hp]; omega), Int32.toInt_ofInt_of_le (by omega) (by omega)] at e5
  rw [← hp]
  exact e5.symm
theorem ck_A {P Q N T A : Nat} (h : A = 13 ∨ A = 25) : ck P Q N T A = .inr (2, [none, none, none, none, none, none, some (A + 1), some (A + 2), some (A + 3), some (A + 4), some (A + 5), some (A + 6), some (A + 7)]) := by
  rcases h with rfl | rfl <;> rfl
/-! the texts of both sides stand alike: sound and at one place, or with one fault -/
noncomputable def Rt (m c : ME) : Prop := (m 1 4 = 0 ∧ c 41 5 = -1 ∧ c 41 4 = m 1 2 ∧ m 1 5 = -1) ∨ ((1 ≤ m 1 4 ∧ m 1 4 ≤ 3) ∧ c 41 5 = m 1 5 ∧ 0 ≤ m 1 5 ∧ c 41 6 = m 1 4)
theorem rt_or {m c : ME} (h : Rt m c) : (m 1 4 = 0 ∧ c 41 5 = -1 ∧ c 41 4 = m 1 2 ∧ m 1 5 = -1) ∨ ((1 ≤ m 1 4 ∧ m 1 4 ≤ 3) ∧ c 41 5 = m 1 5 ∧ 0 ≤ m 1 5 ∧ c 41 6 = m 1 4) := h
theorem rt_i1 {m c : ME} (h : m 1 4 = 0 ∧ c 41 5 = -1 ∧ c 41 4 = m 1 2 ∧ m 1 5 = -1) : Rt m c := Or.inl h
theorem rt_i2 {m c : ME} (h : (1 ≤ m 1 4 ∧ m 1 4 ≤ 3) ∧ c 41 5 = m 1 5 ∧ 0 ≤ m 1 5 ∧ c 41 6 = m 1 4) : Rt m c := Or.inr h
theorem rt_ok {m c : ME} (h : Rt m c) (q : m 1 4 = 0) : m 1 4 = 0 ∧ c 41 5 = -1 ∧ c 41 4 = m 1 2 ∧ m 1 5 = -1 := h.elim id (fun z => by omega)
theorem rt_bad {m c : ME} (h : Rt m c) (q : ¬ m 1 4 = 0) : (1 ≤ m 1 4 ∧ m 1 4 ≤ 3) ∧ c 41 5 = m 1 5 ∧ 0 ≤ m 1 5 ∧ c 41 6 = m 1 4 := h.elim (fun z => absurd z.1 q) id
theorem rt_fr {m c m2 c2 : ME} (h : Rt m c) (p1 : m2 1 4 = m 1 4) (p2 : m2 1 2 = m 1 2) (p3 : m2 1 5 = m 1 5) (q1 : c2 41 5 = c 41 5) (q2 : c2 41 4 = c 41 4) (q3 : c2 41 6 = c 41 6) : Rt m2 c2 := by
  unfold Rt
  rw [p1, p2, p3, q1, q2, q3]
  exact h
end
section
/-! ===== the plans that a world names ===== -/
theorem wd_pq {P Q N T P' Q' N' T' : Nat} {x y : ME} (h : Wd P Q N T x = Wd P' Q' N' T' y) : P = P' ∧ Q = Q' := by
  refine hv_ (wd_ce h (a := 0) (by decide)) (fun e => ?_)
  refine hv_ (p := fe x 0 0 [some 1, some 3, some 7, some 9, some 10, some 11, some 12, some P, some Q, some 37, some 39, none, none, none] = fe y 0 0 [some 1, some 3, some 7, some 9, some 10, some 11, some 12, some P', some Q', some 37, some 39, none, none, none]) ((Prod.mk.inj (Sum.inr.inj e)).2) (fun e2 => ?_)
  refine hv_ (congrArg (fun l : List Value => l[7]?) e2) (fun e7 => ?_)
  refine hv_ (congrArg (fun l : List Value => l[8]?) e2) (fun e8 => ?_)
  refine hv_ (p := (fe x 0 0 _)[7]? = (fe y 0 0 _)[7]?) (e7) (fun e7 => ?_)
  rw [fe_some (t := P) (j := 7) rfl, fe_some (t := P') (j := 7) rfl] at e7
  refine hv_ (p := (fe x 0 0 _)[8]? = (fe y 0 0 _)[8]?) (e8) (fun e8 => ?_)
  rw [fe_some (t := Q) (j := 8) rfl, fe_some (t := Q') (j := 8) rfl] at e8
  exact ⟨Value.ref.inj (Option.some.inj e7), Value.ref.inj (Option.some.inj e8)⟩
/-! the first places of two arrays are alike -/
noncomputable def Ae (n : Int) (f g : Int → Int) : Prop := ∀ j : Int, 0 ≤ j → j < n → f j = g j
section AE
variable {n n2 i v : Int} {f g f2 g2 : Int → Int}
theorem ae_z (h : n ≤ 0) : Ae n f g := fun j h1 h2 => absurd h2 (by omega)
theorem ae_le (h : Ae n f g) (hn : n2 ≤ n) : Ae n2 f g := fun j h1 h2 => h j h1 (by omega)
theorem ae_fr (h : Ae n f g) (hf : ∀ j : Int, f2 j = f j) (hg : ∀ j : Int, g2 j = g j) : Ae n f2 g2 := fun j h1 h2 => by
  rw [hf j, hg j]
  exact h j h1 h2
theorem ae_l (h : Ae n f g) (hf : ∀ j : Int, 0 ≤ j → j < n → f2 j = f j) : Ae n f2 g := fun j h1 h2 => (hf j h1 h2).trans (h j h1 h2)
theorem ae_w (h : Ae n f g) (hn : n2 ≤ n ∨ n2 = n + 1 ∧ i = n) (hf : f2 i = v) (hg : g2 i = v) (hf2 : ∀ j : Int, ¬ j = i → f2 j = f j) (hg2 : ∀ j : Int, ¬ j = i → g2 j = g j) : Ae n2 f2 g2 := fun j h1 h2 => by
  by_cases e : j = i
  · rw [e, hf, hg]
  · rw [hf2 j e, hg2 j e]
    exact h j h1 (by omega)
theorem ae_rd (h : Ae n f g) (h1 : 0 ≤ i) (h2 : i < n) : f i = g i := h i h1 h2
theorem ae_4 (h0 : f 0 = g 0) (h1 : f 1 = g 1) (h2 : f 2 = g 2) (h3 : f 3 = g 3) : Ae 4 f g := fun j a b => by
  refine hv_ (p := j = 0 ∨ j = 1 ∨ j = 2 ∨ j = 3) (by omega) (fun e => ?_)
  rcases e with rfl | rfl | rfl | rfl
  · exact h0
  · exact h1
  · exact h2
  · exact h3
end AE
theorem wide {lo hi x : Int} (h : lo ≤ x ∧ x ≤ hi) (h1 : -2147483648 ≤ lo) (h2 : hi ≤ 2147483647) : -2147483648 ≤ x ∧ x ≤ 2147483647 := ⟨by omega, by omega⟩
/-! how many of four places are taken -/
noncomputable def cn1 (x : Int) : Int := if 0 ≤ x then 1 else 0
noncomputable def cnt (f : Int → Int) : Int := cn1 (f 0) + cn1 (f 1) + cn1 (f 2) + cn1 (f 3)
theorem cn1_r (x : Int) : 0 ≤ cn1 x ∧ cn1 x ≤ 1 := by
  unfold cn1
  split <;> omega
theorem cnt_r (f : Int → Int) : 0 ≤ cnt f ∧ cnt f ≤ 4 := by
  refine hv_ (cn1_r (f 0)) (fun a => ?_)
  refine hv_ (cn1_r (f 1)) (fun b => ?_)
  refine hv_ (cn1_r (f 2)) (fun c => ?_)
  refine hv_ (cn1_r (f 3)) (fun d => ?_)
  unfold cnt
  omega
theorem cnt_0 {f : Int → Int} (h0 : f 0 = -1) (h1 : f 1 = -1) (h2 : f 2 = -1) (h3 : f 3 = -1) : cnt f = 0 := by
  unfold cnt
  rw [h0, h1, h2, h3]
  decide
theorem cnt_w {f f2 : Int → Int} {i v : Int} (h1 : 0 ≤ i) (h2 : i ≤ 3) (ho : f i = -1) (hv : f2 i = v) (h0 : 0 ≤ v) (hf : ∀ j : Int, ¬ j = i → f2 j = f j) : cnt f2 = cnt f + 1 := by
  refine hv_ (p := cn1 (-1) = 0) (by decide) (fun a0 => ?_)
  refine hv_ (p := cn1 v = 1) (if_pos h0) (fun a1 => ?_)
  refine hv_ (p := i = 0 ∨ i = 1 ∨ i = 2 ∨ i = 3) (by omega) (fun e => ?_)
  unfold cnt
  rcases e with rfl | rfl | rfl | rfl
  · rw [ho, hv, hf 1 (by decide), hf 2 (by decide), hf 3 (by decide), a0, a1]
    omega
  · rw [ho, hv, hf 0 (by decide), hf 2 (by decide), hf 3 (by decide), a0, a1]
    omega
  · rw [ho, hv, hf 0 (by decide), hf 1 (by decide), hf 3 (by decide), a0, a1]
    omega
  · rw [ho, hv, hf 0 (by decide), hf 1 (by decide), hf 2 (by decide), a0, a1]
    omega
theorem cnt_lt {f : Int → Int} {i : Int} (h1 : 0 ≤ i) (h2 : i ≤ 3) (ho : f i = -1) : cnt f ≤ 3 := by
  refine hv_ (cn1_r (f 0)) (fun a => ?_)
  refine hv_ (cn1_r (f 1)) (fun b => ?_)
  refine hv_ (cn1_r (f 2)) (fun c => ?_)
  refine hv_ (cn1_r (f 3)) (fun d => ?_)
  refine hv_ (p := cn1 (-1) = 0) (by decide) (fun a0 => ?_)
  refine hv_ (p := i = 0 ∨ i = 1 ∨ i = 2 ∨ i = 3) (by omega) (fun e => ?_)
  unfold cnt
  rcases e with rfl | rfl | rfl | rfl <;> rw [ho, a0] <;> omega
/-! codes of the law on both sides -/
noncomputable def Cr (v w o : Int) : Prop := (0 ≤ v ∧ v < 1000 ∧ w = 0 ∧ o = v) ∨ (1000 ≤ v ∧ v < 1008 ∧ w = 1 ∧ o = v - 1000) ∨ (2000 ≤ v ∧ v ≤ 2003 ∧ w = v - 1998 ∧ o = 0) ∨ (v = 2004 ∧ w = 8 ∧ o = 0) ∨ (2005 ≤ v ∧ v ≤ 2006 ∧ w = v - 1999 ∧ o = 0)
noncomputable def Ce (n : Int) (f g h : Int → Int) : Prop := ∀ j : Int, 0 ≤ j → j < n → Cr (f j) (g j) (h j)
section CE
variable {n n2 i v w o : Int} {f g h f2 g2 h2 : Int → Int}
theorem ce_z (q : n ≤ 0) : Ce n f g h := fun j a b => absurd b (by omega)
theorem ce_le (q : Ce n f g h) (hn : n2 ≤ n) : Ce n2 f g h := fun j a b => q j a (by omega)
theorem ce_fr (q : Ce n f g h) (hf : ∀ j : Int, f2 j = f j) (hg : ∀ j : Int, g2 j = g j) (hh : ∀ j : Int, h2 j = h j) : Ce n f2 g2 h2 := fun j a b => by
  rw [hf j, hg j, hh j]
  exact q j a b
theorem ce_l (q : Ce n f g h) (hf : ∀ j : Int, 0 ≤ j → j < n → f2 j = f j) : Ce n f2 g h := fun j a b => by
  rw [hf j a b]
  exact q j a b
theorem ce_w (q : Ce n f g h) (hn : n2 = n + 1 ∧ i = n) (hf : f2 i = v) (hg : g2 i = w) (hh : h2 i = o) (hf2 : ∀ j : Int, ¬ j = i → f2 j = f j) (hg2 : ∀ j : Int, ¬ j = i → g2 j = g j) (hh2 : ∀ j : Int, ¬ j = i → h2 j = h j) (hc : Cr v w o) : Ce n2 f2 g2 h2 := fun j a b => by
  by_cases e : j = i
  · rw [e, hf, hg, hh]
    exact hc
  · rw [hf2 j e, hg2 j e, hh2 j e]
    exact q j a (by omega)
end CE
/-! how long a word is -/
theorem wl_again {b : Int → Int} {r l : Int} (hr : r ≤ l) (h : ∀ j : Int, r ≤ j → j < l → 97 ≤ b j ∧ b j ≤ 122) (hv : wv b r l = 1279278) : l - r = 5 := by
  rcases wq_again hr h with e | e
  · exact e.2.1
  · exact absurd hv e.1
theorem wl_age {b : Int → Int} {r l : Int} (hr : r ≤ l) (h : ∀ j : Int, r ≤ j → j < l → 97 ≤ b j ∧ b j ≤ 122) (hv : wv b r l = 1253) : l - r = 3 := by
  rcases wq_age hr h with e | e
  · exact e.2.1
  · exact absurd hv e.1
theorem wl_all {b : Int → Int} {r l : Int} (hr : r ≤ l) (h : ∀ j : Int, r ≤ j → j < l → 97 ≤ b j ∧ b j ≤ 122) (hv : wv b r l = 1420) : l - r = 3 := by
  rcases wq_all hr h with e | e
  · exact e.2.1
  · exact absurd hv e.1
theorem wl_coarse {b : Int → Int} {r l : Int} (hr : r ≤ l) (h : ∀ j : Int, r ≤ j → j < l → 97 ≤ b j ∧ b j ≤ 122) (hv : wv b r l = 116443749) : l - r = 6 := by
  rcases wq_coarse hr h with e | e
  · exact e.2.1
  · exact absurd hv e.1
theorem wl_day {b : Int → Int} {r l : Int} (hr : r ≤ l) (h : ∀ j : Int, r ≤ j → j < l → 97 ≤ b j ∧ b j ≤ 122) (hv : wv b r l = 4153) : l - r = 3 := by
  rcases wq_day hr h with e | e
  · exact e.2.1
  · exact absurd hv e.1
theorem wl_fine {b : Int → Int} {r l : Int} (hr : r ≤ l) (h : ∀ j : Int, r ≤ j → j < l → 97 ≤ b j ∧ b j ≤ 122) (hv : wv b r l = 206277) : l - r = 4 := by
  rcases wq_fine hr h with e | e
  · exact e.2.1
  · exact absurd hv e.1
theorem wl_grind {b : Int → Int} {r l : Int} (hr : r ≤ l) (h : ∀ j : Int, r ≤ j → j < l → 97 ≤ b j ∧ b j ≤ 122) (hv : wv b r l = 7939524) : l - r = 5 := by
  rcases wq_grind hr h with e | e
  · exact e.2.1
  · exact absurd hv e.1
theorem wl_husk {b : Int → Int} {r l : Int} (hr : r ≤ l) (h : ∀ j : Int, r ≤ j → j < l → 97 ≤ b j ∧ b j ≤ 122) (hv : wv b r l = 284267) : l - r = 4 := by
  rcases wq_husk hr h with e | e
  · exact e.2.1
  · exact absurd hv e.1
theorem wl_jar {b : Int → Int} {r l : Int} (hr : r ≤ l) (h : ∀ j : Int, r ≤ j → j < l → 97 ≤ b j ∧ b j ≤ 122) (hv : wv b r l = 10290) : l - r = 3 := by
  rcases wq_jar hr h with e | e
  · exact e.2.1
  · exact absurd hv e.1
theorem wl_least {b : Int → Int} {r l : Int} (hr : r ≤ l) (h : ∀ j : Int, r ≤ j → j < l → 97 ≤ b j ∧ b j ≤ 122) (hv : wv b r l = 12748404) : l - r = 5 := by
  rcases wq_least hr h with e | e
  · exact e.2.1
  · exact absurd hv e.1
theorem wl_mid {b : Int → Int} {r l : Int} (hr : r ≤ l) (h : ∀ j : Int, r ≤ j → j < l → 97 ≤ b j ∧ b j ≤ 122) (hv : wv b r l = 13604) : l - r = 3 := by
  rcases wq_mid hr h with e | e
  · exact e.2.1
  · exact absurd hv e.1
theorem wl_most {b : Int → Int} {r l : Int} (hr : r ≤ l) (h : ∀ j : Int, r ≤ j → j < l → 97 ≤ b j ∧ b j ≤ 122) (hv : wv b r l = 441972) : l - r = 4 := by
  rcases wq_most hr h with e | e
  · exact e.2.1
  · exact absurd hv e.1
theorem wl_pour {b : Int → Int} {r l : Int} (hr : r ≤ l) (h : ∀ j : Int, r ≤ j → j < l → 97 ≤ b j ∧ b j ≤ 122) (hv : wv b r l = 540338) : l - r = 4 := by
  rcases wq_pour hr h with e | e
  · exact e.2.1
  · exact absurd hv e.1
theorem wl_scoop {b : Int → Int} {r l : Int} (hr : r ≤ l) (h : ∀ j : Int, r ≤ j → j < l → 97 ≤ b j ∧ b j ≤ 122) (hv : wv b r l = 20037104) : l - r = 5 := by
  rcases wq_scoop hr h with e | e
  · exact e.2.1
  · exact absurd hv e.1
theorem wl_sell {b : Int → Int} {r l : Int} (hr : r ≤ l) (h : ∀ j : Int, r ≤ j → j < l → 97 ≤ b j ∧ b j ≤ 122) (hv : wv b r l = 628108) : l - r = 4 := by
  rcases wq_sell hr h with e | e
  · exact e.2.1
  · exact absurd hv e.1
theorem wl_sift {b : Int → Int} {r l : Int} (hr : r ≤ l) (h : ∀ j : Int, r ≤ j → j < l → 97 ≤ b j ∧ b j ≤ 122) (hv : wv b r l = 632020) : l - r = 4 := by
  rcases wq_sift hr h with e | e
  · exact e.2.1
  · exact absurd hv e.1
theorem wl_tear {b : Int → Int} {r l : Int} (hr : r ≤ l) (h : ∀ j : Int, r ≤ j → j < l → 97 ≤ b j ∧ b j ≤ 122) (hv : wv b r l = 660530) : l - r = 4 := by
  rcases wq_tear hr h with e | e
  · exact e.2.1
  · exact absurd hv e.1
theorem wn1 {b : Int → Int} {r l : Int} (hr : r ≤ l) (h : ∀ j : Int, r ≤ j → j < l → 97 ≤ b j ∧ b j ≤ 122) : wd1_0 b r l = -1 ∨ 3 ≤ l - r := by
  rcases wr1 hr h with e0 | e1 | e2 | e3 | e4 | e5 | e6 | e7 | e8 | e9 | e10
  · have := wl_fine hr h e0.2
    omega
  · have := wl_mid hr h e1.2
    omega
  · have := wl_coarse hr h e2.2
    omega
  · have := wl_husk hr h e3.2
    omega
  · have := wl_all hr h e4.2
    omega
  · have := wl_age hr h e5.2
    omega
  · have := wl_day hr h e6.2
    omega
  · have := wl_jar hr h e7.2
    omega
  · have := wl_least hr h e8.2
    omega
  · have := wl_most hr h e9.2
    omega
  · exact Or.inl e10.1
theorem wn10 {b : Int → Int} {r l : Int} (hr : r ≤ l) (h : ∀ j : Int, r ≤ j → j < l → 97 ≤ b j ∧ b j ≤ 122) : wd10_0 b r l = -1 ∨ 3 ≤ l - r := by
  rcases wr10 hr h with e0 | e1 | e2 | e3 | e4 | e5 | e6 | e7 | e8
  · have := wl_grind hr h e0.2
    omega
  · have := wl_sift hr h e1.2
    omega
  · have := wl_pour hr h e2.2
    omega
  · have := wl_scoop hr h e3.2
    omega
  · have := wl_tear hr h e4.2
    omega
  · have := wl_sell hr h e5.2
    omega
  · have := wl_day hr h e6.2
    omega
  · have := wl_again hr h e7.2
    omega
  · exact Or.inl e8.1
/-! the reference's text, read off its world -/
theorem rt_wd {P Q N T P' Q' N' T' u u2 : Nat} {e e2 : Int} {P1 Q1 P3 Q3 : Nat} {m x y : ME} (h : Rt m x) (hw : Wd P Q N T x = Wd P' Q' N' T' y) (hx : Iv u e P1 Q1 x) (hy : Iv u2 e2 P3 Q3 y) : Rt m y :=
  rt_fr h rfl rfl rfl (wd_fv (z := 5) 5 rfl hw rfl rfl rfl rfl (by decide) rfl (wide (ir_41_5 hx) (by decide) (by decide)) (wide (ir_41_5 hy) (by decide) (by decide))) (wd_fv (z := 4) 4 rfl hw rfl rfl rfl rfl (by decide) rfl (wide (ir_41_4 hx) (by decide) (by decide)) (wide (ir_41_4 hy) (by decide) (by decide))) (wd_fv (z := 6) 6 rfl hw rfl rfl rfl rfl (by decide) rfl (wide (ir_41_6 hx) (by decide) (by decide)) (wide (ir_41_6 hy) (by decide) (by decide)))
/-! what a word can be -/
theorem wd1_r {b : Int → Int} {r l : Int} : -1 ≤ wd1_0 b r l ∧ wd1_0 b r l ≤ 9 := by
  unfold wd1_0 wd1_1 wd1_2 wd1_3 wd1_4 wd1_5 wd1_6 wd1_7 wd1_8 wd1_9 wd1_10
  repeat' split
  all_goals omega
theorem wd10_r {b : Int → Int} {r l : Int} : -1 ≤ wd10_0 b r l ∧ wd10_0 b r l ≤ 7 := by
  unfold wd10_0 wd10_1 wd10_2 wd10_3 wd10_4 wd10_5 wd10_6 wd10_7 wd10_8
  repeat' split
  all_goals omega
theorem cr_i0 {v w o : Int} (h : 0 ≤ v ∧ v < 1000 ∧ w = 0 ∧ o = v) : Cr v w o := Or.inl h
theorem cr_i1 {v w o : Int} (h : 1000 ≤ v ∧ v < 1008 ∧ w = 1 ∧ o = v - 1000) : Cr v w o := Or.inr (Or.inl h)
theorem cr_i2 {v w o : Int} (h : 2000 ≤ v ∧ v ≤ 2003 ∧ w = v - 1998 ∧ o = 0) : Cr v w o := Or.inr (Or.inr (Or.inl h))
theorem cr_i3 {v w o : Int} (h : v = 2004 ∧ w = 8 ∧ o = 0) : Cr v w o := Or.inr (Or.inr (Or.inr (Or.inl h)))
theorem cr_i4 {v w o : Int} (h : 2005 ≤ v ∧ v ≤ 2006 ∧ w = v - 1999 ∧ o = 0) : Cr v w o := Or.inr (Or.inr (Or.inr (Or.inr h)))
end
section
/-! ===== what both sides hold, whole ===== -/
theorem ae_cp {n : Int} {f g g2 : Int → Int} (h : Ae n f g) (hc : ∀ j : Int, 0 ≤ j → j < n → g2 j = g j) : Ae n f g2 := fun j h1 h2 => (h j h1 h2).trans (hc j h1 h2).symm
theorem ae_cg {n : Int} {f f2 g : Int → Int} (h : Ae n f g) (e : ∀ j : Int, 0 ≤ j → j < n → f2 j = f j) : Ae n f2 g := fun j h1 h2 => (e j h1 h2).trans (h j h1 h2)
theorem ae_fr2 {n n2 : Int} {f g f2 g2 : Int → Int} (h : Ae n f g) (hn : n2 = n) (hf : ∀ j : Int, f2 j = f j) (hg : ∀ j : Int, g2 j = g j) : Ae n2 f2 g2 := hn.symm ▸ ae_fr h hf hg
/-! a step of both sides: what is told of it, by its kind -/
noncomputable def Sx (sv t a0 a1 a2 a3 a4 b0 b1 b2 b3 b4 : Int) : Prop := a0 = b0 ∧ (0 ≤ a0 ∧ a0 ≤ 7) ∧ (a0 = 6 ∨ a1 = b1) ∧ (a0 ≤ 3 → a2 = b2) ∧ (a0 = 7 → b2 = 5 * a2 ∧ t + 1 ≤ a2) ∧ (a0 = 1 ∨ a0 = 3 → a3 = b3) ∧ (a0 = 1 → a4 = b4) ∧ (a0 = 4 → a1 < sv) ∧ (a0 = 3 → 1 ≤ a3)
noncomputable def St (sv lo n : Int) (f g : Int → Int) : Prop := ∀ t : Int, lo ≤ t → t < n → Sx sv t (f (5 * t)) (f (5 * t + 1)) (f (5 * t + 2)) (f (5 * t + 3)) (f (5 * t + 4)) (g (5 * t)) (g (5 * t + 1)) (g (5 * t + 2)) (g (5 * t + 3)) (g (5 * t + 4))
section ST
variable {sv lo n n2 t : Int} {f g f2 g2 : Int → Int}
theorem st_z (h : n ≤ lo) : St sv lo n f g := fun t h1 h2 => absurd h2 (by omega)
theorem st_le (h : St sv lo n f g) (hn : n2 ≤ n) : St sv lo n2 f g := fun t h1 h2 => h t h1 (by omega)
theorem st_fr (h : St sv lo n f g) (hf : ∀ j : Int, 5 * lo ≤ j → j < 5 * n → f2 j = f j) (hg : ∀ j : Int, 5 * lo ≤ j → j < 5 * n → g2 j = g j) : St sv lo n f2 g2 := fun t h1 h2 => by
  rw [hf _ (by omega) (by omega), hf _ (by omega) (by omega), hf _ (by omega) (by omega), hf _ (by omega) (by omega), hf _ (by omega) (by omega), hg _ (by omega) (by omega), hg _ (by omega) (by omega), hg _ (by omega) (by omega), hg _ (by omega) (by omega), hg _ (by omega) (by omega)]
  exact h t h1 h2
theorem st_l (h : St sv lo n f g) (h0 : 0 ≤ lo) (hf : ∀ j : Int, 0 ≤ j → j < 5 * n → f2 j = f j) : St sv lo n f2 g := st_fr h (fun j h1 h2 => hf j (by omega) h2) (fun _ _ _ => rfl)
theorem st_one (h : Sx sv t (f (5 * t)) (f (5 * t + 1)) (f (5 * t + 2)) (f (5 * t + 3)) (f (5 * t + 4)) (g (5 * t)) (g (5 * t + 1)) (g (5 * t + 2)) (g (5 * t + 3)) (g (5 * t + 4))) (hl : lo = t) (hn : n = t + 1) : St sv lo n f g := fun i h1 h2 => by
  refine hv_ (p := i = t) (by omega) (fun e => ?_)
  subst e
  exact h
theorem st_j (h : St sv lo t f g) (h2 : St sv t n f g) : St sv lo n f g := fun i q1 q2 => by
  by_cases q : i < t
  · exact h i q1 q
  · exact h2 i (by omega) q2
theorem st_ap {c : ME} (h : St sv 0 n f (c 56)) {m : Int} (hm : m = 5 * n) : Ap c 56 0 m := fun i h1 h2 h7 => by
  refine hv_ (h i (by omega) (by omega)) (fun q => ?_)
  unfold Sx at q
  omega
end ST
/-! how many works each image has -/
noncomputable def Iw (n : Int) (f g : Int → Int) : Prop := ∀ i : Int, 0 ≤ i → i < n → f i = g (630 * i + 629)
section IW
variable {n n2 : Int} {f g f2 g2 : Int → Int}
theorem iw_z (h : n ≤ 0) : Iw n f g := fun i h1 h2 => absurd h2 (by omega)
theorem iw_fr2 (h : Iw n f g) (hn : n2 ≤ n) (hf : ∀ j : Int, f2 j = f j) (hg : ∀ j : Int, g2 j = g j) : Iw n2 f2 g2 := fun i h1 h2 => by
  rw [hf, hg]
  exact h i h1 (by omega)
theorem iw_w (h : Iw n f g) (hn : n2 = n + 1) (hv : f2 n = g2 (630 * n + 629)) (hf : ∀ j : Int, ¬ j = n → f2 j = f j) (hg : ∀ j : Int, j % 630 = 629 → ¬ j = 630 * n + 629 → g2 j = g j) : Iw n2 f2 g2 := fun i h1 h2 => by
  by_cases e : i = n
  · rw [e]
    exact hv
  · rw [hf i e, hg (630 * i + 629) (by omega) (by omega)]
    exact h i h1 (by omega)
end IW
end
section
/-! ===== the law, as a function of its codes ===== -/
noncomputable def dv (a b : Int) : Int := (Int32.ofInt a / Int32.ofInt b).toInt
noncomputable def rm (a b : Int) : Int := (Int32.ofInt a - Int32.ofInt a / Int32.ofInt b * Int32.ofInt b).toInt
theorem dv_rng (a b : Int) : -2147483648 ≤ dv a b ∧ dv a b ≤ 2147483647 := c_rng _
theorem rm_rng (a b : Int) : -2147483648 ≤ rm a b ∧ rm a b ≤ 2147483647 := c_rng _
section LV
variable {sc : List Int32} {d k pc len nc ns : Nat} {ls : AL} {st r : List Value} {w : AW} {Z : AR → Prop}
theorem v_nrw {a : Int} (K : Wp sc d k pc ls (vi (wr a) :: st) w nc ns Z) : Wp sc d k pc ls (vi a :: st) w nc ns Z := by
  refine hv_ (p := vi (wr a) = vi a) (congrArg Value.int (wr_of a)) (fun e => ?_)
  rw [← e]
  exact K
theorem v_idive {a b : Int} (hd : mLk k pc = some (.idiv, len)) (hb : ¬ b = 0 ∧ -2147483648 ≤ b ∧ b ≤ 2147483647) (K : Wp sc d k (pc + 1) ls (vi (dv a b) :: r) w nc ns Z) : Wp sc d k pc ls (vi b :: vi a :: r) w nc ns Z := by
  refine hv_ (K) (fun q => ?_)
  unfold vi dv at q
  rw [Int32.ofInt_toInt] at q
  exact q_idiv hd (c_ne (b := 0) ⟨hb.1, hb.2, by omega, by omega⟩) q
theorem v_ireme {a b : Int} (hd : mLk k pc = some (.irem, len)) (hb : ¬ b = 0 ∧ -2147483648 ≤ b ∧ b ≤ 2147483647) (K : Wp sc d k (pc + 1) ls (vi (rm a b) :: r) w nc ns Z) : Wp sc d k pc ls (vi b :: vi a :: r) w nc ns Z := by
  refine hv_ (K) (fun q => ?_)
  unfold vi rm at q
  rw [Int32.ofInt_toInt] at q
  exact q_irem hd (c_ne (b := 0) ⟨hb.1, hb.2, by omega, by omega⟩) q
end LV
noncomputable def jn (w a b : Int) : Int := if w = 2 then wr (a + b) else if w = 3 then wr (a - b) else if w = 4 then wr (a * b) else if w = 5 then (if b = 0 then 0 else dv a b) else if w = 8 then (if b = 0 then 0 else rm a b) else if w = 6 then (if a < b then a else b) else (if a < b then b else a)
section JN
variable {w a b : Int}
theorem jn_2 (h : w = 2) : jn w a b = wr (a + b) := by subst h; rfl
theorem jn_3 (h : w = 3) : jn w a b = wr (a - b) := by subst h; rfl
theorem jn_4 (h : w = 4) : jn w a b = wr (a * b) := by subst h; rfl
theorem jn_5 (h : w = 5) (hb : ¬ b = 0) : jn w a b = dv a b := by subst h; exact if_neg hb
theorem jn_5z (h : w = 5) (hb : b = 0) : jn w a b = 0 := by subst h; exact if_pos hb
theorem jn_8 (h : w = 8) (hb : ¬ b = 0) : jn w a b = rm a b := by subst h; exact if_neg hb
theorem jn_8z (h : w = 8) (hb : b = 0) : jn w a b = 0 := by subst h; exact if_pos hb
theorem jn_6a (h : w = 6) (q : a ≤ b) : jn w a b = a := by
  subst h
  show (if a < b then a else b) = a
  split <;> omega
theorem jn_6b (h : w = 6) (q : b ≤ a) : jn w a b = b := by
  subst h
  show (if a < b then a else b) = b
  split <;> omega
theorem jn_7a (h : w = 7) (q : b ≤ a) : jn w a b = a := by
  subst h
  show (if a < b then b else a) = a
  split <;> omega
theorem jn_7b (h : w = 7) (q : a ≤ b) : jn w a b = b := by
  subst h
  show (if a < b then b else a) = b
  split <;> omega
end JN
noncomputable def bnd (v : Int) : Int := if v < 0 then 0 else if 99 < v then 99 else v
theorem bnd_l {v : Int} (h : v < 0) : bnd v = 0 := if_pos h
theorem bnd_h {v : Int} (h : 99 < v) : bnd v = 99 := by
  unfold bnd
  rw [if_neg (by omega), if_pos h]
theorem bnd_m {v : Int} (h : 0 ≤ v ∧ v ≤ 99) : bnd v = v := by
  unfold bnd
  rw [if_neg (by omega), if_neg (by omega)]
theorem bnd_r (v : Int) : 0 ≤ bnd v ∧ bnd v ≤ 99 := by
  unfold bnd
  split
  · omega
  · split <;> omega
noncomputable def nmf (x0 x1 x2 x3 x5 x6 x7 : Int) (i : Int) : Int := if i = 0 then x0 else if i = 1 then x1 else if i = 2 then x2 else if i = 3 then x3 else if i = 4 then x0 + x1 + x2 + x3 else if i = 5 then x5 else if i = 6 then x6 else x7
/-- what stands on the pile behind so many codes -/
noncomputable def pil (nm G H : Int → Int) : Nat → Int → Int
  | 0 => fun _ => 0
  | k + 1 => if G k = 0 then ud (pil nm G H k) (hgt G k) (H k) else if G k = 1 then ud (pil nm G H k) (hgt G k) (nm (H k)) else ud (pil nm G H k) (hgt G k - 2) (jn (G k) (pil nm G H k (hgt G k - 2)) (pil nm G H k (hgt G k - 1)))
noncomputable def pw (G H : Int → Int) (n x0 x1 x2 x3 x5 x6 x7 : Int) : Int := bnd (if n = 0 then 90 * x0 / (x0 + x1 + x2 + x3 + 1) else pil (nmf x0 x1 x2 x3 x5 x6 x7) G H n.toNat 0)
theorem pw_r (G H : Int → Int) (n x0 x1 x2 x3 x5 x6 x7 : Int) : 0 ≤ pw G H n x0 x1 x2 x3 x5 x6 x7 ∧ pw G H n x0 x1 x2 x3 x5 x6 x7 ≤ 99 := bnd_r _
noncomputable def Pg (nm G H : Int → Int) (k : Int) (f : Int → Int) : Prop := ∀ j : Int, 0 ≤ j → j < hgt G k.toNat → f j = pil nm G H k.toNat j
section PG
variable {nm G H f f2 : Int → Int} {k k2 top v a b n r : Int}
theorem pg_z (hk : k = 0) : Pg nm G H k f := fun j h1 h2 => by
  subst hk
  refine hv_ (p := j < 0) (h2) (fun h3 => ?_)
  omega
theorem pg_fr (h : Pg nm G H k f) (hf : ∀ j : Int, f2 j = f j) : Pg nm G H k f2 := fun j h1 h2 => (hf j).trans (h j h1 h2)
theorem pil_s (h0 : 0 ≤ k) : pil nm G H (k + 1).toNat = (if G k = 0 then ud (pil nm G H k.toNat) (hgt G k.toNat) (H k) else if G k = 1 then ud (pil nm G H k.toNat) (hgt G k.toNat) (nm (H k)) else ud (pil nm G H k.toNat) (hgt G k.toNat - 2) (jn (G k) (pil nm G H k.toNat (hgt G k.toNat - 2)) (pil nm G H k.toNat (hgt G k.toNat - 1)))) := by
  obtain ⟨m, rfl⟩ := Int.eq_ofNat_of_zero_le h0
  rw [show ((m : Int) + 1).toNat = m + 1 by omega, Int.toNat_natCast]
  rfl
theorem pg_0 (h : Pg nm G H k f) (h0 : 0 ≤ k) (hk : k2 = k + 1) (ht : top = hgt G k.toNat) (hg : G k = 0) (hv : f2 top = v) (hv2 : v = H k) (hf : ∀ j : Int, ¬ j = top → f2 j = f j) : Pg nm G H k2 f2 := fun j h1 h2 => by
  subst hk
  refine hv_ ((hgt_s (f := G) h0).1 (by omega)) (fun hs => ?_)
  rw [hs] at h2
  rw [pil_s h0, if_pos hg]
  by_cases e : j = top
  · rw [ud_eq (e.trans ht), e, hv, hv2]
  · rw [ud_ne (fun q => e (q.trans ht.symm)), hf j e]
    exact h j h1 (by omega)
theorem pg_1 (h : Pg nm G H k f) (h0 : 0 ≤ k) (hk : k2 = k + 1) (ht : top = hgt G k.toNat) (hg : G k = 1) (hv : f2 top = v) (hv2 : v = nm (H k)) (hf : ∀ j : Int, ¬ j = top → f2 j = f j) : Pg nm G H k2 f2 := fun j h1 h2 => by
  subst hk
  refine hv_ ((hgt_s (f := G) h0).1 (by omega)) (fun hs => ?_)
  rw [hs] at h2
  rw [pil_s h0, if_neg (by omega), if_pos hg]
  by_cases e : j = top
  · rw [ud_eq (e.trans ht), e, hv, hv2]
  · rw [ud_ne (fun q => e (q.trans ht.symm)), hf j e]
    exact h j h1 (by omega)
theorem pg_2 (h : Pg nm G H k f) (h0 : 0 ≤ k) (hk : k2 = k + 1) (ht : top = hgt G k.toNat) (hg : 2 ≤ G k) (h2t : 2 ≤ top) (ha : f (top - 2) = a) (hb : f (top - 1) = b) (hv : f2 (top - 2) = v) (hv2 : jn (G k) a b = v) (hf : ∀ j : Int, ¬ j = top - 2 → f2 j = f j) : Pg nm G H k2 f2 := fun j h1 h2 => by
  subst hk
  refine hv_ ((hgt_s (f := G) h0).2 hg) (fun hs => ?_)
  rw [hs] at h2
  rw [pil_s h0, if_neg (by omega), if_neg (by omega)]
  refine hv_ (h (top - 2) (by omega) (by omega)) (fun ea => ?_)
  refine hv_ (h (top - 1) (by omega) (by omega)) (fun eb => ?_)
  rw [ha] at ea
  rw [hb] at eb
  by_cases e : j = top - 2
  · rw [ud_eq (by omega), e, hv, ← hv2, ea, eb, ht]
  · rw [ud_ne (by omega), hf j e]
    exact h j h1 (by omega)
theorem pw_n {x0 x1 x2 x3 x5 x6 x7 p : Int} (hn : ¬ n = 0) (hp : p = pil (nmf x0 x1 x2 x3 x5 x6 x7) G H n.toNat 0) (hb : bnd p = r) : pw G H n x0 x1 x2 x3 x5 x6 x7 = r := by
  unfold pw
  rw [if_neg hn, ← hp]
  exact hb
theorem pw_0 {x0 x1 x2 x3 x5 x6 x7 : Int} (hn : n = 0) (hb : bnd (90 * x0 / (x0 + x1 + x2 + x3 + 1)) = r) : pw G H n x0 x1 x2 x3 x5 x6 x7 = r := by
  unfold pw
  rw [if_pos hn]
  exact hb
theorem ae_8 {g : Int → Int} (h0 : f 0 = g 0) (h1 : f 1 = g 1) (h2 : f 2 = g 2) (h3 : f 3 = g 3) (h4 : f 4 = g 4) (h5 : f 5 = g 5) (h6 : f 6 = g 6) (h7 : f 7 = g 7) : Ae 8 f g := fun j a b => by
  refine hv_ (p := j = 0 ∨ j = 1 ∨ j = 2 ∨ j = 3 ∨ j = 4 ∨ j = 5 ∨ j = 6 ∨ j = 7) (by omega) (fun e => ?_)
  rcases e with rfl | rfl | rfl | rfl | rfl | rfl | rfl | rfl
  · exact h0
  · exact h1
  · exact h2
  · exact h3
  · exact h4
  · exact h5
  · exact h6
  · exact h7
theorem hgt_1 (h : Hw G H n) (hn : 1 ≤ n) : 1 ≤ hgt G n.toNat := by
  obtain ⟨m, hm⟩ : ∃ m : Nat, n = (m : Int) + 1 := ⟨(n - 1).toNat, by omega⟩
  subst hm
  refine hv_ (h m (by omega)) (fun h1 => ?_)
  refine hv_ (hgt_nn h m (by omega)) (fun h3 => ?_)
  refine hv_ (hgt_s (f := G) (k := (m : Int)) (by omega)) (fun h2 => ?_)
  rw [Int.toNat_natCast] at h2
  by_cases q : G m ≤ 1
  · have := h2.1 q
    omega
  · have := h2.2 (by omega)
    have := h1.1 (by omega)
    omega
theorem hw_k (h : Hw G H n) (h0 : 0 ≤ k) (hk : k < n) : (2 ≤ G k → 2 ≤ hgt G k.toNat) ∧ (G k = 1 → H k ≤ 7) := by
  refine hv_ (h k.toNat (by omega)) (fun q => ?_)
  rw [Int.toNat_of_nonneg h0] at q
  exact q
end PG
theorem div_r {a b : Int} (h : 0 ≤ a) (hb : 1 ≤ b) : 0 ≤ a / b ∧ a / b ≤ a := ⟨Int.ediv_nonneg h (by omega), Int.ediv_le_self b h⟩
theorem ce_fr2 {n n2 : Int} {f g h f2 g2 h2 : Int → Int} (q : Ce n f g h) (hn : n2 = n) (hf : ∀ j : Int, f2 j = f j) (hg : ∀ j : Int, g2 j = g j) (hh : ∀ j : Int, h2 j = h j) : Ce n2 f2 g2 h2 := hn.symm ▸ ce_fr q hf hg hh
theorem ce_cp {n : Int} {f g h f2 g2 h2 : Int → Int} (q : Ce n f g h) (hf : ∀ j : Int, 0 ≤ j → j < n → f2 j = f j) (hg : ∀ j : Int, 0 ≤ j → j < n → g2 j = g j) (hh : ∀ j : Int, 0 ≤ j → j < n → h2 j = h j) : Ce n f2 g2 h2 := fun j a b => by
  rw [hf j a b, hg j a b, hh j a b]
  exact q j a b
theorem ce_wd {P Q N T P' Q' N' T' u u2 : Nat} {e e2 a : Int} {P1 Q1 P3 Q3 : Nat} {x y : ME} {f : Int → Int} (h : Ce (x 41 29) f (x 50) (x 51)) (hl : a = x 41 29) (hw : Wd P Q N T x = Wd P' Q' N' T' y) (hx : Iv u e P1 Q1 x) (hy : Iv u2 e2 P3 Q3 y) : a = y 41 29 ∧ Ce (y 41 29) f (y 50) (y 51) := by
  refine hv_ (p := y 41 29 = x 41 29) (wd_fv (z := 29) 29 rfl hw rfl rfl rfl rfl (by decide) rfl (wide (ir_41_29 hx) (by decide) (by decide)) (wide (ir_41_29 hy) (by decide) (by decide))) (fun e29 => ?_)
  refine hv_ (ir_41_29 hx) (fun hb => ?_)
  refine ⟨hl.trans e29.symm, ?_⟩
  rw [e29]
  refine ce_cp h (fun j _ _ => rfl) (fun j h1 h2 => ?_) (fun j h1 h2 => ?_)
  · exact wd_av hw rfl rfl (by decide) (by decide) ⟨h1, by omega⟩ rfl (wide (ir_50 hx j) (by decide) (by decide)) (wide (ir_50 hy j) (by decide) (by decide))
  · exact wd_av hw rfl rfl (by decide) (by decide) ⟨h1, by omega⟩ rfl (wide (ir_51 hx j) (by decide) (by decide)) (wide (ir_51 hy j) (by decide) (by decide))
/-! ages and smaller ones -/
noncomputable def ag (g o n : Int) : Int := if 0 < g then (if o < n then n else o) else o
noncomputable def mn (a b : Int) : Int := if b < a then b else a
section AG
variable {g g0 g1 g2 g3 o n a b : Int}
theorem ag_1 (h : 0 < g) (q : o < n) : ag g o n = n := by unfold ag; rw [if_pos h, if_pos q]
theorem ag_2 (h : 0 < g) (q : n ≤ o) : ag g o n = o := by unfold ag; rw [if_pos h, if_neg (by omega)]
theorem ag_3 (h : g ≤ 0) : ag g o n = o := by unfold ag; rw [if_neg (by omega)]
theorem ag_or : ag g o n = n ∨ ag g o n = o := by
  unfold ag
  split
  · split
    · exact Or.inl rfl
    · exact Or.inr rfl
  · exact Or.inr rfl
theorem ag_s (h0 : 0 ≤ g0) (h1 : 0 ≤ g1) : ag g1 (ag g0 o n) n = ag (g0 + g1) o n := by
  by_cases p0 : 0 < g0
  · by_cases q : o < n
    · rw [ag_1 p0 q, ag_1 (g := g0 + g1) (by omega) q]
      by_cases p1 : 0 < g1
      · rw [ag_2 p1 (Int.le_refl n)]
      · rw [ag_3 (by omega)]
    · rw [ag_2 p0 (by omega), ag_2 (g := g0 + g1) (by omega) (by omega)]
      by_cases p1 : 0 < g1
      · rw [ag_2 p1 (by omega)]
      · rw [ag_3 (by omega)]
  · rw [ag_3 (g := g0) (by omega), show g0 + g1 = g1 by omega]
theorem ag_4 (h0 : 0 ≤ g0) (h1 : 0 ≤ g1) (h2 : 0 ≤ g2) (h3 : 0 ≤ g3) (hg : g = g0 + g1 + g2 + g3) : ag g3 (ag g2 (ag g1 (ag g0 o n) n) n) n = ag g o n := by
  rw [ag_s h0 h1, ag_s (by omega) h2, ag_s (by omega) h3, hg]
theorem mn_or : (mn a b = a ∧ a ≤ b) ∨ (mn a b = b ∧ b ≤ a) := by
  unfold mn
  by_cases h : b < a
  · rw [if_pos h]; exact Or.inr ⟨rfl, by omega⟩
  · rw [if_neg h]; exact Or.inl ⟨rfl, by omega⟩
end AG
section AV
variable {sc : List Int32} {d k pc len nc ns : Nat} {ls : AL} {st r : List Value} {w : AW} {Z : AR → Prop}
theorem v_mine {x j : Nat} {a b : Int} (hd : mLk k pc = some (.invokestatic x, len)) (hk : a_lk (kM (mK k)) x = some (4, j)) (h1 : 1 ≤ d) (hc : a_cat r ≤ 8) (h : -2147483648 ≤ a ∧ a ≤ 2147483647 ∧ -2147483648 ≤ b ∧ b ≤ 2147483647) (K : Wp sc d k (pc + 3) ls (vi (mn a b) :: r) w nc ns Z) : Wp sc d k pc ls (vi b :: vi a :: r) w nc ns Z :=
  v_minx hd hk h1 hc h (fun y hy => by
    refine hv_ (mn_or (a := a) (b := b)) (fun q => ?_)
    refine hv_ (p := y = mn a b) (by omega) (fun e => ?_)
    rw [e]
    exact K)
end AV
theorem ag_mx {g o n y : Int} (h : 0 < g) (h1 : o ≤ y ∧ n ≤ y) (h2 : y = o ∨ y = n) : ag g o n = y := by
  by_cases q : o < n
  · rw [ag_1 h q]; omega
  · rw [ag_2 h (by omega)]; omega
theorem mn_l {a b : Int} (h : b < a) : b = mn a b := (if_pos h).symm
theorem mn_r {a b : Int} (h : ¬ b < a) : a = mn a b := (if_neg h).symm
end
section
/-! ===== rows of both sides ===== -/
noncomputable def sh1 (k : Int) : Int := (Int32.ofInt 1 <<< (Int32.ofInt k &&& 31)).toInt
noncomputable def xo (a b : Int) : Int := (Int32.ofInt a ^^^ Int32.ofInt b).toInt
theorem sh1_rng (k : Int) : -2147483648 ≤ sh1 k ∧ sh1 k ≤ 2147483647 := c_rng _
noncomputable def io (a b : Int) : Int := (Int32.ofInt a ||| Int32.ofInt b).toInt
theorem io_rng (a b : Int) : -2147483648 ≤ io a b ∧ io a b ≤ 2147483647 := c_rng _
theorem xo_rng (a b : Int) : -2147483648 ≤ xo a b ∧ xo a b ≤ 2147483647 := c_rng _
section RV
variable {sc : List Int32} {d k pc len nc ns : Nat} {ls : AL} {st r : List Value} {w : AW} {Z : AR → Prop}
theorem v_shle {a : Int} (hd : mLk k pc = some (.ishl, len)) (K : Wp sc d k (pc + 1) ls (vi (sh1 a) :: r) w nc ns Z) : Wp sc d k pc ls (vi a :: vi 1 :: r) w nc ns Z := by
  refine hv_ (K) (fun q => ?_)
  unfold vi sh1 at q
  rw [Int32.ofInt_toInt] at q
  exact q_ishl hd q
theorem v_xore {a b : Int} (hd : mLk k pc = some (.ixor, len)) (K : Wp sc d k (pc + 1) ls (vi (xo a b) :: r) w nc ns Z) : Wp sc d k pc ls (vi b :: vi a :: r) w nc ns Z := by
  refine hv_ (K) (fun q => ?_)
  unfold vi xo at q
  rw [Int32.ofInt_toInt] at q
  exact q_ixor hd q
theorem v_iore {a b : Int} (hd : mLk k pc = some (.ior, len)) (K : Wp sc d k (pc + 1) ls (vi (io a b) :: r) w nc ns Z) : Wp sc d k pc ls (vi b :: vi a :: r) w nc ns Z := by
  refine hv_ (K) (fun q => ?_)
  unfold vi io at q
  rw [Int32.ofInt_toInt] at q
  exact q_ior hd q
theorem v_ior0 {a : Int} (hd : mLk k pc = some (.ior, len)) (K : Wp sc d k (pc + 1) ls (vi a :: r) w nc ns Z) : Wp sc d k pc ls (vi 0 :: vi a :: r) w nc ns Z := by
  refine hv_ (p := Int32.ofInt a ||| Int32.ofInt 0 = Int32.ofInt a) (Int32.or_zero) (fun e => ?_)
  refine hv_ (K) (fun q => ?_)
  unfold vi at q
  rw [← e] at q
  exact q_ior hd q
end RV
theorem bit_or {x : Int} (h : 0 ≤ x ∧ x ≤ 1) : x = 0 ∨ x = 1 := by omega
theorem tb_4 {a b c d : Int} (ha : 0 ≤ a ∧ a ≤ 1) (hb : 0 ≤ b ∧ b ≤ 1) (hc : 0 ≤ c ∧ c ≤ 1) (hd : 0 ≤ d ∧ d ≤ 1) : tb (a + 2 * b + 4 * c + 8 * d) 0 = a ∧ tb (a + 2 * b + 4 * c + 8 * d) 1 = b ∧ tb (a + 2 * b + 4 * c + 8 * d) 2 = c ∧ tb (a + 2 * b + 4 * c + 8 * d) 3 = d := by
  rcases bit_or ha with rfl | rfl <;> rcases bit_or hb with rfl | rfl <;> rcases bit_or hc with rfl | rfl <;> rcases bit_or hd with rfl | rfl <;> decide
theorem xo_4 {a b c d : Int} (ha : 0 ≤ a ∧ a ≤ 1) (hb : 0 ≤ b ∧ b ≤ 1) (hc : 0 ≤ c ∧ c ≤ 1) (hd : 0 ≤ d ∧ d ≤ 1) : xo (a + 2 * b + 4 * c + 8 * d) (sh1 0) = (1 - a) + 2 * b + 4 * c + 8 * d ∧ xo (a + 2 * b + 4 * c + 8 * d) (sh1 1) = a + 2 * (1 - b) + 4 * c + 8 * d ∧ xo (a + 2 * b + 4 * c + 8 * d) (sh1 2) = a + 2 * b + 4 * (1 - c) + 8 * d ∧ xo (a + 2 * b + 4 * c + 8 * d) (sh1 3) = a + 2 * b + 4 * c + 8 * (1 - d) := by
  rcases bit_or ha with rfl | rfl <;> rcases bit_or hb with rfl | rfl <;> rcases bit_or hc with rfl | rfl <;> rcases bit_or hd with rfl | rfl <;> decide
/-- which sieves are torn: none above those that are -/
noncomputable def Tn (nv : Int) (g : Int → Int) : Prop := ∀ k : Int, 30 ≤ k → k < 34 → (0 ≤ g k ∧ g k ≤ 1) ∧ (30 + nv ≤ k → g k = 0)
noncomputable def Sr (nv : Int) (f g : Int → Int) : Prop := (∀ j : Int, 0 ≤ j → j < 30 → f j = g j) ∧ f 30 = g 30 + 2 * g 31 + 4 * g 32 + 8 * g 33 ∧ Tn nv g ∧ f 31 = g 34 ∧ f 32 = g 35 ∧ f 33 = g 36
section SR
variable {nv nv2 i a : Int} {f g f2 g2 : Int → Int}
theorem sr_rd (h : Sr nv f g) (h0 : 0 ≤ i) (h1 : i < 30) : f i = g i := h.1 i h0 h1
theorem sr_31 (h : Sr nv f g) : f 31 = g 34 := h.2.2.2.1
theorem sr_32 (h : Sr nv f g) : f 32 = g 35 := h.2.2.2.2.1
theorem sr_33 (h : Sr nv f g) : f 33 = g 36 := h.2.2.2.2.2
theorem sr_tb (h : Sr nv f g) (h0 : 0 ≤ a) (h3 : a ≤ 3) (hi : i = 30 + a) : tb (f 30) a = g i := by
  refine hv_ ((h.2.2.1 30 (by decide) (by decide)).1) (fun b0 => ?_)
  refine hv_ ((h.2.2.1 31 (by decide) (by decide)).1) (fun b1 => ?_)
  refine hv_ ((h.2.2.1 32 (by decide) (by decide)).1) (fun b2 => ?_)
  refine hv_ ((h.2.2.1 33 (by decide) (by decide)).1) (fun b3 => ?_)
  refine hv_ (tb_4 b0 b1 b2 b3) (fun q => ?_)
  rw [h.2.1, hi]
  refine hv_ (p := a = 0 ∨ a = 1 ∨ a = 2 ∨ a = 3) (by omega) (fun e => ?_)
  rcases e with rfl | rfl | rfl | rfl
  · exact q.1
  · exact q.2.1
  · exact q.2.2.1
  · exact q.2.2.2
theorem sr_mk (h : Sr nv f g) (hp : ∀ j : Int, 0 ≤ j → j < 30 → f2 j = g2 j) (ht : f2 30 = f 30) (hk : ∀ j : Int, 30 ≤ j → j < 34 → g2 j = g j) (h1 : f2 31 = g2 34) (h2 : f2 32 = g2 35) (h3 : f2 33 = g2 36) : Sr nv f2 g2 := by
  refine ⟨hp, ?_, ?_, h1, h2, h3⟩
  · rw [ht, hk 30 (by decide) (by decide), hk 31 (by decide) (by decide), hk 32 (by decide) (by decide), hk 33 (by decide) (by decide)]
    exact h.2.1
  · intro k q1 q2
    rw [hk k q1 q2]
    exact h.2.2.1 k q1 q2
theorem sr_le (h : Sr nv f g) (hn : nv2 = nv) : Sr nv2 f g := hn.symm ▸ h
theorem sr_l (h : Sr nv f g) (hf : ∀ j : Int, 0 ≤ j → j < 34 → f2 j = f j) : Sr nv f2 g := sr_mk h (fun j h1 h2 => (hf j h1 (by omega)).trans (h.1 j h1 h2)) (hf 30 (by decide) (by decide)) (fun _ _ _ => rfl) ((hf 31 (by decide) (by decide)).trans (sr_31 h)) ((hf 32 (by decide) (by decide)).trans (sr_32 h)) ((hf 33 (by decide) (by decide)).trans (sr_33 h))
theorem sr_fr (h : Sr nv f g) (hf : ∀ j : Int, 0 ≤ j → j < 34 → f2 j = f j) (hg : ∀ j : Int, 0 ≤ j → j < 37 → g2 j = g j) : Sr nv f2 g2 := by
  refine sr_mk h (fun j h1 h2 => ?_) (hf 30 (by decide) (by decide)) (fun j h1 h2 => hg j (by omega) (by omega)) ?_ ?_ ?_
  · rw [hf j h1 (by omega), hg j h1 (by omega)]
    exact h.1 j h1 h2
  · rw [hf 31 (by decide) (by decide), hg 34 (by decide) (by decide)]; exact sr_31 h
  · rw [hf 32 (by decide) (by decide), hg 35 (by decide) (by decide)]; exact sr_32 h
  · rw [hf 33 (by decide) (by decide), hg 36 (by decide) (by decide)]; exact sr_33 h
theorem sr_tear (h : Sr nv f g) (h0 : 0 ≤ a ∧ a ≤ 3) (han : a < nv) (hf : f2 30 = xo (f 30) (sh1 a)) (hf2 : ∀ j : Int, ¬ j = 30 → f2 j = f j) (hg : g2 (30 + a) = 1 - g (30 + a)) (hg2 : ∀ j : Int, ¬ j = 30 + a → g2 j = g j) : Sr nv f2 g2 := by
  refine hv_ ((h.2.2.1 30 (by decide) (by decide)).1) (fun b0 => ?_)
  refine hv_ ((h.2.2.1 31 (by decide) (by decide)).1) (fun b1 => ?_)
  refine hv_ ((h.2.2.1 32 (by decide) (by decide)).1) (fun b2 => ?_)
  refine hv_ ((h.2.2.1 33 (by decide) (by decide)).1) (fun b3 => ?_)
  refine hv_ (xo_4 b0 b1 b2 b3) (fun q => ?_)
  refine ⟨fun j h1 h2 => ?_, ?_, fun k h1 h2 => ?_, ?_, ?_, ?_⟩
  · rw [hf2 j (by omega), hg2 j (by omega)]
    exact h.1 j h1 h2
  · rw [hf, h.2.1]
    refine hv_ (p := a = 0 ∨ a = 1 ∨ a = 2 ∨ a = 3) (by omega) (fun e => ?_)
    rcases e with rfl | rfl | rfl | rfl
    · rw [show (30 : Int) + 0 = 30 by decide] at hg
      rw [q.1, hg, hg2 31 (by decide), hg2 32 (by decide), hg2 33 (by decide)]
    · rw [show (30 : Int) + 1 = 31 by decide] at hg
      rw [q.2.1, hg, hg2 30 (by decide), hg2 32 (by decide), hg2 33 (by decide)]
    · rw [show (30 : Int) + 2 = 32 by decide] at hg
      rw [q.2.2.1, hg, hg2 30 (by decide), hg2 31 (by decide), hg2 33 (by decide)]
    · rw [show (30 : Int) + 3 = 33 by decide] at hg
      rw [q.2.2.2, hg, hg2 30 (by decide), hg2 31 (by decide), hg2 32 (by decide)]
  · refine hv_ (h.2.2.1 k h1 h2) (fun z => ?_)
    by_cases e : k = 30 + a
    · rw [e, hg, ← e]
      exact ⟨by omega, fun q => by omega⟩
    · rw [hg2 k e]
      exact z
  · rw [hf2 31 (by decide), hg2 34 (by omega)]; exact sr_31 h
  · rw [hf2 32 (by decide), hg2 35 (by omega)]; exact sr_32 h
  · rw [hf2 33 (by decide), hg2 36 (by omega)]; exact sr_33 h
end SR
/-! the steps of both sides, for their run -/
noncomputable def Sy (st sv t a0 a1 a2 a3 a4 b0 b1 b2 b3 b4 : Int) : Prop := Sx sv t a0 a1 a2 a3 a4 b0 b1 b2 b3 b4 ∧ (a0 = 0 → a1 < st) ∧ (a0 = 1 → a1 < sv)
/-- so deep are agains in each other, and each ends inside -/
noncomputable def Nd : Nat → (Int → Int) → Int → Int → Prop
  | 0, f, lo, n => ∀ t : Int, lo ≤ t → t < n → ¬ f (5 * t) = 7
  | k + 1, f, lo, n => ∀ t : Int, lo ≤ t → t < n → f (5 * t) = 7 → f (5 * t + 2) ≤ n ∧ Nd k f (t + 1) (f (5 * t + 2))
noncomputable def Su (k : Nat) (st sv lo n : Int) (f g : Int → Int) : Prop := (∀ t : Int, lo ≤ t → t < n → Sy st sv t (f (5 * t)) (f (5 * t + 1)) (f (5 * t + 2)) (f (5 * t + 3)) (f (5 * t + 4)) (g (5 * t)) (g (5 * t + 1)) (g (5 * t + 2)) (g (5 * t + 3)) (g (5 * t + 4))) ∧ Nd k f lo n
section SU
variable {f g f2 g2 : Int → Int} {st sv lo n n2 t m : Int} {k kin : Nat}
theorem nd_z : ∀ {k : Nat} {lo n : Int}, n ≤ lo → Nd k f lo n
  | 0, lo, n, h => fun t h1 h2 => absurd h2 (by omega)
  | k + 1, lo, n, h => fun t h1 h2 => absurd h2 (by omega)
theorem nd_up : ∀ {k : Nat} {lo n : Int}, Nd k f lo n → Nd (k + 1) f lo n
  | 0, lo, n, h => fun t h1 h2 h7 => absurd h7 (h t h1 h2)
  | k + 1, lo, n, h => fun t h1 h2 h7 => ⟨(h t h1 h2 h7).1, nd_up (h t h1 h2 h7).2⟩
theorem nd_fr : ∀ {k : Nat} {lo n : Int}, Nd k f lo n → (∀ j : Int, 5 * lo ≤ j → j < 5 * n → f2 j = f j) → Nd k f2 lo n
  | 0, lo, n, h, hf => fun t h1 h2 => by
    rw [hf (5 * t) (by omega) (by omega)]
    exact h t h1 h2
  | k + 1, lo, n, h, hf => fun t h1 h2 h7 => by
    rw [hf (5 * t) (by omega) (by omega)] at h7
    rw [hf (5 * t + 2) (by omega) (by omega)]
    refine hv_ (h t h1 h2 h7) (fun q => ?_)
    exact ⟨q.1, nd_fr q.2 (fun j q1 q2 => hf j (by omega) (by omega))⟩
theorem nd_j : ∀ {k : Nat}, Nd k f lo t → Nd k f t n → t ≤ n → Nd k f lo n
  | 0, h1, h2, hn => fun i q1 q2 => by
    by_cases q : i < t
    · exact h1 i q1 q
    · exact h2 i (by omega) q2
  | k + 1, h1, h2, hn => fun i q1 q2 h7 => by
    by_cases q : i < t
    · refine hv_ (h1 i q1 q h7) (fun z => ?_)
      exact ⟨by omega, z.2⟩
    · exact h2 i (by omega) q2 h7
theorem nd_one : ∀ {k : Nat}, ¬ f (5 * t) = 7 → n = t + 1 → Nd k f t n
  | 0, h, hn => fun i q1 q2 => by
    refine hv_ (p := i = t) (by omega) (fun e => ?_)
    subst e
    exact h
  | k + 1, h, hn => fun i q1 q2 h7 => by
    refine hv_ (p := i = t) (by omega) (fun e => ?_)
    subst e
    exact absurd h7 h
theorem nd_ag (h : Nd kin f (t + 1) n) (hk : k = kin + 1) (he : f (5 * t + 2) = n) : Nd k f t n := by
  subst hk
  intro i q1 q2 h7
  by_cases e : i = t
  · subst e
    rw [he]
    exact ⟨by omega, h⟩
  · exact nd_up h i (by omega) q2 h7
theorem su_z (h : n ≤ lo) : Su k st sv lo n f g := ⟨fun t h1 h2 => absurd h2 (by omega), nd_z h⟩
theorem su_eq (h : Su k st sv lo n f g) (hn : n2 = n) : Su k st sv lo n2 f g := hn.symm ▸ h
theorem su_fr (h : Su k st sv lo n f g) (hf : ∀ j : Int, 5 * lo ≤ j → j < 5 * n → f2 j = f j) (hg : ∀ j : Int, 5 * lo ≤ j → j < 5 * n → g2 j = g j) : Su k st sv lo n f2 g2 := ⟨fun t h1 h2 => by
  rw [hf _ (by omega) (by omega), hf _ (by omega) (by omega), hf _ (by omega) (by omega), hf _ (by omega) (by omega), hf _ (by omega) (by omega), hg _ (by omega) (by omega), hg _ (by omega) (by omega), hg _ (by omega) (by omega), hg _ (by omega) (by omega), hg _ (by omega) (by omega)]
  exact h.1 t h1 h2, nd_fr h.2 hf⟩
theorem su_l (h : Su k st sv lo n f g) (h0 : 0 ≤ lo) (hf : ∀ j : Int, 0 ≤ j → j < 5 * n → f2 j = f j) : Su k st sv lo n f2 g := su_fr h (fun j h1 h2 => hf j (by omega) h2) (fun _ _ _ => rfl)
theorem su_one (h : Sy st sv t (f (5 * t)) (f (5 * t + 1)) (f (5 * t + 2)) (f (5 * t + 3)) (f (5 * t + 4)) (g (5 * t)) (g (5 * t + 1)) (g (5 * t + 2)) (g (5 * t + 3)) (g (5 * t + 4))) (h7 : ¬ f (5 * t) = 7) : Su k st sv t (t + 1) f g := ⟨fun i h1 h2 => by
  refine hv_ (p := i = t) (by omega) (fun e => ?_)
  subst e
  exact h, nd_one h7 rfl⟩
theorem su_ag (h : Sy st sv t (f (5 * t)) (f (5 * t + 1)) (f (5 * t + 2)) (f (5 * t + 3)) (f (5 * t + 4)) (g (5 * t)) (g (5 * t + 1)) (g (5 * t + 2)) (g (5 * t + 3)) (g (5 * t + 4))) (hi : Su kin st sv (t + 1) n f g) (hk : k = kin + 1) (he : f (5 * t + 2) = n) : Su k st sv t n f g := ⟨fun i h1 h2 => by
  by_cases e : i = t
  · subst e
    exact h
  · exact hi.1 i (by omega) h2, nd_ag hi.2 hk he⟩
theorem tn_s {a : Int} (h : a < 6) : (6 - a).toNat = (6 - (a + 1)).toNat + 1 := by omega
theorem su_j (h : Su k st sv lo t f g) (h2 : Su k st sv t n f g) (hn : t ≤ n) : Su k st sv lo n f g := ⟨fun i q1 q2 => by
  by_cases q : i < t
  · exact h.1 i q1 q
  · exact h2.1 i (by omega) q2, nd_j h.2 h2.2 hn⟩
theorem su_ap {c : ME} (h : Su k st sv 0 n f (c 56)) {m : Int} (hm : m = 5 * n) : Ap c 56 0 m := fun i h1 h2 h7 => by
  refine hv_ ((h.1 i (by omega) (by omega)).1) (fun q => ?_)
  unfold Sx at q
  omega
theorem su_cp (h : Su k st sv lo n f g) (hg : ∀ j : Int, 5 * lo ≤ j → j < 5 * n → g2 j = g j) : Su k st sv lo n f g2 := su_fr h (fun _ _ _ => rfl) hg
end SU
/-! a step, by its kind -/
section SY
variable {st sv t a0 a1 a2 a3 a4 b0 b1 b2 b3 b4 : Int}
theorem sy_k (h : Sy st sv t a0 a1 a2 a3 a4 b0 b1 b2 b3 b4) : a0 = b0 ∧ 0 ≤ a0 ∧ a0 ≤ 7 := ⟨h.1.1, h.1.2.1⟩
theorem sy_0 (h : Sy st sv t a0 a1 a2 a3 a4 b0 b1 b2 b3 b4) (e : a0 = 0) : a1 = b1 ∧ a2 = b2 ∧ a1 < st := by
  refine hv_ (h.1) (fun q => ?_)
  unfold Sx at q
  refine hv_ (h.2.1 e) (fun z => ?_)
  omega
theorem sy_1 (h : Sy st sv t a0 a1 a2 a3 a4 b0 b1 b2 b3 b4) (e : a0 = 1) : a1 = b1 ∧ a2 = b2 ∧ a3 = b3 ∧ a4 = b4 ∧ a1 < sv := by
  refine hv_ (h.1) (fun q => ?_)
  unfold Sx at q
  refine hv_ (h.2.2 e) (fun z => ?_)
  omega
theorem sy_2 (h : Sy st sv t a0 a1 a2 a3 a4 b0 b1 b2 b3 b4) (e : a0 = 2) : a1 = b1 ∧ a2 = b2 := by
  refine hv_ (h.1) (fun q => ?_)
  unfold Sx at q
  omega
theorem sy_3 (h : Sy st sv t a0 a1 a2 a3 a4 b0 b1 b2 b3 b4) (e : a0 = 3) : a1 = b1 ∧ a2 = b2 ∧ a3 = b3 ∧ 1 ≤ a3 := by
  refine hv_ (h.1) (fun q => ?_)
  unfold Sx at q
  omega
theorem sy_4 (h : Sy st sv t a0 a1 a2 a3 a4 b0 b1 b2 b3 b4) (e : a0 = 4) : a1 = b1 ∧ a1 < sv := by
  refine hv_ (h.1) (fun q => ?_)
  unfold Sx at q
  omega
theorem sy_5 (h : Sy st sv t a0 a1 a2 a3 a4 b0 b1 b2 b3 b4) (e : a0 = 5) : a1 = b1 := by
  refine hv_ (h.1) (fun q => ?_)
  unfold Sx at q
  omega
theorem sy_7 (h : Sy st sv t a0 a1 a2 a3 a4 b0 b1 b2 b3 b4) (e : a0 = 7) : a1 = b1 ∧ b2 = 5 * a2 ∧ t + 1 ≤ a2 := by
  refine hv_ (h.1) (fun q => ?_)
  unfold Sx at q
  omega
end SY
theorem su_in {f g : Int → Int} {st sv lo n t a be : Int} (h : Su (6 - a).toNat st sv lo n f g) (h0 : 0 ≤ a ∧ a ≤ 6) (h1 : lo ≤ t) (h2 : t < n) (h7 : f (5 * t) = 7) (hb : f (5 * t + 2) = be) : (a ≤ 5 ∧ be ≤ n ∧ t + 1 ≤ be ∧ g (5 * t + 2) = 5 * be ∧ f (5 * t + 1) = g (5 * t + 1) ∧ g (5 * t) = 7) ∧ Su (6 - (a + 1)).toNat st sv (t + 1) be f g := by
  refine hv_ (sy_7 (h.1 t h1 h2) h7) (fun q => ?_)
  refine hv_ (sy_k (h.1 t h1 h2)) (fun k => ?_)
  refine hv_ (h.2) (fun hn => ?_)
  by_cases ha : a ≤ 5
  · refine hv_ (p := (6 - a).toNat = (6 - (a + 1)).toNat + 1) (by omega) (fun e => ?_)
    rw [e] at hn
    refine hv_ (hn t h1 h2 h7) (fun z => ?_)
    rw [hb] at z q
    exact ⟨⟨ha, z.1, by omega, by omega, q.1, by omega⟩, ⟨fun i q1 q2 => h.1 i (by omega) (by omega), z.2⟩⟩
  · refine hv_ (p := (6 - a).toNat = 0) (by omega) (fun e => ?_)
    rw [e] at hn
    exact absurd h7 (hn t h1 h2)
/-! rows kept ahead of each work -/
noncomputable def Wk (nv w : Int) (f g : Int → Int) : Prop := ∀ i : Int, 0 ≤ i → i < w → Sr nv (fun j => f (34 * i + j)) (fun j => g (37 * i + j))
section WK
variable {nv nv2 w w2 : Int} {f g f2 g2 r r2 : Int → Int}
theorem wk_z (h : w ≤ 0) : Wk nv w f g := fun i h1 h2 => absurd h2 (by omega)
theorem wk_le (h : Wk nv w f g) (hw : w2 ≤ w) (hn : nv2 = nv) : Wk nv2 w2 f g := fun i h1 h2 => hn.symm ▸ h i h1 (by omega)
theorem wk_fr (h : Wk nv w f g) (hf : ∀ j : Int, 0 ≤ j → j < 34 * w → f2 j = f j) (hg : ∀ j : Int, 0 ≤ j → j < 37 * w → g2 j = g j) : Wk nv w f2 g2 := fun i h1 h2 => sr_fr (h i h1 h2) (fun j q1 q2 => hf _ (by omega) (by omega)) (fun j q1 q2 => hg _ (by omega) (by omega))
theorem wk_s (h : Wk nv w f g) (h0 : 0 ≤ w) (hw : w2 = w + 1) (hr : Sr nv r r2) (hf : ∀ j : Int, 0 ≤ j → j < 34 → f2 (34 * w + j) = r j) (hf2 : ∀ j : Int, 0 ≤ j → j < 34 * w → f2 j = f j) (hg : ∀ j : Int, 0 ≤ j → j < 37 → g2 (37 * w + j) = r2 j) (hg2 : ∀ j : Int, 0 ≤ j → j < 37 * w → g2 j = g j) : Wk nv w2 f2 g2 := fun i h1 h2 => by
  by_cases e : i = w
  · subst e
    exact sr_fr hr hf hg
  · exact wk_fr h hf2 hg2 i h1 (by omega)
theorem wk_rd (h : Wk nv w f g) (h1 : 0 ≤ w2) (h2 : w2 < w) (hf : ∀ j : Int, 0 ≤ j → j < 34 → r j = f (34 * w2 + j)) (hg : ∀ j : Int, 0 ≤ j → j < 37 → r2 j = g (37 * w2 + j)) : Sr nv r r2 := sr_fr (h w2 h1 h2) hf hg
end WK
theorem wk_or {nv nv2 w w2 : Int} {f g : Int → Int} (h : Wk nv w f g) (hc : w2 ≤ 0 ∨ (w2 ≤ w ∧ nv2 = nv)) : Wk nv2 w2 f g := by
  rcases hc with e | e
  · exact wk_z e
  · exact wk_le h e.1 e.2
/-! images -/
noncomputable def Im (nv n : Int) (q f g : Int → Int) : Prop := ∀ i : Int, 0 ≤ i → i < n → (0 ≤ q i ∧ q i ≤ 16) ∧ Sr nv (fun j => f (578 * i + j)) (fun j => g (630 * i + j)) ∧ Wk nv (q i) (fun j => f (578 * i + 34 + j)) (fun j => g (630 * i + 37 + j))
section IM
variable {nv nv2 n n2 w : Int} {q f g q2 f2 g2 r r2 a b : Int → Int}
theorem im_z (h : n ≤ 0) : Im nv n q f g := fun i h1 h2 => absurd h2 (by omega)
theorem im_le (h : Im nv n q f g) (hn : n2 ≤ n) (hv : nv2 = nv) : Im nv2 n2 q f g := fun i h1 h2 => hv.symm ▸ h i h1 (by omega)
theorem im_or (h : Im nv n q f g) (hc : n2 ≤ 0 ∨ (n2 ≤ n ∧ nv2 = nv)) : Im nv2 n2 q f g := by
  rcases hc with e | e
  · exact im_z e
  · exact im_le h e.1 e.2
theorem im_fr (h : Im nv n q f g) (hq : ∀ j : Int, 0 ≤ j → j < n → q2 j = q j) (hf : ∀ j : Int, 0 ≤ j → j < 578 * n → f2 j = f j) (hg : ∀ j : Int, 0 ≤ j → j < 630 * n → g2 j = g j) : Im nv n q2 f2 g2 := fun i h1 h2 => by
  refine hv_ (h i h1 h2) (fun z => ?_)
  rw [hq i h1 h2]
  refine ⟨z.1, sr_fr z.2.1 (fun j q1 q2 => hf _ (by omega) (by omega)) (fun j q1 q2 => hg _ (by omega) (by omega)), wk_fr z.2.2 (fun j q1 q2 => hf _ (by omega) (by omega)) (fun j q1 q2 => hg _ (by omega) (by omega))⟩
theorem im_s (h : Im nv n q f g) (h0 : 0 ≤ n) (hn : n2 = n + 1) (hw : 0 ≤ w ∧ w ≤ 16) (hr : Sr nv r r2) (hk : Wk nv w a b) (hq : q2 n = w) (hq2 : ∀ j : Int, 0 ≤ j → j < n → q2 j = q j) (hf : ∀ j : Int, 0 ≤ j → j < 34 → f2 (578 * n + j) = r j) (hfa : ∀ j : Int, 0 ≤ j → j < 34 * w → f2 (578 * n + 34 + j) = a j) (hf2 : ∀ j : Int, 0 ≤ j → j < 578 * n → f2 j = f j) (hg : ∀ j : Int, 0 ≤ j → j < 37 → g2 (630 * n + j) = r2 j) (hgb : ∀ j : Int, 0 ≤ j → j < 37 * w → g2 (630 * n + 37 + j) = b j) (hg2 : ∀ j : Int, 0 ≤ j → j < 630 * n → g2 j = g j) : Im nv n2 q2 f2 g2 := fun i h1 h2 => by
  by_cases e : i = n
  · subst e
    rw [hq]
    exact ⟨hw, sr_fr hr hf hg, wk_fr hk hfa hgb⟩
  · exact im_fr h hq2 hf2 hg2 i h1 (by omega)
theorem im_row (h : Im nv n q f g) (h1 : 0 ≤ n2) (h2 : n2 < n) (hf : ∀ j : Int, 0 ≤ j → j < 34 → r j = f (578 * n2 + j)) (hg : ∀ j : Int, 0 ≤ j → j < 37 → r2 j = g (630 * n2 + j)) : Sr nv r r2 := sr_fr (h n2 h1 h2).2.1 hf hg
theorem im_wks (h : Im nv n q f g) (h1 : 0 ≤ n2) (h2 : n2 < n) (hw : w = q n2) (hf : ∀ j : Int, 0 ≤ j → j < 34 * w → r j = f (578 * n2 + 34 + j)) (hg : ∀ j : Int, 0 ≤ j → j < 37 * w → r2 j = g (630 * n2 + 37 + j)) : Wk nv w r r2 := by
  refine hv_ ((h n2 h1 h2).2.2) (fun z => ?_)
  rw [← hw] at z
  exact wk_fr z hf hg
end IM
/-! a mill's row -/
noncomputable def bg (n : Int) (f : Int → Int) (j : Int) : Int := if j < n then f j else 0
theorem bg_1 {n j : Int} {f : Int → Int} (h : j < n) : bg n f j = f j := if_pos h
theorem bg_0 {n j : Int} {f : Int → Int} (h : n ≤ j) : bg n f j = 0 := if_neg (by omega)
theorem sr_bg {nv n n2 : Int} {f g a b : Int → Int} (hn : 0 ≤ n ∧ n ≤ 24) (he : n2 = n) (hf : ∀ j : Int, 0 ≤ j → j < 34 → f j = bg n a j) (hg : ∀ j : Int, 0 ≤ j → j < 37 → g j = bg n2 b j) (hab : Ae n a b) : Sr nv f g := by
  subst he
  refine hv_ (p := ∀ j : Int, 24 ≤ j → j < 37 → g j = 0) (fun j h1 h2 => (hg j (by omega) h2).trans (bg_0 (by omega))) (fun z => ?_)
  refine hv_ (p := ∀ j : Int, 24 ≤ j → j < 34 → f j = 0) (fun j h1 h2 => (hf j (by omega) h2).trans (bg_0 (by omega))) (fun y => ?_)
  refine ⟨fun j h1 h2 => ?_, ?_, fun k h1 h2 => ?_, ?_, ?_, ?_⟩
  · rw [hf j h1 (by omega), hg j h1 (by omega)]
    by_cases q : j < n2
    · rw [bg_1 q, bg_1 q]
      exact hab j h1 q
    · rw [bg_0 (by omega), bg_0 (by omega)]
  · rw [y 30 (by decide) (by decide), z 30 (by decide) (by decide), z 31 (by decide) (by decide), z 32 (by decide) (by decide), z 33 (by decide) (by decide)]
    decide
  · rw [z k (by omega) (by omega)]
    exact ⟨by decide, fun _ => rfl⟩
  · rw [y 31 (by decide) (by decide), z 34 (by decide) (by decide)]
  · rw [y 32 (by decide) (by decide), z 35 (by decide) (by decide)]
  · rw [y 33 (by decide) (by decide), z 36 (by decide) (by decide)]
theorem bg_z {f : Int → Int} {j : Int} (h : 0 ≤ j) : bg 0 f j = 0 := bg_0 h
theorem bg_s {n v : Int} {f g g2 : Int → Int} (h : ∀ j : Int, 0 ≤ j → j < 37 → g j = bg n f j) (hv : g2 n = v) (hv2 : v = f n) (hf : ∀ j : Int, ¬ j = n → g2 j = g j) : ∀ j : Int, 0 ≤ j → j < 37 → g2 j = bg (n + 1) f j := fun j h1 h2 => by
  by_cases e : j = n
  · rw [e, hv, hv2, bg_1 (by omega)]
  · rw [hf j e, h j h1 h2]
    by_cases q : j < n
    · rw [bg_1 q, bg_1 (by omega)]
    · rw [bg_0 (by omega), bg_0 (by omega)]
/-! how fine a jar is -/
noncomputable def fn (a b c d : Int) : Int := if a + b + c + d ≤ 0 then 0 else (1000 * a) / (a + b + c + d)
theorem fn_z {a b c d : Int} (h : a + b + c + d ≤ 0) : fn a b c d = 0 := if_pos h
theorem fn_p {a b c d : Int} (h : ¬ a + b + c + d ≤ 0) : fn a b c d = (1000 * a) / (a + b + c + d) := if_neg h
theorem fn_r (a b c d : Int) (ha : 0 ≤ a) (hb : 0 ≤ b) (hc : 0 ≤ c) (hd : 0 ≤ d) : 0 ≤ fn a b c d ∧ fn a b c d ≤ 1000 := by
  by_cases h : a + b + c + d ≤ 0
  · rw [fn_z h]; decide
  · rw [fn_p h]
    exact ⟨Int.ediv_nonneg (by omega) (by omega), Int.ediv_le_of_le_mul (by omega) (by omega)⟩
theorem gq_10 {x q : Int} (hx : 0 ≤ x) (hq : 0 ≤ q) (h : q ≤ 10) : 0 ≤ (x * q) / 10 ∧ (x * q) / 10 ≤ x := ⟨Int.ediv_nonneg (Int.mul_nonneg hx hq) (by decide), Int.ediv_le_of_le_mul (by decide) (Int.mul_le_mul_of_nonneg_left h hx)⟩
theorem gq_100 {x d : Int} (hx : 0 ≤ x) (hd : 0 ≤ d) (h : d ≤ 50) : 0 ≤ (x * d) / 100 ∧ 2 * ((x * d) / 100) ≤ x := by
  refine hv_ (p := x * d ≤ x * 50) (Int.mul_le_mul_of_nonneg_left h hx) (fun h1 => ?_)
  refine hv_ (Int.mul_nonneg hx hd) (fun h2 => ?_)
  generalize x * d = y at *
  omega
theorem rm_bd {a b : Int} (ha : 0 ≤ a ∧ a ≤ 2147483647) (hb : 1 ≤ b ∧ b ≤ 2147483647) : 0 ≤ rm a b ∧ rm a b < b := by
  unfold rm
  rw [c_rem ⟨ha.1, ha.2, by omega, hb.2⟩]
  refine hv_ (Int.emod_nonneg a (show b ≠ 0 by omega)) (fun h1 => ?_)
  refine hv_ (Int.emod_lt_of_pos a (show 0 < b by omega)) (fun h2 => ?_)
  rw [Int32.toInt_ofInt_of_le (by omega) (by omega)]
  exact ⟨h1, h2⟩
theorem ush_b (x : BitVec 32) : (x >>> 16) &&& 32767#32 = (x.sshiftRight 16) &&& 32767#32 := by
  refine BitVec.eq_of_getLsbD_eq (fun i hi => ?_)
  rw [BitVec.getLsbD_and, BitVec.getLsbD_and]
  by_cases h : i < 15
  · have e : (x >>> 16).getLsbD i = (x.sshiftRight 16).getLsbD i := by
      rw [BitVec.getLsbD_ushiftRight, BitVec.getLsbD_sshiftRight]
      refine hv_ (p := decide (32 ≤ i) = false) (decide_eq_false (by omega)) (fun h1 => ?_)
      refine hv_ (p := 16 + i < 32) (by omega) (fun h2 => ?_)
      rw [h1, if_pos h2]
      rfl
    rw [e]
  · have e : (32767#32).getLsbD i = false := by
      rw [BitVec.getLsbD_ofNat, Nat.testBit_lt_two_pow (Nat.lt_of_lt_of_le (show 32767 < 2 ^ 15 by decide) (Nat.pow_le_pow_right (by decide) (by omega))), Bool.and_false]
    rw [e, Bool.and_false, Bool.and_false]
theorem ush_i (x : Int32) : (x.toUInt32 >>> ((Int32.ofInt 16).toUInt32 &&& Int32.toUInt32 31)).toInt32 &&& Int32.ofInt 32767 = (x >>> (Int32.ofInt 16 &&& 31)) &&& Int32.ofInt 32767 := Int32.toBitVec.inj (ush_b x.toBitVec)
theorem v_ush {sc : List Int32} {d k pc len len2 len3 nc ns : Nat} {ls : AL} {r : List Value} {w : AW} {Z : AR → Prop} {a v : Int} (hd : mLk k pc = some (.iushr, len)) (hd2 : mLk k (pc + 1) = some (.sipush 32767, len2)) (hd3 : mLk k (pc + 1 + 3) = some (.iand, len3)) (h : -2147483648 ≤ a ∧ a ≤ 2147483647) (hv : a / 65536 % 32768 = v) (K : Wp sc d k (pc + 1 + 3 + 1) ls (vi v :: r) w nc ns Z) : Wp sc d k pc ls (vi 16 :: vi a :: r) w nc ns Z := by
  refine q_iushr hd ?_
  refine v_sip hd2 (by decide) ?_
  refine q_iand hd3 ?_
  rw [ush_i, c_shr (b := 16) 16 h rfl (by decide) rfl, c_and15]
  refine hv_ (p := a / ((2 ^ 16 : Nat) : Int) % 32768 = v) (hv) (fun e => ?_)
  rw [e]
  exact K
theorem wr_2 {a : Int} (h : -2147483648 ≤ a ∧ a ≤ 4294967295) : (-2147483648 ≤ wr a ∧ wr a ≤ 2147483647) ∧ (wr a = a ∨ wr a = a - 4294967296) := by
  refine ⟨wr_rng a, ?_⟩
  by_cases h1 : a ≤ 2147483647
  · exact Or.inl (wr_id ⟨h.1, h1⟩)
  · have e : Int32.ofInt a = Int32.ofInt (a - 4294967296) := by
      have e2 : Int32.ofInt ((a - 4294967296) + 4294967296) = Int32.ofInt (a - 4294967296) := by
        rw [Int32.ofInt_add]
        exact (congrArg (fun z => Int32.ofInt (a - 4294967296) + z) (by decide : Int32.ofInt 4294967296 = 0)).trans (Int32.add_zero _)
      rw [← e2]
      exact congrArg Int32.ofInt (by omega)
    refine Or.inr ?_
    refine hv_ (p := wr a = wr (a - 4294967296)) (congrArg Int32.toInt e) (fun e3 => ?_)
    rw [e3]
    exact wr_id ⟨by omega, by omega⟩
theorem wr_3 {a : Int} (h : -4294967295 ≤ a ∧ a ≤ 4294967295) : (-2147483648 ≤ wr a ∧ wr a ≤ 2147483647) ∧ (wr a = a ∨ wr a = a - 4294967296 ∨ wr a = a + 4294967296) := by
  by_cases h1 : -2147483648 ≤ a
  · refine hv_ (wr_2 (a := a) ⟨h1, h.2⟩) (fun h2 => ?_)
    exact ⟨h2.1, h2.2.elim Or.inl (fun z => Or.inr (Or.inl z))⟩
  · have e : wr a = wr (a + 4294967296) := by
      have e2 : Int32.ofInt (a + 4294967296) = Int32.ofInt a := by
        rw [Int32.ofInt_add]
        exact (congrArg (fun z => Int32.ofInt a + z) (by decide : Int32.ofInt 4294967296 = 0)).trans (Int32.add_zero _)
      exact (congrArg Int32.toInt e2).symm
    refine ⟨wr_rng a, Or.inr (Or.inr ?_)⟩
    rw [e]
    exact wr_id ⟨by omega, by omega⟩
/-! the first places are below a bound -/
noncomputable def Lb (n : Int) (f : Int → Int) (b : Int) : Prop := ∀ j : Int, 0 ≤ j → j < n → f j < b
section LB
variable {n n2 i v b b2 : Int} {f f2 : Int → Int}
theorem lb_z (h : n ≤ 0) : Lb n f b := fun j h1 h2 => absurd h2 (by omega)
theorem lb_le (h : Lb n f b) (hn : n2 ≤ n) : Lb n2 f b := fun j h1 h2 => h j h1 (by omega)
theorem lb_leb (h : Lb n f b) (hn : n2 ≤ n) (hb : b ≤ b2) : Lb n2 f b2 := fun j h1 h2 => Int.lt_of_lt_of_le (h j h1 (by omega)) hb
theorem lb_fr (h : Lb n f b) (hf : ∀ j : Int, f2 j = f j) : Lb n f2 b := fun j h1 h2 => by
  rw [hf j]
  exact h j h1 h2
theorem lb_cg (h : Lb n f b) (e : ∀ j : Int, 0 ≤ j → j < n → f2 j = f j) : Lb n f2 b := fun j h1 h2 => by
  rw [e j h1 h2]
  exact h j h1 h2
theorem lb_w (h : Lb n f b) (hn : n2 ≤ n ∨ n2 = n + 1 ∧ i = n) (hv : v < b) (hf : f2 i = v) (hf2 : ∀ j : Int, ¬ j = i → f2 j = f j) : Lb n2 f2 b := fun j h1 h2 => by
  by_cases e : j = i
  · rw [e, hf]
    exact hv
  · rw [hf2 j e]
    exact h j h1 (by omega)
end LB
theorem ir_40_r {u : Nat} {e : Int} {P Q : Nat} {c : ME} (h : Iv u e P Q c) (hu : ¬ 40 = u) {j : Int} (hj : 0 ≤ j ∧ j ≤ 5) : c 40 (4 * j) + c 40 (4 * j + 1) + c 40 (4 * j + 2) + c 40 (4 * j + 3) ≤ 9999 := iv_r h 40 (4 * j) (by rw [ri_40]; omega) hu
end
