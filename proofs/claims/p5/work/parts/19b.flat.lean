/-! ===== flat memory: the world behind the constructors as a function of cell and place, in whole numbers ===== -/
abbrev ME : Type := Nat → Int → Int
abbrev vi (z : Int) : Value := .int (Int32.ofInt z)
abbrev vl (z : Int) : Value := .long (Int64.ofInt z)
noncomputable def ar (n : Nat) (f : Int → Int) : List Int32 := (List.range n).map (fun (j : Nat) => Int32.ofInt (f (j : Int)))
noncomputable def al (n : Nat) (f : Int → Int) : List Int64 := (List.range n).map (fun (j : Nat) => Int64.ofInt (f (j : Int)))
noncomputable def ud (f : Int → Int) (m x : Int) : Int → Int := fun j => if j = m then x else f j
noncomputable def up (c : ME) (a : Nat) (m x : Int) : ME := fun b => if b = a then ud (c a) m x else c b
/-- so many places from sp on of cell s come to cell a from dp on -/
noncomputable def upc (c : ME) (s : Nat) (sp : Int) (a : Nat) (dp n : Int) : ME := fun b => if b = a then (fun j => if dp ≤ j ∧ j < dp + n then c s (sp + (j - dp)) else c a j) else c b
theorem ud_eq {f : Int → Int} {m x j : Int} (h : j = m) : ud f m x j = x := if_pos h
theorem ud_ne {f : Int → Int} {m x j : Int} (h : ¬ j = m) : ud f m x j = f j := if_neg h
theorem up_c {c : ME} {a b : Nat} {m x j : Int} (h : ¬ b = a) : up c a m x b j = c b j := by unfold up; rw [if_neg h]
theorem up_e {c : ME} {a : Nat} {m x j : Int} (h : j = m) : up c a m x a j = x := by unfold up; rw [if_pos rfl]; exact ud_eq h
theorem up_n {c : ME} {a : Nat} {m x j : Int} (h : ¬ j = m) : up c a m x a j = c a j := by unfold up; rw [if_pos rfl]; exact ud_ne h
theorem up_self {c : ME} {a : Nat} {m x : Int} : up c a m x a = ud (c a) m x := if_pos rfl
theorem up_b {c : ME} {a b : Nat} {m x j : Int} (h : ¬ b = a ∨ ¬ j = m) : up c a m x b j = c b j := by
  by_cases e : b = a
  · subst e; exact up_n (h.resolve_left (fun q => q rfl))
  · exact up_c e
theorem upc_c {c : ME} {s a b : Nat} {sp dp n j : Int} (h : ¬ b = a) : upc c s sp a dp n b j = c b j := by unfold upc; rw [if_neg h]
theorem upc_e {c : ME} {s a : Nat} {sp dp n j : Int} (h : dp ≤ j ∧ j < dp + n) : upc c s sp a dp n a j = c s (sp + (j - dp)) := by unfold upc; rw [if_pos rfl]; exact if_pos h
theorem upc_n {c : ME} {s a : Nat} {sp dp n j : Int} (h : ¬ (dp ≤ j ∧ j < dp + n)) : upc c s sp a dp n a j = c a j := by unfold upc; rw [if_pos rfl]; exact if_neg h
theorem ar_len {n : Nat} {f : Int → Int} : (ar n f).length = n := by unfold ar; rw [List.length_map, List.length_range]
theorem al_len {n : Nat} {f : Int → Int} : (al n f).length = n := by unfold al; rw [List.length_map, List.length_range]
theorem ar_get {n j : Nat} {f : Int → Int} (h : j < n) : (ar n f)[j]? = some (Int32.ofInt (f (j : Int))) := by
  unfold ar
  rw [List.getElem?_map, List.getElem?_range h]
  rfl
theorem al_get {n j : Nat} {f : Int → Int} (h : j < n) : (al n f)[j]? = some (Int64.ofInt (f (j : Int))) := by
  unfold al
  rw [List.getElem?_map, List.getElem?_range h]
  rfl
theorem ar_set {n j : Nat} {f : Int → Int} {x : Int} : (ar n f).set j (Int32.ofInt x) = ar n (ud f (j : Int) x) := by
  refine List.ext_getElem? (fun k => ?_)
  rw [List.getElem?_set, ar_len]
  by_cases hk : k < n
  · rw [ar_get hk, ar_get hk]
    by_cases e : j = k
    · subst e
      rw [if_pos rfl, if_pos hk, ud_eq rfl]
    · rw [if_neg e, ud_ne (by omega)]
  · have h1 : ∀ g : Int → Int, (ar n g)[k]? = none := fun g => List.getElem?_eq_none (by rw [ar_len]; omega)
    rw [h1, h1]
    by_cases e : j = k
    · rw [if_pos e, if_neg (by omega)]
    · rw [if_neg e]
theorem al_set {n j : Nat} {f : Int → Int} {x : Int} : (al n f).set j (Int64.ofInt x) = al n (ud f (j : Int) x) := by
  refine List.ext_getElem? (fun k => ?_)
  rw [List.getElem?_set, al_len]
  by_cases hk : k < n
  · rw [al_get hk, al_get hk]
    by_cases e : j = k
    · subst e
      rw [if_pos rfl, if_pos hk, ud_eq rfl]
    · rw [if_neg e, ud_ne (by omega)]
  · have h1 : ∀ g : Int → Int, (al n g)[k]? = none := fun g => List.getElem?_eq_none (by rw [al_len]; omega)
    rw [h1, h1]
    by_cases e : j = k
    · rw [if_pos e, if_neg (by omega)]
    · rw [if_neg e]
theorem ar_ext {n : Nat} {f g : Int → Int} (h : ∀ j : Int, 0 ≤ j → j < n → f j = g j) : ar n f = ar n g := by
  refine List.ext_getElem? (fun k => ?_)
  by_cases hk : k < n
  · rw [ar_get hk, ar_get hk, h k (by omega) (by omega)]
  · rw [List.getElem?_eq_none (by rw [ar_len]; omega), List.getElem?_eq_none (by rw [ar_len]; omega)]
theorem ar_cpl {n n0 : Nat} {f g : Int → Int} {sp dp k : Nat} (h1 : sp + k ≤ n0) (h2 : dp + k ≤ n) : a_cpl (ar n0 f) (ar n g) sp dp k = ar n (fun j => if (dp : Int) ≤ j ∧ j < (dp : Int) + k then f ((sp : Int) + (j - dp)) else g j) := by
  refine List.ext_getElem? (fun q => ?_)
  unfold a_cpl
  rw [List.getElem?_append, List.length_take, ar_len, Nat.min_eq_left (by omega)]
  by_cases hq : q < dp
  · rw [if_pos hq, List.getElem?_take, if_pos hq, ar_get (by omega), ar_get (by omega), if_neg (by omega)]
  · rw [if_neg hq, List.getElem?_append, List.length_take, List.length_drop, ar_len, Nat.min_eq_left (by omega)]
    by_cases hr : q - dp < k
    · rw [if_pos hr, List.getElem?_take, if_pos hr, List.getElem?_drop, ar_get (by omega), ar_get (by omega), if_pos (by omega)]
      have e : ((sp + (q - dp) : Nat) : Int) = (sp : Int) + ((q : Int) - dp) := by omega
      rw [e]
    · rw [if_neg hr, List.getElem?_drop]
      have e : dp + k + (q - dp - k) = q := by omega
      rw [e]
      by_cases hn : q < n
      · rw [ar_get hn, ar_get hn, if_neg (by omega)]
      · rw [List.getElem?_eq_none (by rw [ar_len]; omega), List.getElem?_eq_none (by rw [ar_len]; omega)]
/-- what a cell is: an array (its type, its length), or an object (its number; its fields: a cell, or none of an int) -/
abbrev CK : Type := (Nat × Nat) ⊕ (Nat × List (Option Nat))
/-- P the plan, Q the spare one, N the plan of the shop that is now, T that of the trial -/
noncomputable def ck (P Q N T : Nat) (a : Nat) : CK := match a with
  | 0 => .inr (7, [some 1, some 3, some 7, some 9, some 10, some 11, some 12, some P, some Q, some 37, some 39, none, none, none])
  | 1 => .inr (5, [some 2, none, none, none, none, none])
  | 2 => .inl (1, 600)
  | 3 => .inr (1, [some 4, some 5, some 6, none, none])
  | 4 => .inl (0, 544)
  | 5 => .inl (0, 1734)
  | 6 => .inl (0, 3)
  | 7 => .inr (3, [some 8, none, none, none, none])
  | 8 => .inl (0, 190)
  | 9 => .inr (6, [none])
  | 10 => .inl (0, 24)
  | 11 => .inl (0, 6)
  | 12 => .inl (0, 4)
  | 13 => .inr (2, [none, none, none, none, none, none, some 14, some 15, some 16, some 17, some 18, some 19, some 20])
  | 14 => .inl (0, 24)
  | 15 => .inl (0, 12)
  | 16 => .inl (0, 4)
  | 17 => .inl (0, 8)
  | 18 => .inl (0, 8)
  | 19 => .inl (0, 4)
  | 20 => .inr (0, [some 21, some 22, some 23, some 24, none, none])
  | 21 => .inl (0, 150)
  | 22 => .inl (0, 150)
  | 23 => .inl (0, 150)
  | 24 => .inl (0, 8)
  | 25 => .inr (2, [none, none, none, none, none, none, some 26, some 27, some 28, some 29, some 30, some 31, some 32])
  | 26 => .inl (0, 24)
  | 27 => .inl (0, 12)
  | 28 => .inl (0, 4)
  | 29 => .inl (0, 8)
  | 30 => .inl (0, 8)
  | 31 => .inl (0, 4)
  | 32 => .inr (0, [some 33, some 34, some 35, some 36, none, none])
  | 33 => .inl (0, 150)
  | 34 => .inl (0, 150)
  | 35 => .inl (0, 150)
  | 36 => .inl (0, 8)
  | 37 => .inr (4, [some 38, some N])
  | 38 => .inl (0, 34)
  | 39 => .inr (4, [some 40, some T])
  | 40 => .inl (0, 34)
  | 41 => .inr (8, [none, some 42, none, none, none, none, none, none, none, some 43, some 44, some 45, some 46, some 47, some 48, some 49, none, none, none, none, none, none, none, none, some 50, some 51, some 52, some 53, some 54, none, none, some 55, some 56, some 57, none, none, none, none, none, none, some 58, some 59, some 60, some 61, some 62, some 63, some 64, none, none, some 65, none, some 66, none])
  | 42 => .inl (0, 2)
  | 43 => .inl (0, 600)
  | 44 => .inl (0, 24)
  | 45 => .inl (0, 12)
  | 46 => .inl (0, 4)
  | 47 => .inl (0, 24)
  | 48 => .inl (0, 12)
  | 49 => .inl (0, 4)
  | 50 => .inl (0, 150)
  | 51 => .inl (0, 150)
  | 52 => .inl (0, 150)
  | 53 => .inl (0, 150)
  | 54 => .inl (0, 150)
  | 55 => .inl (0, 8)
  | 56 => .inl (0, 250)
  | 57 => .inl (0, 250)
  | 58 => .inl (0, 37)
  | 59 => .inl (0, 37)
  | 60 => .inl (0, 592)
  | 61 => .inl (0, 8)
  | 62 => .inl (0, 8)
  | 63 => .inl (0, 4)
  | 64 => .inl (0, 4)
  | 65 => .inl (2, 14)
  | 66 => .inl (0, 1890)
  | 67 => .inl (2, 1)
  | _ => .inl (0, 0)
noncomputable def fe (c : ME) (a : Nat) : Nat → List (Option Nat) → List Value
  | _, [] => []
  | m, none :: r => vi (c a (m : Int)) :: fe c a (m + 1) r
  | m, some t :: r => .ref t :: fe c a (m + 1) r
noncomputable def ce (c : ME) (a : Nat) : CK → AE
  | .inl (t, n) => if t = 2 then .inl (2, .inr (al n (c a))) else .inl (t, .inl (ar n (c a)))
  | .inr (ci, fl) => .inr (ci, fe c a 0 fl)
noncomputable def Wd (P Q N T : Nat) (c : ME) : AW := (List.range 68).map (fun a => ce c a (ck P Q N T a))
theorem fe_none {c : ME} {a : Nat} : ∀ {fl : List (Option Nat)} {m j : Nat}, fl[j]? = some none → (fe c a m fl)[j]? = some (vi (c a ((m + j : Nat) : Int)))
  | [], _, j, h => by rw [List.getElem?_nil] at h; cases h
  | none :: r, m, 0, h => rfl
  | some t :: r, m, 0, h => by cases h
  | none :: r, m, j + 1, h => by
    have := fe_none (c := c) (a := a) (fl := r) (m := m + 1) (j := j) h
    rw [Nat.add_right_comm] at this
    exact this
  | some t :: r, m, j + 1, h => by
    have := fe_none (c := c) (a := a) (fl := r) (m := m + 1) (j := j) h
    rw [Nat.add_right_comm] at this
    exact this
theorem fe_some {c : ME} {a t : Nat} : ∀ {fl : List (Option Nat)} {m j : Nat}, fl[j]? = some (some t) → (fe c a m fl)[j]? = some (.ref t)
  | [], _, j, h => by rw [List.getElem?_nil] at h; cases h
  | none :: r, m, 0, h => by cases h
  | some t9 :: r, m, 0, h => by cases h; rfl
  | none :: r, m, j + 1, h => fe_some (c := c) (a := a) (fl := r) (m := m + 1) (j := j) h
  | some t9 :: r, m, j + 1, h => fe_some (c := c) (a := a) (fl := r) (m := m + 1) (j := j) h
theorem fe_len {c : ME} {a : Nat} : ∀ {fl : List (Option Nat)} {m : Nat}, (fe c a m fl).length = fl.length
  | [], _ => rfl
  | none :: r, m => congrArg (· + 1) (fe_len (c := c) (a := a) (fl := r) (m := m + 1))
  | some t :: r, m => congrArg (· + 1) (fe_len (c := c) (a := a) (fl := r) (m := m + 1))
theorem fe_ext {c c' : ME} {a : Nat} : ∀ {fl : List (Option Nat)} {m : Nat}, (∀ j : Nat, m ≤ j → c a j = c' a j) → fe c a m fl = fe c' a m fl
  | [], _, _ => rfl
  | none :: r, m, h => by
    show vi (c a m) :: fe c a (m + 1) r = vi (c' a m) :: fe c' a (m + 1) r
    rw [h m (Nat.le_refl m), fe_ext (fun j hj => h j (by omega))]
  | some t :: r, m, h => by
    show Value.ref t :: fe c a (m + 1) r = Value.ref t :: fe c' a (m + 1) r
    rw [fe_ext (fun j hj => h j (by omega))]
theorem fe_set {c : ME} {a : Nat} {x : Int} : ∀ {fl : List (Option Nat)} {m j : Nat}, fl[j]? = some none → (fe c a m fl).set j (vi x) = fe (up c a ((m + j : Nat) : Int) x) a m fl
  | [], _, j, h => by rw [List.getElem?_nil] at h; cases h
  | none :: r, m, 0, h => by
    show vi x :: fe c a (m + 1) r = vi (up c a (m : Int) x a m) :: fe (up c a (m : Int) x) a (m + 1) r
    rw [up_e rfl, fe_ext (fun j hj => (up_n (c := c) (a := a) (x := x) (m := (m : Int)) (j := (j : Int)) (by omega)).symm)]
  | some t :: r, m, 0, h => by cases h
  | none :: r, m, j + 1, h => by
    have := fe_set (c := c) (a := a) (x := x) (fl := r) (m := m + 1) (j := j) h
    rw [Nat.add_right_comm] at this
    show vi (c a m) :: (fe c a (m + 1) r).set j (vi x) = vi (up c a _ x a m) :: fe (up c a _ x) a (m + 1) r
    rw [this, up_n (by omega)]
    rfl
  | some t :: r, m, j + 1, h => by
    have := fe_set (c := c) (a := a) (x := x) (fl := r) (m := m + 1) (j := j) h
    rw [Nat.add_right_comm] at this
    show Value.ref t :: (fe c a (m + 1) r).set j (vi x) = Value.ref t :: fe (up c a _ x) a (m + 1) r
    rw [this]
    rfl
theorem ce_ext {c c' : ME} {a : Nat} {q : CK} (h : ∀ j : Int, 0 ≤ j → c a j = c' a j) : ce c a q = ce c' a q := by
  unfold ce
  split
  · rename_i t n
    have e1 : ar n (c a) = ar n (c' a) := ar_ext (fun j hj _ => h j hj)
    have e2 : al n (c a) = al n (c' a) := by
      unfold al
      congr 1
      funext j
      rw [h j (by omega)]
    rw [e1, e2]
  · rw [fe_ext (fun j _ => h j (by omega))]
theorem wd_get {P Q N T : Nat} {c : ME} {a : Nat} (h : a < 68) : (Wd P Q N T c)[a]? = some (ce c a (ck P Q N T a)) := by
  unfold Wd
  rw [List.getElem?_map, List.getElem?_range h]
  rfl
theorem wd_set {P Q N T P' Q' N' T' : Nat} {c c' : ME} {a : Nat} {X : AE} (h : a < 68) (hX : X = ce c' a (ck P' Q' N' T' a)) (ho : ∀ b, ¬ b = a → ce c b (ck P Q N T b) = ce c' b (ck P' Q' N' T' b)) : (Wd P Q N T c).set a X = Wd P' Q' N' T' c' := by
  refine List.ext_getElem? (fun k => ?_)
  have hl : ∀ (P Q N T : Nat) (c : ME), (Wd P Q N T c).length = 68 := fun P Q N T c => by unfold Wd; rw [List.length_map, List.length_range]
  rw [List.getElem?_set, hl]
  by_cases hk : k < 68
  · rw [wd_get hk, wd_get hk]
    by_cases e : a = k
    · subst e
      rw [if_pos rfl, if_pos hk, hX]
    · rw [if_neg e, ho k (fun q => e q.symm)]
  · rw [List.getElem?_eq_none (by rw [hl]; omega), List.getElem?_eq_none (by rw [hl]; omega)]
    by_cases e : a = k
    · rw [if_pos e, if_neg (by omega)]
    · rw [if_neg e]
theorem wd_up {P Q N T : Nat} {c : ME} {a : Nat} {m x : Int} {X : AE} (h : a < 68) (hX : X = ce (up c a m x) a (ck P Q N T a)) : (Wd P Q N T c).set a X = Wd P Q N T (up c a m x) :=
  wd_set h hX (fun b hb => ce_ext (fun j _ => (up_c hb).symm))
theorem wd_len {P Q N T : Nat} {c : ME} : (Wd P Q N T c).length = 68 := by unfold Wd; rw [List.length_map, List.length_range]
/-- the memory behind the constructors -/
noncomputable def c0 : ME := fun a j => match a with
  | 1 => if j = 5 then -1 else 0
  | 13 => if j = 3 then 5 else 0
  | 19 => if 0 ≤ j ∧ j < 4 then -1 else 0
  | 25 => if j = 3 then 5 else 0
  | 31 => if 0 ≤ j ∧ j < 4 then -1 else 0
  | 41 => if j = 8 then -1 else if j = 19 then 5 else if j = 23 then 5 else 0
  | 64 => if 0 ≤ j ∧ j < 4 then -1 else 0
  | _ => 0
set_option maxRecDepth 100000 in
theorem w1_wd : w1 = Wd 13 25 13 13 c0 := by decide +kernel
theorem c_lt {a b : Int} (h : -2147483648 ≤ a ∧ a < b ∧ b ≤ 2147483647) : Int32.ofInt a < Int32.ofInt b := by
  rw [Int32.lt_iff_toInt_lt, Int32.toInt_ofInt_of_le (by omega) (by omega), Int32.toInt_ofInt_of_le (by omega) (by omega)]
  exact h.2.1
theorem c_le {a b : Int} (h : -2147483648 ≤ a ∧ a ≤ b ∧ b ≤ 2147483647) : Int32.ofInt a ≤ Int32.ofInt b := by
  rw [Int32.le_iff_toInt_le, Int32.toInt_ofInt_of_le (by omega) (by omega), Int32.toInt_ofInt_of_le (by omega) (by omega)]
  exact h.2.1
theorem c_nlt {a b : Int} (h : -2147483648 ≤ b ∧ b ≤ a ∧ a ≤ 2147483647) : ¬ Int32.ofInt a < Int32.ofInt b := by
  rw [Int32.lt_iff_toInt_lt, Int32.toInt_ofInt_of_le (by omega) (by omega), Int32.toInt_ofInt_of_le (by omega) (by omega)]
  omega
theorem c_nle {a b : Int} (h : -2147483648 ≤ b ∧ b < a ∧ a ≤ 2147483647) : ¬ Int32.ofInt a ≤ Int32.ofInt b := by
  rw [Int32.le_iff_toInt_le, Int32.toInt_ofInt_of_le (by omega) (by omega), Int32.toInt_ofInt_of_le (by omega) (by omega)]
  omega
theorem c_eq {a b : Int} (h : a = b) : Int32.ofInt a = Int32.ofInt b := congrArg _ h
theorem c_ne {a b : Int} (h : ¬ a = b ∧ (-2147483648 ≤ a ∧ a ≤ 2147483647) ∧ -2147483648 ≤ b ∧ b ≤ 2147483647) : ¬ Int32.ofInt a = Int32.ofInt b := fun q => by
  have e := congrArg Int32.toInt q
  rw [Int32.toInt_ofInt_of_le (by omega) (by omega), Int32.toInt_ofInt_of_le (by omega) (by omega)] at e
  exact h.1 e
theorem c_nn {a : Int} (h : 0 ≤ a ∧ a ≤ 2147483647) : (0 : Int32) ≤ Int32.ofInt a := c_le (a := 0) ⟨by omega, h.1, h.2⟩
theorem c_nat {a : Int} (h : 0 ≤ a ∧ a ≤ 2147483647) : (Int32.ofInt a).toNatClampNeg = a.toNat := Int32.toNatClampNeg_ofInt_of_le (by omega) (by omega)
theorem c_rng (x : Int32) : -2147483648 ≤ x.toInt ∧ x.toInt ≤ 2147483647 := ⟨x.le_toInt, by have := x.toInt_lt; omega⟩
/-- the number that stands for it -/
noncomputable def wr (a : Int) : Int := (Int32.ofInt a).toInt
theorem wr_rng (a : Int) : -2147483648 ≤ wr a ∧ wr a ≤ 2147483647 := c_rng _
theorem wr_of (a : Int) : Int32.ofInt (wr a) = Int32.ofInt a := Int32.ofInt_toInt _
theorem wr_id {a : Int} (h : -2147483648 ≤ a ∧ a ≤ 2147483647) : wr a = a := Int32.toInt_ofInt_of_le (by omega) (by omega)
theorem i8_of {n : Int} (h : -128 ≤ n ∧ n ≤ 127) : (Int8.ofInt n).toInt32 = Int32.ofInt n := by
  refine Int32.toInt_inj.mp ?_
  rw [Int8.toInt_toInt32, Int8.toInt_ofInt_of_le (by omega) (by omega), Int32.toInt_ofInt_of_le (by omega) (by omega)]
theorem i16_of {n : Int} (h : -32768 ≤ n ∧ n ≤ 32767) : (Int16.ofInt n).toInt32 = Int32.ofInt n := by
  refine Int32.toInt_inj.mp ?_
  rw [Int16.toInt_toInt32, Int16.toInt_ofInt_of_le (by omega) (by omega), Int32.toInt_ofInt_of_le (by omega) (by omega)]
/-- a byte of a number -/
noncomputable def sb (a : Int) : Int := (Int8.ofInt a).toInt
theorem sb_rng (a : Int) : -128 ≤ sb a ∧ sb a ≤ 127 := ⟨(Int8.ofInt a).le_toInt, by have := (Int8.ofInt a).toInt_lt; unfold sb; omega⟩
theorem sb_id {a : Int} (h : -128 ≤ a ∧ a ≤ 127) : sb a = a := Int8.toInt_ofInt_of_le (by omega) (by omega)
theorem sb_of (a : Int) : (Int32.ofInt a).toInt8.toInt32 = Int32.ofInt (sb a) := by
  rw [Int32.toInt8_ofInt]
  exact (Int32.ofInt_int8ToInt _).symm
theorem c_div {a b : Int} (h : 0 ≤ a ∧ a ≤ 2147483647 ∧ 0 < b ∧ b ≤ 2147483647) : Int32.ofInt a / Int32.ofInt b = Int32.ofInt (a / b) := by
  rw [← Int.tdiv_eq_ediv_of_nonneg h.1]
  exact (Int32.ofInt_tdiv (show (-2147483648 : Int) ≤ a by omega) (show a ≤ (2147483647 : Int) by omega) (show (-2147483648 : Int) ≤ b by omega) (show b ≤ (2147483647 : Int) by omega)).symm
theorem c_rem {a b : Int} (h : 0 ≤ a ∧ a ≤ 2147483647 ∧ 0 < b ∧ b ≤ 2147483647) : Int32.ofInt a - Int32.ofInt a / Int32.ofInt b * Int32.ofInt b = Int32.ofInt (a % b) := by
  rw [c_div h, ← Int32.ofInt_mul, ← Int32.ofInt_sub]
  congr 1
  have := Int.mul_ediv_add_emod a b
  rw [Int.mul_comm] at this
  omega
theorem l_ne {a b : Int} (h : ¬ a = b ∧ (-9223372036854775808 ≤ a ∧ a ≤ 9223372036854775807) ∧ -9223372036854775808 ≤ b ∧ b ≤ 9223372036854775807) : ¬ Int64.ofInt a = Int64.ofInt b := fun q => by
  have e := congrArg Int64.toInt q
  rw [Int64.toInt_ofInt_of_le (by omega) (by omega), Int64.toInt_ofInt_of_le (by omega) (by omega)] at e
  exact h.1 e
theorem l_div {a b : Int} (h : 0 ≤ a ∧ a ≤ 9223372036854775807 ∧ 0 < b ∧ b ≤ 9223372036854775807) : Int64.ofInt a / Int64.ofInt b = Int64.ofInt (a / b) := by
  rw [← Int.tdiv_eq_ediv_of_nonneg h.1]
  exact (Int64.ofInt_tdiv (show (-9223372036854775808 : Int) ≤ a by omega) (show a ≤ (9223372036854775807 : Int) by omega) (show (-9223372036854775808 : Int) ≤ b by omega) (show b ≤ (9223372036854775807 : Int) by omega)).symm
theorem l_rem {a b : Int} (h : 0 ≤ a ∧ a ≤ 9223372036854775807 ∧ 0 < b ∧ b ≤ 9223372036854775807) : Int64.ofInt a - Int64.ofInt a / Int64.ofInt b * Int64.ofInt b = Int64.ofInt (a % b) := by
  rw [l_div h, ← Int64.ofInt_mul, ← Int64.ofInt_sub]
  congr 1
  have := Int.mul_ediv_add_emod a b
  rw [Int.mul_comm] at this
  omega
theorem l_cmp0 {a b : Int} (h : a = b) : lg_cmp (Int64.ofInt a) (Int64.ofInt b) = Int32.ofInt 0 := by rw [h]; exact lcmp_self _
theorem l_cmp1 {a b : Int} (h : -9223372036854775808 ≤ b ∧ b < a ∧ a ≤ 9223372036854775807) : lg_cmp (Int64.ofInt a) (Int64.ofInt b) = Int32.ofInt 1 := by
  have h1 : Int64.ofInt b < Int64.ofInt a := by
    rw [Int64.lt_iff_toInt_lt, Int64.toInt_ofInt_of_le (by omega) (by omega), Int64.toInt_ofInt_of_le (by omega) (by omega)]
    omega
  have h2 : ¬ Int64.ofInt a < Int64.ofInt b := by
    rw [Int64.lt_iff_toInt_lt, Int64.toInt_ofInt_of_le (by omega) (by omega), Int64.toInt_ofInt_of_le (by omega) (by omega)]
    omega
  have h3 := l_ne (a := a) (b := b) ⟨by omega, ⟨by omega, by omega⟩, by omega, by omega⟩
  unfold lg_cmp
  simp [h1, h2, h3]
theorem l_of_i {a : Int} (h : -2147483648 ≤ a ∧ a ≤ 2147483647) : (Int32.ofInt a).toInt64 = Int64.ofInt a := Int32.toInt64_ofInt (show (-2147483648 : Int) ≤ a by omega) (show a ≤ (2147483647 : Int) by omega)
noncomputable def AEi (c : ME) (a n : Nat) : AE := .inl (0, .inl (ar n (c a)))
section FL
variable {sc : List Int32} {d k pc len nc ns : Nat} {ls : AL} {st r : List Value} {P Q N T : Nat} {c : ME} {Z : AR → Prop}
theorem v_bip {w : AW} {n : Int} (hd : mLk k pc = some (.bipush n, len)) (h : -128 ≤ n ∧ n ≤ 127) (K : Wp sc d k (pc + 2) ls (vi n :: st) w nc ns Z) : Wp sc d k pc ls st w nc ns Z := q_bipush hd (by rw [i8_of h]; exact K)
theorem v_sip {w : AW} {n : Int} (hd : mLk k pc = some (.sipush n, len)) (h : -32768 ≤ n ∧ n ≤ 32767) (K : Wp sc d k (pc + 3) ls (vi n :: st) w nc ns Z) : Wp sc d k pc ls st w nc ns Z := q_sipush hd (by rw [i16_of h]; exact K)
theorem v_ldc {w : AW} {x : Nat} {v : Int32} {n : Int} (hd : mLk k pc = some (.ldc x, len)) (hv : a_lk (kI (mK k)) x = some v) (hn : v = Int32.ofInt n) (K : Wp sc d k (pc + 2) ls (vi n :: st) w nc ns Z) : Wp sc d k pc ls st w nc ns Z := q_ldc_i hd hv (by rw [hn]; exact K)
theorem v_ldcw {w : AW} {x : Nat} {v : Int32} {n : Int} (hd : mLk k pc = some (.ldc_w x, len)) (hv : a_lk (kI (mK k)) x = some v) (hn : v = Int32.ofInt n) (K : Wp sc d k (pc + 3) ls (vi n :: st) w nc ns Z) : Wp sc d k pc ls st w nc ns Z := q_ldc_w_i hd hv (by rw [hn]; exact K)
theorem v_ldc2 {w : AW} {x : Nat} {v : Int64} {n : Int} (hd : mLk k pc = some (.ldc2_w x, len)) (hv : a_lk (kL (mK k)) x = some v) (hn : v = Int64.ofInt n) (K : Wp sc d k (pc + 3) ls (vl n :: st) w nc ns Z) : Wp sc d k pc ls st w nc ns Z := q_ldc2 hd hv (by rw [hn]; exact K)
theorem v_lconst {w : AW} {n : Fin 2} {z : Int} (hd : mLk k pc = some (.lconst n, len)) (hz : Int64.ofNat (n : Nat) = Int64.ofInt z) (K : Wp sc d k (pc + 1) ls (vl z :: st) w nc ns Z) : Wp sc d k pc ls st w nc ns Z := q_lconst hd (by rw [hz]; exact K)
theorem v_iadd {w : AW} {a b v : Int} (hd : mLk k pc = some (.iadd, len)) (hv : a + b = v) (K : Wp sc d k (pc + 1) ls (vi v :: r) w nc ns Z) : Wp sc d k pc ls (vi b :: vi a :: r) w nc ns Z := q_iadd hd (by rw [← Int32.ofInt_add, hv]; exact K)
theorem v_isub {w : AW} {a b v : Int} (hd : mLk k pc = some (.isub, len)) (hv : a - b = v) (K : Wp sc d k (pc + 1) ls (vi v :: r) w nc ns Z) : Wp sc d k pc ls (vi b :: vi a :: r) w nc ns Z := q_isub hd (by rw [← Int32.ofInt_sub, hv]; exact K)
theorem v_imul {w : AW} {a b v : Int} (hd : mLk k pc = some (.imul, len)) (hv : a * b = v) (K : Wp sc d k (pc + 1) ls (vi v :: r) w nc ns Z) : Wp sc d k pc ls (vi b :: vi a :: r) w nc ns Z := q_imul hd (by rw [← Int32.ofInt_mul, hv]; exact K)
theorem v_ladd {w : AW} {a b v : Int} (hd : mLk k pc = some (.ladd, len)) (hv : a + b = v) (K : Wp sc d k (pc + 1) ls (vl v :: r) w nc ns Z) : Wp sc d k pc ls (vl b :: vl a :: r) w nc ns Z := q_ladd hd (by rw [← Int64.ofInt_add, hv]; exact K)
theorem v_lmul {w : AW} {a b v : Int} (hd : mLk k pc = some (.lmul, len)) (hv : a * b = v) (K : Wp sc d k (pc + 1) ls (vl v :: r) w nc ns Z) : Wp sc d k pc ls (vl b :: vl a :: r) w nc ns Z := q_lmul hd (by rw [← Int64.ofInt_mul, hv]; exact K)
theorem v_ineg {w : AW} {a v : Int} (hd : mLk k pc = some (.ineg, len)) (hv : -a = v) (K : Wp sc d k (pc + 1) ls (vi v :: r) w nc ns Z) : Wp sc d k pc ls (vi a :: r) w nc ns Z := q_ineg hd (by rw [← Int32.ofInt_neg, hv]; exact K)
theorem v_iinc {w : AW} {i : Nat} {n a v : Int} (hd : mLk k pc = some (.iinc i n, len)) (hl : a_lk ls i = some (vi a)) (hi : i < mX k) (hv : a + n = v) (K : Wp sc d k (pc + 3) (a_s1 ls i (vi v)) st w nc ns Z) : Wp sc d k pc ls st w nc ns Z := q_iinc hd hl hi (by rw [← Int32.ofInt_add, hv]; exact K)
theorem v_idiv {w : AW} {a b v : Int} (hd : mLk k pc = some (.idiv, len)) (h : 0 ≤ a ∧ a ≤ 2147483647 ∧ 0 < b ∧ b ≤ 2147483647) (hv : a / b = v) (K : Wp sc d k (pc + 1) ls (vi v :: r) w nc ns Z) : Wp sc d k pc ls (vi b :: vi a :: r) w nc ns Z := q_idiv hd (c_ne (b := 0) ⟨by omega, by omega, by omega⟩) (by rw [c_div h, hv]; exact K)
theorem v_irem {w : AW} {a b v : Int} (hd : mLk k pc = some (.irem, len)) (h : 0 ≤ a ∧ a ≤ 2147483647 ∧ 0 < b ∧ b ≤ 2147483647) (hv : a % b = v) (K : Wp sc d k (pc + 1) ls (vi v :: r) w nc ns Z) : Wp sc d k pc ls (vi b :: vi a :: r) w nc ns Z := q_irem hd (c_ne (b := 0) ⟨by omega, by omega, by omega⟩) (by rw [c_rem h, hv]; exact K)
theorem v_ldiv {w : AW} {a b v : Int} (hd : mLk k pc = some (.ldiv, len)) (h : 0 ≤ a ∧ a ≤ 9223372036854775807 ∧ 0 < b ∧ b ≤ 9223372036854775807) (hv : a / b = v) (K : Wp sc d k (pc + 1) ls (vl v :: r) w nc ns Z) : Wp sc d k pc ls (vl b :: vl a :: r) w nc ns Z := q_ldiv hd (l_ne (b := 0) ⟨by omega, by omega, by omega⟩) (by rw [l_div h, hv]; exact K)
theorem v_lrem {w : AW} {a b v : Int} (hd : mLk k pc = some (.lrem, len)) (h : 0 ≤ a ∧ a ≤ 9223372036854775807 ∧ 0 < b ∧ b ≤ 9223372036854775807) (hv : a % b = v) (K : Wp sc d k (pc + 1) ls (vl v :: r) w nc ns Z) : Wp sc d k pc ls (vl b :: vl a :: r) w nc ns Z := q_lrem hd (l_ne (b := 0) ⟨by omega, by omega, by omega⟩) (by rw [l_rem h, hv]; exact K)
theorem v_i2l {w : AW} {a : Int} (hd : mLk k pc = some (.i2l, len)) (h : -2147483648 ≤ a ∧ a ≤ 2147483647) (K : Wp sc d k (pc + 1) ls (vl a :: r) w nc ns Z) : Wp sc d k pc ls (vi a :: r) w nc ns Z := q_i2l hd (by rw [l_of_i h]; exact K)
theorem v_lcmp0 {w : AW} {a b : Int} (hd : mLk k pc = some (.lcmp, len)) (h : a = b) (K : Wp sc d k (pc + 1) ls (vi 0 :: r) w nc ns Z) : Wp sc d k pc ls (vl b :: vl a :: r) w nc ns Z := q_lcmp hd (by rw [l_cmp0 h]; exact K)
theorem v_lcmp1 {w : AW} {a b : Int} (hd : mLk k pc = some (.lcmp, len)) (h : -9223372036854775808 ≤ b ∧ b < a ∧ a ≤ 9223372036854775807) (K : Wp sc d k (pc + 1) ls (vi 1 :: r) w nc ns Z) : Wp sc d k pc ls (vl b :: vl a :: r) w nc ns Z := q_lcmp hd (by rw [l_cmp1 h]; exact K)
theorem v_if_eq_t {w : AW} {off : Int} {t : Nat} {a : Int} (hd : mLk k pc = some (.ifCond .eq off, len)) (ht : (pc : Int) + off = (t : Int)) (h : a = (0 : Int)) (K : Wp sc d k t ls r w nc ns Z) : Wp sc d k pc ls (vi a :: r) w nc ns Z := q_if_eq_t hd ht (c_eq (a := a) (b := 0) h) K
theorem v_ic_eq_t {w : AW} {off : Int} {t : Nat} {a b : Int} (hd : mLk k pc = some (.if_icmp .eq off, len)) (ht : (pc : Int) + off = (t : Int)) (h : a = b) (K : Wp sc d k t ls r w nc ns Z) : Wp sc d k pc ls (vi b :: vi a :: r) w nc ns Z := q_ic_eq_t hd ht (c_eq (a := a) (b := b) h) K
theorem v_if_eq_f {w : AW} {off : Int} {t : Nat} {a : Int} (hd : mLk k pc = some (.ifCond .eq off, len)) (ht : (pc : Int) + off = (t : Int)) (h : ¬ a = (0 : Int) ∧ (-2147483648 ≤ a ∧ a ≤ 2147483647) ∧ -2147483648 ≤ (0 : Int) ∧ (0 : Int) ≤ 2147483647) (K : Wp sc d k (pc + 3) ls r w nc ns Z) : Wp sc d k pc ls (vi a :: r) w nc ns Z := q_if_eq_f hd ht (c_ne (a := a) (b := 0) h) K
theorem v_ic_eq_f {w : AW} {off : Int} {t : Nat} {a b : Int} (hd : mLk k pc = some (.if_icmp .eq off, len)) (ht : (pc : Int) + off = (t : Int)) (h : ¬ a = b ∧ (-2147483648 ≤ a ∧ a ≤ 2147483647) ∧ -2147483648 ≤ b ∧ b ≤ 2147483647) (K : Wp sc d k (pc + 3) ls r w nc ns Z) : Wp sc d k pc ls (vi b :: vi a :: r) w nc ns Z := q_ic_eq_f hd ht (c_ne (a := a) (b := b) h) K
theorem v_if_ne_t {w : AW} {off : Int} {t : Nat} {a : Int} (hd : mLk k pc = some (.ifCond .ne off, len)) (ht : (pc : Int) + off = (t : Int)) (h : ¬ a = (0 : Int) ∧ (-2147483648 ≤ a ∧ a ≤ 2147483647) ∧ -2147483648 ≤ (0 : Int) ∧ (0 : Int) ≤ 2147483647) (K : Wp sc d k t ls r w nc ns Z) : Wp sc d k pc ls (vi a :: r) w nc ns Z := q_if_ne_t hd ht (c_ne (a := a) (b := 0) h) K
theorem v_ic_ne_t {w : AW} {off : Int} {t : Nat} {a b : Int} (hd : mLk k pc = some (.if_icmp .ne off, len)) (ht : (pc : Int) + off = (t : Int)) (h : ¬ a = b ∧ (-2147483648 ≤ a ∧ a ≤ 2147483647) ∧ -2147483648 ≤ b ∧ b ≤ 2147483647) (K : Wp sc d k t ls r w nc ns Z) : Wp sc d k pc ls (vi b :: vi a :: r) w nc ns Z := q_ic_ne_t hd ht (c_ne (a := a) (b := b) h) K
theorem v_if_ne_f {w : AW} {off : Int} {t : Nat} {a : Int} (hd : mLk k pc = some (.ifCond .ne off, len)) (ht : (pc : Int) + off = (t : Int)) (h : a = (0 : Int)) (K : Wp sc d k (pc + 3) ls r w nc ns Z) : Wp sc d k pc ls (vi a :: r) w nc ns Z := q_if_ne_f hd ht (fun q => q (c_eq (a := a) (b := 0) h)) K
theorem v_ic_ne_f {w : AW} {off : Int} {t : Nat} {a b : Int} (hd : mLk k pc = some (.if_icmp .ne off, len)) (ht : (pc : Int) + off = (t : Int)) (h : a = b) (K : Wp sc d k (pc + 3) ls r w nc ns Z) : Wp sc d k pc ls (vi b :: vi a :: r) w nc ns Z := q_ic_ne_f hd ht (fun q => q (c_eq (a := a) (b := b) h)) K
theorem v_if_lt_t {w : AW} {off : Int} {t : Nat} {a : Int} (hd : mLk k pc = some (.ifCond .lt off, len)) (ht : (pc : Int) + off = (t : Int)) (h : -2147483648 ≤ a ∧ a < (0 : Int) ∧ (0 : Int) ≤ 2147483647) (K : Wp sc d k t ls r w nc ns Z) : Wp sc d k pc ls (vi a :: r) w nc ns Z := q_if_lt_t hd ht (c_lt (a := a) (b := 0) h) K
theorem v_ic_lt_t {w : AW} {off : Int} {t : Nat} {a b : Int} (hd : mLk k pc = some (.if_icmp .lt off, len)) (ht : (pc : Int) + off = (t : Int)) (h : -2147483648 ≤ a ∧ a < b ∧ b ≤ 2147483647) (K : Wp sc d k t ls r w nc ns Z) : Wp sc d k pc ls (vi b :: vi a :: r) w nc ns Z := q_ic_lt_t hd ht (c_lt (a := a) (b := b) h) K
theorem v_if_lt_f {w : AW} {off : Int} {t : Nat} {a : Int} (hd : mLk k pc = some (.ifCond .lt off, len)) (ht : (pc : Int) + off = (t : Int)) (h : -2147483648 ≤ (0 : Int) ∧ (0 : Int) ≤ a ∧ a ≤ 2147483647) (K : Wp sc d k (pc + 3) ls r w nc ns Z) : Wp sc d k pc ls (vi a :: r) w nc ns Z := q_if_lt_f hd ht (c_nlt (a := a) (b := 0) h) K
theorem v_ic_lt_f {w : AW} {off : Int} {t : Nat} {a b : Int} (hd : mLk k pc = some (.if_icmp .lt off, len)) (ht : (pc : Int) + off = (t : Int)) (h : -2147483648 ≤ b ∧ b ≤ a ∧ a ≤ 2147483647) (K : Wp sc d k (pc + 3) ls r w nc ns Z) : Wp sc d k pc ls (vi b :: vi a :: r) w nc ns Z := q_ic_lt_f hd ht (c_nlt (a := a) (b := b) h) K
theorem v_if_ge_t {w : AW} {off : Int} {t : Nat} {a : Int} (hd : mLk k pc = some (.ifCond .ge off, len)) (ht : (pc : Int) + off = (t : Int)) (h : -2147483648 ≤ (0 : Int) ∧ (0 : Int) ≤ a ∧ a ≤ 2147483647) (K : Wp sc d k t ls r w nc ns Z) : Wp sc d k pc ls (vi a :: r) w nc ns Z := q_if_ge_t hd ht (c_le (a := 0) (b := a) h) K
theorem v_ic_ge_t {w : AW} {off : Int} {t : Nat} {a b : Int} (hd : mLk k pc = some (.if_icmp .ge off, len)) (ht : (pc : Int) + off = (t : Int)) (h : -2147483648 ≤ b ∧ b ≤ a ∧ a ≤ 2147483647) (K : Wp sc d k t ls r w nc ns Z) : Wp sc d k pc ls (vi b :: vi a :: r) w nc ns Z := q_ic_ge_t hd ht (c_le (a := b) (b := a) h) K
theorem v_if_ge_f {w : AW} {off : Int} {t : Nat} {a : Int} (hd : mLk k pc = some (.ifCond .ge off, len)) (ht : (pc : Int) + off = (t : Int)) (h : -2147483648 ≤ a ∧ a < (0 : Int) ∧ (0 : Int) ≤ 2147483647) (K : Wp sc d k (pc + 3) ls r w nc ns Z) : Wp sc d k pc ls (vi a :: r) w nc ns Z := q_if_ge_f hd ht (c_nle (a := 0) (b := a) h) K
theorem v_ic_ge_f {w : AW} {off : Int} {t : Nat} {a b : Int} (hd : mLk k pc = some (.if_icmp .ge off, len)) (ht : (pc : Int) + off = (t : Int)) (h : -2147483648 ≤ a ∧ a < b ∧ b ≤ 2147483647) (K : Wp sc d k (pc + 3) ls r w nc ns Z) : Wp sc d k pc ls (vi b :: vi a :: r) w nc ns Z := q_ic_ge_f hd ht (c_nle (a := b) (b := a) h) K
theorem v_if_gt_t {w : AW} {off : Int} {t : Nat} {a : Int} (hd : mLk k pc = some (.ifCond .gt off, len)) (ht : (pc : Int) + off = (t : Int)) (h : -2147483648 ≤ (0 : Int) ∧ (0 : Int) < a ∧ a ≤ 2147483647) (K : Wp sc d k t ls r w nc ns Z) : Wp sc d k pc ls (vi a :: r) w nc ns Z := q_if_gt_t hd ht (c_lt (a := 0) (b := a) h) K
theorem v_ic_gt_t {w : AW} {off : Int} {t : Nat} {a b : Int} (hd : mLk k pc = some (.if_icmp .gt off, len)) (ht : (pc : Int) + off = (t : Int)) (h : -2147483648 ≤ b ∧ b < a ∧ a ≤ 2147483647) (K : Wp sc d k t ls r w nc ns Z) : Wp sc d k pc ls (vi b :: vi a :: r) w nc ns Z := q_ic_gt_t hd ht (c_lt (a := b) (b := a) h) K
theorem v_if_gt_f {w : AW} {off : Int} {t : Nat} {a : Int} (hd : mLk k pc = some (.ifCond .gt off, len)) (ht : (pc : Int) + off = (t : Int)) (h : -2147483648 ≤ a ∧ a ≤ (0 : Int) ∧ (0 : Int) ≤ 2147483647) (K : Wp sc d k (pc + 3) ls r w nc ns Z) : Wp sc d k pc ls (vi a :: r) w nc ns Z := q_if_gt_f hd ht (c_nlt (a := 0) (b := a) h) K
theorem v_ic_gt_f {w : AW} {off : Int} {t : Nat} {a b : Int} (hd : mLk k pc = some (.if_icmp .gt off, len)) (ht : (pc : Int) + off = (t : Int)) (h : -2147483648 ≤ a ∧ a ≤ b ∧ b ≤ 2147483647) (K : Wp sc d k (pc + 3) ls r w nc ns Z) : Wp sc d k pc ls (vi b :: vi a :: r) w nc ns Z := q_ic_gt_f hd ht (c_nlt (a := b) (b := a) h) K
theorem v_if_le_t {w : AW} {off : Int} {t : Nat} {a : Int} (hd : mLk k pc = some (.ifCond .le off, len)) (ht : (pc : Int) + off = (t : Int)) (h : -2147483648 ≤ a ∧ a ≤ (0 : Int) ∧ (0 : Int) ≤ 2147483647) (K : Wp sc d k t ls r w nc ns Z) : Wp sc d k pc ls (vi a :: r) w nc ns Z := q_if_le_t hd ht (c_le (a := a) (b := 0) h) K
theorem v_ic_le_t {w : AW} {off : Int} {t : Nat} {a b : Int} (hd : mLk k pc = some (.if_icmp .le off, len)) (ht : (pc : Int) + off = (t : Int)) (h : -2147483648 ≤ a ∧ a ≤ b ∧ b ≤ 2147483647) (K : Wp sc d k t ls r w nc ns Z) : Wp sc d k pc ls (vi b :: vi a :: r) w nc ns Z := q_ic_le_t hd ht (c_le (a := a) (b := b) h) K
theorem v_if_le_f {w : AW} {off : Int} {t : Nat} {a : Int} (hd : mLk k pc = some (.ifCond .le off, len)) (ht : (pc : Int) + off = (t : Int)) (h : -2147483648 ≤ (0 : Int) ∧ (0 : Int) < a ∧ a ≤ 2147483647) (K : Wp sc d k (pc + 3) ls r w nc ns Z) : Wp sc d k pc ls (vi a :: r) w nc ns Z := q_if_le_f hd ht (c_nle (a := a) (b := 0) h) K
theorem v_ic_le_f {w : AW} {off : Int} {t : Nat} {a b : Int} (hd : mLk k pc = some (.if_icmp .le off, len)) (ht : (pc : Int) + off = (t : Int)) (h : -2147483648 ≤ b ∧ b < a ∧ a ≤ 2147483647) (K : Wp sc d k (pc + 3) ls r w nc ns Z) : Wp sc d k pc ls (vi b :: vi a :: r) w nc ns Z := q_ic_le_f hd ht (c_nle (a := a) (b := b) h) K
theorem v_tsw_o {w : AW} {dflt lo hi : Int} {offs : Array Int} {t : Nat} {a : Int} (hd : mLk k pc = some (.tableswitch dflt lo hi offs, len)) (h : (a < lo ∨ hi < a) ∧ -2147483648 ≤ a ∧ a ≤ 2147483647) (ht : (pc : Int) + dflt = (t : Int)) (K : Wp sc d k t ls r w nc ns Z) : Wp sc d k pc ls (vi a :: r) w nc ns Z := q_tsw_o hd (by rw [Int32.toInt_ofInt_of_le (by omega) (by omega)]; exact h.1) ht K
theorem v_tsw_i {w : AW} {dflt lo hi off : Int} {offs : Array Int} {t : Nat} {a : Int} (b : Int) (hd : mLk k pc = some (.tableswitch dflt lo hi offs, len)) (hb : a = b) (h : (lo ≤ b ∧ b ≤ hi) ∧ -2147483648 ≤ b ∧ b ≤ 2147483647) (ho : offs[(b - lo).toNat]? = some off) (ht : (pc : Int) + off = (t : Int)) (K : Wp sc d k t ls r w nc ns Z) : Wp sc d k pc ls (vi a :: r) w nc ns Z := by
  subst hb
  have e : (Int32.ofInt a).toInt = a := Int32.toInt_ofInt_of_le (by omega) (by omega)
  exact q_tsw_i hd (by rw [e]; omega) (by rw [e]; exact ho) ht K
theorem v_lsw {w : AW} {dflt off : Int} {ps : Array (Int × Int)} {t : Nat} {a : Int} (b : Int) (hd : mLk k pc = some (.lookupswitch dflt ps, len)) (hb : a = b) (h : -2147483648 ≤ b ∧ b ≤ 2147483647) (hp : (ps.toList.zip (ps.toList.drop 1)).all (fun (a, next) => a.1 < next.1) = true) (ho : Op.lookupswitch.offset ps.toList dflt b = off) (ht : (pc : Int) + off = (t : Int)) (K : Wp sc d k t ls r w nc ns Z) : Wp sc d k pc ls (vi a :: r) w nc ns Z := by
  subst hb
  have e : (Int32.ofInt a).toInt = a := Int32.toInt_ofInt_of_le (by omega) (by omega)
  exact q_lsw hd hp (by rw [e]; exact ho) ht K
theorem v_gi {x a ci m : Nat} {z v : Int} {fl : List (Option Nat)} (hd : mLk k pc = some (.getfield x, len)) (hk : a_lk (kF (mK k)) x = some (ci, m)) (hc : ck P Q N T a = .inr (ci, fl)) (ha : a < 68) (hm : fl[m]? = some none) (hz : (m : Int) = z) (hv : c a z = v) (K : Wp sc d k (pc + 3) ls (vi v :: r) (Wd P Q N T c) nc ns Z) : Wp sc d k pc ls (.ref a :: r) (Wd P Q N T c) nc ns Z := q_get hd hk (fs := fe c a 0 fl) (by rw [wd_get ha, hc]; rfl) (fe_none hm) (by rw [Nat.zero_add, hz, hv]; exact K)
theorem v_gr {x a ci m t : Nat} {fl : List (Option Nat)} (hd : mLk k pc = some (.getfield x, len)) (hk : a_lk (kF (mK k)) x = some (ci, m)) (hc : ck P Q N T a = .inr (ci, fl)) (ha : a < 68) (hm : fl[m]? = some (some t)) (K : Wp sc d k (pc + 3) ls (.ref t :: r) (Wd P Q N T c) nc ns Z) : Wp sc d k pc ls (.ref a :: r) (Wd P Q N T c) nc ns Z := q_get hd hk (fs := fe c a 0 fl) (by rw [wd_get ha, hc]; rfl) (fe_some hm) K
theorem v_pi {x a ci m : Nat} {z v : Int} {fl : List (Option Nat)} (hd : mLk k pc = some (.putfield x, len)) (hk : a_lk (kF (mK k)) x = some (ci, m)) (hc : ck P Q N T a = .inr (ci, fl)) (ha : a < 68) (hm : fl[m]? = some none) (hz : (m : Int) = z) (hf : YF ci m = .int) (hq : (TF ci m).2.2.2 = false ∨ (mD k = 2 ∧ mK k = ci)) (K : Wp sc d k (pc + 3) ls r (Wd P Q N T (up c a z v)) nc ns Z) : Wp sc d k pc ls (vi v :: .ref a :: r) (Wd P Q N T c) nc ns Z := by
  subst hz
  have hl : m < fl.length := (List.getElem?_eq_some_iff.mp hm).1
  refine q_putv (fs := fe c a 0 fl) (w9 := Wd P Q N T (up c a m v)) hd hk (by rw [wd_get ha, hc]; rfl) (by rw [fe_len]; exact hl) (by rw [hf]; rfl) hq ?_ K
  refine wd_up ha ?_
  rw [hc, fe_set hm, Nat.zero_add]
  rfl
theorem v_ia {a n : Nat} {j v : Int} (hd : mLk k pc = some (.iaload, len)) (hc : ck P Q N T a = .inl (0, n)) (ha : a < 68) (hn : n ≤ 10000) (h : 0 ≤ j ∧ j < n) (hv : c a j = v) (K : Wp sc d k (pc + 1) ls (vi v :: r) (Wd P Q N T c) nc ns Z) : Wp sc d k pc ls (vi j :: .ref a :: r) (Wd P Q N T c) nc ns Z := by
  have hj : ((j.toNat : Nat) : Int) = j := Int.toNat_of_nonneg h.1
  refine q_ialoadv hd (c_nn ⟨h.1, by omega⟩) (by show ¬ a = 999999; omega) (l := ar n (c a)) (by rw [wd_get ha, hc]; rfl) (c_nat ⟨h.1, by omega⟩) (ar_get (by omega)) ?_
  rw [hj, hv]
  exact K
theorem v_ba {a n : Nat} {j v : Int} (hd : mLk k pc = some (.baload, len)) (hc : ck P Q N T a = .inl (1, n)) (ha : a < 68) (hn : n ≤ 10000) (h : 0 ≤ j ∧ j < n) (hv : c a j = v) (K : Wp sc d k (pc + 1) ls (vi v :: r) (Wd P Q N T c) nc ns Z) : Wp sc d k pc ls (vi j :: .ref a :: r) (Wd P Q N T c) nc ns Z := by
  have hj : ((j.toNat : Nat) : Int) = j := Int.toNat_of_nonneg h.1
  refine q_baloadv hd (c_nn ⟨h.1, by omega⟩) (by show ¬ a = 999999; omega) (l := ar n (c a)) (by rw [wd_get ha, hc]; rfl) (c_nat ⟨h.1, by omega⟩) (ar_get (by omega)) ?_
  rw [hj, hv]
  exact K
theorem v_la {a n : Nat} {j v : Int} (hd : mLk k pc = some (.laload, len)) (hc : ck P Q N T a = .inl (2, n)) (ha : a < 68) (hn : n ≤ 10000) (h : 0 ≤ j ∧ j < n) (hv : c a j = v) (K : Wp sc d k (pc + 1) ls (vl v :: r) (Wd P Q N T c) nc ns Z) : Wp sc d k pc ls (vi j :: .ref a :: r) (Wd P Q N T c) nc ns Z := by
  have hj : ((j.toNat : Nat) : Int) = j := Int.toNat_of_nonneg h.1
  refine q_laloadv hd (c_nn ⟨h.1, by omega⟩) (l := al n (c a)) (by rw [wd_get ha, hc]; rfl) (c_nat ⟨h.1, by omega⟩) (al_get (by omega)) ?_
  rw [hj, hv]
  exact K
theorem v_is {a n : Nat} {j v : Int} (hd : mLk k pc = some (.iastore, len)) (hc : ck P Q N T a = .inl (0, n)) (ha : a < 68) (hn : n ≤ 10000) (h : 0 ≤ j ∧ j < n) (K : Wp sc d k (pc + 1) ls r (Wd P Q N T (up c a j v)) nc ns Z) : Wp sc d k pc ls (vi v :: vi j :: .ref a :: r) (Wd P Q N T c) nc ns Z := by
  have hj : ((j.toNat : Nat) : Int) = j := Int.toNat_of_nonneg h.1
  refine q_iastorev hd (c_nn ⟨h.1, by omega⟩) (l := ar n (c a)) (w9 := Wd P Q N T (up c a j v)) (by rw [wd_get ha, hc]; rfl) (c_nat ⟨h.1, by omega⟩) (by rw [ar_len]; omega) ?_ K
  refine wd_up ha ?_
  rw [hc, ar_set, hj, show ce (up c a j v) a (.inl (0, n)) = .inl (0, .inl (ar n (up c a j v a))) from rfl, up_self]
theorem v_bs {a n : Nat} {j v : Int} (hd : mLk k pc = some (.bastore, len)) (hc : ck P Q N T a = .inl (1, n)) (ha : a < 68) (hn : n ≤ 10000) (h : 0 ≤ j ∧ j < n) (K : Wp sc d k (pc + 1) ls r (Wd P Q N T (up c a j (sb v))) nc ns Z) : Wp sc d k pc ls (vi v :: vi j :: .ref a :: r) (Wd P Q N T c) nc ns Z := by
  have hj : ((j.toNat : Nat) : Int) = j := Int.toNat_of_nonneg h.1
  refine q_bastorev hd (c_nn ⟨h.1, by omega⟩) (l := ar n (c a)) (w9 := Wd P Q N T (up c a j (sb v))) (by rw [wd_get ha, hc]; rfl) (c_nat ⟨h.1, by omega⟩) (by rw [ar_len]; omega) ?_ K
  refine wd_up ha ?_
  rw [hc, sb_of, ar_set, hj, show ce (up c a j (sb v)) a (.inl (1, n)) = .inl (1, .inl (ar n (up c a j (sb v) a))) from rfl, up_self]
theorem v_ls {a n : Nat} {j v : Int} (hd : mLk k pc = some (.lastore, len)) (hc : ck P Q N T a = .inl (2, n)) (ha : a < 68) (hn : n ≤ 10000) (h : 0 ≤ j ∧ j < n) (K : Wp sc d k (pc + 1) ls r (Wd P Q N T (up c a j v)) nc ns Z) : Wp sc d k pc ls (vl v :: vi j :: .ref a :: r) (Wd P Q N T c) nc ns Z := by
  have hj : ((j.toNat : Nat) : Int) = j := Int.toNat_of_nonneg h.1
  refine q_lastorev hd (c_nn ⟨h.1, by omega⟩) (l := al n (c a)) (w9 := Wd P Q N T (up c a j v)) (by rw [wd_get ha, hc]; rfl) (c_nat ⟨h.1, by omega⟩) (by rw [al_len]; omega) ?_ K
  refine wd_up ha ?_
  rw [hc, al_set, hj, show ce (up c a j v) a (.inl (2, n)) = .inl (2, .inr (al n (up c a j v a))) from rfl, up_self]
theorem v_al {a n t : Nat} (hd : mLk k pc = some (.arraylength, len)) (hc : ck P Q N T a = .inl (t, n)) (ha : a < 68) (ht : t < 2) (K : Wp sc d k (pc + 1) ls (vi (n : Int) :: r) (Wd P Q N T c) nc ns Z) : Wp sc d k pc ls (.ref a :: r) (Wd P Q N T c) nc ns Z := by
  refine q_alen hd (l := ar n (c a)) (by show ¬ a = 999999; omega) (by rw [wd_get ha, hc]; show some (if t = 2 then _ else _) = _; rw [if_neg (by omega)]) ht (v := Int32.ofInt n) ?_ K
  rw [ar_len]
  exact Int32.ofInt_eq_ofNat.symm
theorem v_script {xs : Nat → Int32} {L j : Nat} {z : Int} (hd : mLk k pc = some (.iaload, len)) (hz : z = (j : Int)) (hj : j < L) (hL : L ≤ 100000) (K : Wp (a_scr L xs) d k (pc + 1) ls (vi (xs j).toInt :: r) (Wd P Q N T c) nc ns Z) : Wp (a_scr L xs) d k pc ls (vi z :: .ref a_SC :: r) (Wd P Q N T c) nc ns Z := by
  subst hz
  rw [show vi (xs j).toInt = .int (xs j) from congrArg Value.int (Int32.ofInt_toInt _)] at K
  refine q_script hd (c_nn ⟨by omega, by omega⟩) ?_ K
  rw [c_nat ⟨by omega, by omega⟩, Int.toNat_natCast]
  unfold a_scr
  rw [List.getElem?_map, List.getElem?_range hj]
  rfl
/-- a call of an object's method -/
theorem v_cv {x j a ci len : Nat} {st rest : List Value} {fl : List (Option Nat)} (hd : mLk k pc = some (.invokevirtual x, len)) (hk : a_lk (kM (mK k)) x = some (0, j)) (hst : st.drop (mV j) = .ref a :: rest) (hc : ck P Q N T a = .inr (ci, fl)) (ha : a < 68) (hj : (ci = mK j ∧ mD j = 0) ∧ (j + 1 < mN ∧ mH j = [])) (hs : a_cat rest ≤ 8) (hx : a_cat (.ref a :: (st.take (mV j)).reverse) ≤ mX j)
    (C : Wp sc d j 0 (lv_args 0 (.ref a :: (st.take (mV j)).reverse)) [] (Wd P Q N T c) 0 0 (Bk sc d k pc j ls rest nc ns Z)) : Wp sc (d + 1) k pc ls st (Wd P Q N T c) nc ns Z := by
  refine q_call hd (j := j) (ags := .ref a :: (st.take (mV j)).reverse) (rest := rest) ?_ rfl ?_ C
  · show a_inv (d + 1) k x pc ls st _ = none
    unfold a_inv
    rw [hk]
    exact rfl
  · show (match a_lk (kM (mK k)) x with | some (0, j) => a_cv 0 j st _ | _ => none) = _
    rw [hk]
    show a_cv 0 j st _ = _
    unfold a_cv
    rw [hst]
    dsimp only
    rw [wd_get ha, hc]
    show (if _ then _ else none) = _
    rw [if_pos ⟨hj.1, hj.2.1, hj.2.2, hs, hx⟩]
theorem v_new {w : AW} {x v : Nat} (hd : mLk k pc = some (.new x, len)) (hk : a_lk (kX (mK k)) x = some v) (hv : v = 100 ∨ v = 101) (h6 : 6 ≤ d) (hs : a_cat st ≤ 8) (ht : a_thr k pc v = true) (hh : mH k = []) (K : Z (.inr v, w, nc + 1, ns + 6)) : Wp sc d k pc ls st w nc ns Z := by
  have hn : ¬ v < 9 := by omega
  refine q_fin hd (i := .new x) (oo := .inr v) (a := 1) (b := 6) ?_ ?_ K
  · show a_new k x pc ls st w = none
    unfold a_new
    rw [hk]
    exact if_neg (fun q => hn q.1)
  · show a_thx d k x pc st = some (.inr v, 1, 6)
    unfold a_thx
    rw [hk]
    exact if_pos ⟨hv, h6, hs, ht, hh⟩
theorem v_zret {w : AW} {a : Int} (hd : mLk k pc = some (.ireturn, len)) (hR : mR k = some .boolean) (h : a = 0 ∨ a = 1) (K : Z (.inl (some (vi a)), w, nc, ns)) : Wp sc d k pc ls [vi a] w nc ns Z := q_zret hd hR (h.elim (fun e => Or.inl (by rw [e]; rfl)) (fun e => Or.inr (by rw [e]; rfl))) K
theorem v_max_l {w : AW} {x j : Nat} {a b : Int} (hd : mLk k pc = some (.invokestatic x, len)) (hk : a_lk (kM (mK k)) x = some (3, j)) (h1 : 1 ≤ d) (hc : a_cat r ≤ 8) (h : -2147483648 ≤ a ∧ a < b ∧ b ≤ 2147483647) (K : Wp sc d k (pc + 3) ls (vi b :: r) w nc ns Z) : Wp sc d k pc ls (vi b :: vi a :: r) w nc ns Z := q_mmax hd hk ⟨h1, hc⟩ (if_pos (c_lt h)) K
theorem v_max_g {w : AW} {x j : Nat} {a b : Int} (hd : mLk k pc = some (.invokestatic x, len)) (hk : a_lk (kM (mK k)) x = some (3, j)) (h1 : 1 ≤ d) (hc : a_cat r ≤ 8) (h : -2147483648 ≤ b ∧ b ≤ a ∧ a ≤ 2147483647) (K : Wp sc d k (pc + 3) ls (vi a :: r) w nc ns Z) : Wp sc d k pc ls (vi b :: vi a :: r) w nc ns Z := q_mmax hd hk ⟨h1, hc⟩ (if_neg (c_nlt h)) K
theorem v_min_l {w : AW} {x j : Nat} {a b : Int} (hd : mLk k pc = some (.invokestatic x, len)) (hk : a_lk (kM (mK k)) x = some (4, j)) (h1 : 1 ≤ d) (hc : a_cat r ≤ 8) (h : -2147483648 ≤ a ∧ a < b ∧ b ≤ 2147483647) (K : Wp sc d k (pc + 3) ls (vi a :: r) w nc ns Z) : Wp sc d k pc ls (vi b :: vi a :: r) w nc ns Z := q_mmin hd hk ⟨h1, hc⟩ (if_neg (c_nlt ⟨h.1, Int.le_of_lt h.2.1, h.2.2⟩)) K
theorem v_min_g {w : AW} {x j : Nat} {a b : Int} (hd : mLk k pc = some (.invokestatic x, len)) (hk : a_lk (kM (mK k)) x = some (4, j)) (h1 : 1 ≤ d) (hc : a_cat r ≤ 8) (h : -2147483648 ≤ b ∧ b ≤ a ∧ a ≤ 2147483647) (K : Wp sc d k (pc + 3) ls (vi b :: r) w nc ns Z) : Wp sc d k pc ls (vi b :: vi a :: r) w nc ns Z := by
  refine q_mmin hd hk ⟨h1, hc⟩ ?_ K
  by_cases e : b = a
  · subst e
    exact ite_self _
  · exact if_pos (c_lt ⟨h.1, by omega, h.2.2⟩)
theorem v_abs_p {w : AW} {x j : Nat} {a v : Int} (hd : mLk k pc = some (.invokestatic x, len)) (hk : a_lk (kM (mK k)) x = some (5, j)) (h1 : 1 ≤ d) (hc : a_cat r ≤ 8) (h : 0 ≤ a ∧ a ≤ 2147483647) (hv : a = v) (K : Wp sc d k (pc + 3) ls (vi v :: r) w nc ns Z) : Wp sc d k pc ls (vi a :: r) w nc ns Z := by
  subst hv
  exact q_mabs hd hk ⟨h1, hc⟩ (if_pos (c_nn h)) K
theorem v_abs_n {w : AW} {x j : Nat} {a v : Int} (hd : mLk k pc = some (.invokestatic x, len)) (hk : a_lk (kM (mK k)) x = some (5, j)) (h1 : 1 ≤ d) (hc : a_cat r ≤ 8) (h : -2147483648 ≤ a ∧ a < 0) (hv : -a = v) (K : Wp sc d k (pc + 3) ls (vi v :: r) w nc ns Z) : Wp sc d k pc ls (vi a :: r) w nc ns Z := by
  subst hv
  refine q_mabs hd hk ⟨h1, hc⟩ (z := Int32.ofInt (-a)) ?_ K
  rw [if_neg (show ¬ (0 : Int32) ≤ Int32.ofInt a from c_nle (a := 0) (b := a) ⟨h.1, h.2, by omega⟩), Int32.ofInt_neg, Int32.zero_sub]
theorem v_cpy {x j a a0 n0 n1 : Nat} {sp dp n : Int} (hd : mLk k pc = some (.invokestatic x, len)) (hk : a_lk (kM (mK k)) x = some (6, j)) (hc : ck P Q N T a = .inl (0, n1)) (ha : a < 68) (hc0 : ck P Q N T a0 = .inl (0, n0)) (ha0 : a0 < 68) (e1 : n1 = n1) (e0 : n0 = n0) (h1 : 1 ≤ d) (hs : a_cat r ≤ 8) (h : (0 ≤ n ∧ 0 ≤ sp ∧ 0 ≤ dp) ∧ (sp + n ≤ n0 ∧ dp + n ≤ n1) ∧ (n0 : Int) ≤ 100000 ∧ (n1 : Int) ≤ 100000)
    (K : Wp sc d k (pc + 3) ls r (Wd P Q N T (upc c a0 sp a dp n)) nc ns Z) : Wp sc d k pc ls (vi n :: vi dp :: .ref a :: vi sp :: .ref a0 :: r) (Wd P Q N T c) nc ns Z := by
  have en := c_nat (a := n) ⟨by omega, by omega⟩
  have es := c_nat (a := sp) ⟨by omega, by omega⟩
  have ed := c_nat (a := dp) ⟨by omega, by omega⟩
  have in_ := Int.toNat_of_nonneg h.1.1
  have is_ := Int.toNat_of_nonneg h.1.2.1
  have id_ := Int.toNat_of_nonneg h.1.2.2
  refine q_ins hd (pc' := pc + 3) (ls' := ls) (st' := r) (w' := Wd P Q N T (upc c a0 sp a dp n)) (a := 0) (b := 0) ?_ K
  show a_ins d k x pc ls _ _ = _
  unfold a_ins
  rw [hk]
  show a_cpy d pc ls _ _ = _
  unfold a_cpy
  dsimp only
  rw [if_pos ⟨⟨h1, hs⟩, c_nn ⟨by omega, by omega⟩, c_nn ⟨by omega, by omega⟩, c_nn ⟨by omega, by omega⟩⟩]
  rw [wd_get ha, wd_get ha0, hc, hc0]
  show (if _ then a_nx _ _ _ ((Wd P Q N T c).set a (.inl (0, .inl (a_cpl (ar n0 (c a0)) (ar n1 (c a)) _ _ _)))) else none) = _
  rw [en, es, ed]
  rw [if_pos ⟨⟨rfl, rfl⟩, by rw [ar_len]; omega, by rw [ar_len]; omega⟩]
  rw [ar_cpl (by omega) (by omega), wd_set (P' := P) (Q' := Q) (N' := N) (T' := T) (c' := upc c a0 sp a dp n) ha ?_ (fun b hb => ce_ext (fun j _ => (upc_c hb).symm))]
  · rfl
  · rw [hc]
    show _ = AEi (upc c a0 sp a dp n) a n1
    unfold AEi upc
    rw [if_pos rfl, in_, is_, id_]
theorem sln_at {w : AW} {a i : Nat} (h6 : 6 ≤ d) (hs : a_cat r ≤ 8) (h1 : a_SB ≤ a) (h2 : a - a_SB = i) (hi : i < sN) : a_sln d pc ls (.ref a :: r) w = some (pc + 3, ls, .int (Int32.ofNat (sB i).length) :: r, w, 0, 0) := by
  unfold a_sln
  dsimp only
  rw [h2, if_pos ⟨⟨h6, hs⟩, h1, hi⟩]
  exact rfl
theorem sB_at {b i : Nat} {m z : Int32} (h2 : b = i) (hz : (sB i)[m.toNatClampNeg]? = some z) : (sB b)[m.toNatClampNeg]? = some z := by
  subst h2
  exact hz
theorem sch_at {w : AW} {a : Nat} {m z : Int32} (hc : (6 ≤ d ∧ a_cat r ≤ 8) ∧ ((a_SB ≤ a ∧ a - a_SB < sN) ∧ 0 ≤ m)) (hz : (sB (a - a_SB))[m.toNatClampNeg]? = some z) (hst : st = .int m :: .ref a :: r) : a_sch d pc ls st w = some (pc + 3, ls, .int z :: r, w, 0, 0) := by
  unfold a_sch
  split
  · rename_i i9 a9 r9
    cases hst
    rw [if_pos hc]
    split
    · rename_i x hx
      cases hx.symm.trans hz
      exact rfl
    · rename_i hx
      cases hx.symm.trans hz
  · rename_i hx
    exact (hx _ _ _ hst).elim
theorem v_sln {w : AW} {x j i : Nat} (n : Nat) (hd : mLk k pc = some (.invokevirtual x, len)) (hk : a_lk (kM (mK k)) x = some (7, j)) (h6 : 6 ≤ d) (hs : a_cat r ≤ 8) (hi : i < sN) (hn : (sB i).length = n) (K : Wp sc d k (pc + 3) ls (vi (n : Int) :: r) w nc ns Z) : Wp sc d k pc ls (.ref (a_SB + i) :: r) w nc ns Z := by
  subst hn
  rw [show vi ((sB i).length : Int) = .int (Int32.ofNat (sB i).length) from congrArg Value.int Int32.ofInt_eq_ofNat] at K
  refine q_ins hd (a := 0) (b := 0) ?_ K
  show a_inv d k x pc ls _ _ = _
  unfold a_inv
  rw [hk]
  exact sln_at h6 hs (Nat.le_add_right _ _) (Nat.add_sub_cancel_left _ _) hi
theorem v_sch {w : AW} {x j i : Nat} {m : Int} (z : Int) (hd : mLk k pc = some (.invokevirtual x, len)) (hk : a_lk (kM (mK k)) x = some (8, j)) (h6 : 6 ≤ d) (hs : a_cat r ≤ 8) (hi : i < sN) (hm : 0 ≤ m ∧ m ≤ 2147483647) (hz : (sB i)[m.toNat]? = some (Int32.ofInt z)) (K : Wp sc d k (pc + 3) ls (vi z :: r) w nc ns Z) : Wp sc d k pc ls (vi m :: .ref (a_SB + i) :: r) w nc ns Z := by
  refine q_ins hd (a := 0) (b := 0) ?_ K
  show a_inv d k x pc ls _ _ = _
  unfold a_inv
  rw [hk]
  have e := Nat.add_sub_cancel_left a_SB i
  exact sch_at ⟨⟨h6, hs⟩, ⟨Nat.le_add_right _ _, Nat.lt_of_le_of_lt (Nat.le_of_eq e) hi⟩, c_nn hm⟩ (sB_at e (by rw [c_nat hm]; exact hz)) rfl
theorem v_lsw_o {w : AW} {dflt : Int} {ps : Array (Int × Int)} {t : Nat} {a : Int} (hd : mLk k pc = some (.lookupswitch dflt ps, len)) (h : -2147483648 ≤ a ∧ a ≤ 2147483647) (hp : (ps.toList.zip (ps.toList.drop 1)).all (fun (a, next) => a.1 < next.1) = true) (ho : Op.lookupswitch.offset ps.toList dflt a = dflt) (ht : (pc : Int) + dflt = (t : Int)) (K : Wp sc d k t ls r w nc ns Z) : Wp sc d k pc ls (vi a :: r) w nc ns Z :=
  q_lsw hd hp (by rw [Int32.toInt_ofInt_of_le (by omega) (by omega)]; exact ho) ht K
end FL
section PL
variable {A P Q N T : Nat}
theorem ck_p0 (h : A = 13 ∨ A = 25) : ck P Q N T A = .inr (2, [none, none, none, none, none, none, some (A + 1), some (A + 2), some (A + 3), some (A + 4), some (A + 5), some (A + 6), some (A + 7)]) := by rcases h with rfl | rfl <;> rfl
theorem ck_p1 (h : A = 13 ∨ A = 25) : ck P Q N T (A + 1) = .inl (0, 24) := by rcases h with rfl | rfl <;> rfl
theorem ck_p2 (h : A = 13 ∨ A = 25) : ck P Q N T (A + 2) = .inl (0, 12) := by rcases h with rfl | rfl <;> rfl
theorem ck_p3 (h : A = 13 ∨ A = 25) : ck P Q N T (A + 3) = .inl (0, 4) := by rcases h with rfl | rfl <;> rfl
theorem ck_p4 (h : A = 13 ∨ A = 25) : ck P Q N T (A + 4) = .inl (0, 8) := by rcases h with rfl | rfl <;> rfl
theorem ck_p5 (h : A = 13 ∨ A = 25) : ck P Q N T (A + 5) = .inl (0, 8) := by rcases h with rfl | rfl <;> rfl
theorem ck_p6 (h : A = 13 ∨ A = 25) : ck P Q N T (A + 6) = .inl (0, 4) := by rcases h with rfl | rfl <;> rfl
theorem ck_p7 (h : A = 13 ∨ A = 25) : ck P Q N T (A + 7) = .inr (0, [some (A + 8), some (A + 9), some (A + 10), some (A + 11), none, none]) := by rcases h with rfl | rfl <;> rfl
theorem ck_p8 (h : A = 13 ∨ A = 25) : ck P Q N T (A + 8) = .inl (0, 150) := by rcases h with rfl | rfl <;> rfl
theorem ck_p9 (h : A = 13 ∨ A = 25) : ck P Q N T (A + 9) = .inl (0, 150) := by rcases h with rfl | rfl <;> rfl
theorem ck_p10 (h : A = 13 ∨ A = 25) : ck P Q N T (A + 10) = .inl (0, 150) := by rcases h with rfl | rfl <;> rfl
theorem ck_p11 (h : A = 13 ∨ A = 25) : ck P Q N T (A + 11) = .inl (0, 8) := by rcases h with rfl | rfl <;> rfl
end PL
theorem zv {Z : AR → Prop} {a b : Int} {w : AW} {n m : Nat} (h : a = b) (K : Z (.inl (some (vi b)), w, n, m)) : Z (.inl (some (vi a)), w, n, m) := h ▸ K
theorem zl {Z : AR → Prop} {a b : Int} {w : AW} {n m : Nat} (h : a = b) (K : Z (.inl (some (vl b)), w, n, m)) : Z (.inl (some (vl a)), w, n, m) := h ▸ K
theorem zw {Z : AR → Prop} {P Q N T : Nat} {c c2 : ME} {v : Option Value ⊕ Nat} {n m : Nat} (h : c = c2) (K : Z (v, Wd P Q N T c2, n, m)) : Z (v, Wd P Q N T c, n, m) := h ▸ K
