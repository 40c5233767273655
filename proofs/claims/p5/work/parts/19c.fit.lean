/-! ===== fit, on both sides ===== -/
noncomputable def fw (n k : Nat) : Nat → Nat
  | 0 => 1
  | i + 1 => fw n k i * (n - k + (i + 1)) / (i + 1)
/-- so many terms from h on -/
noncomputable def fa (n q : Nat) : Nat → Nat → Int
  | 0, _ => 0
  | m + 1, h => (fw n h h : Int) * (q : Int) ^ h * (16 - (q : Int)) ^ (n - h) + fa n q m (h + 1)
noncomputable def fh : Nat → Int → Int → Int × Int
  | 0, a, b => (a, b)
  | f + 1, a, b => if a % 2 = 0 ∧ b % 2 = 0 then fh f (a / 2) (b / 2) else (a, b)
noncomputable def fcls (n k q half : Nat) : Int :=
  let a := fa n q (n + 1 - k) k
  let r := fh 48 a (if a = 0 then 1 else 16 ^ n)
  if half = 0 then r.1 else r.2
noncomputable def fst_ (q : Nat) (p : Nat) : List Nat → List Nat
  | [] => []
  | x :: r => (x * (16 - q) + p * q) :: fst_ q x r
noncomputable def frl (q : Nat) : Nat → List Nat
  | 0 => 1 :: List.replicate 13 0
  | i + 1 => fst_ q 0 (frl q i)
noncomputable def fsum : List Nat → Nat
  | [] => 0
  | x :: r => x + fsum r
noncomputable def fref (n k q half : Nat) : Int :=
  let u := fsum ((frl q n).drop k)
  let b := 16 ^ n
  (((if half = 0 then u else b) / Nat.gcd u b : Nat) : Int)
noncomputable def fchk : Bool := (List.range 13).all fun n => (List.range 17).all fun q =>
  let l := frl q n
  (List.range 14).all fun k =>
    let u := fsum (l.drop k)
    let b := 16 ^ n
    let g := Nat.gcd u b
    let r := fh 48 (u : Int) (if u = 0 then 1 else (b : Int))
    Nat.ble u 1125899906842624 && (decide (fa n q (n + 1 - k) k = (u : Int)) && (decide (r.1 = ((u / g : Nat) : Int)) && decide (r.2 = ((b / g : Nat) : Int))))
set_option maxRecDepth 100000 in
theorem fchk_ok : fchk = true := by decide +kernel
noncomputable def fwchk : Bool := (List.range 13).all fun n => (List.range (n + 1)).all fun h => (List.range (h + 1)).all fun i => Nat.ble (fw n h i) 100000
theorem fwchk_ok : fwchk = true := by decide +kernel
theorem fw_rng {n h i : Nat} (hn : n ≤ 12) (hh : h ≤ n) (hi : i ≤ h) : fw n h i ≤ 100000 := by
  have h1 := List.all_eq_true.mp fwchk_ok n (List.mem_range.mpr (by omega))
  have h2 := List.all_eq_true.mp h1 h (List.mem_range.mpr (by omega))
  exact Nat.le_of_ble_eq_true (List.all_eq_true.mp h2 i (List.mem_range.mpr (by omega)))
theorem f_all {n k q : Nat} (hn : n ≤ 12) (hk : k ≤ 13) (hq : q ≤ 16) : Nat.ble (fsum ((frl q n).drop k)) 1125899906842624 = true ∧ fa n q (n + 1 - k) k = (fsum ((frl q n).drop k) : Int) ∧ (fh 48 (fsum ((frl q n).drop k) : Int) (if fsum ((frl q n).drop k) = 0 then 1 else ((16 ^ n : Nat) : Int))).1 = ((fsum ((frl q n).drop k) / Nat.gcd (fsum ((frl q n).drop k)) (16 ^ n) : Nat) : Int) ∧ (fh 48 (fsum ((frl q n).drop k) : Int) (if fsum ((frl q n).drop k) = 0 then 1 else ((16 ^ n : Nat) : Int))).2 = ((16 ^ n / Nat.gcd (fsum ((frl q n).drop k)) (16 ^ n) : Nat) : Int) := by
  have h1 := List.all_eq_true.mp fchk_ok n (List.mem_range.mpr (by omega))
  have h2 := List.all_eq_true.mp h1 q (List.mem_range.mpr (by omega))
  have h3 := List.all_eq_true.mp h2 k (List.mem_range.mpr (by omega))
  simp only [Bool.and_eq_true, decide_eq_true_eq] at h3
  exact h3
theorem fa_rng {n k q : Nat} (hn : n ≤ 12) (hk : k ≤ 13) (hq : q ≤ 16) : 0 ≤ fa n q (n + 1 - k) k ∧ fa n q (n + 1 - k) k ≤ 1125899906842624 := by
  obtain ⟨h0, h1, -⟩ := f_all hn hk hq
  have := Nat.le_of_ble_eq_true h0
  rw [h1]
  omega
theorem fs_rng {n k q : Nat} (hn : n ≤ 12) (hk : k ≤ 13) (hq : q ≤ 16) : fsum ((frl q n).drop k) ≤ 1125899906842624 := Nat.le_of_ble_eq_true (f_all hn hk hq).1
theorem fp_rng {n : Nat} (hn : n ≤ 12) : (1 : Int) ≤ 16 ^ n ∧ (16 : Int) ^ n ≤ 281474976710656 := by
  match n, hn with
  | 0, _ => decide
  | 1, _ => decide
  | 2, _ => decide
  | 3, _ => decide
  | 4, _ => decide
  | 5, _ => decide
  | 6, _ => decide
  | 7, _ => decide
  | 8, _ => decide
  | 9, _ => decide
  | 10, _ => decide
  | 11, _ => decide
  | 12, _ => decide
  | n + 13, h => omega
theorem fh_out {f : Nat} {a b : Int} (h : f = 0 ∨ ¬ (a % 2 = 0 ∧ b % 2 = 0)) : fh f a b = (a, b) := by
  cases f with
  | zero => rfl
  | succ f => exact if_neg (h.resolve_left (by omega))
theorem fh_on {f g : Nat} {a b : Int} (hf : f = g + 1) (h : a % 2 = 0 ∧ b % 2 = 0) : fh f a b = fh g (a / 2) (b / 2) := by
  subst hf
  exact if_pos h
theorem fa_on {n q f g h : Nat} (hf : f = g + 1) : fa n q f h = (fw n h h : Int) * (q : Int) ^ h * (16 - (q : Int)) ^ (n - h) + fa n q g (h + 1) := by
  subst hf
  rfl
theorem f_eq {n k q half : Nat} (hn : n ≤ 12) (hk : k ≤ 13) (hq : q ≤ 16) : fcls n k q half = fref n k q half := by
  obtain ⟨-, h1, h2, h3⟩ := f_all hn hk hq
  unfold fcls fref
  rw [h1]
  have e : (if (fsum ((frl q n).drop k) : Int) = 0 then (1 : Int) else 16 ^ n) = (if fsum ((frl q n).drop k) = 0 then 1 else ((16 ^ n : Nat) : Int)) := by
    by_cases h : fsum ((frl q n).drop k) = 0
    · rw [if_pos h, if_pos (by omega)]
    · rw [if_neg h, if_neg (by omega), Int.natCast_pow]
      rfl
  dsimp only
  rw [e]
  by_cases hh : half = 0
  · rw [if_pos hh, if_pos hh, h2]
  · rw [if_neg hh, if_neg hh, h3]
