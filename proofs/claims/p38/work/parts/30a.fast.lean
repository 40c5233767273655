/-! ===== places are others: by their numbers ===== -/
theorem nn {a b : Nat} (h : Nat.beq a b = false) : ¬ a = b := Nat.ne_of_beq_eq_false h
theorem ni {a b : Int} (h : decide (a = b) = false) : ¬ a = b := of_decide_eq_false h
theorem pn0 {A n : Nat} (h : A = 13 ∨ A = 25) (hn : (Nat.blt n 13 || Nat.blt 36 n) = true) : ¬ n = A := fun e => by
  rcases h with rfl | rfl <;> subst e <;> exact absurd hn (by decide)
theorem np0 {A n : Nat} (h : A = 13 ∨ A = 25) (hn : (Nat.blt n 13 || Nat.blt 36 n) = true) : ¬ A = n := fun e => pn0 h hn e.symm
theorem pn {A n k : Nat} (h : A = 13 ∨ A = 25) (hn : (Nat.blt n 13 || Nat.blt 36 n) = true) (hk : Nat.blt k 12 = true) : ¬ n = A + k := fun e => by
  have h1 : k < 12 := Nat.le_of_ble_eq_true hk
  rw [Bool.or_eq_true] at hn
  rcases hn with h2 | h2
  · have := Nat.le_of_ble_eq_true h2
    omega
  · have := Nat.le_of_ble_eq_true h2
    omega
theorem np {A n k : Nat} (h : A = 13 ∨ A = 25) (hn : (Nat.blt n 13 || Nat.blt 36 n) = true) (hk : Nat.blt k 12 = true) : ¬ A + k = n := fun e => pn h hn hk e.symm
theorem pp {A k l : Nat} (h : Nat.beq k l = false) : ¬ A + k = A + l := fun e => absurd (Nat.add_left_cancel e) (Nat.ne_of_beq_eq_false h)
theorem p0p {A l : Nat} (h : Nat.beq 0 l = false) : ¬ A = A + l := fun e => absurd (Nat.add_left_cancel (show A + 0 = A + l from e)) (Nat.ne_of_beq_eq_false h)
theorem pp0 {A k : Nat} (h : Nat.beq 0 k = false) : ¬ A + k = A := fun e => p0p h e.symm
theorem rg_eq {a b lo hi : Int} (h : a = b) (r : lo ≤ a ∧ a ≤ hi) : lo ≤ b ∧ b ≤ hi := h ▸ r
theorem rg_be {a v e lo hi : Int} (h : a ≤ v ∧ v ≤ e) (ha : lo ≤ a) (he : e ≤ hi) : lo ≤ v ∧ v ≤ hi := ⟨Int.le_trans ha h.1, Int.le_trans h.2 he⟩
theorem ne_rg {x lo hi k : Int} (h : lo ≤ x ∧ x ≤ hi) (hk : k < lo ∨ hi < k) : ¬ x = k := by omega
theorem ne_gr {x lo hi k : Int} (h : lo ≤ x ∧ x ≤ hi) (hk : k < lo ∨ hi < k) : ¬ k = x := by omega
theorem rgp_l {x a k lo : Int} (h : a ≤ x) (hk : lo ≤ a + k) : lo ≤ x + k := by omega
theorem rgm_l {x a k lo : Int} (h : a ≤ x) (hk : lo ≤ a - k) : lo ≤ x - k := by omega
theorem rgp_h {x a k hi : Int} (h : x ≤ a) (hk : a + k ≤ hi) : x + k ≤ hi := by omega
theorem rgm_h {x a k hi : Int} (h : x ≤ a) (hk : a - k ≤ hi) : x - k ≤ hi := by omega
theorem a68 {A k : Nat} (h : A = 13 ∨ A = 25) (hk : Nat.blt k 43 = true) : A + k < 68 := by have := Nat.le_of_ble_eq_true hk; omega
theorem a68z {A : Nat} (h : A = 13 ∨ A = 25) : A < 68 := by omega
theorem a68s {sh s : Nat} (h : (sh = 37 ∧ s = 38) ∨ (sh = 39 ∧ s = 40)) : s < 68 := by omega
theorem a68sh {sh s : Nat} (h : (sh = 37 ∧ s = 38) ∨ (sh = 39 ∧ s = 40)) : sh < 68 := by omega
theorem ld_ {k n d : Nat} (h : Nat.ble k n = true) : k ≤ d + n := Nat.le_trans (Nat.le_of_ble_eq_true h) (Nat.le_add_left n d)
theorem sm4 {a b c d v0 v1 v2 v3 : Int} (h0 : a = v0) (h1 : b = v1) (h2 : c = v2) (h3 : d = v3) (h : v0 + v1 + v2 + v3 ≤ 9999) : a + b + c + d ≤ 9999 := by rw [h0, h1, h2, h3]; exact h
theorem rs_cs {sh s : Nat} (h : (sh = 37 ∧ s = 38) ∨ (sh = 39 ∧ s = 40)) : s = 38 ∨ s = 40 ∨ s = 58 ∨ s = 59 := by omega
theorem iwr0 {a P Q : Nat} {e j v : Int} {c : ME} (h : Iv a e P Q c) (ha : a = 38 ∨ a = 40 ∨ a = 58 ∨ a = 59) (hv : 0 ≤ v ∧ v ≤ 9999) : Iv a e P Q (up c a j v) := iw_row h ha (Or.inl rfl) ⟨by omega, by omega, fun _ => hv⟩
theorem iwr1 {u a P Q : Nat} {e j v : Int} {c : ME} (h : Iv u e P Q c) (ha : a = 38 ∨ a = 40 ∨ a = 58 ∨ a = 59) (hj : 24 ≤ j) (hv : -2147483648 ≤ v ∧ v ≤ 2147483647) : Iv u e P Q (up c a j v) := iw_row h ha (Or.inr hj) ⟨hv.1, hv.2, by omega⟩
theorem lgp {A k : Nat} (h : A = 13 ∨ A = 25) (hk : k = 8 ∨ k = 9) : Lg (A + k) := by unfold Lg; omega
theorem ne_0a {a k : Int} (h : ¬ k = 0) : ¬ a = a + k := by omega
theorem ne_a0 {a k : Int} (h : ¬ k = 0) : ¬ a + k = a := by omega
theorem ne_aa {a k l : Int} (h : ¬ k = l) : ¬ a + k = a + l := by omega
theorem ne_l {x y : Int} (h : x < y) : ¬ x = y := by omega
theorem ne_g {x y : Int} (h : x > y) : ¬ x = y := by omega
theorem nge {x y : Int} (h : x < y) : ¬ x ≥ y := by omega
theorem iw8_0 {u P Q : Nat} {c : ME} {t j v : Int} (h : Iv u t P Q c) (hj : j = 5 * t) (hv : 0 ≤ v ∧ v ≤ 99999) : Iv u t P Q (up c 8 j v) := iw_8 h (by omega) hv (by omega)
theorem iw8_1 {u P Q : Nat} {c : ME} {t j v : Int} (h : Iv u t P Q c) (hj : j = 5 * t + 1) (hv : 0 ≤ v ∧ v ≤ 99999) : Iv u t P Q (up c 8 j v) := iw_8 h (by omega) hv (by omega)
theorem iw8_2 {u P Q : Nat} {c : ME} {t j v : Int} (h : Iv u t P Q c) (hj : j = 5 * t + 2) (hv : 0 ≤ v ∧ v ≤ 38) : Iv u t P Q (up c 8 j v) := iw_8 h (by omega) (by omega) (by omega)
theorem iw8_3 {u P Q : Nat} {c : ME} {t j v : Int} (h : Iv u t P Q c) (hj : j = 5 * t + 3) (hv : 0 ≤ v ∧ v ≤ 99999) : Iv u t P Q (up c 8 j v) := iw_8 h (by omega) hv (by omega)
theorem iw8_4 {u P Q : Nat} {c : ME} {t j v : Int} (h : Iv u t P Q c) (hj : j = 5 * t + 4) (hv : 0 ≤ v ∧ v ≤ 99999) : Iv u t P Q (up c 8 j v) := iw_8 h (by omega) hv (by omega)
theorem lel {a b x : Int} (h : b ≤ x) (e : decide (a ≤ b) = true) : a ≤ x := Int.le_trans (of_decide_eq_true e) h
theorem ler {a b x : Int} (h : x ≤ b) (e : decide (b ≤ a) = true) : x ≤ a := Int.le_trans h (of_decide_eq_true e)
theorem lel_ {a b x : Int} (h : b ≤ x) (e : a ≤ b) : a ≤ x := Int.le_trans e h
theorem ler_ {a b x : Int} (h : x ≤ b) (e : b ≤ a) : x ≤ a := Int.le_trans h e
theorem od_ {p : Prop} [i : Decidable p] (h : decide p = true) : p := of_decide_eq_true h
theorem nb_ {a b : Nat} (h : Nat.ble a b = true) : a ≤ b := Nat.le_of_ble_eq_true h
theorem hv_ {p q : Prop} (h : p) (k : p → q) : q := k h
theorem shl_x : ∀ j : Nat, j < 7 → ((j : Int) = 0 ∧ (Int32.ofInt 1 <<< (Int32.ofInt (j : Int) &&& 31)).toInt = 1) ∨ ((j : Int) = 1 ∧ (Int32.ofInt 1 <<< (Int32.ofInt (j : Int) &&& 31)).toInt = 2) ∨ ((j : Int) = 2 ∧ (Int32.ofInt 1 <<< (Int32.ofInt (j : Int) &&& 31)).toInt = 4) ∨ ((j : Int) = 3 ∧ (Int32.ofInt 1 <<< (Int32.ofInt (j : Int) &&& 31)).toInt = 8) ∨ ((j : Int) = 4 ∧ (Int32.ofInt 1 <<< (Int32.ofInt (j : Int) &&& 31)).toInt = 16) ∨ ((j : Int) = 5 ∧ (Int32.ofInt 1 <<< (Int32.ofInt (j : Int) &&& 31)).toInt = 32) ∨ ((j : Int) = 6 ∧ (Int32.ofInt 1 <<< (Int32.ofInt (j : Int) &&& 31)).toInt = 64) := by decide
theorem v_shlx {sc : List Int32} {d k pc len nc ns : Nat} {ls : AL} {r : List Value} {w : AW} {Z : AR → Prop} {j : Int} (hd : mLk k pc = some (.ishl, len)) (hj : 0 ≤ j ∧ j ≤ 6) (K : ∀ z : Int, (j = 0 ∧ z = 1) ∨ (j = 1 ∧ z = 2) ∨ (j = 2 ∧ z = 4) ∨ (j = 3 ∧ z = 8) ∨ (j = 4 ∧ z = 16) ∨ (j = 5 ∧ z = 32) ∨ (j = 6 ∧ z = 64) → Wp sc d k (pc + 1) ls (vi z :: r) w nc ns Z) : Wp sc d k pc ls (vi j :: vi 1 :: r) w nc ns Z := by
  have e : ((j.toNat : Nat) : Int) = j := Int.toNat_of_nonneg hj.1
  have b := shl_x j.toNat (by omega)
  rw [e] at b
  have q := K _ b
  rw [show vi (Int32.ofInt 1 <<< (Int32.ofInt j &&& 31)).toInt = .int (Int32.ofInt 1 <<< (Int32.ofInt j &&& 31)) from congrArg Value.int (Int32.ofInt_toInt _)] at q
  exact q_ishl hd q
theorem isz {i0 k : Nat} {y : Int} (h : y = (k : Int)) : (i0 : Int) + y = ((i0 + k : Nat) : Int) := by omega
theorem isl {i0 j L : Nat} (h : i0 + 8 ≤ L) (e : Nat.ble (j + 1) 8 = true) : i0 + j < L := Nat.lt_of_lt_of_le (Nat.add_lt_add_left (Nat.le_of_ble_eq_true e) i0) h
