/-! ===== the invariant: what the places of the flat memory are between ===== -/
noncomputable def blo (a : Nat) (j : Int) : Int := match a with
  | 1 => if j = 1 then 0 else if j = 2 then 0 else if j = 3 then 0 else if j = 4 then 0 else if j = 5 then (-1) else (-2147483648)
  | 2 => (-2147483648)
  | 3 => if j = 3 then 0 else if j = 4 then 0 else (-2147483648)
  | 4 => if j % 34 < 24 then 0 else (-2147483648)
  | 5 => if j % 34 < 24 then 0 else (-2147483648)
  | 6 => 0
  | 7 => if j = 1 then 0 else if j = 2 then 0 else (-2147483648)
  | 8 => 0
  | 10 => 0
  | 12 => 0
  | 13 => if j = 0 then 0 else if j = 1 then 0 else if j = 2 then 0 else if j = 3 then 0 else if j = 4 then 0 else if j = 5 then 0 else (-2147483648)
  | 14 => 0
  | 15 => 0
  | 16 => 0
  | 17 => (-1)
  | 18 => (-1)
  | 19 => (-1)
  | 20 => if j = 4 then 0 else if j = 5 then 0 else (-2147483648)
  | 25 => if j = 0 then 0 else if j = 1 then 0 else if j = 2 then 0 else if j = 3 then 0 else if j = 4 then 0 else if j = 5 then 0 else (-2147483648)
  | 26 => 0
  | 27 => 0
  | 28 => 0
  | 29 => (-1)
  | 30 => (-1)
  | 31 => (-1)
  | 32 => if j = 4 then 0 else if j = 5 then 0 else (-2147483648)
  | 38 => if j < 24 then 0 else (-2147483648)
  | 40 => if j < 24 then 0 else (-2147483648)
  | 41 => if j = 2 then 0 else if j = 3 then 0 else if j = 4 then 0 else if j = 5 then (-1) else if j = 6 then 0 else if j = 7 then 0 else if j = 8 then (-1) else if j = 16 then 0 else if j = 17 then 0 else if j = 18 then 0 else if j = 19 then 0 else if j = 20 then 0 else if j = 21 then 0 else if j = 22 then 0 else if j = 23 then 0 else if j = 29 then 0 else if j = 30 then 0 else if j = 34 then 0 else if j = 35 then 0 else if j = 37 then 0 else if j = 47 then 0 else if j = 52 then 0 else (-2147483648)
  | 43 => (-2147483648)
  | 44 => 0
  | 45 => 0
  | 46 => 0
  | 47 => 0
  | 48 => 0
  | 49 => 0
  | 50 => 0
  | 51 => 0
  | 52 => 0
  | 53 => 0
  | 56 => 0
  | 57 => 0
  | 58 => if j < 24 then 0 else (-2147483648)
  | 59 => if j < 24 then 0 else (-2147483648)
  | 60 => if j % 37 < 24 then 0 else (-2147483648)
  | 61 => 0
  | 62 => 0
  | 63 => (-1)
  | 64 => (-1)
  | 66 => if j % 630 = 629 then 0 else if j % 630 % 37 < 24 then 0 else (-2147483648)
  | _ => (-2147483648)
noncomputable def bhi (a : Nat) (j : Int) : Int := match a with
  | 1 => if j = 1 then 600 else if j = 2 then 600 else if j = 3 then 600 else if j = 4 then 3 else if j = 5 then 600 else 2147483647
  | 2 => 2147483647
  | 3 => if j = 3 then 16 else if j = 4 then 3 else 2147483647
  | 4 => if j % 34 < 24 then 9999 else 2147483647
  | 5 => if j % 34 < 24 then 9999 else 2147483647
  | 6 => 16
  | 7 => if j = 1 then 200 else if j = 2 then 38 else 2147483647
  | 8 => 99999
  | 10 => 35
  | 12 => 9999
  | 13 => if j = 0 then 6 else if j = 1 then 4 else if j = 2 then 4 else if j = 3 then 50 else if j = 4 then 8 else if j = 5 then 5 else 2147483647
  | 14 => 999
  | 15 => 10
  | 16 => 2
  | 17 => 9999
  | 18 => 9999
  | 19 => 9999
  | 20 => if j = 4 then 150 else if j = 5 then 150 else 2147483647
  | 25 => if j = 0 then 6 else if j = 1 then 4 else if j = 2 then 4 else if j = 3 then 50 else if j = 4 then 8 else if j = 5 then 5 else 2147483647
  | 26 => 999
  | 27 => 10
  | 28 => 2
  | 29 => 9999
  | 30 => 9999
  | 31 => 9999
  | 32 => if j = 4 then 150 else if j = 5 then 150 else 2147483647
  | 38 => if j < 24 then 9999 else 2147483647
  | 40 => if j < 24 then 9999 else 2147483647
  | 41 => if j = 2 then 600 else if j = 3 then 600 else if j = 4 then 605 else if j = 5 then 605 else if j = 6 then 3 else if j = 7 then 7 else if j = 8 then 605 else if j = 16 then 6 else if j = 17 then 4 else if j = 18 then 4 else if j = 19 then 50 else if j = 20 then 6 else if j = 21 then 4 else if j = 22 then 4 else if j = 23 then 50 else if j = 29 then 150 else if j = 30 then 150 else if j = 34 then 250 else if j = 35 then 16 else if j = 37 then 200 else if j = 47 then 8 else if j = 52 then 3 else 2147483647
  | 43 => 2147483647
  | 44 => 999
  | 45 => 10
  | 46 => 2
  | 47 => 999
  | 48 => 10
  | 49 => 2
  | 50 => 8
  | 51 => 999
  | 52 => 8
  | 53 => 999
  | 56 => 999
  | 57 => 999
  | 58 => if j < 24 then 9999 else 2147483647
  | 59 => if j < 24 then 9999 else 2147483647
  | 60 => if j % 37 < 24 then 9999 else 2147483647
  | 61 => 3
  | 62 => 3
  | 63 => 9999
  | 64 => 9999
  | 66 => if j % 630 = 629 then 16 else if j % 630 % 37 < 24 then 9999 else 2147483647
  | _ => 2147483647
/-- a fact that is not for arithmetic to look at -/
noncomputable def Hid (p : Prop) : Prop := p
theorem hid {p : Prop} (h : Hid p) : p := h
noncomputable def Bx (c : ME) : Prop := ∀ (a : Nat) (j : Int), ¬ (a = 65 ∨ a = 67) → blo a j ≤ c a j ∧ c a j ≤ bhi a j
/-- a place where a jar's grains begin -/
noncomputable def rs (a : Nat) (j : Int) : Prop := match a with
  | 38 => j % 4 = 0 ∧ 0 ≤ j ∧ j < 24
  | 40 => j % 4 = 0 ∧ 0 ≤ j ∧ j < 24
  | 58 => j % 4 = 0 ∧ 0 ≤ j ∧ j < 24
  | 59 => j % 4 = 0 ∧ 0 ≤ j ∧ j < 24
  | 4 => 0 ≤ j ∧ j % 34 % 4 = 0 ∧ j % 34 < 24
  | 5 => 0 ≤ j ∧ j % 34 % 4 = 0 ∧ j % 34 < 24
  | 60 => 0 ≤ j ∧ j % 37 % 4 = 0 ∧ j % 37 < 24
  | 66 => 0 ≤ j ∧ j % 630 < 629 ∧ j % 630 % 37 % 4 = 0 ∧ j % 630 % 37 < 24
  | _ => False
/-- the jars of all rows but those of cell u hold no more than they may -/
noncomputable def Rw (u : Nat) (c : ME) : Prop := ∀ (a : Nat) (j : Int), rs a j → ¬ a = u → c a j + c a (j + 1) + c a (j + 2) + c a (j + 3) ≤ 9999
/-- a step, as it may be done: by its word -/
noncomputable def Sg (a : Nat) : Prop := a = 8 ∨ a = 56 ∨ a = 57
noncomputable def So (q x y z t : Int) : Prop := (q = 0 → x ≤ 3 ∧ y ≤ 5) ∧ (q = 1 → x ≤ 3 ∧ y ≤ 5 ∧ z ≤ 5 ∧ t ≤ 5) ∧ (q = 2 → x ≤ 5 ∧ y ≤ 5) ∧ (q = 3 → x ≤ 5 ∧ y ≤ 5) ∧ (q = 4 → x ≤ 3) ∧ (q = 5 → x ≤ 5)
/-- the steps can be done, but for step e of the class's work, which is being told -/
noncomputable def Sc (e : Int) (c : ME) : Prop := ∀ (a : Nat) (i : Int), Sg a → 0 ≤ i → i < 50 → ¬ (a = 8 ∧ i = e) → So (c a (5 * i)) (c a (5 * i + 1)) (c a (5 * i + 2)) (c a (5 * i + 3)) (c a (5 * i + 4))
noncomputable def Ag (c : ME) : Prop := (∀ j : Int, j % 5 = 2 → c 8 j ≤ 38) ∧ ∀ (a : Nat) (i : Int), a = 56 ∨ a = 57 → 0 ≤ i → i < 50 → c a (5 * i) = 7 → (c a (5 * i + 2) ≤ 250 ∧ c a (5 * i + 2) % 5 = 0) ∧ (a = 57 → 5 * i + 5 ≤ c a (5 * i + 2))
noncomputable def Lg (a : Nat) : Prop := a = 21 ∨ a = 22 ∨ a = 33 ∨ a = 34
noncomputable def Lc (c : ME) : Prop := ∀ (a : Nat) (j : Int), Lg a → c a j < 1008 ∨ 2000 ≤ c a j
noncomputable def Pr (c : ME) : Prop := ∀ j : Int, c 10 j % 10 ≤ 5
noncomputable def Sk (c : ME) : Prop := ∀ (a : Nat) (j : Int), a = 13 ∨ a = 25 → 0 ≤ j → j < c a 4 → 0 ≤ c (a + 4) j ∧ c (a + 4) j ≤ 3
/-- how high the pile is behind so many codes -/
noncomputable def hgt (f : Int → Int) : Nat → Int
  | 0 => 0
  | n + 1 => if f n ≤ 1 then hgt f n + 1 else hgt f n - 1
noncomputable def Hw (f g : Int → Int) (n : Int) : Prop := ∀ m : Nat, (m : Int) < n → (2 ≤ f m → 2 ≤ hgt f m) ∧ (f m = 1 → g m ≤ 7)
noncomputable def Hc (c : ME) : Prop := Hw (c 52) (c 53) (c 41 30)
noncomputable def Pq (P Q : Nat) : Prop := (P = 13 ∧ Q = 25) ∨ (P = 25 ∧ Q = 13)
noncomputable def Iv (u : Nat) (e : Int) (P Q : Nat) (c : ME) : Prop := Pq P Q ∧ Bx c ∧ Rw u c ∧ Sc e c ∧ Ag c ∧ Lc c ∧ Pr c ∧ Sk c ∧ Hc c
section IV
variable {u P Q A : Nat} {e : Int} {c : ME}
theorem iv_pq (h : Iv u e P Q c) : Pq P Q := And.left h
theorem iv_P (h : Iv u e P Q c) : P = 13 ∨ P = 25 := (iv_pq h).elim (fun q => Or.inl q.1) (fun q => Or.inr q.1)
theorem iv_Q (h : Iv u e P Q c) : Q = 13 ∨ Q = 25 := (iv_pq h).elim (fun q => Or.inr q.2) (fun q => Or.inl q.2)
theorem iv_b (h : Iv u e P Q c) : Bx c := And.left (And.right h)
theorem iv_r (h : Iv u e P Q c) : Rw u c := And.left (And.right (And.right h))
theorem iv_sc (h : Iv u e P Q c) : Sc e c := And.left (And.right (And.right (And.right h)))
theorem iv_ag (h : Iv u e P Q c) : Ag c := And.left (And.right (And.right (And.right (And.right h))))
theorem iv_lc (h : Iv u e P Q c) : Lc c := And.left (And.right (And.right (And.right (And.right (And.right h)))))
theorem iv_pr (h : Iv u e P Q c) : Pr c := And.left (And.right (And.right (And.right (And.right (And.right (And.right h))))))
theorem iv_sk (h : Iv u e P Q c) : Sk c := And.left (And.right (And.right (And.right (And.right (And.right (And.right (And.right h)))))))
theorem iv_hc (h : Iv u e P Q c) : Hc c := And.right (And.right (And.right (And.right (And.right (And.right (And.right (And.right h)))))))
theorem ir_0_11 (h : Iv u e P Q c) : (-2147483648 : Int) ≤ c 0 11 ∧ c 0 11 ≤ 2147483647 := iv_b h _ _ (by omega)
theorem ir_0_12 (h : Iv u e P Q c) : (-2147483648 : Int) ≤ c 0 12 ∧ c 0 12 ≤ 2147483647 := iv_b h _ _ (by omega)
theorem ir_0_13 (h : Iv u e P Q c) : (-2147483648 : Int) ≤ c 0 13 ∧ c 0 13 ≤ 2147483647 := iv_b h _ _ (by omega)
theorem ir_1_0 (h : Iv u e P Q c) : (-2147483648 : Int) ≤ c 1 0 ∧ c 1 0 ≤ 2147483647 := iv_b h _ _ (by omega)
theorem ir_1_1 (h : Iv u e P Q c) : 0 ≤ c 1 1 ∧ c 1 1 ≤ 600 := iv_b h _ _ (by omega)
theorem ir_1_2 (h : Iv u e P Q c) : 0 ≤ c 1 2 ∧ c 1 2 ≤ 600 := iv_b h _ _ (by omega)
theorem ir_1_3 (h : Iv u e P Q c) : 0 ≤ c 1 3 ∧ c 1 3 ≤ 600 := iv_b h _ _ (by omega)
theorem ir_1_4 (h : Iv u e P Q c) : 0 ≤ c 1 4 ∧ c 1 4 ≤ 3 := iv_b h _ _ (by omega)
theorem ir_1_5 (h : Iv u e P Q c) : (-1 : Int) ≤ c 1 5 ∧ c 1 5 ≤ 600 := iv_b h _ _ (by omega)
theorem ir_1_6 (h : Iv u e P Q c) : (-2147483648 : Int) ≤ c 1 6 ∧ c 1 6 ≤ 2147483647 := iv_b h _ _ (by omega)
theorem ir_1_7 (h : Iv u e P Q c) : (-2147483648 : Int) ≤ c 1 7 ∧ c 1 7 ≤ 2147483647 := iv_b h _ _ (by omega)
theorem ir_2 (h : Iv u e P Q c) (j : Int) : (-2147483648 : Int) ≤ c 2 j ∧ c 2 j ≤ 2147483647 := iv_b h _ _ (by omega)
theorem ir_3_0 (h : Iv u e P Q c) : (-2147483648 : Int) ≤ c 3 0 ∧ c 3 0 ≤ 2147483647 := iv_b h _ _ (by omega)
theorem ir_3_1 (h : Iv u e P Q c) : (-2147483648 : Int) ≤ c 3 1 ∧ c 3 1 ≤ 2147483647 := iv_b h _ _ (by omega)
theorem ir_3_2 (h : Iv u e P Q c) : (-2147483648 : Int) ≤ c 3 2 ∧ c 3 2 ≤ 2147483647 := iv_b h _ _ (by omega)
theorem ir_3_3 (h : Iv u e P Q c) : 0 ≤ c 3 3 ∧ c 3 3 ≤ 16 := iv_b h _ _ (by omega)
theorem ir_3_4 (h : Iv u e P Q c) : 0 ≤ c 3 4 ∧ c 3 4 ≤ 3 := iv_b h _ _ (by omega)
theorem ir_3_5 (h : Iv u e P Q c) : (-2147483648 : Int) ≤ c 3 5 ∧ c 3 5 ≤ 2147483647 := iv_b h _ _ (by omega)
theorem ir_3_6 (h : Iv u e P Q c) : (-2147483648 : Int) ≤ c 3 6 ∧ c 3 6 ≤ 2147483647 := iv_b h _ _ (by omega)
theorem ir_3_7 (h : Iv u e P Q c) : (-2147483648 : Int) ≤ c 3 7 ∧ c 3 7 ≤ 2147483647 := iv_b h _ _ (by omega)
theorem ir_4_g (h : Iv u e P Q c) {j : Int} (hj : j % 34 < 24) : 0 ≤ c 4 j ∧ c 4 j ≤ 9999 := by
  have q := iv_b h 4 j (by omega)
  unfold blo bhi at q
  try dsimp only at q
  rw [if_pos hj, if_pos hj] at q
  exact q
theorem ir_4 (h : Iv u e P Q c) (j : Int) : (-2147483648 : Int) ≤ c 4 j ∧ c 4 j ≤ 2147483647 := by
  have q := iv_b h 4 j (by omega)
  unfold blo bhi at q
  try dsimp only at q
  split at q <;> omega
theorem ir_5_g (h : Iv u e P Q c) {j : Int} (hj : j % 34 < 24) : 0 ≤ c 5 j ∧ c 5 j ≤ 9999 := by
  have q := iv_b h 5 j (by omega)
  unfold blo bhi at q
  try dsimp only at q
  rw [if_pos hj, if_pos hj] at q
  exact q
theorem ir_5 (h : Iv u e P Q c) (j : Int) : (-2147483648 : Int) ≤ c 5 j ∧ c 5 j ≤ 2147483647 := by
  have q := iv_b h 5 j (by omega)
  unfold blo bhi at q
  try dsimp only at q
  split at q <;> omega
theorem ir_6 (h : Iv u e P Q c) (j : Int) : 0 ≤ c 6 j ∧ c 6 j ≤ 16 := iv_b h _ _ (by omega)
theorem ir_7_0 (h : Iv u e P Q c) : (-2147483648 : Int) ≤ c 7 0 ∧ c 7 0 ≤ 2147483647 := iv_b h _ _ (by omega)
theorem ir_7_1 (h : Iv u e P Q c) : 0 ≤ c 7 1 ∧ c 7 1 ≤ 200 := iv_b h _ _ (by omega)
theorem ir_7_2 (h : Iv u e P Q c) : 0 ≤ c 7 2 ∧ c 7 2 ≤ 38 := iv_b h _ _ (by omega)
theorem ir_7_3 (h : Iv u e P Q c) : (-2147483648 : Int) ≤ c 7 3 ∧ c 7 3 ≤ 2147483647 := iv_b h _ _ (by omega)
theorem ir_7_4 (h : Iv u e P Q c) : (-2147483648 : Int) ≤ c 7 4 ∧ c 7 4 ≤ 2147483647 := iv_b h _ _ (by omega)
theorem ir_7_5 (h : Iv u e P Q c) : (-2147483648 : Int) ≤ c 7 5 ∧ c 7 5 ≤ 2147483647 := iv_b h _ _ (by omega)
theorem ir_7_6 (h : Iv u e P Q c) : (-2147483648 : Int) ≤ c 7 6 ∧ c 7 6 ≤ 2147483647 := iv_b h _ _ (by omega)
theorem ir_7_7 (h : Iv u e P Q c) : (-2147483648 : Int) ≤ c 7 7 ∧ c 7 7 ≤ 2147483647 := iv_b h _ _ (by omega)
theorem ir_8 (h : Iv u e P Q c) (j : Int) : 0 ≤ c 8 j ∧ c 8 j ≤ 99999 := iv_b h _ _ (by omega)
theorem ir_9_0 (h : Iv u e P Q c) : (-2147483648 : Int) ≤ c 9 0 ∧ c 9 0 ≤ 2147483647 := iv_b h _ _ (by omega)
theorem ir_10 (h : Iv u e P Q c) (j : Int) : 0 ≤ c 10 j ∧ c 10 j ≤ 35 := iv_b h _ _ (by omega)
theorem ir_11 (h : Iv u e P Q c) (j : Int) : (-2147483648 : Int) ≤ c 11 j ∧ c 11 j ≤ 2147483647 := iv_b h _ _ (by omega)
theorem ir_12 (h : Iv u e P Q c) (j : Int) : 0 ≤ c 12 j ∧ c 12 j ≤ 9999 := iv_b h _ _ (by omega)
theorem ir_p0_0 (h : Iv u e P Q c) (hA : A = 13 ∨ A = 25) : 0 ≤ c A 0 ∧ c A 0 ≤ 6 := by rcases hA with rfl | rfl <;> exact iv_b h _ _ (by omega)
theorem ir_p0_1 (h : Iv u e P Q c) (hA : A = 13 ∨ A = 25) : 0 ≤ c A 1 ∧ c A 1 ≤ 4 := by rcases hA with rfl | rfl <;> exact iv_b h _ _ (by omega)
theorem ir_p0_2 (h : Iv u e P Q c) (hA : A = 13 ∨ A = 25) : 0 ≤ c A 2 ∧ c A 2 ≤ 4 := by rcases hA with rfl | rfl <;> exact iv_b h _ _ (by omega)
theorem ir_p0_3 (h : Iv u e P Q c) (hA : A = 13 ∨ A = 25) : 0 ≤ c A 3 ∧ c A 3 ≤ 50 := by rcases hA with rfl | rfl <;> exact iv_b h _ _ (by omega)
theorem ir_p0_4 (h : Iv u e P Q c) (hA : A = 13 ∨ A = 25) : 0 ≤ c A 4 ∧ c A 4 ≤ 8 := by rcases hA with rfl | rfl <;> exact iv_b h _ _ (by omega)
theorem ir_p0_5 (h : Iv u e P Q c) (hA : A = 13 ∨ A = 25) : 0 ≤ c A 5 ∧ c A 5 ≤ 5 := by rcases hA with rfl | rfl <;> exact iv_b h _ _ (by omega)
theorem ir_p1 (h : Iv u e P Q c) (hA : A = 13 ∨ A = 25) (j : Int) : 0 ≤ c (A + 1) j ∧ c (A + 1) j ≤ 999 := by rcases hA with rfl | rfl <;> exact iv_b h _ _ (by omega)
theorem ir_p2 (h : Iv u e P Q c) (hA : A = 13 ∨ A = 25) (j : Int) : 0 ≤ c (A + 2) j ∧ c (A + 2) j ≤ 10 := by rcases hA with rfl | rfl <;> exact iv_b h _ _ (by omega)
theorem ir_p3 (h : Iv u e P Q c) (hA : A = 13 ∨ A = 25) (j : Int) : 0 ≤ c (A + 3) j ∧ c (A + 3) j ≤ 2 := by rcases hA with rfl | rfl <;> exact iv_b h _ _ (by omega)
theorem ir_p4 (h : Iv u e P Q c) (hA : A = 13 ∨ A = 25) (j : Int) : (-1 : Int) ≤ c (A + 4) j ∧ c (A + 4) j ≤ 9999 := by rcases hA with rfl | rfl <;> exact iv_b h _ _ (by omega)
theorem ir_p5 (h : Iv u e P Q c) (hA : A = 13 ∨ A = 25) (j : Int) : (-1 : Int) ≤ c (A + 5) j ∧ c (A + 5) j ≤ 9999 := by rcases hA with rfl | rfl <;> exact iv_b h _ _ (by omega)
theorem ir_p6 (h : Iv u e P Q c) (hA : A = 13 ∨ A = 25) (j : Int) : (-1 : Int) ≤ c (A + 6) j ∧ c (A + 6) j ≤ 9999 := by rcases hA with rfl | rfl <;> exact iv_b h _ _ (by omega)
theorem ir_p7_0 (h : Iv u e P Q c) (hA : A = 13 ∨ A = 25) : (-2147483648 : Int) ≤ c (A + 7) 0 ∧ c (A + 7) 0 ≤ 2147483647 := by rcases hA with rfl | rfl <;> exact iv_b h _ _ (by omega)
theorem ir_p7_1 (h : Iv u e P Q c) (hA : A = 13 ∨ A = 25) : (-2147483648 : Int) ≤ c (A + 7) 1 ∧ c (A + 7) 1 ≤ 2147483647 := by rcases hA with rfl | rfl <;> exact iv_b h _ _ (by omega)
theorem ir_p7_2 (h : Iv u e P Q c) (hA : A = 13 ∨ A = 25) : (-2147483648 : Int) ≤ c (A + 7) 2 ∧ c (A + 7) 2 ≤ 2147483647 := by rcases hA with rfl | rfl <;> exact iv_b h _ _ (by omega)
theorem ir_p7_3 (h : Iv u e P Q c) (hA : A = 13 ∨ A = 25) : (-2147483648 : Int) ≤ c (A + 7) 3 ∧ c (A + 7) 3 ≤ 2147483647 := by rcases hA with rfl | rfl <;> exact iv_b h _ _ (by omega)
theorem ir_p7_4 (h : Iv u e P Q c) (hA : A = 13 ∨ A = 25) : 0 ≤ c (A + 7) 4 ∧ c (A + 7) 4 ≤ 150 := by rcases hA with rfl | rfl <;> exact iv_b h _ _ (by omega)
theorem ir_p7_5 (h : Iv u e P Q c) (hA : A = 13 ∨ A = 25) : 0 ≤ c (A + 7) 5 ∧ c (A + 7) 5 ≤ 150 := by rcases hA with rfl | rfl <;> exact iv_b h _ _ (by omega)
theorem ir_p8 (h : Iv u e P Q c) (hA : A = 13 ∨ A = 25) (j : Int) : (-2147483648 : Int) ≤ c (A + 8) j ∧ c (A + 8) j ≤ 2147483647 := by rcases hA with rfl | rfl <;> exact iv_b h _ _ (by omega)
theorem ir_p9 (h : Iv u e P Q c) (hA : A = 13 ∨ A = 25) (j : Int) : (-2147483648 : Int) ≤ c (A + 9) j ∧ c (A + 9) j ≤ 2147483647 := by rcases hA with rfl | rfl <;> exact iv_b h _ _ (by omega)
theorem ir_p10 (h : Iv u e P Q c) (hA : A = 13 ∨ A = 25) (j : Int) : (-2147483648 : Int) ≤ c (A + 10) j ∧ c (A + 10) j ≤ 2147483647 := by rcases hA with rfl | rfl <;> exact iv_b h _ _ (by omega)
theorem ir_p11 (h : Iv u e P Q c) (hA : A = 13 ∨ A = 25) (j : Int) : (-2147483648 : Int) ≤ c (A + 11) j ∧ c (A + 11) j ≤ 2147483647 := by rcases hA with rfl | rfl <;> exact iv_b h _ _ (by omega)
theorem ir_37 (h : Iv u e P Q c) (j : Int) : (-2147483648 : Int) ≤ c 37 j ∧ c 37 j ≤ 2147483647 := iv_b h _ _ (by omega)
theorem ir_38_g (h : Iv u e P Q c) {j : Int} (hj : j < 24) : 0 ≤ c 38 j ∧ c 38 j ≤ 9999 := by
  have q := iv_b h 38 j (by omega)
  unfold blo bhi at q
  try dsimp only at q
  rw [if_pos hj, if_pos hj] at q
  exact q
theorem ir_38 (h : Iv u e P Q c) (j : Int) : (-2147483648 : Int) ≤ c 38 j ∧ c 38 j ≤ 2147483647 := by
  have q := iv_b h 38 j (by omega)
  unfold blo bhi at q
  try dsimp only at q
  split at q <;> omega
theorem ir_39 (h : Iv u e P Q c) (j : Int) : (-2147483648 : Int) ≤ c 39 j ∧ c 39 j ≤ 2147483647 := iv_b h _ _ (by omega)
theorem ir_40_g (h : Iv u e P Q c) {j : Int} (hj : j < 24) : 0 ≤ c 40 j ∧ c 40 j ≤ 9999 := by
  have q := iv_b h 40 j (by omega)
  unfold blo bhi at q
  try dsimp only at q
  rw [if_pos hj, if_pos hj] at q
  exact q
theorem ir_40 (h : Iv u e P Q c) (j : Int) : (-2147483648 : Int) ≤ c 40 j ∧ c 40 j ≤ 2147483647 := by
  have q := iv_b h 40 j (by omega)
  unfold blo bhi at q
  try dsimp only at q
  split at q <;> omega
theorem ir_41_0 (h : Iv u e P Q c) : (-2147483648 : Int) ≤ c 41 0 ∧ c 41 0 ≤ 2147483647 := iv_b h _ _ (by omega)
theorem ir_41_1 (h : Iv u e P Q c) : (-2147483648 : Int) ≤ c 41 1 ∧ c 41 1 ≤ 2147483647 := iv_b h _ _ (by omega)
theorem ir_41_2 (h : Iv u e P Q c) : 0 ≤ c 41 2 ∧ c 41 2 ≤ 600 := iv_b h _ _ (by omega)
theorem ir_41_3 (h : Iv u e P Q c) : 0 ≤ c 41 3 ∧ c 41 3 ≤ 600 := iv_b h _ _ (by omega)
theorem ir_41_4 (h : Iv u e P Q c) : 0 ≤ c 41 4 ∧ c 41 4 ≤ 605 := iv_b h _ _ (by omega)
theorem ir_41_5 (h : Iv u e P Q c) : (-1 : Int) ≤ c 41 5 ∧ c 41 5 ≤ 605 := iv_b h _ _ (by omega)
theorem ir_41_6 (h : Iv u e P Q c) : 0 ≤ c 41 6 ∧ c 41 6 ≤ 3 := iv_b h _ _ (by omega)
theorem ir_41_7 (h : Iv u e P Q c) : 0 ≤ c 41 7 ∧ c 41 7 ≤ 7 := iv_b h _ _ (by omega)
theorem ir_41_8 (h : Iv u e P Q c) : (-1 : Int) ≤ c 41 8 ∧ c 41 8 ≤ 605 := iv_b h _ _ (by omega)
theorem ir_41_9 (h : Iv u e P Q c) : (-2147483648 : Int) ≤ c 41 9 ∧ c 41 9 ≤ 2147483647 := iv_b h _ _ (by omega)
theorem ir_41_10 (h : Iv u e P Q c) : (-2147483648 : Int) ≤ c 41 10 ∧ c 41 10 ≤ 2147483647 := iv_b h _ _ (by omega)
theorem ir_41_11 (h : Iv u e P Q c) : (-2147483648 : Int) ≤ c 41 11 ∧ c 41 11 ≤ 2147483647 := iv_b h _ _ (by omega)
theorem ir_41_12 (h : Iv u e P Q c) : (-2147483648 : Int) ≤ c 41 12 ∧ c 41 12 ≤ 2147483647 := iv_b h _ _ (by omega)
theorem ir_41_13 (h : Iv u e P Q c) : (-2147483648 : Int) ≤ c 41 13 ∧ c 41 13 ≤ 2147483647 := iv_b h _ _ (by omega)
theorem ir_41_14 (h : Iv u e P Q c) : (-2147483648 : Int) ≤ c 41 14 ∧ c 41 14 ≤ 2147483647 := iv_b h _ _ (by omega)
theorem ir_41_15 (h : Iv u e P Q c) : (-2147483648 : Int) ≤ c 41 15 ∧ c 41 15 ≤ 2147483647 := iv_b h _ _ (by omega)
theorem ir_41_16 (h : Iv u e P Q c) : 0 ≤ c 41 16 ∧ c 41 16 ≤ 6 := iv_b h _ _ (by omega)
theorem ir_41_17 (h : Iv u e P Q c) : 0 ≤ c 41 17 ∧ c 41 17 ≤ 4 := iv_b h _ _ (by omega)
theorem ir_41_18 (h : Iv u e P Q c) : 0 ≤ c 41 18 ∧ c 41 18 ≤ 4 := iv_b h _ _ (by omega)
theorem ir_41_19 (h : Iv u e P Q c) : 0 ≤ c 41 19 ∧ c 41 19 ≤ 50 := iv_b h _ _ (by omega)
theorem ir_41_20 (h : Iv u e P Q c) : 0 ≤ c 41 20 ∧ c 41 20 ≤ 6 := iv_b h _ _ (by omega)
theorem ir_41_21 (h : Iv u e P Q c) : 0 ≤ c 41 21 ∧ c 41 21 ≤ 4 := iv_b h _ _ (by omega)
theorem ir_41_22 (h : Iv u e P Q c) : 0 ≤ c 41 22 ∧ c 41 22 ≤ 4 := iv_b h _ _ (by omega)
theorem ir_41_23 (h : Iv u e P Q c) : 0 ≤ c 41 23 ∧ c 41 23 ≤ 50 := iv_b h _ _ (by omega)
theorem ir_41_24 (h : Iv u e P Q c) : (-2147483648 : Int) ≤ c 41 24 ∧ c 41 24 ≤ 2147483647 := iv_b h _ _ (by omega)
theorem ir_41_25 (h : Iv u e P Q c) : (-2147483648 : Int) ≤ c 41 25 ∧ c 41 25 ≤ 2147483647 := iv_b h _ _ (by omega)
theorem ir_41_26 (h : Iv u e P Q c) : (-2147483648 : Int) ≤ c 41 26 ∧ c 41 26 ≤ 2147483647 := iv_b h _ _ (by omega)
theorem ir_41_27 (h : Iv u e P Q c) : (-2147483648 : Int) ≤ c 41 27 ∧ c 41 27 ≤ 2147483647 := iv_b h _ _ (by omega)
theorem ir_41_28 (h : Iv u e P Q c) : (-2147483648 : Int) ≤ c 41 28 ∧ c 41 28 ≤ 2147483647 := iv_b h _ _ (by omega)
theorem ir_41_29 (h : Iv u e P Q c) : 0 ≤ c 41 29 ∧ c 41 29 ≤ 150 := iv_b h _ _ (by omega)
theorem ir_41_30 (h : Iv u e P Q c) : 0 ≤ c 41 30 ∧ c 41 30 ≤ 150 := iv_b h _ _ (by omega)
theorem ir_41_31 (h : Iv u e P Q c) : (-2147483648 : Int) ≤ c 41 31 ∧ c 41 31 ≤ 2147483647 := iv_b h _ _ (by omega)
theorem ir_41_32 (h : Iv u e P Q c) : (-2147483648 : Int) ≤ c 41 32 ∧ c 41 32 ≤ 2147483647 := iv_b h _ _ (by omega)
theorem ir_41_33 (h : Iv u e P Q c) : (-2147483648 : Int) ≤ c 41 33 ∧ c 41 33 ≤ 2147483647 := iv_b h _ _ (by omega)
theorem ir_41_34 (h : Iv u e P Q c) : 0 ≤ c 41 34 ∧ c 41 34 ≤ 250 := iv_b h _ _ (by omega)
theorem ir_41_35 (h : Iv u e P Q c) : 0 ≤ c 41 35 ∧ c 41 35 ≤ 16 := iv_b h _ _ (by omega)
theorem ir_41_36 (h : Iv u e P Q c) : (-2147483648 : Int) ≤ c 41 36 ∧ c 41 36 ≤ 2147483647 := iv_b h _ _ (by omega)
theorem ir_41_37 (h : Iv u e P Q c) : 0 ≤ c 41 37 ∧ c 41 37 ≤ 200 := iv_b h _ _ (by omega)
theorem ir_41_38 (h : Iv u e P Q c) : (-2147483648 : Int) ≤ c 41 38 ∧ c 41 38 ≤ 2147483647 := iv_b h _ _ (by omega)
theorem ir_41_39 (h : Iv u e P Q c) : (-2147483648 : Int) ≤ c 41 39 ∧ c 41 39 ≤ 2147483647 := iv_b h _ _ (by omega)
theorem ir_41_40 (h : Iv u e P Q c) : (-2147483648 : Int) ≤ c 41 40 ∧ c 41 40 ≤ 2147483647 := iv_b h _ _ (by omega)
theorem ir_41_41 (h : Iv u e P Q c) : (-2147483648 : Int) ≤ c 41 41 ∧ c 41 41 ≤ 2147483647 := iv_b h _ _ (by omega)
theorem ir_41_42 (h : Iv u e P Q c) : (-2147483648 : Int) ≤ c 41 42 ∧ c 41 42 ≤ 2147483647 := iv_b h _ _ (by omega)
theorem ir_41_43 (h : Iv u e P Q c) : (-2147483648 : Int) ≤ c 41 43 ∧ c 41 43 ≤ 2147483647 := iv_b h _ _ (by omega)
theorem ir_41_44 (h : Iv u e P Q c) : (-2147483648 : Int) ≤ c 41 44 ∧ c 41 44 ≤ 2147483647 := iv_b h _ _ (by omega)
theorem ir_41_45 (h : Iv u e P Q c) : (-2147483648 : Int) ≤ c 41 45 ∧ c 41 45 ≤ 2147483647 := iv_b h _ _ (by omega)
theorem ir_41_46 (h : Iv u e P Q c) : (-2147483648 : Int) ≤ c 41 46 ∧ c 41 46 ≤ 2147483647 := iv_b h _ _ (by omega)
theorem ir_41_47 (h : Iv u e P Q c) : 0 ≤ c 41 47 ∧ c 41 47 ≤ 8 := iv_b h _ _ (by omega)
theorem ir_41_48 (h : Iv u e P Q c) : (-2147483648 : Int) ≤ c 41 48 ∧ c 41 48 ≤ 2147483647 := iv_b h _ _ (by omega)
theorem ir_41_49 (h : Iv u e P Q c) : (-2147483648 : Int) ≤ c 41 49 ∧ c 41 49 ≤ 2147483647 := iv_b h _ _ (by omega)
theorem ir_41_50 (h : Iv u e P Q c) : (-2147483648 : Int) ≤ c 41 50 ∧ c 41 50 ≤ 2147483647 := iv_b h _ _ (by omega)
theorem ir_41_51 (h : Iv u e P Q c) : (-2147483648 : Int) ≤ c 41 51 ∧ c 41 51 ≤ 2147483647 := iv_b h _ _ (by omega)
theorem ir_41_52 (h : Iv u e P Q c) : 0 ≤ c 41 52 ∧ c 41 52 ≤ 3 := iv_b h _ _ (by omega)
theorem ir_41_53 (h : Iv u e P Q c) : (-2147483648 : Int) ≤ c 41 53 ∧ c 41 53 ≤ 2147483647 := iv_b h _ _ (by omega)
theorem ir_41_54 (h : Iv u e P Q c) : (-2147483648 : Int) ≤ c 41 54 ∧ c 41 54 ≤ 2147483647 := iv_b h _ _ (by omega)
theorem ir_41_55 (h : Iv u e P Q c) : (-2147483648 : Int) ≤ c 41 55 ∧ c 41 55 ≤ 2147483647 := iv_b h _ _ (by omega)
theorem ir_41_56 (h : Iv u e P Q c) : (-2147483648 : Int) ≤ c 41 56 ∧ c 41 56 ≤ 2147483647 := iv_b h _ _ (by omega)
theorem ir_41_57 (h : Iv u e P Q c) : (-2147483648 : Int) ≤ c 41 57 ∧ c 41 57 ≤ 2147483647 := iv_b h _ _ (by omega)
theorem ir_41_58 (h : Iv u e P Q c) : (-2147483648 : Int) ≤ c 41 58 ∧ c 41 58 ≤ 2147483647 := iv_b h _ _ (by omega)
theorem ir_41_59 (h : Iv u e P Q c) : (-2147483648 : Int) ≤ c 41 59 ∧ c 41 59 ≤ 2147483647 := iv_b h _ _ (by omega)
theorem ir_42 (h : Iv u e P Q c) (j : Int) : (-2147483648 : Int) ≤ c 42 j ∧ c 42 j ≤ 2147483647 := iv_b h _ _ (by omega)
theorem ir_43 (h : Iv u e P Q c) (j : Int) : (-2147483648 : Int) ≤ c 43 j ∧ c 43 j ≤ 2147483647 := iv_b h _ _ (by omega)
theorem ir_44 (h : Iv u e P Q c) (j : Int) : 0 ≤ c 44 j ∧ c 44 j ≤ 999 := iv_b h _ _ (by omega)
theorem ir_45 (h : Iv u e P Q c) (j : Int) : 0 ≤ c 45 j ∧ c 45 j ≤ 10 := iv_b h _ _ (by omega)
theorem ir_46 (h : Iv u e P Q c) (j : Int) : 0 ≤ c 46 j ∧ c 46 j ≤ 2 := iv_b h _ _ (by omega)
theorem ir_47 (h : Iv u e P Q c) (j : Int) : 0 ≤ c 47 j ∧ c 47 j ≤ 999 := iv_b h _ _ (by omega)
theorem ir_48 (h : Iv u e P Q c) (j : Int) : 0 ≤ c 48 j ∧ c 48 j ≤ 10 := iv_b h _ _ (by omega)
theorem ir_49 (h : Iv u e P Q c) (j : Int) : 0 ≤ c 49 j ∧ c 49 j ≤ 2 := iv_b h _ _ (by omega)
theorem ir_50 (h : Iv u e P Q c) (j : Int) : 0 ≤ c 50 j ∧ c 50 j ≤ 8 := iv_b h _ _ (by omega)
theorem ir_51 (h : Iv u e P Q c) (j : Int) : 0 ≤ c 51 j ∧ c 51 j ≤ 999 := iv_b h _ _ (by omega)
theorem ir_52 (h : Iv u e P Q c) (j : Int) : 0 ≤ c 52 j ∧ c 52 j ≤ 8 := iv_b h _ _ (by omega)
theorem ir_53 (h : Iv u e P Q c) (j : Int) : 0 ≤ c 53 j ∧ c 53 j ≤ 999 := iv_b h _ _ (by omega)
theorem ir_54 (h : Iv u e P Q c) (j : Int) : (-2147483648 : Int) ≤ c 54 j ∧ c 54 j ≤ 2147483647 := iv_b h _ _ (by omega)
theorem ir_55 (h : Iv u e P Q c) (j : Int) : (-2147483648 : Int) ≤ c 55 j ∧ c 55 j ≤ 2147483647 := iv_b h _ _ (by omega)
theorem ir_56 (h : Iv u e P Q c) (j : Int) : 0 ≤ c 56 j ∧ c 56 j ≤ 999 := iv_b h _ _ (by omega)
theorem ir_57 (h : Iv u e P Q c) (j : Int) : 0 ≤ c 57 j ∧ c 57 j ≤ 999 := iv_b h _ _ (by omega)
theorem ir_58_g (h : Iv u e P Q c) {j : Int} (hj : j < 24) : 0 ≤ c 58 j ∧ c 58 j ≤ 9999 := by
  have q := iv_b h 58 j (by omega)
  unfold blo bhi at q
  try dsimp only at q
  rw [if_pos hj, if_pos hj] at q
  exact q
theorem ir_58 (h : Iv u e P Q c) (j : Int) : (-2147483648 : Int) ≤ c 58 j ∧ c 58 j ≤ 2147483647 := by
  have q := iv_b h 58 j (by omega)
  unfold blo bhi at q
  try dsimp only at q
  split at q <;> omega
theorem ir_59_g (h : Iv u e P Q c) {j : Int} (hj : j < 24) : 0 ≤ c 59 j ∧ c 59 j ≤ 9999 := by
  have q := iv_b h 59 j (by omega)
  unfold blo bhi at q
  try dsimp only at q
  rw [if_pos hj, if_pos hj] at q
  exact q
theorem ir_59 (h : Iv u e P Q c) (j : Int) : (-2147483648 : Int) ≤ c 59 j ∧ c 59 j ≤ 2147483647 := by
  have q := iv_b h 59 j (by omega)
  unfold blo bhi at q
  try dsimp only at q
  split at q <;> omega
theorem ir_60_g (h : Iv u e P Q c) {j : Int} (hj : j % 37 < 24) : 0 ≤ c 60 j ∧ c 60 j ≤ 9999 := by
  have q := iv_b h 60 j (by omega)
  unfold blo bhi at q
  try dsimp only at q
  rw [if_pos hj, if_pos hj] at q
  exact q
theorem ir_60 (h : Iv u e P Q c) (j : Int) : (-2147483648 : Int) ≤ c 60 j ∧ c 60 j ≤ 2147483647 := by
  have q := iv_b h 60 j (by omega)
  unfold blo bhi at q
  try dsimp only at q
  split at q <;> omega
theorem ir_61 (h : Iv u e P Q c) (j : Int) : 0 ≤ c 61 j ∧ c 61 j ≤ 3 := iv_b h _ _ (by omega)
theorem ir_62 (h : Iv u e P Q c) (j : Int) : 0 ≤ c 62 j ∧ c 62 j ≤ 3 := iv_b h _ _ (by omega)
theorem ir_63 (h : Iv u e P Q c) (j : Int) : (-1 : Int) ≤ c 63 j ∧ c 63 j ≤ 9999 := iv_b h _ _ (by omega)
theorem ir_64 (h : Iv u e P Q c) (j : Int) : (-1 : Int) ≤ c 64 j ∧ c 64 j ≤ 9999 := iv_b h _ _ (by omega)
theorem ir_66_q (h : Iv u e P Q c) (j : Int) : (if j % 630 = 629 then (0 : Int) else if j % 630 % 37 < 24 then 0 else -2147483648) ≤ c 66 j ∧ c 66 j ≤ (if j % 630 = 629 then (16 : Int) else if j % 630 % 37 < 24 then 9999 else 2147483647) := iv_b h _ _ (by omega)
theorem ir_66_g (h : Iv u e P Q c) {j : Int} (hj : j % 630 < 629 ∧ j % 630 % 37 < 24) : 0 ≤ c 66 j ∧ c 66 j ≤ 9999 := by
  have q := ir_66_q h j
  rw [if_neg (by omega), if_pos hj.2, if_neg (by omega), if_pos hj.2] at q
  exact q
theorem ir_66_9 (h : Iv u e P Q c) {j : Int} (hj : j % 630 = 629) : 0 ≤ c 66 j ∧ c 66 j ≤ 16 := by
  have q := ir_66_q h j
  rw [if_pos hj, if_pos hj] at q
  exact q
theorem ir_66 (h : Iv u e P Q c) (j : Int) : -2147483648 ≤ c 66 j ∧ c 66 j ≤ 2147483647 := by
  have q := ir_66_q h j
  by_cases h1 : j % 630 = 629
  · rw [if_pos h1, if_pos h1] at q
    omega
  · rw [if_neg h1, if_neg h1] at q
    by_cases h2 : j % 630 % 37 < 24
    · rw [if_pos h2, if_pos h2] at q
      omega
    · rw [if_neg h2, if_neg h2] at q
      exact q
/-- a place that no invariant but its range speaks of -/
noncomputable def Ns (a : Nat) (j : Int) : Prop := ¬ (a = 4 ∨ a = 5 ∨ a = 38 ∨ a = 40 ∨ a = 58 ∨ a = 59 ∨ a = 60 ∨ a = 66 ∨ a = 8 ∨ a = 56 ∨ a = 57 ∨ a = 21 ∨ a = 22 ∨ a = 33 ∨ a = 34 ∨ a = 10 ∨ a = 17 ∨ a = 29 ∨ a = 52 ∨ a = 53 ∨ (j = 30 ∧ a = 41) ∨ (j = 4 ∧ (a = 13 ∨ a = 25)))
theorem rs_cell {a : Nat} {j : Int} (h : rs a j) : a = 4 ∨ a = 5 ∨ a = 38 ∨ a = 40 ∨ a = 58 ∨ a = 59 ∨ a = 60 ∨ a = 66 := by
  unfold rs at h
  split at h <;> first | omega | exact h.elim
/-- another memory, the same at all places that more than a range speaks of -/
theorem iv_ext {c2 : ME} (h : Iv u e P Q c) (hb : Bx c2) (he : ∀ (a : Nat) (j : Int), ¬ Ns a j → c2 a j = c a j) : Iv u e P Q c2 := by
  refine ⟨iv_pq h, hb, ?_, ?_, ?_, ?_, ?_, ?_, ?_⟩
  · intro a j hr hu9
    have hc := rs_cell hr
    have e : ∀ i : Int, c2 a i = c a i := fun i => he a i (by unfold Ns; omega)
    rw [e, e, e, e]
    exact iv_r h a j hr hu9
  · intro a i hs h1 h2 h3
    have e : ∀ i : Int, c2 a i = c a i := fun i => he a i (by unfold Ns; unfold Sg at hs; omega)
    rw [e, e, e, e, e]
    exact iv_sc h a i hs h1 h2 h3
  · refine ⟨fun i h1 => ?_, fun a i ha h1 h2 => ?_⟩
    · have e : ∀ i : Int, c2 8 i = c 8 i := fun i => he 8 i (by unfold Ns; omega)
      rw [e]
      exact (iv_ag h).1 i h1
    · have e : ∀ i : Int, c2 a i = c a i := fun i => he a i (by unfold Ns; omega)
      rw [e, e]
      exact (iv_ag h).2 a i ha h1 h2
  · intro a j hl
    rw [he a j (by unfold Ns; unfold Lg at hl; omega)]
    exact iv_lc h a j hl
  · intro j
    rw [he 10 j (by unfold Ns; omega)]
    exact iv_pr h j
  · intro a j ha h1 h2
    rw [he a 4 (by unfold Ns; omega)] at h2
    rw [he (a + 4) j (by unfold Ns; omega)]
    exact iv_sk h a j ha h1 h2
  · have e1 : c2 52 = c 52 := funext (fun j => he 52 j (by unfold Ns; omega))
    have e2 : c2 53 = c 53 := funext (fun j => he 53 j (by unfold Ns; omega))
    unfold Hc
    rw [e1, e2, he 41 30 (by unfold Ns; omega)]
    exact iv_hc h
theorem bx_up {a : Nat} {j v : Int} (h : Bx c) (hv : blo a j ≤ v ∧ v ≤ bhi a j) : Bx (up c a j v) := by
  intro b i hb
  by_cases e : b = a ∧ i = j
  · rw [e.1, e.2, up_e rfl]
    exact hv
  · rw [up_b (by omega)]
    exact h b i hb
theorem iv_up {a : Nat} {j v : Int} (h : Iv u e P Q c) (hn : Ns a j) (hv : blo a j ≤ v ∧ v ≤ bhi a j) : Iv u e P Q (up c a j v) :=
  iv_ext h (bx_up (iv_b h) hv) (fun b i hb => up_b (by by_cases e : b = a ∧ i = j; (· rw [e.1, e.2] at hb; exact (hb hn).elim); omega))
theorem iw_0_11 {v : Int} (h : Iv u e P Q c) (hv : (-2147483648 : Int) ≤ v ∧ v ≤ 2147483647) : Iv u e P Q (up c 0 11 v) := iv_up h (by unfold Ns; omega) hv
theorem iw_0_12 {v : Int} (h : Iv u e P Q c) (hv : (-2147483648 : Int) ≤ v ∧ v ≤ 2147483647) : Iv u e P Q (up c 0 12 v) := iv_up h (by unfold Ns; omega) hv
theorem iw_0_13 {v : Int} (h : Iv u e P Q c) (hv : (-2147483648 : Int) ≤ v ∧ v ≤ 2147483647) : Iv u e P Q (up c 0 13 v) := iv_up h (by unfold Ns; omega) hv
theorem iw_1_1 {v : Int} (h : Iv u e P Q c) (hv : 0 ≤ v ∧ v ≤ 600) : Iv u e P Q (up c 1 1 v) := iv_up h (by unfold Ns; omega) hv
theorem iw_1_2 {v : Int} (h : Iv u e P Q c) (hv : 0 ≤ v ∧ v ≤ 600) : Iv u e P Q (up c 1 2 v) := iv_up h (by unfold Ns; omega) hv
theorem iw_1_3 {v : Int} (h : Iv u e P Q c) (hv : 0 ≤ v ∧ v ≤ 600) : Iv u e P Q (up c 1 3 v) := iv_up h (by unfold Ns; omega) hv
theorem iw_1_4 {v : Int} (h : Iv u e P Q c) (hv : 0 ≤ v ∧ v ≤ 3) : Iv u e P Q (up c 1 4 v) := iv_up h (by unfold Ns; omega) hv
theorem iw_1_5 {v : Int} (h : Iv u e P Q c) (hv : (-1 : Int) ≤ v ∧ v ≤ 600) : Iv u e P Q (up c 1 5 v) := iv_up h (by unfold Ns; omega) hv
theorem iw_2 {j : Int} {v : Int} (h : Iv u e P Q c) (hv : (-2147483648 : Int) ≤ v ∧ v ≤ 2147483647) : Iv u e P Q (up c 2 j v) := iv_up h (by unfold Ns; omega) hv
theorem iw_3_3 {v : Int} (h : Iv u e P Q c) (hv : 0 ≤ v ∧ v ≤ 16) : Iv u e P Q (up c 3 3 v) := iv_up h (by unfold Ns; omega) hv
theorem iw_3_4 {v : Int} (h : Iv u e P Q c) (hv : 0 ≤ v ∧ v ≤ 3) : Iv u e P Q (up c 3 4 v) := iv_up h (by unfold Ns; omega) hv
theorem iw_6 {j : Int} {v : Int} (h : Iv u e P Q c) (hv : 0 ≤ v ∧ v ≤ 16) : Iv u e P Q (up c 6 j v) := iv_up h (by unfold Ns; omega) hv
theorem iw_7_1 {v : Int} (h : Iv u e P Q c) (hv : 0 ≤ v ∧ v ≤ 200) : Iv u e P Q (up c 7 1 v) := iv_up h (by unfold Ns; omega) hv
theorem iw_7_2 {v : Int} (h : Iv u e P Q c) (hv : 0 ≤ v ∧ v ≤ 38) : Iv u e P Q (up c 7 2 v) := iv_up h (by unfold Ns; omega) hv
theorem iw_7_3 {v : Int} (h : Iv u e P Q c) (hv : (-2147483648 : Int) ≤ v ∧ v ≤ 2147483647) : Iv u e P Q (up c 7 3 v) := iv_up h (by unfold Ns; omega) hv
theorem iw_7_4 {v : Int} (h : Iv u e P Q c) (hv : (-2147483648 : Int) ≤ v ∧ v ≤ 2147483647) : Iv u e P Q (up c 7 4 v) := iv_up h (by unfold Ns; omega) hv
theorem iw_9_0 {v : Int} (h : Iv u e P Q c) (hv : (-2147483648 : Int) ≤ v ∧ v ≤ 2147483647) : Iv u e P Q (up c 9 0 v) := iv_up h (by unfold Ns; omega) hv
theorem iw_11 {j : Int} {v : Int} (h : Iv u e P Q c) (hv : (-2147483648 : Int) ≤ v ∧ v ≤ 2147483647) : Iv u e P Q (up c 11 j v) := iv_up h (by unfold Ns; omega) hv
theorem iw_12 {j : Int} {v : Int} (h : Iv u e P Q c) (hv : 0 ≤ v ∧ v ≤ 9999) : Iv u e P Q (up c 12 j v) := iv_up h (by unfold Ns; omega) hv
theorem iw_p0_0 {v : Int} (h : Iv u e P Q c) (hA : A = 13 ∨ A = 25) (hv : 0 ≤ v ∧ v ≤ 6) : Iv u e P Q (up c A 0 v) := by
  rcases hA with rfl | rfl <;> exact iv_up h (by unfold Ns; omega) hv
theorem iw_p0_1 {v : Int} (h : Iv u e P Q c) (hA : A = 13 ∨ A = 25) (hv : 0 ≤ v ∧ v ≤ 4) : Iv u e P Q (up c A 1 v) := by
  rcases hA with rfl | rfl <;> exact iv_up h (by unfold Ns; omega) hv
theorem iw_p0_2 {v : Int} (h : Iv u e P Q c) (hA : A = 13 ∨ A = 25) (hv : 0 ≤ v ∧ v ≤ 4) : Iv u e P Q (up c A 2 v) := by
  rcases hA with rfl | rfl <;> exact iv_up h (by unfold Ns; omega) hv
theorem iw_p0_3 {v : Int} (h : Iv u e P Q c) (hA : A = 13 ∨ A = 25) (hv : 0 ≤ v ∧ v ≤ 50) : Iv u e P Q (up c A 3 v) := by
  rcases hA with rfl | rfl <;> exact iv_up h (by unfold Ns; omega) hv
theorem iw_p0_5 {v : Int} (h : Iv u e P Q c) (hA : A = 13 ∨ A = 25) (hv : 0 ≤ v ∧ v ≤ 5) : Iv u e P Q (up c A 5 v) := by
  rcases hA with rfl | rfl <;> exact iv_up h (by unfold Ns; omega) hv
theorem iw_p1 {j : Int} {v : Int} (h : Iv u e P Q c) (hA : A = 13 ∨ A = 25) (hv : 0 ≤ v ∧ v ≤ 999) : Iv u e P Q (up c (A + 1) j v) := by
  rcases hA with rfl | rfl <;> exact iv_up h (by unfold Ns; omega) hv
theorem iw_p2 {j : Int} {v : Int} (h : Iv u e P Q c) (hA : A = 13 ∨ A = 25) (hv : 0 ≤ v ∧ v ≤ 10) : Iv u e P Q (up c (A + 2) j v) := by
  rcases hA with rfl | rfl <;> exact iv_up h (by unfold Ns; omega) hv
theorem iw_p3 {j : Int} {v : Int} (h : Iv u e P Q c) (hA : A = 13 ∨ A = 25) (hv : 0 ≤ v ∧ v ≤ 2) : Iv u e P Q (up c (A + 3) j v) := by
  rcases hA with rfl | rfl <;> exact iv_up h (by unfold Ns; omega) hv
theorem iw_p5 {j : Int} {v : Int} (h : Iv u e P Q c) (hA : A = 13 ∨ A = 25) (hv : (-1 : Int) ≤ v ∧ v ≤ 9999) : Iv u e P Q (up c (A + 5) j v) := by
  rcases hA with rfl | rfl <;> exact iv_up h (by unfold Ns; omega) hv
theorem iw_p6 {j : Int} {v : Int} (h : Iv u e P Q c) (hA : A = 13 ∨ A = 25) (hv : (-1 : Int) ≤ v ∧ v ≤ 9999) : Iv u e P Q (up c (A + 6) j v) := by
  rcases hA with rfl | rfl <;> exact iv_up h (by unfold Ns; omega) hv
theorem iw_p7_4 {v : Int} (h : Iv u e P Q c) (hA : A = 13 ∨ A = 25) (hv : 0 ≤ v ∧ v ≤ 150) : Iv u e P Q (up c (A + 7) 4 v) := by
  rcases hA with rfl | rfl <;> exact iv_up h (by unfold Ns; omega) hv
theorem iw_p7_5 {v : Int} (h : Iv u e P Q c) (hA : A = 13 ∨ A = 25) (hv : 0 ≤ v ∧ v ≤ 150) : Iv u e P Q (up c (A + 7) 5 v) := by
  rcases hA with rfl | rfl <;> exact iv_up h (by unfold Ns; omega) hv
theorem iw_p10 {j : Int} {v : Int} (h : Iv u e P Q c) (hA : A = 13 ∨ A = 25) (hv : (-2147483648 : Int) ≤ v ∧ v ≤ 2147483647) : Iv u e P Q (up c (A + 10) j v) := by
  rcases hA with rfl | rfl <;> exact iv_up h (by unfold Ns; omega) hv
theorem iw_p11 {j : Int} {v : Int} (h : Iv u e P Q c) (hA : A = 13 ∨ A = 25) (hv : (-2147483648 : Int) ≤ v ∧ v ≤ 2147483647) : Iv u e P Q (up c (A + 11) j v) := by
  rcases hA with rfl | rfl <;> exact iv_up h (by unfold Ns; omega) hv
theorem iw_41_2 {v : Int} (h : Iv u e P Q c) (hv : 0 ≤ v ∧ v ≤ 600) : Iv u e P Q (up c 41 2 v) := iv_up h (by unfold Ns; omega) hv
theorem iw_41_3 {v : Int} (h : Iv u e P Q c) (hv : 0 ≤ v ∧ v ≤ 600) : Iv u e P Q (up c 41 3 v) := iv_up h (by unfold Ns; omega) hv
theorem iw_41_4 {v : Int} (h : Iv u e P Q c) (hv : 0 ≤ v ∧ v ≤ 605) : Iv u e P Q (up c 41 4 v) := iv_up h (by unfold Ns; omega) hv
theorem iw_41_5 {v : Int} (h : Iv u e P Q c) (hv : (-1 : Int) ≤ v ∧ v ≤ 605) : Iv u e P Q (up c 41 5 v) := iv_up h (by unfold Ns; omega) hv
theorem iw_41_6 {v : Int} (h : Iv u e P Q c) (hv : 0 ≤ v ∧ v ≤ 3) : Iv u e P Q (up c 41 6 v) := iv_up h (by unfold Ns; omega) hv
theorem iw_41_7 {v : Int} (h : Iv u e P Q c) (hv : 0 ≤ v ∧ v ≤ 7) : Iv u e P Q (up c 41 7 v) := iv_up h (by unfold Ns; omega) hv
theorem iw_41_8 {v : Int} (h : Iv u e P Q c) (hv : (-1 : Int) ≤ v ∧ v ≤ 605) : Iv u e P Q (up c 41 8 v) := iv_up h (by unfold Ns; omega) hv
theorem iw_41_16 {v : Int} (h : Iv u e P Q c) (hv : 0 ≤ v ∧ v ≤ 6) : Iv u e P Q (up c 41 16 v) := iv_up h (by unfold Ns; omega) hv
theorem iw_41_17 {v : Int} (h : Iv u e P Q c) (hv : 0 ≤ v ∧ v ≤ 4) : Iv u e P Q (up c 41 17 v) := iv_up h (by unfold Ns; omega) hv
theorem iw_41_18 {v : Int} (h : Iv u e P Q c) (hv : 0 ≤ v ∧ v ≤ 4) : Iv u e P Q (up c 41 18 v) := iv_up h (by unfold Ns; omega) hv
theorem iw_41_19 {v : Int} (h : Iv u e P Q c) (hv : 0 ≤ v ∧ v ≤ 50) : Iv u e P Q (up c 41 19 v) := iv_up h (by unfold Ns; omega) hv
theorem iw_41_20 {v : Int} (h : Iv u e P Q c) (hv : 0 ≤ v ∧ v ≤ 6) : Iv u e P Q (up c 41 20 v) := iv_up h (by unfold Ns; omega) hv
theorem iw_41_21 {v : Int} (h : Iv u e P Q c) (hv : 0 ≤ v ∧ v ≤ 4) : Iv u e P Q (up c 41 21 v) := iv_up h (by unfold Ns; omega) hv
theorem iw_41_22 {v : Int} (h : Iv u e P Q c) (hv : 0 ≤ v ∧ v ≤ 4) : Iv u e P Q (up c 41 22 v) := iv_up h (by unfold Ns; omega) hv
theorem iw_41_23 {v : Int} (h : Iv u e P Q c) (hv : 0 ≤ v ∧ v ≤ 50) : Iv u e P Q (up c 41 23 v) := iv_up h (by unfold Ns; omega) hv
theorem iw_41_29 {v : Int} (h : Iv u e P Q c) (hv : 0 ≤ v ∧ v ≤ 150) : Iv u e P Q (up c 41 29 v) := iv_up h (by unfold Ns; omega) hv
theorem iw_41_34 {v : Int} (h : Iv u e P Q c) (hv : 0 ≤ v ∧ v ≤ 250) : Iv u e P Q (up c 41 34 v) := iv_up h (by unfold Ns; omega) hv
theorem iw_41_35 {v : Int} (h : Iv u e P Q c) (hv : 0 ≤ v ∧ v ≤ 16) : Iv u e P Q (up c 41 35 v) := iv_up h (by unfold Ns; omega) hv
theorem iw_41_37 {v : Int} (h : Iv u e P Q c) (hv : 0 ≤ v ∧ v ≤ 200) : Iv u e P Q (up c 41 37 v) := iv_up h (by unfold Ns; omega) hv
theorem iw_41_47 {v : Int} (h : Iv u e P Q c) (hv : 0 ≤ v ∧ v ≤ 8) : Iv u e P Q (up c 41 47 v) := iv_up h (by unfold Ns; omega) hv
theorem iw_41_52 {v : Int} (h : Iv u e P Q c) (hv : 0 ≤ v ∧ v ≤ 3) : Iv u e P Q (up c 41 52 v) := iv_up h (by unfold Ns; omega) hv
theorem iw_41_0 {v : Int} (h : Iv u e P Q c) (hv : (-2147483648 : Int) ≤ v ∧ v ≤ 2147483647) : Iv u e P Q (up c 41 0 v) := iv_up h (by unfold Ns; omega) hv
theorem iw_41_36 {v : Int} (h : Iv u e P Q c) (hv : (-2147483648 : Int) ≤ v ∧ v ≤ 2147483647) : Iv u e P Q (up c 41 36 v) := iv_up h (by unfold Ns; omega) hv
theorem iw_41_38 {v : Int} (h : Iv u e P Q c) (hv : (-2147483648 : Int) ≤ v ∧ v ≤ 2147483647) : Iv u e P Q (up c 41 38 v) := iv_up h (by unfold Ns; omega) hv
theorem iw_41_39 {v : Int} (h : Iv u e P Q c) (hv : (-2147483648 : Int) ≤ v ∧ v ≤ 2147483647) : Iv u e P Q (up c 41 39 v) := iv_up h (by unfold Ns; omega) hv
theorem iw_41_48 {v : Int} (h : Iv u e P Q c) (hv : (-2147483648 : Int) ≤ v ∧ v ≤ 2147483647) : Iv u e P Q (up c 41 48 v) := iv_up h (by unfold Ns; omega) hv
theorem iw_41_50 {v : Int} (h : Iv u e P Q c) (hv : (-2147483648 : Int) ≤ v ∧ v ≤ 2147483647) : Iv u e P Q (up c 41 50 v) := iv_up h (by unfold Ns; omega) hv
theorem iw_42 {j : Int} {v : Int} (h : Iv u e P Q c) (hv : (-2147483648 : Int) ≤ v ∧ v ≤ 2147483647) : Iv u e P Q (up c 42 j v) := iv_up h (by unfold Ns; omega) hv
theorem iw_43 {j : Int} {v : Int} (h : Iv u e P Q c) (hv : (-2147483648 : Int) ≤ v ∧ v ≤ 2147483647) : Iv u e P Q (up c 43 j v) := iv_up h (by unfold Ns; omega) hv
theorem iw_44 {j : Int} {v : Int} (h : Iv u e P Q c) (hv : 0 ≤ v ∧ v ≤ 999) : Iv u e P Q (up c 44 j v) := iv_up h (by unfold Ns; omega) hv
theorem iw_45 {j : Int} {v : Int} (h : Iv u e P Q c) (hv : 0 ≤ v ∧ v ≤ 10) : Iv u e P Q (up c 45 j v) := iv_up h (by unfold Ns; omega) hv
theorem iw_46 {j : Int} {v : Int} (h : Iv u e P Q c) (hv : 0 ≤ v ∧ v ≤ 2) : Iv u e P Q (up c 46 j v) := iv_up h (by unfold Ns; omega) hv
theorem iw_47 {j : Int} {v : Int} (h : Iv u e P Q c) (hv : 0 ≤ v ∧ v ≤ 999) : Iv u e P Q (up c 47 j v) := iv_up h (by unfold Ns; omega) hv
theorem iw_48 {j : Int} {v : Int} (h : Iv u e P Q c) (hv : 0 ≤ v ∧ v ≤ 10) : Iv u e P Q (up c 48 j v) := iv_up h (by unfold Ns; omega) hv
theorem iw_49 {j : Int} {v : Int} (h : Iv u e P Q c) (hv : 0 ≤ v ∧ v ≤ 2) : Iv u e P Q (up c 49 j v) := iv_up h (by unfold Ns; omega) hv
theorem iw_50 {j : Int} {v : Int} (h : Iv u e P Q c) (hv : 0 ≤ v ∧ v ≤ 8) : Iv u e P Q (up c 50 j v) := iv_up h (by unfold Ns; omega) hv
theorem iw_51 {j : Int} {v : Int} (h : Iv u e P Q c) (hv : 0 ≤ v ∧ v ≤ 999) : Iv u e P Q (up c 51 j v) := iv_up h (by unfold Ns; omega) hv
theorem iw_54 {j : Int} {v : Int} (h : Iv u e P Q c) (hv : (-2147483648 : Int) ≤ v ∧ v ≤ 2147483647) : Iv u e P Q (up c 54 j v) := iv_up h (by unfold Ns; omega) hv
theorem iw_55 {j : Int} {v : Int} (h : Iv u e P Q c) (hv : (-2147483648 : Int) ≤ v ∧ v ≤ 2147483647) : Iv u e P Q (up c 55 j v) := iv_up h (by unfold Ns; omega) hv
theorem iw_61 {j : Int} {v : Int} (h : Iv u e P Q c) (hv : 0 ≤ v ∧ v ≤ 3) : Iv u e P Q (up c 61 j v) := iv_up h (by unfold Ns; omega) hv
theorem iw_62 {j : Int} {v : Int} (h : Iv u e P Q c) (hv : 0 ≤ v ∧ v ≤ 3) : Iv u e P Q (up c 62 j v) := iv_up h (by unfold Ns; omega) hv
theorem iw_63 {j : Int} {v : Int} (h : Iv u e P Q c) (hv : (-1 : Int) ≤ v ∧ v ≤ 9999) : Iv u e P Q (up c 63 j v) := iv_up h (by unfold Ns; omega) hv
theorem iw_64 {j : Int} {v : Int} (h : Iv u e P Q c) (hv : (-1 : Int) ≤ v ∧ v ≤ 9999) : Iv u e P Q (up c 64 j v) := iv_up h (by unfold Ns; omega) hv
theorem ir_p8_x (h : Iv u e P Q c) (hA : A = 13 ∨ A = 25) (j : Int) : c (A + 8) j < 1008 ∨ 2000 ≤ c (A + 8) j := iv_lc h (A + 8) j (by unfold Lg; omega)
theorem ir_p9_x (h : Iv u e P Q c) (hA : A = 13 ∨ A = 25) (j : Int) : c (A + 9) j < 1008 ∨ 2000 ≤ c (A + 9) j := iv_lc h (A + 9) j (by unfold Lg; omega)
theorem ir_10_x (h : Iv u e P Q c) (j : Int) : c 10 j % 10 ≤ 5 := iv_pr h j
/-- another memory, the same but at one cell -/
theorem iv_one {c2 : ME} {a : Nat} (h : Iv u e P Q c) (he : ∀ (b : Nat) (j : Int), ¬ b = a → c2 b j = c b j) (hb : ¬ (a = 65 ∨ a = 67) → ∀ j : Int, blo a j ≤ c2 a j ∧ c2 a j ≤ bhi a j) : Bx c2 := by
  intro b j hn
  by_cases e : b = a
  · subst e
    exact hb hn j
  · rw [he b j e]
    exact iv_b h b j hn
theorem bx_38 {j v : Int} (hg : j < 24 → 0 ≤ v ∧ v ≤ 9999) (hv : -2147483648 ≤ v ∧ v ≤ 2147483647) : blo 38 j ≤ v ∧ v ≤ bhi 38 j := by
  show (if j < 24 then (0 : Int) else (-2147483648)) ≤ v ∧ v ≤ (if j < 24 then (9999 : Int) else 2147483647)
  by_cases e : j < 24
  · rw [if_pos e, if_pos e]
    exact hg e
  · rw [if_neg e, if_neg e]
    exact hv
theorem bx_40 {j v : Int} (hg : j < 24 → 0 ≤ v ∧ v ≤ 9999) (hv : -2147483648 ≤ v ∧ v ≤ 2147483647) : blo 40 j ≤ v ∧ v ≤ bhi 40 j := by
  show (if j < 24 then (0 : Int) else (-2147483648)) ≤ v ∧ v ≤ (if j < 24 then (9999 : Int) else 2147483647)
  by_cases e : j < 24
  · rw [if_pos e, if_pos e]
    exact hg e
  · rw [if_neg e, if_neg e]
    exact hv
theorem bx_58 {j v : Int} (hg : j < 24 → 0 ≤ v ∧ v ≤ 9999) (hv : -2147483648 ≤ v ∧ v ≤ 2147483647) : blo 58 j ≤ v ∧ v ≤ bhi 58 j := by
  show (if j < 24 then (0 : Int) else (-2147483648)) ≤ v ∧ v ≤ (if j < 24 then (9999 : Int) else 2147483647)
  by_cases e : j < 24
  · rw [if_pos e, if_pos e]
    exact hg e
  · rw [if_neg e, if_neg e]
    exact hv
theorem bx_59 {j v : Int} (hg : j < 24 → 0 ≤ v ∧ v ≤ 9999) (hv : -2147483648 ≤ v ∧ v ≤ 2147483647) : blo 59 j ≤ v ∧ v ≤ bhi 59 j := by
  show (if j < 24 then (0 : Int) else (-2147483648)) ≤ v ∧ v ≤ (if j < 24 then (9999 : Int) else 2147483647)
  by_cases e : j < 24
  · rw [if_pos e, if_pos e]
    exact hg e
  · rw [if_neg e, if_neg e]
    exact hv
theorem bx_4 {j v : Int} (hg : j % 34 < 24 → 0 ≤ v ∧ v ≤ 9999) (hv : -2147483648 ≤ v ∧ v ≤ 2147483647) : blo 4 j ≤ v ∧ v ≤ bhi 4 j := by
  show (if j % 34 < 24 then (0 : Int) else (-2147483648)) ≤ v ∧ v ≤ (if j % 34 < 24 then (9999 : Int) else 2147483647)
  by_cases e : j % 34 < 24
  · rw [if_pos e, if_pos e]
    exact hg e
  · rw [if_neg e, if_neg e]
    exact hv
theorem bx_5 {j v : Int} (hg : j % 34 < 24 → 0 ≤ v ∧ v ≤ 9999) (hv : -2147483648 ≤ v ∧ v ≤ 2147483647) : blo 5 j ≤ v ∧ v ≤ bhi 5 j := by
  show (if j % 34 < 24 then (0 : Int) else (-2147483648)) ≤ v ∧ v ≤ (if j % 34 < 24 then (9999 : Int) else 2147483647)
  by_cases e : j % 34 < 24
  · rw [if_pos e, if_pos e]
    exact hg e
  · rw [if_neg e, if_neg e]
    exact hv
theorem bx_60 {j v : Int} (hg : j % 37 < 24 → 0 ≤ v ∧ v ≤ 9999) (hv : -2147483648 ≤ v ∧ v ≤ 2147483647) : blo 60 j ≤ v ∧ v ≤ bhi 60 j := by
  show (if j % 37 < 24 then (0 : Int) else (-2147483648)) ≤ v ∧ v ≤ (if j % 37 < 24 then (9999 : Int) else 2147483647)
  by_cases e : j % 37 < 24
  · rw [if_pos e, if_pos e]
    exact hg e
  · rw [if_neg e, if_neg e]
    exact hv
theorem bx_66 {j v : Int} (hg : j % 630 < 629 ∧ j % 630 % 37 < 24 → 0 ≤ v ∧ v ≤ 9999) (h9 : j % 630 = 629 → 0 ≤ v ∧ v ≤ 16) (hv : -2147483648 ≤ v ∧ v ≤ 2147483647) : blo 66 j ≤ v ∧ v ≤ bhi 66 j := by
  show (if j % 630 = 629 then (0 : Int) else if j % 630 % 37 < 24 then 0 else -2147483648) ≤ v ∧ v ≤ (if j % 630 = 629 then (16 : Int) else if j % 630 % 37 < 24 then 9999 else 2147483647)
  by_cases h1 : j % 630 = 629
  · rw [if_pos h1, if_pos h1]
    exact h9 h1
  · rw [if_neg h1, if_neg h1]
    by_cases h2 : j % 630 % 37 < 24
    · rw [if_pos h2, if_pos h2]
      exact hg ⟨by omega, h2⟩
    · rw [if_neg h2, if_neg h2]
      exact hv
theorem ri_38 {j : Int} : rs 38 j ↔ (j % 4 = 0 ∧ 0 ≤ j ∧ j < 24) := Iff.rfl
theorem ri_40 {j : Int} : rs 40 j ↔ (j % 4 = 0 ∧ 0 ≤ j ∧ j < 24) := Iff.rfl
theorem ri_58 {j : Int} : rs 58 j ↔ (j % 4 = 0 ∧ 0 ≤ j ∧ j < 24) := Iff.rfl
theorem ri_59 {j : Int} : rs 59 j ↔ (j % 4 = 0 ∧ 0 ≤ j ∧ j < 24) := Iff.rfl
theorem ri_4 {j : Int} : rs 4 j ↔ (0 ≤ j ∧ j % 34 % 4 = 0 ∧ j % 34 < 24) := Iff.rfl
theorem ri_5 {j : Int} : rs 5 j ↔ (0 ≤ j ∧ j % 34 % 4 = 0 ∧ j % 34 < 24) := Iff.rfl
theorem ri_60 {j : Int} : rs 60 j ↔ (0 ≤ j ∧ j % 37 % 4 = 0 ∧ j % 37 < 24) := Iff.rfl
theorem ri_66 {j : Int} : rs 66 j ↔ (0 ≤ j ∧ j % 630 < 629 ∧ j % 630 % 37 % 4 = 0 ∧ j % 630 % 37 < 24) := Iff.rfl
noncomputable def Rc (a : Nat) : Prop := a = 4 ∨ a = 5 ∨ a = 38 ∨ a = 40 ∨ a = 58 ∨ a = 59 ∨ a = 60 ∨ a = 66
theorem sc_ext {c2 : ME} (h : Sc e c) (he : ∀ a, Sg a → ∀ j : Int, c2 a j = c a j) : Sc e c2 := fun a i hs h1 h2 h3 => by
  rw [he a hs, he a hs, he a hs, he a hs, he a hs]
  exact h a i hs h1 h2 h3
theorem ag_ext {c2 : ME} (h : Ag c) (he : ∀ a, Sg a → ∀ j : Int, c2 a j = c a j) : Ag c2 := ⟨fun i h1 => by
    rw [he 8 (by unfold Sg; omega)]
    exact h.1 i h1, fun a i ha h1 h2 => by
    rw [he a (by unfold Sg; omega), he a (by unfold Sg; omega)]
    exact h.2 a i ha h1 h2⟩
theorem lc_ext {c2 : ME} (h : Lc c) (he : ∀ a, Lg a → ∀ j : Int, c2 a j = c a j) : Lc c2 := fun a j hl => by
  rw [he a hl]
  exact h a j hl
theorem pr_ext {c2 : ME} (h : Pr c) (he : ∀ j : Int, c2 10 j = c 10 j) : Pr c2 := fun j => by
  rw [he]
  exact h j
theorem sk_ext {c2 : ME} (h : Sk c) (he : ∀ a : Nat, a = 13 ∨ a = 25 ∨ a = 17 ∨ a = 29 → ∀ j : Int, c2 a j = c a j) : Sk c2 := fun a j ha h1 h2 => by
  rw [he a (by omega)] at h2
  rw [he (a + 4) (by omega)]
  exact h a j ha h1 h2
theorem hc_ext {c2 : ME} (h : Hc c) (he : ∀ (a : Nat) (j : Int), a = 52 ∨ a = 53 ∨ a = 41 ∧ j = 30 → c2 a j = c a j) : Hc c2 := by
  have e1 : c2 52 = c 52 := funext (fun j => he 52 j (by omega))
  have e2 : c2 53 = c 53 := funext (fun j => he 53 j (by omega))
  unfold Hc
  rw [e1, e2, he 41 30 (by omega)]
  exact h
theorem rc_not {a : Nat} (h : Rc a) : ¬ Sg a ∧ ¬ Lg a ∧ ¬ a = 10 ∧ ¬ (a = 13 ∨ a = 25 ∨ a = 17 ∨ a = 29) ∧ ¬ (a = 52 ∨ a = 53 ∨ a = 41) := by
  unfold Rc at h
  unfold Sg Lg
  omega
/-- another memory, the same but at the row of cell a -/
theorem iv_row {c2 : ME} {a v : Nat} (h : Iv u e P Q c) (ha : Rc a) (he : ∀ (b : Nat) (j : Int), ¬ b = a → c2 b j = c b j) (hb : Bx c2) (hr : ∀ (b : Nat) (j : Int), rs b j → ¬ b = v → b = a ∨ b = u → c2 b j + c2 b (j + 1) + c2 b (j + 2) + c2 b (j + 3) ≤ 9999) : Iv v e P Q c2 := by
  have hn := rc_not ha
  refine ⟨iv_pq h, hb, ?_, sc_ext (iv_sc h) (fun b hs j => he b j (fun e => hn.1 (e ▸ hs))), ag_ext (iv_ag h) (fun b hs j => he b j (fun e => hn.1 (e ▸ hs))), lc_ext (iv_lc h) (fun b hs j => he b j (fun e => hn.2.1 (e ▸ hs))), pr_ext (iv_pr h) (fun j => he 10 j (fun e => hn.2.2.1 e.symm)), sk_ext (iv_sk h) (fun b hs j => he b j (fun e => hn.2.2.2.1 (e ▸ hs))), hc_ext (iv_hc h) (fun b j hs => he b j (fun e => hn.2.2.2.2 (by subst e; omega)))⟩
  intro b j hs hv
  by_cases e : b = a ∨ b = u
  · exact hr b j hs hv e
  · rw [he b j (by omega), he b _ (by omega), he b _ (by omega), he b _ (by omega)]
    exact iv_r h b j hs (by omega)
theorem iv_open (h : Iv 0 e P Q c) {s : Nat} : Iv s e P Q c := ⟨iv_pq h, iv_b h, fun a j hr _ => iv_r h a j hr (by have := rs_cell hr; omega), iv_sc h, iv_ag h, iv_lc h, iv_pr h, iv_sk h, iv_hc h⟩
theorem iv_close {s : Nat} (h : Iv s e P Q c) (hr : ∀ j : Int, rs s j → c s j + c s (j + 1) + c s (j + 2) + c s (j + 3) ≤ 9999) : Iv 0 e P Q c := ⟨iv_pq h, iv_b h, fun a j hs _ => by
    by_cases e : a = s
    · subst e
      exact hr j hs
    · exact iv_r h a j hs e, iv_sc h, iv_ag h, iv_lc h, iv_pr h, iv_sk h, iv_hc h⟩
/-- a write to the row that is open, or behind the jars of one -/
theorem iw_row {a : Nat} {j v : Int} (h : Iv u e P Q c) (ha : a = 38 ∨ a = 40 ∨ a = 58 ∨ a = 59) (hj : a = u ∨ 24 ≤ j) (hv : -2147483648 ≤ v ∧ v ≤ 2147483647 ∧ (j < 24 → 0 ≤ v ∧ v ≤ 9999)) : Iv u e P Q (up c a j v) := by
  refine iv_row (a := a) h (by unfold Rc; omega) (fun b i hb => up_c hb) (bx_up (iv_b h) ?_) ?_
  · rcases ha with rfl | rfl | rfl | rfl
    · exact bx_38 hv.2.2 ⟨hv.1, hv.2.1⟩
    · exact bx_40 hv.2.2 ⟨hv.1, hv.2.1⟩
    · exact bx_58 hv.2.2 ⟨hv.1, hv.2.1⟩
    · exact bx_59 hv.2.2 ⟨hv.1, hv.2.1⟩
  · intro b i hs hbu hb
    have hr := iv_r h b i hs hbu
    have e : b = a := by omega
    subst e
    have h3 : i < 24 ∧ i % 4 = 0 := by
      rcases ha with rfl | rfl | rfl | rfl <;> (simp only [ri_38, ri_40, ri_58, ri_59] at hs; omega)
    rw [up_b (by omega), up_b (by omega), up_b (by omega), up_b (by omega)]
    exact hr
theorem iv_open8 {t : Int} (h : Iv u (-1) P Q c) : Iv u t P Q c := ⟨iv_pq h, iv_b h, iv_r h, fun a i hs h1 h2 _ => iv_sc h a i hs h1 h2 (by omega), iv_ag h, iv_lc h, iv_pr h, iv_sk h, iv_hc h⟩
theorem iv_close8 {t : Int} (h : Iv u t P Q c) (hs : So (c 8 (5 * t)) (c 8 (5 * t + 1)) (c 8 (5 * t + 2)) (c 8 (5 * t + 3)) (c 8 (5 * t + 4))) : Iv u (-1) P Q c := ⟨iv_pq h, iv_b h, iv_r h, fun a i hg h1 h2 _ => by
    by_cases q : a = 8 ∧ i = t
    · rw [q.1, q.2]
      exact hs
    · exact iv_sc h a i hg h1 h2 q, iv_ag h, iv_lc h, iv_pr h, iv_sk h, iv_hc h⟩
theorem iw_8 {t j v : Int} (h : Iv u t P Q c) (hj : 5 * t ≤ j ∧ j ≤ 5 * t + 4) (hv : 0 ≤ v ∧ v ≤ 99999) (h2 : j % 5 = 2 → v ≤ 38) : Iv u t P Q (up c 8 j v) := by
  have hu : ∀ (b : Nat) (i : Int), ¬ (b = 8 ∧ 5 * t ≤ i ∧ i ≤ 5 * t + 4) → up c 8 j v b i = c b i := fun b i hb => up_b (by omega)
  refine ⟨iv_pq h, bx_up (iv_b h) hv, ?_, ?_, ⟨fun i h1 => ?_, fun b i hb h1 h2 => ?_⟩, lc_ext (iv_lc h) (fun b hs j => up_c (by unfold Lg at hs; omega)), pr_ext (iv_pr h) (fun j => up_c (by omega)), sk_ext (iv_sk h) (fun b hs j => up_c (by omega)), hc_ext (iv_hc h) (fun b j hs => up_c (by omega))⟩
  · intro b i hs h0
    have hc := rs_cell hs
    rw [up_c (by omega), up_c (by omega), up_c (by omega), up_c (by omega)]
    exact iv_r h b i hs h0
  · intro b i hs h1 h2 h3
    rw [hu b _ (by omega), hu b _ (by omega), hu b _ (by omega), hu b _ (by omega), hu b _ (by omega)]
    exact iv_sc h b i hs h1 h2 h3
  · by_cases q : i = j
    · rw [q, up_e rfl]
      exact h2 (q ▸ h1)
    · rw [up_n q]
      exact (iv_ag h).1 i h1
  · rw [up_c (by omega), up_c (by omega)]
    exact (iv_ag h).2 b i hb h1 h2
theorem ir_8_2 (h : Iv u e P Q c) {j : Int} (hj : j % 5 = 2) : c 8 j ≤ 38 := (iv_ag h).1 j hj
theorem ir_so {a : Nat} (h : Iv u (-1) P Q c) (ha : Sg a) {t : Int} (h1 : 0 ≤ t) (h2 : t < 50) : (c a (5 * t) = 0 → c a (5 * t + 1) ≤ 3 ∧ c a (5 * t + 2) ≤ 5) ∧ (c a (5 * t) = 1 → c a (5 * t + 1) ≤ 3 ∧ c a (5 * t + 2) ≤ 5 ∧ c a (5 * t + 3) ≤ 5 ∧ c a (5 * t + 4) ≤ 5) ∧ (c a (5 * t) = 2 → c a (5 * t + 1) ≤ 5 ∧ c a (5 * t + 2) ≤ 5) ∧ (c a (5 * t) = 3 → c a (5 * t + 1) ≤ 5 ∧ c a (5 * t + 2) ≤ 5) ∧ (c a (5 * t) = 4 → c a (5 * t + 1) ≤ 3) ∧ (c a (5 * t) = 5 → c a (5 * t + 1) ≤ 5) := iv_sc h a t ha h1 h2 (by omega)
/-- the codes that are being told, and how high their pile is -/
noncomputable def Nw (c : ME) : Prop := Hw (c 50) (c 51) (c 41 29)
noncomputable def Nh (c : ME) : Int := hgt (c 50) (c 41 29).toNat
theorem nh_fr {c2 : ME} (h : Nw c) (h50 : ∀ j : Int, c2 50 j = c 50 j) (h51 : ∀ j : Int, c2 51 j = c 51 j) (h29 : c2 41 29 = c 41 29) : Nw c2 ∧ Nh c2 = Nh c := by
  have e1 : c2 50 = c 50 := funext h50
  have e2 : c2 51 = c 51 := funext h51
  unfold Nw Nh
  rw [e1, e2, h29]
  exact ⟨h, rfl⟩
theorem hgt_ext {f g : Int → Int} : ∀ n : Nat, (∀ m : Nat, m < n → f (m : Int) = g (m : Int)) → hgt f n = hgt g n
  | 0, _ => rfl
  | n + 1, h => by
    have ih := hgt_ext (f := f) (g := g) n (fun m hm => h m (by omega))
    unfold hgt
    rw [h n (by omega), ih]
theorem nh_emit {what of n : Int} (h : Nw c) (hc : c 41 29 = n) (hn : 0 ≤ n) (hop : what ≤ 1 ∨ 2 ≤ Nh c) (hof : what = 1 → of ≤ 7) : Nw (up (up (up c 50 n what) 51 n of) 41 29 (n + 1)) ∧ ((what ≤ 1 → Nh (up (up (up c 50 n what) 51 n of) 41 29 (n + 1)) = Nh c + 1) ∧ (2 ≤ what → Nh (up (up (up c 50 n what) 51 n of) 41 29 (n + 1)) = Nh c - 1)) := by
  obtain ⟨m, hm⟩ : ∃ m : Nat, (m : Int) = n := ⟨n.toNat, Int.toNat_of_nonneg hn⟩
  have f1 : ∀ j : Int, ¬ j = n → up (up (up c 50 n what) 51 n of) 41 29 (n + 1) 50 j = c 50 j := fun j hj => by
    rw [up_c (by omega), up_c (by omega), up_n hj]
  have f2 : up (up (up c 50 n what) 51 n of) 41 29 (n + 1) 50 n = what := by
    rw [up_c (by omega), up_c (by omega), up_e rfl]
  have g1 : ∀ j : Int, ¬ j = n → up (up (up c 50 n what) 51 n of) 41 29 (n + 1) 51 j = c 51 j := fun j hj => by
    rw [up_c (by omega), up_n hj, up_c (by omega)]
  have g2 : up (up (up c 50 n what) 51 n of) 41 29 (n + 1) 51 n = of := by
    rw [up_c (by omega), up_e rfl]
  have s1 : up (up (up c 50 n what) 51 n of) 41 29 (n + 1) 41 29 = n + 1 := up_e rfl
  have hx : ∀ q : Nat, (q : Int) ≤ n → hgt (up (up (up c 50 n what) 51 n of) 41 29 (n + 1) 50) q = hgt (c 50) q := fun q hq => hgt_ext q (fun t ht => f1 t (by omega))
  have hN : Nh c = hgt (c 50) m := by
    unfold Nh
    rw [hc, ← hm, Int.toNat_natCast]
  have hN2 : Nh (up (up (up c 50 n what) 51 n of) 41 29 (n + 1)) = hgt (up (up (up c 50 n what) 51 n of) 41 29 (n + 1) 50) (m + 1) := by
    unfold Nh
    rw [s1, ← hm]
    rfl
  have hst : hgt (up (up (up c 50 n what) 51 n of) 41 29 (n + 1) 50) (m + 1) = if what ≤ 1 then hgt (c 50) m + 1 else hgt (c 50) m - 1 := by
    show (if up (up (up c 50 n what) 51 n of) 41 29 (n + 1) 50 (m : Int) ≤ 1 then hgt _ m + 1 else hgt _ m - 1) = _
    rw [hm, f2, hx m (by omega)]
  refine ⟨?_, ?_, ?_⟩
  · intro q hq
    rw [s1] at hq
    by_cases e : (q : Int) = n
    · rw [e, f2, g2, hx q (by omega), show q = m by omega, ← hN]
      exact ⟨fun h2 => by omega, hof⟩
    · rw [f1 q e, g1 q e, hx q (by omega)]
      exact h q (by rw [hc]; omega)
  · intro h1
    rw [hN2, hst, if_pos h1, hN]
  · intro h1
    rw [hN2, hst, if_neg (by omega), hN]
theorem nw_zero (h : c 41 29 = 0) : Nw c ∧ Nh c = 0 := by
  refine ⟨fun m hm => by rw [h] at hm; omega, ?_⟩
  unfold Nh
  rw [h]
  rfl
theorem ir_hc (h : Iv u e P Q c) {k : Int} (h0 : 0 ≤ k) : k < c 41 30 → (2 ≤ c 52 k → 2 ≤ hgt (c 52) k.toNat) ∧ (c 52 k = 1 → c 53 k ≤ 7) := fun hk => by
  have q := iv_hc h k.toNat (by omega)
  rw [Int.toNat_of_nonneg h0] at q
  exact q
theorem hgt_s {f : Int → Int} {k : Int} (h0 : 0 ≤ k) : (f k ≤ 1 → hgt f (k + 1).toNat = hgt f k.toNat + 1) ∧ (2 ≤ f k → hgt f (k + 1).toNat = hgt f k.toNat - 1) := by
  obtain ⟨m, rfl⟩ : ∃ m : Nat, k = (m : Int) := ⟨k.toNat, (Int.toNat_of_nonneg h0).symm⟩
  rw [show ((m : Int) + 1).toNat = m + 1 by omega, Int.toNat_natCast]
  show (f m ≤ 1 → (if f m ≤ 1 then hgt f m + 1 else hgt f m - 1) = _) ∧ (2 ≤ f m → (if f m ≤ 1 then hgt f m + 1 else hgt f m - 1) = _)
  exact ⟨fun q => if_pos q, fun q => if_neg (by omega)⟩
theorem iw_codes0 (h : Iv u e P Q c) : Iv u e P Q (up c 41 30 0) := by
  refine ⟨iv_pq h, bx_up (iv_b h) (by show (0 : Int) ≤ 0 ∧ (0 : Int) ≤ 150; omega), ?_, sc_ext (iv_sc h) (fun b hs j => up_c (by unfold Sg at hs; omega)), ag_ext (iv_ag h) (fun b hs j => up_c (by unfold Sg at hs; omega)), lc_ext (iv_lc h) (fun b hs j => up_c (by unfold Lg at hs; omega)), pr_ext (iv_pr h) (fun j => up_c (by omega)), sk_ext (iv_sk h) (fun b hs j => up_c (by omega)), ?_⟩
  · intro b j hs hu
    have hc := rs_cell hs
    rw [up_c (by omega), up_c (by omega), up_c (by omega), up_c (by omega)]
    exact iv_r h b j hs hu
  · unfold Hc
    rw [up_e rfl]
    intro m hm
    omega
/-- the new law is kept -/
theorem iv_law {n : Int} (h : Iv u e P Q c) (hW : Nw c) (hc : c 41 29 = n) (hn : 0 ≤ n ∧ n ≤ 150) : Iv u e P Q (upc (upc (up c 41 30 n) 50 0 52 0 n) 51 0 53 0 n) := by
  have hu : ∀ (b : Nat) (i : Int), ¬ b = 52 → ¬ b = 53 → ¬ (b = 41 ∧ i = 30) → upc (upc (up c 41 30 n) 50 0 52 0 n) 51 0 53 0 n b i = c b i := fun b i h1 h2 h3 => (upc_c h2).trans ((upc_c h1).trans (up_b (by omega)))
  have h30 : upc (upc (up c 41 30 n) 50 0 52 0 n) 51 0 53 0 n 41 30 = n := (upc_c (by omega)).trans ((upc_c (by omega)).trans (up_e rfl))
  have h52 : ∀ i : Int, 0 ≤ i → i < n → upc (upc (up c 41 30 n) 50 0 52 0 n) 51 0 53 0 n 52 i = c 50 i := fun i h1 h2 => by
    rw [upc_c (by omega), upc_e (by omega), up_c (by omega), show (0 : Int) + (i - 0) = i by omega]
  have h53 : ∀ i : Int, 0 ≤ i → i < n → upc (upc (up c 41 30 n) 50 0 52 0 n) 51 0 53 0 n 53 i = c 51 i := fun i h1 h2 => by
    rw [upc_e (by omega), upc_c (by omega), up_c (by omega), show (0 : Int) + (i - 0) = i by omega]
  have g52 : ∀ i : Int, ¬ (0 ≤ i ∧ i < n) → upc (upc (up c 41 30 n) 50 0 52 0 n) 51 0 53 0 n 52 i = c 52 i := fun i h1 => by
    rw [upc_c (by omega), upc_n (by omega), up_c (by omega)]
  have g53 : ∀ i : Int, ¬ (0 ≤ i ∧ i < n) → upc (upc (up c 41 30 n) 50 0 52 0 n) 51 0 53 0 n 53 i = c 53 i := fun i h1 => by
    rw [upc_n (by omega), upc_c (by omega), up_c (by omega)]
  refine ⟨iv_pq h, ?_, ?_, sc_ext (iv_sc h) (fun b hs j => hu b j (by unfold Sg at hs; omega) (by unfold Sg at hs; omega) (by unfold Sg at hs; omega)), ag_ext (iv_ag h) (fun b hs j => hu b j (by unfold Sg at hs; omega) (by unfold Sg at hs; omega) (by unfold Sg at hs; omega)), lc_ext (iv_lc h) (fun b hs j => hu b j (by unfold Lg at hs; omega) (by unfold Lg at hs; omega) (by unfold Lg at hs; omega)), pr_ext (iv_pr h) (fun j => hu 10 j (by omega) (by omega) (by omega)), sk_ext (iv_sk h) (fun b hs j => hu b j (by omega) (by omega) (by omega)), ?_⟩
  · intro b i hn9
    by_cases e1 : b = 52
    · subst e1
      by_cases e2 : 0 ≤ i ∧ i < n
      · rw [h52 i e2.1 e2.2]
        exact iv_b h 50 i (by omega)
      · rw [g52 i e2]
        exact iv_b h 52 i hn9
    · by_cases e3 : b = 53
      · subst e3
        by_cases e2 : 0 ≤ i ∧ i < n
        · rw [h53 i e2.1 e2.2]
          exact iv_b h 51 i (by omega)
        · rw [g53 i e2]
          exact iv_b h 53 i hn9
      · by_cases e4 : b = 41 ∧ i = 30
        · rw [e4.1, e4.2, h30]
          exact hn
        · rw [hu b i e1 e3 e4]
          exact iv_b h b i hn9
  · intro b j hs h0
    have hc9 := rs_cell hs
    rw [hu b _ (by omega) (by omega) (by omega), hu b _ (by omega) (by omega) (by omega), hu b _ (by omega) (by omega) (by omega), hu b _ (by omega) (by omega) (by omega)]
    exact iv_r h b j hs h0
  · intro m hm
    rw [h30] at hm
    have q := hW m (by omega)
    rw [h52 m (by omega) hm, h53 m (by omega) hm, hgt_ext (g := c 50) m (fun t ht => h52 t (by omega) (by omega))]
    exact q
/-- a step is told -/
theorem iw_tells {n w x y z t : Int} (h : Iv u e P Q c) (hn : 0 ≤ n ∧ n ≤ 245) (h5 : n % 5 = 0) (hs : So w x y z t) (hb : ((0 ≤ w ∧ w ≤ 999) ∧ (0 ≤ x ∧ x ≤ 999) ∧ (0 ≤ y ∧ y ≤ 999) ∧ (0 ≤ z ∧ z ≤ 999) ∧ 0 ≤ t ∧ t ≤ 999) ∧ (w = 7 → y = 0)) : Iv u e P Q (up (up (up (up (up (up c 56 n w) 56 (n + 1) x) 56 (n + 2) y) 56 (n + 3) z) 56 (n + 4) t) 41 34 (n + 5)) := by
  have hu : ∀ (b : Nat) (i : Int), ¬ (b = 56 ∧ n ≤ i ∧ i ≤ n + 4) → ¬ (b = 41 ∧ i = 34) → up (up (up (up (up (up c 56 n w) 56 (n + 1) x) 56 (n + 2) y) 56 (n + 3) z) 56 (n + 4) t) 41 34 (n + 5) b i = c b i := fun b i h1 h2 => (up_b (by omega)).trans ((up_b (by omega)).trans ((up_b (by omega)).trans ((up_b (by omega)).trans ((up_b (by omega)).trans (up_b (by omega))))))
  obtain ⟨m, hm⟩ : ∃ m : Int, n = 5 * m := ⟨n / 5, by omega⟩
  subst hm
  have e0 : up (up (up (up (up (up c 56 (5 * m) w) 56 (5 * m + 1) x) 56 (5 * m + 2) y) 56 (5 * m + 3) z) 56 (5 * m + 4) t) 41 34 (5 * m + 5) 56 (5 * m) = w := (up_c (by omega)).trans ((up_n (by omega)).trans ((up_n (by omega)).trans ((up_n (by omega)).trans ((up_n (by omega)).trans (up_e rfl)))))
  have e1 : up (up (up (up (up (up c 56 (5 * m) w) 56 (5 * m + 1) x) 56 (5 * m + 2) y) 56 (5 * m + 3) z) 56 (5 * m + 4) t) 41 34 (5 * m + 5) 56 (5 * m + 1) = x := (up_c (by omega)).trans ((up_n (by omega)).trans ((up_n (by omega)).trans ((up_n (by omega)).trans (up_e rfl))))
  have e2 : up (up (up (up (up (up c 56 (5 * m) w) 56 (5 * m + 1) x) 56 (5 * m + 2) y) 56 (5 * m + 3) z) 56 (5 * m + 4) t) 41 34 (5 * m + 5) 56 (5 * m + 2) = y := (up_c (by omega)).trans ((up_n (by omega)).trans ((up_n (by omega)).trans (up_e rfl)))
  have e3 : up (up (up (up (up (up c 56 (5 * m) w) 56 (5 * m + 1) x) 56 (5 * m + 2) y) 56 (5 * m + 3) z) 56 (5 * m + 4) t) 41 34 (5 * m + 5) 56 (5 * m + 3) = z := (up_c (by omega)).trans ((up_n (by omega)).trans (up_e rfl))
  have e4 : up (up (up (up (up (up c 56 (5 * m) w) 56 (5 * m + 1) x) 56 (5 * m + 2) y) 56 (5 * m + 3) z) 56 (5 * m + 4) t) 41 34 (5 * m + 5) 56 (5 * m + 4) = t := (up_c (by omega)).trans (up_e rfl)
  obtain ⟨⟨b0, b1, b2, b3, b4⟩, b7⟩ := hb
  refine ⟨iv_pq h, ?_, ?_, ?_, ⟨?_, ?_⟩, lc_ext (iv_lc h) (fun b hs j => hu b j (by unfold Lg at hs; omega) (by unfold Lg at hs; omega)), pr_ext (iv_pr h) (fun j => hu 10 j (by omega) (by omega)), sk_ext (iv_sk h) (fun b hs j => hu b j (by omega) (by omega)), hc_ext (iv_hc h) (fun b j hs => hu b j (by omega) (by omega))⟩
  · exact bx_up (bx_up (bx_up (bx_up (bx_up (bx_up (iv_b h) b0) b1) b2) b3) b4) (show (0 : Int) ≤ 5 * m + 5 ∧ 5 * m + 5 ≤ 250 by omega)
  · intro b j hs h0
    have hc9 := rs_cell hs
    rw [hu b _ (by omega) (by omega), hu b _ (by omega) (by omega), hu b _ (by omega) (by omega), hu b _ (by omega) (by omega)]
    exact iv_r h b j hs h0
  · intro b i hg h1 h2 h3
    by_cases q : b = 56 ∧ i = m
    · rw [q.1, q.2, e0, e1, e2, e3, e4]
      exact hs
    · unfold Sg at hg
      rw [hu b _ (by omega) (by omega), hu b _ (by omega) (by omega), hu b _ (by omega) (by omega), hu b _ (by omega) (by omega), hu b _ (by omega) (by omega)]
      exact iv_sc h b i hg h1 h2 h3
  · intro i hi
    rw [hu 8 i (by omega) (by omega)]
    exact (iv_ag h).1 i hi
  · intro b i hb9 h1 h2
    by_cases q : b = 56 ∧ i = m
    · rw [q.1, q.2, e0, e2]
      intro h7
      have := b7 h7
      omega
    · rw [hu b _ (by omega) (by omega), hu b _ (by omega) (by omega)]
      exact (iv_ag h).2 b i hb9 h1 h2
/-- where an again ends -/
theorem iw_again {n v : Int} (h : Iv u e P Q c) (hn : 0 ≤ n ∧ n ≤ 245) (h5 : n % 5 = 0) (h7 : c 56 n = 7) (hv : 0 ≤ v ∧ v ≤ 250 ∧ v % 5 = 0) : Iv u e P Q (up c 56 (n + 2) v) := by
  obtain ⟨m, hm⟩ : ∃ m : Int, n = 5 * m := ⟨n / 5, by omega⟩
  subst hm
  have hu : ∀ (b : Nat) (i : Int), ¬ (b = 56 ∧ i = 5 * m + 2) → up c 56 (5 * m + 2) v b i = c b i := fun b i h1 => up_b (by omega)
  refine ⟨iv_pq h, bx_up (iv_b h) (show (0 : Int) ≤ v ∧ v ≤ 999 by omega), ?_, ?_, ⟨?_, ?_⟩, lc_ext (iv_lc h) (fun b hs j => hu b j (by unfold Lg at hs; omega)), pr_ext (iv_pr h) (fun j => hu 10 j (by omega)), sk_ext (iv_sk h) (fun b hs j => hu b j (by omega)), hc_ext (iv_hc h) (fun b j hs => hu b j (by omega))⟩
  · intro b j hs h0
    have hc9 := rs_cell hs
    rw [hu b _ (by omega), hu b _ (by omega), hu b _ (by omega), hu b _ (by omega)]
    exact iv_r h b j hs h0
  · intro b i hg h1 h2 h3
    by_cases q : b = 56 ∧ i = m
    · rw [q.1, q.2, hu 56 (5 * m) (by omega), h7]
      unfold So
      omega
    · unfold Sg at hg
      rw [hu b _ (by omega), hu b _ (by omega), hu b _ (by omega), hu b _ (by omega), hu b _ (by omega)]
      exact iv_sc h b i hg h1 h2 h3
  · intro i hi
    rw [hu 8 i (by omega)]
    exact (iv_ag h).1 i hi
  · intro b i hb9 h1 h2
    by_cases q : b = 56 ∧ i = m
    · rw [q.1, q.2, up_e rfl]
      intro _
      omega
    · rw [hu b _ (by omega), hu b _ (by omega)]
      exact (iv_ag h).2 b i hb9 h1 h2
theorem ir_ag {a : Nat} (h : Iv u e P Q c) (ha : a = 56 ∨ a = 57) {t : Int} (h1 : 0 ≤ t) (h2 : t < 50) : c a (5 * t) = 7 → (c a (5 * t + 2) ≤ 250 ∧ c a (5 * t + 2) % 5 = 0) ∧ (a = 57 → 5 * t + 5 ≤ c a (5 * t + 2)) := (iv_ag h).2 a t ha h1 h2
/-- each again among these places ends behind itself -/
noncomputable def Ap (c : ME) (a : Nat) (lo hi : Int) : Prop := ∀ i : Int, lo ≤ 5 * i → 5 * i < hi → c a (5 * i) = 7 → 5 * i + 5 ≤ c a (5 * i + 2)
theorem ap_nil {a : Nat} {lo hi : Int} (h : hi ≤ lo) : Ap c a lo hi := fun i h1 h2 => by omega
theorem ap_fr {c2 : ME} {a : Nat} {lo hi lo2 hi2 : Int} (h : Ap c a lo hi) (h5 : hi % 5 = 0) (hl : lo2 = lo) (hh : hi2 = hi) (he : ∀ j : Int, lo ≤ j → j < hi → c2 a j = c a j) : Ap c2 a lo2 hi2 := fun i h1 h2 => by
  rw [he _ (by omega) (by omega), he _ (by omega) (by omega)]
  exact h i (by omega) (by omega)
theorem ap_join {a : Nat} {lo m m2 hi : Int} (h : Ap c a lo m) (hm : m2 = m) (h2 : Ap c a m2 hi) : Ap c a lo hi := fun i q1 q2 => by
  by_cases q : 5 * i < m
  · exact h i q1 q
  · exact h2 i (by omega) q2
theorem ap_one {a : Nat} {lo hi : Int} (h7 : ¬ c a lo = 7) (h5 : lo % 5 = 0) (hh : hi = lo + 5) : Ap c a lo hi := fun i h1 h2 => by
  have q : 5 * i = lo := by omega
  rw [q]
  intro z
  exact absurd z h7
theorem ap_end {c2 : ME} {a : Nat} {lo hi lo2 hi2 : Int} (h : Ap c a (lo + 5) hi) (h5 : hi % 5 = 0 ∧ lo % 5 = 0) (hl : lo2 = lo) (hh : hi2 = hi) (h2 : lo + 5 ≤ c2 a (lo + 2)) (he : ∀ j : Int, lo + 5 ≤ j → j < hi → c2 a j = c a j) : Ap c2 a lo2 hi2 := fun i q1 q2 => by
  by_cases q : 5 * i = lo
  · rw [q]
    exact fun _ => h2
  · rw [he _ (by omega) (by omega), he _ (by omega) (by omega)]
    exact h i (by omega) (by omega)
theorem cp_56_57 {n : Int} (h : Iv u e P Q c) (h5 : n % 5 = 0) (hA : Ap c 56 0 n) : Iv u e P Q (upc c 56 0 57 0 n) := by
  have hu : ∀ (b : Nat) (i : Int), ¬ b = 57 → upc c 56 0 57 0 n b i = c b i := fun b i h1 => upc_c h1
  have h9 : ∀ i : Int, 0 ≤ i → i < n → upc c 56 0 57 0 n 57 i = c 56 i := fun i h1 h2 => by
    rw [upc_e (by omega), show (0 : Int) + (i - 0) = i by omega]
  have g9 : ∀ i : Int, ¬ (0 ≤ i ∧ i < n) → upc c 56 0 57 0 n 57 i = c 57 i := fun i h1 => upc_n (by omega)
  refine ⟨iv_pq h, ?_, ?_, ?_, ⟨?_, ?_⟩, lc_ext (iv_lc h) (fun b hs j => hu b j (by unfold Lg at hs; omega)), pr_ext (iv_pr h) (fun j => hu 10 j (by omega)), sk_ext (iv_sk h) (fun b hs j => hu b j (by omega)), hc_ext (iv_hc h) (fun b j hs => hu b j (by omega))⟩
  · intro b i hn9
    by_cases e1 : b = 57
    · subst e1
      by_cases e2 : 0 ≤ i ∧ i < n
      · rw [h9 i e2.1 e2.2]
        exact iv_b h 56 i (by omega)
      · rw [g9 i e2]
        exact iv_b h 57 i hn9
    · rw [hu b i e1]
      exact iv_b h b i hn9
  · intro b j hs h0
    have hc9 := rs_cell hs
    rw [hu b _ (by omega), hu b _ (by omega), hu b _ (by omega), hu b _ (by omega)]
    exact iv_r h b j hs h0
  · intro b i hg h1 h2 h3
    by_cases q : b = 57
    · subst q
      by_cases e2 : 5 * i < n
      · rw [h9 _ (by omega) (by omega), h9 _ (by omega) (by omega), h9 _ (by omega) (by omega), h9 _ (by omega) (by omega), h9 _ (by omega) (by omega)]
        exact iv_sc h 56 i (by unfold Sg; omega) h1 h2 (by omega)
      · rw [g9 _ (by omega), g9 _ (by omega), g9 _ (by omega), g9 _ (by omega), g9 _ (by omega)]
        exact iv_sc h 57 i hg h1 h2 h3
    · rw [hu b _ q, hu b _ q, hu b _ q, hu b _ q, hu b _ q]
      exact iv_sc h b i hg h1 h2 h3
  · intro i hi
    rw [hu 8 i (by omega)]
    exact (iv_ag h).1 i hi
  · intro b i hb9 h1 h2
    by_cases q : b = 57
    · subst q
      by_cases e2 : 5 * i < n
      · rw [h9 _ (by omega) (by omega), h9 _ (by omega) (by omega)]
        exact fun z => ⟨((iv_ag h).2 56 i (by omega) h1 h2 z).1, fun _ => hA i (by omega) e2 z⟩
      · rw [g9 _ (by omega), g9 _ (by omega)]
        exact (iv_ag h).2 57 i hb9 h1 h2
    · rw [hu b _ q, hu b _ q]
      exact (iv_ag h).2 b i hb9 h1 h2
theorem iw_p0_4 {v : Int} (h : Iv u e P Q c) (hA : A = 13 ∨ A = 25) (hv : 0 ≤ v ∧ v ≤ 8) (hx : ∀ j : Int, 0 ≤ j → j < v → 0 ≤ c (A + 4) j ∧ c (A + 4) j ≤ 3) : Iv u e P Q (up c A 4 v) := by
  refine ⟨iv_pq h, bx_up (iv_b h) (by rcases hA with rfl | rfl <;> exact hv), ?_, sc_ext (iv_sc h) (fun b hs j => up_c (by unfold Sg at hs; omega)), ag_ext (iv_ag h) (fun b hs j => up_c (by unfold Sg at hs; omega)), lc_ext (iv_lc h) (fun b hs j => up_c (by unfold Lg at hs; omega)), pr_ext (iv_pr h) (fun j => up_c (by omega)), ?_, hc_ext (iv_hc h) (fun b j hs => up_c (by omega))⟩
  · intro b j hs hu
    have hc := rs_cell hs
    rw [up_c (by omega), up_c (by omega), up_c (by omega), up_c (by omega)]
    exact iv_r h b j hs hu
  · intro b j hb h1 h2
    rw [up_c (by omega)]
    by_cases e : b = A
    · subst e
      rw [up_e rfl] at h2
      exact hx j h1 h2
    · rw [up_c e] at h2
      exact iv_sk h b j hb h1 h2
theorem ir_s_r {s sh : Nat} (h : Iv u e P Q c) (hs : (sh = 37 ∧ s = 38) ∨ (sh = 39 ∧ s = 40)) (hu : ¬ s = u) {j : Int} (hj : 0 ≤ j ∧ j ≤ 5) : c s (4 * j) + c s (4 * j + 1) + c s (4 * j + 2) + c s (4 * j + 3) ≤ 9999 :=
  iv_r h s (4 * j) (by rcases hs with ⟨-, rfl⟩ | ⟨-, rfl⟩ <;> (simp only [ri_38, ri_40]; omega)) hu
theorem iw_lg {a : Nat} {j v : Int} (h : Iv u e P Q c) (ha : Lg a) (hv : -2147483648 ≤ v ∧ v ≤ 2147483647) (hx : v < 1008 ∨ 2000 ≤ v) : Iv u e P Q (up c a j v) := by
  have hu : ∀ (b : Nat) (i : Int), ¬ b = a → up c a j v b i = c b i := fun b i hb => up_c hb
  have hl : a = 21 ∨ a = 22 ∨ a = 33 ∨ a = 34 := ha
  refine ⟨iv_pq h, bx_up (iv_b h) (by rcases hl with rfl | rfl | rfl | rfl <;> exact hv), ?_, ?_, ?_, ?_, ?_, ?_, ?_⟩
  · intro b i hr hu9
    have hc := rs_cell hr
    rw [hu b _ (by omega), hu b _ (by omega), hu b _ (by omega), hu b _ (by omega)]
    exact iv_r h b i hr hu9
  · intro b i hs h1 h2 h3
    unfold Sg at hs
    rw [hu b _ (by omega), hu b _ (by omega), hu b _ (by omega), hu b _ (by omega), hu b _ (by omega)]
    exact iv_sc h b i hs h1 h2 h3
  · refine ⟨fun i h1 => ?_, fun b i hb h1 h2 => ?_⟩
    · rw [hu 8 _ (by omega)]
      exact (iv_ag h).1 i h1
    · rw [hu b _ (by omega), hu b _ (by omega)]
      exact (iv_ag h).2 b i hb h1 h2
  · intro b i hb
    by_cases e : b = a ∧ i = j
    · rw [e.1, e.2, up_e rfl]
      exact hx
    · rw [up_b (by omega)]
      exact iv_lc h b i hb
  · intro i
    rw [hu 10 _ (by omega)]
    exact iv_pr h i
  · intro b i hb h1 h2
    rw [hu b _ (by omega)] at h2
    rw [hu (b + 4) _ (by omega)]
    exact iv_sk h b i hb h1 h2
  · have e1 : up c a j v 52 = c 52 := funext (fun i => hu 52 i (by omega))
    have e2 : up c a j v 53 = c 53 := funext (fun i => hu 53 i (by omega))
    unfold Hc
    rw [e1, e2, hu 41 30 (by omega)]
    exact iv_hc h
theorem iw_10 {j v : Int} (h : Iv u e P Q c) (hv : 0 ≤ v ∧ v ≤ 35) (hx : v % 10 ≤ 5) : Iv u e P Q (up c 10 j v) := by
  have hu : ∀ (b : Nat) (i : Int), ¬ b = 10 → up c 10 j v b i = c b i := fun b i hb => up_c hb
  refine ⟨iv_pq h, bx_up (iv_b h) hv, ?_, ?_, ?_, ?_, ?_, ?_, ?_⟩
  · intro b i hr hu9
    have hc := rs_cell hr
    rw [hu b _ (by omega), hu b _ (by omega), hu b _ (by omega), hu b _ (by omega)]
    exact iv_r h b i hr hu9
  · intro b i hs h1 h2 h3
    unfold Sg at hs
    rw [hu b _ (by omega), hu b _ (by omega), hu b _ (by omega), hu b _ (by omega), hu b _ (by omega)]
    exact iv_sc h b i hs h1 h2 h3
  · refine ⟨fun i h1 => ?_, fun b i hb h1 h2 => ?_⟩
    · rw [hu 8 _ (by omega)]
      exact (iv_ag h).1 i h1
    · rw [hu b _ (by omega), hu b _ (by omega)]
      exact (iv_ag h).2 b i hb h1 h2
  · intro b i hb
    unfold Lg at hb
    rw [hu b _ (by omega)]
    exact iv_lc h b i hb
  · intro i
    by_cases e : i = j
    · rw [e, up_e rfl]
      exact hx
    · rw [up_b (Or.inr e)]
      exact iv_pr h i
  · intro b i hb h1 h2
    rw [hu b _ (by omega)] at h2
    rw [hu (b + 4) _ (by omega)]
    exact iv_sk h b i hb h1 h2
  · have e1 : up c 10 j v 52 = c 52 := funext (fun i => hu 52 i (by omega))
    have e2 : up c 10 j v 53 = c 53 := funext (fun i => hu 53 i (by omega))
    unfold Hc
    rw [e1, e2, hu 41 30 (by omega)]
    exact iv_hc h
/-- so many places of a row come to another row -/
theorem iw_upc {s t : Nat} {sp dp n : Int} (h : Iv 0 e P Q c) (ht : Rc t) (hb : ∀ j : Int, dp ≤ j → j < dp + n → blo t j ≤ c s (sp + (j - dp)) ∧ c s (sp + (j - dp)) ≤ bhi t j) (hr : ∀ j : Int, rs t j → (dp ≤ j ∧ j + 3 < dp + n ∧ rs s (sp + (j - dp)) ∧ ¬ s = 0) ∨ j + 3 < dp ∨ dp + n ≤ j) : Iv 0 e P Q (upc c s sp t dp n) := by
  refine iv_row (a := t) h ht (fun b j hb9 => upc_c hb9) ?_ ?_
  · intro b j hn
    by_cases e : b = t
    · subst e
      by_cases e2 : dp ≤ j ∧ j < dp + n
      · rw [upc_e e2]
        exact hb j e2.1 e2.2
      · rw [upc_n e2]
        exact iv_b h b j hn
    · rw [upc_c e]
      exact iv_b h b j hn
  · intro b j hs h0 he
    have e : b = t := by omega
    subst e
    rcases hr j hs with h1 | h1
    · rw [upc_e (by omega), upc_e (by omega), upc_e (by omega), upc_e (by omega)]
      have q := iv_r h s (sp + (j - dp)) h1.2.2.1 h1.2.2.2
      rw [show sp + (j + 1 - dp) = sp + (j - dp) + 1 by omega, show sp + (j + 2 - dp) = sp + (j - dp) + 2 by omega, show sp + (j + 3 - dp) = sp + (j - dp) + 3 by omega]
      exact q
    · rw [upc_n (by omega), upc_n (by omega), upc_n (by omega), upc_n (by omega)]
      exact iv_r h b j hs h0
theorem cp_38_40 (h : Iv 0 e P Q c) : Iv 0 e P Q (upc c 38 0 40 0 34) :=
  iw_upc h (by unfold Rc; omega) (fun j h1 h2 => bx_40 (fun e => ir_38_g h (by omega)) (ir_38 h _)) (fun j hs => by
    simp only [ri_38, ri_40] at hs ⊢
    omega)
theorem cp_38_4 {w i : Int} (h : Iv 0 e P Q c) (hw : w = 34 * i) (hi : 0 ≤ i ∧ i < 16) : Iv 0 e P Q (upc c 38 0 4 w 34) :=
  iw_upc h (by unfold Rc; omega) (fun j h1 h2 => bx_4 (fun e => ir_38_g h (by omega)) (ir_38 h _)) (fun j hs => by
    simp only [ri_38, ri_4] at hs ⊢
    rcases Int.lt_trichotomy (j / 34) i with h8 | h8 | h8 <;> omega)
theorem cp_4_38 {w i : Int} (h : Iv 0 e P Q c) (hw : w = 34 * i) (hi : 0 ≤ i ∧ i < 16) : Iv 0 e P Q (upc c 4 w 38 0 34) :=
  iw_upc h (by unfold Rc; omega) (fun j h1 h2 => bx_38 (fun e => ir_4_g h (by omega)) (ir_4 h _)) (fun j hs => by
    simp only [ri_4, ri_38] at hs ⊢
    have h8 : (w + (j - 0)) / 34 = i := by omega
    omega)
theorem cp_38_5 {w i : Int} (h : Iv 0 e P Q c) (hw : w = 578 * i) (hi : 0 ≤ i ∧ i < 3) : Iv 0 e P Q (upc c 38 0 5 w 34) :=
  iw_upc h (by unfold Rc; omega) (fun j h1 h2 => bx_5 (fun e => ir_38_g h (by omega)) (ir_38 h _)) (fun j hs => by
    simp only [ri_38, ri_5] at hs ⊢
    rcases Int.lt_trichotomy (j / 34) (17 * i) with h8 | h8 | h8 <;> omega)
theorem cp_5_38 {w i : Int} (h : Iv 0 e P Q c) (hw : w = 578 * i) (hi : 0 ≤ i ∧ i < 3) : Iv 0 e P Q (upc c 5 w 38 0 34) :=
  iw_upc h (by unfold Rc; omega) (fun j h1 h2 => bx_38 (fun e => ir_5_g h (by omega)) (ir_5 h _)) (fun j hs => by
    simp only [ri_5, ri_38] at hs ⊢
    have h8 : (w + (j - 0)) / 34 = 17 * i := by omega
    omega)
theorem cp_4_5 {w i n k : Int} (h : Iv 0 e P Q c) (hw : w = 578 * i + 34) (hi : 0 ≤ i ∧ i < 3) (hn : n = 34 * k) (hk : 0 ≤ k ∧ k ≤ 16) : Iv 0 e P Q (upc c 4 0 5 w n) :=
  iw_upc h (by unfold Rc; omega) (fun j h1 h2 => bx_5 (fun e => ir_4_g h (by omega)) (ir_4 h _)) (fun j hs => by
    simp only [ri_4, ri_5] at hs ⊢
    have h8 : (0 + (j - w)) / 34 = j / 34 - 17 * i - 1 := by omega
    by_cases h9 : j / 34 < 17 * i + 1
    · omega
    · by_cases h7 : j / 34 < 17 * i + 1 + k <;> omega)
theorem cp_5_4 {w i n k : Int} (h : Iv 0 e P Q c) (hw : w = 578 * i + 34) (hi : 0 ≤ i ∧ i < 3) (hn : n = 34 * k) (hk : 0 ≤ k ∧ k ≤ 16) : Iv 0 e P Q (upc c 5 w 4 0 n) :=
  iw_upc h (by unfold Rc; omega) (fun j h1 h2 => bx_4 (fun e => ir_5_g h (by omega)) (ir_5 h _)) (fun j hs => by
    simp only [ri_5, ri_4] at hs ⊢
    have h8 : (w + (j - 0)) / 34 = 17 * i + 1 + j / 34 := by omega
    by_cases h7 : j / 34 < k <;> omega)
theorem ir_p4_x (h : Iv u e P Q c) (hA : A = 13 ∨ A = 25) {j : Int} (h1 : 0 ≤ j) (h2 : j < c A 4) : 0 ≤ c (A + 4) j ∧ c (A + 4) j ≤ 3 := iv_sk h A j hA h1 h2
/-- places of plain cells come to other ones -/
theorem iw_upcp {s t : Nat} {sp dp n : Int} (h : Iv u e P Q c) (hn : ∀ j : Int, Ns t j) (hb : ∀ j : Int, dp ≤ j → j < dp + n → blo t j ≤ c s (sp + (j - dp)) ∧ c s (sp + (j - dp)) ≤ bhi t j) : Iv u e P Q (upc c s sp t dp n) := by
  refine iv_ext h ?_ (fun b j hb9 => upc_c (fun e => hb9 (e ▸ hn j)))
  intro b j hn9
  by_cases e : b = t
  · subst e
    by_cases e2 : dp ≤ j ∧ j < dp + n
    · rw [upc_e e2]
      exact hb j e2.1 e2.2
    · rw [upc_n e2]
      exact iv_b h b j hn9
  · rw [upc_c e]
    exact iv_b h b j hn9
theorem cp_58_59 (h : Iv 0 e P Q c) : Iv 0 e P Q (upc c 58 0 59 0 37) :=
  iw_upc h (by unfold Rc; omega) (fun j h1 h2 => bx_59 (fun e => ir_58_g h (by omega)) (ir_58 h _)) (fun j hs => by
    simp only [ri_58, ri_59] at hs ⊢
    omega)
theorem cp_59_58 (h : Iv 0 e P Q c) : Iv 0 e P Q (upc c 59 0 58 0 37) :=
  iw_upc h (by unfold Rc; omega) (fun j h1 h2 => bx_58 (fun e => ir_59_g h (by omega)) (ir_59 h _)) (fun j hs => by
    simp only [ri_58, ri_59] at hs ⊢
    omega)
theorem cp_44_47 (h : Iv u e P Q c) : Iv u e P Q (upc c 44 0 47 0 24) := iw_upcp h (fun j => by unfold Ns; omega) (fun j _ _ => iv_b h _ _ (by omega))
theorem cp_45_48 (h : Iv u e P Q c) : Iv u e P Q (upc c 45 0 48 0 12) := iw_upcp h (fun j => by unfold Ns; omega) (fun j _ _ => iv_b h _ _ (by omega))
theorem cp_46_49 (h : Iv u e P Q c) : Iv u e P Q (upc c 46 0 49 0 4) := iw_upcp h (fun j => by unfold Ns; omega) (fun j _ _ => iv_b h _ _ (by omega))
theorem cp_61_62 (h : Iv u e P Q c) : Iv u e P Q (upc c 61 0 62 0 8) := iw_upcp h (fun j => by unfold Ns; omega) (fun j _ _ => iv_b h _ _ (by omega))
theorem cp_63_64 (h : Iv u e P Q c) : Iv u e P Q (upc c 63 0 64 0 4) := iw_upcp h (fun j => by unfold Ns; omega) (fun j _ _ => iv_b h _ _ (by omega))
theorem cp_58_66 {w i : Int} (h : Iv 0 e P Q c) (hw : w = 630 * i) (hi : 0 ≤ i ∧ i < 3) : Iv 0 e P Q (upc c 58 0 66 w 37) :=
  iw_upc h (by unfold Rc; omega) (fun j h1 h2 => bx_66 (fun e => ir_58_g h (by have h8 : j / 630 = i := (by omega); omega)) (fun e => by have h8 : j / 630 = i := (by omega); omega) (ir_58 h _)) (fun j hs => by
    simp only [ri_58, ri_66] at hs ⊢
    obtain ⟨h0, h1, h2, h3⟩ := hs
    have h5 : j % 630 / 37 ≤ 16 := by omega
    have h6 : 0 ≤ j % 630 / 37 := by omega
    rcases Int.lt_trichotomy (j / 630) i with h8 | h8 | h8
    · right; left; omega
    · by_cases h7 : j % 630 / 37 = 0
      · left; exact ⟨by omega, by omega, by omega, by omega⟩
      · right; right; omega
    · right; right; omega)
theorem cp_66_58 {w i : Int} (h : Iv 0 e P Q c) (hw : w = 630 * i) (hi : 0 ≤ i ∧ i < 3) : Iv 0 e P Q (upc c 66 w 58 0 37) :=
  iw_upc h (by unfold Rc; omega) (fun j h1 h2 => bx_58 (fun e => ir_66_g h (by have h8 : (w + (j - 0)) / 630 = i := (by omega); omega)) (ir_66 h _)) (fun j hs => by
    simp only [ri_58, ri_66] at hs ⊢
    left
    have h8 : (w + (j - 0)) / 630 = i := by omega
    have h9 : (w + (j - 0)) % 630 = j := by omega
    have h10 : j % 37 = j := by omega
    rw [h9, h10]
    exact ⟨by omega, by omega, by omega, by omega⟩)
theorem cp_60_66 {w i : Int} (h : Iv 0 e P Q c) (hw : w = 630 * i + 37) (hi : 0 ≤ i ∧ i < 3) : Iv 0 e P Q (upc c 60 0 66 w 592) :=
  iw_upc h (by unfold Rc; omega) (fun j h1 h2 => bx_66 (fun e => ir_60_g h (by have h8 : j / 630 = i := (by omega); omega)) (fun e => by have h8 : j / 630 = i := (by omega); omega) (ir_60 h _)) (fun j hs => by
    simp only [ri_60, ri_66] at hs ⊢
    obtain ⟨h0, h1, h2, h3⟩ := hs
    have h5 : j % 630 / 37 ≤ 16 := by omega
    have h6 : 0 ≤ j % 630 / 37 := by omega
    rcases Int.lt_trichotomy (j / 630) i with h8 | h8 | h8
    · right; left; omega
    · by_cases h7 : j % 630 / 37 = 0
      · right; left; omega
      · left
        have h9 : (0 + (j - w)) / 37 = j % 630 / 37 - 1 := by omega
        exact ⟨by omega, by omega, by omega, by omega⟩
    · right; right; omega)
theorem cp_66_60 {w i : Int} (h : Iv 0 e P Q c) (hw : w = 630 * i + 37) (hi : 0 ≤ i ∧ i < 3) : Iv 0 e P Q (upc c 66 w 60 0 592) :=
  iw_upc h (by unfold Rc; omega) (fun j h1 h2 => bx_60 (fun e => ir_66_g h (by have h8 : (w + (j - 0)) / 630 = i := (by omega); omega)) (ir_66 h _)) (fun j hs => by
    simp only [ri_60, ri_66] at hs ⊢
    by_cases h7 : j < 592
    · left
      have h5 : j / 37 ≤ 15 := by omega
      have h8 : (w + (j - 0)) / 630 = i := by omega
      have h9 : (w + (j - 0)) % 630 = 37 + j := by omega
      have h10 : (37 + j) % 37 = j % 37 := by omega
      rw [h9, h10]
      exact ⟨by omega, by omega, by omega, by omega⟩
    · right; right; omega)
theorem iw_60 {j v : Int} (h : Iv 60 e P Q c) (hg : j % 37 < 24 → 0 ≤ v ∧ v ≤ 9999) (hv : -2147483648 ≤ v ∧ v ≤ 2147483647) : Iv 60 e P Q (up c 60 j v) :=
  iv_row (a := 60) h (by unfold Rc; omega) (fun b i hb => up_c hb) (bx_up (iv_b h) (bx_60 hg hv)) (fun b i hs hbu hb => absurd (by omega) hbu)
theorem iw_lx {a : Nat} {j v : Int} (h : Iv u e P Q c) (ha : a = 65 ∨ a = 67) : Iv u e P Q (up c a j v) := by
  refine iv_ext h ?_ (fun b i hb => up_b (by unfold Ns at hb; omega))
  intro b i hb
  rw [up_c (by omega)]
  exact iv_b h b i hb
theorem iv_pt {c2 : ME} {a : Nat} {j : Int} (h : Iv u e P Q c) (he : ∀ (b : Nat) (i : Int), ¬ (b = a ∧ i = j) → c2 b i = c b i) (hn : Ns a j) (hv : blo a j ≤ c2 a j ∧ c2 a j ≤ bhi a j) : Iv u e P Q c2 := by
  refine iv_ext h ?_ (fun b i hb => he b i (fun q => hb (by rw [q.1, q.2]; exact hn)))
  intro b i hb
  by_cases q : b = a ∧ i = j
  · rw [q.1, q.2]
    exact hv
  · rw [he b i q]
    exact iv_b h b i hb
theorem iv_65 {c2 : ME} (h : Iv u e P Q c) (he : ∀ a : Nat, ¬ a = 65 → c2 a = c a) : Iv u e P Q c2 := by
  refine iv_ext h ?_ (fun b i hb => by rw [he b (by unfold Ns at hb; omega)])
  intro b i hb
  rw [he b (by omega)]
  exact iv_b h b i hb
theorem fe_ext32 {c c' : ME} {a : Nat} : ∀ {fl : List (Option Nat)} {m : Nat}, (∀ j : Int, Int32.ofInt (c a j) = Int32.ofInt (c' a j)) → fe c a m fl = fe c' a m fl
  | [], _, _ => rfl
  | none :: r, m, h => by
    show vi (c a m) :: fe c a (m + 1) r = vi (c' a m) :: fe c' a (m + 1) r
    unfold vi
    rw [h m, fe_ext32 h]
  | some t :: r, m, h => by
    show Value.ref t :: fe c a (m + 1) r = Value.ref t :: fe c' a (m + 1) r
    rw [fe_ext32 h]
/-- an int of the memory may stand as the number in its range -/
theorem wd_nrm {N T a : Nat} {j : Int} (ha : ∀ n : Nat, ¬ ck P Q N T a = .inl (2, n)) : Wd P Q N T c = Wd P Q N T (up c a j (wr (c a j))) := by
  unfold Wd
  refine List.map_congr_left (fun b _ => ?_)
  by_cases e : b = a
  · subst e
    have h : ∀ i : Int, Int32.ofInt (c b i) = Int32.ofInt (up c b j (wr (c b j)) b i) := fun i => by
      by_cases q : i = j
      · rw [q, up_e rfl, wr_of]
      · rw [up_n q]
    have ha2 := ha
    generalize ck P Q N T b = q at ha2
    cases q with
    | inl p =>
      obtain ⟨t, n⟩ := p
      unfold ce
      dsimp only
      rw [if_neg (fun h2 => ha2 n (by rw [h2])), if_neg (fun h2 => ha2 n (by rw [h2]))]
      unfold ar
      exact congrArg (fun l => (Sum.inl (t, Sum.inl l) : AE)) (List.map_congr_left (fun i _ => h (i : Int)))
    | inr p =>
      obtain ⟨ci, fl⟩ := p
      unfold ce
      dsimp only
      rw [fe_ext32 h]
  · exact ce_ext (fun i _ => (up_c e).symm)
theorem iv_fit {c2 : ME} (h : Iv 0 (-1) P Q c) (hF : ∀ (a : Nat) (j : Int), ¬ (a = 65 ∨ a = 67 ∨ (a = 0 ∧ j = 13) ∨ (a = 41 ∧ j = 0) ∨ (a = 42 ∧ j = 1)) → c2 a j = c a j) (x y z : Int) : Iv 0 (-1) P Q (up (up (up c2 0 13 (wr x)) 42 1 (wr y)) 41 0 (wr z)) := by
  refine iv_ext h ?_ (fun a j hn => (up_b (by unfold Ns at hn; omega)).trans ((up_b (by unfold Ns at hn; omega)).trans ((up_b (by unfold Ns at hn; omega)).trans (hF a j (by unfold Ns at hn; omega)))))
  intro a j hn
  by_cases h1 : a = 41 ∧ j = 0
  · rw [h1.1, h1.2, up_e rfl]
    exact wr_rng z
  · rw [up_b (by omega)]
    by_cases h2 : a = 42 ∧ j = 1
    · rw [h2.1, h2.2, up_e rfl]
      exact wr_rng y
    · rw [up_b (by omega)]
      by_cases h3 : a = 0 ∧ j = 13
      · rw [h3.1, h3.2, up_e rfl]
        exact wr_rng x
      · rw [up_b (by omega), hF a j (by omega)]
        exact iv_b h a j hn
theorem iw_66 {j v : Int} (h : Iv u e P Q c) (hj : j % 630 = 629) (hv : 0 ≤ v ∧ v ≤ 16) : Iv u e P Q (up c 66 j v) := by
  refine iv_row (a := 66) h (by unfold Rc; omega) (fun b i hb => up_c hb) (bx_up (iv_b h) (bx_66 (fun q => by omega) (fun _ => hv) (by omega))) ?_
  intro b i hs hbu hb
  have hr := iv_r h b i hs hbu
  have e : b = 66 := by omega
  subst e
  rw [ri_66] at hs
  rw [up_b (by omega), up_b (by omega), up_b (by omega), up_b (by omega)]
  exact hr
theorem cp_p5_p6 {n : Int} (h : Iv u e P Q c) (hA : A = 13 ∨ A = 25) : Iv u e P Q (upc c (A + 5) 0 (A + 6) 0 n) := by
  rcases hA with rfl | rfl <;> exact iw_upcp h (fun j => by unfold Ns; omega) (fun j _ _ => iv_b h _ _ (by omega))
theorem iw_stk {v : Int} (h : Iv u e P Q c) (hA : A = 13 ∨ A = 25) (hv : 0 ≤ v ∧ v ≤ 8) (hx : ∀ j : Int, 0 ≤ j → j < v → 0 ≤ c (A + 5) j ∧ c (A + 5) j ≤ 3) : Iv u e P Q (up (upc c (A + 5) 0 (A + 4) 0 8) A 4 v) := by
  have hu : ∀ (b : Nat) (i : Int), ¬ b = A + 4 → ¬ (b = A ∧ i = 4) → up (upc c (A + 5) 0 (A + 4) 0 8) A 4 v b i = c b i := fun b i hb h9 => (up_b (by omega)).trans (upc_c hb)
  have he : ∀ i : Int, 0 ≤ i → i < 8 → up (upc c (A + 5) 0 (A + 4) 0 8) A 4 v (A + 4) i = c (A + 5) i := fun i h1 h2 => by
    rw [up_c (by omega), upc_e (by omega), show 0 + (i - 0) = i by omega]
  have hx9 : ∀ i : Int, 8 ≤ i ∨ i < 0 → up (upc c (A + 5) 0 (A + 4) 0 8) A 4 v (A + 4) i = c (A + 4) i := fun i h1 => by
    rw [up_c (by omega), upc_n (by omega)]
  refine ⟨iv_pq h, ?_, ?_, sc_ext (iv_sc h) (fun b hs j => hu b j (by unfold Sg at hs; omega) (by unfold Sg at hs; omega)), ag_ext (iv_ag h) (fun b hs j => hu b j (by unfold Sg at hs; omega) (by unfold Sg at hs; omega)), lc_ext (iv_lc h) (fun b hs j => hu b j (by unfold Lg at hs; omega) (by unfold Lg at hs; omega)), pr_ext (iv_pr h) (fun j => hu 10 j (by omega) (by omega)), ?_, hc_ext (iv_hc h) (fun b j hs => hu b j (by omega) (by omega))⟩
  · intro b j hn9
    by_cases e : b = A + 4
    · subst e
      by_cases e2 : 0 ≤ j ∧ j < 8
      · rw [he j e2.1 e2.2]
        rcases hA with rfl | rfl
        · exact iv_b h 18 j (by omega)
        · exact iv_b h 30 j (by omega)
      · rw [hx9 j (by omega)]
        exact iv_b h _ j hn9
    · by_cases e2 : b = A ∧ j = 4
      · rw [e2.1, e2.2, up_e rfl]
        rcases hA with rfl | rfl <;> exact hv
      · rw [hu b j e e2]
        exact iv_b h b j hn9
  · intro b j hs h0
    have hc := rs_cell hs
    rw [hu b _ (by omega) (by omega), hu b _ (by omega) (by omega), hu b _ (by omega) (by omega), hu b _ (by omega) (by omega)]
    exact iv_r h b j hs h0
  · intro b j hb h1 h2
    by_cases e : b = A
    · subst e
      rw [up_e rfl] at h2
      rw [he j h1 (by omega)]
      exact hx j h1 h2
    · rw [hu b 4 (by omega) (by omega)] at h2
      rw [hu (b + 4) j (by omega) (by omega)]
      exact iv_sk h b j hb h1 h2
theorem cp_p9_p8 {n : Int} (h : Iv u e P Q c) (hA : A = 13 ∨ A = 25) : Iv u e P Q (upc c (A + 9) 0 (A + 8) 0 n) := by
  have hu : ∀ (b : Nat) (i : Int), ¬ b = A + 8 → upc c (A + 9) 0 (A + 8) 0 n b i = c b i := fun b i hb => upc_c hb
  refine ⟨iv_pq h, ?_, ?_, sc_ext (iv_sc h) (fun b hs j => hu b j (by unfold Sg at hs; omega)), ag_ext (iv_ag h) (fun b hs j => hu b j (by unfold Sg at hs; omega)), ?_, pr_ext (iv_pr h) (fun j => hu 10 j (by omega)), sk_ext (iv_sk h) (fun b hs j => hu b j (by omega)), hc_ext (iv_hc h) (fun b j hs => hu b j (by omega))⟩
  · intro b j hn9
    by_cases e : b = A + 8
    · subst e
      by_cases e2 : 0 ≤ j ∧ j < 0 + n
      · rw [upc_e e2]
        rcases hA with rfl | rfl
        · exact iv_b h 22 _ (by omega)
        · exact iv_b h 34 _ (by omega)
      · rw [upc_n e2]
        exact iv_b h (A + 8) j hn9
    · rw [upc_c e]
      exact iv_b h b j hn9
  · intro b j hs h0
    have hc := rs_cell hs
    rw [hu b _ (by omega), hu b _ (by omega), hu b _ (by omega), hu b _ (by omega)]
    exact iv_r h b j hs h0
  · intro b j hl
    by_cases e : b = A + 8
    · subst e
      by_cases e2 : 0 ≤ j ∧ j < 0 + n
      · rw [upc_e e2]
        exact ir_p9_x h hA _
      · rw [upc_n e2]
        exact iv_lc h _ j hl
    · rw [upc_c e]
      exact iv_lc h b j hl
theorem rs_s {s sh : Nat} (hs : (sh = 37 ∧ s = 38) ∨ (sh = 39 ∧ s = 40)) {j : Int} (h : rs s j) : ∃ k : Int, j = 4 * k ∧ 0 ≤ k ∧ k ≤ 5 := by
  have h2 : j % 4 = 0 ∧ 0 ≤ j ∧ j < 24 := by rcases hs with ⟨-, rfl⟩ | ⟨-, rfl⟩ <;> exact h
  exact ⟨j / 4, by omega⟩
theorem rs_59 {j : Int} (h : rs 59 j) : ∃ k : Int, j = 4 * k ∧ 0 ≤ k ∧ k ≤ 5 := by
  have h2 : j % 4 = 0 ∧ 0 ≤ j ∧ j < 24 := h
  exact ⟨j / 4, by omega⟩
theorem ir_59_r (h : Iv u e P Q c) (hu : ¬ 59 = u) {j : Int} (hj : 0 ≤ j ∧ j ≤ 5) : c 59 (4 * j) + c 59 (4 * j + 1) + c 59 (4 * j + 2) + c 59 (4 * j + 3) ≤ 9999 :=
  iv_r h 59 (4 * j) (by rw [ri_59]; omega) hu
/-- is a sieve torn, by the bits -/
noncomputable def tb (v k : Int) : Int := if ((Int32.ofInt v >>> (Int32.ofInt k &&& 31)) &&& 1) = 1 then 1 else 0
/-- so much falls through a mesh: t = 1 where it is torn -/
noncomputable def fal (m t g x : Int) : Int := if g ≤ m then x else if g = m + 1 ∧ t = 1 then x / 2 else 0
theorem tb_rng (v k : Int) : 0 ≤ tb v k ∧ tb v k ≤ 1 := by
  unfold tb
  split <;> decide
theorem fal_rng {m t g x : Int} (h : 0 ≤ x) : 0 ≤ fal m t g x ∧ fal m t g x ≤ x := by
  unfold fal
  split
  · omega
  · split <;> omega
theorem ir_s_g {s sh : Nat} (h : Iv u e P Q c) (hs : (sh = 37 ∧ s = 38) ∨ (sh = 39 ∧ s = 40)) {j : Int} (hj : j < 24) : 0 ≤ c s j ∧ c s j ≤ 9999 := by
  rcases hs with ⟨-, rfl⟩ | ⟨-, rfl⟩
  · exact ir_38_g h hj
  · exact ir_40_g h hj
theorem ir_s {s sh : Nat} (h : Iv u e P Q c) (hs : (sh = 37 ∧ s = 38) ∨ (sh = 39 ∧ s = 40)) (j : Int) : -2147483648 ≤ c s j ∧ c s j ≤ 2147483647 := by
  rcases hs with ⟨-, rfl⟩ | ⟨-, rfl⟩
  · exact ir_38 h j
  · exact ir_40 h j
theorem ck_sh {P Q sh s : Nat} (h : (sh = 37 ∧ s = 38) ∨ (sh = 39 ∧ s = 40)) : ck P Q P P sh = .inr (4, [some s, some P]) := by
  rcases h with ⟨rfl, rfl⟩ | ⟨rfl, rfl⟩ <;> rfl
theorem ck_s {P Q sh s : Nat} (h : (sh = 37 ∧ s = 38) ∨ (sh = 39 ∧ s = 40)) : ck P Q P P s = .inl (0, 34) := by
  rcases h with ⟨rfl, rfl⟩ | ⟨rfl, rfl⟩ <;> rfl
end IV
theorem mul_bd {x y n : Int} (hx : 0 ≤ x) (hy : 0 ≤ y) (hn : y ≤ n) : 0 ≤ x * y ∧ x * y ≤ n * x :=
  ⟨Int.mul_nonneg hx hy, by rw [Int.mul_comm n x]; exact Int.mul_le_mul_of_nonneg_left hn hx⟩
theorem mul_bd2 {x y n : Int} (hx : 0 ≤ x) (hy : 0 ≤ y) (hn : x ≤ n) : 0 ≤ x * y ∧ x * y ≤ n * y :=
  ⟨Int.mul_nonneg hx hy, Int.mul_le_mul_of_nonneg_right hn hy⟩
theorem div_lt {x s b : Int} (h0 : 0 ≤ x) (hb : 0 < b) (hx : x < s * b) : 0 ≤ x / b ∧ x / b < s := ⟨Int.ediv_nonneg h0 (Int.le_of_lt hb), Int.ediv_lt_of_lt_mul hb hx⟩
theorem rem_bd {a b : Int} (h : 0 < b) : 0 ≤ a % b ∧ a % b < b := ⟨Int.emod_nonneg a (by omega), Int.emod_lt_of_pos a h⟩
theorem ck_x0 {P Q N T P' Q' : Nat} : ∀ {b : Nat}, ¬ b = 0 → ck P Q N T b = ck P' Q' N T b
  | 0, h => absurd rfl h
  | 1, _ => rfl
  | 2, _ => rfl
  | 3, _ => rfl
  | 4, _ => rfl
  | 5, _ => rfl
  | 6, _ => rfl
  | 7, _ => rfl
  | 8, _ => rfl
  | 9, _ => rfl
  | 10, _ => rfl
  | 11, _ => rfl
  | 12, _ => rfl
  | 13, _ => rfl
  | 14, _ => rfl
  | 15, _ => rfl
  | 16, _ => rfl
  | 17, _ => rfl
  | 18, _ => rfl
  | 19, _ => rfl
  | 20, _ => rfl
  | 21, _ => rfl
  | 22, _ => rfl
  | 23, _ => rfl
  | 24, _ => rfl
  | 25, _ => rfl
  | 26, _ => rfl
  | 27, _ => rfl
  | 28, _ => rfl
  | 29, _ => rfl
  | 30, _ => rfl
  | 31, _ => rfl
  | 32, _ => rfl
  | 33, _ => rfl
  | 34, _ => rfl
  | 35, _ => rfl
  | 36, _ => rfl
  | 37, _ => rfl
  | 38, _ => rfl
  | 39, _ => rfl
  | 40, _ => rfl
  | 41, _ => rfl
  | 42, _ => rfl
  | 43, _ => rfl
  | 44, _ => rfl
  | 45, _ => rfl
  | 46, _ => rfl
  | 47, _ => rfl
  | 48, _ => rfl
  | 49, _ => rfl
  | 50, _ => rfl
  | 51, _ => rfl
  | 52, _ => rfl
  | 53, _ => rfl
  | 54, _ => rfl
  | 55, _ => rfl
  | 56, _ => rfl
  | 57, _ => rfl
  | 58, _ => rfl
  | 59, _ => rfl
  | 60, _ => rfl
  | 61, _ => rfl
  | 62, _ => rfl
  | 63, _ => rfl
  | 64, _ => rfl
  | 65, _ => rfl
  | 66, _ => rfl
  | 67, _ => rfl
  | _ + 68, _ => rfl
theorem ck_x37 {P Q N T N' : Nat} : ∀ {b : Nat}, ¬ b = 37 → ck P Q N T b = ck P Q N' T b
  | 0, _ => rfl
  | 1, _ => rfl
  | 2, _ => rfl
  | 3, _ => rfl
  | 4, _ => rfl
  | 5, _ => rfl
  | 6, _ => rfl
  | 7, _ => rfl
  | 8, _ => rfl
  | 9, _ => rfl
  | 10, _ => rfl
  | 11, _ => rfl
  | 12, _ => rfl
  | 13, _ => rfl
  | 14, _ => rfl
  | 15, _ => rfl
  | 16, _ => rfl
  | 17, _ => rfl
  | 18, _ => rfl
  | 19, _ => rfl
  | 20, _ => rfl
  | 21, _ => rfl
  | 22, _ => rfl
  | 23, _ => rfl
  | 24, _ => rfl
  | 25, _ => rfl
  | 26, _ => rfl
  | 27, _ => rfl
  | 28, _ => rfl
  | 29, _ => rfl
  | 30, _ => rfl
  | 31, _ => rfl
  | 32, _ => rfl
  | 33, _ => rfl
  | 34, _ => rfl
  | 35, _ => rfl
  | 36, _ => rfl
  | 37, h => absurd rfl h
  | 38, _ => rfl
  | 39, _ => rfl
  | 40, _ => rfl
  | 41, _ => rfl
  | 42, _ => rfl
  | 43, _ => rfl
  | 44, _ => rfl
  | 45, _ => rfl
  | 46, _ => rfl
  | 47, _ => rfl
  | 48, _ => rfl
  | 49, _ => rfl
  | 50, _ => rfl
  | 51, _ => rfl
  | 52, _ => rfl
  | 53, _ => rfl
  | 54, _ => rfl
  | 55, _ => rfl
  | 56, _ => rfl
  | 57, _ => rfl
  | 58, _ => rfl
  | 59, _ => rfl
  | 60, _ => rfl
  | 61, _ => rfl
  | 62, _ => rfl
  | 63, _ => rfl
  | 64, _ => rfl
  | 65, _ => rfl
  | 66, _ => rfl
  | 67, _ => rfl
  | _ + 68, _ => rfl
theorem ck_x39 {P Q N T T' : Nat} : ∀ {b : Nat}, ¬ b = 39 → ck P Q N T b = ck P Q N T' b
  | 0, _ => rfl
  | 1, _ => rfl
  | 2, _ => rfl
  | 3, _ => rfl
  | 4, _ => rfl
  | 5, _ => rfl
  | 6, _ => rfl
  | 7, _ => rfl
  | 8, _ => rfl
  | 9, _ => rfl
  | 10, _ => rfl
  | 11, _ => rfl
  | 12, _ => rfl
  | 13, _ => rfl
  | 14, _ => rfl
  | 15, _ => rfl
  | 16, _ => rfl
  | 17, _ => rfl
  | 18, _ => rfl
  | 19, _ => rfl
  | 20, _ => rfl
  | 21, _ => rfl
  | 22, _ => rfl
  | 23, _ => rfl
  | 24, _ => rfl
  | 25, _ => rfl
  | 26, _ => rfl
  | 27, _ => rfl
  | 28, _ => rfl
  | 29, _ => rfl
  | 30, _ => rfl
  | 31, _ => rfl
  | 32, _ => rfl
  | 33, _ => rfl
  | 34, _ => rfl
  | 35, _ => rfl
  | 36, _ => rfl
  | 37, _ => rfl
  | 38, _ => rfl
  | 39, h => absurd rfl h
  | 40, _ => rfl
  | 41, _ => rfl
  | 42, _ => rfl
  | 43, _ => rfl
  | 44, _ => rfl
  | 45, _ => rfl
  | 46, _ => rfl
  | 47, _ => rfl
  | 48, _ => rfl
  | 49, _ => rfl
  | 50, _ => rfl
  | 51, _ => rfl
  | 52, _ => rfl
  | 53, _ => rfl
  | 54, _ => rfl
  | 55, _ => rfl
  | 56, _ => rfl
  | 57, _ => rfl
  | 58, _ => rfl
  | 59, _ => rfl
  | 60, _ => rfl
  | 61, _ => rfl
  | 62, _ => rfl
  | 63, _ => rfl
  | 64, _ => rfl
  | 65, _ => rfl
  | 66, _ => rfl
  | 67, _ => rfl
  | _ + 68, _ => rfl
theorem iv_swap {u P Q : Nat} {e : Int} {c : ME} (h : Iv u e P Q c) : Iv u e Q P c := And.intro (show Pq Q P by have q := iv_pq h; unfold Pq at q ⊢; omega) (And.right h)
theorem v_scr {d k pc len nc ns : Nat} {ls : AL} {r : List Value} {P Q N T : Nat} {c : ME} {Z : AR → Prop} {xs : Nat → Int32} {L j : Nat} {z v : Int} (hd : mLk k pc = some (.iaload, len)) (hz : z = (j : Int)) (hj : j < L) (hL : L ≤ 100000) (hv : (xs j).toInt = v) (K : Wp (a_scr L xs) d k (pc + 1) ls (vi v :: r) (Wd P Q N T c) nc ns Z) : Wp (a_scr L xs) d k pc ls (vi z :: .ref a_SC :: r) (Wd P Q N T c) nc ns Z := by
  subst hv
  exact v_script hd hz hj hL K
/-! ===== rules that forget what a number is, and keep what it is between ===== -/
section VX
variable {sc : List Int32} {d k pc len nc ns : Nat} {ls : AL} {st r : List Value} {w : AW} {Z : AR → Prop}
/-- a plan put into a place of an object -/
theorem v_pr {P Q N T P' Q' N' T' x a ci m y : Nat} {c : ME} {fl fl2 : List (Option Nat)} (hd : mLk k pc = some (.putfield x, len)) (hk : a_lk (kF (mK k)) x = some (ci, m)) (hc : ck P Q N T a = .inr (ci, fl)) (hc2 : ck P' Q' N' T' a = .inr (ci, fl2)) (ha : a < 68) (hm : m < fl.length) (hs : ∀ c : ME, (fe c a 0 fl).set m (.ref y) = fe c a 0 fl2) (hf : a_fit (YF ci m) (.ref y) = true) (hq : (TF ci m).2.2.2 = false ∨ (mD k = 2 ∧ mK k = ci)) (ho : ∀ b, ¬ b = a → ck P Q N T b = ck P' Q' N' T' b) (K : Wp sc d k (pc + 3) ls r (Wd P' Q' N' T' c) nc ns Z) : Wp sc d k pc ls (.ref y :: .ref a :: r) (Wd P Q N T c) nc ns Z := by
  refine q_putv (fs := fe c a 0 fl) (w9 := Wd P' Q' N' T' c) hd hk (by rw [wd_get ha, hc]; rfl) (by rw [fe_len]; exact hm) hf hq ?_ K
  refine wd_set ha ?_ (fun b hb => by rw [ho b hb])
  rw [hc2, hs]
  rfl
theorem v_nrm {a : Int} (K : ∀ y : Int, -2147483648 ≤ y ∧ y ≤ 2147483647 → Wp sc d k pc ls (vi y :: st) w nc ns Z) : Wp sc d k pc ls (vi a :: st) w nc ns Z := by
  have q := K (wr a) (wr_rng a)
  rw [show vi (wr a) = vi a from congrArg Value.int (wr_of a)] at q
  exact q
theorem x_some (x : Int32) : ∃ y : Int, (-2147483648 ≤ y ∧ y ≤ 2147483647) ∧ Int32.ofInt y = x := ⟨x.toInt, c_rng x, Int32.ofInt_toInt x⟩
theorem v_iincx {i : Nat} {n a : Int} (hd : mLk k pc = some (.iinc i n, len)) (hl : a_lk ls i = some (vi a)) (hi : i < mX k) (K : ∀ y : Int, -2147483648 ≤ y ∧ y ≤ 2147483647 → Wp sc d k (pc + 3) (a_s1 ls i (vi y)) st w nc ns Z) : Wp sc d k pc ls st w nc ns Z := by
  obtain ⟨y, h1, h2⟩ := x_some (Int32.ofInt a + Int32.ofInt n)
  have q := K y h1
  unfold vi at q
  rw [h2] at q
  exact q_iinc hd hl hi q
theorem v_idivx {a b : Int} (hd : mLk k pc = some (.idiv, len)) (hb : ¬ b = 0 ∧ -2147483648 ≤ b ∧ b ≤ 2147483647) (K : ∀ y : Int, -2147483648 ≤ y ∧ y ≤ 2147483647 → Wp sc d k (pc + 1) ls (vi y :: r) w nc ns Z) : Wp sc d k pc ls (vi b :: vi a :: r) w nc ns Z := by
  obtain ⟨y, h1, h2⟩ := x_some (Int32.ofInt a / Int32.ofInt b)
  have q := K y h1
  unfold vi at q
  rw [h2] at q
  exact q_idiv hd (c_ne (b := 0) ⟨hb.1, hb.2, by omega, by omega⟩) q
theorem v_iremx {a b : Int} (hd : mLk k pc = some (.irem, len)) (hb : ¬ b = 0 ∧ -2147483648 ≤ b ∧ b ≤ 2147483647) (K : ∀ y : Int, -2147483648 ≤ y ∧ y ≤ 2147483647 → Wp sc d k (pc + 1) ls (vi y :: r) w nc ns Z) : Wp sc d k pc ls (vi b :: vi a :: r) w nc ns Z := by
  obtain ⟨y, h1, h2⟩ := x_some (Int32.ofInt a - Int32.ofInt a / Int32.ofInt b * Int32.ofInt b)
  have q := K y h1
  unfold vi at q
  rw [h2] at q
  exact q_irem hd (c_ne (b := 0) ⟨hb.1, hb.2, by omega, by omega⟩) q
theorem v_iandx {x y : Int32} (hd : mLk k pc = some (.iand, len)) (K : ∀ z : Int, -2147483648 ≤ z ∧ z ≤ 2147483647 → Wp sc d k (pc + 1) ls (vi z :: r) w nc ns Z) : Wp sc d k pc ls (.int y :: .int x :: r) w nc ns Z := by
  obtain ⟨z, h1, h2⟩ := x_some (x &&& y)
  have q := K z h1
  unfold vi at q
  rw [h2] at q
  exact q_iand hd q
theorem v_iorx {x y : Int32} (hd : mLk k pc = some (.ior, len)) (K : ∀ z : Int, -2147483648 ≤ z ∧ z ≤ 2147483647 → Wp sc d k (pc + 1) ls (vi z :: r) w nc ns Z) : Wp sc d k pc ls (.int y :: .int x :: r) w nc ns Z := by
  obtain ⟨z, h1, h2⟩ := x_some (x ||| y)
  have q := K z h1
  unfold vi at q
  rw [h2] at q
  exact q_ior hd q
theorem v_ixorx {x y : Int32} (hd : mLk k pc = some (.ixor, len)) (K : ∀ z : Int, -2147483648 ≤ z ∧ z ≤ 2147483647 → Wp sc d k (pc + 1) ls (vi z :: r) w nc ns Z) : Wp sc d k pc ls (.int y :: .int x :: r) w nc ns Z := by
  obtain ⟨z, h1, h2⟩ := x_some (x ^^^ y)
  have q := K z h1
  unfold vi at q
  rw [h2] at q
  exact q_ixor hd q
theorem v_ishlx {x y : Int32} (hd : mLk k pc = some (.ishl, len)) (K : ∀ z : Int, -2147483648 ≤ z ∧ z ≤ 2147483647 → Wp sc d k (pc + 1) ls (vi z :: r) w nc ns Z) : Wp sc d k pc ls (.int y :: .int x :: r) w nc ns Z := by
  obtain ⟨z, h1, h2⟩ := x_some (x <<< (y &&& 31))
  have q := K z h1
  unfold vi at q
  rw [h2] at q
  exact q_ishl hd q
theorem v_ishrx {x y : Int32} (hd : mLk k pc = some (.ishr, len)) (K : ∀ z : Int, -2147483648 ≤ z ∧ z ≤ 2147483647 → Wp sc d k (pc + 1) ls (vi z :: r) w nc ns Z) : Wp sc d k pc ls (.int y :: .int x :: r) w nc ns Z := by
  obtain ⟨z, h1, h2⟩ := x_some (x >>> (y &&& 31))
  have q := K z h1
  unfold vi at q
  rw [h2] at q
  exact q_ishr hd q
theorem v_iushrx {x y : Int32} (hd : mLk k pc = some (.iushr, len)) (K : ∀ z : Int, -2147483648 ≤ z ∧ z ≤ 2147483647 → Wp sc d k (pc + 1) ls (vi z :: r) w nc ns Z) : Wp sc d k pc ls (.int y :: .int x :: r) w nc ns Z := by
  obtain ⟨z, h1, h2⟩ := x_some ((x.toUInt32 >>> (y.toUInt32 &&& Int32.toUInt32 31)).toInt32)
  have q := K z h1
  unfold vi at q
  rw [h2] at q
  exact q_iushr hd q
theorem shl_1 : ∀ j : Nat, j < 7 → 1 ≤ (Int32.ofInt 1 <<< (Int32.ofInt (j : Int) &&& 31)).toInt ∧ (Int32.ofInt 1 <<< (Int32.ofInt (j : Int) &&& 31)).toInt ≤ 64 := by decide
theorem v_shl1 {j : Int} (hd : mLk k pc = some (.ishl, len)) (hj : 0 ≤ j ∧ j ≤ 6) (K : ∀ z : Int, 1 ≤ z ∧ z ≤ 64 → Wp sc d k (pc + 1) ls (vi z :: r) w nc ns Z) : Wp sc d k pc ls (vi j :: vi 1 :: r) w nc ns Z := by
  have e : ((j.toNat : Nat) : Int) = j := Int.toNat_of_nonneg hj.1
  have b := shl_1 j.toNat (by omega)
  rw [e] at b
  have q := K _ b
  rw [show vi (Int32.ofInt 1 <<< (Int32.ofInt j &&& 31)).toInt = .int (Int32.ofInt 1 <<< (Int32.ofInt j &&& 31)) from congrArg Value.int (Int32.ofInt_toInt _)] at q
  exact q_ishl hd q
theorem and_le {x y : Int32} (h : 0 ≤ x.toInt) : 0 ≤ (x &&& y).toInt ∧ (x &&& y).toInt ≤ x.toInt := by
  have h1 : (x.toBitVec).msb = false := by
    rw [BitVec.msb_eq_toInt]
    exact decide_eq_false (by show ¬ x.toInt < 0; omega)
  have h2 : (x &&& y).toInt = ((x.toBitVec &&& y.toBitVec).toNat : Int) := by
    show (x.toBitVec &&& y.toBitVec).toInt = _
    rw [BitVec.toInt_eq_msb_cond, BitVec.msb_and, h1]
    rfl
  have h3 : x.toInt = (x.toBitVec.toNat : Int) := by
    show x.toBitVec.toInt = _
    rw [BitVec.toInt_eq_msb_cond, h1]
    rfl
  rw [h2, h3, BitVec.toNat_and]
  have := @Nat.and_le_left x.toBitVec.toNat y.toBitVec.toNat
  omega
theorem upc_0 {c : ME} {f t : Nat} {sp dp n : Int} (h : n ≤ 0) : upc c f sp t dp n = c := by
  funext b j
  by_cases e : b = t
  · subst e
    exact upc_n (by omega)
  · exact upc_c e
theorem upc_stp {c : ME} {f t : Nat} {i : Int} (hf : ¬ f = t) (hi : 0 ≤ i) : up (upc c f 0 t 0 i) t i (c f i) = upc c f 0 t 0 (i + 1) := by
  funext b j
  by_cases e : b = t
  · subst e
    by_cases q : j = i
    · subst q
      rw [up_e rfl, upc_e (by omega), show (0 : Int) + (j - 0) = j by omega]
    · rw [up_n q]
      by_cases q2 : 0 ≤ j ∧ j < 0 + i
      · rw [upc_e q2, upc_e (by omega)]
      · rw [upc_n q2, upc_n (by omega)]
  · rw [up_c e, upc_c e, upc_c e]
set_option maxRecDepth 100000 in
theorem s_148_l {P Q : Nat} {c : ME} {f t nf nt : Nat} {n : Int} (hf : ck P Q P P f = .inl (0, nf)) (ht : ck P Q P P t = .inl (0, nt)) (hf6 : f < 68) (ht6 : t < 68) (hne : ¬ f = t) (hnf : nf ≤ 10000) (hnt : nt ≤ 10000) (hn : 0 ≤ n ∧ n ≤ nf ∧ n ≤ nt) (K : Z (.inl none, Wd P Q P P (upc c f 0 t 0 n), 0, 0)) : ∀ (n9 : Nat) (i : Int), 0 ≤ i → i ≤ n → n - i < (n9 : Int) → Wp sc (d + 1) 148 3 [(0, .ref 41), (1, .ref f), (2, .ref t), (3, vi n), (4, vi i)] [] (Wd P Q P P (upc c f 0 t 0 i)) 0 0 Z
  | 0, i, h0, h1, hm => by exfalso; omega
  | n9 + 1, i, h0, h1, hm => by
    have ih := s_148_l hf ht hf6 ht6 hne hnf hnt hn K n9
    refine q_iload rfl rfl ?_
    refine q_iload_n rfl rfl ?_
    by_cases h : i ≥ n
    · refine v_ic_ge_t (t := 23) rfl (by decide) (by omega) ?_
      refine q_vret rfl rfl ?_
      have e : i = n := by omega
      subst e
      exact K
    · refine v_ic_ge_f (t := 23) rfl (by decide) (by omega) ?_
      refine q_aload_n rfl rfl ?_
      refine q_iload rfl rfl ?_
      refine q_aload_n rfl rfl ?_
      refine q_iload rfl rfl ?_
      refine v_ia (v := c f i) rfl hf hf6 hnf (by omega) (upc_c hne) ?_
      refine v_is rfl ht ht6 hnt (by omega) ?_
      refine v_iinc (v := i + 1) rfl rfl (by decide) (by omega) ?_
      refine q_goto (t := 3) rfl (by decide) ?_
      rw [upc_stp hne h0]
      refine Wp_ls [(0, .ref 41), (1, .ref f), (2, .ref t), (3, vi n), (4, vi (i + 1))] (lsub_cons rfl (lsub_cons rfl (lsub_cons rfl (lsub_cons rfl (lsub_cons rfl lsub_nil))))) ?_
      exact ih (i + 1) (by omega) (by omega) (by omega)
/-- so many places come to another cell, one by one -/
theorem s_148 {P Q : Nat} {c : ME} {f t nf nt : Nat} {n : Int} (hf : ck P Q P P f = .inl (0, nf)) (ht : ck P Q P P t = .inl (0, nt)) (hf6 : f < 68) (ht6 : t < 68) (hne : ¬ f = t) (hnf : nf ≤ 10000) (hnt : nt ≤ 10000) (hn : 0 ≤ n ∧ n ≤ nf ∧ n ≤ nt) (K : Z (.inl none, Wd P Q P P (upc c f 0 t 0 n), 0, 0)) : Wp sc (d + 1) 148 0 [(0, .ref 41), (1, .ref f), (2, .ref t), (3, vi n)] [] (Wd P Q P P c) 0 0 Z := by
  refine q_iconst rfl ?_
  refine q_istore rfl (by decide) ?_
  obtain ⟨m, hm⟩ : ∃ m : Nat, (m : Int) = n := ⟨n.toNat, Int.toNat_of_nonneg hn.1⟩
  refine Wp_ls [(0, .ref 41), (1, .ref f), (2, .ref t), (3, vi n), (4, vi 0)] (lsub_cons rfl (lsub_cons rfl (lsub_cons rfl (lsub_cons rfl (lsub_cons rfl lsub_nil))))) ?_
  have q := s_148_l (sc := sc) (d := d) hf ht hf6 ht6 hne hnf hnt hn K (m + 1) 0 (by omega) hn.1 (by omega)
  rw [upc_0 (by omega)] at q
  exact q
theorem v_ishlc {a b v : Int} (hd : mLk k pc = some (.ishl, len)) (hv : Int32.ofInt a <<< (Int32.ofInt b &&& 31) = Int32.ofInt v) (K : Wp sc d k (pc + 1) ls (vi v :: r) w nc ns Z) : Wp sc d k pc ls (vi b :: vi a :: r) w nc ns Z := q_ishl hd (by rw [hv]; exact K)
theorem v_iorc {a b v : Int} (hd : mLk k pc = some (.ior, len)) (hv : Int32.ofInt a ||| Int32.ofInt b = Int32.ofInt v) (K : Wp sc d k (pc + 1) ls (vi v :: r) w nc ns Z) : Wp sc d k pc ls (vi b :: vi a :: r) w nc ns Z := q_ior hd (by rw [hv]; exact K)
theorem shl_5 : ∀ n : Nat, n < 32 → Int32.ofInt (n : Int) <<< (Int32.ofInt 5 &&& 31) = Int32.ofInt (32 * (n : Int)) := by decide +kernel
theorem v_ishl5 {a : Int} (hd : mLk k pc = some (.ishl, len)) (K : ∀ z : Int, -2147483648 ≤ z ∧ z ≤ 2147483647 → (0 ≤ a → a ≤ 31 → z = 32 * a) → Wp sc d k (pc + 1) ls (vi z :: r) w nc ns Z) : Wp sc d k pc ls (vi 5 :: vi a :: r) w nc ns Z := by
  obtain ⟨z, h1, h2⟩ := x_some (Int32.ofInt a <<< (Int32.ofInt 5 &&& 31))
  have q := K z h1 (fun h3 h4 => by
    have e : ((a.toNat : Nat) : Int) = a := Int.toNat_of_nonneg h3
    have b := shl_5 a.toNat (by omega)
    rw [e] at b
    have c9 := congrArg Int32.toInt (h2.trans b)
    rw [Int32.toInt_ofInt_of_le (by omega) (by omega), Int32.toInt_ofInt_of_le (by omega) (by omega)] at c9
    exact c9)
  unfold vi at q
  rw [h2] at q
  exact q_ishl hd q
theorem nn_nat {x : Int32} (h : 0 ≤ x.toInt) : x.toInt = (x.toBitVec.toNat : Int) := by
  have h1 : (x.toBitVec).msb = false := by
    rw [BitVec.msb_eq_toInt]
    exact decide_eq_false (by show ¬ x.toInt < 0; omega)
  show x.toBitVec.toInt = _
  rw [BitVec.toInt_eq_msb_cond, h1]
  rfl
theorem or_lt {x y : Int32} (hx : 0 ≤ x.toInt ∧ x.toInt ≤ 1023) (hy : 0 ≤ y.toInt ∧ y.toInt ≤ 1023) : 0 ≤ (x ||| y).toInt ∧ (x ||| y).toInt ≤ 1023 := by
  have a := nn_nat hx.1
  have b := nn_nat hy.1
  have c9 : (x.toBitVec ||| y.toBitVec).toNat < 2 ^ 10 := by
    rw [BitVec.toNat_or]
    exact Nat.or_lt_two_pow (by omega) (by omega)
  have e : (x ||| y).toInt = ((x.toBitVec ||| y.toBitVec).toNat : Int) := by
    show (x.toBitVec ||| y.toBitVec).toInt = _
    rw [BitVec.toInt_eq_toNat_cond, if_pos (by omega)]
  omega
theorem v_ior5 {a b : Int} (hd : mLk k pc = some (.ior, len)) (K : ∀ z : Int, -2147483648 ≤ z ∧ z ≤ 2147483647 → (0 ≤ a → a ≤ 1023 → 0 ≤ b → b ≤ 1023 → 0 ≤ z ∧ z ≤ 1023) → (a = 0 → (-2147483648 ≤ b ∧ b ≤ 2147483647) → z = b) → Wp sc d k (pc + 1) ls (vi z :: r) w nc ns Z) : Wp sc d k pc ls (vi b :: vi a :: r) w nc ns Z := by
  obtain ⟨z, h1, h2⟩ := x_some (Int32.ofInt a ||| Int32.ofInt b)
  have ez : (Int32.ofInt a ||| Int32.ofInt b).toInt = z := by rw [← h2, Int32.toInt_ofInt_of_le (by omega) (by omega)]
  have q := K z h1 (fun h3 h4 h5 h6 => by
    have ea : (Int32.ofInt a).toInt = a := Int32.toInt_ofInt_of_le (by omega) (by omega)
    have eb : (Int32.ofInt b).toInt = b := Int32.toInt_ofInt_of_le (by omega) (by omega)
    have l := or_lt (x := Int32.ofInt a) (y := Int32.ofInt b) (by omega) (by omega)
    rw [ez] at l
    exact l) (fun h3 h4 => by
    subst h3
    have eb : (Int32.ofInt b).toInt = b := Int32.toInt_ofInt_of_le (by omega) (by omega)
    rw [← ez, show Int32.ofInt 0 ||| Int32.ofInt b = Int32.ofInt b from Int32.zero_or, eb])
  unfold vi at q
  rw [h2] at q
  exact q_ior hd q
theorem upc_stq {c : ME} {f t : Nat} {sp dp i : Int} (hf : ¬ f = t) (hi : 0 ≤ i) : up (upc c f sp t dp i) t (dp + i) (c f (sp + i)) = upc c f sp t dp (i + 1) := by
  funext b j
  by_cases e : b = t
  · subst e
    by_cases q : j = dp + i
    · subst q
      rw [up_e rfl, upc_e (by omega), show sp + (dp + i - dp) = sp + i by omega]
    · rw [up_n q]
      by_cases q2 : dp ≤ j ∧ j < dp + i
      · rw [upc_e q2, upc_e (by omega)]
      · rw [upc_n q2, upc_n (by omega)]
  · rw [up_c e, upc_c e, upc_c e]
set_option maxRecDepth 100000 in
theorem s_257k_l {P Q : Nat} {c : ME} {t nt : Nat} {q n : Int} (ht : ck P Q P P t = .inl (0, nt)) (ht6 : t < 68) (hne : ¬ t = 66) (hnt : nt ≤ 10000) (hn : 0 ≤ n ∧ n ≤ nt) (hq : 0 ≤ q ∧ q + n ≤ 1890) (K : Z (.inl (some (vi (q + n))), Wd P Q P P (upc c t 0 66 q n), 0, 0)) : ∀ (n9 : Nat) (i : Int), 0 ≤ i → i ≤ n → n - i < (n9 : Int) → Wp sc (d + 1) 257 3 [(0, .ref 41), (1, vi q), (2, .ref t), (3, vi n), (4, vi 1), (5, vi i)] [] (Wd P Q P P (upc c t 0 66 q i)) 0 0 Z
  | 0, i, h0, h1, hm => by exfalso; omega
  | n9 + 1, i, h0, h1, hm => by
    have ih := s_257k_l ht ht6 hne hnt hn hq K n9
    refine q_iload rfl rfl ?_
    refine q_iload_n rfl rfl ?_
    by_cases h : i ≥ n
    · refine v_ic_ge_t (t := 49) rfl (by decide) (by omega) ?_
      refine q_iload_n rfl rfl ?_
      refine q_iload_n rfl rfl ?_
      refine v_iadd (v := q + n) rfl rfl ?_
      refine q_iret rfl rfl ?_
      have e : i = n := by omega
      subst e
      exact K
    · refine v_ic_ge_f (t := 49) rfl (by decide) (by omega) ?_
      refine q_iload rfl rfl ?_
      refine v_if_eq_f (t := 30) rfl (by decide) (by decide) ?_
      refine q_aload_n rfl rfl ?_
      refine v_gr (t := 66) rfl rfl rfl (by decide) rfl ?_
      refine q_iload_n rfl rfl ?_
      refine q_iload rfl rfl ?_
      refine v_iadd (v := q + i) rfl rfl ?_
      refine q_aload_n rfl rfl ?_
      refine q_iload rfl rfl ?_
      refine v_ia (v := c t (0 + i)) rfl ht ht6 hnt (by omega) ((upc_c hne).trans (congrArg (c t) (by omega))) ?_
      refine v_is rfl rfl (by decide) (by decide) (by omega) ?_
      refine q_goto (t := 43) rfl (by decide) ?_
      refine v_iinc (v := i + 1) rfl rfl (by decide) (by omega) ?_
      refine q_goto (t := 3) rfl (by decide) ?_
      rw [show up (upc c t 0 66 q i) 66 (q + i) (c t (0 + i)) = upc c t 0 66 q (i + 1) from upc_stq (dp := q) (sp := 0) hne h0]
      refine Wp_ls [(0, .ref 41), (1, vi q), (2, .ref t), (3, vi n), (4, vi 1), (5, vi (i + 1))] (lsub_cons rfl (lsub_cons rfl (lsub_cons rfl (lsub_cons rfl (lsub_cons rfl (lsub_cons rfl lsub_nil)))))) ?_
      exact ih (i + 1) (by omega) (by omega) (by omega)
theorem s_257k {P Q : Nat} {c : ME} {t nt : Nat} {q n v : Int} (ht : ck P Q P P t = .inl (0, nt)) (ht6 : t < 68) (hne : ¬ t = 66) (hnt : nt ≤ 10000) (hn : 0 ≤ n ∧ n ≤ nt) (hq : 0 ≤ q ∧ q + n ≤ 1890) (hv : q + n = v) (K : Z (.inl (some (vi v)), Wd P Q P P (upc c t 0 66 q n), 0, 0)) : Wp sc (d + 1) 257 0 [(0, .ref 41), (1, vi q), (2, .ref t), (3, vi n), (4, vi 1)] [] (Wd P Q P P c) 0 0 Z := by
  subst hv
  refine q_iconst rfl ?_
  refine q_istore rfl (by decide) ?_
  obtain ⟨m, hm⟩ : ∃ m : Nat, (m : Int) = n := ⟨n.toNat, Int.toNat_of_nonneg hn.1⟩
  refine Wp_ls [(0, .ref 41), (1, vi q), (2, .ref t), (3, vi n), (4, vi 1), (5, vi 0)] (lsub_cons rfl (lsub_cons rfl (lsub_cons rfl (lsub_cons rfl (lsub_cons rfl (lsub_cons rfl lsub_nil)))))) ?_
  have z := s_257k_l (sc := sc) (d := d) ht ht6 hne hnt hn hq K (m + 1) 0 (by omega) hn.1 (by omega)
  rw [upc_0 (by omega)] at z
  exact z
set_option maxRecDepth 100000 in
theorem s_257r_l {P Q : Nat} {c : ME} {t nt : Nat} {q n : Int} (ht : ck P Q P P t = .inl (0, nt)) (ht6 : t < 68) (hne : ¬ t = 66) (hnt : nt ≤ 10000) (hn : 0 ≤ n ∧ n ≤ nt) (hq : 0 ≤ q ∧ q + n ≤ 1890) (K : Z (.inl (some (vi (q + n))), Wd P Q P P (upc c 66 q t 0 n), 0, 0)) : ∀ (n9 : Nat) (i : Int), 0 ≤ i → i ≤ n → n - i < (n9 : Int) → Wp sc (d + 1) 257 3 [(0, .ref 41), (1, vi q), (2, .ref t), (3, vi n), (4, vi 0), (5, vi i)] [] (Wd P Q P P (upc c 66 q t 0 i)) 0 0 Z
  | 0, i, h0, h1, hm => by exfalso; omega
  | n9 + 1, i, h0, h1, hm => by
    have ih := s_257r_l ht ht6 hne hnt hn hq K n9
    refine q_iload rfl rfl ?_
    refine q_iload_n rfl rfl ?_
    by_cases h : i ≥ n
    · refine v_ic_ge_t (t := 49) rfl (by decide) (by omega) ?_
      refine q_iload_n rfl rfl ?_
      refine q_iload_n rfl rfl ?_
      refine v_iadd (v := q + n) rfl rfl ?_
      refine q_iret rfl rfl ?_
      have e : i = n := by omega
      subst e
      exact K
    · refine v_ic_ge_f (t := 49) rfl (by decide) (by omega) ?_
      refine q_iload rfl rfl ?_
      refine v_if_eq_t (t := 30) rfl (by decide) (by decide) ?_
      refine q_aload_n rfl rfl ?_
      refine q_iload rfl rfl ?_
      refine q_aload_n rfl rfl ?_
      refine v_gr (t := 66) rfl rfl rfl (by decide) rfl ?_
      refine q_iload_n rfl rfl ?_
      refine q_iload rfl rfl ?_
      refine v_iadd (v := q + i) rfl rfl ?_
      refine v_ia (v := c 66 (q + i)) rfl rfl (by decide) (by decide) (by omega) (upc_c (fun e => hne e.symm)) ?_
      refine v_is rfl ht ht6 hnt (by omega) ?_
      refine v_iinc (v := i + 1) rfl rfl (by decide) (by omega) ?_
      refine q_goto (t := 3) rfl (by decide) ?_
      rw [show up (upc c 66 q t 0 i) t i (c 66 (q + i)) = upc c 66 q t 0 (i + 1) from by have w9 := upc_stq (c := c) (f := 66) (t := t) (dp := 0) (sp := q) (i := i) (fun e => hne e.symm) h0; rw [show (0 : Int) + i = i by omega] at w9; exact w9]
      refine Wp_ls [(0, .ref 41), (1, vi q), (2, .ref t), (3, vi n), (4, vi 0), (5, vi (i + 1))] (lsub_cons rfl (lsub_cons rfl (lsub_cons rfl (lsub_cons rfl (lsub_cons rfl (lsub_cons rfl lsub_nil)))))) ?_
      exact ih (i + 1) (by omega) (by omega) (by omega)
theorem s_257r {P Q : Nat} {c : ME} {t nt : Nat} {q n v : Int} (ht : ck P Q P P t = .inl (0, nt)) (ht6 : t < 68) (hne : ¬ t = 66) (hnt : nt ≤ 10000) (hn : 0 ≤ n ∧ n ≤ nt) (hq : 0 ≤ q ∧ q + n ≤ 1890) (hv : q + n = v) (K : Z (.inl (some (vi v)), Wd P Q P P (upc c 66 q t 0 n), 0, 0)) : Wp sc (d + 1) 257 0 [(0, .ref 41), (1, vi q), (2, .ref t), (3, vi n), (4, vi 0)] [] (Wd P Q P P c) 0 0 Z := by
  subst hv
  refine q_iconst rfl ?_
  refine q_istore rfl (by decide) ?_
  obtain ⟨m, hm⟩ : ∃ m : Nat, (m : Int) = n := ⟨n.toNat, Int.toNat_of_nonneg hn.1⟩
  refine Wp_ls [(0, .ref 41), (1, vi q), (2, .ref t), (3, vi n), (4, vi 0), (5, vi 0)] (lsub_cons rfl (lsub_cons rfl (lsub_cons rfl (lsub_cons rfl (lsub_cons rfl (lsub_cons rfl lsub_nil)))))) ?_
  have z := s_257r_l (sc := sc) (d := d) ht ht6 hne hnt hn hq K (m + 1) 0 (by omega) hn.1 (by omega)
  rw [upc_0 (by omega)] at z
  exact z
theorem v_minx {x j : Nat} {a b : Int} (hd : mLk k pc = some (.invokestatic x, len)) (hk : a_lk (kM (mK k)) x = some (4, j)) (h1 : 1 ≤ d) (hc : a_cat r ≤ 8) (h : -2147483648 ≤ a ∧ a ≤ 2147483647 ∧ -2147483648 ≤ b ∧ b ≤ 2147483647) (K : ∀ y : Int, (y ≤ a ∧ y ≤ b) ∧ (y = a ∨ y = b) → Wp sc d k (pc + 3) ls (vi y :: r) w nc ns Z) : Wp sc d k pc ls (vi b :: vi a :: r) w nc ns Z := by
  by_cases e : a < b
  · exact v_min_l hd hk h1 hc ⟨h.1, e, h.2.2.2⟩ (K a ⟨⟨Int.le_refl a, Int.le_of_lt e⟩, Or.inl rfl⟩)
  · exact v_min_g hd hk h1 hc ⟨h.2.2.1, by omega, h.2.1⟩ (K b ⟨⟨by omega, Int.le_refl b⟩, Or.inr rfl⟩)
theorem v_minp {x j : Nat} {a b : Int} (hd : mLk k pc = some (.invokestatic x, len)) (hk : a_lk (kM (mK k)) x = some (4, j)) (h1 : 1 ≤ d) (hc : a_cat r ≤ 8) (h : 0 ≤ a ∧ a ≤ 2147483647 ∧ 0 ≤ b ∧ b ≤ 2147483647) (K : ∀ y : Int, 0 ≤ y ∧ y ≤ a ∧ y ≤ b → Wp sc d k (pc + 3) ls (vi y :: r) w nc ns Z) : Wp sc d k pc ls (vi b :: vi a :: r) w nc ns Z :=
  v_minx hd hk h1 hc ⟨by omega, h.2.1, by omega, h.2.2.2⟩ (fun y hy => K y ⟨by omega, hy.1.1, hy.1.2⟩)
theorem v_maxx {x j : Nat} {a b : Int} (hd : mLk k pc = some (.invokestatic x, len)) (hk : a_lk (kM (mK k)) x = some (3, j)) (h1 : 1 ≤ d) (hc : a_cat r ≤ 8) (h : -2147483648 ≤ a ∧ a ≤ 2147483647 ∧ -2147483648 ≤ b ∧ b ≤ 2147483647) (K : ∀ y : Int, (a ≤ y ∧ b ≤ y) ∧ (y = a ∨ y = b) → Wp sc d k (pc + 3) ls (vi y :: r) w nc ns Z) : Wp sc d k pc ls (vi b :: vi a :: r) w nc ns Z := by
  by_cases e : a < b
  · exact v_max_l hd hk h1 hc ⟨h.1, e, h.2.2.2⟩ (K b ⟨⟨Int.le_of_lt e, Int.le_refl b⟩, Or.inr rfl⟩)
  · exact v_max_g hd hk h1 hc ⟨h.2.2.1, by omega, h.2.1⟩ (K a ⟨⟨Int.le_refl a, by omega⟩, Or.inl rfl⟩)
theorem v_absx {x j : Nat} {a : Int} (hd : mLk k pc = some (.invokestatic x, len)) (hk : a_lk (kM (mK k)) x = some (5, j)) (h1 : 1 ≤ d) (hc : a_cat r ≤ 8) (K : ∀ z : Int, -2147483648 ≤ z ∧ z ≤ 2147483647 → Wp sc d k (pc + 3) ls (vi z :: r) w nc ns Z) : Wp sc d k pc ls (vi a :: r) w nc ns Z := by
  obtain ⟨z, h3, h2⟩ := x_some (if 0 ≤ Int32.ofInt a then Int32.ofInt a else 0 - Int32.ofInt a)
  have q := K z h3
  unfold vi at q
  rw [h2] at q
  exact q_mabs hd hk ⟨h1, hc⟩ rfl q
theorem v_schx {x j i n : Nat} {m : Int} (hd : mLk k pc = some (.invokevirtual x, len)) (hk : a_lk (kM (mK k)) x = some (8, j)) (h6 : 6 ≤ d) (hs : a_cat r ≤ 8) (hi : i < sN) (hn : (sB i).length = n) (hm : 0 ≤ m ∧ m < n) (hx : n ≤ 100) (K : ∀ z : Int, -2147483648 ≤ z ∧ z ≤ 2147483647 → Wp sc d k (pc + 3) ls (vi z :: r) w nc ns Z) : Wp sc d k pc ls (vi m :: .ref (a_SB + i) :: r) w nc ns Z := by
  have hl : m.toNat < (sB i).length := by omega
  obtain ⟨z, h1, h2⟩ := x_some ((sB i)[m.toNat])
  exact v_sch z hd hk h6 hs hi ⟨hm.1, by omega⟩ (by rw [h2]; exact List.getElem?_eq_getElem hl) (K z h1)
theorem v_iandl {a : Int} {y : Int32} (hd : mLk k pc = some (.iand, len)) (ha : 0 ≤ a ∧ a ≤ 2147483647) (K : ∀ z : Int, 0 ≤ z ∧ z ≤ a → Wp sc d k (pc + 1) ls (vi z :: r) w nc ns Z) : Wp sc d k pc ls (.int y :: vi a :: r) w nc ns Z := by
  have e : (Int32.ofInt a).toInt = a := Int32.toInt_ofInt_of_le (by omega) (by omega)
  have b := and_le (x := Int32.ofInt a) (y := y) (by omega)
  rw [e] at b
  have q := K _ b
  rw [show vi (Int32.ofInt a &&& y).toInt = .int (Int32.ofInt a &&& y) from congrArg Value.int (Int32.ofInt_toInt _)] at q
  exact q_iand hd q
end VX
