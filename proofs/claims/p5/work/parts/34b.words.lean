/-! ===== words ===== -/
noncomputable def pv (b : Int → Int) (r : Int) : Nat → Int
  | 0 => 0
  | n + 1 => 32 * pv b r n + (b (r + (n : Int)) - 96)
noncomputable def wv (b : Int → Int) (r l : Int) : Int := if l - r ≤ 6 then pv b r (l - r).toNat else 0
theorem pv_bd {b : Int → Int} {r : Int} : ∀ n : Nat, (∀ j : Int, r ≤ j → j < r + (n : Int) → 97 ≤ b j ∧ b j ≤ 122) → 0 ≤ pv b r n ∧ (n ≤ 1 → pv b r n < 32) ∧ (n ≤ 2 → pv b r n < 1024) ∧ (n ≤ 3 → pv b r n < 32768) ∧ (n ≤ 4 → pv b r n < 1048576) ∧ (n ≤ 5 → pv b r n < 33554432) ∧ (n ≤ 6 → pv b r n < 1073741824)
  | 0, _ => by
    show (0 : Int) ≤ 0 ∧ _
    exact ⟨by decide, fun _ => by show (0 : Int) < 32; decide, fun _ => by show (0 : Int) < 1024; decide, fun _ => by show (0 : Int) < 32768; decide, fun _ => by show (0 : Int) < 1048576; decide, fun _ => by show (0 : Int) < 33554432; decide, fun _ => by show (0 : Int) < 1073741824; decide⟩
  | n + 1, h => by
    refine hv_ (pv_bd n (fun j h1 h2 => h j h1 (by omega))) (fun ih => ?_)
    refine hv_ (h (r + (n : Int)) (by omega) (by omega)) (fun hb => ?_)
    refine hv_ (p := pv b r (n + 1) = 32 * pv b r n + (b (r + (n : Int)) - 96)) (rfl) (fun e => ?_)
    rw [e]
    obtain ⟨i0, i1, i2, i3, i4, i5, i6⟩ := ih
    refine hv_ (p := n = 0 → pv b r n = 0) (fun q => by rw [q]; rfl) (fun z => ?_)
    refine ⟨by omega, fun q => ?_, fun q => ?_, fun q => ?_, fun q => ?_, fun q => ?_, fun q => ?_⟩
    · have := z (by omega); omega
    · have := i1 (by omega); omega
    · have := i2 (by omega); omega
    · have := i3 (by omega); omega
    · have := i4 (by omega); omega
    · have := i5 (by omega); omega
theorem pv_0 {b : Int → Int} {r : Int} : pv b r 0 = 0 := rfl
theorem pv_1 {b : Int → Int} {r : Int} : pv b r 1 = b r - 96 := by
  show 32 * 0 + (b (r + 0) - 96) = _
  rw [Int.add_zero]; omega
theorem pv_2 {b : Int → Int} {r : Int} : pv b r 2 = 32 * (b r - 96) + (b (r + 1) - 96) := by
  show 32 * pv b r 1 + (b (r + 1) - 96) = _
  rw [pv_1]
theorem pv_3 {b : Int → Int} {r : Int} : pv b r 3 = 1024 * (b r - 96) + 32 * (b (r + 1) - 96) + (b (r + 2) - 96) := by
  show 32 * pv b r 2 + (b (r + 2) - 96) = _
  rw [pv_2]; omega
theorem pv_4 {b : Int → Int} {r : Int} : pv b r 4 = 32768 * (b r - 96) + 1024 * (b (r + 1) - 96) + 32 * (b (r + 2) - 96) + (b (r + 3) - 96) := by
  show 32 * pv b r 3 + (b (r + 3) - 96) = _
  rw [pv_3]; omega
theorem pv_5 {b : Int → Int} {r : Int} : pv b r 5 = 1048576 * (b r - 96) + 32768 * (b (r + 1) - 96) + 1024 * (b (r + 2) - 96) + 32 * (b (r + 3) - 96) + (b (r + 4) - 96) := by
  show 32 * pv b r 4 + (b (r + 4) - 96) = _
  rw [pv_4]; omega
theorem pv_6 {b : Int → Int} {r : Int} : pv b r 6 = 33554432 * (b r - 96) + 1048576 * (b (r + 1) - 96) + 32768 * (b (r + 2) - 96) + 1024 * (b (r + 3) - 96) + 32 * (b (r + 4) - 96) + (b (r + 5) - 96) := by
  show 32 * pv b r 5 + (b (r + 5) - 96) = _
  rw [pv_5]; omega
/-- what a word of letters comes to, by its length -/
theorem wv_by {b : Int → Int} {r l : Int} (hr : r ≤ l) (h : ∀ j : Int, r ≤ j → j < l → 97 ≤ b j ∧ b j ≤ 122) : (6 < l - r ∧ wv b r l = 0) ∨ (l - r = 0 ∧ wv b r l = 0) ∨ (l - r = 1 ∧ wv b r l = b r - 96 ∧ 97 ≤ b r ∧ b r ≤ 122) ∨
    (l - r = 2 ∧ wv b r l = 32 * (b r - 96) + (b (r + 1) - 96) ∧ (97 ≤ b r ∧ b r ≤ 122) ∧ (97 ≤ b (r + 1) ∧ b (r + 1) ≤ 122)) ∨
    (l - r = 3 ∧ wv b r l = 1024 * (b r - 96) + 32 * (b (r + 1) - 96) + (b (r + 2) - 96) ∧ (97 ≤ b r ∧ b r ≤ 122) ∧ (97 ≤ b (r + 1) ∧ b (r + 1) ≤ 122) ∧ (97 ≤ b (r + 2) ∧ b (r + 2) ≤ 122)) ∨
    (l - r = 4 ∧ wv b r l = 32768 * (b r - 96) + 1024 * (b (r + 1) - 96) + 32 * (b (r + 2) - 96) + (b (r + 3) - 96) ∧ (97 ≤ b r ∧ b r ≤ 122) ∧ (97 ≤ b (r + 1) ∧ b (r + 1) ≤ 122) ∧ (97 ≤ b (r + 2) ∧ b (r + 2) ≤ 122) ∧ (97 ≤ b (r + 3) ∧ b (r + 3) ≤ 122)) ∨
    (l - r = 5 ∧ wv b r l = 1048576 * (b r - 96) + 32768 * (b (r + 1) - 96) + 1024 * (b (r + 2) - 96) + 32 * (b (r + 3) - 96) + (b (r + 4) - 96) ∧ (97 ≤ b r ∧ b r ≤ 122) ∧ (97 ≤ b (r + 1) ∧ b (r + 1) ≤ 122) ∧ (97 ≤ b (r + 2) ∧ b (r + 2) ≤ 122) ∧ (97 ≤ b (r + 3) ∧ b (r + 3) ≤ 122) ∧ (97 ≤ b (r + 4) ∧ b (r + 4) ≤ 122)) ∨
    (l - r = 6 ∧ wv b r l = 33554432 * (b r - 96) + 1048576 * (b (r + 1) - 96) + 32768 * (b (r + 2) - 96) + 1024 * (b (r + 3) - 96) + 32 * (b (r + 4) - 96) + (b (r + 5) - 96) ∧ (97 ≤ b r ∧ b r ≤ 122) ∧ (97 ≤ b (r + 1) ∧ b (r + 1) ≤ 122) ∧ (97 ≤ b (r + 2) ∧ b (r + 2) ≤ 122) ∧ (97 ≤ b (r + 3) ∧ b (r + 3) ≤ 122) ∧ (97 ≤ b (r + 4) ∧ b (r + 4) ≤ 122) ∧ (97 ≤ b (r + 5) ∧ b (r + 5) ≤ 122)) := by
  unfold wv
  by_cases q : l - r ≤ 6
  · rw [if_pos q]
    refine hv_ (p := l - r = 0 ∨ l - r = 1 ∨ l - r = 2 ∨ l - r = 3 ∨ l - r = 4 ∨ l - r = 5 ∨ l - r = 6) (by omega) (fun hc => ?_)
    rcases hc with e | e | e | e | e | e | e
    · exact Or.inr (Or.inl ⟨e, by rw [e]; rfl⟩)
    · exact Or.inr (Or.inr (Or.inl ⟨e, by rw [e]; exact pv_1, h r (by omega) (by omega)⟩))
    · exact Or.inr (Or.inr (Or.inr (Or.inl ⟨e, by rw [e]; exact pv_2, h r (by omega) (by omega), h (r + 1) (by omega) (by omega)⟩)))
    · exact Or.inr (Or.inr (Or.inr (Or.inr (Or.inl ⟨e, by rw [e]; exact pv_3, h r (by omega) (by omega), h (r + 1) (by omega) (by omega), h (r + 2) (by omega) (by omega)⟩))))
    · exact Or.inr (Or.inr (Or.inr (Or.inr (Or.inr (Or.inl ⟨e, by rw [e]; exact pv_4, h r (by omega) (by omega), h (r + 1) (by omega) (by omega), h (r + 2) (by omega) (by omega), h (r + 3) (by omega) (by omega)⟩)))))
    · exact Or.inr (Or.inr (Or.inr (Or.inr (Or.inr (Or.inr (Or.inl ⟨e, by rw [e]; exact pv_5, h r (by omega) (by omega), h (r + 1) (by omega) (by omega), h (r + 2) (by omega) (by omega), h (r + 3) (by omega) (by omega), h (r + 4) (by omega) (by omega)⟩))))))
    · exact Or.inr (Or.inr (Or.inr (Or.inr (Or.inr (Or.inr (Or.inr ⟨e, by rw [e]; exact pv_6, h r (by omega) (by omega), h (r + 1) (by omega) (by omega), h (r + 2) (by omega) (by omega), h (r + 3) (by omega) (by omega), h (r + 4) (by omega) (by omega), h (r + 5) (by omega) (by omega)⟩))))))
  · rw [if_neg q]
    exact Or.inl ⟨by omega, rfl⟩
theorem wv_tr {f g : Int → Int} {r l : Int} (h : Ub f g) (hr : 0 ≤ r) (hl : l ≤ 600) (hf : ∀ j : Int, r ≤ j → j < l → 97 ≤ f j ∧ f j ≤ 122) : wv g r l = wv f r l := by
  have key : ∀ n : Nat, r + (n : Int) ≤ l → pv g r n = pv f r n := by
    intro n
    induction n with
    | zero => intro _; rfl
    | succ n ih =>
      intro hn
      show 32 * pv g r n + (g (r + (n : Int)) - 96) = 32 * pv f r n + (f (r + (n : Int)) - 96)
      refine hv_ (h (r + (n : Int)) (by omega) (by omega)) (fun h1 => ?_)
      refine hv_ (hf (r + (n : Int)) (by omega) (by omega)) (fun h2 => ?_)
      rw [ih (by omega), show g (r + (n : Int)) = f (r + (n : Int)) by omega]
  unfold wv
  by_cases q : l - r ≤ 6
  · rw [if_pos q, if_pos q]
    by_cases q2 : r ≤ l
    · exact key _ (by omega)
    · rw [show (l - r).toNat = 0 by omega]; rfl
  · rw [if_neg q, if_neg q]
theorem wv_bd {b : Int → Int} {r l : Int} (h : ∀ j : Int, r ≤ j → j < l → 97 ≤ b j ∧ b j ≤ 122) : 0 ≤ wv b r l ∧ wv b r l ≤ 1073741823 := by
  unfold wv
  by_cases q : l - r ≤ 6
  · rw [if_pos q]
    by_cases q2 : r ≤ l
    · have := pv_bd (b := b) (r := r) (l - r).toNat (fun j h1 h2 => h j h1 (by omega))
      refine hv_ (this.2.2.2.2.2.2 (by omega)) (fun h6 => ?_)
      exact ⟨this.1, by omega⟩
    · rw [show (l - r).toNat = 0 by omega, pv_0]
      exact ⟨by decide, by decide⟩
  · rw [if_neg q]
    exact ⟨by decide, by decide⟩
theorem wq_again {b : Int → Int} {r l : Int} (hr : r ≤ l) (h : ∀ j : Int, r ≤ j → j < l → 97 ≤ b j ∧ b j ≤ 122) : (wv b r l = 1279278 ∧ l - r = 5 ∧ b r = 97 ∧ b (r + 1) = 103 ∧ b (r + 2) = 97 ∧ b (r + 3) = 105 ∧ b (r + 4) = 110) ∨ (¬ wv b r l = 1279278 ∧ ¬ (l - r = 5 ∧ b r = 97 ∧ b (r + 1) = 103 ∧ b (r + 2) = 97 ∧ b (r + 3) = 105 ∧ b (r + 4) = 110)) := by
  rcases wv_by hr h with e | e | e | e | e | e | e | e <;> omega
theorem wq_age {b : Int → Int} {r l : Int} (hr : r ≤ l) (h : ∀ j : Int, r ≤ j → j < l → 97 ≤ b j ∧ b j ≤ 122) : (wv b r l = 1253 ∧ l - r = 3 ∧ b r = 97 ∧ b (r + 1) = 103 ∧ b (r + 2) = 101) ∨ (¬ wv b r l = 1253 ∧ ¬ (l - r = 3 ∧ b r = 97 ∧ b (r + 1) = 103 ∧ b (r + 2) = 101)) := by
  rcases wv_by hr h with e | e | e | e | e | e | e | e <;> omega
theorem wq_all {b : Int → Int} {r l : Int} (hr : r ≤ l) (h : ∀ j : Int, r ≤ j → j < l → 97 ≤ b j ∧ b j ≤ 122) : (wv b r l = 1420 ∧ l - r = 3 ∧ b r = 97 ∧ b (r + 1) = 108 ∧ b (r + 2) = 108) ∨ (¬ wv b r l = 1420 ∧ ¬ (l - r = 3 ∧ b r = 97 ∧ b (r + 1) = 108 ∧ b (r + 2) = 108)) := by
  rcases wv_by hr h with e | e | e | e | e | e | e | e <;> omega
theorem wq_coarse {b : Int → Int} {r l : Int} (hr : r ≤ l) (h : ∀ j : Int, r ≤ j → j < l → 97 ≤ b j ∧ b j ≤ 122) : (wv b r l = 116443749 ∧ l - r = 6 ∧ b r = 99 ∧ b (r + 1) = 111 ∧ b (r + 2) = 97 ∧ b (r + 3) = 114 ∧ b (r + 4) = 115 ∧ b (r + 5) = 101) ∨ (¬ wv b r l = 116443749 ∧ ¬ (l - r = 6 ∧ b r = 99 ∧ b (r + 1) = 111 ∧ b (r + 2) = 97 ∧ b (r + 3) = 114 ∧ b (r + 4) = 115 ∧ b (r + 5) = 101)) := by
  rcases wv_by hr h with e | e | e | e | e | e | e | e <;> omega
theorem wq_day {b : Int → Int} {r l : Int} (hr : r ≤ l) (h : ∀ j : Int, r ≤ j → j < l → 97 ≤ b j ∧ b j ≤ 122) : (wv b r l = 4153 ∧ l - r = 3 ∧ b r = 100 ∧ b (r + 1) = 97 ∧ b (r + 2) = 121) ∨ (¬ wv b r l = 4153 ∧ ¬ (l - r = 3 ∧ b r = 100 ∧ b (r + 1) = 97 ∧ b (r + 2) = 121)) := by
  rcases wv_by hr h with e | e | e | e | e | e | e | e <;> omega
theorem wq_dust {b : Int → Int} {r l : Int} (hr : r ≤ l) (h : ∀ j : Int, r ≤ j → j < l → 97 ≤ b j ∧ b j ≤ 122) : (wv b r l = 153204 ∧ l - r = 4 ∧ b r = 100 ∧ b (r + 1) = 117 ∧ b (r + 2) = 115 ∧ b (r + 3) = 116) ∨ (¬ wv b r l = 153204 ∧ ¬ (l - r = 4 ∧ b r = 100 ∧ b (r + 1) = 117 ∧ b (r + 2) = 115 ∧ b (r + 3) = 116)) := by
  rcases wv_by hr h with e | e | e | e | e | e | e | e <;> omega
theorem wq_fine {b : Int → Int} {r l : Int} (hr : r ≤ l) (h : ∀ j : Int, r ≤ j → j < l → 97 ≤ b j ∧ b j ≤ 122) : (wv b r l = 206277 ∧ l - r = 4 ∧ b r = 102 ∧ b (r + 1) = 105 ∧ b (r + 2) = 110 ∧ b (r + 3) = 101) ∨ (¬ wv b r l = 206277 ∧ ¬ (l - r = 4 ∧ b r = 102 ∧ b (r + 1) = 105 ∧ b (r + 2) = 110 ∧ b (r + 3) = 101)) := by
  rcases wv_by hr h with e | e | e | e | e | e | e | e <;> omega
theorem wq_grind {b : Int → Int} {r l : Int} (hr : r ≤ l) (h : ∀ j : Int, r ≤ j → j < l → 97 ≤ b j ∧ b j ≤ 122) : (wv b r l = 7939524 ∧ l - r = 5 ∧ b r = 103 ∧ b (r + 1) = 114 ∧ b (r + 2) = 105 ∧ b (r + 3) = 110 ∧ b (r + 4) = 100) ∨ (¬ wv b r l = 7939524 ∧ ¬ (l - r = 5 ∧ b r = 103 ∧ b (r + 1) = 114 ∧ b (r + 2) = 105 ∧ b (r + 3) = 110 ∧ b (r + 4) = 100)) := by
  rcases wv_by hr h with e | e | e | e | e | e | e | e <;> omega
theorem wq_husk {b : Int → Int} {r l : Int} (hr : r ≤ l) (h : ∀ j : Int, r ≤ j → j < l → 97 ≤ b j ∧ b j ≤ 122) : (wv b r l = 284267 ∧ l - r = 4 ∧ b r = 104 ∧ b (r + 1) = 117 ∧ b (r + 2) = 115 ∧ b (r + 3) = 107) ∨ (¬ wv b r l = 284267 ∧ ¬ (l - r = 4 ∧ b r = 104 ∧ b (r + 1) = 117 ∧ b (r + 2) = 115 ∧ b (r + 3) = 107)) := by
  rcases wv_by hr h with e | e | e | e | e | e | e | e <;> omega
theorem wq_jar {b : Int → Int} {r l : Int} (hr : r ≤ l) (h : ∀ j : Int, r ≤ j → j < l → 97 ≤ b j ∧ b j ≤ 122) : (wv b r l = 10290 ∧ l - r = 3 ∧ b r = 106 ∧ b (r + 1) = 97 ∧ b (r + 2) = 114) ∨ (¬ wv b r l = 10290 ∧ ¬ (l - r = 3 ∧ b r = 106 ∧ b (r + 1) = 97 ∧ b (r + 2) = 114)) := by
  rcases wv_by hr h with e | e | e | e | e | e | e | e <;> omega
theorem wq_least {b : Int → Int} {r l : Int} (hr : r ≤ l) (h : ∀ j : Int, r ≤ j → j < l → 97 ≤ b j ∧ b j ≤ 122) : (wv b r l = 12748404 ∧ l - r = 5 ∧ b r = 108 ∧ b (r + 1) = 101 ∧ b (r + 2) = 97 ∧ b (r + 3) = 115 ∧ b (r + 4) = 116) ∨ (¬ wv b r l = 12748404 ∧ ¬ (l - r = 5 ∧ b r = 108 ∧ b (r + 1) = 101 ∧ b (r + 2) = 97 ∧ b (r + 3) = 115 ∧ b (r + 4) = 116)) := by
  rcases wv_by hr h with e | e | e | e | e | e | e | e <;> omega
theorem wq_mid {b : Int → Int} {r l : Int} (hr : r ≤ l) (h : ∀ j : Int, r ≤ j → j < l → 97 ≤ b j ∧ b j ≤ 122) : (wv b r l = 13604 ∧ l - r = 3 ∧ b r = 109 ∧ b (r + 1) = 105 ∧ b (r + 2) = 100) ∨ (¬ wv b r l = 13604 ∧ ¬ (l - r = 3 ∧ b r = 109 ∧ b (r + 1) = 105 ∧ b (r + 2) = 100)) := by
  rcases wv_by hr h with e | e | e | e | e | e | e | e <;> omega
theorem wq_most {b : Int → Int} {r l : Int} (hr : r ≤ l) (h : ∀ j : Int, r ≤ j → j < l → 97 ≤ b j ∧ b j ≤ 122) : (wv b r l = 441972 ∧ l - r = 4 ∧ b r = 109 ∧ b (r + 1) = 111 ∧ b (r + 2) = 115 ∧ b (r + 3) = 116) ∨ (¬ wv b r l = 441972 ∧ ¬ (l - r = 4 ∧ b r = 109 ∧ b (r + 1) = 111 ∧ b (r + 2) = 115 ∧ b (r + 3) = 116)) := by
  rcases wv_by hr h with e | e | e | e | e | e | e | e <;> omega
theorem wq_pour {b : Int → Int} {r l : Int} (hr : r ≤ l) (h : ∀ j : Int, r ≤ j → j < l → 97 ≤ b j ∧ b j ≤ 122) : (wv b r l = 540338 ∧ l - r = 4 ∧ b r = 112 ∧ b (r + 1) = 111 ∧ b (r + 2) = 117 ∧ b (r + 3) = 114) ∨ (¬ wv b r l = 540338 ∧ ¬ (l - r = 4 ∧ b r = 112 ∧ b (r + 1) = 111 ∧ b (r + 2) = 117 ∧ b (r + 3) = 114)) := by
  rcases wv_by hr h with e | e | e | e | e | e | e | e <;> omega
theorem wq_scoop {b : Int → Int} {r l : Int} (hr : r ≤ l) (h : ∀ j : Int, r ≤ j → j < l → 97 ≤ b j ∧ b j ≤ 122) : (wv b r l = 20037104 ∧ l - r = 5 ∧ b r = 115 ∧ b (r + 1) = 99 ∧ b (r + 2) = 111 ∧ b (r + 3) = 111 ∧ b (r + 4) = 112) ∨ (¬ wv b r l = 20037104 ∧ ¬ (l - r = 5 ∧ b r = 115 ∧ b (r + 1) = 99 ∧ b (r + 2) = 111 ∧ b (r + 3) = 111 ∧ b (r + 4) = 112)) := by
  rcases wv_by hr h with e | e | e | e | e | e | e | e <;> omega
theorem wq_sell {b : Int → Int} {r l : Int} (hr : r ≤ l) (h : ∀ j : Int, r ≤ j → j < l → 97 ≤ b j ∧ b j ≤ 122) : (wv b r l = 628108 ∧ l - r = 4 ∧ b r = 115 ∧ b (r + 1) = 101 ∧ b (r + 2) = 108 ∧ b (r + 3) = 108) ∨ (¬ wv b r l = 628108 ∧ ¬ (l - r = 4 ∧ b r = 115 ∧ b (r + 1) = 101 ∧ b (r + 2) = 108 ∧ b (r + 3) = 108)) := by
  rcases wv_by hr h with e | e | e | e | e | e | e | e <;> omega
theorem wq_sieve {b : Int → Int} {r l : Int} (hr : r ≤ l) (h : ∀ j : Int, r ≤ j → j < l → 97 ≤ b j ∧ b j ≤ 122) : (wv b r l = 20223685 ∧ l - r = 5 ∧ b r = 115 ∧ b (r + 1) = 105 ∧ b (r + 2) = 101 ∧ b (r + 3) = 118 ∧ b (r + 4) = 101) ∨ (¬ wv b r l = 20223685 ∧ ¬ (l - r = 5 ∧ b r = 115 ∧ b (r + 1) = 105 ∧ b (r + 2) = 101 ∧ b (r + 3) = 118 ∧ b (r + 4) = 101)) := by
  rcases wv_by hr h with e | e | e | e | e | e | e | e <;> omega
theorem wq_sift {b : Int → Int} {r l : Int} (hr : r ≤ l) (h : ∀ j : Int, r ≤ j → j < l → 97 ≤ b j ∧ b j ≤ 122) : (wv b r l = 632020 ∧ l - r = 4 ∧ b r = 115 ∧ b (r + 1) = 105 ∧ b (r + 2) = 102 ∧ b (r + 3) = 116) ∨ (¬ wv b r l = 632020 ∧ ¬ (l - r = 4 ∧ b r = 115 ∧ b (r + 1) = 105 ∧ b (r + 2) = 102 ∧ b (r + 3) = 116)) := by
  rcases wv_by hr h with e | e | e | e | e | e | e | e <;> omega
theorem wq_stone {b : Int → Int} {r l : Int} (hr : r ≤ l) (h : ∀ j : Int, r ≤ j → j < l → 97 ≤ b j ∧ b j ≤ 122) : (wv b r l = 20594117 ∧ l - r = 5 ∧ b r = 115 ∧ b (r + 1) = 116 ∧ b (r + 2) = 111 ∧ b (r + 3) = 110 ∧ b (r + 4) = 101) ∨ (¬ wv b r l = 20594117 ∧ ¬ (l - r = 5 ∧ b r = 115 ∧ b (r + 1) = 116 ∧ b (r + 2) = 111 ∧ b (r + 3) = 110 ∧ b (r + 4) = 101)) := by
  rcases wv_by hr h with e | e | e | e | e | e | e | e <;> omega
theorem wq_tear {b : Int → Int} {r l : Int} (hr : r ≤ l) (h : ∀ j : Int, r ≤ j → j < l → 97 ≤ b j ∧ b j ≤ 122) : (wv b r l = 660530 ∧ l - r = 4 ∧ b r = 116 ∧ b (r + 1) = 101 ∧ b (r + 2) = 97 ∧ b (r + 3) = 114) ∨ (¬ wv b r l = 660530 ∧ ¬ (l - r = 4 ∧ b r = 116 ∧ b (r + 1) = 101 ∧ b (r + 2) = 97 ∧ b (r + 3) = 114)) := by
  rcases wv_by hr h with e | e | e | e | e | e | e | e <;> omega
noncomputable def wd8_4 (_ : Int → Int) (_ _ : Int) : Int := -1
noncomputable def wd8_3 (b : Int → Int) (r l : Int) : Int := if l - r = 4 ∧ b r = 100 ∧ b (r + 1) = 117 ∧ b (r + 2) = 115 ∧ b (r + 3) = 116 then 3 else wd8_4 b r l
noncomputable def wd8_2 (b : Int → Int) (r l : Int) : Int := if l - r = 5 ∧ b r = 115 ∧ b (r + 1) = 105 ∧ b (r + 2) = 101 ∧ b (r + 3) = 118 ∧ b (r + 4) = 101 then 2 else wd8_3 b r l
noncomputable def wd8_1 (b : Int → Int) (r l : Int) : Int := if l - r = 5 ∧ b r = 115 ∧ b (r + 1) = 116 ∧ b (r + 2) = 111 ∧ b (r + 3) = 110 ∧ b (r + 4) = 101 then 1 else wd8_2 b r l
noncomputable def wd8_0 (b : Int → Int) (r l : Int) : Int := if l - r = 3 ∧ b r = 106 ∧ b (r + 1) = 97 ∧ b (r + 2) = 114 then 0 else wd8_1 b r l
theorem wd8_0_t {b : Int → Int} {r l : Int} (h : l - r = 3 ∧ b r = 106 ∧ b (r + 1) = 97 ∧ b (r + 2) = 114) : wd8_0 b r l = 0 := if_pos h
theorem wd8_0_f {b : Int → Int} {r l : Int} (h : ¬ (l - r = 3 ∧ b r = 106 ∧ b (r + 1) = 97 ∧ b (r + 2) = 114)) : wd8_0 b r l = wd8_1 b r l := if_neg h
theorem wd8_1_t {b : Int → Int} {r l : Int} (h : l - r = 5 ∧ b r = 115 ∧ b (r + 1) = 116 ∧ b (r + 2) = 111 ∧ b (r + 3) = 110 ∧ b (r + 4) = 101) : wd8_1 b r l = 1 := if_pos h
theorem wd8_1_f {b : Int → Int} {r l : Int} (h : ¬ (l - r = 5 ∧ b r = 115 ∧ b (r + 1) = 116 ∧ b (r + 2) = 111 ∧ b (r + 3) = 110 ∧ b (r + 4) = 101)) : wd8_1 b r l = wd8_2 b r l := if_neg h
theorem wd8_2_t {b : Int → Int} {r l : Int} (h : l - r = 5 ∧ b r = 115 ∧ b (r + 1) = 105 ∧ b (r + 2) = 101 ∧ b (r + 3) = 118 ∧ b (r + 4) = 101) : wd8_2 b r l = 2 := if_pos h
theorem wd8_2_f {b : Int → Int} {r l : Int} (h : ¬ (l - r = 5 ∧ b r = 115 ∧ b (r + 1) = 105 ∧ b (r + 2) = 101 ∧ b (r + 3) = 118 ∧ b (r + 4) = 101)) : wd8_2 b r l = wd8_3 b r l := if_neg h
theorem wd8_3_t {b : Int → Int} {r l : Int} (h : l - r = 4 ∧ b r = 100 ∧ b (r + 1) = 117 ∧ b (r + 2) = 115 ∧ b (r + 3) = 116) : wd8_3 b r l = 3 := if_pos h
theorem wd8_3_f {b : Int → Int} {r l : Int} (h : ¬ (l - r = 4 ∧ b r = 100 ∧ b (r + 1) = 117 ∧ b (r + 2) = 115 ∧ b (r + 3) = 116)) : wd8_3 b r l = wd8_4 b r l := if_neg h
theorem wr8 {b : Int → Int} {r l : Int} (hr : r ≤ l) (h : ∀ j : Int, r ≤ j → j < l → 97 ≤ b j ∧ b j ≤ 122) : (wd8_0 b r l = 0 ∧ wv b r l = 10290) ∨ (wd8_0 b r l = 1 ∧ wv b r l = 20594117) ∨ (wd8_0 b r l = 2 ∧ wv b r l = 20223685) ∨ (wd8_0 b r l = 3 ∧ wv b r l = 153204) ∨ (wd8_0 b r l = -1 ∧ ¬ wv b r l = 10290 ∧ ¬ wv b r l = 20594117 ∧ ¬ wv b r l = 20223685 ∧ ¬ wv b r l = 153204) := by
  rcases wq_jar hr h with ⟨a0, b0⟩ | ⟨a0, b0⟩
  · exact (Or.inl ⟨show wd8_0 b r l = 0 from wd8_0_t b0, a0⟩)
  rcases wq_stone hr h with ⟨a1, b1⟩ | ⟨a1, b1⟩
  · exact (Or.inr (Or.inl ⟨show wd8_0 b r l = 1 from (wd8_0_f b0).trans (wd8_1_t b1), a1⟩))
  rcases wq_sieve hr h with ⟨a2, b2⟩ | ⟨a2, b2⟩
  · exact (Or.inr (Or.inr (Or.inl ⟨show wd8_0 b r l = 2 from (wd8_0_f b0).trans ((wd8_1_f b1).trans (wd8_2_t b2)), a2⟩)))
  rcases wq_dust hr h with ⟨a3, b3⟩ | ⟨a3, b3⟩
  · exact (Or.inr (Or.inr (Or.inr (Or.inl ⟨show wd8_0 b r l = 3 from (wd8_0_f b0).trans ((wd8_1_f b1).trans ((wd8_2_f b2).trans (wd8_3_t b3))), a3⟩))))
  exact (Or.inr (Or.inr (Or.inr (Or.inr ⟨show wd8_0 b r l = -1 from (wd8_0_f b0).trans ((wd8_1_f b1).trans ((wd8_2_f b2).trans ((wd8_3_f b3).trans (rfl)))), a0, a1, a2, a3⟩))))
noncomputable def wd1_10 (_ : Int → Int) (_ _ : Int) : Int := -1
noncomputable def wd1_9 (b : Int → Int) (r l : Int) : Int := if l - r = 4 ∧ b r = 109 ∧ b (r + 1) = 111 ∧ b (r + 2) = 115 ∧ b (r + 3) = 116 then 9 else wd1_10 b r l
noncomputable def wd1_8 (b : Int → Int) (r l : Int) : Int := if l - r = 5 ∧ b r = 108 ∧ b (r + 1) = 101 ∧ b (r + 2) = 97 ∧ b (r + 3) = 115 ∧ b (r + 4) = 116 then 8 else wd1_9 b r l
noncomputable def wd1_7 (b : Int → Int) (r l : Int) : Int := if l - r = 3 ∧ b r = 106 ∧ b (r + 1) = 97 ∧ b (r + 2) = 114 then 7 else wd1_8 b r l
noncomputable def wd1_6 (b : Int → Int) (r l : Int) : Int := if l - r = 3 ∧ b r = 100 ∧ b (r + 1) = 97 ∧ b (r + 2) = 121 then 6 else wd1_7 b r l
noncomputable def wd1_5 (b : Int → Int) (r l : Int) : Int := if l - r = 3 ∧ b r = 97 ∧ b (r + 1) = 103 ∧ b (r + 2) = 101 then 5 else wd1_6 b r l
noncomputable def wd1_4 (b : Int → Int) (r l : Int) : Int := if l - r = 3 ∧ b r = 97 ∧ b (r + 1) = 108 ∧ b (r + 2) = 108 then 4 else wd1_5 b r l
noncomputable def wd1_3 (b : Int → Int) (r l : Int) : Int := if l - r = 4 ∧ b r = 104 ∧ b (r + 1) = 117 ∧ b (r + 2) = 115 ∧ b (r + 3) = 107 then 3 else wd1_4 b r l
noncomputable def wd1_2 (b : Int → Int) (r l : Int) : Int := if l - r = 6 ∧ b r = 99 ∧ b (r + 1) = 111 ∧ b (r + 2) = 97 ∧ b (r + 3) = 114 ∧ b (r + 4) = 115 ∧ b (r + 5) = 101 then 2 else wd1_3 b r l
noncomputable def wd1_1 (b : Int → Int) (r l : Int) : Int := if l - r = 3 ∧ b r = 109 ∧ b (r + 1) = 105 ∧ b (r + 2) = 100 then 1 else wd1_2 b r l
noncomputable def wd1_0 (b : Int → Int) (r l : Int) : Int := if l - r = 4 ∧ b r = 102 ∧ b (r + 1) = 105 ∧ b (r + 2) = 110 ∧ b (r + 3) = 101 then 0 else wd1_1 b r l
theorem wd1_0_t {b : Int → Int} {r l : Int} (h : l - r = 4 ∧ b r = 102 ∧ b (r + 1) = 105 ∧ b (r + 2) = 110 ∧ b (r + 3) = 101) : wd1_0 b r l = 0 := if_pos h
theorem wd1_0_f {b : Int → Int} {r l : Int} (h : ¬ (l - r = 4 ∧ b r = 102 ∧ b (r + 1) = 105 ∧ b (r + 2) = 110 ∧ b (r + 3) = 101)) : wd1_0 b r l = wd1_1 b r l := if_neg h
theorem wd1_1_t {b : Int → Int} {r l : Int} (h : l - r = 3 ∧ b r = 109 ∧ b (r + 1) = 105 ∧ b (r + 2) = 100) : wd1_1 b r l = 1 := if_pos h
theorem wd1_1_f {b : Int → Int} {r l : Int} (h : ¬ (l - r = 3 ∧ b r = 109 ∧ b (r + 1) = 105 ∧ b (r + 2) = 100)) : wd1_1 b r l = wd1_2 b r l := if_neg h
theorem wd1_2_t {b : Int → Int} {r l : Int} (h : l - r = 6 ∧ b r = 99 ∧ b (r + 1) = 111 ∧ b (r + 2) = 97 ∧ b (r + 3) = 114 ∧ b (r + 4) = 115 ∧ b (r + 5) = 101) : wd1_2 b r l = 2 := if_pos h
theorem wd1_2_f {b : Int → Int} {r l : Int} (h : ¬ (l - r = 6 ∧ b r = 99 ∧ b (r + 1) = 111 ∧ b (r + 2) = 97 ∧ b (r + 3) = 114 ∧ b (r + 4) = 115 ∧ b (r + 5) = 101)) : wd1_2 b r l = wd1_3 b r l := if_neg h
theorem wd1_3_t {b : Int → Int} {r l : Int} (h : l - r = 4 ∧ b r = 104 ∧ b (r + 1) = 117 ∧ b (r + 2) = 115 ∧ b (r + 3) = 107) : wd1_3 b r l = 3 := if_pos h
theorem wd1_3_f {b : Int → Int} {r l : Int} (h : ¬ (l - r = 4 ∧ b r = 104 ∧ b (r + 1) = 117 ∧ b (r + 2) = 115 ∧ b (r + 3) = 107)) : wd1_3 b r l = wd1_4 b r l := if_neg h
theorem wd1_4_t {b : Int → Int} {r l : Int} (h : l - r = 3 ∧ b r = 97 ∧ b (r + 1) = 108 ∧ b (r + 2) = 108) : wd1_4 b r l = 4 := if_pos h
theorem wd1_4_f {b : Int → Int} {r l : Int} (h : ¬ (l - r = 3 ∧ b r = 97 ∧ b (r + 1) = 108 ∧ b (r + 2) = 108)) : wd1_4 b r l = wd1_5 b r l := if_neg h
theorem wd1_5_t {b : Int → Int} {r l : Int} (h : l - r = 3 ∧ b r = 97 ∧ b (r + 1) = 103 ∧ b (r + 2) = 101) : wd1_5 b r l = 5 := if_pos h
theorem wd1_5_f {b : Int → Int} {r l : Int} (h : ¬ (l - r = 3 ∧ b r = 97 ∧ b (r + 1) = 103 ∧ b (r + 2) = 101)) : wd1_5 b r l = wd1_6 b r l := if_neg h
theorem wd1_6_t {b : Int → Int} {r l : Int} (h : l - r = 3 ∧ b r = 100 ∧ b (r + 1) = 97 ∧ b (r + 2) = 121) : wd1_6 b r l = 6 := if_pos h
theorem wd1_6_f {b : Int → Int} {r l : Int} (h : ¬ (l - r = 3 ∧ b r = 100 ∧ b (r + 1) = 97 ∧ b (r + 2) = 121)) : wd1_6 b r l = wd1_7 b r l := if_neg h
theorem wd1_7_t {b : Int → Int} {r l : Int} (h : l - r = 3 ∧ b r = 106 ∧ b (r + 1) = 97 ∧ b (r + 2) = 114) : wd1_7 b r l = 7 := if_pos h
theorem wd1_7_f {b : Int → Int} {r l : Int} (h : ¬ (l - r = 3 ∧ b r = 106 ∧ b (r + 1) = 97 ∧ b (r + 2) = 114)) : wd1_7 b r l = wd1_8 b r l := if_neg h
theorem wd1_8_t {b : Int → Int} {r l : Int} (h : l - r = 5 ∧ b r = 108 ∧ b (r + 1) = 101 ∧ b (r + 2) = 97 ∧ b (r + 3) = 115 ∧ b (r + 4) = 116) : wd1_8 b r l = 8 := if_pos h
theorem wd1_8_f {b : Int → Int} {r l : Int} (h : ¬ (l - r = 5 ∧ b r = 108 ∧ b (r + 1) = 101 ∧ b (r + 2) = 97 ∧ b (r + 3) = 115 ∧ b (r + 4) = 116)) : wd1_8 b r l = wd1_9 b r l := if_neg h
theorem wd1_9_t {b : Int → Int} {r l : Int} (h : l - r = 4 ∧ b r = 109 ∧ b (r + 1) = 111 ∧ b (r + 2) = 115 ∧ b (r + 3) = 116) : wd1_9 b r l = 9 := if_pos h
theorem wd1_9_f {b : Int → Int} {r l : Int} (h : ¬ (l - r = 4 ∧ b r = 109 ∧ b (r + 1) = 111 ∧ b (r + 2) = 115 ∧ b (r + 3) = 116)) : wd1_9 b r l = wd1_10 b r l := if_neg h
theorem wr1 {b : Int → Int} {r l : Int} (hr : r ≤ l) (h : ∀ j : Int, r ≤ j → j < l → 97 ≤ b j ∧ b j ≤ 122) : (wd1_0 b r l = 0 ∧ wv b r l = 206277) ∨ (wd1_0 b r l = 1 ∧ wv b r l = 13604) ∨ (wd1_0 b r l = 2 ∧ wv b r l = 116443749) ∨ (wd1_0 b r l = 3 ∧ wv b r l = 284267) ∨ (wd1_0 b r l = 4 ∧ wv b r l = 1420) ∨ (wd1_0 b r l = 5 ∧ wv b r l = 1253) ∨ (wd1_0 b r l = 6 ∧ wv b r l = 4153) ∨ (wd1_0 b r l = 7 ∧ wv b r l = 10290) ∨ (wd1_0 b r l = 8 ∧ wv b r l = 12748404) ∨ (wd1_0 b r l = 9 ∧ wv b r l = 441972) ∨ (wd1_0 b r l = -1 ∧ ¬ wv b r l = 206277 ∧ ¬ wv b r l = 13604 ∧ ¬ wv b r l = 116443749 ∧ ¬ wv b r l = 284267 ∧ ¬ wv b r l = 1420 ∧ ¬ wv b r l = 1253 ∧ ¬ wv b r l = 4153 ∧ ¬ wv b r l = 10290 ∧ ¬ wv b r l = 12748404 ∧ ¬ wv b r l = 441972) := by
  rcases wq_fine hr h with ⟨a0, b0⟩ | ⟨a0, b0⟩
  · exact (Or.inl ⟨show wd1_0 b r l = 0 from wd1_0_t b0, a0⟩)
  rcases wq_mid hr h with ⟨a1, b1⟩ | ⟨a1, b1⟩
  · exact (Or.inr (Or.inl ⟨show wd1_0 b r l = 1 from (wd1_0_f b0).trans (wd1_1_t b1), a1⟩))
  rcases wq_coarse hr h with ⟨a2, b2⟩ | ⟨a2, b2⟩
  · exact (Or.inr (Or.inr (Or.inl ⟨show wd1_0 b r l = 2 from (wd1_0_f b0).trans ((wd1_1_f b1).trans (wd1_2_t b2)), a2⟩)))
  rcases wq_husk hr h with ⟨a3, b3⟩ | ⟨a3, b3⟩
  · exact (Or.inr (Or.inr (Or.inr (Or.inl ⟨show wd1_0 b r l = 3 from (wd1_0_f b0).trans ((wd1_1_f b1).trans ((wd1_2_f b2).trans (wd1_3_t b3))), a3⟩))))
  rcases wq_all hr h with ⟨a4, b4⟩ | ⟨a4, b4⟩
  · exact (Or.inr (Or.inr (Or.inr (Or.inr (Or.inl ⟨show wd1_0 b r l = 4 from (wd1_0_f b0).trans ((wd1_1_f b1).trans ((wd1_2_f b2).trans ((wd1_3_f b3).trans (wd1_4_t b4)))), a4⟩)))))
  rcases wq_age hr h with ⟨a5, b5⟩ | ⟨a5, b5⟩
  · exact (Or.inr (Or.inr (Or.inr (Or.inr (Or.inr (Or.inl ⟨show wd1_0 b r l = 5 from (wd1_0_f b0).trans ((wd1_1_f b1).trans ((wd1_2_f b2).trans ((wd1_3_f b3).trans ((wd1_4_f b4).trans (wd1_5_t b5))))), a5⟩))))))
  rcases wq_day hr h with ⟨a6, b6⟩ | ⟨a6, b6⟩
  · exact (Or.inr (Or.inr (Or.inr (Or.inr (Or.inr (Or.inr (Or.inl ⟨show wd1_0 b r l = 6 from (wd1_0_f b0).trans ((wd1_1_f b1).trans ((wd1_2_f b2).trans ((wd1_3_f b3).trans ((wd1_4_f b4).trans ((wd1_5_f b5).trans (wd1_6_t b6)))))), a6⟩)))))))
  rcases wq_jar hr h with ⟨a7, b7⟩ | ⟨a7, b7⟩
  · exact (Or.inr (Or.inr (Or.inr (Or.inr (Or.inr (Or.inr (Or.inr (Or.inl ⟨show wd1_0 b r l = 7 from (wd1_0_f b0).trans ((wd1_1_f b1).trans ((wd1_2_f b2).trans ((wd1_3_f b3).trans ((wd1_4_f b4).trans ((wd1_5_f b5).trans ((wd1_6_f b6).trans (wd1_7_t b7))))))), a7⟩))))))))
  rcases wq_least hr h with ⟨a8, b8⟩ | ⟨a8, b8⟩
  · exact (Or.inr (Or.inr (Or.inr (Or.inr (Or.inr (Or.inr (Or.inr (Or.inr (Or.inl ⟨show wd1_0 b r l = 8 from (wd1_0_f b0).trans ((wd1_1_f b1).trans ((wd1_2_f b2).trans ((wd1_3_f b3).trans ((wd1_4_f b4).trans ((wd1_5_f b5).trans ((wd1_6_f b6).trans ((wd1_7_f b7).trans (wd1_8_t b8)))))))), a8⟩)))))))))
  rcases wq_most hr h with ⟨a9, b9⟩ | ⟨a9, b9⟩
  · exact (Or.inr (Or.inr (Or.inr (Or.inr (Or.inr (Or.inr (Or.inr (Or.inr (Or.inr (Or.inl ⟨show wd1_0 b r l = 9 from (wd1_0_f b0).trans ((wd1_1_f b1).trans ((wd1_2_f b2).trans ((wd1_3_f b3).trans ((wd1_4_f b4).trans ((wd1_5_f b5).trans ((wd1_6_f b6).trans ((wd1_7_f b7).trans ((wd1_8_f b8).trans (wd1_9_t b9))))))))), a9⟩))))))))))
  exact (Or.inr (Or.inr (Or.inr (Or.inr (Or.inr (Or.inr (Or.inr (Or.inr (Or.inr (Or.inr ⟨show wd1_0 b r l = -1 from (wd1_0_f b0).trans ((wd1_1_f b1).trans ((wd1_2_f b2).trans ((wd1_3_f b3).trans ((wd1_4_f b4).trans ((wd1_5_f b5).trans ((wd1_6_f b6).trans ((wd1_7_f b7).trans ((wd1_8_f b8).trans ((wd1_9_f b9).trans (rfl)))))))))), a0, a1, a2, a3, a4, a5, a6, a7, a8, a9⟩))))))))))
noncomputable def wd10_8 (_ : Int → Int) (_ _ : Int) : Int := -1
noncomputable def wd10_7 (b : Int → Int) (r l : Int) : Int := if l - r = 5 ∧ b r = 97 ∧ b (r + 1) = 103 ∧ b (r + 2) = 97 ∧ b (r + 3) = 105 ∧ b (r + 4) = 110 then 7 else wd10_8 b r l
noncomputable def wd10_6 (b : Int → Int) (r l : Int) : Int := if l - r = 3 ∧ b r = 100 ∧ b (r + 1) = 97 ∧ b (r + 2) = 121 then 6 else wd10_7 b r l
noncomputable def wd10_5 (b : Int → Int) (r l : Int) : Int := if l - r = 4 ∧ b r = 115 ∧ b (r + 1) = 101 ∧ b (r + 2) = 108 ∧ b (r + 3) = 108 then 5 else wd10_6 b r l
noncomputable def wd10_4 (b : Int → Int) (r l : Int) : Int := if l - r = 4 ∧ b r = 116 ∧ b (r + 1) = 101 ∧ b (r + 2) = 97 ∧ b (r + 3) = 114 then 4 else wd10_5 b r l
noncomputable def wd10_3 (b : Int → Int) (r l : Int) : Int := if l - r = 5 ∧ b r = 115 ∧ b (r + 1) = 99 ∧ b (r + 2) = 111 ∧ b (r + 3) = 111 ∧ b (r + 4) = 112 then 3 else wd10_4 b r l
noncomputable def wd10_2 (b : Int → Int) (r l : Int) : Int := if l - r = 4 ∧ b r = 112 ∧ b (r + 1) = 111 ∧ b (r + 2) = 117 ∧ b (r + 3) = 114 then 2 else wd10_3 b r l
noncomputable def wd10_1 (b : Int → Int) (r l : Int) : Int := if l - r = 4 ∧ b r = 115 ∧ b (r + 1) = 105 ∧ b (r + 2) = 102 ∧ b (r + 3) = 116 then 1 else wd10_2 b r l
noncomputable def wd10_0 (b : Int → Int) (r l : Int) : Int := if l - r = 5 ∧ b r = 103 ∧ b (r + 1) = 114 ∧ b (r + 2) = 105 ∧ b (r + 3) = 110 ∧ b (r + 4) = 100 then 0 else wd10_1 b r l
theorem wd10_0_t {b : Int → Int} {r l : Int} (h : l - r = 5 ∧ b r = 103 ∧ b (r + 1) = 114 ∧ b (r + 2) = 105 ∧ b (r + 3) = 110 ∧ b (r + 4) = 100) : wd10_0 b r l = 0 := if_pos h
theorem wd10_0_f {b : Int → Int} {r l : Int} (h : ¬ (l - r = 5 ∧ b r = 103 ∧ b (r + 1) = 114 ∧ b (r + 2) = 105 ∧ b (r + 3) = 110 ∧ b (r + 4) = 100)) : wd10_0 b r l = wd10_1 b r l := if_neg h
theorem wd10_1_t {b : Int → Int} {r l : Int} (h : l - r = 4 ∧ b r = 115 ∧ b (r + 1) = 105 ∧ b (r + 2) = 102 ∧ b (r + 3) = 116) : wd10_1 b r l = 1 := if_pos h
theorem wd10_1_f {b : Int → Int} {r l : Int} (h : ¬ (l - r = 4 ∧ b r = 115 ∧ b (r + 1) = 105 ∧ b (r + 2) = 102 ∧ b (r + 3) = 116)) : wd10_1 b r l = wd10_2 b r l := if_neg h
theorem wd10_2_t {b : Int → Int} {r l : Int} (h : l - r = 4 ∧ b r = 112 ∧ b (r + 1) = 111 ∧ b (r + 2) = 117 ∧ b (r + 3) = 114) : wd10_2 b r l = 2 := if_pos h
theorem wd10_2_f {b : Int → Int} {r l : Int} (h : ¬ (l - r = 4 ∧ b r = 112 ∧ b (r + 1) = 111 ∧ b (r + 2) = 117 ∧ b (r + 3) = 114)) : wd10_2 b r l = wd10_3 b r l := if_neg h
theorem wd10_3_t {b : Int → Int} {r l : Int} (h : l - r = 5 ∧ b r = 115 ∧ b (r + 1) = 99 ∧ b (r + 2) = 111 ∧ b (r + 3) = 111 ∧ b (r + 4) = 112) : wd10_3 b r l = 3 := if_pos h
theorem wd10_3_f {b : Int → Int} {r l : Int} (h : ¬ (l - r = 5 ∧ b r = 115 ∧ b (r + 1) = 99 ∧ b (r + 2) = 111 ∧ b (r + 3) = 111 ∧ b (r + 4) = 112)) : wd10_3 b r l = wd10_4 b r l := if_neg h
theorem wd10_4_t {b : Int → Int} {r l : Int} (h : l - r = 4 ∧ b r = 116 ∧ b (r + 1) = 101 ∧ b (r + 2) = 97 ∧ b (r + 3) = 114) : wd10_4 b r l = 4 := if_pos h
theorem wd10_4_f {b : Int → Int} {r l : Int} (h : ¬ (l - r = 4 ∧ b r = 116 ∧ b (r + 1) = 101 ∧ b (r + 2) = 97 ∧ b (r + 3) = 114)) : wd10_4 b r l = wd10_5 b r l := if_neg h
theorem wd10_5_t {b : Int → Int} {r l : Int} (h : l - r = 4 ∧ b r = 115 ∧ b (r + 1) = 101 ∧ b (r + 2) = 108 ∧ b (r + 3) = 108) : wd10_5 b r l = 5 := if_pos h
theorem wd10_5_f {b : Int → Int} {r l : Int} (h : ¬ (l - r = 4 ∧ b r = 115 ∧ b (r + 1) = 101 ∧ b (r + 2) = 108 ∧ b (r + 3) = 108)) : wd10_5 b r l = wd10_6 b r l := if_neg h
theorem wd10_6_t {b : Int → Int} {r l : Int} (h : l - r = 3 ∧ b r = 100 ∧ b (r + 1) = 97 ∧ b (r + 2) = 121) : wd10_6 b r l = 6 := if_pos h
theorem wd10_6_f {b : Int → Int} {r l : Int} (h : ¬ (l - r = 3 ∧ b r = 100 ∧ b (r + 1) = 97 ∧ b (r + 2) = 121)) : wd10_6 b r l = wd10_7 b r l := if_neg h
theorem wd10_7_t {b : Int → Int} {r l : Int} (h : l - r = 5 ∧ b r = 97 ∧ b (r + 1) = 103 ∧ b (r + 2) = 97 ∧ b (r + 3) = 105 ∧ b (r + 4) = 110) : wd10_7 b r l = 7 := if_pos h
theorem wd10_7_f {b : Int → Int} {r l : Int} (h : ¬ (l - r = 5 ∧ b r = 97 ∧ b (r + 1) = 103 ∧ b (r + 2) = 97 ∧ b (r + 3) = 105 ∧ b (r + 4) = 110)) : wd10_7 b r l = wd10_8 b r l := if_neg h
theorem wr10 {b : Int → Int} {r l : Int} (hr : r ≤ l) (h : ∀ j : Int, r ≤ j → j < l → 97 ≤ b j ∧ b j ≤ 122) : (wd10_0 b r l = 0 ∧ wv b r l = 7939524) ∨ (wd10_0 b r l = 1 ∧ wv b r l = 632020) ∨ (wd10_0 b r l = 2 ∧ wv b r l = 540338) ∨ (wd10_0 b r l = 3 ∧ wv b r l = 20037104) ∨ (wd10_0 b r l = 4 ∧ wv b r l = 660530) ∨ (wd10_0 b r l = 5 ∧ wv b r l = 628108) ∨ (wd10_0 b r l = 6 ∧ wv b r l = 4153) ∨ (wd10_0 b r l = 7 ∧ wv b r l = 1279278) ∨ (wd10_0 b r l = -1 ∧ ¬ wv b r l = 7939524 ∧ ¬ wv b r l = 632020 ∧ ¬ wv b r l = 540338 ∧ ¬ wv b r l = 20037104 ∧ ¬ wv b r l = 660530 ∧ ¬ wv b r l = 628108 ∧ ¬ wv b r l = 4153 ∧ ¬ wv b r l = 1279278) := by
  rcases wq_grind hr h with ⟨a0, b0⟩ | ⟨a0, b0⟩
  · exact (Or.inl ⟨show wd10_0 b r l = 0 from wd10_0_t b0, a0⟩)
  rcases wq_sift hr h with ⟨a1, b1⟩ | ⟨a1, b1⟩
  · exact (Or.inr (Or.inl ⟨show wd10_0 b r l = 1 from (wd10_0_f b0).trans (wd10_1_t b1), a1⟩))
  rcases wq_pour hr h with ⟨a2, b2⟩ | ⟨a2, b2⟩
  · exact (Or.inr (Or.inr (Or.inl ⟨show wd10_0 b r l = 2 from (wd10_0_f b0).trans ((wd10_1_f b1).trans (wd10_2_t b2)), a2⟩)))
  rcases wq_scoop hr h with ⟨a3, b3⟩ | ⟨a3, b3⟩
  · exact (Or.inr (Or.inr (Or.inr (Or.inl ⟨show wd10_0 b r l = 3 from (wd10_0_f b0).trans ((wd10_1_f b1).trans ((wd10_2_f b2).trans (wd10_3_t b3))), a3⟩))))
  rcases wq_tear hr h with ⟨a4, b4⟩ | ⟨a4, b4⟩
  · exact (Or.inr (Or.inr (Or.inr (Or.inr (Or.inl ⟨show wd10_0 b r l = 4 from (wd10_0_f b0).trans ((wd10_1_f b1).trans ((wd10_2_f b2).trans ((wd10_3_f b3).trans (wd10_4_t b4)))), a4⟩)))))
  rcases wq_sell hr h with ⟨a5, b5⟩ | ⟨a5, b5⟩
  · exact (Or.inr (Or.inr (Or.inr (Or.inr (Or.inr (Or.inl ⟨show wd10_0 b r l = 5 from (wd10_0_f b0).trans ((wd10_1_f b1).trans ((wd10_2_f b2).trans ((wd10_3_f b3).trans ((wd10_4_f b4).trans (wd10_5_t b5))))), a5⟩))))))
  rcases wq_day hr h with ⟨a6, b6⟩ | ⟨a6, b6⟩
  · exact (Or.inr (Or.inr (Or.inr (Or.inr (Or.inr (Or.inr (Or.inl ⟨show wd10_0 b r l = 6 from (wd10_0_f b0).trans ((wd10_1_f b1).trans ((wd10_2_f b2).trans ((wd10_3_f b3).trans ((wd10_4_f b4).trans ((wd10_5_f b5).trans (wd10_6_t b6)))))), a6⟩)))))))
  rcases wq_again hr h with ⟨a7, b7⟩ | ⟨a7, b7⟩
  · exact (Or.inr (Or.inr (Or.inr (Or.inr (Or.inr (Or.inr (Or.inr (Or.inl ⟨show wd10_0 b r l = 7 from (wd10_0_f b0).trans ((wd10_1_f b1).trans ((wd10_2_f b2).trans ((wd10_3_f b3).trans ((wd10_4_f b4).trans ((wd10_5_f b5).trans ((wd10_6_f b6).trans (wd10_7_t b7))))))), a7⟩))))))))
  exact (Or.inr (Or.inr (Or.inr (Or.inr (Or.inr (Or.inr (Or.inr (Or.inr ⟨show wd10_0 b r l = -1 from (wd10_0_f b0).trans ((wd10_1_f b1).trans ((wd10_2_f b2).trans ((wd10_3_f b3).trans ((wd10_4_f b4).trans ((wd10_5_f b5).trans ((wd10_6_f b6).trans ((wd10_7_f b7).trans (rfl)))))))), a0, a1, a2, a3, a4, a5, a6, a7⟩))))))))
theorem wr8_0 {b : Int → Int} {r l : Int} (hr : r ≤ l) (h : ∀ j : Int, r ≤ j → j < l → 97 ≤ b j ∧ b j ≤ 122) (hw : wd8_0 b r l = 0) : wv b r l = 10290 := by
  rcases wr8 hr h with e0 | e1 | e2 | e3 | e4
  · exact e0.2
  · have := e1.1
    omega
  · have := e2.1
    omega
  · have := e3.1
    omega
  · have := e4.1
    omega
theorem wr8_1 {b : Int → Int} {r l : Int} (hr : r ≤ l) (h : ∀ j : Int, r ≤ j → j < l → 97 ≤ b j ∧ b j ≤ 122) (hw : wd8_0 b r l = 1) : wv b r l = 20594117 := by
  rcases wr8 hr h with e0 | e1 | e2 | e3 | e4
  · have := e0.1
    omega
  · exact e1.2
  · have := e2.1
    omega
  · have := e3.1
    omega
  · have := e4.1
    omega
theorem wr8_2 {b : Int → Int} {r l : Int} (hr : r ≤ l) (h : ∀ j : Int, r ≤ j → j < l → 97 ≤ b j ∧ b j ≤ 122) (hw : wd8_0 b r l = 2) : wv b r l = 20223685 := by
  rcases wr8 hr h with e0 | e1 | e2 | e3 | e4
  · have := e0.1
    omega
  · have := e1.1
    omega
  · exact e2.2
  · have := e3.1
    omega
  · have := e4.1
    omega
theorem wr8_3 {b : Int → Int} {r l : Int} (hr : r ≤ l) (h : ∀ j : Int, r ≤ j → j < l → 97 ≤ b j ∧ b j ≤ 122) (hw : wd8_0 b r l = 3) : wv b r l = 153204 := by
  rcases wr8 hr h with e0 | e1 | e2 | e3 | e4
  · have := e0.1
    omega
  · have := e1.1
    omega
  · have := e2.1
    omega
  · exact e3.2
  · have := e4.1
    omega
theorem wr8_4 {b : Int → Int} {r l : Int} (hr : r ≤ l) (h : ∀ j : Int, r ≤ j → j < l → 97 ≤ b j ∧ b j ≤ 122) (hw : wd8_0 b r l = -1) : ¬ wv b r l = 10290 ∧ ¬ wv b r l = 20594117 ∧ ¬ wv b r l = 20223685 ∧ ¬ wv b r l = 153204 := by
  rcases wr8 hr h with e0 | e1 | e2 | e3 | e4
  · have := e0.1
    omega
  · have := e1.1
    omega
  · have := e2.1
    omega
  · have := e3.1
    omega
  · exact e4.2
theorem wr1_0 {b : Int → Int} {r l : Int} (hr : r ≤ l) (h : ∀ j : Int, r ≤ j → j < l → 97 ≤ b j ∧ b j ≤ 122) (hw : wd1_0 b r l = 0) : wv b r l = 206277 := by
  rcases wr1 hr h with e0 | e1 | e2 | e3 | e4 | e5 | e6 | e7 | e8 | e9 | e10
  · exact e0.2
  · have := e1.1
    omega
  · have := e2.1
    omega
  · have := e3.1
    omega
  · have := e4.1
    omega
  · have := e5.1
    omega
  · have := e6.1
    omega
  · have := e7.1
    omega
  · have := e8.1
    omega
  · have := e9.1
    omega
  · have := e10.1
    omega
theorem wr1_1 {b : Int → Int} {r l : Int} (hr : r ≤ l) (h : ∀ j : Int, r ≤ j → j < l → 97 ≤ b j ∧ b j ≤ 122) (hw : wd1_0 b r l = 1) : wv b r l = 13604 := by
  rcases wr1 hr h with e0 | e1 | e2 | e3 | e4 | e5 | e6 | e7 | e8 | e9 | e10
  · have := e0.1
    omega
  · exact e1.2
  · have := e2.1
    omega
  · have := e3.1
    omega
  · have := e4.1
    omega
  · have := e5.1
    omega
  · have := e6.1
    omega
  · have := e7.1
    omega
  · have := e8.1
    omega
  · have := e9.1
    omega
  · have := e10.1
    omega
theorem wr1_2 {b : Int → Int} {r l : Int} (hr : r ≤ l) (h : ∀ j : Int, r ≤ j → j < l → 97 ≤ b j ∧ b j ≤ 122) (hw : wd1_0 b r l = 2) : wv b r l = 116443749 := by
  rcases wr1 hr h with e0 | e1 | e2 | e3 | e4 | e5 | e6 | e7 | e8 | e9 | e10
  · have := e0.1
    omega
  · have := e1.1
    omega
  · exact e2.2
  · have := e3.1
    omega
  · have := e4.1
    omega
  · have := e5.1
    omega
  · have := e6.1
    omega
  · have := e7.1
    omega
  · have := e8.1
    omega
  · have := e9.1
    omega
  · have := e10.1
    omega
theorem wr1_3 {b : Int → Int} {r l : Int} (hr : r ≤ l) (h : ∀ j : Int, r ≤ j → j < l → 97 ≤ b j ∧ b j ≤ 122) (hw : wd1_0 b r l = 3) : wv b r l = 284267 := by
  rcases wr1 hr h with e0 | e1 | e2 | e3 | e4 | e5 | e6 | e7 | e8 | e9 | e10
  · have := e0.1
    omega
  · have := e1.1
    omega
  · have := e2.1
    omega
  · exact e3.2
  · have := e4.1
    omega
  · have := e5.1
    omega
  · have := e6.1
    omega
  · have := e7.1
    omega
  · have := e8.1
    omega
  · have := e9.1
    omega
  · have := e10.1
    omega
theorem wr1_4 {b : Int → Int} {r l : Int} (hr : r ≤ l) (h : ∀ j : Int, r ≤ j → j < l → 97 ≤ b j ∧ b j ≤ 122) (hw : wd1_0 b r l = 4) : wv b r l = 1420 := by
  rcases wr1 hr h with e0 | e1 | e2 | e3 | e4 | e5 | e6 | e7 | e8 | e9 | e10
  · have := e0.1
    omega
  · have := e1.1
    omega
  · have := e2.1
    omega
  · have := e3.1
    omega
  · exact e4.2
  · have := e5.1
    omega
  · have := e6.1
    omega
  · have := e7.1
    omega
  · have := e8.1
    omega
  · have := e9.1
    omega
  · have := e10.1
    omega
theorem wr1_5 {b : Int → Int} {r l : Int} (hr : r ≤ l) (h : ∀ j : Int, r ≤ j → j < l → 97 ≤ b j ∧ b j ≤ 122) (hw : wd1_0 b r l = 5) : wv b r l = 1253 := by
  rcases wr1 hr h with e0 | e1 | e2 | e3 | e4 | e5 | e6 | e7 | e8 | e9 | e10
  · have := e0.1
    omega
  · have := e1.1
    omega
  · have := e2.1
    omega
  · have := e3.1
    omega
  · have := e4.1
    omega
  · exact e5.2
  · have := e6.1
    omega
  · have := e7.1
    omega
  · have := e8.1
    omega
  · have := e9.1
    omega
  · have := e10.1
    omega
theorem wr1_6 {b : Int → Int} {r l : Int} (hr : r ≤ l) (h : ∀ j : Int, r ≤ j → j < l → 97 ≤ b j ∧ b j ≤ 122) (hw : wd1_0 b r l = 6) : wv b r l = 4153 := by
  rcases wr1 hr h with e0 | e1 | e2 | e3 | e4 | e5 | e6 | e7 | e8 | e9 | e10
  · have := e0.1
    omega
  · have := e1.1
    omega
  · have := e2.1
    omega
  · have := e3.1
    omega
  · have := e4.1
    omega
  · have := e5.1
    omega
  · exact e6.2
  · have := e7.1
    omega
  · have := e8.1
    omega
  · have := e9.1
    omega
  · have := e10.1
    omega
theorem wr1_7 {b : Int → Int} {r l : Int} (hr : r ≤ l) (h : ∀ j : Int, r ≤ j → j < l → 97 ≤ b j ∧ b j ≤ 122) (hw : wd1_0 b r l = 7) : wv b r l = 10290 := by
  rcases wr1 hr h with e0 | e1 | e2 | e3 | e4 | e5 | e6 | e7 | e8 | e9 | e10
  · have := e0.1
    omega
  · have := e1.1
    omega
  · have := e2.1
    omega
  · have := e3.1
    omega
  · have := e4.1
    omega
  · have := e5.1
    omega
  · have := e6.1
    omega
  · exact e7.2
  · have := e8.1
    omega
  · have := e9.1
    omega
  · have := e10.1
    omega
theorem wr1_8 {b : Int → Int} {r l : Int} (hr : r ≤ l) (h : ∀ j : Int, r ≤ j → j < l → 97 ≤ b j ∧ b j ≤ 122) (hw : wd1_0 b r l = 8) : wv b r l = 12748404 := by
  rcases wr1 hr h with e0 | e1 | e2 | e3 | e4 | e5 | e6 | e7 | e8 | e9 | e10
  · have := e0.1
    omega
  · have := e1.1
    omega
  · have := e2.1
    omega
  · have := e3.1
    omega
  · have := e4.1
    omega
  · have := e5.1
    omega
  · have := e6.1
    omega
  · have := e7.1
    omega
  · exact e8.2
  · have := e9.1
    omega
  · have := e10.1
    omega
theorem wr1_9 {b : Int → Int} {r l : Int} (hr : r ≤ l) (h : ∀ j : Int, r ≤ j → j < l → 97 ≤ b j ∧ b j ≤ 122) (hw : wd1_0 b r l = 9) : wv b r l = 441972 := by
  rcases wr1 hr h with e0 | e1 | e2 | e3 | e4 | e5 | e6 | e7 | e8 | e9 | e10
  · have := e0.1
    omega
  · have := e1.1
    omega
  · have := e2.1
    omega
  · have := e3.1
    omega
  · have := e4.1
    omega
  · have := e5.1
    omega
  · have := e6.1
    omega
  · have := e7.1
    omega
  · have := e8.1
    omega
  · exact e9.2
  · have := e10.1
    omega
theorem wr1_10 {b : Int → Int} {r l : Int} (hr : r ≤ l) (h : ∀ j : Int, r ≤ j → j < l → 97 ≤ b j ∧ b j ≤ 122) (hw : wd1_0 b r l = -1) : ¬ wv b r l = 206277 ∧ ¬ wv b r l = 13604 ∧ ¬ wv b r l = 116443749 ∧ ¬ wv b r l = 284267 ∧ ¬ wv b r l = 1420 ∧ ¬ wv b r l = 1253 ∧ ¬ wv b r l = 4153 ∧ ¬ wv b r l = 10290 ∧ ¬ wv b r l = 12748404 ∧ ¬ wv b r l = 441972 := by
  rcases wr1 hr h with e0 | e1 | e2 | e3 | e4 | e5 | e6 | e7 | e8 | e9 | e10
  · have := e0.1
    omega
  · have := e1.1
    omega
  · have := e2.1
    omega
  · have := e3.1
    omega
  · have := e4.1
    omega
  · have := e5.1
    omega
  · have := e6.1
    omega
  · have := e7.1
    omega
  · have := e8.1
    omega
  · have := e9.1
    omega
  · exact e10.2
theorem wr10_0 {b : Int → Int} {r l : Int} (hr : r ≤ l) (h : ∀ j : Int, r ≤ j → j < l → 97 ≤ b j ∧ b j ≤ 122) (hw : wd10_0 b r l = 0) : wv b r l = 7939524 := by
  rcases wr10 hr h with e0 | e1 | e2 | e3 | e4 | e5 | e6 | e7 | e8
  · exact e0.2
  · have := e1.1
    omega
  · have := e2.1
    omega
  · have := e3.1
    omega
  · have := e4.1
    omega
  · have := e5.1
    omega
  · have := e6.1
    omega
  · have := e7.1
    omega
  · have := e8.1
    omega
theorem wr10_1 {b : Int → Int} {r l : Int} (hr : r ≤ l) (h : ∀ j : Int, r ≤ j → j < l → 97 ≤ b j ∧ b j ≤ 122) (hw : wd10_0 b r l = 1) : wv b r l = 632020 := by
  rcases wr10 hr h with e0 | e1 | e2 | e3 | e4 | e5 | e6 | e7 | e8
  · have := e0.1
    omega
  · exact e1.2
  · have := e2.1
    omega
  · have := e3.1
    omega
  · have := e4.1
    omega
  · have := e5.1
    omega
  · have := e6.1
    omega
  · have := e7.1
    omega
  · have := e8.1
    omega
theorem wr10_2 {b : Int → Int} {r l : Int} (hr : r ≤ l) (h : ∀ j : Int, r ≤ j → j < l → 97 ≤ b j ∧ b j ≤ 122) (hw : wd10_0 b r l = 2) : wv b r l = 540338 := by
  rcases wr10 hr h with e0 | e1 | e2 | e3 | e4 | e5 | e6 | e7 | e8
  · have := e0.1
    omega
  · have := e1.1
    omega
  · exact e2.2
  · have := e3.1
    omega
  · have := e4.1
    omega
  · have := e5.1
    omega
  · have := e6.1
    omega
  · have := e7.1
    omega
  · have := e8.1
    omega
theorem wr10_3 {b : Int → Int} {r l : Int} (hr : r ≤ l) (h : ∀ j : Int, r ≤ j → j < l → 97 ≤ b j ∧ b j ≤ 122) (hw : wd10_0 b r l = 3) : wv b r l = 20037104 := by
  rcases wr10 hr h with e0 | e1 | e2 | e3 | e4 | e5 | e6 | e7 | e8
  · have := e0.1
    omega
  · have := e1.1
    omega
  · have := e2.1
    omega
  · exact e3.2
  · have := e4.1
    omega
  · have := e5.1
    omega
  · have := e6.1
    omega
  · have := e7.1
    omega
  · have := e8.1
    omega
theorem wr10_4 {b : Int → Int} {r l : Int} (hr : r ≤ l) (h : ∀ j : Int, r ≤ j → j < l → 97 ≤ b j ∧ b j ≤ 122) (hw : wd10_0 b r l = 4) : wv b r l = 660530 := by
  rcases wr10 hr h with e0 | e1 | e2 | e3 | e4 | e5 | e6 | e7 | e8
  · have := e0.1
    omega
  · have := e1.1
    omega
  · have := e2.1
    omega
  · have := e3.1
    omega
  · exact e4.2
  · have := e5.1
    omega
  · have := e6.1
    omega
  · have := e7.1
    omega
  · have := e8.1
    omega
theorem wr10_5 {b : Int → Int} {r l : Int} (hr : r ≤ l) (h : ∀ j : Int, r ≤ j → j < l → 97 ≤ b j ∧ b j ≤ 122) (hw : wd10_0 b r l = 5) : wv b r l = 628108 := by
  rcases wr10 hr h with e0 | e1 | e2 | e3 | e4 | e5 | e6 | e7 | e8
  · have := e0.1
    omega
  · have := e1.1
    omega
  · have := e2.1
    omega
  · have := e3.1
    omega
  · have := e4.1
    omega
  · exact e5.2
  · have := e6.1
    omega
  · have := e7.1
    omega
  · have := e8.1
    omega
theorem wr10_6 {b : Int → Int} {r l : Int} (hr : r ≤ l) (h : ∀ j : Int, r ≤ j → j < l → 97 ≤ b j ∧ b j ≤ 122) (hw : wd10_0 b r l = 6) : wv b r l = 4153 := by
  rcases wr10 hr h with e0 | e1 | e2 | e3 | e4 | e5 | e6 | e7 | e8
  · have := e0.1
    omega
  · have := e1.1
    omega
  · have := e2.1
    omega
  · have := e3.1
    omega
  · have := e4.1
    omega
  · have := e5.1
    omega
  · exact e6.2
  · have := e7.1
    omega
  · have := e8.1
    omega
theorem wr10_7 {b : Int → Int} {r l : Int} (hr : r ≤ l) (h : ∀ j : Int, r ≤ j → j < l → 97 ≤ b j ∧ b j ≤ 122) (hw : wd10_0 b r l = 7) : wv b r l = 1279278 := by
  rcases wr10 hr h with e0 | e1 | e2 | e3 | e4 | e5 | e6 | e7 | e8
  · have := e0.1
    omega
  · have := e1.1
    omega
  · have := e2.1
    omega
  · have := e3.1
    omega
  · have := e4.1
    omega
  · have := e5.1
    omega
  · have := e6.1
    omega
  · exact e7.2
  · have := e8.1
    omega
theorem wr10_8 {b : Int → Int} {r l : Int} (hr : r ≤ l) (h : ∀ j : Int, r ≤ j → j < l → 97 ≤ b j ∧ b j ≤ 122) (hw : wd10_0 b r l = -1) : ¬ wv b r l = 7939524 ∧ ¬ wv b r l = 632020 ∧ ¬ wv b r l = 540338 ∧ ¬ wv b r l = 20037104 ∧ ¬ wv b r l = 660530 ∧ ¬ wv b r l = 628108 ∧ ¬ wv b r l = 4153 ∧ ¬ wv b r l = 1279278 := by
  rcases wr10 hr h with e0 | e1 | e2 | e3 | e4 | e5 | e6 | e7 | e8
  · have := e0.1
    omega
  · have := e1.1
    omega
  · have := e2.1
    omega
  · have := e3.1
    omega
  · have := e4.1
    omega
  · have := e5.1
    omega
  · have := e6.1
    omega
  · have := e7.1
    omega
  · exact e8.2
