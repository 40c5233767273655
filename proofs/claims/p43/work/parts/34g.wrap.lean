/-! ===== sums that may leave the ints ===== -/
theorem wr_2 {a : Int} (h : -2147483648 ≤ a ∧ a ≤ 4294967295) : (-2147483648 ≤ wr a ∧ wr a ≤ 2147483647) ∧ (wr a = a ∨ wr a = a - 4294967296) := by
  refine ⟨wr_rng a, ?_⟩
  by_cases h1 : a ≤ 2147483647
  · exact Or.inl (wr_id ⟨h.1, h1⟩)
  · have e : Int32.ofInt a = Int32.ofInt (a - 4294967296) := by
      have e2 : Int32.ofInt ((a - 4294967296) + 4294967296) = Int32.ofInt (a - 4294967296) := by
        rw [Int32.ofInt_add]
        exact (congrArg (fun z => Int32.ofInt (a - 4294967296) + z) (by decide : Int32.ofInt 4294967296 = 0)).trans (Int32.add_zero _)
      rw [← e2]
      exact congrArg Int32.ofInt (by omega)
    refine Or.inr ?_
    refine hv_ (p := wr a = wr (a - 4294967296)) (congrArg Int32.toInt e) (fun e3 => ?_)
    rw [e3]
    exact wr_id ⟨by omega, by omega⟩
theorem wr_3 {a : Int} (h : -4294967295 ≤ a ∧ a ≤ 4294967295) : (-2147483648 ≤ wr a ∧ wr a ≤ 2147483647) ∧ (wr a = a ∨ wr a = a - 4294967296 ∨ wr a = a + 4294967296) := by
  by_cases h1 : -2147483648 ≤ a
  · refine hv_ (wr_2 (a := a) ⟨h1, h.2⟩) (fun h2 => ?_)
    exact ⟨h2.1, h2.2.elim Or.inl (fun z => Or.inr (Or.inl z))⟩
  · have e : wr a = wr (a + 4294967296) := by
      have e2 : Int32.ofInt (a + 4294967296) = Int32.ofInt a := by
        rw [Int32.ofInt_add]
        exact (congrArg (fun z => Int32.ofInt a + z) (by decide : Int32.ofInt 4294967296 = 0)).trans (Int32.add_zero _)
      exact (congrArg Int32.toInt e2).symm
    refine ⟨wr_rng a, Or.inr (Or.inr ?_)⟩
    rw [e]
    exact wr_id ⟨by omega, by omega⟩
