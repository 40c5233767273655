/-! ===== the end ===== -/
theorem zz_end : (1 : Nat) = 1 := rfl
