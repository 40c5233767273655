/-! ===== a measure d ===== -/
def zP3 (k : Nat) : Bool := (mC k).all (fun q => (mB k)[q.1]?.isSome)
set_option maxRecDepth 100000 in
theorem zt_3 : ((List.range 10).all fun k => zP3 (43 + k)) = true := by decide +kernel
