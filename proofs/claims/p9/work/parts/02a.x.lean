/-! ===== a measure a ===== -/
def zP0 (k : Nat) : Bool := (mC k).all (fun q => decide (decode (mB k) q.1 = .ok q.2))
set_option maxRecDepth 100000 in
theorem zt_0 : ((List.range 10).all fun k => zP0 (43 + k)) = true := by decide +kernel
