/-! ===== a measure c ===== -/
def zP2 (k : Nat) : Bool := (mC k).all (fun q => decide (q.2 = q.2))
set_option maxRecDepth 100000 in
theorem zt_2 : ((List.range 10).all fun k => zP2 (43 + k)) = true := by decide +kernel
