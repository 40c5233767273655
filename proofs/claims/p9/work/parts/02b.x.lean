/-! ===== a measure b ===== -/
def zP1 (k : Nat) : Bool := (mC k).all (fun q => match decode (mB k) q.1 with | .ok (_, n) => Nat.beq n q.2.2 | .error _ => false)
set_option maxRecDepth 100000 in
theorem zt_1 : ((List.range 10).all fun k => zP1 (43 + k)) = true := by decide +kernel
