/-! ===== a measure ===== -/
set_option maxRecDepth 100000 in
theorem mPd_53 : ((List.range 9).all fun k => mPd (53 + k)) = true := by decide +kernel
