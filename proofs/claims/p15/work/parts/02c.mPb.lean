/-! ===== a measure ===== -/
set_option maxRecDepth 100000 in
theorem mPb_30 : ((List.range 30).all fun k => mPb (30 + k)) = true := by decide +kernel
