/-! ===== a measure ===== -/
set_option maxRecDepth 100000 in
theorem mPl_5_0 : (((mc_296_5.drop 0).take 50).all (fun q => decide (decode code q.1 = .ok q.2))) = true := by decide +kernel
