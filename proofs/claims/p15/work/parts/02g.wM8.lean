/-! ===== a measure ===== -/
set_option maxRecDepth 100000 in
theorem w_g_AWM_8 : ((AWM_of 8)).all goodWord = true := by decide +kernel
