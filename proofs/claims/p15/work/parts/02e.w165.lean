/-! ===== a measure ===== -/
set_option maxRecDepth 100000 in
theorem w_g_AWD_165 : ((AWD_of 165 15)).all goodWord = true := by decide +kernel
