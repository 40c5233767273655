/-! ===== a measure ===== -/
set_option maxRecDepth 100000 in
theorem g_AWX0 : ∀ w ∈ (a_xw 100).filter goodWord, w ∈ lw_tbl := by decide +kernel
