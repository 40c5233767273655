/-! ===== a measure ===== -/
set_option maxRecDepth 100000 in
theorem g_AWN : ∀ w ∈ AWN, w ∈ lw_tbl := by decide +kernel
