/-! ===== a measure ===== -/
theorem zz_end : True := trivial
