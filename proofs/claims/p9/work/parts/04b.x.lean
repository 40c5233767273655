/-! ===== a measure ===== -/
set_option maxRecDepth 100000 in
theorem zt_5 : (AWF_of 0) = ([0, 1, 2, 3, 4, 5] : List Nat).filterMap (fun i => (pkg [226, 0, 0, 0, 0, 0] lw_tbl)[i]?) := rfl
