/-! ===== what else the code says ===== -/
set_option maxRecDepth 100000 in
theorem mPb_0 : ((List.range 30).all fun k => mPb (0 + k)) = true := by decide +kernel
set_option maxRecDepth 100000 in
theorem mPb_30 : ((List.range 30).all fun k => mPb (30 + k)) = true := by decide +kernel
set_option maxRecDepth 100000 in
theorem mPb_60 : ((List.range 30).all fun k => mPb (60 + k)) = true := by decide +kernel
set_option maxRecDepth 100000 in
theorem mPb_90 : ((List.range 30).all fun k => mPb (90 + k)) = true := by decide +kernel
set_option maxRecDepth 100000 in
theorem mPb_120 : ((List.range 30).all fun k => mPb (120 + k)) = true := by decide +kernel
set_option maxRecDepth 100000 in
theorem mPb_150 : ((List.range 30).all fun k => mPb (150 + k)) = true := by decide +kernel
set_option maxRecDepth 100000 in
theorem mPb_180 : ((List.range 30).all fun k => mPb (180 + k)) = true := by decide +kernel
set_option maxRecDepth 100000 in
theorem mPb_210 : ((List.range 30).all fun k => mPb (210 + k)) = true := by decide +kernel
set_option maxRecDepth 100000 in
theorem mPb_240 : ((List.range 30).all fun k => mPb (240 + k)) = true := by decide +kernel
set_option maxRecDepth 100000 in
theorem mPb_270 : ((List.range 27).all fun k => mPb (270 + k)) = true := by decide +kernel
theorem mPb_ok {k : Nat} (h : k < mN) : mPb k = true := by
  unfold mN at h
  by_cases h0 : k < 30
  · exact a_rng mPb_0 (by omega) h0
  by_cases h30 : k < 60
  · exact a_rng mPb_30 (by omega) h30
  by_cases h60 : k < 90
  · exact a_rng mPb_60 (by omega) h60
  by_cases h90 : k < 120
  · exact a_rng mPb_90 (by omega) h90
  by_cases h120 : k < 150
  · exact a_rng mPb_120 (by omega) h120
  by_cases h150 : k < 180
  · exact a_rng mPb_150 (by omega) h150
  by_cases h180 : k < 210
  · exact a_rng mPb_180 (by omega) h180
  by_cases h210 : k < 240
  · exact a_rng mPb_210 (by omega) h210
  by_cases h240 : k < 270
  · exact a_rng mPb_240 (by omega) h240
  by_cases h270 : k < 297
  · exact a_rng mPb_270 (by omega) h270
  omega

