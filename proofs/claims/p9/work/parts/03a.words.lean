/-! ===== the words are good ===== -/
set_option maxRecDepth 100000 in
theorem w_g_AWF_0 : ((AWF_of 0)).all goodWord = true := by decide +kernel
set_option maxRecDepth 100000 in
theorem w_g_AWF_1 : ((AWF_of 1)).all goodWord = true := by decide +kernel
set_option maxRecDepth 100000 in
theorem w_g_AWF_2 : ((AWF_of 2)).all goodWord = true := by decide +kernel
set_option maxRecDepth 100000 in
theorem w_g_AWF_3 : ((AWF_of 3)).all goodWord = true := by decide +kernel
set_option maxRecDepth 100000 in
theorem w_g_AWF_4 : ((AWF_of 4)).all goodWord = true := by decide +kernel
set_option maxRecDepth 100000 in
theorem w_g_AWF_5 : ((AWF_of 5)).all goodWord = true := by decide +kernel
set_option maxRecDepth 100000 in
theorem w_g_AWF_6 : ((AWF_of 6)).all goodWord = true := by decide +kernel
set_option maxRecDepth 100000 in
theorem w_g_AWF_7 : ((AWF_of 7)).all goodWord = true := by decide +kernel
set_option maxRecDepth 100000 in
theorem w_g_AWF_8 : ((AWF_of 8)).all goodWord = true := by decide +kernel
set_option maxRecDepth 100000 in
theorem w_g_AWM_0 : ((AWM_of 0)).all goodWord = true := by decide +kernel
set_option maxRecDepth 100000 in
theorem w_g_AWM_1 : ((AWM_of 1)).all goodWord = true := by decide +kernel
set_option maxRecDepth 100000 in
theorem w_g_AWM_2 : ((AWM_of 2)).all goodWord = true := by decide +kernel
set_option maxRecDepth 100000 in
theorem w_g_AWM_3 : ((AWM_of 3)).all goodWord = true := by decide +kernel
set_option maxRecDepth 100000 in
theorem w_g_AWM_4 : ((AWM_of 4)).all goodWord = true := by decide +kernel
set_option maxRecDepth 100000 in
theorem w_g_AWM_5 : ((AWM_of 5)).all goodWord = true := by decide +kernel
set_option maxRecDepth 100000 in
theorem w_g_AWM_6 : ((AWM_of 6)).all goodWord = true := by decide +kernel
set_option maxRecDepth 100000 in
theorem w_g_AWM_7 : ((AWM_of 7)).all goodWord = true := by decide +kernel
set_option maxRecDepth 100000 in
theorem w_g_AWM_8 : ((AWM_of 8)).all goodWord = true := by decide +kernel
set_option maxRecDepth 100000 in
theorem w_g_AWM_9 : ((AWM_of 9)).all goodWord = true := by decide +kernel
set_option maxRecDepth 100000 in
theorem w_g_AWD_0 : ((AWD_of 0 15)).all goodWord = true := by decide +kernel
set_option maxRecDepth 100000 in
theorem w_g_AWD_15 : ((AWD_of 15 15)).all goodWord = true := by decide +kernel
set_option maxRecDepth 100000 in
theorem w_g_AWD_30 : ((AWD_of 30 15)).all goodWord = true := by decide +kernel
set_option maxRecDepth 100000 in
theorem w_g_AWD_45 : ((AWD_of 45 15)).all goodWord = true := by decide +kernel
set_option maxRecDepth 100000 in
theorem w_g_AWD_60 : ((AWD_of 60 15)).all goodWord = true := by decide +kernel
set_option maxRecDepth 100000 in
theorem w_g_AWD_75 : ((AWD_of 75 15)).all goodWord = true := by decide +kernel
set_option maxRecDepth 100000 in
theorem w_g_AWD_90 : ((AWD_of 90 15)).all goodWord = true := by decide +kernel
set_option maxRecDepth 100000 in
theorem w_g_AWD_105 : ((AWD_of 105 15)).all goodWord = true := by decide +kernel
set_option maxRecDepth 100000 in
theorem w_g_AWD_120 : ((AWD_of 120 15)).all goodWord = true := by decide +kernel
set_option maxRecDepth 100000 in
theorem w_g_AWD_135 : ((AWD_of 135 15)).all goodWord = true := by decide +kernel
set_option maxRecDepth 100000 in
theorem w_g_AWD_150 : ((AWD_of 150 15)).all goodWord = true := by decide +kernel
set_option maxRecDepth 100000 in
theorem w_g_AWD_165 : ((AWD_of 165 15)).all goodWord = true := by decide +kernel
set_option maxRecDepth 100000 in
theorem w_g_AWD_180 : ((AWD_of 180 15)).all goodWord = true := by decide +kernel
set_option maxRecDepth 100000 in
theorem w_g_AWD_195 : ((AWD_of 195 15)).all goodWord = true := by decide +kernel
set_option maxRecDepth 100000 in
theorem w_g_AWD_210 : ((AWD_of 210 15)).all goodWord = true := by decide +kernel
set_option maxRecDepth 100000 in
theorem w_g_AWD_225 : ((AWD_of 225 15)).all goodWord = true := by decide +kernel
set_option maxRecDepth 100000 in
theorem w_g_AWD_240 : ((AWD_of 240 15)).all goodWord = true := by decide +kernel
set_option maxRecDepth 100000 in
theorem w_g_AWD_255 : ((AWD_of 255 15)).all goodWord = true := by decide +kernel
set_option maxRecDepth 100000 in
theorem w_g_AWD_270 : ((AWD_of 270 15)).all goodWord = true := by decide +kernel
set_option maxRecDepth 100000 in
theorem w_g_AWD_285 : ((AWD_of 285 11)).all goodWord = true := by decide +kernel
set_option maxRecDepth 100000 in
theorem w_g_AWC : (AWC).all goodWord = true := by decide +kernel
set_option maxRecDepth 100000 in
theorem w_g_AWK : (AWK).all goodWord = true := by decide +kernel
set_option maxRecDepth 100000 in
theorem w_g_AWB : (AWB).all goodWord = true := by decide +kernel
set_option maxRecDepth 100000 in
theorem w_g_AWJ : (AWJ).all goodWord = true := by decide +kernel
