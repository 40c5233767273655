/-! ===== class and reference side by side 16 ===== -/
theorem q_5be872de4 {x0 x1 x2 : Int} (f0 : 0 ≤ x0 ∧ x0 ≤ 6) (f1 : ¬ (x1 ≥ x2)) (f2 : x0 = x2) : 4 * x1 < 24 := by omega
theorem q_dc25921de {x0 x1 x2 : Int} (f0 : 0 ≤ x0 ∧ x0 ≤ 6) (f1 : ¬ (x1 ≥ x2)) (f2 : x0 = x2) : 4 * x1 + 1 < 24 := by omega
theorem q_10d41800c {x0 x1 x2 : Int} (f0 : 0 ≤ x0 ∧ x0 ≤ 6) (f1 : ¬ (x1 ≥ x2)) (f2 : x0 = x2) : 4 * x1 + 2 < 24 := by omega
theorem q_f0aa478db {x0 x1 x2 : Int} (f0 : 0 ≤ x0 ∧ x0 ≤ 6) (f1 : ¬ (x1 ≥ x2)) (f2 : x0 = x2) : 4 * x1 + 3 < 24 := by omega
theorem q_cba250be7 {x0 x1 x2 : Int} (f0 : 0 ≤ x0 ∧ x0 ≤ 6) (f1 : ¬ (x1 ≥ x2)) (f2 : x0 = x2) : x1 ≤ 5 := by omega
theorem q_67c5755ea {x0 x1 x2 x3 : Int} (f0 : x0 + x1 + x2 + x3 ≤ 0) : x0 + x1 + x2 + x3 ≤ 0 := by omega
theorem q_ad3feadf1 {x0 : Int} (f0 : 0 ≤ x0 ∧ x0 ≤ 6) : x0 + 24 < 35 := by omega
theorem q_3552d88ea {x0 : Int} (f0 : 0 ≤ x0 ∧ x0 ≤ 6) : x0 + 24 < 36 := by omega
theorem q_f2057a830 {x0 x1 x2 : Int} (f0 : 0 ≤ x0 ∧ x0 ≤ 6) (f1 : ¬ (x1 ≥ x2)) (f2 : x0 = x2) : x1 + 1 ≤ 6 := by omega
theorem q_95a08950b {x0 x1 x2 x3 : Int} (f0 : ¬ (x0 + x1 + x2 + x3 ≤ 0)) : 0 < x0 + x1 + x2 + x3 := by omega
theorem q_5c7932a7c {x0 : Int} (f0 : 0 ≤ x0 ∧ x0 ≤ 6) : x0 + 24 < 31 := by omega
theorem q_27f482322 {x0 : Int} (f0 : 0 ≤ x0 ∧ x0 ≤ 6) : x0 + 24 < 32 := by omega
theorem q_ed84d4d0f {x0 : Int} (f0 : 0 ≤ x0 ∧ x0 ≤ 6) : x0 + 24 < 33 := by omega
theorem q_59a961ea0 {x0 : Int} (f0 : 0 ≤ x0 ∧ x0 ≤ 185) : x0 + 2 < 190 := by omega
theorem q_9197ae1dd {x0 : Int} (f0 : 0 ≤ x0 ∧ x0 ≤ 185) : x0 + 3 < 190 := by omega
theorem q_9c09e111f {x0 : Int} (f0 : 0 ≤ x0 ∧ x0 ≤ 185) : x0 < 190 := by omega
theorem q_757365703 {x0 x1 : Int} (f0 : x0 ≤ 3 ∧ x1 ≤ 5) : 4 * x1 < 24 := by omega
theorem q_7bd42d3e1 {x0 x1 : Int} (f0 : x0 ≤ 3 ∧ x1 ≤ 5) : 4 * x1 + 1 < 24 := by omega
theorem q_cbd63010a {x0 x1 : Int} (f0 : x0 ≤ 3 ∧ x1 ≤ 5) : 4 * x1 + 2 < 24 := by omega
theorem q_0bc96b7bd {x0 x1 : Int} (f0 : x0 ≤ 3 ∧ x1 ≤ 5) : 4 * x1 + 3 < 24 := by omega
theorem q_e4d986ba9 {x0 x1 : Int} (f0 : x0 ≤ 3 ∧ x1 ≤ 5) : x0 ≤ 3 := by omega
theorem q_0050fe1c0 {x0 x1 : Int} (f0 : x0 ≤ 3 ∧ x1 ≤ 5) : x1 ≤ 5 := by omega
theorem q_a19de6297 {x0 : Int} (f0 : 0 ≤ x0 ∧ x0 ≤ 185) : x0 < 250 := by omega
theorem q_c29a301aa {x0 : Int} (f0 : 0 ≤ x0 ∧ x0 ≤ 185) : x0 + 1 < 250 := by omega
theorem q_b993db626 {x0 : Int} (f0 : 0 ≤ x0 ∧ x0 ≤ 185) : x0 + 2 < 250 := by omega
theorem q_239fd6384 {x0 : Int} (f0 : 0 ≤ x0 ∧ x0 ≤ 185) : x0 + 3 < 250 := by omega
theorem q_d56973fb2 {x0 : Int} (f0 : x0 = 0) : x0 = 0 := by omega
theorem q_520817ed2 {x0 x1 : Int} (f0 : x0 ≤ 3 ∧ x1 ≤ 5) : 4 * x1 < 31 := by omega
theorem q_482704879 {x0 x1 : Int} (f0 : x0 ≤ 3 ∧ x1 ≤ 5) : 4 * x1 + 1 < 31 := by omega
theorem q_d310ec4a3 {x0 x1 : Int} (f0 : x0 ≤ 3 ∧ x1 ≤ 5) : 4 * x1 + 2 < 31 := by omega
theorem q_2f186b8bf {x0 x1 : Int} (f0 : x0 ≤ 3 ∧ x1 ≤ 5) : 4 * x1 + 3 < 31 := by omega
theorem q_d4f34d019 {x0 x1 : Int} (f0 : x0 ≤ 3 ∧ x1 ≤ 5) : 4 * x1 < 34 := by omega
theorem q_9251d2314 {x0 x1 : Int} (f0 : x0 ≤ 3 ∧ x1 ≤ 5) : 4 * x1 + 1 < 34 := by omega
theorem q_8b47aab7e {x0 x1 : Int} (f0 : x0 ≤ 3 ∧ x1 ≤ 5) : 4 * x1 + 2 < 34 := by omega
theorem q_9acf18ac8 {x0 x1 : Int} (f0 : x0 ≤ 3 ∧ x1 ≤ 5) : 4 * x1 + 3 < 34 := by omega
theorem q_7106d960d {x0 x1 : Int} (f0 : x0 ≤ 3 ∧ x1 ≤ 5) : 4 * x1 < 33 := by omega
theorem q_7c5d85b06 {x0 x1 : Int} (f0 : x0 ≤ 3 ∧ x1 ≤ 5) : 4 * x1 + 1 < 33 := by omega
theorem q_bed14b06e {x0 x1 : Int} (f0 : x0 ≤ 3 ∧ x1 ≤ 5) : 4 * x1 + 2 < 33 := by omega
theorem q_ea705174d {x0 x1 : Int} (f0 : x0 ≤ 3 ∧ x1 ≤ 5) : 4 * x1 + 3 < 33 := by omega
theorem q_19389fc94 {x0 x1 : Int} (f0 : x0 ≤ 3 ∧ x1 ≤ 5) : 4 * x1 < 36 := by omega
theorem q_2dfaa2d97 {x0 x1 : Int} (f0 : x0 ≤ 3 ∧ x1 ≤ 5) : 4 * x1 + 1 < 36 := by omega
theorem q_2407f8e12 {x0 x1 : Int} (f0 : x0 ≤ 3 ∧ x1 ≤ 5) : 4 * x1 + 2 < 36 := by omega
theorem q_bb7cb0ec6 {x0 x1 : Int} (f0 : x0 ≤ 3 ∧ x1 ≤ 5) : 4 * x1 + 3 < 36 := by omega
theorem q_86f1ce7be {x0 : Int} (f0 : 0 ≤ x0 ∧ x0 ≤ 185) : x0 + 4 < 190 := by omega
theorem q_bf54790c9 {x0 x1 x2 x3 : Int} (f0 : x0 ≤ 3 ∧ x1 ≤ 5 ∧ x2 ≤ 5 ∧ x3 ≤ 5) : 4 * x1 < 24 := by omega
theorem q_7174501f0 {x0 x1 x2 x3 : Int} (f0 : x0 ≤ 3 ∧ x1 ≤ 5 ∧ x2 ≤ 5 ∧ x3 ≤ 5) : 4 * x1 + 1 < 24 := by omega
theorem q_40773e25b {x0 x1 x2 x3 : Int} (f0 : x0 ≤ 3 ∧ x1 ≤ 5 ∧ x2 ≤ 5 ∧ x3 ≤ 5) : 4 * x1 + 2 < 24 := by omega
theorem q_ee86ccd8b {x0 x1 x2 x3 : Int} (f0 : x0 ≤ 3 ∧ x1 ≤ 5 ∧ x2 ≤ 5 ∧ x3 ≤ 5) : 4 * x1 + 3 < 24 := by omega
theorem q_ef5bc570e {x0 x1 x2 x3 : Int} (f0 : x0 ≤ 3 ∧ x1 ≤ 5 ∧ x2 ≤ 5 ∧ x3 ≤ 5) : 4 * x2 < 24 := by omega
theorem q_0bbe532e1 {x0 x1 x2 x3 : Int} (f0 : x0 ≤ 3 ∧ x1 ≤ 5 ∧ x2 ≤ 5 ∧ x3 ≤ 5) : 4 * x2 + 1 < 24 := by omega
theorem q_526aaa55b {x0 x1 x2 x3 : Int} (f0 : x0 ≤ 3 ∧ x1 ≤ 5 ∧ x2 ≤ 5 ∧ x3 ≤ 5) : 4 * x2 + 2 < 24 := by omega
theorem q_c88179368 {x0 x1 x2 x3 : Int} (f0 : x0 ≤ 3 ∧ x1 ≤ 5 ∧ x2 ≤ 5 ∧ x3 ≤ 5) : 4 * x2 + 3 < 24 := by omega
theorem q_e9f4b9f89 {x0 x1 x2 x3 : Int} (f0 : x0 ≤ 3 ∧ x1 ≤ 5 ∧ x2 ≤ 5 ∧ x3 ≤ 5) : 4 * x3 < 24 := by omega
theorem q_6f4f877f1 {x0 x1 x2 x3 : Int} (f0 : x0 ≤ 3 ∧ x1 ≤ 5 ∧ x2 ≤ 5 ∧ x3 ≤ 5) : 4 * x3 + 1 < 24 := by omega
theorem q_36aa10c52 {x0 x1 x2 x3 : Int} (f0 : x0 ≤ 3 ∧ x1 ≤ 5 ∧ x2 ≤ 5 ∧ x3 ≤ 5) : 4 * x3 + 2 < 24 := by omega
theorem q_1be606c6a {x0 x1 x2 x3 : Int} (f0 : x0 ≤ 3 ∧ x1 ≤ 5 ∧ x2 ≤ 5 ∧ x3 ≤ 5) : 4 * x3 + 3 < 24 := by omega
theorem q_c1203e53d {x0 x1 x2 x3 : Int} (f0 : x0 ≤ 3 ∧ x1 ≤ 5 ∧ x2 ≤ 5 ∧ x3 ≤ 5) : x0 ≤ 3 := by omega
theorem q_d413c2ac5 {x0 x1 x2 x3 : Int} (f0 : x0 ≤ 3 ∧ x1 ≤ 5 ∧ x2 ≤ 5 ∧ x3 ≤ 5) : x1 ≤ 5 := by omega
theorem q_3d62222a3 {x0 x1 x2 x3 : Int} (f0 : x0 ≤ 3 ∧ x1 ≤ 5 ∧ x2 ≤ 5 ∧ x3 ≤ 5) : x2 ≤ 5 := by omega
theorem q_ba881a6b2 {x0 x1 x2 x3 : Int} (f0 : x0 ≤ 3 ∧ x1 ≤ 5 ∧ x2 ≤ 5 ∧ x3 ≤ 5) : x3 ≤ 5 := by omega
theorem q_3355cc81a {x0 : Int} (f0 : 0 ≤ x0 ∧ x0 ≤ 185) : x0 + 4 < 250 := by omega
theorem q_6a9b84100 {x0 x1 x2 x3 : Int} (f0 : x0 ≤ 3 ∧ x1 ≤ 5 ∧ x2 ≤ 5 ∧ x3 ≤ 5) : 4 * x1 < 31 := by omega
theorem q_dcf928b19 {x0 x1 x2 x3 : Int} (f0 : x0 ≤ 3 ∧ x1 ≤ 5 ∧ x2 ≤ 5 ∧ x3 ≤ 5) : 4 * x1 + 1 < 31 := by omega
theorem q_e6749b910 {x0 x1 x2 x3 : Int} (f0 : x0 ≤ 3 ∧ x1 ≤ 5 ∧ x2 ≤ 5 ∧ x3 ≤ 5) : 4 * x1 + 2 < 31 := by omega
theorem q_df59b7065 {x0 x1 x2 x3 : Int} (f0 : x0 ≤ 3 ∧ x1 ≤ 5 ∧ x2 ≤ 5 ∧ x3 ≤ 5) : 4 * x1 + 3 < 31 := by omega
theorem q_adc08c32c {x0 x1 x2 x3 : Int} (f0 : x0 ≤ 3 ∧ x1 ≤ 5 ∧ x2 ≤ 5 ∧ x3 ≤ 5) : 4 * x2 < 31 := by omega
theorem q_e4f48c687 {x0 x1 x2 x3 : Int} (f0 : x0 ≤ 3 ∧ x1 ≤ 5 ∧ x2 ≤ 5 ∧ x3 ≤ 5) : 4 * x2 + 1 < 31 := by omega
theorem q_2fec69dae {x0 x1 x2 x3 : Int} (f0 : x0 ≤ 3 ∧ x1 ≤ 5 ∧ x2 ≤ 5 ∧ x3 ≤ 5) : 4 * x2 + 2 < 31 := by omega
theorem q_0e97914e9 {x0 x1 x2 x3 : Int} (f0 : x0 ≤ 3 ∧ x1 ≤ 5 ∧ x2 ≤ 5 ∧ x3 ≤ 5) : 4 * x2 + 3 < 31 := by omega
theorem q_5385654bc {x0 x1 x2 x3 : Int} (f0 : x0 ≤ 3 ∧ x1 ≤ 5 ∧ x2 ≤ 5 ∧ x3 ≤ 5) : 4 * x3 < 31 := by omega
theorem q_0859ee211 {x0 x1 x2 x3 : Int} (f0 : x0 ≤ 3 ∧ x1 ≤ 5 ∧ x2 ≤ 5 ∧ x3 ≤ 5) : 4 * x3 + 1 < 31 := by omega
theorem q_e1b54001f {x0 x1 x2 x3 : Int} (f0 : x0 ≤ 3 ∧ x1 ≤ 5 ∧ x2 ≤ 5 ∧ x3 ≤ 5) : 4 * x3 + 2 < 31 := by omega
theorem q_903e60c5b {x0 x1 x2 x3 : Int} (f0 : x0 ≤ 3 ∧ x1 ≤ 5 ∧ x2 ≤ 5 ∧ x3 ≤ 5) : 4 * x3 + 3 < 31 := by omega
theorem q_97bcee9a5 {x0 x1 x2 x3 : Int} (f0 : x0 ≤ 3 ∧ x1 ≤ 5 ∧ x2 ≤ 5 ∧ x3 ≤ 5) : x1 + 24 < 31 := by omega
theorem q_1cd2b4311 {x0 x1 x2 x3 : Int} (f0 : x0 ≤ 3 ∧ x1 ≤ 5 ∧ x2 ≤ 5 ∧ x3 ≤ 5) : x2 + 24 < 31 := by omega
theorem q_e35f40742 {x0 x1 x2 x3 : Int} (f0 : x0 ≤ 3 ∧ x1 ≤ 5 ∧ x2 ≤ 5 ∧ x3 ≤ 5) : x3 + 24 < 31 := by omega
theorem q_41042bdeb {x0 x1 x2 x3 : Int} (f0 : x0 ≤ 3 ∧ x1 ≤ 5 ∧ x2 ≤ 5 ∧ x3 ≤ 5) : 4 * x1 < 34 := by omega
theorem q_7f77d97c5 {x0 x1 x2 x3 : Int} (f0 : x0 ≤ 3 ∧ x1 ≤ 5 ∧ x2 ≤ 5 ∧ x3 ≤ 5) : 4 * x1 + 1 < 34 := by omega
theorem q_fea68c0f6 {x0 x1 x2 x3 : Int} (f0 : x0 ≤ 3 ∧ x1 ≤ 5 ∧ x2 ≤ 5 ∧ x3 ≤ 5) : 4 * x1 + 2 < 34 := by omega
theorem q_ac11c2be8 {x0 x1 x2 x3 : Int} (f0 : x0 ≤ 3 ∧ x1 ≤ 5 ∧ x2 ≤ 5 ∧ x3 ≤ 5) : 4 * x1 + 3 < 34 := by omega
theorem q_3e0e760f3 {x0 x1 x2 x3 : Int} (f0 : x0 ≤ 3 ∧ x1 ≤ 5 ∧ x2 ≤ 5 ∧ x3 ≤ 5) : 4 * x2 < 34 := by omega
theorem q_f835aa983 {x0 x1 x2 x3 : Int} (f0 : x0 ≤ 3 ∧ x1 ≤ 5 ∧ x2 ≤ 5 ∧ x3 ≤ 5) : 4 * x2 + 1 < 34 := by omega
theorem q_dbc3be934 {x0 x1 x2 x3 : Int} (f0 : x0 ≤ 3 ∧ x1 ≤ 5 ∧ x2 ≤ 5 ∧ x3 ≤ 5) : 4 * x2 + 2 < 34 := by omega
theorem q_a308b0560 {x0 x1 x2 x3 : Int} (f0 : x0 ≤ 3 ∧ x1 ≤ 5 ∧ x2 ≤ 5 ∧ x3 ≤ 5) : 4 * x2 + 3 < 34 := by omega
theorem q_1bc1bc7d4 {x0 x1 x2 x3 : Int} (f0 : x0 ≤ 3 ∧ x1 ≤ 5 ∧ x2 ≤ 5 ∧ x3 ≤ 5) : 4 * x3 < 34 := by omega
theorem q_e23d6f5e4 {x0 x1 x2 x3 : Int} (f0 : x0 ≤ 3 ∧ x1 ≤ 5 ∧ x2 ≤ 5 ∧ x3 ≤ 5) : 4 * x3 + 1 < 34 := by omega
theorem q_fc639c050 {x0 x1 x2 x3 : Int} (f0 : x0 ≤ 3 ∧ x1 ≤ 5 ∧ x2 ≤ 5 ∧ x3 ≤ 5) : 4 * x3 + 2 < 34 := by omega
theorem q_42211b81e {x0 x1 x2 x3 : Int} (f0 : x0 ≤ 3 ∧ x1 ≤ 5 ∧ x2 ≤ 5 ∧ x3 ≤ 5) : 4 * x3 + 3 < 34 := by omega
theorem q_0fa9a2fab {x0 x1 x2 x3 : Int} (f0 : x0 ≤ 3 ∧ x1 ≤ 5 ∧ x2 ≤ 5 ∧ x3 ≤ 5) : x1 + 24 < 34 := by omega
theorem q_936acce05 {x0 x1 x2 x3 : Int} (f0 : x0 ≤ 3 ∧ x1 ≤ 5 ∧ x2 ≤ 5 ∧ x3 ≤ 5) : x2 + 24 < 34 := by omega
theorem q_3cec9d785 {x0 x1 x2 x3 : Int} (f0 : x0 ≤ 3 ∧ x1 ≤ 5 ∧ x2 ≤ 5 ∧ x3 ≤ 5) : x3 + 24 < 34 := by omega
theorem q_3af635ddf {x0 x1 x2 x3 : Int} (f0 : x0 ≤ 3 ∧ x1 ≤ 5 ∧ x2 ≤ 5 ∧ x3 ≤ 5) : 4 * x1 < 32 := by omega
theorem q_addb5aec5 {x0 x1 x2 x3 : Int} (f0 : x0 ≤ 3 ∧ x1 ≤ 5 ∧ x2 ≤ 5 ∧ x3 ≤ 5) : 4 * x1 + 1 < 32 := by omega
theorem q_03a0b9cf9 {x0 x1 x2 x3 : Int} (f0 : x0 ≤ 3 ∧ x1 ≤ 5 ∧ x2 ≤ 5 ∧ x3 ≤ 5) : 4 * x1 + 2 < 32 := by omega
theorem q_b6f75feb3 {x0 x1 x2 x3 : Int} (f0 : x0 ≤ 3 ∧ x1 ≤ 5 ∧ x2 ≤ 5 ∧ x3 ≤ 5) : 4 * x1 + 3 < 32 := by omega
theorem q_3d57f484c {x0 x1 x2 x3 : Int} (f0 : x0 ≤ 3 ∧ x1 ≤ 5 ∧ x2 ≤ 5 ∧ x3 ≤ 5) : 4 * x2 < 32 := by omega
theorem q_fcfb0c8b6 {x0 x1 x2 x3 : Int} (f0 : x0 ≤ 3 ∧ x1 ≤ 5 ∧ x2 ≤ 5 ∧ x3 ≤ 5) : 4 * x2 + 1 < 32 := by omega
theorem q_d516b873a {x0 x1 x2 x3 : Int} (f0 : x0 ≤ 3 ∧ x1 ≤ 5 ∧ x2 ≤ 5 ∧ x3 ≤ 5) : 4 * x2 + 2 < 32 := by omega
theorem q_6c4eb1f3c {x0 x1 x2 x3 : Int} (f0 : x0 ≤ 3 ∧ x1 ≤ 5 ∧ x2 ≤ 5 ∧ x3 ≤ 5) : 4 * x2 + 3 < 32 := by omega
theorem q_e0f53d40a {x0 x1 x2 x3 : Int} (f0 : x0 ≤ 3 ∧ x1 ≤ 5 ∧ x2 ≤ 5 ∧ x3 ≤ 5) : 4 * x3 < 32 := by omega
theorem q_5c4e3f306 {x0 x1 x2 x3 : Int} (f0 : x0 ≤ 3 ∧ x1 ≤ 5 ∧ x2 ≤ 5 ∧ x3 ≤ 5) : 4 * x3 + 1 < 32 := by omega
theorem q_88760faf6 {x0 x1 x2 x3 : Int} (f0 : x0 ≤ 3 ∧ x1 ≤ 5 ∧ x2 ≤ 5 ∧ x3 ≤ 5) : 4 * x3 + 2 < 32 := by omega
theorem q_6abe7dc70 {x0 x1 x2 x3 : Int} (f0 : x0 ≤ 3 ∧ x1 ≤ 5 ∧ x2 ≤ 5 ∧ x3 ≤ 5) : 4 * x3 + 3 < 32 := by omega
theorem q_44336dde5 {x0 x1 x2 x3 : Int} (f0 : x0 ≤ 3 ∧ x1 ≤ 5 ∧ x2 ≤ 5 ∧ x3 ≤ 5) : x1 + 24 < 32 := by omega
theorem q_efbab3368 {x0 x1 x2 x3 : Int} (f0 : x0 ≤ 3 ∧ x1 ≤ 5 ∧ x2 ≤ 5 ∧ x3 ≤ 5) : x2 + 24 < 32 := by omega
theorem q_b825c03d4 {x0 x1 x2 x3 : Int} (f0 : x0 ≤ 3 ∧ x1 ≤ 5 ∧ x2 ≤ 5 ∧ x3 ≤ 5) : x3 + 24 < 32 := by omega
theorem q_e8d1b4dc3 {x0 x1 x2 x3 : Int} (f0 : x0 ≤ 3 ∧ x1 ≤ 5 ∧ x2 ≤ 5 ∧ x3 ≤ 5) : 4 * x1 < 35 := by omega
theorem q_b3b76b2c4 {x0 x1 x2 x3 : Int} (f0 : x0 ≤ 3 ∧ x1 ≤ 5 ∧ x2 ≤ 5 ∧ x3 ≤ 5) : 4 * x1 + 1 < 35 := by omega
theorem q_93c8958c3 {x0 x1 x2 x3 : Int} (f0 : x0 ≤ 3 ∧ x1 ≤ 5 ∧ x2 ≤ 5 ∧ x3 ≤ 5) : 4 * x1 + 2 < 35 := by omega
theorem q_0f8486e49 {x0 x1 x2 x3 : Int} (f0 : x0 ≤ 3 ∧ x1 ≤ 5 ∧ x2 ≤ 5 ∧ x3 ≤ 5) : 4 * x1 + 3 < 35 := by omega
theorem q_37efe1115 {x0 x1 x2 x3 : Int} (f0 : x0 ≤ 3 ∧ x1 ≤ 5 ∧ x2 ≤ 5 ∧ x3 ≤ 5) : 4 * x2 < 35 := by omega
theorem q_b70cb6033 {x0 x1 x2 x3 : Int} (f0 : x0 ≤ 3 ∧ x1 ≤ 5 ∧ x2 ≤ 5 ∧ x3 ≤ 5) : 4 * x2 + 1 < 35 := by omega
theorem q_e01eb182a {x0 x1 x2 x3 : Int} (f0 : x0 ≤ 3 ∧ x1 ≤ 5 ∧ x2 ≤ 5 ∧ x3 ≤ 5) : 4 * x2 + 2 < 35 := by omega
theorem q_80a882097 {x0 x1 x2 x3 : Int} (f0 : x0 ≤ 3 ∧ x1 ≤ 5 ∧ x2 ≤ 5 ∧ x3 ≤ 5) : 4 * x2 + 3 < 35 := by omega
theorem q_579c9be9b {x0 x1 x2 x3 : Int} (f0 : x0 ≤ 3 ∧ x1 ≤ 5 ∧ x2 ≤ 5 ∧ x3 ≤ 5) : 4 * x3 < 35 := by omega
theorem q_0f4d97558 {x0 x1 x2 x3 : Int} (f0 : x0 ≤ 3 ∧ x1 ≤ 5 ∧ x2 ≤ 5 ∧ x3 ≤ 5) : 4 * x3 + 1 < 35 := by omega
theorem q_111e723aa {x0 x1 x2 x3 : Int} (f0 : x0 ≤ 3 ∧ x1 ≤ 5 ∧ x2 ≤ 5 ∧ x3 ≤ 5) : 4 * x3 + 2 < 35 := by omega
theorem q_0815743de {x0 x1 x2 x3 : Int} (f0 : x0 ≤ 3 ∧ x1 ≤ 5 ∧ x2 ≤ 5 ∧ x3 ≤ 5) : 4 * x3 + 3 < 35 := by omega
theorem q_8ad4f60b7 {x0 x1 x2 x3 : Int} (f0 : x0 ≤ 3 ∧ x1 ≤ 5 ∧ x2 ≤ 5 ∧ x3 ≤ 5) : x1 + 24 < 35 := by omega
theorem q_0c45540cf {x0 x1 x2 x3 : Int} (f0 : x0 ≤ 3 ∧ x1 ≤ 5 ∧ x2 ≤ 5 ∧ x3 ≤ 5) : x2 + 24 < 35 := by omega
theorem q_6806c32b1 {x0 x1 x2 x3 : Int} (f0 : x0 ≤ 3 ∧ x1 ≤ 5 ∧ x2 ≤ 5 ∧ x3 ≤ 5) : x3 + 24 < 35 := by omega
theorem q_38030aaab {x0 x1 x2 x3 : Int} (f0 : x0 ≤ 3 ∧ x1 ≤ 5 ∧ x2 ≤ 5 ∧ x3 ≤ 5) : 4 * x1 < 33 := by omega
theorem q_3070e2b7e {x0 x1 x2 x3 : Int} (f0 : x0 ≤ 3 ∧ x1 ≤ 5 ∧ x2 ≤ 5 ∧ x3 ≤ 5) : 4 * x1 + 1 < 33 := by omega
theorem q_001989778 {x0 x1 x2 x3 : Int} (f0 : x0 ≤ 3 ∧ x1 ≤ 5 ∧ x2 ≤ 5 ∧ x3 ≤ 5) : 4 * x1 + 2 < 33 := by omega
theorem q_e471330f4 {x0 x1 x2 x3 : Int} (f0 : x0 ≤ 3 ∧ x1 ≤ 5 ∧ x2 ≤ 5 ∧ x3 ≤ 5) : 4 * x1 + 3 < 33 := by omega
theorem q_7fd42cf1c {x0 x1 x2 x3 : Int} (f0 : x0 ≤ 3 ∧ x1 ≤ 5 ∧ x2 ≤ 5 ∧ x3 ≤ 5) : 4 * x2 < 33 := by omega
theorem q_ff9996384 {x0 x1 x2 x3 : Int} (f0 : x0 ≤ 3 ∧ x1 ≤ 5 ∧ x2 ≤ 5 ∧ x3 ≤ 5) : 4 * x2 + 1 < 33 := by omega
theorem q_8214cc4bb {x0 x1 x2 x3 : Int} (f0 : x0 ≤ 3 ∧ x1 ≤ 5 ∧ x2 ≤ 5 ∧ x3 ≤ 5) : 4 * x2 + 2 < 33 := by omega
theorem q_0e11a1f91 {x0 x1 x2 x3 : Int} (f0 : x0 ≤ 3 ∧ x1 ≤ 5 ∧ x2 ≤ 5 ∧ x3 ≤ 5) : 4 * x2 + 3 < 33 := by omega
theorem q_df50a1967 {x0 x1 x2 x3 : Int} (f0 : x0 ≤ 3 ∧ x1 ≤ 5 ∧ x2 ≤ 5 ∧ x3 ≤ 5) : 4 * x3 < 33 := by omega
theorem q_04cb12ca4 {x0 x1 x2 x3 : Int} (f0 : x0 ≤ 3 ∧ x1 ≤ 5 ∧ x2 ≤ 5 ∧ x3 ≤ 5) : 4 * x3 + 1 < 33 := by omega
theorem q_22393c582 {x0 x1 x2 x3 : Int} (f0 : x0 ≤ 3 ∧ x1 ≤ 5 ∧ x2 ≤ 5 ∧ x3 ≤ 5) : 4 * x3 + 2 < 33 := by omega
theorem q_ab284ebdd {x0 x1 x2 x3 : Int} (f0 : x0 ≤ 3 ∧ x1 ≤ 5 ∧ x2 ≤ 5 ∧ x3 ≤ 5) : 4 * x3 + 3 < 33 := by omega
theorem q_b9c0be8dd {x0 x1 x2 x3 : Int} (f0 : x0 ≤ 3 ∧ x1 ≤ 5 ∧ x2 ≤ 5 ∧ x3 ≤ 5) : x1 + 24 < 33 := by omega
theorem q_4bc56d219 {x0 x1 x2 x3 : Int} (f0 : x0 ≤ 3 ∧ x1 ≤ 5 ∧ x2 ≤ 5 ∧ x3 ≤ 5) : x2 + 24 < 33 := by omega
theorem q_53c265c5b {x0 x1 x2 x3 : Int} (f0 : x0 ≤ 3 ∧ x1 ≤ 5 ∧ x2 ≤ 5 ∧ x3 ≤ 5) : x3 + 24 < 33 := by omega
theorem q_1a2966555 {x0 x1 x2 x3 : Int} (f0 : x0 ≤ 3 ∧ x1 ≤ 5 ∧ x2 ≤ 5 ∧ x3 ≤ 5) : 4 * x1 < 36 := by omega
theorem q_6e7a6cd0c {x0 x1 x2 x3 : Int} (f0 : x0 ≤ 3 ∧ x1 ≤ 5 ∧ x2 ≤ 5 ∧ x3 ≤ 5) : 4 * x1 + 1 < 36 := by omega
theorem q_c6fc499ca {x0 x1 x2 x3 : Int} (f0 : x0 ≤ 3 ∧ x1 ≤ 5 ∧ x2 ≤ 5 ∧ x3 ≤ 5) : 4 * x1 + 2 < 36 := by omega
theorem q_4a33953fa {x0 x1 x2 x3 : Int} (f0 : x0 ≤ 3 ∧ x1 ≤ 5 ∧ x2 ≤ 5 ∧ x3 ≤ 5) : 4 * x1 + 3 < 36 := by omega
theorem q_5127ea746 {x0 x1 x2 x3 : Int} (f0 : x0 ≤ 3 ∧ x1 ≤ 5 ∧ x2 ≤ 5 ∧ x3 ≤ 5) : 4 * x2 < 36 := by omega
theorem q_331e21d32 {x0 x1 x2 x3 : Int} (f0 : x0 ≤ 3 ∧ x1 ≤ 5 ∧ x2 ≤ 5 ∧ x3 ≤ 5) : 4 * x2 + 1 < 36 := by omega
theorem q_46010ff0d {x0 x1 x2 x3 : Int} (f0 : x0 ≤ 3 ∧ x1 ≤ 5 ∧ x2 ≤ 5 ∧ x3 ≤ 5) : 4 * x2 + 2 < 36 := by omega
theorem q_caf5b00dc {x0 x1 x2 x3 : Int} (f0 : x0 ≤ 3 ∧ x1 ≤ 5 ∧ x2 ≤ 5 ∧ x3 ≤ 5) : 4 * x2 + 3 < 36 := by omega
theorem q_fb9803d65 {x0 x1 x2 x3 : Int} (f0 : x0 ≤ 3 ∧ x1 ≤ 5 ∧ x2 ≤ 5 ∧ x3 ≤ 5) : 4 * x3 < 36 := by omega
theorem q_1e24042dc {x0 x1 x2 x3 : Int} (f0 : x0 ≤ 3 ∧ x1 ≤ 5 ∧ x2 ≤ 5 ∧ x3 ≤ 5) : 4 * x3 + 1 < 36 := by omega
theorem q_b37fd7bbd {x0 x1 x2 x3 : Int} (f0 : x0 ≤ 3 ∧ x1 ≤ 5 ∧ x2 ≤ 5 ∧ x3 ≤ 5) : 4 * x3 + 2 < 36 := by omega
theorem q_2765d8bf8 {x0 x1 x2 x3 : Int} (f0 : x0 ≤ 3 ∧ x1 ≤ 5 ∧ x2 ≤ 5 ∧ x3 ≤ 5) : 4 * x3 + 3 < 36 := by omega
theorem q_49182285c {x0 x1 x2 x3 : Int} (f0 : x0 ≤ 3 ∧ x1 ≤ 5 ∧ x2 ≤ 5 ∧ x3 ≤ 5) : x1 + 24 < 36 := by omega
theorem q_5aa9b3854 {x0 x1 x2 x3 : Int} (f0 : x0 ≤ 3 ∧ x1 ≤ 5 ∧ x2 ≤ 5 ∧ x3 ≤ 5) : x2 + 24 < 36 := by omega
theorem q_25650f837 {x0 x1 x2 x3 : Int} (f0 : x0 ≤ 3 ∧ x1 ≤ 5 ∧ x2 ≤ 5 ∧ x3 ≤ 5) : x3 + 24 < 36 := by omega
theorem q_f2136188c {x0 x1 : Int} (f0 : x0 ≤ 5 ∧ x1 ≤ 5) : 4 * x0 < 24 := by omega
theorem q_10ac57fd0 {x0 x1 : Int} (f0 : x0 ≤ 5 ∧ x1 ≤ 5) : 4 * x0 + 1 < 24 := by omega
theorem q_da5ffd430 {x0 x1 : Int} (f0 : x0 ≤ 5 ∧ x1 ≤ 5) : 4 * x0 + 2 < 24 := by omega
theorem q_de2f734d3 {x0 x1 : Int} (f0 : x0 ≤ 5 ∧ x1 ≤ 5) : 4 * x0 + 3 < 24 := by omega
theorem q_0bc57e9de {x0 x1 : Int} (f0 : x0 ≤ 5 ∧ x1 ≤ 5) : x0 ≤ 5 := by omega
theorem q_ca239155b {x0 x1 x2 x3 : Int} (f0 : 0 ≤ x0 ∧ x0 ≤ 9999) (f1 : 0 ≤ x1 ∧ x1 ≤ 9999) (f2 : 0 ≤ x2 ∧ x2 ≤ 9999) (f3 : 0 ≤ x3 ∧ x3 ≤ 9999) (f4 : x1 + x2 + x3 + x0 ≤ 0) : x1 + x2 + x3 + x0 = 0 := by omega
theorem q_06adbc8b2 {x0 x1 : Int} (f0 : x0 ≤ 5 ∧ x1 ≤ 5) : 4 * x1 < 24 := by omega
theorem q_dda483b3b {x0 x1 : Int} (f0 : x0 ≤ 5 ∧ x1 ≤ 5) : 4 * x1 + 1 < 24 := by omega
theorem q_e12b4ba3f {x0 x1 : Int} (f0 : x0 ≤ 5 ∧ x1 ≤ 5) : 4 * x1 + 2 < 24 := by omega
theorem q_07d20c4e1 {x0 x1 : Int} (f0 : x0 ≤ 5 ∧ x1 ≤ 5) : 4 * x1 + 3 < 24 := by omega
theorem q_80c12a15c {x0 x1 : Int} (f0 : x0 ≤ 5 ∧ x1 ≤ 5) : x1 ≤ 5 := by omega
theorem q_9a210f8dc {x0 x1 x2 x3 : Int} (f0 : 0 ≤ x0 ∧ x0 ≤ 9999) (f1 : 0 ≤ x1 ∧ x1 ≤ 9999) (f2 : 0 ≤ x2 ∧ x2 ≤ 9999) (f3 : 0 ≤ x3 ∧ x3 ≤ 9999) : x1 + x2 + x3 + x0 ≤ 39996 := by omega
theorem q_db61c1bf9 {x0 x1 : Int} (f0 : x0 ≤ 5 ∧ x1 ≤ 5) : 4 * x0 < 31 := by omega
theorem q_e00f4191f {x0 x1 : Int} (f0 : x0 ≤ 5 ∧ x1 ≤ 5) : 4 * x0 + 1 < 31 := by omega
theorem q_50a3860e3 {x0 x1 : Int} (f0 : x0 ≤ 5 ∧ x1 ≤ 5) : 4 * x0 + 2 < 31 := by omega
theorem q_1ce7697ac {x0 x1 : Int} (f0 : x0 ≤ 5 ∧ x1 ≤ 5) : 4 * x0 + 3 < 31 := by omega
theorem q_4bcfbb336 {x0 x1 : Int} (f0 : x0 ≤ 5 ∧ x1 ≤ 5) : 4 * x1 < 31 := by omega
theorem q_9932e17ee {x0 x1 : Int} (f0 : x0 ≤ 5 ∧ x1 ≤ 5) : 4 * x1 + 1 < 31 := by omega
theorem q_bf8cb47ce {x0 x1 : Int} (f0 : x0 ≤ 5 ∧ x1 ≤ 5) : 4 * x1 + 2 < 31 := by omega
theorem q_608f82dec {x0 x1 : Int} (f0 : x0 ≤ 5 ∧ x1 ≤ 5) : 4 * x1 + 3 < 31 := by omega
theorem q_70658eed6 {x0 x1 : Int} (f0 : x0 ≤ 5 ∧ x1 ≤ 5) : x0 + 24 < 31 := by omega
theorem q_860e19046 {x0 x1 : Int} (f0 : x0 ≤ 5 ∧ x1 ≤ 5) : x1 + 24 < 31 := by omega
theorem q_0a16d7428 {x0 x1 : Int} (f0 : x0 ≤ 5 ∧ x1 ≤ 5) : 4 * x0 < 34 := by omega
theorem q_f08f91add {x0 x1 : Int} (f0 : x0 ≤ 5 ∧ x1 ≤ 5) : 4 * x0 + 1 < 34 := by omega
theorem q_279610b8a {x0 x1 : Int} (f0 : x0 ≤ 5 ∧ x1 ≤ 5) : 4 * x0 + 2 < 34 := by omega
theorem q_8ed4744f1 {x0 x1 : Int} (f0 : x0 ≤ 5 ∧ x1 ≤ 5) : 4 * x0 + 3 < 34 := by omega
theorem q_63a30b994 {x0 x1 : Int} (f0 : x0 ≤ 5 ∧ x1 ≤ 5) : 4 * x1 < 34 := by omega
theorem q_9c575aa11 {x0 x1 : Int} (f0 : x0 ≤ 5 ∧ x1 ≤ 5) : 4 * x1 + 1 < 34 := by omega
theorem q_c27e6b7a1 {x0 x1 : Int} (f0 : x0 ≤ 5 ∧ x1 ≤ 5) : 4 * x1 + 2 < 34 := by omega
theorem q_7f8d012a3 {x0 x1 : Int} (f0 : x0 ≤ 5 ∧ x1 ≤ 5) : 4 * x1 + 3 < 34 := by omega
theorem q_4bf0de055 {x0 x1 : Int} (f0 : x0 ≤ 5 ∧ x1 ≤ 5) : x0 + 24 < 34 := by omega
theorem q_2f8ef7b7f {x0 x1 : Int} (f0 : x0 ≤ 5 ∧ x1 ≤ 5) : x1 + 24 < 34 := by omega
theorem q_edeb545d2 {x0 x1 : Int} (f0 : x0 ≤ 5 ∧ x1 ≤ 5) : 4 * x0 < 32 := by omega
theorem q_b44b2a8f4 {x0 x1 : Int} (f0 : x0 ≤ 5 ∧ x1 ≤ 5) : 4 * x0 + 1 < 32 := by omega
theorem q_8dc4c6634 {x0 x1 : Int} (f0 : x0 ≤ 5 ∧ x1 ≤ 5) : 4 * x0 + 2 < 32 := by omega
theorem q_98c2513dd {x0 x1 : Int} (f0 : x0 ≤ 5 ∧ x1 ≤ 5) : 4 * x0 + 3 < 32 := by omega
theorem q_3096e269a {x0 x1 : Int} (f0 : x0 ≤ 5 ∧ x1 ≤ 5) : 4 * x1 < 32 := by omega
theorem q_6ed19a90f {x0 x1 : Int} (f0 : x0 ≤ 5 ∧ x1 ≤ 5) : 4 * x1 + 1 < 32 := by omega
theorem q_5a2f0abfb {x0 x1 : Int} (f0 : x0 ≤ 5 ∧ x1 ≤ 5) : 4 * x1 + 2 < 32 := by omega
theorem q_13a6044db {x0 x1 : Int} (f0 : x0 ≤ 5 ∧ x1 ≤ 5) : 4 * x1 + 3 < 32 := by omega
theorem q_32a08b432 {x0 x1 : Int} (f0 : x0 ≤ 5 ∧ x1 ≤ 5) : x0 + 24 < 32 := by omega
theorem q_39e2a5ad4 {x0 x1 : Int} (f0 : x0 ≤ 5 ∧ x1 ≤ 5) : x1 + 24 < 32 := by omega
theorem q_a0fa372f3 {x0 x1 : Int} (f0 : x0 ≤ 5 ∧ x1 ≤ 5) : 4 * x0 < 35 := by omega
theorem q_d86783c69 {x0 x1 : Int} (f0 : x0 ≤ 5 ∧ x1 ≤ 5) : 4 * x0 + 1 < 35 := by omega
theorem q_eab10ab40 {x0 x1 : Int} (f0 : x0 ≤ 5 ∧ x1 ≤ 5) : 4 * x0 + 2 < 35 := by omega
theorem q_804749906 {x0 x1 : Int} (f0 : x0 ≤ 5 ∧ x1 ≤ 5) : 4 * x0 + 3 < 35 := by omega
theorem q_ad1dcba06 {x0 x1 : Int} (f0 : x0 ≤ 5 ∧ x1 ≤ 5) : 4 * x1 < 35 := by omega
theorem q_7bbdea4ed {x0 x1 : Int} (f0 : x0 ≤ 5 ∧ x1 ≤ 5) : 4 * x1 + 1 < 35 := by omega
theorem q_033238ad1 {x0 x1 : Int} (f0 : x0 ≤ 5 ∧ x1 ≤ 5) : 4 * x1 + 2 < 35 := by omega
theorem q_1817e965d {x0 x1 : Int} (f0 : x0 ≤ 5 ∧ x1 ≤ 5) : 4 * x1 + 3 < 35 := by omega
theorem q_7d04f29a4 {x0 x1 : Int} (f0 : x0 ≤ 5 ∧ x1 ≤ 5) : x0 + 24 < 35 := by omega
theorem q_cd60bc9d5 {x0 x1 : Int} (f0 : x0 ≤ 5 ∧ x1 ≤ 5) : x1 + 24 < 35 := by omega
theorem q_13ccd8896 {x0 x1 : Int} (f0 : x0 ≤ 5 ∧ x1 ≤ 5) : 4 * x0 < 33 := by omega
theorem q_507df6927 {x0 x1 : Int} (f0 : x0 ≤ 5 ∧ x1 ≤ 5) : 4 * x0 + 1 < 33 := by omega
theorem q_8bb95e641 {x0 x1 : Int} (f0 : x0 ≤ 5 ∧ x1 ≤ 5) : 4 * x0 + 2 < 33 := by omega
theorem q_fc73e86d3 {x0 x1 : Int} (f0 : x0 ≤ 5 ∧ x1 ≤ 5) : 4 * x0 + 3 < 33 := by omega
theorem q_1f7e941e3 {x0 x1 : Int} (f0 : x0 ≤ 5 ∧ x1 ≤ 5) : 4 * x1 < 33 := by omega
theorem q_4d528a7e3 {x0 x1 : Int} (f0 : x0 ≤ 5 ∧ x1 ≤ 5) : 4 * x1 + 1 < 33 := by omega
theorem q_bb14543b2 {x0 x1 : Int} (f0 : x0 ≤ 5 ∧ x1 ≤ 5) : 4 * x1 + 2 < 33 := by omega
theorem q_54e128fee {x0 x1 : Int} (f0 : x0 ≤ 5 ∧ x1 ≤ 5) : 4 * x1 + 3 < 33 := by omega
theorem q_819ba5f94 {x0 x1 : Int} (f0 : x0 ≤ 5 ∧ x1 ≤ 5) : x0 + 24 < 33 := by omega
theorem q_e4be40560 {x0 x1 : Int} (f0 : x0 ≤ 5 ∧ x1 ≤ 5) : x1 + 24 < 33 := by omega
theorem q_3062eebfc {x0 x1 : Int} (f0 : x0 ≤ 5 ∧ x1 ≤ 5) : 4 * x0 < 36 := by omega
theorem q_2746ea23f {x0 x1 : Int} (f0 : x0 ≤ 5 ∧ x1 ≤ 5) : 4 * x0 + 1 < 36 := by omega
theorem q_00e921dd4 {x0 x1 : Int} (f0 : x0 ≤ 5 ∧ x1 ≤ 5) : 4 * x0 + 2 < 36 := by omega
theorem q_c6a5d067e {x0 x1 : Int} (f0 : x0 ≤ 5 ∧ x1 ≤ 5) : 4 * x0 + 3 < 36 := by omega
theorem q_dc0f439f3 {x0 x1 : Int} (f0 : x0 ≤ 5 ∧ x1 ≤ 5) : 4 * x1 < 36 := by omega
theorem q_f80ed673b {x0 x1 : Int} (f0 : x0 ≤ 5 ∧ x1 ≤ 5) : 4 * x1 + 1 < 36 := by omega
theorem q_ebd8638ca {x0 x1 : Int} (f0 : x0 ≤ 5 ∧ x1 ≤ 5) : 4 * x1 + 2 < 36 := by omega
theorem q_5b4c4f2a8 {x0 x1 : Int} (f0 : x0 ≤ 5 ∧ x1 ≤ 5) : 4 * x1 + 3 < 36 := by omega
theorem q_2c235f68f {x0 x1 : Int} (f0 : x0 ≤ 5 ∧ x1 ≤ 5) : x0 + 24 < 36 := by omega
theorem q_d727a778f {x0 x1 : Int} (f0 : x0 ≤ 5 ∧ x1 ≤ 5) : x1 + 24 < 36 := by omega
theorem q_947e7640c {x0 x1 x2 x3 x4 x5 x6 x7 : Int} (f0 : 0 ≤ x0 ∧ x0 ≤ 9999) (f1 : 0 ≤ x1 ∧ x1 ≤ 9999) (f2 : 0 ≤ x2 ∧ x2 ≤ 9999) (f3 : 0 ≤ x3 ∧ x3 ≤ 9999) (f4 : (x4 + x5 + x6 + x7 ≤ x4 + x5 + x6 + x7 ∧ x4 + x5 + x6 + x7 + x1 + x2 + x3 + x0 ≤ 9999)) : x4 + x5 + x6 + x7 ≤ 39996 := by omega
theorem q_37e29437a {x0 x1 x2 x3 x4 x5 : Int} (f0 : x0 = x1 ∧ x2 = x3 ∧ x4 = x5 ∧ 1 ≤ x4) : 1 ≤ x4 := by omega
theorem q_a4a667596 {x0 x1 x2 x3 x4 x5 x6 : Int} (f0 : 0 ≤ x0 ∧ x0 ≤ 999) (f1 : x1 = x2 ∧ x3 = x4 ∧ x5 = x6 ∧ 1 ≤ x5) (f2 : x0 = x6) : x5 ≤ 39996 := by omega
theorem q_4dbe62ac7 {x0 : Int} (f0 : x0 ≤ 3) : x0 ≤ 3 := by omega
theorem q_e8d44078d {x0 : Int} (f0 : x0 = 4) : ¬ x0 = 6 := by omega
theorem q_3217ecb77 {x0 : Int} (f0 : x0 ≤ 3) : x0 + 30 < 37 := by omega
theorem q_ecf0e02e4 {x0 : Int} (f0 : x0 ≤ 5) : 4 * x0 < 24 := by omega
theorem q_0f2b17365 {x0 : Int} (f0 : x0 ≤ 5) : 4 * x0 + 1 < 24 := by omega
theorem q_16936a0a3 {x0 : Int} (f0 : x0 ≤ 5) : 4 * x0 + 2 < 24 := by omega
theorem q_43e72502d {x0 : Int} (f0 : x0 ≤ 5) : 4 * x0 + 3 < 24 := by omega
theorem q_dc6885067 {x0 : Int} (f0 : x0 ≤ 5) : x0 ≤ 5 := by omega
theorem q_a8f3bf0cd {x0 : Int} (f0 : x0 ≤ 5) : 4 * x0 < 31 := by omega
theorem q_bfb14dc3a {x0 : Int} (f0 : x0 ≤ 5) : 4 * x0 + 1 < 31 := by omega
theorem q_3e8b003f8 {x0 : Int} (f0 : x0 ≤ 5) : 4 * x0 + 2 < 31 := by omega
theorem q_bb9b18d7c {x0 : Int} (f0 : x0 ≤ 5) : 4 * x0 + 3 < 31 := by omega
theorem q_68e23666b {x0 : Int} (f0 : x0 ≤ 5) : x0 + 24 < 31 := by omega
theorem q_a3d20db1a {x0 : Int} (f0 : x0 ≤ 5) : 4 * x0 < 34 := by omega
theorem q_2887c3d71 {x0 : Int} (f0 : x0 ≤ 5) : 4 * x0 + 1 < 34 := by omega
theorem q_a035721be {x0 : Int} (f0 : x0 ≤ 5) : 4 * x0 + 2 < 34 := by omega
theorem q_51b877e67 {x0 : Int} (f0 : x0 ≤ 5) : 4 * x0 + 3 < 34 := by omega
theorem q_cf6313ef7 {x0 : Int} (f0 : x0 ≤ 5) : x0 + 24 < 34 := by omega
theorem q_99b677693 {x0 : Int} (f0 : x0 ≤ 5) : 4 * x0 < 32 := by omega
theorem q_eec4fdc18 {x0 : Int} (f0 : x0 ≤ 5) : 4 * x0 + 1 < 32 := by omega
theorem q_6fe28695b {x0 : Int} (f0 : x0 ≤ 5) : 4 * x0 + 2 < 32 := by omega
theorem q_689e976aa {x0 : Int} (f0 : x0 ≤ 5) : 4 * x0 + 3 < 32 := by omega
theorem q_b91b18dd8 {x0 : Int} (f0 : x0 ≤ 5) : x0 + 24 < 32 := by omega
theorem q_ab8b26623 {x0 : Int} (f0 : x0 ≤ 5) : 4 * x0 < 35 := by omega
theorem q_74f1bb507 {x0 : Int} (f0 : x0 ≤ 5) : 4 * x0 + 1 < 35 := by omega
theorem q_525104a79 {x0 : Int} (f0 : x0 ≤ 5) : 4 * x0 + 2 < 35 := by omega
theorem q_76eb8c834 {x0 : Int} (f0 : x0 ≤ 5) : 4 * x0 + 3 < 35 := by omega
theorem q_59ddebe9a {x0 : Int} (f0 : x0 ≤ 5) : x0 + 24 < 35 := by omega
theorem q_f1327bbe0 {x0 : Int} (f0 : x0 = 6) (f1 : (x0 ≤ 6)) : x0 = 6 := by omega
theorem q_a0daf4b34 {x0 : Int} (f0 : x0 < 400) : x0 < 400 := by omega
theorem q_ba04f0c60 {x0 : Int} (f0 : ¬ (x0 < 400)) : 400 ≤ x0 := by omega
theorem q_3a0eb5d6d {x0 x1 x2 : Int} (f0 : x0 ≥ x1) (f1 : (x2 = 5 * x1)) : x2 ≤ 5 * x0 := by omega
theorem q_5bbdda581 {x0 : Int} (f0 : 0 ≤ x0 ∧ x0 ≤ 38) : 5 * x0 ≤ 2147483647 := by omega
theorem q_8fdcb8e1a {x0 : Int} (f0 : 0 ≤ x0 ∧ x0 ≤ 200) : x0 ≤ 200 := by omega
theorem q_9229d468a {x0 : Int} (f0 : 0 ≤ x0 ∧ x0 ≤ 38) : (-2147483648) ≤ 5 * x0 := by omega
theorem q_79182afdc {x0 x1 x2 : Int} (f0 : ¬ (x0 ≥ x1)) (f1 : (x2 = 5 * x1)) : 5 * x0 < x2 := by omega
theorem q_083f2e74b {x0 : Int} (f0 : x0 ≥ 200) : 200 ≤ x0 := by omega
theorem q_2c4189f45 {x0 : Int} (f0 : ¬ (x0 ≥ 200)) : x0 < 200 := by omega
theorem q_55eaeafaf {x0 : Int} (f0 : 0 ≤ x0 ∧ x0 ≤ 38) : 5 * x0 < 250 := by omega
theorem qn_63fec3ea0 {P : Nat} {j : Int} (hP : P = 13 ∨ P = 25) : ¬ ((P = 7 ∧ j = 1) ∨ (P = 7 ∧ j = 3) ∨ (P = 7 ∧ j = 4) ∨ P = 38 ∨ P = (P + 10) ∨ P = (P + 11)) := (fun q => q.elim (fun h => absurd h.1 (np0 hP rfl)) (fun q => q.elim (fun h => absurd h.1 (np0 hP rfl)) (fun q => q.elim (fun h => absurd h.1 (np0 hP rfl)) (fun q => q.elim (fun h => absurd h (np0 hP rfl)) (fun q => q.elim (fun h => absurd h (p0p rfl)) (fun h => absurd h (p0p rfl)))))))
theorem qn_5972bd399 : ¬ (((41 : Nat) = 41 ∧ (20 : Int) = 37) ∨ ((41 : Nat) = 41 ∧ (20 : Int) = 38) ∨ ((41 : Nat) = 41 ∧ (20 : Int) = 39) ∨ (41 : Nat) = 59 ∨ (41 : Nat) = 54 ∨ (41 : Nat) = 55) := (fun q => q.elim (fun h => absurd h.2 (ni rfl)) (fun q => q.elim (fun h => absurd h.2 (ni rfl)) (fun q => q.elim (fun h => absurd h.2 (ni rfl)) (fun q => q.elim (fun h => absurd h (nn rfl)) (fun q => q.elim (fun h => absurd h (nn rfl)) (fun h => absurd h (nn rfl)))))))
theorem qn_c64defba0 : ¬ (((41 : Nat) = 41 ∧ (21 : Int) = 37) ∨ ((41 : Nat) = 41 ∧ (21 : Int) = 38) ∨ ((41 : Nat) = 41 ∧ (21 : Int) = 39) ∨ (41 : Nat) = 59 ∨ (41 : Nat) = 54 ∨ (41 : Nat) = 55) := (fun q => q.elim (fun h => absurd h.2 (ni rfl)) (fun q => q.elim (fun h => absurd h.2 (ni rfl)) (fun q => q.elim (fun h => absurd h.2 (ni rfl)) (fun q => q.elim (fun h => absurd h (nn rfl)) (fun q => q.elim (fun h => absurd h (nn rfl)) (fun h => absurd h (nn rfl)))))))
theorem qn_b95612d0a : ¬ (((41 : Nat) = 41 ∧ (22 : Int) = 37) ∨ ((41 : Nat) = 41 ∧ (22 : Int) = 38) ∨ ((41 : Nat) = 41 ∧ (22 : Int) = 39) ∨ (41 : Nat) = 59 ∨ (41 : Nat) = 54 ∨ (41 : Nat) = 55) := (fun q => q.elim (fun h => absurd h.2 (ni rfl)) (fun q => q.elim (fun h => absurd h.2 (ni rfl)) (fun q => q.elim (fun h => absurd h.2 (ni rfl)) (fun q => q.elim (fun h => absurd h (nn rfl)) (fun q => q.elim (fun h => absurd h (nn rfl)) (fun h => absurd h (nn rfl)))))))
theorem qn_e0a0104c8 : ¬ (((41 : Nat) = 41 ∧ (23 : Int) = 37) ∨ ((41 : Nat) = 41 ∧ (23 : Int) = 38) ∨ ((41 : Nat) = 41 ∧ (23 : Int) = 39) ∨ (41 : Nat) = 59 ∨ (41 : Nat) = 54 ∨ (41 : Nat) = 55) := (fun q => q.elim (fun h => absurd h.2 (ni rfl)) (fun q => q.elim (fun h => absurd h.2 (ni rfl)) (fun q => q.elim (fun h => absurd h.2 (ni rfl)) (fun q => q.elim (fun h => absurd h (nn rfl)) (fun q => q.elim (fun h => absurd h (nn rfl)) (fun h => absurd h (nn rfl)))))))
theorem qn_b3966e3e5 {P : Nat} {j : Int} (hP : P = 13 ∨ P = 25) : ¬ (((P + 7) = 7 ∧ j = 1) ∨ ((P + 7) = 7 ∧ j = 3) ∨ ((P + 7) = 7 ∧ j = 4) ∨ (P + 7) = 38 ∨ (P + 7) = (P + 10) ∨ (P + 7) = (P + 11)) := (fun q => q.elim (fun h => absurd h.1 (np hP rfl rfl)) (fun q => q.elim (fun h => absurd h.1 (np hP rfl rfl)) (fun q => q.elim (fun h => absurd h.1 (np hP rfl rfl)) (fun q => q.elim (fun h => absurd h (np hP rfl rfl)) (fun q => q.elim (fun h => absurd h (pp rfl)) (fun h => absurd h (pp rfl)))))))
theorem qn_4709b30fe : ¬ (((41 : Nat) = 41 ∧ (30 : Int) = 37) ∨ ((41 : Nat) = 41 ∧ (30 : Int) = 38) ∨ ((41 : Nat) = 41 ∧ (30 : Int) = 39) ∨ (41 : Nat) = 59 ∨ (41 : Nat) = 54 ∨ (41 : Nat) = 55) := (fun q => q.elim (fun h => absurd h.2 (ni rfl)) (fun q => q.elim (fun h => absurd h.2 (ni rfl)) (fun q => q.elim (fun h => absurd h.2 (ni rfl)) (fun q => q.elim (fun h => absurd h (nn rfl)) (fun q => q.elim (fun h => absurd h (nn rfl)) (fun h => absurd h (nn rfl)))))))
theorem qn_83443a14c {P : Nat} {j : Int} (hP : P = 13 ∨ P = 25) : ¬ (((P + 2) = 7 ∧ j = 1) ∨ ((P + 2) = 7 ∧ j = 3) ∨ ((P + 2) = 7 ∧ j = 4) ∨ (P + 2) = 38 ∨ (P + 2) = (P + 10) ∨ (P + 2) = (P + 11)) := (fun q => q.elim (fun h => absurd h.1 (np hP rfl rfl)) (fun q => q.elim (fun h => absurd h.1 (np hP rfl rfl)) (fun q => q.elim (fun h => absurd h.1 (np hP rfl rfl)) (fun q => q.elim (fun h => absurd h (np hP rfl rfl)) (fun q => q.elim (fun h => absurd h (pp rfl)) (fun h => absurd h (pp rfl)))))))
theorem qn_c18ea5dcb {j : Int} : ¬ (((48 : Nat) = 41 ∧ j = 37) ∨ ((48 : Nat) = 41 ∧ j = 38) ∨ ((48 : Nat) = 41 ∧ j = 39) ∨ (48 : Nat) = 59 ∨ (48 : Nat) = 54 ∨ (48 : Nat) = 55) := (fun q => q.elim (fun h => absurd h.1 (nn rfl)) (fun q => q.elim (fun h => absurd h.1 (nn rfl)) (fun q => q.elim (fun h => absurd h.1 (nn rfl)) (fun q => q.elim (fun h => absurd h (nn rfl)) (fun q => q.elim (fun h => absurd h (nn rfl)) (fun h => absurd h (nn rfl)))))))
theorem qn_f79cd52bf {P : Nat} {j : Int} (hP : P = 13 ∨ P = 25) : ¬ (((P + 3) = 7 ∧ j = 1) ∨ ((P + 3) = 7 ∧ j = 3) ∨ ((P + 3) = 7 ∧ j = 4) ∨ (P + 3) = 38 ∨ (P + 3) = (P + 10) ∨ (P + 3) = (P + 11)) := (fun q => q.elim (fun h => absurd h.1 (np hP rfl rfl)) (fun q => q.elim (fun h => absurd h.1 (np hP rfl rfl)) (fun q => q.elim (fun h => absurd h.1 (np hP rfl rfl)) (fun q => q.elim (fun h => absurd h (np hP rfl rfl)) (fun q => q.elim (fun h => absurd h (pp rfl)) (fun h => absurd h (pp rfl)))))))
theorem qn_cf38e7081 {j : Int} : ¬ (((49 : Nat) = 41 ∧ j = 37) ∨ ((49 : Nat) = 41 ∧ j = 38) ∨ ((49 : Nat) = 41 ∧ j = 39) ∨ (49 : Nat) = 59 ∨ (49 : Nat) = 54 ∨ (49 : Nat) = 55) := (fun q => q.elim (fun h => absurd h.1 (nn rfl)) (fun q => q.elim (fun h => absurd h.1 (nn rfl)) (fun q => q.elim (fun h => absurd h.1 (nn rfl)) (fun q => q.elim (fun h => absurd h (nn rfl)) (fun q => q.elim (fun h => absurd h (nn rfl)) (fun h => absurd h (nn rfl)))))))
theorem q_76c0d0479 {x0 x1 : Int} (f0 : ¬ (x0 ≥ x1)) (f1 : 0 ≤ x1 ∧ x1 ≤ 38) : x0 ≤ 37 := by omega
theorem q_41e3ac0ee {x0 : Int}  : (5 * x0) = 5 * x0 := by omega
theorem qn_661fee173 {P : Nat} {j : Int} (hP : P = 13 ∨ P = 25) : ¬ (((P + 8) = 7 ∧ j = 1) ∨ ((P + 8) = 7 ∧ j = 3) ∨ ((P + 8) = 7 ∧ j = 4) ∨ (P + 8) = 38 ∨ (P + 8) = (P + 10) ∨ (P + 8) = (P + 11)) := (fun q => q.elim (fun h => absurd h.1 (np hP rfl rfl)) (fun q => q.elim (fun h => absurd h.1 (np hP rfl rfl)) (fun q => q.elim (fun h => absurd h.1 (np hP rfl rfl)) (fun q => q.elim (fun h => absurd h (np hP rfl rfl)) (fun q => q.elim (fun h => absurd h (pp rfl)) (fun h => absurd h (pp rfl)))))))
theorem qn_e94f0804c {j : Int} : ¬ (((52 : Nat) = 41 ∧ j = 37) ∨ ((52 : Nat) = 41 ∧ j = 38) ∨ ((52 : Nat) = 41 ∧ j = 39) ∨ (52 : Nat) = 59 ∨ (52 : Nat) = 54 ∨ (52 : Nat) = 55) := (fun q => q.elim (fun h => absurd h.1 (nn rfl)) (fun q => q.elim (fun h => absurd h.1 (nn rfl)) (fun q => q.elim (fun h => absurd h.1 (nn rfl)) (fun q => q.elim (fun h => absurd h (nn rfl)) (fun q => q.elim (fun h => absurd h (nn rfl)) (fun h => absurd h (nn rfl)))))))
theorem qn_2b0308366 {j : Int} : ¬ (((53 : Nat) = 41 ∧ j = 37) ∨ ((53 : Nat) = 41 ∧ j = 38) ∨ ((53 : Nat) = 41 ∧ j = 39) ∨ (53 : Nat) = 59 ∨ (53 : Nat) = 54 ∨ (53 : Nat) = 55) := (fun q => q.elim (fun h => absurd h.1 (nn rfl)) (fun q => q.elim (fun h => absurd h.1 (nn rfl)) (fun q => q.elim (fun h => absurd h.1 (nn rfl)) (fun q => q.elim (fun h => absurd h (nn rfl)) (fun q => q.elim (fun h => absurd h (nn rfl)) (fun h => absurd h (nn rfl)))))))
theorem q_aef1bdf22 {x0 x1 : Int} (f0 : (x0 ≥ x1)) : x1 ≤ (x0 + 1) := by omega
theorem q_fade5e275 {x0 x1 : Int} (f0 : ¬ (x0 ≥ x1)) : (x0 + 1) ≤ x1 := by omega
theorem q_ae6c7de02 {x0 : Int} (f0 : 0 ≤ x0 ∧ x0 ≤ 38) : 5 * x0 + 2 < 250 := by omega
theorem q_43f58cb75 {x0 : Int} (f0 : ¬ (x0 ≠ 7)) : x0 ≤ 7 := by omega
theorem q_0ad10bfe3 {x0 : Int} (f0 : 0 ≤ x0 ∧ x0 ≤ 37) : 5 * x0 + 1 < 250 := by omega
theorem q_345658e61 {x0 : Int} (f0 : 0 ≤ x0 ∧ x0 ≤ 37) : 0 ≤ 5 * x0 + 5 := by omega
theorem q_a642933e0 {x0 : Int} (f0 : 0 ≤ x0 ∧ x0 ≤ 37) : 5 * x0 + 5 ≤ 250 := by omega
theorem q_239c60553 {x0 : Int} (f0 : 1 ≤ x0 ∧ x0 ≤ 38) : 0 ≤ 5 * x0 := by omega
theorem q_ecf756336 {x0 : Int} (f0 : 1 ≤ x0 ∧ x0 ≤ 38) : 5 * x0 ≤ 250 := by omega
theorem q_50b3cb01a {x0 : Int}  : (5 * x0 + 5) = 5 * (x0 + 1) := by omega
theorem q_3e4e57894 {x0 x1 : Int} (f0 : (x0 + 1 ≤ x1)) : (x0 + 1) ≤ x1 := by omega
theorem q_6a596a258 {x0 x1 x2 : Int} (f0 : (x0 = x1 ∧ x0 ≥ x2 ∧ x0 ≤ 200)) : x1 ≤ x0 := by omega
theorem q_70349999f {x0 x1 x2 : Int} (f0 : (x0 = x1 ∧ x0 ≥ x2 ∧ x0 ≤ 200)) : x0 ≤ x1 := by omega
theorem q_e3178e8fe {x0 x1 : Int} (f0 : (x0 + 1 ≤ x1)) : x0 + 1 ≤ x1 := by omega
theorem q_39bb267d4 {x0 x1 x2 x3 : Int} (f0 : (x0 ≥ x1)) (f1 : (x2 ≥ x3)) (f2 : x1 = x2) : x3 ≤ (x0) := by omega
