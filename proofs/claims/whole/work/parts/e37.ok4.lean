/-! OWN: the law's table is as the tables' words say (by program, in stretches) -/
set_option maxRecDepth 100000 in
theorem okL_0 : kcks kIL ((kt_L_law.drop (40 * 0)).take 40) ((kx_L_law.drop (40 * 0)).take 40) = true := by decide +kernel
set_option maxRecDepth 100000 in
theorem okL_1 : kcks kIL ((kt_L_law.drop (40 * 1)).take 40) ((kx_L_law.drop (40 * 1)).take 40) = true := by decide +kernel
set_option maxRecDepth 100000 in
theorem okL_2 : kcks kIL ((kt_L_law.drop (40 * 2)).take 40) ((kx_L_law.drop (40 * 2)).take 40) = true := by decide +kernel
set_option maxRecDepth 100000 in
theorem okL_3 : kcks kIL ((kt_L_law.drop (40 * 3)).take 40) ((kx_L_law.drop (40 * 3)).take 40) = true := by decide +kernel
set_option maxRecDepth 100000 in
theorem okL_4 : kcks kIL ((kt_L_law.drop (40 * 4)).take 40) ((kx_L_law.drop (40 * 4)).take 40) = true := by decide +kernel
set_option maxRecDepth 100000 in
theorem okL_5 : kcks kIL ((kt_L_law.drop (40 * 5)).take 40) ((kx_L_law.drop (40 * 5)).take 40) = true := by decide +kernel
set_option maxRecDepth 100000 in
theorem okL_6 : kcks kIL ((kt_L_law.drop (40 * 6)).take 40) ((kx_L_law.drop (40 * 6)).take 40) = true := by decide +kernel
set_option maxRecDepth 100000 in
theorem okL_7 : kcks kIL ((kt_L_law.drop (40 * 7)).take 40) ((kx_L_law.drop (40 * 7)).take 40) = true := by decide +kernel
set_option maxRecDepth 100000 in
theorem okL_8 : kcks kIL ((kt_L_law.drop (40 * 8)).take 40) ((kx_L_law.drop (40 * 8)).take 40) = true := by decide +kernel
set_option maxRecDepth 100000 in
theorem okL_9 : kcks kIL ((kt_L_law.drop (40 * 9)).take 40) ((kx_L_law.drop (40 * 9)).take 40) = true := by decide +kernel
set_option maxRecDepth 100000 in
theorem okL_10 : kcks kIL ((kt_L_law.drop (40 * 10)).take 40) ((kx_L_law.drop (40 * 10)).take 40) = true := by decide +kernel
set_option maxRecDepth 100000 in
theorem okL_11 : kcks kIL ((kt_L_law.drop (40 * 11)).take 40) ((kx_L_law.drop (40 * 11)).take 40) = true := by decide +kernel
set_option maxRecDepth 100000 in
theorem okL_12 : kcks kIL ((kt_L_law.drop (40 * 12)).take 40) ((kx_L_law.drop (40 * 12)).take 40) = true := by decide +kernel
set_option maxRecDepth 100000 in
theorem okL_13 : kcks kIL ((kt_L_law.drop (40 * 13)).take 40) ((kx_L_law.drop (40 * 13)).take 40) = true := by decide +kernel
set_option maxRecDepth 100000 in
theorem okL_14 : kcks kIL ((kt_L_law.drop (40 * 14)).take 40) ((kx_L_law.drop (40 * 14)).take 40) = true := by decide +kernel
set_option maxRecDepth 100000 in
theorem okL_15 : kcks kIL ((kt_L_law.drop (40 * 15)).take 40) ((kx_L_law.drop (40 * 15)).take 40) = true := by decide +kernel
set_option maxRecDepth 100000 in
theorem okL_16 : kcks kIL ((kt_L_law.drop (40 * 16)).take 40) ((kx_L_law.drop (40 * 16)).take 40) = true := by decide +kernel
set_option maxRecDepth 100000 in
theorem okL_17 : kcks kIL ((kt_L_law.drop (40 * 17)).take 40) ((kx_L_law.drop (40 * 17)).take 40) = true := by decide +kernel
set_option maxRecDepth 100000 in
theorem okL_18 : kcks kIL ((kt_L_law.drop (40 * 18)).take 40) ((kx_L_law.drop (40 * 18)).take 40) = true := by decide +kernel
set_option maxRecDepth 100000 in
theorem okL_19 : kcks kIL ((kt_L_law.drop (40 * 19)).take 40) ((kx_L_law.drop (40 * 19)).take 40) = true := by decide +kernel
set_option maxRecDepth 100000 in
theorem okL_20 : kcks kIL ((kt_L_law.drop (40 * 20)).take 40) ((kx_L_law.drop (40 * 20)).take 40) = true := by decide +kernel
set_option maxRecDepth 100000 in
theorem okL_21 : kcks kIL ((kt_L_law.drop (40 * 21)).take 40) ((kx_L_law.drop (40 * 21)).take 40) = true := by decide +kernel
set_option maxRecDepth 100000 in
theorem okL_22 : kcks kIL ((kt_L_law.drop (40 * 22)).take 40) ((kx_L_law.drop (40 * 22)).take 40) = true := by decide +kernel
set_option maxRecDepth 100000 in
theorem okL_23 : kcks kIL ((kt_L_law.drop (40 * 23)).take 40) ((kx_L_law.drop (40 * 23)).take 40) = true := by decide +kernel
set_option maxRecDepth 100000 in
theorem okL_24 : kcks kIL ((kt_L_law.drop (40 * 24)).take 40) ((kx_L_law.drop (40 * 24)).take 40) = true := by decide +kernel
set_option maxRecDepth 100000 in
theorem okL_25 : kcks kIL ((kt_L_law.drop (40 * 25)).take 40) ((kx_L_law.drop (40 * 25)).take 40) = true := by decide +kernel
set_option maxRecDepth 100000 in
theorem okL_26 : kcks kIL ((kt_L_law.drop (40 * 26)).take 40) ((kx_L_law.drop (40 * 26)).take 40) = true := by decide +kernel
set_option maxRecDepth 100000 in
theorem okL_27 : kcks kIL ((kt_L_law.drop (40 * 27)).take 40) ((kx_L_law.drop (40 * 27)).take 40) = true := by decide +kernel
