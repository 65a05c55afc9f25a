/-! OWN: the tables are as the tables' words say (by program) -/
set_option maxRecDepth 100000 in
theorem ok_L_law : (kmi[mL_law]?).any (fun I => kcks I kt_L_law kx_L_law) = true := by decide +kernel
