/-! OWN: the tables are as the tables' words say (by program) -/
set_option maxRecDepth 100000 in
theorem ok_X12_trace : (kmi[mX12_trace]?).any (fun I => kcks I kt_X12_trace kx_X12_trace) = true := by decide +kernel
set_option maxRecDepth 100000 in
theorem ok_X12_drop : (kmi[mX12_drop]?).any (fun I => kcks I kt_X12_drop kx_X12_drop) = true := by decide +kernel
set_option maxRecDepth 100000 in
theorem ok_X12_isStep : (kmi[mX12_isStep]?).any (fun I => kcks I kt_X12_isStep kx_X12_isStep) = true := by decide +kernel
set_option maxRecDepth 100000 in
theorem ok_X12_readsStep : (kmi[mX12_readsStep]?).any (fun I => kcks I kt_X12_readsStep kx_X12_readsStep) = true := by decide +kernel
set_option maxRecDepth 100000 in
theorem ok_X12_filters : (kmi[mX12_filters]?).any (fun I => kcks I kt_X12_filters kx_X12_filters) = true := by decide +kernel
set_option maxRecDepth 100000 in
theorem ok_X12_keepsKnock : (kmi[mX12_keepsKnock]?).any (fun I => kcks I kt_X12_keepsKnock kx_X12_keepsKnock) = true := by decide +kernel
set_option maxRecDepth 100000 in
theorem ok_X12_stays : (kmi[mX12_stays]?).any (fun I => kcks I kt_X12_stays kx_X12_stays) = true := by decide +kernel
set_option maxRecDepth 100000 in
theorem ok_X12_goesThrough : (kmi[mX12_goesThrough]?).any (fun I => kcks I kt_X12_goesThrough kx_X12_goesThrough) = true := by decide +kernel
set_option maxRecDepth 100000 in
theorem ok_X12_sees : (kmi[mX12_sees]?).any (fun I => kcks I kt_X12_sees kx_X12_sees) = true := by decide +kernel
set_option maxRecDepth 100000 in
theorem ok_X12_knock : (kmi[mX12_knock]?).any (fun I => kcks I kt_X12_knock kx_X12_knock) = true := by decide +kernel
set_option maxRecDepth 100000 in
theorem ok_X12_set : (kmi[mX12_set]?).any (fun I => kcks I kt_X12_set kx_X12_set) = true := by decide +kernel
set_option maxRecDepth 100000 in
theorem ok_X12_get : (kmi[mX12_get]?).any (fun I => kcks I kt_X12_get kx_X12_get) = true := by decide +kernel
set_option maxRecDepth 100000 in
theorem ok_X12_lays_ : (kmi[mX12_lays_]?).any (fun I => kcks I kt_X12_lays_ kx_X12_lays_) = true := by decide +kernel
set_option maxRecDepth 100000 in
theorem ok_X12_told : (kmi[mX12_told]?).any (fun I => kcks I kt_X12_told kx_X12_told) = true := by decide +kernel
set_option maxRecDepth 100000 in
theorem ok_X12_laysBest : (kmi[mX12_laysBest]?).any (fun I => kcks I kt_X12_laysBest kx_X12_laysBest) = true := by decide +kernel
set_option maxRecDepth 100000 in
theorem ok_X12_laysBestOf : (kmi[mX12_laysBestOf]?).any (fun I => kcks I kt_X12_laysBestOf kx_X12_laysBestOf) = true := by decide +kernel
set_option maxRecDepth 100000 in
theorem ok_X12_comb : (kmi[mX12_comb]?).any (fun I => kcks I kt_X12_comb kx_X12_comb) = true := by decide +kernel
set_option maxRecDepth 100000 in
theorem ok_X12_hit : (kmi[mX12_hit]?).any (fun I => kcks I kt_X12_hit kx_X12_hit) = true := by decide +kernel
