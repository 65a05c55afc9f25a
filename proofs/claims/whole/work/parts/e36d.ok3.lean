/-! OWN: the tables are as the tables' words say (by program) -/
set_option maxRecDepth 100000 in
theorem ok_X12_faults : (kmi[mX12_faults]?).any (fun I => kcks I kt_X12_faults kx_X12_faults) = true := by decide +kernel
set_option maxRecDepth 100000 in
theorem ok_X12_fault : (kmi[mX12_fault]?).any (fun I => kcks I kt_X12_fault kx_X12_fault) = true := by decide +kernel
set_option maxRecDepth 100000 in
theorem ok_X12_says : (kmi[mX12_says]?).any (fun I => kcks I kt_X12_says kx_X12_says) = true := by decide +kernel
set_option maxRecDepth 100000 in
theorem ok_X12_saysNumber : (kmi[mX12_saysNumber]?).any (fun I => kcks I kt_X12_saysNumber kx_X12_saysNumber) = true := by decide +kernel
set_option maxRecDepth 100000 in
theorem ok_X12_laysReport : (kmi[mX12_laysReport]?).any (fun I => kcks I kt_X12_laysReport kx_X12_laysReport) = true := by decide +kernel
set_option maxRecDepth 100000 in
theorem ok_X12_report : (kmi[mX12_report]?).any (fun I => kcks I kt_X12_report kx_X12_report) = true := by decide +kernel
set_option maxRecDepth 100000 in
theorem ok_X12_apartFrom : (kmi[mX12_apartFrom]?).any (fun I => kcks I kt_X12_apartFrom kx_X12_apartFrom) = true := by decide +kernel
set_option maxRecDepth 100000 in
theorem ok_X12_apart : (kmi[mX12_apart]?).any (fun I => kcks I kt_X12_apart kx_X12_apart) = true := by decide +kernel
set_option maxRecDepth 100000 in
theorem ok_X12_pairsBy : (kmi[mX12_pairsBy]?).any (fun I => kcks I kt_X12_pairsBy kx_X12_pairsBy) = true := by decide +kernel
set_option maxRecDepth 100000 in
theorem ok_X12_isLag : (kmi[mX12_isLag]?).any (fun I => kcks I kt_X12_isLag kx_X12_isLag) = true := by decide +kernel
set_option maxRecDepth 100000 in
theorem ok_X12_lag : (kmi[mX12_lag]?).any (fun I => kcks I kt_X12_lag kx_X12_lag) = true := by decide +kernel
set_option maxRecDepth 100000 in
theorem ok_X12_lags : (kmi[mX12_lags]?).any (fun I => kcks I kt_X12_lags kx_X12_lags) = true := by decide +kernel
set_option maxRecDepth 100000 in
theorem ok_X12_nearest : (kmi[mX12_nearest]?).any (fun I => kcks I kt_X12_nearest kx_X12_nearest) = true := by decide +kernel
set_option maxRecDepth 100000 in
theorem ok_X12_noteOf : (kmi[mX12_noteOf]?).any (fun I => kcks I kt_X12_noteOf kx_X12_noteOf) = true := by decide +kernel
set_option maxRecDepth 100000 in
theorem ok_X12_note : (kmi[mX12_note]?).any (fun I => kcks I kt_X12_note kx_X12_note) = true := by decide +kernel
set_option maxRecDepth 100000 in
theorem ok_X12_noteIs : (kmi[mX12_noteIs]?).any (fun I => kcks I kt_X12_noteIs kx_X12_noteIs) = true := by decide +kernel
set_option maxRecDepth 100000 in
theorem ok_X12_findsLine : (kmi[mX12_findsLine]?).any (fun I => kcks I kt_X12_findsLine kx_X12_findsLine) = true := by decide +kernel
set_option maxRecDepth 100000 in
theorem ok_X12_lineAt : (kmi[mX12_lineAt]?).any (fun I => kcks I kt_X12_lineAt kx_X12_lineAt) = true := by decide +kernel
set_option maxRecDepth 100000 in
theorem ok_X12_line : (kmi[mX12_line]?).any (fun I => kcks I kt_X12_line kx_X12_line) = true := by decide +kernel
set_option maxRecDepth 100000 in
theorem ok_X12_due : (kmi[mX12_due]?).any (fun I => kcks I kt_X12_due kx_X12_due) = true := by decide +kernel
set_option maxRecDepth 100000 in
theorem ok_X12_tried : (kmi[mX12_tried]?).any (fun I => kcks I kt_X12_tried kx_X12_tried) = true := by decide +kernel
set_option maxRecDepth 100000 in
theorem ok_X12_bestTurn : (kmi[mX12_bestTurn]?).any (fun I => kcks I kt_X12_bestTurn kx_X12_bestTurn) = true := by decide +kernel
set_option maxRecDepth 100000 in
theorem ok_X12_check : (kmi[mX12_check]?).any (fun I => kcks I kt_X12_check kx_X12_check) = true := by decide +kernel
