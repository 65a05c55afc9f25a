/-! OWN: the tables are as the tables' words say (by program) -/
set_option maxRecDepth 100000 in
theorem ok_X11_apart : (kmi[mX11_apart]?).any (fun I => kcks I kt_X11_apart kx_X11_apart) = true := by decide +kernel
set_option maxRecDepth 100000 in
theorem ok_X11_ready : (kmi[mX11_ready]?).any (fun I => kcks I kt_X11_ready kx_X11_ready) = true := by decide +kernel
set_option maxRecDepth 100000 in
theorem ok_X11_findBestSeen : (kmi[mX11_findBestSeen]?).any (fun I => kcks I kt_X11_findBestSeen kx_X11_findBestSeen) = true := by decide +kernel
set_option maxRecDepth 100000 in
theorem ok_X11_layBest : (kmi[mX11_layBest]?).any (fun I => kcks I kt_X11_layBest kx_X11_layBest) = true := by decide +kernel
set_option maxRecDepth 100000 in
theorem ok_X11_chain : (kmi[mX11_chain]?).any (fun I => kcks I kt_X11_chain kx_X11_chain) = true := by decide +kernel
set_option maxRecDepth 100000 in
theorem ok_X11_longest : (kmi[mX11_longest]?).any (fun I => kcks I kt_X11_longest kx_X11_longest) = true := by decide +kernel
set_option maxRecDepth 100000 in
theorem ok_X11_ranked : (kmi[mX11_ranked]?).any (fun I => kcks I kt_X11_ranked kx_X11_ranked) = true := by decide +kernel
set_option maxRecDepth 100000 in
theorem ok_X11_faults : (kmi[mX11_faults]?).any (fun I => kcks I kt_X11_faults kx_X11_faults) = true := by decide +kernel
set_option maxRecDepth 100000 in
theorem ok_X11_fault : (kmi[mX11_fault]?).any (fun I => kcks I kt_X11_fault kx_X11_fault) = true := by decide +kernel
set_option maxRecDepth 100000 in
theorem ok_X11_report : (kmi[mX11_report]?).any (fun I => kcks I kt_X11_report kx_X11_report) = true := by decide +kernel
set_option maxRecDepth 100000 in
theorem ok_X11_tried : (kmi[mX11_tried]?).any (fun I => kcks I kt_X11_tried kx_X11_tried) = true := by decide +kernel
set_option maxRecDepth 100000 in
theorem ok_X11_bestTurn : (kmi[mX11_bestTurn]?).any (fun I => kcks I kt_X11_bestTurn kx_X11_bestTurn) = true := by decide +kernel
set_option maxRecDepth 100000 in
theorem ok_X11_check : (kmi[mX11_check]?).any (fun I => kcks I kt_X11_check kx_X11_check) = true := by decide +kernel
set_option maxRecDepth 100000 in
theorem ok_X11_peel : (kmi[mX11_peel]?).any (fun I => kcks I kt_X11_peel kx_X11_peel) = true := by decide +kernel
set_option maxRecDepth 100000 in
theorem ok_X11_firstAside : (kmi[mX11_firstAside]?).any (fun I => kcks I kt_X11_firstAside kx_X11_firstAside) = true := by decide +kernel
set_option maxRecDepth 100000 in
theorem ok_X11_lag : (kmi[mX11_lag]?).any (fun I => kcks I kt_X11_lag kx_X11_lag) = true := by decide +kernel
set_option maxRecDepth 100000 in
theorem ok_X11_lags : (kmi[mX11_lags]?).any (fun I => kcks I kt_X11_lags kx_X11_lags) = true := by decide +kernel
set_option maxRecDepth 100000 in
theorem ok_X11_areLags : (kmi[mX11_areLags]?).any (fun I => kcks I kt_X11_areLags kx_X11_areLags) = true := by decide +kernel
set_option maxRecDepth 100000 in
theorem ok_X11_sumPairs : (kmi[mX11_sumPairs]?).any (fun I => kcks I kt_X11_sumPairs kx_X11_sumPairs) = true := by decide +kernel
set_option maxRecDepth 100000 in
theorem ok_X11_pairsAt : (kmi[mX11_pairsAt]?).any (fun I => kcks I kt_X11_pairsAt kx_X11_pairsAt) = true := by decide +kernel
set_option maxRecDepth 100000 in
theorem ok_X11_nearest : (kmi[mX11_nearest]?).any (fun I => kcks I kt_X11_nearest kx_X11_nearest) = true := by decide +kernel
set_option maxRecDepth 100000 in
theorem ok_X11_noteIs : (kmi[mX11_noteIs]?).any (fun I => kcks I kt_X11_noteIs kx_X11_noteIs) = true := by decide +kernel
set_option maxRecDepth 100000 in
theorem ok_X11_line : (kmi[mX11_line]?).any (fun I => kcks I kt_X11_line kx_X11_line) = true := by decide +kernel
set_option maxRecDepth 100000 in
theorem ok_X11_due : (kmi[mX11_due]?).any (fun I => kcks I kt_X11_due kx_X11_due) = true := by decide +kernel
