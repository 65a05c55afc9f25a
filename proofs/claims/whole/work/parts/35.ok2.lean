/-! OWN: the tables are as the tables' words say (by program) -/
set_option maxRecDepth 100000 in
theorem ok_X11_init : (kmi[mX11_init]?).any (fun I => kcks I kt_X11_init kx_X11_init) = true := by decide +kernel
set_option maxRecDepth 100000 in
theorem ok_X11_feed : (kmi[mX11_feed]?).any (fun I => kcks I kt_X11_feed kx_X11_feed) = true := by decide +kernel
set_option maxRecDepth 100000 in
theorem ok_X11_get : (kmi[mX11_get]?).any (fun I => kcks I kt_X11_get kx_X11_get) = true := by decide +kernel
set_option maxRecDepth 100000 in
theorem ok_X11_angle : (kmi[mX11_angle]?).any (fun I => kcks I kt_X11_angle kx_X11_angle) = true := by decide +kernel
set_option maxRecDepth 100000 in
theorem ok_X11_knock : (kmi[mX11_knock]?).any (fun I => kcks I kt_X11_knock kx_X11_knock) = true := by decide +kernel
set_option maxRecDepth 100000 in
theorem ok_X11_ratio : (kmi[mX11_ratio]?).any (fun I => kcks I kt_X11_ratio kx_X11_ratio) = true := by decide +kernel
set_option maxRecDepth 100000 in
theorem ok_X11_isKind : (kmi[mX11_isKind]?).any (fun I => kcks I kt_X11_isKind kx_X11_isKind) = true := by decide +kernel
set_option maxRecDepth 100000 in
theorem ok_X11_isOption : (kmi[mX11_isOption]?).any (fun I => kcks I kt_X11_isOption kx_X11_isOption) = true := by decide +kernel
set_option maxRecDepth 100000 in
theorem ok_X11_isTurn : (kmi[mX11_isTurn]?).any (fun I => kcks I kt_X11_isTurn kx_X11_isTurn) = true := by decide +kernel
set_option maxRecDepth 100000 in
theorem ok_X11_isBearing : (kmi[mX11_isBearing]?).any (fun I => kcks I kt_X11_isBearing kx_X11_isBearing) = true := by decide +kernel
set_option maxRecDepth 100000 in
theorem ok_X11_isSeen : (kmi[mX11_isSeen]?).any (fun I => kcks I kt_X11_isSeen kx_X11_isSeen) = true := by decide +kernel
set_option maxRecDepth 100000 in
theorem ok_X11_bearing : (kmi[mX11_bearing]?).any (fun I => kcks I kt_X11_bearing kx_X11_bearing) = true := by decide +kernel
set_option maxRecDepth 100000 in
theorem ok_X11_turn : (kmi[mX11_turn]?).any (fun I => kcks I kt_X11_turn kx_X11_turn) = true := by decide +kernel
set_option maxRecDepth 100000 in
theorem ok_X11_speeds : (kmi[mX11_speeds]?).any (fun I => kcks I kt_X11_speeds kx_X11_speeds) = true := by decide +kernel
set_option maxRecDepth 100000 in
theorem ok_X11_trace : (kmi[mX11_trace]?).any (fun I => kcks I kt_X11_trace kx_X11_trace) = true := by decide +kernel
set_option maxRecDepth 100000 in
theorem ok_X11_filters : (kmi[mX11_filters]?).any (fun I => kcks I kt_X11_filters kx_X11_filters) = true := by decide +kernel
set_option maxRecDepth 100000 in
theorem ok_X11_set : (kmi[mX11_set]?).any (fun I => kcks I kt_X11_set kx_X11_set) = true := by decide +kernel
set_option maxRecDepth 100000 in
theorem ok_X11_drop : (kmi[mX11_drop]?).any (fun I => kcks I kt_X11_drop kx_X11_drop) = true := by decide +kernel
set_option maxRecDepth 100000 in
theorem ok_X11_note : (kmi[mX11_note]?).any (fun I => kcks I kt_X11_note kx_X11_note) = true := by decide +kernel
set_option maxRecDepth 100000 in
theorem ok_X11_undo : (kmi[mX11_undo]?).any (fun I => kcks I kt_X11_undo kx_X11_undo) = true := by decide +kernel
set_option maxRecDepth 100000 in
theorem ok_X11_beginAct : (kmi[mX11_beginAct]?).any (fun I => kcks I kt_X11_beginAct kx_X11_beginAct) = true := by decide +kernel
set_option maxRecDepth 100000 in
theorem ok_X11_endAct : (kmi[mX11_endAct]?).any (fun I => kcks I kt_X11_endAct kx_X11_endAct) = true := by decide +kernel
set_option maxRecDepth 100000 in
theorem ok_X11_refresh : (kmi[mX11_refresh]?).any (fun I => kcks I kt_X11_refresh kx_X11_refresh) = true := by decide +kernel
set_option maxRecDepth 100000 in
theorem ok_X11_comb : (kmi[mX11_comb]?).any (fun I => kcks I kt_X11_comb kx_X11_comb) = true := by decide +kernel
set_option maxRecDepth 100000 in
theorem ok_X11_hit : (kmi[mX11_hit]?).any (fun I => kcks I kt_X11_hit kx_X11_hit) = true := by decide +kernel
set_option maxRecDepth 100000 in
theorem ok_X11_best : (kmi[mX11_best]?).any (fun I => kcks I kt_X11_best kx_X11_best) = true := by decide +kernel
set_option maxRecDepth 100000 in
theorem ok_X11_side : (kmi[mX11_side]?).any (fun I => kcks I kt_X11_side kx_X11_side) = true := by decide +kernel
set_option maxRecDepth 100000 in
theorem ok_X11_shared : (kmi[mX11_shared]?).any (fun I => kcks I kt_X11_shared kx_X11_shared) = true := by decide +kernel
set_option maxRecDepth 100000 in
theorem ok_X11_both : (kmi[mX11_both]?).any (fun I => kcks I kt_X11_both kx_X11_both) = true := by decide +kernel
set_option maxRecDepth 100000 in
theorem ok_X11_window : (kmi[mX11_window]?).any (fun I => kcks I kt_X11_window kx_X11_window) = true := by decide +kernel
set_option maxRecDepth 100000 in
theorem ok_X11_folded : (kmi[mX11_folded]?).any (fun I => kcks I kt_X11_folded kx_X11_folded) = true := by decide +kernel
set_option maxRecDepth 100000 in
theorem ok_X11_foldHits : (kmi[mX11_foldHits]?).any (fun I => kcks I kt_X11_foldHits kx_X11_foldHits) = true := by decide +kernel
set_option maxRecDepth 100000 in
theorem ok_X11_depthOfEighths : (kmi[mX11_depthOfEighths]?).any (fun I => kcks I kt_X11_depthOfEighths kx_X11_depthOfEighths) = true := by decide +kernel
set_option maxRecDepth 100000 in
theorem ok_X11_apart : (kmi[mX11_apart]?).any (fun I => kcks I kt_X11_apart kx_X11_apart) = true := by decide +kernel
set_option maxRecDepth 100000 in
theorem ok_X11_ready : (kmi[mX11_ready]?).any (fun I => kcks I kt_X11_ready kx_X11_ready) = true := by decide +kernel
set_option maxRecDepth 100000 in
theorem ok_X11_findBestSeen : (kmi[mX11_findBestSeen]?).any (fun I => kcks I kt_X11_findBestSeen kx_X11_findBestSeen) = true := by decide +kernel
set_option maxRecDepth 100000 in
theorem ok_X11_layBest : (kmi[mX11_layBest]?).any (fun I => kcks I kt_X11_layBest kx_X11_layBest) = true := by decide +kernel
set_option maxRecDepth 100000 in
theorem ok_X11_chain : (kmi[mX11_chain]?).any (fun I => kcks I kt_X11_chain kx_X11_chain) = true := by decide +kernel
set_option maxRecDepth 100000 in
theorem ok_X11_longest : (kmi[mX11_longest]?).any (fun I => kcks I kt_X11_longest kx_X11_longest) = true := by decide +kernel
set_option maxRecDepth 100000 in
theorem ok_X11_ranked : (kmi[mX11_ranked]?).any (fun I => kcks I kt_X11_ranked kx_X11_ranked) = true := by decide +kernel
set_option maxRecDepth 100000 in
theorem ok_X11_faults : (kmi[mX11_faults]?).any (fun I => kcks I kt_X11_faults kx_X11_faults) = true := by decide +kernel
set_option maxRecDepth 100000 in
theorem ok_X11_fault : (kmi[mX11_fault]?).any (fun I => kcks I kt_X11_fault kx_X11_fault) = true := by decide +kernel
set_option maxRecDepth 100000 in
theorem ok_X11_tried : (kmi[mX11_tried]?).any (fun I => kcks I kt_X11_tried kx_X11_tried) = true := by decide +kernel
set_option maxRecDepth 100000 in
theorem ok_X11_bestTurn : (kmi[mX11_bestTurn]?).any (fun I => kcks I kt_X11_bestTurn kx_X11_bestTurn) = true := by decide +kernel
set_option maxRecDepth 100000 in
theorem ok_X11_check : (kmi[mX11_check]?).any (fun I => kcks I kt_X11_check kx_X11_check) = true := by decide +kernel
set_option maxRecDepth 100000 in
theorem ok_X11_peel : (kmi[mX11_peel]?).any (fun I => kcks I kt_X11_peel kx_X11_peel) = true := by decide +kernel
set_option maxRecDepth 100000 in
theorem ok_X11_firstAside : (kmi[mX11_firstAside]?).any (fun I => kcks I kt_X11_firstAside kx_X11_firstAside) = true := by decide +kernel
set_option maxRecDepth 100000 in
theorem ok_X11_lag : (kmi[mX11_lag]?).any (fun I => kcks I kt_X11_lag kx_X11_lag) = true := by decide +kernel
set_option maxRecDepth 100000 in
theorem ok_X11_lags : (kmi[mX11_lags]?).any (fun I => kcks I kt_X11_lags kx_X11_lags) = true := by decide +kernel
set_option maxRecDepth 100000 in
theorem ok_X11_areLags : (kmi[mX11_areLags]?).any (fun I => kcks I kt_X11_areLags kx_X11_areLags) = true := by decide +kernel
set_option maxRecDepth 100000 in
theorem ok_X11_sumPairs : (kmi[mX11_sumPairs]?).any (fun I => kcks I kt_X11_sumPairs kx_X11_sumPairs) = true := by decide +kernel
set_option maxRecDepth 100000 in
theorem ok_X11_pairsAt : (kmi[mX11_pairsAt]?).any (fun I => kcks I kt_X11_pairsAt kx_X11_pairsAt) = true := by decide +kernel
set_option maxRecDepth 100000 in
theorem ok_X11_nearest : (kmi[mX11_nearest]?).any (fun I => kcks I kt_X11_nearest kx_X11_nearest) = true := by decide +kernel
set_option maxRecDepth 100000 in
theorem ok_X11_noteIs : (kmi[mX11_noteIs]?).any (fun I => kcks I kt_X11_noteIs kx_X11_noteIs) = true := by decide +kernel
set_option maxRecDepth 100000 in
theorem ok_X11_line : (kmi[mX11_line]?).any (fun I => kcks I kt_X11_line kx_X11_line) = true := by decide +kernel
set_option maxRecDepth 100000 in
theorem ok_X11_due : (kmi[mX11_due]?).any (fun I => kcks I kt_X11_due kx_X11_due) = true := by decide +kernel
