/-! OWN: the tables are as the tables' words say (by program) -/
set_option maxRecDepth 100000 in
theorem ok_X11_init : (kmi[mX11_init]?).any (fun I => kcks I kt_X11_init kx_X11_init) = true := by decide +kernel
set_option maxRecDepth 100000 in
theorem ok_X11_feed : (kmi[mX11_feed]?).any (fun I => kcks I kt_X11_feed kx_X11_feed) = true := by decide +kernel
set_option maxRecDepth 100000 in
theorem ok_X11_get : (kmi[mX11_get]?).any (fun I => kcks I kt_X11_get kx_X11_get) = true := by decide +kernel
set_option maxRecDepth 100000 in
theorem ok_X11_angle : (kmi[mX11_angle]?).any (fun I => kcks I kt_X11_angle kx_X11_angle) = true := by decide +kernel
set_option maxRecDepth 100000 in
theorem ok_X11_knock : (kmi[mX11_knock]?).any (fun I => kcks I kt_X11_knock kx_X11_knock) = true := by decide +kernel
set_option maxRecDepth 100000 in
theorem ok_X11_ratio : (kmi[mX11_ratio]?).any (fun I => kcks I kt_X11_ratio kx_X11_ratio) = true := by decide +kernel
set_option maxRecDepth 100000 in
theorem ok_X11_isKind : (kmi[mX11_isKind]?).any (fun I => kcks I kt_X11_isKind kx_X11_isKind) = true := by decide +kernel
set_option maxRecDepth 100000 in
theorem ok_X11_isOption : (kmi[mX11_isOption]?).any (fun I => kcks I kt_X11_isOption kx_X11_isOption) = true := by decide +kernel
set_option maxRecDepth 100000 in
theorem ok_X11_isTurn : (kmi[mX11_isTurn]?).any (fun I => kcks I kt_X11_isTurn kx_X11_isTurn) = true := by decide +kernel
set_option maxRecDepth 100000 in
theorem ok_X11_isBearing : (kmi[mX11_isBearing]?).any (fun I => kcks I kt_X11_isBearing kx_X11_isBearing) = true := by decide +kernel
set_option maxRecDepth 100000 in
theorem ok_X11_isSeen : (kmi[mX11_isSeen]?).any (fun I => kcks I kt_X11_isSeen kx_X11_isSeen) = true := by decide +kernel
set_option maxRecDepth 100000 in
theorem ok_X11_bearing : (kmi[mX11_bearing]?).any (fun I => kcks I kt_X11_bearing kx_X11_bearing) = true := by decide +kernel
set_option maxRecDepth 100000 in
theorem ok_X11_turn : (kmi[mX11_turn]?).any (fun I => kcks I kt_X11_turn kx_X11_turn) = true := by decide +kernel
set_option maxRecDepth 100000 in
theorem ok_X11_speeds : (kmi[mX11_speeds]?).any (fun I => kcks I kt_X11_speeds kx_X11_speeds) = true := by decide +kernel
set_option maxRecDepth 100000 in
theorem ok_X11_trace : (kmi[mX11_trace]?).any (fun I => kcks I kt_X11_trace kx_X11_trace) = true := by decide +kernel
set_option maxRecDepth 100000 in
theorem ok_X11_filters : (kmi[mX11_filters]?).any (fun I => kcks I kt_X11_filters kx_X11_filters) = true := by decide +kernel
set_option maxRecDepth 100000 in
theorem ok_X11_set : (kmi[mX11_set]?).any (fun I => kcks I kt_X11_set kx_X11_set) = true := by decide +kernel
set_option maxRecDepth 100000 in
theorem ok_X11_drop : (kmi[mX11_drop]?).any (fun I => kcks I kt_X11_drop kx_X11_drop) = true := by decide +kernel
set_option maxRecDepth 100000 in
theorem ok_X11_note : (kmi[mX11_note]?).any (fun I => kcks I kt_X11_note kx_X11_note) = true := by decide +kernel
set_option maxRecDepth 100000 in
theorem ok_X11_undo : (kmi[mX11_undo]?).any (fun I => kcks I kt_X11_undo kx_X11_undo) = true := by decide +kernel
set_option maxRecDepth 100000 in
theorem ok_X11_beginAct : (kmi[mX11_beginAct]?).any (fun I => kcks I kt_X11_beginAct kx_X11_beginAct) = true := by decide +kernel
set_option maxRecDepth 100000 in
theorem ok_X11_endAct : (kmi[mX11_endAct]?).any (fun I => kcks I kt_X11_endAct kx_X11_endAct) = true := by decide +kernel
set_option maxRecDepth 100000 in
theorem ok_X11_refresh : (kmi[mX11_refresh]?).any (fun I => kcks I kt_X11_refresh kx_X11_refresh) = true := by decide +kernel
set_option maxRecDepth 100000 in
theorem ok_X11_comb : (kmi[mX11_comb]?).any (fun I => kcks I kt_X11_comb kx_X11_comb) = true := by decide +kernel
set_option maxRecDepth 100000 in
theorem ok_X11_hit : (kmi[mX11_hit]?).any (fun I => kcks I kt_X11_hit kx_X11_hit) = true := by decide +kernel
set_option maxRecDepth 100000 in
theorem ok_X11_best : (kmi[mX11_best]?).any (fun I => kcks I kt_X11_best kx_X11_best) = true := by decide +kernel
set_option maxRecDepth 100000 in
theorem ok_X11_side : (kmi[mX11_side]?).any (fun I => kcks I kt_X11_side kx_X11_side) = true := by decide +kernel
set_option maxRecDepth 100000 in
theorem ok_X11_shared : (kmi[mX11_shared]?).any (fun I => kcks I kt_X11_shared kx_X11_shared) = true := by decide +kernel
set_option maxRecDepth 100000 in
theorem ok_X11_both : (kmi[mX11_both]?).any (fun I => kcks I kt_X11_both kx_X11_both) = true := by decide +kernel
set_option maxRecDepth 100000 in
theorem ok_X11_window : (kmi[mX11_window]?).any (fun I => kcks I kt_X11_window kx_X11_window) = true := by decide +kernel
set_option maxRecDepth 100000 in
theorem ok_X11_folded : (kmi[mX11_folded]?).any (fun I => kcks I kt_X11_folded kx_X11_folded) = true := by decide +kernel
set_option maxRecDepth 100000 in
theorem ok_X11_foldHits : (kmi[mX11_foldHits]?).any (fun I => kcks I kt_X11_foldHits kx_X11_foldHits) = true := by decide +kernel
set_option maxRecDepth 100000 in
theorem ok_X11_depthOfEighths : (kmi[mX11_depthOfEighths]?).any (fun I => kcks I kt_X11_depthOfEighths kx_X11_depthOfEighths) = true := by decide +kernel
