/-! OWN: the tables are as the tables' words say (by program) -/
set_option maxRecDepth 100000 in
theorem ok_X12_init : (kmi[mX12_init]?).any (fun I => kcks I kt_X12_init kx_X12_init) = true := by decide +kernel
set_option maxRecDepth 100000 in
theorem ok_X12_in : (kmi[mX12_in]?).any (fun I => kcks I kt_X12_in kx_X12_in) = true := by decide +kernel
set_option maxRecDepth 100000 in
theorem ok_X12_min : (kmi[mX12_min]?).any (fun I => kcks I kt_X12_min kx_X12_min) = true := by decide +kernel
set_option maxRecDepth 100000 in
theorem ok_X12_max : (kmi[mX12_max]?).any (fun I => kcks I kt_X12_max kx_X12_max) = true := by decide +kernel
set_option maxRecDepth 100000 in
theorem ok_X12_size : (kmi[mX12_size]?).any (fun I => kcks I kt_X12_size kx_X12_size) = true := by decide +kernel
set_option maxRecDepth 100000 in
theorem ok_X12_common : (kmi[mX12_common]?).any (fun I => kcks I kt_X12_common kx_X12_common) = true := by decide +kernel
set_option maxRecDepth 100000 in
theorem ok_X12_floored : (kmi[mX12_floored]?).any (fun I => kcks I kt_X12_floored kx_X12_floored) = true := by decide +kernel
set_option maxRecDepth 100000 in
theorem ok_X12_isKind : (kmi[mX12_isKind]?).any (fun I => kcks I kt_X12_isKind kx_X12_isKind) = true := by decide +kernel
set_option maxRecDepth 100000 in
theorem ok_X12_remembers : (kmi[mX12_remembers]?).any (fun I => kcks I kt_X12_remembers kx_X12_remembers) = true := by decide +kernel
set_option maxRecDepth 100000 in
theorem ok_X12_undo : (kmi[mX12_undo]?).any (fun I => kcks I kt_X12_undo kx_X12_undo) = true := by decide +kernel
set_option maxRecDepth 100000 in
theorem ok_X12_laysAside : (kmi[mX12_laysAside]?).any (fun I => kcks I kt_X12_laysAside kx_X12_laysAside) = true := by decide +kernel
set_option maxRecDepth 100000 in
theorem ok_X12_laysBack : (kmi[mX12_laysBack]?).any (fun I => kcks I kt_X12_laysBack kx_X12_laysBack) = true := by decide +kernel
set_option maxRecDepth 100000 in
theorem ok_X12_types : (kmi[mX12_types]?).any (fun I => kcks I kt_X12_types kx_X12_types) = true := by decide +kernel
set_option maxRecDepth 100000 in
theorem ok_X12_feed : (kmi[mX12_feed]?).any (fun I => kcks I kt_X12_feed kx_X12_feed) = true := by decide +kernel
set_option maxRecDepth 100000 in
theorem ok_X12_begins : (kmi[mX12_begins]?).any (fun I => kcks I kt_X12_begins kx_X12_begins) = true := by decide +kernel
set_option maxRecDepth 100000 in
theorem ok_X12_here : (kmi[mX12_here]?).any (fun I => kcks I kt_X12_here kx_X12_here) = true := by decide +kernel
set_option maxRecDepth 100000 in
theorem ok_X12_wrongAt : (kmi[mX12_wrongAt]?).any (fun I => kcks I kt_X12_wrongAt kx_X12_wrongAt) = true := by decide +kernel
set_option maxRecDepth 100000 in
theorem ok_X12_takesSign : (kmi[mX12_takesSign]?).any (fun I => kcks I kt_X12_takesSign kx_X12_takesSign) = true := by decide +kernel
set_option maxRecDepth 100000 in
theorem ok_X12_isDigit : (kmi[mX12_isDigit]?).any (fun I => kcks I kt_X12_isDigit kx_X12_isDigit) = true := by decide +kernel
set_option maxRecDepth 100000 in
theorem ok_X12_readsNumber : (kmi[mX12_readsNumber]?).any (fun I => kcks I kt_X12_readsNumber kx_X12_readsNumber) = true := by decide +kernel
set_option maxRecDepth 100000 in
theorem ok_X12_isBearing : (kmi[mX12_isBearing]?).any (fun I => kcks I kt_X12_isBearing kx_X12_isBearing) = true := by decide +kernel
set_option maxRecDepth 100000 in
theorem ok_X12_isTurn : (kmi[mX12_isTurn]?).any (fun I => kcks I kt_X12_isTurn kx_X12_isTurn) = true := by decide +kernel
set_option maxRecDepth 100000 in
theorem ok_X12_lays : (kmi[mX12_lays]?).any (fun I => kcks I kt_X12_lays kx_X12_lays) = true := by decide +kernel
set_option maxRecDepth 100000 in
theorem ok_X12_bearing : (kmi[mX12_bearing]?).any (fun I => kcks I kt_X12_bearing kx_X12_bearing) = true := by decide +kernel
set_option maxRecDepth 100000 in
theorem ok_X12_turn : (kmi[mX12_turn]?).any (fun I => kcks I kt_X12_turn kx_X12_turn) = true := by decide +kernel
set_option maxRecDepth 100000 in
theorem ok_X12_readsSpan : (kmi[mX12_readsSpan]?).any (fun I => kcks I kt_X12_readsSpan kx_X12_readsSpan) = true := by decide +kernel
set_option maxRecDepth 100000 in
theorem ok_X12_takesDraft : (kmi[mX12_takesDraft]?).any (fun I => kcks I kt_X12_takesDraft kx_X12_takesDraft) = true := by decide +kernel
set_option maxRecDepth 100000 in
theorem ok_X12_speeds : (kmi[mX12_speeds]?).any (fun I => kcks I kt_X12_speeds kx_X12_speeds) = true := by decide +kernel
set_option maxRecDepth 100000 in
theorem ok_X12_angleOf : (kmi[mX12_angleOf]?).any (fun I => kcks I kt_X12_angleOf kx_X12_angleOf) = true := by decide +kernel
set_option maxRecDepth 100000 in
theorem ok_X12_angle : (kmi[mX12_angle]?).any (fun I => kcks I kt_X12_angle kx_X12_angle) = true := by decide +kernel
set_option maxRecDepth 100000 in
theorem ok_X12_findsRatio : (kmi[mX12_findsRatio]?).any (fun I => kcks I kt_X12_findsRatio kx_X12_findsRatio) = true := by decide +kernel
set_option maxRecDepth 100000 in
theorem ok_X12_ratio : (kmi[mX12_ratio]?).any (fun I => kcks I kt_X12_ratio kx_X12_ratio) = true := by decide +kernel
set_option maxRecDepth 100000 in
theorem ok_X12_laysGap : (kmi[mX12_laysGap]?).any (fun I => kcks I kt_X12_laysGap kx_X12_laysGap) = true := by decide +kernel
set_option maxRecDepth 100000 in
theorem ok_X12_repeats : (kmi[mX12_repeats]?).any (fun I => kcks I kt_X12_repeats kx_X12_repeats) = true := by decide +kernel
set_option maxRecDepth 100000 in
theorem ok_X12_readsItems : (kmi[mX12_readsItems]?).any (fun I => kcks I kt_X12_readsItems kx_X12_readsItems) = true := by decide +kernel
