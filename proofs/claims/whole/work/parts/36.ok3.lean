/-! OWN: the tables are as the tables' words say (by program) -/
set_option maxRecDepth 100000 in
theorem ok_X12_init : (kmi[mX12_init]?).any (fun I => kcks I kt_X12_init kx_X12_init) = true := by decide +kernel
set_option maxRecDepth 100000 in
theorem ok_X12_in : (kmi[mX12_in]?).any (fun I => kcks I kt_X12_in kx_X12_in) = true := by decide +kernel
set_option maxRecDepth 100000 in
theorem ok_X12_min : (kmi[mX12_min]?).any (fun I => kcks I kt_X12_min kx_X12_min) = true := by decide +kernel
set_option maxRecDepth 100000 in
theorem ok_X12_max : (kmi[mX12_max]?).any (fun I => kcks I kt_X12_max kx_X12_max) = true := by decide +kernel
set_option maxRecDepth 100000 in
theorem ok_X12_size : (kmi[mX12_size]?).any (fun I => kcks I kt_X12_size kx_X12_size) = true := by decide +kernel
set_option maxRecDepth 100000 in
theorem ok_X12_common : (kmi[mX12_common]?).any (fun I => kcks I kt_X12_common kx_X12_common) = true := by decide +kernel
set_option maxRecDepth 100000 in
theorem ok_X12_floored : (kmi[mX12_floored]?).any (fun I => kcks I kt_X12_floored kx_X12_floored) = true := by decide +kernel
set_option maxRecDepth 100000 in
theorem ok_X12_isKind : (kmi[mX12_isKind]?).any (fun I => kcks I kt_X12_isKind kx_X12_isKind) = true := by decide +kernel
set_option maxRecDepth 100000 in
theorem ok_X12_remembers : (kmi[mX12_remembers]?).any (fun I => kcks I kt_X12_remembers kx_X12_remembers) = true := by decide +kernel
set_option maxRecDepth 100000 in
theorem ok_X12_undo : (kmi[mX12_undo]?).any (fun I => kcks I kt_X12_undo kx_X12_undo) = true := by decide +kernel
set_option maxRecDepth 100000 in
theorem ok_X12_laysAside : (kmi[mX12_laysAside]?).any (fun I => kcks I kt_X12_laysAside kx_X12_laysAside) = true := by decide +kernel
set_option maxRecDepth 100000 in
theorem ok_X12_laysBack : (kmi[mX12_laysBack]?).any (fun I => kcks I kt_X12_laysBack kx_X12_laysBack) = true := by decide +kernel
set_option maxRecDepth 100000 in
theorem ok_X12_types : (kmi[mX12_types]?).any (fun I => kcks I kt_X12_types kx_X12_types) = true := by decide +kernel
set_option maxRecDepth 100000 in
theorem ok_X12_feed : (kmi[mX12_feed]?).any (fun I => kcks I kt_X12_feed kx_X12_feed) = true := by decide +kernel
set_option maxRecDepth 100000 in
theorem ok_X12_begins : (kmi[mX12_begins]?).any (fun I => kcks I kt_X12_begins kx_X12_begins) = true := by decide +kernel
set_option maxRecDepth 100000 in
theorem ok_X12_here : (kmi[mX12_here]?).any (fun I => kcks I kt_X12_here kx_X12_here) = true := by decide +kernel
set_option maxRecDepth 100000 in
theorem ok_X12_wrongAt : (kmi[mX12_wrongAt]?).any (fun I => kcks I kt_X12_wrongAt kx_X12_wrongAt) = true := by decide +kernel
set_option maxRecDepth 100000 in
theorem ok_X12_takesSign : (kmi[mX12_takesSign]?).any (fun I => kcks I kt_X12_takesSign kx_X12_takesSign) = true := by decide +kernel
set_option maxRecDepth 100000 in
theorem ok_X12_isDigit : (kmi[mX12_isDigit]?).any (fun I => kcks I kt_X12_isDigit kx_X12_isDigit) = true := by decide +kernel
set_option maxRecDepth 100000 in
theorem ok_X12_readsNumber : (kmi[mX12_readsNumber]?).any (fun I => kcks I kt_X12_readsNumber kx_X12_readsNumber) = true := by decide +kernel
set_option maxRecDepth 100000 in
theorem ok_X12_isBearing : (kmi[mX12_isBearing]?).any (fun I => kcks I kt_X12_isBearing kx_X12_isBearing) = true := by decide +kernel
set_option maxRecDepth 100000 in
theorem ok_X12_isTurn : (kmi[mX12_isTurn]?).any (fun I => kcks I kt_X12_isTurn kx_X12_isTurn) = true := by decide +kernel
set_option maxRecDepth 100000 in
theorem ok_X12_lays : (kmi[mX12_lays]?).any (fun I => kcks I kt_X12_lays kx_X12_lays) = true := by decide +kernel
set_option maxRecDepth 100000 in
theorem ok_X12_bearing : (kmi[mX12_bearing]?).any (fun I => kcks I kt_X12_bearing kx_X12_bearing) = true := by decide +kernel
set_option maxRecDepth 100000 in
theorem ok_X12_turn : (kmi[mX12_turn]?).any (fun I => kcks I kt_X12_turn kx_X12_turn) = true := by decide +kernel
set_option maxRecDepth 100000 in
theorem ok_X12_readsSpan : (kmi[mX12_readsSpan]?).any (fun I => kcks I kt_X12_readsSpan kx_X12_readsSpan) = true := by decide +kernel
set_option maxRecDepth 100000 in
theorem ok_X12_takesDraft : (kmi[mX12_takesDraft]?).any (fun I => kcks I kt_X12_takesDraft kx_X12_takesDraft) = true := by decide +kernel
set_option maxRecDepth 100000 in
theorem ok_X12_speeds : (kmi[mX12_speeds]?).any (fun I => kcks I kt_X12_speeds kx_X12_speeds) = true := by decide +kernel
set_option maxRecDepth 100000 in
theorem ok_X12_angleOf : (kmi[mX12_angleOf]?).any (fun I => kcks I kt_X12_angleOf kx_X12_angleOf) = true := by decide +kernel
set_option maxRecDepth 100000 in
theorem ok_X12_angle : (kmi[mX12_angle]?).any (fun I => kcks I kt_X12_angle kx_X12_angle) = true := by decide +kernel
set_option maxRecDepth 100000 in
theorem ok_X12_findsRatio : (kmi[mX12_findsRatio]?).any (fun I => kcks I kt_X12_findsRatio kx_X12_findsRatio) = true := by decide +kernel
set_option maxRecDepth 100000 in
theorem ok_X12_ratio : (kmi[mX12_ratio]?).any (fun I => kcks I kt_X12_ratio kx_X12_ratio) = true := by decide +kernel
set_option maxRecDepth 100000 in
theorem ok_X12_laysGap : (kmi[mX12_laysGap]?).any (fun I => kcks I kt_X12_laysGap kx_X12_laysGap) = true := by decide +kernel
set_option maxRecDepth 100000 in
theorem ok_X12_repeats : (kmi[mX12_repeats]?).any (fun I => kcks I kt_X12_repeats kx_X12_repeats) = true := by decide +kernel
set_option maxRecDepth 100000 in
theorem ok_X12_readsItems : (kmi[mX12_readsItems]?).any (fun I => kcks I kt_X12_readsItems kx_X12_readsItems) = true := by decide +kernel
set_option maxRecDepth 100000 in
theorem ok_X12_trace : (kmi[mX12_trace]?).any (fun I => kcks I kt_X12_trace kx_X12_trace) = true := by decide +kernel
set_option maxRecDepth 100000 in
theorem ok_X12_drop : (kmi[mX12_drop]?).any (fun I => kcks I kt_X12_drop kx_X12_drop) = true := by decide +kernel
set_option maxRecDepth 100000 in
theorem ok_X12_isStep : (kmi[mX12_isStep]?).any (fun I => kcks I kt_X12_isStep kx_X12_isStep) = true := by decide +kernel
set_option maxRecDepth 100000 in
theorem ok_X12_readsStep : (kmi[mX12_readsStep]?).any (fun I => kcks I kt_X12_readsStep kx_X12_readsStep) = true := by decide +kernel
set_option maxRecDepth 100000 in
theorem ok_X12_filters : (kmi[mX12_filters]?).any (fun I => kcks I kt_X12_filters kx_X12_filters) = true := by decide +kernel
set_option maxRecDepth 100000 in
theorem ok_X12_keepsKnock : (kmi[mX12_keepsKnock]?).any (fun I => kcks I kt_X12_keepsKnock kx_X12_keepsKnock) = true := by decide +kernel
set_option maxRecDepth 100000 in
theorem ok_X12_stays : (kmi[mX12_stays]?).any (fun I => kcks I kt_X12_stays kx_X12_stays) = true := by decide +kernel
set_option maxRecDepth 100000 in
theorem ok_X12_goesThrough : (kmi[mX12_goesThrough]?).any (fun I => kcks I kt_X12_goesThrough kx_X12_goesThrough) = true := by decide +kernel
set_option maxRecDepth 100000 in
theorem ok_X12_sees : (kmi[mX12_sees]?).any (fun I => kcks I kt_X12_sees kx_X12_sees) = true := by decide +kernel
set_option maxRecDepth 100000 in
theorem ok_X12_knock : (kmi[mX12_knock]?).any (fun I => kcks I kt_X12_knock kx_X12_knock) = true := by decide +kernel
set_option maxRecDepth 100000 in
theorem ok_X12_set : (kmi[mX12_set]?).any (fun I => kcks I kt_X12_set kx_X12_set) = true := by decide +kernel
set_option maxRecDepth 100000 in
theorem ok_X12_get : (kmi[mX12_get]?).any (fun I => kcks I kt_X12_get kx_X12_get) = true := by decide +kernel
set_option maxRecDepth 100000 in
theorem ok_X12_lays_ : (kmi[mX12_lays_]?).any (fun I => kcks I kt_X12_lays_ kx_X12_lays_) = true := by decide +kernel
set_option maxRecDepth 100000 in
theorem ok_X12_told : (kmi[mX12_told]?).any (fun I => kcks I kt_X12_told kx_X12_told) = true := by decide +kernel
set_option maxRecDepth 100000 in
theorem ok_X12_laysBest : (kmi[mX12_laysBest]?).any (fun I => kcks I kt_X12_laysBest kx_X12_laysBest) = true := by decide +kernel
set_option maxRecDepth 100000 in
theorem ok_X12_laysBestOf : (kmi[mX12_laysBestOf]?).any (fun I => kcks I kt_X12_laysBestOf kx_X12_laysBestOf) = true := by decide +kernel
set_option maxRecDepth 100000 in
theorem ok_X12_comb : (kmi[mX12_comb]?).any (fun I => kcks I kt_X12_comb kx_X12_comb) = true := by decide +kernel
set_option maxRecDepth 100000 in
theorem ok_X12_hit : (kmi[mX12_hit]?).any (fun I => kcks I kt_X12_hit kx_X12_hit) = true := by decide +kernel
set_option maxRecDepth 100000 in
theorem ok_X12_best : (kmi[mX12_best]?).any (fun I => kcks I kt_X12_best kx_X12_best) = true := by decide +kernel
set_option maxRecDepth 100000 in
theorem ok_X12_side : (kmi[mX12_side]?).any (fun I => kcks I kt_X12_side kx_X12_side) = true := by decide +kernel
set_option maxRecDepth 100000 in
theorem ok_X12_notesHits : (kmi[mX12_notesHits]?).any (fun I => kcks I kt_X12_notesHits kx_X12_notesHits) = true := by decide +kernel
set_option maxRecDepth 100000 in
theorem ok_X12_shared : (kmi[mX12_shared]?).any (fun I => kcks I kt_X12_shared kx_X12_shared) = true := by decide +kernel
set_option maxRecDepth 100000 in
theorem ok_X12_laysSets : (kmi[mX12_laysSets]?).any (fun I => kcks I kt_X12_laysSets kx_X12_laysSets) = true := by decide +kernel
set_option maxRecDepth 100000 in
theorem ok_X12_bits : (kmi[mX12_bits]?).any (fun I => kcks I kt_X12_bits kx_X12_bits) = true := by decide +kernel
set_option maxRecDepth 100000 in
theorem ok_X12_joined : (kmi[mX12_joined]?).any (fun I => kcks I kt_X12_joined kx_X12_joined) = true := by decide +kernel
set_option maxRecDepth 100000 in
theorem ok_X12_both : (kmi[mX12_both]?).any (fun I => kcks I kt_X12_both kx_X12_both) = true := by decide +kernel
set_option maxRecDepth 100000 in
theorem ok_X12_thins : (kmi[mX12_thins]?).any (fun I => kcks I kt_X12_thins kx_X12_thins) = true := by decide +kernel
set_option maxRecDepth 100000 in
theorem ok_X12_window : (kmi[mX12_window]?).any (fun I => kcks I kt_X12_window kx_X12_window) = true := by decide +kernel
set_option maxRecDepth 100000 in
theorem ok_X12_nextOf : (kmi[mX12_nextOf]?).any (fun I => kcks I kt_X12_nextOf kx_X12_nextOf) = true := by decide +kernel
set_option maxRecDepth 100000 in
theorem ok_X12_chains : (kmi[mX12_chains]?).any (fun I => kcks I kt_X12_chains kx_X12_chains) = true := by decide +kernel
set_option maxRecDepth 100000 in
theorem ok_X12_toldChain : (kmi[mX12_toldChain]?).any (fun I => kcks I kt_X12_toldChain kx_X12_toldChain) = true := by decide +kernel
set_option maxRecDepth 100000 in
theorem ok_X12_chain : (kmi[mX12_chain]?).any (fun I => kcks I kt_X12_chain kx_X12_chain) = true := by decide +kernel
set_option maxRecDepth 100000 in
theorem ok_X12_longest : (kmi[mX12_longest]?).any (fun I => kcks I kt_X12_longest kx_X12_longest) = true := by decide +kernel
set_option maxRecDepth 100000 in
theorem ok_X12_folds : (kmi[mX12_folds]?).any (fun I => kcks I kt_X12_folds kx_X12_folds) = true := by decide +kernel
set_option maxRecDepth 100000 in
theorem ok_X12_depth : (kmi[mX12_depth]?).any (fun I => kcks I kt_X12_depth kx_X12_depth) = true := by decide +kernel
set_option maxRecDepth 100000 in
theorem ok_X12_folded : (kmi[mX12_folded]?).any (fun I => kcks I kt_X12_folded kx_X12_folded) = true := by decide +kernel
set_option maxRecDepth 100000 in
theorem ok_X12_ranks : (kmi[mX12_ranks]?).any (fun I => kcks I kt_X12_ranks kx_X12_ranks) = true := by decide +kernel
set_option maxRecDepth 100000 in
theorem ok_X12_isAhead : (kmi[mX12_isAhead]?).any (fun I => kcks I kt_X12_isAhead kx_X12_isAhead) = true := by decide +kernel
set_option maxRecDepth 100000 in
theorem ok_X12_rankedAt : (kmi[mX12_rankedAt]?).any (fun I => kcks I kt_X12_rankedAt kx_X12_rankedAt) = true := by decide +kernel
set_option maxRecDepth 100000 in
theorem ok_X12_ranked : (kmi[mX12_ranked]?).any (fun I => kcks I kt_X12_ranked kx_X12_ranked) = true := by decide +kernel
set_option maxRecDepth 100000 in
theorem ok_X12_nextFault : (kmi[mX12_nextFault]?).any (fun I => kcks I kt_X12_nextFault kx_X12_nextFault) = true := by decide +kernel
set_option maxRecDepth 100000 in
theorem ok_X12_peels : (kmi[mX12_peels]?).any (fun I => kcks I kt_X12_peels kx_X12_peels) = true := by decide +kernel
set_option maxRecDepth 100000 in
theorem ok_X12_faults : (kmi[mX12_faults]?).any (fun I => kcks I kt_X12_faults kx_X12_faults) = true := by decide +kernel
set_option maxRecDepth 100000 in
theorem ok_X12_fault : (kmi[mX12_fault]?).any (fun I => kcks I kt_X12_fault kx_X12_fault) = true := by decide +kernel
set_option maxRecDepth 100000 in
theorem ok_X12_says : (kmi[mX12_says]?).any (fun I => kcks I kt_X12_says kx_X12_says) = true := by decide +kernel
set_option maxRecDepth 100000 in
theorem ok_X12_saysNumber : (kmi[mX12_saysNumber]?).any (fun I => kcks I kt_X12_saysNumber kx_X12_saysNumber) = true := by decide +kernel
set_option maxRecDepth 100000 in
theorem ok_X12_laysReport : (kmi[mX12_laysReport]?).any (fun I => kcks I kt_X12_laysReport kx_X12_laysReport) = true := by decide +kernel
set_option maxRecDepth 100000 in
theorem ok_X12_report : (kmi[mX12_report]?).any (fun I => kcks I kt_X12_report kx_X12_report) = true := by decide +kernel
set_option maxRecDepth 100000 in
theorem ok_X12_apartFrom : (kmi[mX12_apartFrom]?).any (fun I => kcks I kt_X12_apartFrom kx_X12_apartFrom) = true := by decide +kernel
set_option maxRecDepth 100000 in
theorem ok_X12_apart : (kmi[mX12_apart]?).any (fun I => kcks I kt_X12_apart kx_X12_apart) = true := by decide +kernel
set_option maxRecDepth 100000 in
theorem ok_X12_pairsBy : (kmi[mX12_pairsBy]?).any (fun I => kcks I kt_X12_pairsBy kx_X12_pairsBy) = true := by decide +kernel
set_option maxRecDepth 100000 in
theorem ok_X12_isLag : (kmi[mX12_isLag]?).any (fun I => kcks I kt_X12_isLag kx_X12_isLag) = true := by decide +kernel
set_option maxRecDepth 100000 in
theorem ok_X12_lag : (kmi[mX12_lag]?).any (fun I => kcks I kt_X12_lag kx_X12_lag) = true := by decide +kernel
set_option maxRecDepth 100000 in
theorem ok_X12_lags : (kmi[mX12_lags]?).any (fun I => kcks I kt_X12_lags kx_X12_lags) = true := by decide +kernel
set_option maxRecDepth 100000 in
theorem ok_X12_nearest : (kmi[mX12_nearest]?).any (fun I => kcks I kt_X12_nearest kx_X12_nearest) = true := by decide +kernel
set_option maxRecDepth 100000 in
theorem ok_X12_noteOf : (kmi[mX12_noteOf]?).any (fun I => kcks I kt_X12_noteOf kx_X12_noteOf) = true := by decide +kernel
set_option maxRecDepth 100000 in
theorem ok_X12_note : (kmi[mX12_note]?).any (fun I => kcks I kt_X12_note kx_X12_note) = true := by decide +kernel
set_option maxRecDepth 100000 in
theorem ok_X12_noteIs : (kmi[mX12_noteIs]?).any (fun I => kcks I kt_X12_noteIs kx_X12_noteIs) = true := by decide +kernel
set_option maxRecDepth 100000 in
theorem ok_X12_findsLine : (kmi[mX12_findsLine]?).any (fun I => kcks I kt_X12_findsLine kx_X12_findsLine) = true := by decide +kernel
set_option maxRecDepth 100000 in
theorem ok_X12_lineAt : (kmi[mX12_lineAt]?).any (fun I => kcks I kt_X12_lineAt kx_X12_lineAt) = true := by decide +kernel
set_option maxRecDepth 100000 in
theorem ok_X12_line : (kmi[mX12_line]?).any (fun I => kcks I kt_X12_line kx_X12_line) = true := by decide +kernel
set_option maxRecDepth 100000 in
theorem ok_X12_due : (kmi[mX12_due]?).any (fun I => kcks I kt_X12_due kx_X12_due) = true := by decide +kernel
set_option maxRecDepth 100000 in
theorem ok_X12_tried : (kmi[mX12_tried]?).any (fun I => kcks I kt_X12_tried kx_X12_tried) = true := by decide +kernel
set_option maxRecDepth 100000 in
theorem ok_X12_bestTurn : (kmi[mX12_bestTurn]?).any (fun I => kcks I kt_X12_bestTurn kx_X12_bestTurn) = true := by decide +kernel
set_option maxRecDepth 100000 in
theorem ok_X12_check : (kmi[mX12_check]?).any (fun I => kcks I kt_X12_check kx_X12_check) = true := by decide +kernel
