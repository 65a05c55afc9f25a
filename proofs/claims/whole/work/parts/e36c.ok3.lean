/-! OWN: the tables are as the tables' words say (by program) -/
set_option maxRecDepth 100000 in
theorem ok_X12_best : (kmi[mX12_best]?).any (fun I => kcks I kt_X12_best kx_X12_best) = true := by decide +kernel
set_option maxRecDepth 100000 in
theorem ok_X12_side : (kmi[mX12_side]?).any (fun I => kcks I kt_X12_side kx_X12_side) = true := by decide +kernel
set_option maxRecDepth 100000 in
theorem ok_X12_notesHits : (kmi[mX12_notesHits]?).any (fun I => kcks I kt_X12_notesHits kx_X12_notesHits) = true := by decide +kernel
set_option maxRecDepth 100000 in
theorem ok_X12_shared : (kmi[mX12_shared]?).any (fun I => kcks I kt_X12_shared kx_X12_shared) = true := by decide +kernel
set_option maxRecDepth 100000 in
theorem ok_X12_laysSets : (kmi[mX12_laysSets]?).any (fun I => kcks I kt_X12_laysSets kx_X12_laysSets) = true := by decide +kernel
set_option maxRecDepth 100000 in
theorem ok_X12_bits : (kmi[mX12_bits]?).any (fun I => kcks I kt_X12_bits kx_X12_bits) = true := by decide +kernel
set_option maxRecDepth 100000 in
theorem ok_X12_joined : (kmi[mX12_joined]?).any (fun I => kcks I kt_X12_joined kx_X12_joined) = true := by decide +kernel
set_option maxRecDepth 100000 in
theorem ok_X12_both : (kmi[mX12_both]?).any (fun I => kcks I kt_X12_both kx_X12_both) = true := by decide +kernel
set_option maxRecDepth 100000 in
theorem ok_X12_thins : (kmi[mX12_thins]?).any (fun I => kcks I kt_X12_thins kx_X12_thins) = true := by decide +kernel
set_option maxRecDepth 100000 in
theorem ok_X12_window : (kmi[mX12_window]?).any (fun I => kcks I kt_X12_window kx_X12_window) = true := by decide +kernel
set_option maxRecDepth 100000 in
theorem ok_X12_nextOf : (kmi[mX12_nextOf]?).any (fun I => kcks I kt_X12_nextOf kx_X12_nextOf) = true := by decide +kernel
set_option maxRecDepth 100000 in
theorem ok_X12_chains : (kmi[mX12_chains]?).any (fun I => kcks I kt_X12_chains kx_X12_chains) = true := by decide +kernel
set_option maxRecDepth 100000 in
theorem ok_X12_toldChain : (kmi[mX12_toldChain]?).any (fun I => kcks I kt_X12_toldChain kx_X12_toldChain) = true := by decide +kernel
set_option maxRecDepth 100000 in
theorem ok_X12_chain : (kmi[mX12_chain]?).any (fun I => kcks I kt_X12_chain kx_X12_chain) = true := by decide +kernel
set_option maxRecDepth 100000 in
theorem ok_X12_longest : (kmi[mX12_longest]?).any (fun I => kcks I kt_X12_longest kx_X12_longest) = true := by decide +kernel
set_option maxRecDepth 100000 in
theorem ok_X12_folds : (kmi[mX12_folds]?).any (fun I => kcks I kt_X12_folds kx_X12_folds) = true := by decide +kernel
set_option maxRecDepth 100000 in
theorem ok_X12_depth : (kmi[mX12_depth]?).any (fun I => kcks I kt_X12_depth kx_X12_depth) = true := by decide +kernel
set_option maxRecDepth 100000 in
theorem ok_X12_folded : (kmi[mX12_folded]?).any (fun I => kcks I kt_X12_folded kx_X12_folded) = true := by decide +kernel
set_option maxRecDepth 100000 in
theorem ok_X12_ranks : (kmi[mX12_ranks]?).any (fun I => kcks I kt_X12_ranks kx_X12_ranks) = true := by decide +kernel
set_option maxRecDepth 100000 in
theorem ok_X12_isAhead : (kmi[mX12_isAhead]?).any (fun I => kcks I kt_X12_isAhead kx_X12_isAhead) = true := by decide +kernel
set_option maxRecDepth 100000 in
theorem ok_X12_rankedAt : (kmi[mX12_rankedAt]?).any (fun I => kcks I kt_X12_rankedAt kx_X12_rankedAt) = true := by decide +kernel
set_option maxRecDepth 100000 in
theorem ok_X12_ranked : (kmi[mX12_ranked]?).any (fun I => kcks I kt_X12_ranked kx_X12_ranked) = true := by decide +kernel
set_option maxRecDepth 100000 in
theorem ok_X12_nextFault : (kmi[mX12_nextFault]?).any (fun I => kcks I kt_X12_nextFault kx_X12_nextFault) = true := by decide +kernel
set_option maxRecDepth 100000 in
theorem ok_X12_peels : (kmi[mX12_peels]?).any (fun I => kcks I kt_X12_peels kx_X12_peels) = true := by decide +kernel
