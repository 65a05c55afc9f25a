/-! OWN: the tables are as the tables' words say (by program) -/
set_option maxRecDepth 100000 in
theorem ok_X0_init : (kmi[mX0_init]?).any (fun I => kcks I kt_X0_init kx_X0_init) = true := by decide +kernel
set_option maxRecDepth 100000 in
theorem ok_X0_follow : (kmi[mX0_follow]?).any (fun I => kcks I kt_X0_follow kx_X0_follow) = true := by decide +kernel
set_option maxRecDepth 100000 in
theorem ok_X0_link : (kmi[mX0_link]?).any (fun I => kcks I kt_X0_link kx_X0_link) = true := by decide +kernel
set_option maxRecDepth 100000 in
theorem ok_X0_nearestTo : (kmi[mX0_nearestTo]?).any (fun I => kcks I kt_X0_nearestTo kx_X0_nearestTo) = true := by decide +kernel
set_option maxRecDepth 100000 in
theorem ok_X0_knockOfMost : (kmi[mX0_knockOfMost]?).any (fun I => kcks I kt_X0_knockOfMost kx_X0_knockOfMost) = true := by decide +kernel
set_option maxRecDepth 100000 in
theorem ok_X0_tell : (kmi[mX0_tell]?).any (fun I => kcks I kt_X0_tell kx_X0_tell) = true := by decide +kernel
set_option maxRecDepth 100000 in
theorem ok_X1_init : (kmi[mX1_init]?).any (fun I => kcks I kt_X1_init kx_X1_init) = true := by decide +kernel
set_option maxRecDepth 100000 in
theorem ok_X1_prepare : (kmi[mX1_prepare]?).any (fun I => kcks I kt_X1_prepare kx_X1_prepare) = true := by decide +kernel
set_option maxRecDepth 100000 in
theorem ok_X1_marksFrom : (kmi[mX1_marksFrom]?).any (fun I => kcks I kt_X1_marksFrom kx_X1_marksFrom) = true := by decide +kernel
set_option maxRecDepth 100000 in
theorem ok_X1_lay : (kmi[mX1_lay]?).any (fun I => kcks I kt_X1_lay kx_X1_lay) = true := by decide +kernel
set_option maxRecDepth 100000 in
theorem ok_X1_takeHit : (kmi[mX1_takeHit]?).any (fun I => kcks I kt_X1_takeHit kx_X1_takeHit) = true := by decide +kernel
set_option maxRecDepth 100000 in
theorem ok_X1_findBest : (kmi[mX1_findBest]?).any (fun I => kcks I kt_X1_findBest kx_X1_findBest) = true := by decide +kernel
set_option maxRecDepth 100000 in
theorem ok_X1_score : (kmi[mX1_score]?).any (fun I => kcks I kt_X1_score kx_X1_score) = true := by decide +kernel
set_option maxRecDepth 100000 in
theorem ok_X1_strengthsOf : (kmi[mX1_strengthsOf]?).any (fun I => kcks I kt_X1_strengthsOf kx_X1_strengthsOf) = true := by decide +kernel
set_option maxRecDepth 100000 in
theorem ok_X1_tickOfHit : (kmi[mX1_tickOfHit]?).any (fun I => kcks I kt_X1_tickOfHit kx_X1_tickOfHit) = true := by decide +kernel
set_option maxRecDepth 100000 in
theorem ok_X1_knockOf : (kmi[mX1_knockOf]?).any (fun I => kcks I kt_X1_knockOf kx_X1_knockOf) = true := by decide +kernel
set_option maxRecDepth 100000 in
theorem ok_X1_mostOff : (kmi[mX1_mostOff]?).any (fun I => kcks I kt_X1_mostOff kx_X1_mostOff) = true := by decide +kernel
set_option maxRecDepth 100000 in
theorem ok_X1_tell : (kmi[mX1_tell]?).any (fun I => kcks I kt_X1_tell kx_X1_tell) = true := by decide +kernel
set_option maxRecDepth 100000 in
theorem ok_X2_init : (kmi[mX2_init]?).any (fun I => kcks I kt_X2_init kx_X2_init) = true := by decide +kernel
set_option maxRecDepth 100000 in
theorem ok_X2_copy : (kmi[mX2_copy]?).any (fun I => kcks I kt_X2_copy kx_X2_copy) = true := by decide +kernel
set_option maxRecDepth 100000 in
theorem ok_X2_lastTick : (kmi[mX2_lastTick]?).any (fun I => kcks I kt_X2_lastTick kx_X2_lastTick) = true := by decide +kernel
set_option maxRecDepth 100000 in
theorem ok_X2_add : (kmi[mX2_add]?).any (fun I => kcks I kt_X2_add kx_X2_add) = true := by decide +kernel
set_option maxRecDepth 100000 in
theorem ok_X2_takeOut : (kmi[mX2_takeOut]?).any (fun I => kcks I kt_X2_takeOut kx_X2_takeOut) = true := by decide +kernel
set_option maxRecDepth 100000 in
theorem ok_X2_takeOutAll : (kmi[mX2_takeOutAll]?).any (fun I => kcks I kt_X2_takeOutAll kx_X2_takeOutAll) = true := by decide +kernel
set_option maxRecDepth 100000 in
theorem ok_X2_cutFrom : (kmi[mX2_cutFrom]?).any (fun I => kcks I kt_X2_cutFrom kx_X2_cutFrom) = true := by decide +kernel
set_option maxRecDepth 100000 in
theorem ok_X3_init : (kmi[mX3_init]?).any (fun I => kcks I kt_X3_init kx_X3_init) = true := by decide +kernel
set_option maxRecDepth 100000 in
theorem ok_X3_put : (kmi[mX3_put]?).any (fun I => kcks I kt_X3_put kx_X3_put) = true := by decide +kernel
set_option maxRecDepth 100000 in
theorem ok_X3_putAll : (kmi[mX3_putAll]?).any (fun I => kcks I kt_X3_putAll kx_X3_putAll) = true := by decide +kernel
set_option maxRecDepth 100000 in
theorem ok_X3_together : (kmi[mX3_together]?).any (fun I => kcks I kt_X3_together kx_X3_together) = true := by decide +kernel
set_option maxRecDepth 100000 in
theorem ok_X3_common : (kmi[mX3_common]?).any (fun I => kcks I kt_X3_common kx_X3_common) = true := by decide +kernel
set_option maxRecDepth 100000 in
theorem ok_X3_findPair : (kmi[mX3_findPair]?).any (fun I => kcks I kt_X3_findPair kx_X3_findPair) = true := by decide +kernel
set_option maxRecDepth 100000 in
theorem ok_X4_init : (kmi[mX4_init]?).any (fun I => kcks I kt_X4_init kx_X4_init) = true := by decide +kernel
set_option maxRecDepth 100000 in
theorem ok_X4_copy : (kmi[mX4_copy]?).any (fun I => kcks I kt_X4_copy kx_X4_copy) = true := by decide +kernel
set_option maxRecDepth 100000 in
theorem ok_X4_lastDay : (kmi[mX4_lastDay]?).any (fun I => kcks I kt_X4_lastDay kx_X4_lastDay) = true := by decide +kernel
set_option maxRecDepth 100000 in
theorem ok_X4_begin : (kmi[mX4_begin]?).any (fun I => kcks I kt_X4_begin kx_X4_begin) = true := by decide +kernel
set_option maxRecDepth 100000 in
theorem ok_X4_write : (kmi[mX4_write]?).any (fun I => kcks I kt_X4_write kx_X4_write) = true := by decide +kernel
set_option maxRecDepth 100000 in
theorem ok_X4_strengthOf : (kmi[mX4_strengthOf]?).any (fun I => kcks I kt_X4_strengthOf kx_X4_strengthOf) = true := by decide +kernel
set_option maxRecDepth 100000 in
theorem ok_X4_sumOfDays : (kmi[mX4_sumOfDays]?).any (fun I => kcks I kt_X4_sumOfDays kx_X4_sumOfDays) = true := by decide +kernel
set_option maxRecDepth 100000 in
theorem ok_X4_sumOfStrengths : (kmi[mX4_sumOfStrengths]?).any (fun I => kcks I kt_X4_sumOfStrengths kx_X4_sumOfStrengths) = true := by decide +kernel
set_option maxRecDepth 100000 in
theorem ok_X4_fit : (kmi[mX4_fit]?).any (fun I => kcks I kt_X4_fit kx_X4_fit) = true := by decide +kernel
set_option maxRecDepth 100000 in
theorem ok_X4_floorAtLast : (kmi[mX4_floorAtLast]?).any (fun I => kcks I kt_X4_floorAtLast kx_X4_floorAtLast) = true := by decide +kernel
set_option maxRecDepth 100000 in
theorem ok_X4_firstDayAt : (kmi[mX4_firstDayAt]?).any (fun I => kcks I kt_X4_firstDayAt kx_X4_firstDayAt) = true := by decide +kernel
set_option maxRecDepth 100000 in
theorem ok_X5_init : (kmi[mX5_init]?).any (fun I => kcks I kt_X5_init kx_X5_init) = true := by decide +kernel
set_option maxRecDepth 100000 in
theorem ok_X5_become : (kmi[mX5_become]?).any (fun I => kcks I kt_X5_become kx_X5_become) = true := by decide +kernel
set_option maxRecDepth 100000 in
theorem ok_X5_add : (kmi[mX5_add]?).any (fun I => kcks I kt_X5_add kx_X5_add) = true := by decide +kernel
set_option maxRecDepth 100000 in
theorem ok_X5_divisor : (kmi[mX5_divisor]?).any (fun I => kcks I kt_X5_divisor kx_X5_divisor) = true := by decide +kernel
set_option maxRecDepth 100000 in
theorem ok_X6_init : (kmi[mX6_init]?).any (fun I => kcks I kt_X6_init kx_X6_init) = true := by decide +kernel
set_option maxRecDepth 100000 in
theorem ok_X6_copy : (kmi[mX6_copy]?).any (fun I => kcks I kt_X6_copy kx_X6_copy) = true := by decide +kernel
set_option maxRecDepth 100000 in
theorem ok_X6_read : (kmi[mX6_read]?).any (fun I => kcks I kt_X6_read kx_X6_read) = true := by decide +kernel
set_option maxRecDepth 100000 in
theorem ok_X6_readSpan : (kmi[mX6_readSpan]?).any (fun I => kcks I kt_X6_readSpan kx_X6_readSpan) = true := by decide +kernel
set_option maxRecDepth 100000 in
theorem ok_X6_angleOf : (kmi[mX6_angleOf]?).any (fun I => kcks I kt_X6_angleOf kx_X6_angleOf) = true := by decide +kernel
set_option maxRecDepth 100000 in
theorem ok_X7_init : (kmi[mX7_init]?).any (fun I => kcks I kt_X7_init kx_X7_init) = true := by decide +kernel
set_option maxRecDepth 100000 in
theorem ok_X7_copy : (kmi[mX7_copy]?).any (fun I => kcks I kt_X7_copy kx_X7_copy) = true := by decide +kernel
set_option maxRecDepth 100000 in
theorem ok_X7_measure : (kmi[mX7_measure]?).any (fun I => kcks I kt_X7_measure kx_X7_measure) = true := by decide +kernel
set_option maxRecDepth 100000 in
theorem ok_X7_rate : (kmi[mX7_rate]?).any (fun I => kcks I kt_X7_rate kx_X7_rate) = true := by decide +kernel
set_option maxRecDepth 100000 in
theorem ok_X8_init : (kmi[mX8_init]?).any (fun I => kcks I kt_X8_init kx_X8_init) = true := by decide +kernel
set_option maxRecDepth 100000 in
theorem ok_X8_copy : (kmi[mX8_copy]?).any (fun I => kcks I kt_X8_copy kx_X8_copy) = true := by decide +kernel
set_option maxRecDepth 100000 in
theorem ok_X8_read : (kmi[mX8_read]?).any (fun I => kcks I kt_X8_read kx_X8_read) = true := by decide +kernel
set_option maxRecDepth 100000 in
theorem ok_X8_readStep : (kmi[mX8_readStep]?).any (fun I => kcks I kt_X8_readStep kx_X8_readStep) = true := by decide +kernel
set_option maxRecDepth 100000 in
theorem ok_X8_filter : (kmi[mX8_filter]?).any (fun I => kcks I kt_X8_filter kx_X8_filter) = true := by decide +kernel
set_option maxRecDepth 100000 in
theorem ok_X8_sift : (kmi[mX8_sift]?).any (fun I => kcks I kt_X8_sift kx_X8_sift) = true := by decide +kernel
set_option maxRecDepth 100000 in
theorem ok_X8_stays : (kmi[mX8_stays]?).any (fun I => kcks I kt_X8_stays kx_X8_stays) = true := by decide +kernel
set_option maxRecDepth 100000 in
theorem ok_X8_merge : (kmi[mX8_merge]?).any (fun I => kcks I kt_X8_merge kx_X8_merge) = true := by decide +kernel
set_option maxRecDepth 100000 in
theorem ok_X8_strengthen : (kmi[mX8_strengthen]?).any (fun I => kcks I kt_X8_strengthen kx_X8_strengthen) = true := by decide +kernel
set_option maxRecDepth 100000 in
theorem ok_X8_delay : (kmi[mX8_delay]?).any (fun I => kcks I kt_X8_delay kx_X8_delay) = true := by decide +kernel
set_option maxRecDepth 100000 in
theorem ok_X9_init : (kmi[mX9_init]?).any (fun I => kcks I kt_X9_init kx_X9_init) = true := by decide +kernel
set_option maxRecDepth 100000 in
theorem ok_X9_put : (kmi[mX9_put]?).any (fun I => kcks I kt_X9_put kx_X9_put) = true := by decide +kernel
set_option maxRecDepth 100000 in
theorem ok_X9_has : (kmi[mX9_has]?).any (fun I => kcks I kt_X9_has kx_X9_has) = true := by decide +kernel
set_option maxRecDepth 100000 in
theorem ok_X9_take : (kmi[mX9_take]?).any (fun I => kcks I kt_X9_take kx_X9_take) = true := by decide +kernel
set_option maxRecDepth 100000 in
theorem ok_X9_hasEnded : (kmi[mX9_hasEnded]?).any (fun I => kcks I kt_X9_hasEnded kx_X9_hasEnded) = true := by decide +kernel
set_option maxRecDepth 100000 in
theorem ok_X9_sign : (kmi[mX9_sign]?).any (fun I => kcks I kt_X9_sign kx_X9_sign) = true := by decide +kernel
set_option maxRecDepth 100000 in
theorem ok_X9_refuse : (kmi[mX9_refuse]?).any (fun I => kcks I kt_X9_refuse kx_X9_refuse) = true := by decide +kernel
set_option maxRecDepth 100000 in
theorem ok_X9_isDigit : (kmi[mX9_isDigit]?).any (fun I => kcks I kt_X9_isDigit kx_X9_isDigit) = true := by decide +kernel
set_option maxRecDepth 100000 in
theorem ok_X9_readNumber : (kmi[mX9_readNumber]?).any (fun I => kcks I kt_X9_readNumber kx_X9_readNumber) = true := by decide +kernel
set_option maxRecDepth 100000 in
theorem ok_X9_pass : (kmi[mX9_pass]?).any (fun I => kcks I kt_X9_pass kx_X9_pass) = true := by decide +kernel
set_option maxRecDepth 100000 in
theorem ok_X9_hasPart : (kmi[mX9_hasPart]?).any (fun I => kcks I kt_X9_hasPart kx_X9_hasPart) = true := by decide +kernel
set_option maxRecDepth 100000 in
theorem ok_X9_proofItems : (kmi[mX9_proofItems]?).any (fun I => kcks I kt_X9_proofItems kx_X9_proofItems) = true := by decide +kernel
set_option maxRecDepth 100000 in
theorem ok_X9_proofKnock : (kmi[mX9_proofKnock]?).any (fun I => kcks I kt_X9_proofKnock kx_X9_proofKnock) = true := by decide +kernel
set_option maxRecDepth 100000 in
theorem ok_X9_layItems : (kmi[mX9_layItems]?).any (fun I => kcks I kt_X9_layItems kx_X9_layItems) = true := by decide +kernel
set_option maxRecDepth 100000 in
theorem ok_X9_enterRounds : (kmi[mX9_enterRounds]?).any (fun I => kcks I kt_X9_enterRounds kx_X9_enterRounds) = true := by decide +kernel
set_option maxRecDepth 100000 in
theorem ok_X9_endRound : (kmi[mX9_endRound]?).any (fun I => kcks I kt_X9_endRound kx_X9_endRound) = true := by decide +kernel
set_option maxRecDepth 100000 in
theorem ok_X9_layKnock : (kmi[mX9_layKnock]?).any (fun I => kcks I kt_X9_layKnock kx_X9_layKnock) = true := by decide +kernel
set_option maxRecDepth 100000 in
theorem ok_X10_init : (kmi[mX10_init]?).any (fun I => kcks I kt_X10_init kx_X10_init) = true := by decide +kernel
set_option maxRecDepth 100000 in
theorem ok_X10_forget : (kmi[mX10_forget]?).any (fun I => kcks I kt_X10_forget kx_X10_forget) = true := by decide +kernel
set_option maxRecDepth 100000 in
theorem ok_X10_put : (kmi[mX10_put]?).any (fun I => kcks I kt_X10_put kx_X10_put) = true := by decide +kernel
set_option maxRecDepth 100000 in
theorem ok_X10_isAhead : (kmi[mX10_isAhead]?).any (fun I => kcks I kt_X10_isAhead kx_X10_isAhead) = true := by decide +kernel
set_option maxRecDepth 100000 in
theorem ok_X10_kindAt : (kmi[mX10_kindAt]?).any (fun I => kcks I kt_X10_kindAt kx_X10_kindAt) = true := by decide +kernel
set_option maxRecDepth 100000 in
theorem ok_X10_add : (kmi[mX10_add]?).any (fun I => kcks I kt_X10_add kx_X10_add) = true := by decide +kernel
set_option maxRecDepth 100000 in
theorem ok_X10_tell : (kmi[mX10_tell]?).any (fun I => kcks I kt_X10_tell kx_X10_tell) = true := by decide +kernel
set_option maxRecDepth 100000 in
theorem ok_X10_write : (kmi[mX10_write]?).any (fun I => kcks I kt_X10_write kx_X10_write) = true := by decide +kernel
set_option maxRecDepth 100000 in
theorem ok_X10_nameOf : (kmi[mX10_nameOf]?).any (fun I => kcks I kt_X10_nameOf kx_X10_nameOf) = true := by decide +kernel
set_option maxRecDepth 100000 in
theorem ok_J9_abs_067f4 : (kmi[mJ9_abs_067f4]?).any (fun I => kcks I kt_J9_abs_067f4 kx_J9_abs_067f4) = true := by decide +kernel
set_option maxRecDepth 100000 in
theorem ok_J9_min_7cf53 : (kmi[mJ9_min_7cf53]?).any (fun I => kcks I kt_J9_min_7cf53 kx_J9_min_7cf53) = true := by decide +kernel
set_option maxRecDepth 100000 in
theorem ok_J9_max_f86c9 : (kmi[mJ9_max_f86c9]?).any (fun I => kcks I kt_J9_max_f86c9 kx_J9_max_f86c9) = true := by decide +kernel
set_option maxRecDepth 100000 in
theorem ok_J9_min_f86c9 : (kmi[mJ9_min_f86c9]?).any (fun I => kcks I kt_J9_min_f86c9 kx_J9_min_f86c9) = true := by decide +kernel
set_option maxRecDepth 100000 in
theorem ok_J9_max_7cf53 : (kmi[mJ9_max_7cf53]?).any (fun I => kcks I kt_J9_max_7cf53 kx_J9_max_7cf53) = true := by decide +kernel
set_option maxRecDepth 100000 in
theorem ok_J13_bitCount_95d88 : (kmi[mJ13_bitCount_95d88]?).any (fun I => kcks I kt_J13_bitCount_95d88 kx_J13_bitCount_95d88) = true := by decide +kernel
set_option maxRecDepth 100000 in
theorem ok_J9_floorDiv_f86c9 : (kmi[mJ9_floorDiv_f86c9]?).any (fun I => kcks I kt_J9_floorDiv_f86c9 kx_J9_floorDiv_f86c9) = true := by decide +kernel
set_option maxRecDepth 100000 in
theorem ok_J7_fill_53178 : (kmi[mJ7_fill_53178]?).any (fun I => kcks I kt_J7_fill_53178 kx_J7_fill_53178) = true := by decide +kernel
set_option maxRecDepth 100000 in
theorem ok_J0_isLatin1_aae02 : (kmi[mJ0_isLatin1_aae02]?).any (fun I => kcks I kt_J0_isLatin1_aae02 kx_J0_isLatin1_aae02) = true := by decide +kernel
set_option maxRecDepth 100000 in
theorem ok_J1_canEncode_9a6ad : (kmi[mJ1_canEncode_9a6ad]?).any (fun I => kcks I kt_J1_canEncode_9a6ad kx_J1_canEncode_9a6ad) = true := by decide +kernel
set_option maxRecDepth 100000 in
theorem ok_J1_indexOfChar_4cfef : (kmi[mJ1_indexOfChar_4cfef]?).any (fun I => kcks I kt_J1_indexOfChar_4cfef kx_J1_indexOfChar_4cfef) = true := by decide +kernel
set_option maxRecDepth 100000 in
theorem ok_J1_indexOf_4cfef : (kmi[mJ1_indexOf_4cfef]?).any (fun I => kcks I kt_J1_indexOf_4cfef kx_J1_indexOf_4cfef) = true := by decide +kernel
set_option maxRecDepth 100000 in
theorem ok_J0_indexOf_7cf53 : (kmi[mJ0_indexOf_7cf53]?).any (fun I => kcks I kt_J0_indexOf_7cf53 kx_J0_indexOf_7cf53) = true := by decide +kernel
set_option maxRecDepth 100000 in
theorem ok_J0_indexOf_0f7a4 : (kmi[mJ0_indexOf_0f7a4]?).any (fun I => kcks I kt_J0_indexOf_0f7a4 kx_J0_indexOf_0f7a4) = true := by decide +kernel
set_option maxRecDepth 100000 in
theorem ok_J0_coder_7d493 : (kmi[mJ0_coder_7d493]?).any (fun I => kcks I kt_J0_coder_7d493 kx_J0_coder_7d493) = true := by decide +kernel
set_option maxRecDepth 100000 in
theorem ok_J0_length_8abf5 : (kmi[mJ0_length_8abf5]?).any (fun I => kcks I kt_J0_length_8abf5 kx_J0_length_8abf5) = true := by decide +kernel
set_option maxRecDepth 100000 in
theorem ok_J0_getBytes_840e7 : (kmi[mJ0_getBytes_840e7]?).any (fun I => kcks I kt_J0_getBytes_840e7 kx_J0_getBytes_840e7) = true := by decide +kernel
set_option maxRecDepth 100000 in
theorem ok_J5_init_d00df : (kmi[mJ5_init_d00df]?).any (fun I => kcks I kt_J5_init_d00df kx_J5_init_d00df) = true := by decide +kernel
set_option maxRecDepth 100000 in
theorem ok_J4_init_da8c8 : (kmi[mJ4_init_da8c8]?).any (fun I => kcks I kt_J4_init_da8c8 kx_J4_init_da8c8) = true := by decide +kernel
set_option maxRecDepth 100000 in
theorem ok_J5_isLatin1_aae02 : (kmi[mJ5_isLatin1_aae02]?).any (fun I => kcks I kt_J5_isLatin1_aae02 kx_J5_isLatin1_aae02) = true := by decide +kernel
set_option maxRecDepth 100000 in
theorem ok_J1_canEncode_fc78d : (kmi[mJ1_canEncode_fc78d]?).any (fun I => kcks I kt_J1_canEncode_fc78d kx_J1_canEncode_fc78d) = true := by decide +kernel
set_option maxRecDepth 100000 in
theorem ok_J8_newLength_cabcc : (kmi[mJ8_newLength_cabcc]?).any (fun I => kcks I kt_J8_newLength_cabcc kx_J8_newLength_cabcc) = true := by decide +kernel
set_option maxRecDepth 100000 in
theorem ok_J5_newCapacity_0f7a4 : (kmi[mJ5_newCapacity_0f7a4]?).any (fun I => kcks I kt_J5_newCapacity_0f7a4 kx_J5_newCapacity_0f7a4) = true := by decide +kernel
set_option maxRecDepth 100000 in
theorem ok_J7_copyOf_9075b : (kmi[mJ7_copyOf_9075b]?).any (fun I => kcks I kt_J7_copyOf_9075b kx_J7_copyOf_9075b) = true := by decide +kernel
set_option maxRecDepth 100000 in
theorem ok_J5_ensureCapacityInternal_d00df : (kmi[mJ5_ensureCapacityInternal_d00df]?).any (fun I => kcks I kt_J5_ensureCapacityInternal_d00df kx_J5_ensureCapacityInternal_d00df) = true := by decide +kernel
set_option maxRecDepth 100000 in
theorem ok_J5_inflateIfNeededFor_a7421 : (kmi[mJ5_inflateIfNeededFor_a7421]?).any (fun I => kcks I kt_J5_inflateIfNeededFor_a7421 kx_J5_inflateIfNeededFor_a7421) = true := by decide +kernel
set_option maxRecDepth 100000 in
theorem ok_J5_putStringAt_47b60 : (kmi[mJ5_putStringAt_47b60]?).any (fun I => kcks I kt_J5_putStringAt_47b60 kx_J5_putStringAt_47b60) = true := by decide +kernel
set_option maxRecDepth 100000 in
theorem ok_J5_append_cf1ce : (kmi[mJ5_append_cf1ce]?).any (fun I => kcks I kt_J5_append_cf1ce kx_J5_append_cf1ce) = true := by decide +kernel
set_option maxRecDepth 100000 in
theorem ok_J4_append_15ec4 : (kmi[mJ4_append_15ec4]?).any (fun I => kcks I kt_J4_append_15ec4 kx_J4_append_15ec4) = true := by decide +kernel
set_option maxRecDepth 100000 in
theorem ok_J5_append_3fe6f : (kmi[mJ5_append_3fe6f]?).any (fun I => kcks I kt_J5_append_3fe6f kx_J5_append_3fe6f) = true := by decide +kernel
set_option maxRecDepth 100000 in
theorem ok_J4_append_cf468 : (kmi[mJ4_append_cf468]?).any (fun I => kcks I kt_J4_append_cf468 kx_J4_append_cf468) = true := by decide +kernel
set_option maxRecDepth 100000 in
theorem ok_J6_stringSize_0f7a4 : (kmi[mJ6_stringSize_0f7a4]?).any (fun I => kcks I kt_J6_stringSize_0f7a4 kx_J6_stringSize_0f7a4) = true := by decide +kernel
set_option maxRecDepth 100000 in
theorem ok_J6_getChars_ba4f3 : (kmi[mJ6_getChars_ba4f3]?).any (fun I => kcks I kt_J6_getChars_ba4f3 kx_J6_getChars_ba4f3) = true := by decide +kernel
set_option maxRecDepth 100000 in
theorem ok_J5_append_c97b9 : (kmi[mJ5_append_c97b9]?).any (fun I => kcks I kt_J5_append_c97b9 kx_J5_append_c97b9) = true := by decide +kernel
set_option maxRecDepth 100000 in
theorem ok_J4_append_bf812 : (kmi[mJ4_append_bf812]?).any (fun I => kcks I kt_J4_append_bf812 kx_J4_append_bf812) = true := by decide +kernel
set_option maxRecDepth 100000 in
theorem ok_J5_length_8abf5 : (kmi[mJ5_length_8abf5]?).any (fun I => kcks I kt_J5_length_8abf5 kx_J5_length_8abf5) = true := by decide +kernel
set_option maxRecDepth 100000 in
theorem ok_J4_length_8abf5 : (kmi[mJ4_length_8abf5]?).any (fun I => kcks I kt_J4_length_8abf5 kx_J4_length_8abf5) = true := by decide +kernel
set_option maxRecDepth 100000 in
theorem ok_J3_checkIndex_8e157 : (kmi[mJ3_checkIndex_8e157]?).any (fun I => kcks I kt_J3_checkIndex_8e157 kx_J3_checkIndex_8e157) = true := by decide +kernel
set_option maxRecDepth 100000 in
theorem ok_J0_checkIndex_df160 : (kmi[mJ0_checkIndex_df160]?).any (fun I => kcks I kt_J0_checkIndex_df160 kx_J0_checkIndex_df160) = true := by decide +kernel
set_option maxRecDepth 100000 in
theorem ok_J5_charAt_5068e : (kmi[mJ5_charAt_5068e]?).any (fun I => kcks I kt_J5_charAt_5068e kx_J5_charAt_5068e) = true := by decide +kernel
set_option maxRecDepth 100000 in
theorem ok_J4_charAt_5068e : (kmi[mJ4_charAt_5068e]?).any (fun I => kcks I kt_J4_charAt_5068e kx_J4_charAt_5068e) = true := by decide +kernel
