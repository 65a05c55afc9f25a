/-! OWN: every method's table is as the tables' words say -/
theorem k_take {m : Nat} {J : kMI} {t : kT} {w : List (List Nat)} (h : (kmi[m]?).any (fun I => kcks I t w) = true) (e : kmi[m]? = some J) : ∀ q ∈ t, kOkI J q := by
  have h2 : kcks J t w = true := by
    rw [e] at h
    exact h
  exact kcks_ok J t w h2
theorem k_chunk {t : kT} {w : List (List Nat)} {I : kMI} {n K : Nat} (h0 : 0 < n) (h : ∀ j, j < K → kcks I ((t.drop (n * j)).take n) ((w.drop (n * j)).take n) = true) (hl : t.length ≤ n * K) : ∀ q ∈ t, kOkI I q := by
  intro q hq
  obtain ⟨i, hi, e⟩ := List.getElem_of_mem hq
  have hd := Nat.div_add_mod i n
  have hm := Nat.mod_lt i h0
  have hj : i / n < K := (Nat.div_lt_iff_lt_mul h0).mpr (by rw [Nat.mul_comm]; omega)
  refine kcks_ok I _ _ (h (i / n) hj) q (List.mem_of_getElem? (i := i % n) ?_)
  rw [List.getElem?_take_of_lt hm, List.getElem?_drop, hd, List.getElem?_eq_getElem hi, e]
theorem okLs : ∀ j, j < 28 → kcks kIL ((kt_L_law.drop (40 * j)).take 40) ((kx_L_law.drop (40 * j)).take 40) = true := by
  intro j hj
  match j, hj with
  | 0, _ => exact okL_0
  | 1, _ => exact okL_1
  | 2, _ => exact okL_2
  | 3, _ => exact okL_3
  | 4, _ => exact okL_4
  | 5, _ => exact okL_5
  | 6, _ => exact okL_6
  | 7, _ => exact okL_7
  | 8, _ => exact okL_8
  | 9, _ => exact okL_9
  | 10, _ => exact okL_10
  | 11, _ => exact okL_11
  | 12, _ => exact okL_12
  | 13, _ => exact okL_13
  | 14, _ => exact okL_14
  | 15, _ => exact okL_15
  | 16, _ => exact okL_16
  | 17, _ => exact okL_17
  | 18, _ => exact okL_18
  | 19, _ => exact okL_19
  | 20, _ => exact okL_20
  | 21, _ => exact okL_21
  | 22, _ => exact okL_22
  | 23, _ => exact okL_23
  | 24, _ => exact okL_24
  | 25, _ => exact okL_25
  | 26, _ => exact okL_26
  | 27, _ => exact okL_27
  | j + 28, hj => exact absurd hj (by omega)
theorem hokL : ∀ q ∈ kt_L_law, kOkI kIL q := k_chunk (n := 40) (K := 28) (by decide) okLs (by decide +kernel)
def kAll2 : List (kT × Nat) → List kMI → Prop
  | M :: r, I :: s => (∀ q ∈ M.1, kOkI I q) ∧ kAll2 r s
  | _, _ => True
theorem kAll2_at : ∀ {A : List (kT × Nat)} {B : List kMI} {y : Nat} {M : kT × Nat} {I : kMI}, kAll2 A B → A[y]? = some M → B[y]? = some I → ∀ q ∈ M.1, kOkI I q
  | [], _, y, M, I, _, hA, _ => by simp at hA
  | _ :: _, [], y, M, I, _, _, hB => by simp at hB
  | X :: r, Z :: s, 0, M, I, h, hA, hB => by
    simp only [List.getElem?_cons_zero, Option.some.injEq] at hA hB
    subst hA; subst hB
    exact h.1
  | X :: r, Z :: s, y + 1, M, I, h, hA, hB => kAll2_at h.2 (by simpa using hA) (by simpa using hB)
set_option maxRecDepth 100000 in
theorem all2_0 {r : List (kT × Nat)} {s : List kMI} (h : kAll2 r s) : kAll2 ((kms.drop 0).take 30 ++ r) ((kmi.drop 0).take 30 ++ s) := ⟨k_take ok_X0_init rfl, k_take ok_X0_follow rfl, k_take ok_X0_link rfl, k_take ok_X0_nearestTo rfl, k_take ok_X0_knockOfMost rfl, k_take ok_X0_tell rfl, k_take ok_X1_init rfl, k_take ok_X1_prepare rfl, k_take ok_X1_marksFrom rfl, k_take ok_X1_lay rfl, k_take ok_X1_takeHit rfl, k_take ok_X1_findBest rfl, k_take ok_X1_score rfl, k_take ok_X1_strengthsOf rfl, k_take ok_X1_tickOfHit rfl, k_take ok_X1_knockOf rfl, k_take ok_X1_mostOff rfl, k_take ok_X1_tell rfl, k_take ok_X2_init rfl, k_take ok_X2_copy rfl, k_take ok_X2_lastTick rfl, k_take ok_X2_add rfl, k_take ok_X2_takeOut rfl, k_take ok_X2_takeOutAll rfl, k_take ok_X2_cutFrom rfl, k_take ok_X3_init rfl, k_take ok_X3_put rfl, k_take ok_X3_putAll rfl, k_take ok_X3_together rfl, k_take ok_X3_common rfl, h⟩
set_option maxRecDepth 100000 in
theorem all2_1 {r : List (kT × Nat)} {s : List kMI} (h : kAll2 r s) : kAll2 ((kms.drop 30).take 30 ++ r) ((kmi.drop 30).take 30 ++ s) := ⟨k_take ok_X3_findPair rfl, k_take ok_X4_init rfl, k_take ok_X4_copy rfl, k_take ok_X4_lastDay rfl, k_take ok_X4_begin rfl, k_take ok_X4_write rfl, k_take ok_X4_strengthOf rfl, k_take ok_X4_sumOfDays rfl, k_take ok_X4_sumOfStrengths rfl, k_take ok_X4_fit rfl, k_take ok_X4_floorAtLast rfl, k_take ok_X4_firstDayAt rfl, k_take ok_X5_init rfl, k_take ok_X5_become rfl, k_take ok_X5_add rfl, k_take ok_X5_divisor rfl, k_take ok_X6_init rfl, k_take ok_X6_copy rfl, k_take ok_X6_read rfl, k_take ok_X6_readSpan rfl, k_take ok_X6_angleOf rfl, k_take ok_X7_init rfl, k_take ok_X7_copy rfl, k_take ok_X7_measure rfl, k_take ok_X7_rate rfl, k_take ok_X8_init rfl, k_take ok_X8_copy rfl, k_take ok_X8_read rfl, k_take ok_X8_readStep rfl, k_take ok_X8_filter rfl, h⟩
set_option maxRecDepth 100000 in
theorem all2_2 {r : List (kT × Nat)} {s : List kMI} (h : kAll2 r s) : kAll2 ((kms.drop 60).take 30 ++ r) ((kmi.drop 60).take 30 ++ s) := ⟨k_take ok_X8_sift rfl, k_take ok_X8_stays rfl, k_take ok_X8_merge rfl, k_take ok_X8_strengthen rfl, k_take ok_X8_delay rfl, k_take ok_X9_init rfl, k_take ok_X9_put rfl, k_take ok_X9_has rfl, k_take ok_X9_take rfl, k_take ok_X9_hasEnded rfl, k_take ok_X9_sign rfl, k_take ok_X9_refuse rfl, k_take ok_X9_isDigit rfl, k_take ok_X9_readNumber rfl, k_take ok_X9_pass rfl, k_take ok_X9_hasPart rfl, k_take ok_X9_proofItems rfl, k_take ok_X9_proofKnock rfl, k_take ok_X9_layItems rfl, k_take ok_X9_enterRounds rfl, k_take ok_X9_endRound rfl, k_take ok_X9_layKnock rfl, k_take ok_X10_init rfl, k_take ok_X10_forget rfl, k_take ok_X10_put rfl, k_take ok_X10_isAhead rfl, k_take ok_X10_kindAt rfl, k_take ok_X10_add rfl, k_take ok_X10_tell rfl, k_take ok_X10_write rfl, h⟩
set_option maxRecDepth 100000 in
theorem all2_3 {r : List (kT × Nat)} {s : List kMI} (h : kAll2 r s) : kAll2 ((kms.drop 90).take 30 ++ r) ((kmi.drop 90).take 30 ++ s) := ⟨k_take ok_X10_nameOf rfl, k_take ok_X11_init rfl, k_take ok_X11_feed rfl, k_take ok_X11_get rfl, k_take ok_X11_angle rfl, k_take ok_X11_knock rfl, k_take ok_X11_ratio rfl, k_take ok_X11_isKind rfl, k_take ok_X11_isOption rfl, k_take ok_X11_isTurn rfl, k_take ok_X11_isBearing rfl, k_take ok_X11_isSeen rfl, k_take ok_X11_bearing rfl, k_take ok_X11_turn rfl, k_take ok_X11_speeds rfl, k_take ok_X11_trace rfl, k_take ok_X11_filters rfl, k_take ok_X11_set rfl, k_take ok_X11_drop rfl, k_take ok_X11_note rfl, k_take ok_X11_undo rfl, k_take ok_X11_beginAct rfl, k_take ok_X11_endAct rfl, k_take ok_X11_refresh rfl, k_take ok_X11_comb rfl, k_take ok_X11_hit rfl, k_take ok_X11_best rfl, k_take ok_X11_side rfl, k_take ok_X11_shared rfl, k_take ok_X11_both rfl, h⟩
set_option maxRecDepth 100000 in
theorem all2_4 {r : List (kT × Nat)} {s : List kMI} (h : kAll2 r s) : kAll2 ((kms.drop 120).take 30 ++ r) ((kmi.drop 120).take 30 ++ s) := ⟨k_take ok_X11_window rfl, k_take ok_X11_folded rfl, k_take ok_X11_foldHits rfl, k_take ok_X11_depthOfEighths rfl, k_take ok_X11_apart rfl, k_take ok_X11_ready rfl, k_take ok_X11_findBestSeen rfl, k_take ok_X11_layBest rfl, k_take ok_X11_chain rfl, k_take ok_X11_longest rfl, k_take ok_X11_ranked rfl, k_take ok_X11_faults rfl, k_take ok_X11_fault rfl, k_take ok_X11_report rfl, k_take ok_X11_tried rfl, k_take ok_X11_bestTurn rfl, k_take ok_X11_check rfl, k_take ok_X11_peel rfl, k_take ok_X11_firstAside rfl, k_take ok_X11_lag rfl, k_take ok_X11_lags rfl, k_take ok_X11_areLags rfl, k_take ok_X11_sumPairs rfl, k_take ok_X11_pairsAt rfl, k_take ok_X11_nearest rfl, k_take ok_X11_noteIs rfl, k_take ok_X11_line rfl, k_take ok_X11_due rfl, k_take ok_X12_init rfl, k_take ok_X12_in rfl, h⟩
set_option maxRecDepth 100000 in
theorem all2_5 {r : List (kT × Nat)} {s : List kMI} (h : kAll2 r s) : kAll2 ((kms.drop 150).take 30 ++ r) ((kmi.drop 150).take 30 ++ s) := ⟨k_take ok_X12_min rfl, k_take ok_X12_max rfl, k_take ok_X12_size rfl, k_take ok_X12_common rfl, k_take ok_X12_floored rfl, k_take ok_X12_isKind rfl, k_take ok_X12_remembers rfl, k_take ok_X12_undo rfl, k_take ok_X12_laysAside rfl, k_take ok_X12_laysBack rfl, k_take ok_X12_types rfl, k_take ok_X12_feed rfl, k_take ok_X12_begins rfl, k_take ok_X12_here rfl, k_take ok_X12_wrongAt rfl, k_take ok_X12_takesSign rfl, k_take ok_X12_isDigit rfl, k_take ok_X12_readsNumber rfl, k_take ok_X12_isBearing rfl, k_take ok_X12_isTurn rfl, k_take ok_X12_lays rfl, k_take ok_X12_bearing rfl, k_take ok_X12_turn rfl, k_take ok_X12_readsSpan rfl, k_take ok_X12_takesDraft rfl, k_take ok_X12_speeds rfl, k_take ok_X12_angleOf rfl, k_take ok_X12_angle rfl, k_take ok_X12_findsRatio rfl, k_take ok_X12_ratio rfl, h⟩
set_option maxRecDepth 100000 in
theorem all2_6 {r : List (kT × Nat)} {s : List kMI} (h : kAll2 r s) : kAll2 ((kms.drop 180).take 30 ++ r) ((kmi.drop 180).take 30 ++ s) := ⟨k_take ok_X12_laysGap rfl, k_take ok_X12_repeats rfl, k_take ok_X12_readsItems rfl, k_take ok_X12_trace rfl, k_take ok_X12_drop rfl, k_take ok_X12_isStep rfl, k_take ok_X12_readsStep rfl, k_take ok_X12_filters rfl, k_take ok_X12_keepsKnock rfl, k_take ok_X12_stays rfl, k_take ok_X12_goesThrough rfl, k_take ok_X12_sees rfl, k_take ok_X12_knock rfl, k_take ok_X12_set rfl, k_take ok_X12_get rfl, k_take ok_X12_lays_ rfl, k_take ok_X12_told rfl, k_take ok_X12_laysBest rfl, k_take ok_X12_laysBestOf rfl, k_take ok_X12_comb rfl, k_take ok_X12_hit rfl, k_take ok_X12_best rfl, k_take ok_X12_side rfl, k_take ok_X12_notesHits rfl, k_take ok_X12_shared rfl, k_take ok_X12_laysSets rfl, k_take ok_X12_bits rfl, k_take ok_X12_joined rfl, k_take ok_X12_both rfl, k_take ok_X12_thins rfl, h⟩
set_option maxRecDepth 100000 in
theorem all2_7 {r : List (kT × Nat)} {s : List kMI} (h : kAll2 r s) : kAll2 ((kms.drop 210).take 30 ++ r) ((kmi.drop 210).take 30 ++ s) := ⟨k_take ok_X12_window rfl, k_take ok_X12_nextOf rfl, k_take ok_X12_chains rfl, k_take ok_X12_toldChain rfl, k_take ok_X12_chain rfl, k_take ok_X12_longest rfl, k_take ok_X12_folds rfl, k_take ok_X12_depth rfl, k_take ok_X12_folded rfl, k_take ok_X12_ranks rfl, k_take ok_X12_isAhead rfl, k_take ok_X12_rankedAt rfl, k_take ok_X12_ranked rfl, k_take ok_X12_nextFault rfl, k_take ok_X12_peels rfl, k_take ok_X12_faults rfl, k_take ok_X12_fault rfl, k_take ok_X12_says rfl, k_take ok_X12_saysNumber rfl, k_take ok_X12_laysReport rfl, k_take ok_X12_report rfl, k_take ok_X12_apartFrom rfl, k_take ok_X12_apart rfl, k_take ok_X12_pairsBy rfl, k_take ok_X12_isLag rfl, k_take ok_X12_lag rfl, k_take ok_X12_lags rfl, k_take ok_X12_nearest rfl, k_take ok_X12_noteOf rfl, k_take ok_X12_note rfl, h⟩
set_option maxRecDepth 100000 in
theorem all2_8 {r : List (kT × Nat)} {s : List kMI} (h : kAll2 r s) : kAll2 ((kms.drop 240).take 30 ++ r) ((kmi.drop 240).take 30 ++ s) := ⟨k_take ok_X12_noteIs rfl, k_take ok_X12_findsLine rfl, k_take ok_X12_lineAt rfl, k_take ok_X12_line rfl, k_take ok_X12_due rfl, k_take ok_X12_tried rfl, k_take ok_X12_bestTurn rfl, k_take ok_X12_check rfl, hokL, k_take ok_J9_abs_067f4 rfl, k_take ok_J9_min_7cf53 rfl, k_take ok_J9_max_f86c9 rfl, k_take ok_J9_min_f86c9 rfl, k_take ok_J9_max_7cf53 rfl, k_take ok_J13_bitCount_95d88 rfl, k_take ok_J9_floorDiv_f86c9 rfl, k_take ok_J7_fill_53178 rfl, k_take ok_J0_isLatin1_aae02 rfl, k_take ok_J1_canEncode_9a6ad rfl, k_take ok_J1_indexOfChar_4cfef rfl, k_take ok_J1_indexOf_4cfef rfl, k_take ok_J0_indexOf_7cf53 rfl, k_take ok_J0_indexOf_0f7a4 rfl, k_take ok_J0_coder_7d493 rfl, k_take ok_J0_length_8abf5 rfl, k_take ok_J0_getBytes_840e7 rfl, k_take ok_J5_init_d00df rfl, k_take ok_J4_init_da8c8 rfl, k_take ok_J5_isLatin1_aae02 rfl, k_take ok_J1_canEncode_fc78d rfl, h⟩
set_option maxRecDepth 100000 in
theorem all2_9 {r : List (kT × Nat)} {s : List kMI} (h : kAll2 r s) : kAll2 ((kms.drop 270).take 30 ++ r) ((kmi.drop 270).take 30 ++ s) := ⟨k_take ok_J8_newLength_cabcc rfl, k_take ok_J5_newCapacity_0f7a4 rfl, k_take ok_J7_copyOf_9075b rfl, k_take ok_J5_ensureCapacityInternal_d00df rfl, k_take ok_J5_inflateIfNeededFor_a7421 rfl, k_take ok_J5_putStringAt_47b60 rfl, k_take ok_J5_append_cf1ce rfl, k_take ok_J4_append_15ec4 rfl, k_take ok_J5_append_3fe6f rfl, k_take ok_J4_append_cf468 rfl, k_take ok_J6_stringSize_0f7a4 rfl, k_take ok_J6_getChars_ba4f3 rfl, k_take ok_J5_append_c97b9 rfl, k_take ok_J4_append_bf812 rfl, k_take ok_J5_length_8abf5 rfl, k_take ok_J4_length_8abf5 rfl, k_take ok_J3_checkIndex_8e157 rfl, k_take ok_J0_checkIndex_df160 rfl, k_take ok_J5_charAt_5068e rfl, k_take ok_J4_charAt_5068e rfl, h⟩
set_option maxRecDepth 100000 in
theorem all2 : kAll2 kms kmi := (all2_0 (all2_1 (all2_2 (all2_3 (all2_4 (all2_5 (all2_6 (all2_7 (all2_8 (all2_9 (show kAll2 [] [] from trivial)))))))))))
set_option maxRecDepth 100000 in
theorem k_meta : ((List.range 290).all fun y => match kms[y]?, kmi[y]? with
  | some M, some I => decide (M.2 = I.2.2.1) && (plainFor I.1 && decide (I.2.2.2.2.1 = I.1.cls))
  | _, _ => true) = true := by decide +kernel
set_option maxRecDepth 100000 in
theorem kms_l : kms.length = 290 := by decide +kernel
set_option maxRecDepth 100000 in
theorem hlen : kms.length = kmi.length := by decide +kernel
theorem hall : ∀ (y : Nat) (M : kT × Nat) (I : kMI), kms[y]? = some M → kmi[y]? = some I → kMOk M I := by
  intro y M I hM hI
  have hy : y < 290 := by rw [← kms_l]; exact (List.getElem?_eq_some_iff.mp hM).1
  have h := List.all_eq_true.mp k_meta y (List.mem_range.mpr hy)
  rw [hM, hI] at h
  simp only [Bool.and_eq_true, decide_eq_true_eq] at h
  exact ⟨kAll2_at all2 hM hI, h.1, h.2.1, h.2.2⟩
