/-! OWN: the law, from its entry, out of one run of the numbered machine (open: the tables' checks and the run itself are premises here) -/
theorem k_low {args : Array Value} {s : State} (hgv : (Jvm.Cond.and given_1 narrow_1).before args s = true) : ∀ j : Nat, j < 5 → (Term.elem (.static "KnockFinder" "OPTION_LOW" "[I") (.int (Int32.ofNat j))).eval args s none [] s = some (.int (klow j)) := by
  have hs := flat_of_before _ hgv
  intro j hj
  match j, hj with
  | 0, _ => exact va_eqt (hs (.eq (.elem (.static "KnockFinder" "OPTION_LOW" "[I") (.int 0)) (.int 0)) (by decide +kernel))
  | 1, _ => exact va_eqt (hs (.eq (.elem (.static "KnockFinder" "OPTION_LOW" "[I") (.int 1)) (.int 0)) (by decide +kernel))
  | 2, _ => exact va_eqt (hs (.eq (.elem (.static "KnockFinder" "OPTION_LOW" "[I") (.int 2)) (.int 0)) (by decide +kernel))
  | 3, _ => exact va_eqt (hs (.eq (.elem (.static "KnockFinder" "OPTION_LOW" "[I") (.int 3)) (.int 2)) (by decide +kernel))
  | 4, _ => exact va_eqt (hs (.eq (.elem (.static "KnockFinder" "OPTION_LOW" "[I") (.int 4)) (.int 0)) (by decide +kernel))
theorem k_high {args : Array Value} {s : State} (hgv : (Jvm.Cond.and given_1 narrow_1).before args s = true) : ∀ j : Nat, j < 5 → (Term.elem (.static "KnockFinder" "OPTION_HIGH" "[I") (.int (Int32.ofNat j))).eval args s none [] s = some (.int (khigh j)) := by
  have hs := flat_of_before _ hgv
  intro j hj
  match j, hj with
  | 0, _ => exact va_eqt (hs (.eq (.elem (.static "KnockFinder" "OPTION_HIGH" "[I") (.int 0)) (.int 490)) (by decide +kernel))
  | 1, _ => exact va_eqt (hs (.eq (.elem (.static "KnockFinder" "OPTION_HIGH" "[I") (.int 1)) (.int 50)) (by decide +kernel))
  | 2, _ => exact va_eqt (hs (.eq (.elem (.static "KnockFinder" "OPTION_HIGH" "[I") (.int 2)) (.int 5)) (by decide +kernel))
  | 3, _ => exact va_eqt (hs (.eq (.elem (.static "KnockFinder" "OPTION_HIGH" "[I") (.int 3)) (.int 50)) (by decide +kernel))
  | 4, _ => exact va_eqt (hs (.eq (.elem (.static "KnockFinder" "OPTION_HIGH" "[I") (.int 4)) (.int 1000)) (by decide +kernel))
theorem k_selp {s : State} {args : Array Value} {C : String} {x y : MethodName} (hs : (Cond.selects C x x).before args s = true) (hxy : x.cls = y.cls) (hy : y.cls ≠ "java/lang/invoke/MethodHandle" ∧ y.cls ≠ "java/lang/invoke/VarHandle") (hpriv : (Cond.privateMethod y).before args s = true) (hinst : (Cond.instanceMethod y).before args s = true) : (Cond.selects C y y).before args s = true := by
  obtain ⟨c, r, m, hc, hr, hm, hsel, mk, hmk, hmi⟩ := Cond.selects_spec hs
  obtain ⟨my, methM, hnamed, hmethM, -, -⟩ := Cond.instanceMethod_spec hinst
  have hfound : s.methodFound? y.cls y.name y.desc = some my := State.methodFound?_of_named hnamed hy
  have hcls : my.cls = m.cls := Option.some.inj ((findClass_of_methodNamed hnamed).symm.trans (by rw [← hxy]; exact findClass_of_methodNamed hm))
  have hsel' : selectMethod {} s.vm c my = .method my := selectMethod_private hmethM (Cond.privateMethod_at hpriv my methM hnamed hmethM)
  simp only [Cond.before, Cond.holds, Cond.value, hc, hfound, hnamed, hsel', hcls, hmk]
  simp; exact hmi
def kPr : List MethodName := [yJ5_ensureCapacityInternal_d00df, yJ5_newCapacity_0f7a4, yJ5_putStringAt_47b60, yJ5_inflateIfNeededFor_a7421]
theorem k_tb {s : State} {args : Array Value} (hts : ∀ w ∈ lw_tbl, w.before args s = true) : ∀ w ∈ kTb, w.before args s = true := by
  intro w hw
  rcases List.mem_append.mp hw with hw | hw
  · exact hts w hw
  · have h0 : kSel = kPr.map (fun y => Cond.selects "java/lang/StringBuilder" y y) := rfl
    rw [h0] at hw
    obtain ⟨y, hy, rfl⟩ := List.mem_map.mp hw
    have hb : kPr.all (fun y => decide (yJ5_isLatin1_aae02.cls = y.cls) && (decide (Cond.privateMethod y ∈ lw_tbl) && (decide (Cond.instanceMethod y ∈ lw_tbl) && (decide (y.cls ≠ "java/lang/invoke/MethodHandle") && decide (y.cls ≠ "java/lang/invoke/VarHandle"))))) = true := by decide +kernel
    have h1 := List.all_eq_true.mp hb y hy
    simp only [Bool.and_eq_true, decide_eq_true_eq] at h1
    exact k_selp (hts (.selects "java/lang/StringBuilder" yJ5_isLatin1_aae02 yJ5_isLatin1_aae02) (by decide +kernel)) h1.1 h1.2.2.2 (hts _ h1.2.1) (hts _ h1.2.2.1)
def kWd : List (String × Nat) := [("KnockFinder$Steps", 42), ("KnockFinder$Verdict", 91), ("KnockFinder$Verdict", 93), ("KnockFinder$Verdict", 95), ("KnockFinder$Verdict", 97), ("KnockFinder$Verdict", 99)]
abbrev kTm (i : Nat) : Term := .string (kWd.getD i ("", 0)).1 (kWd.getD i ("", 0)).2
abbrev kFl : List Cond := flatC (Jvm.Cond.and given_1 narrow_1)
theorem k_dg0 : ((List.range 10).all fun j => decide (kFl[131 + j]? = some (Cond.eq (.elem (.static "java/lang/Integer" "DigitTens" "[B") (.int (Int32.ofNat (0 + j)))) (.int (ktens (0 + j))))) && decide (kFl[28 + j]? = some (Cond.eq (.elem (.static "java/lang/Integer" "DigitOnes" "[B") (.int (Int32.ofNat (0 + j)))) (.int (kones (0 + j)))))) = true := by decide +kernel
theorem k_dg1 : ((List.range 10).all fun j => decide (kFl[141 + j]? = some (Cond.eq (.elem (.static "java/lang/Integer" "DigitTens" "[B") (.int (Int32.ofNat (10 + j)))) (.int (ktens (10 + j))))) && decide (kFl[38 + j]? = some (Cond.eq (.elem (.static "java/lang/Integer" "DigitOnes" "[B") (.int (Int32.ofNat (10 + j)))) (.int (kones (10 + j)))))) = true := by decide +kernel
theorem k_dg2 : ((List.range 10).all fun j => decide (kFl[151 + j]? = some (Cond.eq (.elem (.static "java/lang/Integer" "DigitTens" "[B") (.int (Int32.ofNat (20 + j)))) (.int (ktens (20 + j))))) && decide (kFl[48 + j]? = some (Cond.eq (.elem (.static "java/lang/Integer" "DigitOnes" "[B") (.int (Int32.ofNat (20 + j)))) (.int (kones (20 + j)))))) = true := by decide +kernel
theorem k_dg3 : ((List.range 10).all fun j => decide (kFl[161 + j]? = some (Cond.eq (.elem (.static "java/lang/Integer" "DigitTens" "[B") (.int (Int32.ofNat (30 + j)))) (.int (ktens (30 + j))))) && decide (kFl[58 + j]? = some (Cond.eq (.elem (.static "java/lang/Integer" "DigitOnes" "[B") (.int (Int32.ofNat (30 + j)))) (.int (kones (30 + j)))))) = true := by decide +kernel
theorem k_dg4 : ((List.range 10).all fun j => decide (kFl[171 + j]? = some (Cond.eq (.elem (.static "java/lang/Integer" "DigitTens" "[B") (.int (Int32.ofNat (40 + j)))) (.int (ktens (40 + j))))) && decide (kFl[68 + j]? = some (Cond.eq (.elem (.static "java/lang/Integer" "DigitOnes" "[B") (.int (Int32.ofNat (40 + j)))) (.int (kones (40 + j)))))) = true := by decide +kernel
theorem k_dg5 : ((List.range 10).all fun j => decide (kFl[181 + j]? = some (Cond.eq (.elem (.static "java/lang/Integer" "DigitTens" "[B") (.int (Int32.ofNat (50 + j)))) (.int (ktens (50 + j))))) && decide (kFl[78 + j]? = some (Cond.eq (.elem (.static "java/lang/Integer" "DigitOnes" "[B") (.int (Int32.ofNat (50 + j)))) (.int (kones (50 + j)))))) = true := by decide +kernel
theorem k_dg6 : ((List.range 10).all fun j => decide (kFl[191 + j]? = some (Cond.eq (.elem (.static "java/lang/Integer" "DigitTens" "[B") (.int (Int32.ofNat (60 + j)))) (.int (ktens (60 + j))))) && decide (kFl[88 + j]? = some (Cond.eq (.elem (.static "java/lang/Integer" "DigitOnes" "[B") (.int (Int32.ofNat (60 + j)))) (.int (kones (60 + j)))))) = true := by decide +kernel
theorem k_dg7 : ((List.range 10).all fun j => decide (kFl[201 + j]? = some (Cond.eq (.elem (.static "java/lang/Integer" "DigitTens" "[B") (.int (Int32.ofNat (70 + j)))) (.int (ktens (70 + j))))) && decide (kFl[98 + j]? = some (Cond.eq (.elem (.static "java/lang/Integer" "DigitOnes" "[B") (.int (Int32.ofNat (70 + j)))) (.int (kones (70 + j)))))) = true := by decide +kernel
theorem k_dg8 : ((List.range 10).all fun j => decide (kFl[211 + j]? = some (Cond.eq (.elem (.static "java/lang/Integer" "DigitTens" "[B") (.int (Int32.ofNat (80 + j)))) (.int (ktens (80 + j))))) && decide (kFl[108 + j]? = some (Cond.eq (.elem (.static "java/lang/Integer" "DigitOnes" "[B") (.int (Int32.ofNat (80 + j)))) (.int (kones (80 + j)))))) = true := by decide +kernel
theorem k_dg9 : ((List.range 10).all fun j => decide (kFl[221 + j]? = some (Cond.eq (.elem (.static "java/lang/Integer" "DigitTens" "[B") (.int (Int32.ofNat (90 + j)))) (.int (ktens (90 + j))))) && decide (kFl[118 + j]? = some (Cond.eq (.elem (.static "java/lang/Integer" "DigitOnes" "[B") (.int (Int32.ofNat (90 + j)))) (.int (kones (90 + j)))))) = true := by decide +kernel
theorem k_dig (j : Nat) (hj : j < 100) : Cond.eq (.elem (.static "java/lang/Integer" "DigitTens" "[B") (.int (Int32.ofNat j))) (.int (ktens j)) ∈ kFl ∧ Cond.eq (.elem (.static "java/lang/Integer" "DigitOnes" "[B") (.int (Int32.ofNat j))) (.int (kones j)) ∈ kFl := by
  obtain ⟨c, z, hc, hz, rfl⟩ : ∃ c z, c < 10 ∧ z < 10 ∧ j = 10 * c + z := ⟨j / 10, j % 10, by omega, by omega, by omega⟩
  have hz2 : z ∈ List.range 10 := List.mem_range.mpr hz
  match c, hc with
  | 0, _ =>
    have h := List.all_eq_true.mp k_dg0 z hz2
    simp only [Bool.and_eq_true, decide_eq_true_eq] at h
    exact ⟨List.mem_of_getElem? h.1, List.mem_of_getElem? h.2⟩
  | 1, _ =>
    have h := List.all_eq_true.mp k_dg1 z hz2
    simp only [Bool.and_eq_true, decide_eq_true_eq] at h
    exact ⟨List.mem_of_getElem? h.1, List.mem_of_getElem? h.2⟩
  | 2, _ =>
    have h := List.all_eq_true.mp k_dg2 z hz2
    simp only [Bool.and_eq_true, decide_eq_true_eq] at h
    exact ⟨List.mem_of_getElem? h.1, List.mem_of_getElem? h.2⟩
  | 3, _ =>
    have h := List.all_eq_true.mp k_dg3 z hz2
    simp only [Bool.and_eq_true, decide_eq_true_eq] at h
    exact ⟨List.mem_of_getElem? h.1, List.mem_of_getElem? h.2⟩
  | 4, _ =>
    have h := List.all_eq_true.mp k_dg4 z hz2
    simp only [Bool.and_eq_true, decide_eq_true_eq] at h
    exact ⟨List.mem_of_getElem? h.1, List.mem_of_getElem? h.2⟩
  | 5, _ =>
    have h := List.all_eq_true.mp k_dg5 z hz2
    simp only [Bool.and_eq_true, decide_eq_true_eq] at h
    exact ⟨List.mem_of_getElem? h.1, List.mem_of_getElem? h.2⟩
  | 6, _ =>
    have h := List.all_eq_true.mp k_dg6 z hz2
    simp only [Bool.and_eq_true, decide_eq_true_eq] at h
    exact ⟨List.mem_of_getElem? h.1, List.mem_of_getElem? h.2⟩
  | 7, _ =>
    have h := List.all_eq_true.mp k_dg7 z hz2
    simp only [Bool.and_eq_true, decide_eq_true_eq] at h
    exact ⟨List.mem_of_getElem? h.1, List.mem_of_getElem? h.2⟩
  | 8, _ =>
    have h := List.all_eq_true.mp k_dg8 z hz2
    simp only [Bool.and_eq_true, decide_eq_true_eq] at h
    exact ⟨List.mem_of_getElem? h.1, List.mem_of_getElem? h.2⟩
  | 9, _ =>
    have h := List.all_eq_true.mp k_dg9 z hz2
    simp only [Bool.and_eq_true, decide_eq_true_eq] at h
    exact ⟨List.mem_of_getElem? h.1, List.mem_of_getElem? h.2⟩
theorem k_txt : ((List.range 6).all fun i => decide (Cond.exactly (kTm i) "java/lang/String" ∈ kFl) && (decide (Cond.eq (.field (kTm i) "java/lang/String" "coder" "B") (.int 0) ∈ kFl) && (decide (Cond.arrayOf (.field (kTm i) "java/lang/String" "value" "[B") .byte ∈ kFl) && (decide (Cond.eq (.length (.field (kTm i) "java/lang/String" "value" "[B")) (.int (Int32.ofNat (ktl.getD i 0))) ∈ kFl) && ((List.range (ktl.getD i 0)).all fun j => decide (Cond.eq (.elem (.field (kTm i) "java/lang/String" "value" "[B") (.int (Int32.ofNat j))) (.int ((ktxt.getD i []).getD j 0)) ∈ kFl)))))) = true := by decide +kernel
theorem k_txn : ((List.range 6).all fun i => (List.range 6).all fun j => decide (i = j) || (decide (Cond.not (.eq (kTm i) (kTm j)) ∈ kFl) || decide (Cond.not (.eq (kTm j) (kTm i)) ∈ kFl))) = true := by decide +kernel
theorem k_srw : (kSr.all fun q => decide (q.2.2.2 = 3 ∨ 4 ≤ q.2.2.2) && (decide (q.2.2.2 < 9) && (decide (kWd[q.2.2.2 - 3]? = some (q.1, q.2.1)) && decide (Cond.stringRef q.1 q.2.1 q.2.2.1 ∈ lw_tbl)))) = true := by decide +kernel
def kIL : kMI := ((⟨"KnockFinderLaw", "law", "([I)Z"⟩ : MethodName), code, 4, (some .boolean), "KnockFinderLaw", 14, 540)
theorem whole_start_open {d : Nat} (hall : ∀ (y : Nat) (M : kT × Nat) (I : kMI), kms[y]? = some M → kmi[y]? = some I → kMOk M I) (hlen : kms.length = kmi.length) (hokL : ∀ q ∈ kt_L_law, kOkI kIL q)
    (hrun : ∀ (L : Nat) (xs : Nat → Int32), L ≤ 3072 → ∃ hF : kH, rn (d + 1) mL_law [.ref 0] (kh0 L xs) = some (some (.int 1), hF) ∧ hF.2.1 ≤ 32 + 600000 ∧ hF.2.2 ≤ 7302250)
    {p : Program} {e : Env} {s : State} {m : MethodId} {below : List Frame} {meth : Method} {c : Code} (l : Launch) {b L : Nat} {xs : Nat → Int32} (hL : L ≤ 3072) (C0 : lw_At p s m meth c b L xs) : W p l e room_1 s m #[Value.ref b] below meth c s.heap [] 0 0 (lw_Z below #[Value.ref b] s) (entryFrame m ([Value.ref b] : List Value).toArray 4) := by
  obtain ⟨hx, hb, hr, hml, hown, hts, hX, hbl, hlocks, hgv⟩ := id C0
  have htw : ∀ w ∈ kWs, w.before #[Value.ref b] s = true := fun w h => k_tb hts w (kWs_in h)
  obtain ⟨D, hK⟩ := k_known htw k_inst
  have hs := flat_of_before _ hgv
  have hA : ∀ a : Nat, a < s.heap.size → ¬ kA s.heap.size a := fun a ha => Nat.not_le.mpr ha
  obtain ⟨t1, ht1, cl1, q11, q12, q13, q14, q15, q16, q17⟩ := va_Tof (tm := .static "KnockFinder" "OPTION_LOW" "[I") (ty := .int) (N := 5) (f := fun j => .int (klow j)) (A := kA s.heap.size) (by decide) (hs _ (by decide +kernel)) (va_eqt (hs (.eq (.length (.static "KnockFinder" "OPTION_LOW" "[I")) (.int 5)) (by decide +kernel))) (k_low hgv) hA
  obtain ⟨t2, ht2, cl2, q21, q22, q23, q24, q25, q26, q27⟩ := va_Tof (tm := .static "KnockFinder" "OPTION_HIGH" "[I") (ty := .int) (N := 5) (f := fun j => .int (khigh j)) (A := kA s.heap.size) (by decide) (hs _ (by decide +kernel)) (va_eqt (hs (.eq (.length (.static "KnockFinder" "OPTION_HIGH" "[I")) (.int 5)) (by decide +kernel))) (k_high hgv) hA
  have hdig := k_dig
  obtain ⟨t3, ht3, cl3, q31, q32, q33, q34, q35, q36, q37⟩ := va_Tof (tm := .static "java/lang/Integer" "DigitTens" "[B") (ty := .byte) (N := 100) (f := fun j => .int (ktens j)) (A := kA s.heap.size) (by decide) (hs _ (by decide +kernel)) (va_eqt (hs (.eq (.length (.static "java/lang/Integer" "DigitTens" "[B")) (.int 100)) (by decide +kernel))) (fun j hj => va_eqt (hs _ (hdig j hj).1)) hA
  obtain ⟨t4, ht4, cl4, q41, q42, q43, q44, q45, q46, q47⟩ := va_Tof (tm := .static "java/lang/Integer" "DigitOnes" "[B") (ty := .byte) (N := 100) (f := fun j => .int (kones j)) (A := kA s.heap.size) (by decide) (hs _ (by decide +kernel)) (va_eqt (hs (.eq (.length (.static "java/lang/Integer" "DigitOnes" "[B")) (.int 100)) (by decide +kernel))) (fun j hj => va_eqt (hs _ (hdig j hj).2)) hA
  have hZ1 := va_Zof (hts (.laysStatic "KnockFinder" "OPTION_LOW" "[I") (by decide +kernel)) (hts (.initialized "KnockFinder") (by decide +kernel)) ht1 hA
  have hZ2 := va_Zof (hts (.laysStatic "KnockFinder" "OPTION_HIGH" "[I") (by decide +kernel)) (hts (.initialized "KnockFinder") (by decide +kernel)) ht2 hA
  have hZ3 := va_Zof (hts (.laysStatic "java/lang/String" "COMPACT_STRINGS" "Z") (by decide +kernel)) (hts (.initialized "java/lang/String") (by decide +kernel)) (va_eqt (hs (.eq (.static "java/lang/String" "COMPACT_STRINGS" "Z") (.int 1)) (by decide +kernel))) hA
  have hZ4 := va_Zof (hts (.laysStatic "java/lang/Integer" "DigitTens" "[B") (by decide +kernel)) (hts (.initialized "java/lang/Integer") (by decide +kernel)) ht3 hA
  have hZ5 := va_Zof (hts (.laysStatic "java/lang/Integer" "DigitOnes" "[B") (by decide +kernel)) (hts (.initialized "java/lang/Integer") (by decide +kernel)) ht4 hA
  have hZ6 := va_Zqof (hts (.laysStatic "jdk/internal/util/Preconditions" "SIOOBE_FORMATTER" "Ljava/util/function/BiFunction;") (by decide +kernel)) (hts (.initialized "jdk/internal/util/Preconditions") (by decide +kernel)) (hs (.isRef (.static "jdk/internal/util/Preconditions" "SIOOBE_FORMATTER" "Ljava/util/function/BiFunction;")) (by decide +kernel)) hA
  have htx : ∀ i : Nat, i < 6 → Cond.exactly (kTm i) "java/lang/String" ∈ kFl ∧ Cond.eq (.field (kTm i) "java/lang/String" "coder" "B") (.int 0) ∈ kFl ∧ Cond.arrayOf (.field (kTm i) "java/lang/String" "value" "[B") .byte ∈ kFl ∧ Cond.eq (.length (.field (kTm i) "java/lang/String" "value" "[B")) (.int (Int32.ofNat (ktl.getD i 0))) ∈ kFl ∧ ∀ j : Nat, j < ktl.getD i 0 → Cond.eq (.elem (.field (kTm i) "java/lang/String" "value" "[B") (.int (Int32.ofNat j))) (.int ((ktxt.getD i []).getD j 0)) ∈ kFl := fun i hi => by
    have := List.all_eq_true.mp k_txt i (List.mem_range.mpr hi)
    simp only [Bool.and_eq_true, decide_eq_true_eq, List.all_eq_true, List.mem_range] at this
    exact this
  have hlt6 : ∀ i : Nat, i < 6 → ktl.getD i 0 < 2 ^ 31 := by decide
  obtain ⟨adK, adV, hSS, hev⟩ := vk_Sof (N := 6) (tm := kTm) (len := ktl) (byt := ktxt) (A := kA s.heap.size) hlt6 (fun i hi => hs _ (htx i hi).1) (fun i hi => hs _ (htx i hi).2.1) (fun i hi => hs _ (htx i hi).2.2.1) (fun i hi => hs _ (htx i hi).2.2.2.1) (fun i hi j hj => hs _ ((htx i hi).2.2.2.2 j hj)) (fun i j hi hj hij => by
      have := List.all_eq_true.mp (List.all_eq_true.mp k_txn i (List.mem_range.mpr hi)) j (List.mem_range.mpr hj)
      simp only [Bool.or_eq_true, decide_eq_true_eq] at this
      rcases this with z | z | z
      · exact absurd z hij
      · exact Or.inl (hs _ z)
      · exact Or.inr (hs _ z)) hA
  have l1 : t1 < s.heap.size := (Array.getElem?_eq_some_iff.mp q11).1
  have l2 : t2 < s.heap.size := (Array.getElem?_eq_some_iff.mp q21).1
  have l3 : t3 < s.heap.size := (Array.getElem?_eq_some_iff.mp q31).1
  have l4 : t4 < s.heap.size := (Array.getElem?_eq_some_iff.mp q41).1
  have lK : ∀ i, i < 6 → adK i < s.heap.size ∧ adV i < s.heap.size := fun i hi => by
    obtain ⟨⟨c1, z1, _⟩, -, -, c2, z2, _⟩ := hSS.1 i hi
    exact ⟨(Array.getElem?_eq_some_iff.mp z1).1, (Array.getElem?_eq_some_iff.mp z2).1⟩
  obtain ⟨tq, tz, hZ6⟩ : ∃ tq tz : Nat, va_Z "jdk/internal/util/Preconditions" "SIOOBE_FORMATTER" "Ljava/util/function/BiFunction;" (if tz = 0 then Value.null else .ref tq) (kA s.heap.size) s s.heap := by
    rcases hZ6 with z | ⟨t, z⟩
    · exact ⟨0, 0, z⟩
    · exact ⟨t, 1, z⟩
  obtain ⟨ad, ead⟩ : ∃ ad : Nat → Nat, ad = fun k => if 32 ≤ k then s.heap.size + (k - 32) else if k = 1 then t1 else if k = 2 then t2 else if k = 15 then t3 else if k = 16 then t4 else if k = 30 then tq else if k = 31 then tz else if 3 ≤ k ∧ k < 9 then adK (k - 3) else if 9 ≤ k ∧ k < 15 then adV (k - 9) else b := ⟨_, rfl⟩
  have a0 : ad 0 = b := by subst ead; rfl
  have a1 : ad 1 = t1 := by subst ead; rfl
  have a2 : ad 2 = t2 := by subst ead; rfl
  have a15 : ad 15 = t3 := by subst ead; rfl
  have a16 : ad 16 = t4 := by subst ead; rfl
  have a30 : ad 30 = tq := by subst ead; rfl
  have a31 : ad 31 = tz := by subst ead; rfl
  have aK : ∀ i, i < 6 → ad (i + 3) = adK i := fun i hi => by
    have : i = 0 ∨ i = 1 ∨ i = 2 ∨ i = 3 ∨ i = 4 ∨ i = 5 := by omega
    subst ead
    rcases this with rfl | rfl | rfl | rfl | rfl | rfl <;> rfl
  have aV : ∀ i, i < 6 → ad (i + 9) = adV i := fun i hi => by
    have : i = 0 ∨ i = 1 ∨ i = 2 ∨ i = 3 ∨ i = 4 ∨ i = 5 := by omega
    subst ead
    rcases this with rfl | rfl | rfl | rfl | rfl | rfl <;> rfl
  have had : kAd ad s.heap.size := by
    refine ⟨fun k hk => by subst ead; exact if_pos hk, fun k hk => ?_⟩
    by_cases k1 : k = 1
    · rw [k1, a1]; exact l1
    by_cases k2 : k = 2
    · rw [k2, a2]; exact l2
    by_cases k15 : k = 15
    · rw [k15, a15]; exact l3
    by_cases k16 : k = 16
    · rw [k16, a16]; exact l4
    by_cases k3 : 3 ≤ k ∧ k < 9
    · obtain ⟨i, rfl⟩ : ∃ i, k = i + 3 := ⟨k - 3, by omega⟩
      rw [aK i (by omega)]
      exact (lK i (by omega)).1
    by_cases k9 : 9 ≤ k ∧ k < 15
    · obtain ⟨i, rfl⟩ : ∃ i, k = i + 9 := ⟨k - 9, by omega⟩
      rw [aV i (by omega)]
      exact (lK i (by omega)).2
    · have : ad k = b := by
        subst ead
        show (if 32 ≤ k then _ else _) = _
        rw [if_neg (by omega), if_neg k1, if_neg k2, if_neg k15, if_neg k16, if_neg (by omega), if_neg (by omega), if_neg k3, if_neg k9]
      rw [this]
      exact hbl
  have hrel : kRel D ad s.heap.size (kh0 L xs) s s.heap := by
    refine ⟨?_, Nat.le_refl 32, fun k e hk => ?_, fun q hq => ?_⟩
    · show s.heap.size = ad 32
      rw [had.1 32 (Nat.le_refl 32)]
      omega
    · have hk : khc L xs k = some e := hk
      unfold khc at hk
      by_cases k0 : k = 0
      · subst k0
        rw [if_pos rfl] at hk
        cases hk
        obtain ⟨scr, h1, h2, h3, h4, h5⟩ := hX
        exact Or.inl ⟨by omega, Or.inl rfl, L, xs, rfl, scr, by rw [a0]; exact h1, h2, h3, ⟨by omega, by rw [h4]⟩, h5⟩
      rw [if_neg k0] at hk
      by_cases k1 : k = 1
      · subst k1
        rw [if_pos rfl] at hk
        cases hk
        exact Or.inl ⟨by omega, Or.inl rfl, 5, klow, rfl, cl1, by rw [a1]; exact q11, q12, q13, ⟨q14, q15⟩, q16⟩
      rw [if_neg k1] at hk
      by_cases k2 : k = 2
      · subst k2
        rw [if_pos rfl] at hk
        cases hk
        exact Or.inl ⟨by omega, Or.inl rfl, 5, khigh, rfl, cl2, by rw [a2]; exact q21, q22, q23, ⟨q24, q25⟩, q26⟩
      rw [if_neg k2] at hk
      by_cases k9 : k < 9
      · rw [if_pos k9] at hk
        cases hk
        obtain ⟨i, rfl⟩ : ∃ i, k = i + 3 := ⟨k - 3, by omega⟩
        obtain ⟨⟨c1, z1, z2, z3, z4⟩, ⟨f1, f2, f3, f4, f5, f6⟩, ⟨g1, g2, g3, g4, g5, g6⟩, -⟩ := hSS.1 i (by omega)
        refine Or.inr ⟨by omega, rfl, i + 9, rfl, ?_, ?_, ?_⟩
        · rw [aK i (by omega)]
          exact ⟨c1, z1, z2, z3, fun z => z rfl⟩
        · rw [aK i (by omega), aV i (by omega)]
          exact ⟨g1, g2, g3, g4, g5, g6.1, g6.2.1, g6.2.2.1, g6.2.2.2.1, g6.2.2.2.2.1, fun z => z rfl⟩
        · rw [aK i (by omega)]
          exact ⟨f1, f2, f3, f4, f5, f6.1, f6.2.1, f6.2.2.1, f6.2.2.2.1, f6.2.2.2.2.1, fun z => z rfl⟩
      rw [if_neg k9] at hk
      by_cases k14 : k < 15
      · rw [if_pos k14] at hk
        cases hk
        obtain ⟨i, rfl⟩ : ∃ i, k = i + 9 := ⟨k - 9, by omega⟩
        obtain ⟨-, -, -, c2, z1, z2, z3, z4, z5, z6, z7⟩ := hSS.1 i (by omega)
        have e9 : i + 9 - 9 = i := by omega
        exact Or.inl ⟨by omega, Or.inr rfl, _, _, rfl, c2, by rw [aV i (by omega)]; exact z1, z2, z3, by rw [e9]; exact ⟨z4, z5⟩, by rw [e9]; exact z6⟩
      rw [if_neg k14] at hk
      by_cases k15 : k = 15
      · subst k15
        rw [if_pos rfl] at hk
        cases hk
        exact Or.inl ⟨by omega, Or.inr rfl, 100, ktens, rfl, cl3, by rw [a15]; exact q31, q32, q33, ⟨q34, q35⟩, q36⟩
      rw [if_neg k15] at hk
      by_cases k16 : k = 16
      · subst k16
        rw [if_pos rfl] at hk
        cases hk
        exact Or.inl ⟨by omega, Or.inr rfl, 100, kones, rfl, cl4, by rw [a16]; exact q41, q42, q43, ⟨q44, q45⟩, q46⟩
      · rw [if_neg k16] at hk
        cases hk
    · simp only [kZl, List.mem_cons, List.not_mem_nil, or_false] at hq
      rcases hq with rfl | rfl | rfl | rfl | rfl | rfl
      · show va_Z _ _ _ (.ref (ad 1)) _ _ _
        rw [a1]; exact hZ1
      · show va_Z _ _ _ (.ref (ad 2)) _ _ _
        rw [a2]; exact hZ2
      · exact hZ3
      · show va_Z _ _ _ (.ref (ad 15)) _ _ _
        rw [a15]; exact hZ4
      · show va_Z _ _ _ (.ref (ad 16)) _ _ _
        rw [a16]; exact hZ5
      · show va_Z _ _ _ (if ad 31 = 0 then Value.null else .ref (ad 30)) _ _ _
        rw [a30, a31]; exact hZ6
  have hNw : kNw ad s := by
    refine ⟨fun w hw => ?_, hts (.arrayOver (.object "KnockFinder$State")) (by decide +kernel), fun q hq => ?_⟩
    · have h1 := List.all_eq_true.mp k_nsin w hw
      simp only [Bool.and_eq_true, decide_eq_true_eq] at h1
      exact va_Nw.of h1.2 (hts w h1.1)
    · have h1 := List.all_eq_true.mp k_srw q hq
      simp only [Bool.and_eq_true, decide_eq_true_eq] at h1
      obtain ⟨g1, g2, g3, g4⟩ := h1
      obtain ⟨i, hi⟩ : ∃ i, q.2.2.2 = i + 3 := ⟨q.2.2.2 - 3, by omega⟩
      rw [hi] at g3
      have e3 : i + 3 - 3 = i := by omega
      rw [e3] at g3
      have hev := hev i (by omega)
      have e4 : kWd.getD i ("", 0) = (q.1, q.2.1) := by rw [List.getD_eq_getElem?_getD, g3]; rfl
      have hev : (Term.string (kWd.getD i ("", 0)).1 (kWd.getD i ("", 0)).2).eval #[Value.ref b] s none [] s = some (.ref (adK i)) := hev
      rw [e4] at hev
      rw [hi, aK i (by omega)]
      exact vk_R.of (hts _ g4) hev
  have hC : kCx p s m #[Value.ref b] meth c D ad s.heap.size kIL := ⟨hx, hb, hml, hown, htw, fun z => absurd z (by decide), hK, had, hNw, Nat.le_refl _, hrel.2.2.2⟩
  obtain ⟨hF, hrun, hr1, hr2⟩ := hrun L xs hL
  rw [rn] at hrun
  have hM : kms[mL_law]? = some (kt_L_law, 4) := rfl
  rw [hM] at hrun
  dsimp only at hrun
  rw [if_pos (by decide)] at hrun
  obtain ⟨n, hn⟩ := klim_to _ hrun
  have hlv := lv_entry ([Value.ref b]) (n := 4) (Nat.le_of_ble_eq_true rfl)
  rw [lg_entry_eq]
  generalize (lg_sl ([Value.ref b]) ++ List.replicate (4 - (lg_sl ([Value.ref b])).length) Slot.unset).toArray = ls at hlv ⊢
  have hin : kIn s D ad s.heap.size kIL 32 0 (kent 4 [.ref 0]) (kh0 L xs) s.heap [] 0 0 ls := ⟨⟨hlv.1, hlv.2.1, fun q hq => hlv.2.2 q (by
      have := kent_args ad [.ref 0] 4 0 q hq
      rw [show ([Value.ref 0] : List Value).map (kv ad) = [Value.ref b] by rw [← a0]; rfl] at this
      exact this)⟩, rfl, hrel, va_S.rf, rfl, rfl⟩
  refine k_walk (Q := lw_Z below #[Value.ref b] s) (R := room_1) kCl_ok hC ⟨Nat.le_refl 14, Nat.le_refl 540⟩ hokL (k_sound l kCl_ok had hall hlen d) (rF := some (.int 1)) (hF := hF) ⟨hr1, by show hF.2.2 ≤ 0 + 7302250; omega⟩ ?_ n 0 _ [] (kh0 L xs) hn s.heap [] 0 0 ls hin
  intro pc L2 S H locs cells slots ls2 he hin2
  obtain ⟨-, -, -, hS2, hcs2, hss2⟩ := hin2
  rcases he with ⟨v, rfl, hv, hd, -⟩ | ⟨v, rfl, hv, hd, -⟩ | ⟨v, rfl, hv, hd, -⟩ | ⟨rfl, hv, hd, -⟩
  · cases hv
    refine va_forget hS2.2.2 (W.widen (k := 600000) (n := 7302250) (by omega) (by omega) ?_)
    exact lw_ret hx hb hr hlocks hd
  · cases hv
  · cases hv
  · cases hv
