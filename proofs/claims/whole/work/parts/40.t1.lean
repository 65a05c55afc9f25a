/-! OWN: the reference's small methods -/
theorem r_in {d : Nat} {h : kH} (v a b : Int64) : rn (d + 1) mX12_in [.long v, .long a, .long b] h = some (some (.int (if a ≤ v ∧ v ≤ b then 1 else 0)), h) := by
  simp only [X12_in_E, X12_in_0, X12_in_1, X12_in_2, X12_in_3, X12_in_6, X12_in_7, X12_in_9, X12_in_10, X12_in_13, X12_in_14, X12_in_17, X12_in_18_0, X12_in_18_1, lg_cmp_lt, lg_cmp_gt]
  by_cases h1 : v < a
  · rw [if_pos h1, if_neg (fun z => absurd h1 (Int64.not_lt.mpr z.1))]
  · rw [if_neg h1]
    by_cases h2 : b < v
    · rw [if_pos h2, if_neg (fun z => absurd h2 (Int64.not_lt.mpr z.2))]
    · rw [if_neg h2, if_pos ⟨Int64.not_lt.mp h1, Int64.not_lt.mp h2⟩]
theorem r_size {d : Nat} {h : kH} (v : Int64) : rn (d + 1) mX12_size [.long v] h = some (some (.long (if v < 0 then -v else v)), h) := by
  simp only [X12_size_E, X12_size_0, X12_size_1, X12_size_2, X12_size_3, X12_size_6, X12_size_7, X12_size_8, X12_size_11, X12_size_12, lg_cmp_ge]
  by_cases h1 : v < 0
  · rw [if_neg (fun z => absurd h1 (Int64.not_lt.mpr z)), if_pos h1]
  · rw [if_pos (Int64.not_lt.mp h1), if_neg h1]
theorem r_min {d : Nat} {h : kH} (a b : Int32) : rn (d + 1) mX12_min [.int a, .int b] h = some (some (.int (if a < b then a else b)), h) := by
  simp only [X12_min_E, X12_min_0, X12_min_1, X12_min_2, X12_min_5, X12_min_6, X12_min_9, X12_min_10]
  by_cases h1 : a < b
  · rw [if_neg (fun z => absurd h1 (Int32.not_lt.mpr z)), if_pos h1]
  · rw [if_pos (Int32.not_lt.mp h1), if_neg h1]
theorem r_max {d : Nat} {h : kH} (a b : Int32) : rn (d + 1) mX12_max [.int a, .int b] h = some (some (.int (if b < a then a else b)), h) := by
  simp only [X12_max_E, X12_max_0, X12_max_1, X12_max_2, X12_max_5, X12_max_6, X12_max_9, X12_max_10]
  by_cases h1 : b < a
  · rw [if_neg (fun z => absurd h1 (Int32.not_lt.mpr z)), if_pos h1]
  · rw [if_pos (Int32.not_lt.mp h1), if_neg h1]
theorem r_isKind {d : Nat} {h : kH} (a : Int32) : rn (d + 2) mX12_isKind [.int a] h = some (some (.int (if 0 ≤ a.toInt ∧ a.toInt ≤ 4 then 1 else 0)), h) := by
  simp only [X12_isKind_E, X12_isKind_0, X12_isKind_1, X12_isKind_2, X12_isKind_3, X12_isKind_6, X12_isKind_9_0, X12_isKind_9_1, r_in, Option.bind_some, Option.toList_some, List.cons_append, List.nil_append]
  have e1 : ((0 : Int64) ≤ a.toInt64 ∧ a.toInt64 ≤ 4) ↔ (0 ≤ a.toInt ∧ a.toInt ≤ 4) := by
    rw [Int64.le_iff_toInt_le, Int64.le_iff_toInt_le, Int32.toInt_toInt64]
    exact Iff.rfl
  by_cases h1 : 0 ≤ a.toInt ∧ a.toInt ≤ 4
  · rw [if_pos h1, if_pos (e1.mpr h1), X12_isKind_9_1]
  · rw [if_neg h1, if_neg (fun z => h1 (e1.mp z)), X12_isKind_9_0]
section RM
variable {d : Nat} {h : kH} {i : Nat → Nat → Int32} {l : Nat → Nat → Int64} {I : Nat → Nat → Int32} {J : Nat → Nat → Int64} {nw df : Nat} {P : Nat → Nat}
theorem r_here (h5 : i 217 6 < i 217 7 → kin (i 217 6) 240) : rn (d + 1) mX12_here [.ref 217] (mH h i l I J nw df P) = some (some (.int (if i 217 6 < i 217 7 then I 221 (i 217 6).toNatClampNeg &&& 255 else -1)), mH h i l I J nw df P) := by
  simp only [X12_here_E, X12_here_0, X12_here_1, X12_here_4, X12_here_5, X12_here_8, X12_here_11, X12_here_12, X12_here_15, X12_here_16, X12_here_19, X12_here_20, X12_here_23, X12_here_24, X12_here_27, X12_here_28, g13_4, g13_6, g13_7, Option.bind_some, ld_221]
  by_cases hc : i 217 6 < i 217 7
  · rw [if_neg (fun z => absurd hc (Int32.not_lt.mpr z)), if_pos hc, if_pos (h5 hc)]
    simp only [X12_here_0, X12_here_1, X12_here_4, X12_here_5, X12_here_8, X12_here_11, X12_here_12, X12_here_15, X12_here_16, X12_here_19, X12_here_20, X12_here_23, X12_here_24, X12_here_27, X12_here_28, Option.bind_some]
  · rw [if_pos (Int32.not_lt.mp hc), if_neg hc]
theorem r_wrongAt (a b : Int32) : rn (d + 1) mX12_wrongAt [.ref 217, .int a, .int b] (mH h i l I J nw df P) = some (some (.int 0), mH h (ku2 i 217 8 (-1000 * a - b)) l I J nw df P) := by
  simp only [X12_wrongAt_E, X12_wrongAt_0, X12_wrongAt_1, X12_wrongAt_4, X12_wrongAt_5, X12_wrongAt_6, X12_wrongAt_7, X12_wrongAt_8, X12_wrongAt_11, X12_wrongAt_12_0, X12_wrongAt_12_1, p13_8, Option.bind_some]
end RM
