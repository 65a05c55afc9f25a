theorem r_in {d : Nat} {h : kH} (v a b : Int64) : rn (d + 1) mX12_in [.long v, .long a, .long b] h = some (some (.int (if a ≤ v ∧ v ≤ b then 1 else 0)), h) := by
  simp only [X12_in_E, X12_in_0, X12_in_1, X12_in_2, X12_in_3, X12_in_6, X12_in_7, X12_in_9, X12_in_10, X12_in_13, X12_in_14, X12_in_17, X12_in_18_0, X12_in_18_1, lg_cmp_lt, lg_cmp_gt]
  by_cases h1 : v < a
  · rw [if_pos h1, if_neg (fun z => absurd h1 (Int64.not_lt.mpr z.1))]
  · rw [if_neg h1]
    by_cases h2 : b < v
    · rw [if_pos h2, if_neg (fun z => absurd h2 (Int64.not_lt.mpr z.2))]
    · rw [if_neg h2, if_pos ⟨Int64.not_lt.mp h1, Int64.not_lt.mp h2⟩]
theorem r_size {d : Nat} {h : kH} (v : Int64) : rn (d + 1) mX12_size [.long v] h = some (some (.long (if v < 0 then -v else v)), h) := by
  simp only [X12_size_E, X12_size_0, X12_size_1, X12_size_2, X12_size_3, X12_size_6, X12_size_7, X12_size_8, X12_size_11, X12_size_12, lg_cmp_ge]
  by_cases h1 : v < 0
  · rw [if_neg (fun z => absurd h1 (Int64.not_lt.mpr z)), if_pos h1]
  · rw [if_pos (Int64.not_lt.mp h1), if_neg h1]
theorem r_here {d : Nat} {h : kH} {ρ : Nat → Value} {tp : Nat → Int32} {pl ln : Int32} (h0 : h.1 217 = some (kob 13 54 ρ)) (h1 : ρ 4 = .ref 221) (h2 : ρ 6 = .int pl) (h3 : ρ 7 = .int ln) (h4 : h.1 221 = some (.inl (.byte, 240, .inl tp))) (h5 : pl < ln → kin pl 240) : rn (d + 1) mX12_here [.ref 217] h = some (some (.int (if pl < ln then tp pl.toNatClampNeg &&& 255 else -1)), h) := by
  have g0 := kob_fld (k := 6) h0 (by decide)
  have g1 := kob_fld (k := 7) h0 (by decide)
  have g2 := kob_fld (k := 4) h0 (by decide)
  simp only [X12_here_E, X12_here_0, X12_here_1, X12_here_4, X12_here_5, X12_here_8, X12_here_11, X12_here_12, X12_here_15, X12_here_16, X12_here_19, X12_here_20, X12_here_23, X12_here_24, X12_here_27, X12_here_28, g0, g1, g2, h1, h2, h3, Option.bind_some]
  by_cases hc : pl < ln
  · rw [if_neg (fun z => absurd hc (Int32.not_lt.mpr z)), if_pos hc, kbl_of h4 (h5 hc)]
    simp only [X12_here_0, X12_here_1, X12_here_4, X12_here_5, X12_here_8, X12_here_11, X12_here_12, X12_here_15, X12_here_16, X12_here_19, X12_here_20, X12_here_23, X12_here_24, X12_here_27, X12_here_28, Option.bind_some]
  · rw [if_pos (Int32.not_lt.mp hc), if_neg hc]
