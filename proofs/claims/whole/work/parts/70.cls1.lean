/-! OWN: the class: its tape -/
theorem j_max {d : Nat} {h : kH} (a b : Int32) : rn (d + 1) mJ9_max_7cf53 [.int a, .int b] h = some (some (.int (if a < b then b else a)), h) := by
  simp only [J9_max_7cf53_E, J9_max_7cf53_0, J9_max_7cf53_1, J9_max_7cf53_2, J9_max_7cf53_5, J9_max_7cf53_6, J9_max_7cf53_9, J9_max_7cf53_10]
  by_cases h1 : a < b
  · rw [if_pos h1, if_pos h1]
  · rw [if_neg h1, if_neg h1]
theorem j_min {d : Nat} {h : kH} (a b : Int32) : rn (d + 1) mJ9_min_7cf53 [.int a, .int b] h = some (some (.int (if b < a then b else a)), h) := by
  simp only [J9_min_7cf53_E, J9_min_7cf53_0, J9_min_7cf53_1, J9_min_7cf53_2, J9_min_7cf53_5, J9_min_7cf53_6, J9_min_7cf53_9, J9_min_7cf53_10]
  by_cases h1 : b < a
  · rw [if_pos h1, if_pos h1]
  · rw [if_neg h1, if_neg h1]
theorem t_isDigit {d : Nat} {h : kH} (c : Int32) : rn (d + 1) mX9_isDigit [.int c] h = some (some (.int (if 48 ≤ c.toInt ∧ c.toInt ≤ 57 then 1 else 0)), h) := by
  simp only [X9_isDigit_E, X9_isDigit_0, X9_isDigit_1, X9_isDigit_3, X9_isDigit_6, X9_isDigit_7, X9_isDigit_9, X9_isDigit_12, X9_isDigit_13, X9_isDigit_16, X9_isDigit_17_0, X9_isDigit_17_1]
  have e1 : c < 48 ↔ ¬ 48 ≤ c.toInt := by rw [Int32.lt_iff_toInt_lt]; exact (Int.not_le).symm
  have e2 : 57 < c ↔ ¬ c.toInt ≤ 57 := by rw [Int32.lt_iff_toInt_lt]; exact (Int.not_le).symm
  by_cases h1 : 48 ≤ c.toInt
  · rw [if_neg (fun z => e1.mp z h1)]
    by_cases h2 : c.toInt ≤ 57
    · rw [if_neg (fun z => e2.mp z h2), if_pos ⟨h1, h2⟩]
    · rw [if_pos (e2.mpr h2), if_neg (fun z => h2 z.2)]
  · rw [if_pos (e1.mpr h1), if_neg (fun z => h1 z.1)]
section CT
variable {d : Nat} {h : kH} {i : Nat → Nat → Int32} {l : Nat → Nat → Int64} {I : Nat → Nat → Int32} {J : Nat → Nat → Int64} {nw df : Nat} {P : Nat → Nat}
theorem gt_0 : kfld (mH h i l I J nw df P) 10 33 0 = some (.ref 34) := g10_0 kd_33 (by decide)
theorem gt_1 : kfld (mH h i l I J nw df P) 10 33 1 = some (.int (i 33 1)) := g10_1 kd_33 (by decide)
theorem gt_2 : kfld (mH h i l I J nw df P) 10 33 2 = some (.int (i 33 2)) := g10_2 kd_33 (by decide)
theorem gt_3 : kfld (mH h i l I J nw df P) 10 33 3 = some (.int (i 33 3)) := g10_3 kd_33 (by decide)
theorem gt_4 : kfld (mH h i l I J nw df P) 10 33 4 = some (.int (i 33 4)) := g10_4 kd_33 (by decide)
theorem gt_5 : kfld (mH h i l I J nw df P) 10 33 5 = some (.ref 35) := g10_5 kd_33 (by decide)
theorem gt_6 : kfld (mH h i l I J nw df P) 10 33 6 = some (.ref 36) := g10_6 kd_33 (by decide)
theorem pt_1 {x : Int32} : kput (mH h i l I J nw df P) 10 33 1 (kty 10 1) (.int x) = some (mH h (ku2 i 33 1 x) l I J nw df P) := p10_1 kd_33 (by decide)
theorem pt_2 {x : Int32} : kput (mH h i l I J nw df P) 10 33 2 (kty 10 2) (.int x) = some (mH h (ku2 i 33 2 x) l I J nw df P) := p10_2 kd_33 (by decide)
theorem pt_3 {x : Int32} : kput (mH h i l I J nw df P) 10 33 3 (kty 10 3) (.int x) = some (mH h (ku2 i 33 3 x) l I J nw df P) := p10_3 kd_33 (by decide)
theorem pt_4 {x : Int32} : kput (mH h i l I J nw df P) 10 33 4 (kty 10 4) (.int x) = some (mH h (ku2 i 33 4 x) l I J nw df P) := p10_4 kd_33 (by decide)
def cTx (I : Nat → Nat → Int32) (tx : Nat → Nat) (ln : Nat) : Prop := ln ≤ 240 ∧ ∀ j, j < ln → I 34 j = nI (tx j) ∧ tx j < 256
theorem t_sign {tx : Nat → Nat} {ln p : Nat} (ht : cTx I tx ln) (h2 : i 33 2 = nI ln) (h3 : i 33 3 = nI p) (hp : p < 100000) : rn (d + 1) mX9_sign [.ref 33] (mH h i l I J nw df P) = some (some (.int (hr tx ln p)), mH h i l I J nw df P) := by
  have hl := ht.1
  rw [X9_sign_E]
  simp only [X9_sign_0, X9_sign_1, X9_sign_4, X9_sign_7, X9_sign_8, X9_sign_11, X9_sign_12, X9_sign_15, X9_sign_18, X9_sign_19, X9_sign_22, X9_sign_23, X9_sign_26, X9_sign_27, X9_sign_30, X9_sign_31, gt_0, gt_2, gt_3, h2, h3, Option.bind_some, ld_34]
  rw [if_neg (nI_pos (by omega)), hr]
  by_cases hc : p < ln
  · rw [if_neg (nI_ge hc (by omega)), if_pos (nI_kin (by omega) (by decide)), if_pos hc, nI_clamp (by omega), (ht.2 p hc).1]
    simp only [X9_sign_0, X9_sign_1, X9_sign_4, X9_sign_7, X9_sign_8, X9_sign_11, X9_sign_12, X9_sign_15, X9_sign_18, X9_sign_19, X9_sign_22, X9_sign_23, X9_sign_26, X9_sign_27, X9_sign_30, X9_sign_31, Option.bind_some]
  · rw [if_pos (nI_le (by omega) (by omega)), if_neg hc]
theorem chr_dg {tx : Nat → Nat} {ln p : Nat} (ht : cTx I tx ln) : (48 ≤ (hr tx ln p).toInt ∧ (hr tx ln p).toInt ≤ 57) ↔ isDg tx ln p := by
  unfold hr
  by_cases hc : p < ln
  · have := (ht.2 p hc).2
    rw [if_pos hc, nI_toInt (by omega)]
    simp only [isDg]
    omega
  · rw [if_neg hc]
    simp [isDg, hc]
theorem t_refuse (a b : Int32) : rn (d + 1) mX9_refuse [.ref 33, .int a, .int b] (mH h i l I J nw df P) = some (none, mH h (if i 33 4 = 0 then ku2 i 33 4 (-1000 * a - b) else i) l I J nw df P) := by
  rw [X9_refuse_E]
  simp only [X9_refuse_0, X9_refuse_1, X9_refuse_4, X9_refuse_7, X9_refuse_8, X9_refuse_11, X9_refuse_12, X9_refuse_13, X9_refuse_14, X9_refuse_15, X9_refuse_18, gt_4, pt_4, Option.bind_some]
  by_cases h1 : i 33 4 = 0
  · rw [if_neg (fun z => z h1), if_pos h1]
  · rw [if_pos h1, if_neg h1]
theorem t_hasEnded {ln p : Nat} (h2 : i 33 2 = nI ln) (h3 : i 33 3 = nI p) (hl : ln < 100000) (hp : p < 100000) : rn (d + 1) mX9_hasEnded [.ref 33] (mH h i l I J nw df P) = some (some (.int (if ln ≤ p then 1 else 0)), mH h i l I J nw df P) := by
  rw [X9_hasEnded_E]
  simp only [X9_hasEnded_0, X9_hasEnded_1, X9_hasEnded_4, X9_hasEnded_5, X9_hasEnded_8, X9_hasEnded_11, X9_hasEnded_12, X9_hasEnded_15, X9_hasEnded_16_0, X9_hasEnded_16_1, gt_2, gt_3, h2, h3, Option.bind_some]
  by_cases h1 : ln ≤ p
  · rw [if_neg (nI_nlt h1 (by omega)), if_pos h1]
  · rw [if_pos (nI_lt (by omega) (by omega)), if_neg h1]
theorem t_has (n a b : Int32) : rn (d + 1) mX9_has [.ref 33, .int n, .int a, .int b] (mH h i l I J nw df P) = some (some (.int (if a ≤ n ∧ n ≤ b ∧ n ≤ i 33 1 then 1 else 0)), mH h i l I J nw df P) := by
  rw [X9_has_E]
  simp only [X9_has_0, X9_has_1, X9_has_2, X9_has_5, X9_has_6, X9_has_7, X9_has_10, X9_has_11, X9_has_12, X9_has_15, X9_has_18, X9_has_19, X9_has_22, X9_has_23_0, X9_has_23_1, gt_1, Option.bind_some]
  by_cases h1 : a ≤ n
  · rw [if_neg (Int32.not_lt.mpr h1)]
    by_cases h2 : n ≤ b
    · rw [if_neg (Int32.not_lt.mpr h2)]
      by_cases h3 : n ≤ i 33 1
      · rw [if_neg (Int32.not_lt.mpr h3), if_pos ⟨h1, h2, h3⟩]
      · rw [if_pos (Int32.not_le.mp h3), if_neg (fun z => h3 z.2.2)]
    · rw [if_pos (Int32.not_le.mp h2), if_neg (fun z => h2 z.2.1)]
  · rw [if_pos (Int32.not_le.mp h1), if_neg (fun z => h1 z.1)]
theorem t_take {n c : Nat} (h1 : i 33 1 = nI c) (hn : n ≤ c) (hc : c ≤ 240) : rn (d + 2) mX9_take [.ref 33, .int (nI n)] (mH h i l I J nw df P) = some (none, mH h (ku2 (ku2 (ku2 (ku2 i 33 2 (nI n)) 33 1 0) 33 3 0) 33 4 0) l I J nw df P) := by
  rw [X9_take_E]
  simp only [X9_take_0, X9_take_1, X9_take_2, X9_take_3, X9_take_4, X9_take_7, X9_take_10, X9_take_13, X9_take_16, X9_take_17, X9_take_18, X9_take_21, X9_take_22, X9_take_23, X9_take_26, X9_take_27, X9_take_28, X9_take_31, gt_1, pt_1, pt_2, pt_3, pt_4, j_max, j_min, h1, Option.bind_some, Option.toList_some, List.cons_append, List.nil_append, if_neg (nI_nlt hn (show c < 2 ^ 31 by omega))]
  have e : (if (0 : Int32) < nI n then nI n else 0) = nI n := by
    by_cases h0 : n = 0
    · subst h0; rfl
    · exact if_pos (nI_lt (a := 0) (by omega) (by omega))
  rw [e]
/-- up to so many digits: where they end, their value -/
def rdc (tx : Nat → Nat) (ln : Nat) : Nat → Nat → Nat → Nat × Nat
  | 0, p, v => (p, v)
  | f + 1, p, v => if isDg tx ln p then rdc tx ln f (p + 1) (10 * v + tx p - 48) else (p, v)
theorem t_rdc {tx : Nat → Nat} {ln D : Nat} (ht : cTx I tx ln) (hD : D ≤ 10) : ∀ (f k p v : Nat) (i : Nat → Nat → Int32), k + f = D → p < 99000 + k → i 33 2 = nI ln → i 33 3 = nI p → ∃ k' : Nat, ex (d + 1) mX9_readNumber 23 [some (.ref 33), some (.int (nI D)), some (.int (nI v)), some (.int (nI k))] [] (mH h i l I J nw df P) = ex (d + 1) mX9_readNumber 67 [some (.ref 33), some (.int (nI D)), some (.int (nI (rdc tx ln f p v).2)), some (.int (nI k'))] [] (mH h (ku2 i 33 3 (nI (rdc tx ln f p v).1)) l I J nw df P)
  | 0, k, p, v, i, hk, hp, h2, h3 => by
    refine ⟨k, ?_⟩
    rw [X9_readNumber_23]
    simp only [X9_readNumber_24, X9_readNumber_25, rdc, ku2_self h3]
    rw [if_pos (nI_le (by omega) (by omega))]
  | f + 1, k, p, v, i, hk, hp, h2, h3 => by
    rw [X9_readNumber_23]
    simp only [X9_readNumber_24, X9_readNumber_25]
    rw [if_neg (nI_ge (by omega) (by omega))]
    by_cases hdg : isDg tx ln p
    · have hhr : hr tx ln p = nI (tx p) := if_pos hdg.1
      have e3 : nI v * (10 : Int32) + hr tx ln p - 48 = nI (10 * v + tx p - 48) := by
        rw [hhr, show (10 : Int32) = nI 10 from rfl, show (48 : Int32) = nI 48 from rfl, pk_mul, nI_add, pk_sub (by have := hdg.2.1; omega), Nat.mul_comm v 10]
      obtain ⟨k', e⟩ := t_rdc ht hD f (k + 1) (p + 1) (10 * v + tx p - 48) (ku2 i 33 3 (nI (p + 1))) (by omega) (by omega) (by rw [ku2_ne (by decide)]; exact h2) (ku2_eq _ _ _ _)
      refine ⟨k', ?_⟩
      have e2 : rdc tx ln (f + 1) p v = rdc tx ln f (p + 1) (10 * v + tx p - 48) := by rw [rdc, if_pos hdg]
      conv => lhs; simp only [X9_readNumber_0, X9_readNumber_1, X9_readNumber_4, X9_readNumber_7, X9_readNumber_10, X9_readNumber_11, X9_readNumber_12, X9_readNumber_13, X9_readNumber_16, X9_readNumber_19, X9_readNumber_20, X9_readNumber_21, X9_readNumber_22, X9_readNumber_24, X9_readNumber_25, X9_readNumber_28, X9_readNumber_29, X9_readNumber_32, X9_readNumber_35, X9_readNumber_38, X9_readNumber_39, X9_readNumber_41, X9_readNumber_42, X9_readNumber_43, X9_readNumber_46, X9_readNumber_47, X9_readNumber_49, X9_readNumber_50, X9_readNumber_51, X9_readNumber_52, X9_readNumber_53, X9_readNumber_56, X9_readNumber_57, X9_readNumber_58, X9_readNumber_61, X9_readNumber_64, X9_readNumber_68, X9_readNumber_71, X9_readNumber_74, X9_readNumber_77, X9_readNumber_78, X9_readNumber_79, X9_readNumber_80, X9_readNumber_83, X9_readNumber_86, X9_readNumber_87, is_33, if_true, t_sign ht h2 h3 (show p < 100000 by omega), t_isDigit, chr_dg ht, if_pos hdg, e3, gt_3, pt_3, h3, nI_1, kkl_i, kkl_r, Option.bind_some, Option.toList_some, List.cons_append, List.nil_append, show ¬ (1 : Int32) = 0 from by decide, if_false]
      rw [e, e2, ku2_ku2]
    · refine ⟨k, ?_⟩
      conv => lhs; simp only [X9_readNumber_0, X9_readNumber_1, X9_readNumber_4, X9_readNumber_7, X9_readNumber_10, X9_readNumber_11, X9_readNumber_12, X9_readNumber_13, X9_readNumber_16, X9_readNumber_19, X9_readNumber_20, X9_readNumber_21, X9_readNumber_22, X9_readNumber_24, X9_readNumber_25, X9_readNumber_28, X9_readNumber_29, X9_readNumber_32, X9_readNumber_35, X9_readNumber_38, X9_readNumber_39, X9_readNumber_41, X9_readNumber_42, X9_readNumber_43, X9_readNumber_46, X9_readNumber_47, X9_readNumber_49, X9_readNumber_50, X9_readNumber_51, X9_readNumber_52, X9_readNumber_53, X9_readNumber_56, X9_readNumber_57, X9_readNumber_58, X9_readNumber_61, X9_readNumber_64, X9_readNumber_68, X9_readNumber_71, X9_readNumber_74, X9_readNumber_77, X9_readNumber_78, X9_readNumber_79, X9_readNumber_80, X9_readNumber_83, X9_readNumber_86, X9_readNumber_87, is_33, if_true, t_sign ht h2 h3 (show p < 100000 by omega), t_isDigit, chr_dg ht, if_neg hdg, Option.bind_some, Option.toList_some, List.cons_append, List.nil_append]
      simp only [rdc, if_neg hdg, ku2_self h3]
end CT
