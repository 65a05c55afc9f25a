/-! OWN: the reference: the tape and what is read from it -/
theorem ku2_com {α : Type} (f : Nat → Nat → α) {q k a b : Nat} (v w : α) (hne : ¬ (q = a ∧ k = b)) : ku2 (ku2 f q k v) a b w = ku2 (ku2 f a b w) q k v := by
  funext x y
  unfold ku2
  by_cases h1 : x = a ∧ y = b
  · rw [if_pos h1, if_neg (fun z => hne ⟨z.1.symm.trans h1.1, z.2.symm.trans h1.2⟩), if_pos h1]
  · rw [if_neg h1]
    by_cases h2 : x = q ∧ y = k
    · rw [if_pos h2, if_pos h2]
    · rw [if_neg h2, if_neg h2, if_neg h1]
/-- the sign at a place of a text (-1: behind it) -/
def hr (tx : Nat → Nat) (ln p : Nat) : Int32 := if p < ln then nI (tx p) else -1
abbrev isDg (tx : Nat → Nat) (ln p : Nat) : Prop := p < ln ∧ 48 ≤ tx p ∧ tx p ≤ 57
theorem r_isDigit {d : Nat} {h : kH} (c : Int32) : rn (d + 2) mX12_isDigit [.int c] h = some (some (.int (if 48 ≤ c.toInt ∧ c.toInt ≤ 57 then 1 else 0)), h) := by
  simp only [X12_isDigit_E, X12_isDigit_0, X12_isDigit_1, X12_isDigit_2, X12_isDigit_5, X12_isDigit_8, X12_isDigit_11_0, X12_isDigit_11_1, r_in, Option.bind_some, Option.toList_some, List.cons_append, List.nil_append]
  have e1 : ((48 : Int64) ≤ c.toInt64 ∧ c.toInt64 ≤ 57) ↔ (48 ≤ c.toInt ∧ c.toInt ≤ 57) := by
    rw [Int64.le_iff_toInt_le, Int64.le_iff_toInt_le, Int32.toInt_toInt64]
    exact Iff.rfl
  by_cases h1 : 48 ≤ c.toInt ∧ c.toInt ≤ 57
  · rw [if_pos h1, if_pos (e1.mpr h1)]
    exact X12_isDigit_11_1
  · rw [if_neg h1, if_neg (fun z => h1 (e1.mp z))]
    exact X12_isDigit_11_0
section RT
variable {d : Nat} {h : kH} {i : Nat → Nat → Int32} {l : Nat → Nat → Int64} {I : Nat → Nat → Int32} {J : Nat → Nat → Int64} {nw df : Nat} {P : Nat → Nat}
/-- the text that is read: its signs, its length -/
def rTx (I : Nat → Nat → Int32) (tx : Nat → Nat) (ln : Nat) : Prop := ln ≤ 240 ∧ ∀ j, j < ln → I 221 j &&& 255 = nI (tx j) ∧ tx j < 256
theorem r_hereN {tx : Nat → Nat} {ln p : Nat} (ht : rTx I tx ln) (h6 : i 217 6 = nI p) (h7 : i 217 7 = nI ln) (hp : p < 1000) : rn (d + 1) mX12_here [.ref 217] (mH h i l I J nw df P) = some (some (.int (hr tx ln p)), mH h i l I J nw df P) := by
  have hl := ht.1
  rw [r_here (fun z => by
    rw [h6, h7] at z
    have := (nI_ltI (by omega) (by omega)).mp z
    rw [h6]
    exact nI_kin (by omega) (by decide))]
  rw [h6, h7, hr]
  by_cases hc : p < ln
  · rw [if_pos hc, if_pos ((nI_ltI (by omega) (by omega)).mpr hc), nI_clamp (by omega), (ht.2 p hc).1]
  · rw [if_neg hc, if_neg (fun z => hc ((nI_ltI (by omega) (by omega)).mp z))]
theorem hr_dg {tx : Nat → Nat} {ln p : Nat} (ht : rTx I tx ln) : (48 ≤ (hr tx ln p).toInt ∧ (hr tx ln p).toInt ≤ 57) ↔ isDg tx ln p := by
  unfold hr isDg
  by_cases hc : p < ln
  · have := (ht.2 p hc).2
    rw [if_pos hc, nI_toInt (by omega)]
    omega
  · rw [if_neg hc]
    simp [hc]
theorem r_begins (n : Int32) (a b : Int32) : rn (d + 2) mX12_begins [.ref 217, .int n, .int a, .int b] (mH h i l I J nw df P) = if a ≤ n ∧ n ≤ b ∧ n ≤ i 217 5 then some (some (.int 1), mH h (ku2 (ku2 (ku2 i 217 6 0) 217 7 n) 217 5 0) l I J nw df P) else some (some (.int 0), mH h i l I J nw df P) := by
  have e1 : (a.toInt64 ≤ n.toInt64 ∧ n.toInt64 ≤ b.toInt64) ↔ (a ≤ n ∧ n ≤ b) := by
    rw [Int64.le_iff_toInt_le, Int64.le_iff_toInt_le, Int32.toInt_toInt64, Int32.toInt_toInt64, Int32.toInt_toInt64, Int32.le_iff_toInt_le, Int32.le_iff_toInt_le]
  simp only [X12_begins_E, X12_begins_0, X12_begins_1, X12_begins_2, X12_begins_3, X12_begins_4, X12_begins_5, X12_begins_6, X12_begins_9, X12_begins_12, X12_begins_13, X12_begins_14, X12_begins_17, X12_begins_20, X12_begins_21_0, X12_begins_21_1, X12_begins_22, X12_begins_23, X12_begins_24, X12_begins_27, X12_begins_28, X12_begins_29, X12_begins_32, X12_begins_33, X12_begins_34, X12_begins_37, X12_begins_38_0, X12_begins_38_1, r_in, g13_5, p13_5, p13_6, p13_7, Option.bind_some, Option.toList_some, List.cons_append, List.nil_append]
  by_cases h1 : a ≤ n ∧ n ≤ b
  · rw [if_pos (e1.mpr h1), if_neg (by decide)]
    by_cases h2 : n ≤ i 217 5
    · rw [if_pos h2, if_pos ⟨h1.1, h1.2, h2⟩]
    · rw [if_neg h2, if_neg (fun z => h2 z.2.2)]
  · rw [if_neg (fun z => h1 (e1.mp z)), if_pos rfl, if_neg (fun z => h1 ⟨z.1, z.2.1⟩)]
theorem r_takesSign {tx : Nat → Nat} {ln p c : Nat} (ht : rTx I tx ln) (h6 : i 217 6 = nI p) (h7 : i 217 7 = nI ln) (hp : p < 1000) (hc : c < 256) : rn (d + 2) mX12_takesSign [.ref 217, .int (nI c)] (mH h i l I J nw df P) = if p < ln ∧ tx p = c then some (some (.int 1), mH h (ku2 i 217 6 (nI (p + 1))) l I J nw df P) else some (some (.int 0), mH h (ku2 i 217 8 (-1000 * 1 - nI p)) l I J nw df P) := by
  simp only [X12_takesSign_E, X12_takesSign_0, X12_takesSign_1, X12_takesSign_4, X12_takesSign_5, X12_takesSign_8, X12_takesSign_9, X12_takesSign_10, X12_takesSign_11, X12_takesSign_14, X12_takesSign_17_0, X12_takesSign_17_1, X12_takesSign_18, X12_takesSign_19, X12_takesSign_20, X12_takesSign_23, X12_takesSign_24, X12_takesSign_25, X12_takesSign_28, X12_takesSign_29_0, X12_takesSign_29_1, is_217, if_true, r_hereN ht h6 h7 hp, r_wrongAt, g13_6, p13_6, h6, nI_1, Option.bind_some, Option.toList_some, List.cons_append, List.nil_append]
  by_cases h1 : p < ln ∧ tx p = c
  · rw [if_pos h1, if_pos (by rw [hr, if_pos h1.1, h1.2])]
  · rw [if_neg h1, if_neg]
    intro z
    unfold hr at z
    by_cases h2 : p < ln
    · rw [if_pos h2] at z
      exact h1 ⟨h2, (nI_eq (by have := (ht.2 p h2).2; omega) (by omega)).mp z⟩
    · rw [if_neg h2] at z
      have := congrArg Int32.toInt z
      rw [nI_toInt (by omega)] at this
      simp at this
/-- a number of so many digits at most: where its end is, its value, whether it isn't too long -/
def rdn (tx : Nat → Nat) (ln D p0 : Nat) : Nat → Nat → Nat → Nat × Nat × Bool
  | 0, p, v => (p, v, true)
  | f + 1, p, v => if isDg tx ln p then (if p = p0 + D then (p, v, false) else rdn tx ln D p0 f (p + 1) (10 * v + tx p - 48)) else (p, v, true)
theorem ku2_self {α : Type} {f : Nat → Nat → α} {q k : Nat} {v : α} (h : f q k = v) : ku2 f q k v = f := by
  funext a b
  unfold ku2
  split
  · rename_i e
    rw [e.1, e.2, h]
  · rfl
theorem r_rdn {tx : Nat → Nat} {ln p0 D : Nat} {lo hi : Int32} (ht : rTx I tx ln) (hD : D ≤ 10) (hp0 : p0 < 500) : ∀ (f p v : Nat) (i : Nat → Nat → Int32), ln - p = f → p ≤ p0 + D → i 217 6 = nI p → i 217 7 = nI ln → i 217 9 = nI v → i 217 10 = nI p0 → ex (d + 2) mX12_readsNumber 33 [some (.ref 217), some (.int (nI D)), some (.int lo), some (.int hi)] [] (mH h i l I J nw df P) =
    if (rdn tx ln D p0 f p v).2.2 = true then ex (d + 2) mX12_readsNumber 98 [some (.ref 217), some (.int (nI D)), some (.int lo), some (.int hi)] [] (mH h (ku2 (ku2 i 217 9 (nI (rdn tx ln D p0 f p v).2.1)) 217 6 (nI (rdn tx ln D p0 f p v).1)) l I J nw df P)
    else some (some (.int 0), mH h (ku2 (ku2 (ku2 i 217 9 (nI (rdn tx ln D p0 f p v).2.1)) 217 6 (nI (rdn tx ln D p0 f p v).1)) 217 8 (-1000 * 2 - nI (rdn tx ln D p0 f p v).1)) l I J nw df P)
  | 0, p, v, i, hf, hp, h6, h7, h9, h10 => by
    have hnd : ¬ isDg tx ln p := fun z => by have := z.1; omega
    rw [X12_readsNumber_33]
    simp only [X12_readsNumber_34, X12_readsNumber_37, X12_readsNumber_40, is_217, if_true, r_hereN ht h6 h7 (by omega), r_isDigit, hr_dg ht, if_neg hnd, if_true, Option.bind_some, Option.toList_some, List.cons_append, List.nil_append, rdn, ku2_self h9, ku2_self h6]
  | f + 1, p, v, i, hf, hp, h6, h7, h9, h10 => by
    rw [X12_readsNumber_33]
    by_cases hdg : isDg tx ln p
    · have hc := (ht.2 p hdg.1).2
      have hhr : hr tx ln p = nI (tx p) := if_pos hdg.1
      by_cases hpe : p = p0 + D
      · have e1 : nI p = nI p0 + nI D := by rw [nI_add, hpe]
        have e2 : rdn tx ln D p0 (f + 1) p v = (p, v, false) := by rw [rdn, if_pos hdg, if_pos hpe]
        rw [e2]
        simp only [X12_readsNumber_34, X12_readsNumber_37, X12_readsNumber_40, X12_readsNumber_43, X12_readsNumber_44, X12_readsNumber_47, X12_readsNumber_48, X12_readsNumber_51, X12_readsNumber_52, X12_readsNumber_53, X12_readsNumber_56, X12_readsNumber_57, X12_readsNumber_58, X12_readsNumber_59, X12_readsNumber_62, X12_readsNumber_65_0, is_217, if_true, r_hereN ht h6 h7 (by omega), r_isDigit, r_wrongAt, hr_dg ht, if_pos hdg, g13_6, g13_10, h6, h10, ← e1, not_true_eq_false, if_false, Option.bind_some, Option.toList_some, List.cons_append, List.nil_append, show ¬ (1 : Int32) = 0 from by decide, ku2_self h9, ku2_self h6, Bool.false_eq_true]
      · have e1 : ¬ nI p = nI p0 + nI D := fun z => hpe ((nI_eq (by omega) (by omega)).mp (z.trans (nI_add p0 D)))
        have e2 : rdn tx ln D p0 (f + 1) p v = rdn tx ln D p0 f (p + 1) (10 * v + tx p - 48) := by rw [rdn, if_pos hdg, if_neg hpe]
        have e3 : (10 : Int32) * nI v + hr tx ln p - 48 = nI (10 * v + tx p - 48) := by
          rw [hhr, show (10 : Int32) = nI 10 from rfl, show (48 : Int32) = nI 48 from rfl, pk_mul, nI_add, pk_sub (by have := hdg.2.1; omega)]
        have h6' : (ku2 i 217 9 (nI (10 * v + tx p - 48))) 217 6 = nI p := by rw [ku2_ne (by decide)]; exact h6
        have h7' : (ku2 i 217 9 (nI (10 * v + tx p - 48))) 217 7 = nI ln := by rw [ku2_ne (by decide)]; exact h7
        conv => lhs; simp only [X12_readsNumber_0, X12_readsNumber_1, X12_readsNumber_2, X12_readsNumber_5, X12_readsNumber_8, X12_readsNumber_9, X12_readsNumber_12, X12_readsNumber_15, X12_readsNumber_18, X12_readsNumber_19, X12_readsNumber_20, X12_readsNumber_21, X12_readsNumber_24, X12_readsNumber_27_0, X12_readsNumber_27_1, X12_readsNumber_28, X12_readsNumber_29, X12_readsNumber_30, X12_readsNumber_34, X12_readsNumber_37, X12_readsNumber_40, X12_readsNumber_43, X12_readsNumber_44, X12_readsNumber_47, X12_readsNumber_48, X12_readsNumber_51, X12_readsNumber_52, X12_readsNumber_53, X12_readsNumber_56, X12_readsNumber_57, X12_readsNumber_58, X12_readsNumber_59, X12_readsNumber_62, X12_readsNumber_65_0, X12_readsNumber_65_1, X12_readsNumber_66, X12_readsNumber_67, X12_readsNumber_69, X12_readsNumber_70, X12_readsNumber_73, X12_readsNumber_74, X12_readsNumber_75, X12_readsNumber_78, X12_readsNumber_79, X12_readsNumber_81, X12_readsNumber_82, X12_readsNumber_85, X12_readsNumber_86, X12_readsNumber_87, X12_readsNumber_90, X12_readsNumber_91, X12_readsNumber_92, X12_readsNumber_95, X12_readsNumber_98, X12_readsNumber_99, X12_readsNumber_102, X12_readsNumber_103, X12_readsNumber_104, X12_readsNumber_105, X12_readsNumber_106, X12_readsNumber_107, X12_readsNumber_110, X12_readsNumber_113, X12_readsNumber_114, X12_readsNumber_115, X12_readsNumber_116, X12_readsNumber_119, X12_readsNumber_122, X12_readsNumber_125, X12_readsNumber_126, X12_readsNumber_129, X12_readsNumber_130_0, X12_readsNumber_130_1, is_217, if_true, r_hereN ht h6 h7 (show p < 1000 by omega), r_isDigit, hr_dg ht, if_pos hdg, g13_6, g13_9, g13_10, p13_9, p13_6, h6, h9, h10, e1, e3, h6', nI_1, not_false_eq_true, if_false, Option.bind_some, Option.toList_some, List.cons_append, List.nil_append, show ¬ (1 : Int32) = 0 from by decide]
        rw [r_rdn ht hD hp0 f (p + 1) (10 * v + tx p - 48) _ (by omega) (by omega) (ku2_eq _ _ _ _) (by rw [ku2_ne (by decide), ku2_ne (by decide)]; exact h7) (by rw [ku2_ne (by decide), ku2_eq]) (by rw [ku2_ne (by decide), ku2_ne (by decide)]; exact h10), e2]
        simp only [ku2_com (ku2 i 217 9 (nI (10 * v + tx p - 48))) (nI (p + 1)) (nI (rdn tx ln D p0 f (p + 1) (10 * v + tx p - 48)).2.1) (show ¬ ((217 : Nat) = 217 ∧ (6 : Nat) = 9) by decide), ku2_ku2]
    · simp only [X12_readsNumber_34, X12_readsNumber_37, X12_readsNumber_40, is_217, if_true, r_hereN ht h6 h7 (show p < 1000 by omega), r_isDigit, hr_dg ht, if_neg hdg, Option.bind_some, Option.toList_some, List.cons_append, List.nil_append, rdn, ku2_self h9, ku2_self h6]
end RT
