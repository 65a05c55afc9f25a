/-! OWN: heaps as rows of cells, for the makers of objects -/
def hl (b : Nat → Option kE) (cs : List kE) (s : Nat) : kH := (fun q => if q < 32 then b q else cs[q - 32]?, 32 + cs.length, s)
section HLA
variable {b : Nat → Option kE} {C D cs : List kE} {s : Nat}
theorem hl_at {q : Nat} (hq : 32 ≤ q) : (hl b cs s).1 q = cs[q - 32]? := if_neg (by omega)
theorem hl_new {e : kE} {n : Nat} : knew (hl b cs s) e n = hl b (cs ++ [e]) (s + n) := by
  unfold knew hl
  refine Prod.ext (funext fun q => ?_) (Prod.ext (by show 32 + cs.length + 1 = 32 + (cs ++ [e]).length; rw [List.length_append, List.length_singleton]; omega) rfl)
  show (if q = 32 + cs.length then some e else if q < 32 then b q else cs[q - 32]?) = if q < 32 then b q else (cs ++ [e])[q - 32]?
  by_cases h1 : q < 32
  · rw [if_neg (by omega), if_pos h1, if_pos h1]
  · rw [if_neg h1, if_neg h1]
    by_cases h2 : q = 32 + cs.length
    · rw [if_pos h2, List.getElem?_append_right (by omega), show q - 32 - cs.length = 0 by omega]
      rfl
    · rw [if_neg h2]
      by_cases h3 : q - 32 < cs.length
      · rw [List.getElem?_append_left h3]
      · rw [List.getElem?_eq_none (by omega), List.getElem?_eq_none (by rw [List.length_append, List.length_singleton]; omega)]
theorem hl_up {q : Nat} {e : kE} (hq : 32 ≤ q) (h2 : q - 32 < cs.length) : kup (hl b cs s) q e = hl b (cs.set (q - 32) e) s := by
  unfold kup hl
  refine Prod.ext (funext fun p => ?_) (Prod.ext (by show 32 + cs.length = 32 + (cs.set (q - 32) e).length; rw [List.length_set]) rfl)
  show (if p = q then some e else if p < 32 then b p else cs[p - 32]?) = if p < 32 then b p else (cs.set (q - 32) e)[p - 32]?
  by_cases h1 : p = q
  · rw [if_pos h1, if_neg (by omega), h1, List.getElem?_set_self h2]
  · rw [if_neg h1]
    by_cases h3 : p < 32
    · rw [if_pos h3, if_pos h3]
    · rw [if_neg h3, if_neg h3, List.getElem?_set_ne (by omega)]
/-- a row C, then cells D that are at work -/
def hq (b : Nat → Option kE) (C D : List kE) (s : Nat) : kH := hl b (C ++ D) s
theorem hq_top : (hq b C D s).2.1 = 32 + C.length + D.length := by
  show 32 + (C ++ D).length = _
  rw [List.length_append]
  omega
theorem hq_new {e : kE} {n : Nat} : knew (hq b C D s) e n = hq b C (D ++ [e]) (s + n) := by
  unfold hq
  rw [hl_new, List.append_assoc]
theorem hq_put {i ci k : Nat} {ty : FieldType} {v : Value} {fs : List Value} (hi : D[i]? = some (.inr (ci, fs))) (hk : k < fs.length) (hf : kFit ty v = true) : kput (hq b C D s) ci (32 + C.length + i) k ty v = some (hq b C (D.set i (.inr (ci, fs.set k v))) s) := by
  have hl2 : i < D.length := by
    refine Nat.lt_of_not_le (fun z => ?_)
    rw [List.getElem?_eq_none z] at hi
    cases hi
  have e : (hq b C D s).1 (32 + C.length + i) = some (.inr (ci, fs)) := by
    unfold hq
    rw [hl_at (by omega), show 32 + C.length + i - 32 = C.length + i by omega, List.getElem?_append_right (by omega), show C.length + i - C.length = i by omega]
    exact hi
  unfold kput
  rw [e]
  show (if ci = ci ∧ k < fs.length ∧ 32 ≤ 32 + C.length + i ∧ kFit ty v = true then some (kup (hq b C D s) (32 + C.length + i) (.inr (ci, fs.set k v))) else none) = _
  rw [if_pos ⟨rfl, hk, by omega, hf⟩]
  unfold hq
  rw [hl_up (by omega) (by rw [List.length_append]; omega), show 32 + C.length + i - 32 = C.length + i by omega, List.set_append_right _ _ (by omega), show C.length + i - C.length = i by omega]
theorem hq_is {i n a : Nat} {x : Int32} {f : Nat → Int32} (hi : D[i]? = some (.inl (.int, n, .inl f))) (ha : a < n) (hn : n < 2147483648) : kis_ (hq b C D s) (32 + C.length + i) (nI a) x = some (hq b C (D.set i (.inl (.int, n, .inl (upd f a x)))) s) := by
  have hl2 : i < D.length := by
    refine Nat.lt_of_not_le (fun z => ?_)
    rw [List.getElem?_eq_none z] at hi
    cases hi
  have e : (hq b C D s).1 (32 + C.length + i) = some (.inl (.int, n, .inl f)) := by
    unfold hq
    rw [hl_at (by omega), show 32 + C.length + i - 32 = C.length + i by omega, List.getElem?_append_right (by omega), show C.length + i - C.length = i by omega]
    exact hi
  unfold kis_
  rw [e]
  show (if kin (nI a) n ∧ 32 ≤ 32 + C.length + i then some (kup (hq b C D s) (32 + C.length + i) (.inl (.int, n, .inl (upd f (nI a).toNatClampNeg x)))) else none) = _
  rw [if_pos ⟨nI_kin ha hn, by omega⟩, nI_clamp (by omega)]
  unfold hq
  rw [hl_up (by omega) (by rw [List.length_append]; omega), show 32 + C.length + i - 32 = C.length + i by omega, List.set_append_right _ _ (by omega), show C.length + i - C.length = i by omega]
end HLA
