/-! OWN: words for the pure side -/
/-- an object by the function of its fields -/
def kob (ci n : Nat) (f : Nat → Value) : kE := .inr (ci, (List.range n).map f)
theorem kob_fld {h : kH} {ci n q k : Nat} {f : Nat → Value} (hq : h.1 q = some (kob ci n f)) (hk : k < n) : kfld h ci q k = some (f k) := by
  simp [kfld, hq, kob, hk]
theorem kob_set (n : Nat) (f : Nat → Value) (k : Nat) (v : Value) : ((List.range n).map f).set k v = (List.range n).map (va_up f k v) := by
  apply List.ext_getElem?
  intro i
  rw [List.getElem?_set]
  by_cases hi : k = i
  · subst hi
    by_cases hn : k < n
    · simp [hn, va_up]
    · simp [hn]
  · rw [if_neg hi]
    simp only [List.getElem?_map]
    cases hr : (List.range n)[i]? with
    | none => rfl
    | some j =>
      have : j = i := by
        have := List.getElem?_range (n := n) (i := i)
        rw [List.getElem?_eq_some_iff] at hr
        obtain ⟨h1, h2⟩ := hr
        simpa using h2.symm
      subst this
      simp only [Option.map_some, va_up]
      rw [if_neg (fun e => hi (Eq.symm e))]
theorem kob_put {h : kH} {ci n q k : Nat} {f : Nat → Value} {ty : FieldType} {v : Value} (hq : h.1 q = some (kob ci n f)) (hk : k < n) (h32 : 32 ≤ q) (hf : kFit ty v = true) : kput h ci q k ty v = some (kup h q (kob ci n (va_up f k v))) := by
  unfold kput
  rw [hq]
  show (if ci = ci ∧ k < ((List.range n).map f).length ∧ 32 ≤ q ∧ kFit ty v = true then some (kup h q (.inr (ci, ((List.range n).map f).set k v))) else none) = _
  rw [if_pos ⟨rfl, by simpa using hk, h32, hf⟩, kob_set]
  rfl
theorem kob_is {h : kH} {ci n q : Nat} {f : Nat → Value} (hq : h.1 q = some (kob ci n f)) : kis h ci q = true := by simp [kis, hq, kob]
theorem kup_same (h : kH) (q : Nat) (e : kE) : (kup h q e).1 q = some e := by simp [kup]
theorem kup_ne {h : kH} {q p : Nat} {e : kE} (hp : p ≠ q) : (kup h q e).1 p = h.1 p := by simp [kup, hp]
theorem kup_cnt (h : kH) (q : Nat) (e : kE) : (kup h q e).2 = h.2 := rfl
theorem kup_kup (h : kH) (q : Nat) (e e' : kE) : kup (kup h q e) q e' = kup h q e' := by
  simp only [kup]
  congr 1
  funext j
  by_cases hj : j = q <;> simp [hj]
theorem kil_of {h : kH} {q n : Nat} {f : Nat → Int32} {i : Int32} (hq : h.1 q = some (.inl (.int, n, .inl f))) (hi : kin i n) : kil h q i = some (f i.toNatClampNeg) := by simp only [kil, hq]; rw [if_pos hi]
theorem kll_of {h : kH} {q n : Nat} {f : Nat → Int64} {i : Int32} (hq : h.1 q = some (.inl (.long, n, .inr (.inl f)))) (hi : kin i n) : kll h q i = some (f i.toNatClampNeg) := by simp only [kll, hq]; rw [if_pos hi]
theorem kbl_of {h : kH} {q n : Nat} {f : Nat → Int32} {i : Int32} (hq : h.1 q = some (.inl (.byte, n, .inl f))) (hi : kin i n) : kbl h q i = some (f i.toNatClampNeg) := by simp only [kbl, hq]; rw [if_pos hi]
theorem kbz_of {h : kH} {q n : Nat} {f : Nat → Int32} {i : Int32} (hq : h.1 q = some (.inl (.boolean, n, .inl f))) (hi : kin i n) : kbl h q i = some (f i.toNatClampNeg) := by simp only [kbl, hq]; rw [if_pos hi]
theorem kis_of {h : kH} {q n : Nat} {f : Nat → Int32} {i v : Int32} (hq : h.1 q = some (.inl (.int, n, .inl f))) (hi : kin i n) (h32 : 32 ≤ q) : kis_ h q i v = some (kup h q (.inl (.int, n, .inl (upd f i.toNatClampNeg v)))) := by simp only [kis_, hq]; rw [if_pos ⟨hi, h32⟩]
theorem kls_of {h : kH} {q n : Nat} {f : Nat → Int64} {i : Int32} {v : Int64} (hq : h.1 q = some (.inl (.long, n, .inr (.inl f)))) (hi : kin i n) (h32 : 32 ≤ q) : kls h q i v = some (kup h q (.inl (.long, n, .inr (.inl (vp_updL f i.toNatClampNeg v))))) := by simp only [kls, hq]; rw [if_pos ⟨hi, h32⟩]
theorem kbs_of {h : kH} {q n : Nat} {f : Nat → Int32} {i v : Int32} (hq : h.1 q = some (.inl (.byte, n, .inl f))) (hi : kin i n) (h32 : 32 ≤ q) : kbs h q i v = some (kup h q (.inl (.byte, n, .inl (upd f i.toNatClampNeg (vp_nar .byte v))))) := by simp only [kbs, hq]; rw [if_pos ⟨hi, h32⟩]
theorem kbt_of {h : kH} {q n : Nat} {f : Nat → Int32} {i v : Int32} (hq : h.1 q = some (.inl (.boolean, n, .inl f))) (hi : kin i n) (h32 : 32 ≤ q) : kbs h q i v = some (kup h q (.inl (.boolean, n, .inl (upd f i.toNatClampNeg (vp_nar .boolean v))))) := by simp only [kbs, hq]; rw [if_pos ⟨hi, h32⟩]
/-- numbers within bounds -/
theorem nI_kin {a n : Nat} (h : a < n) (hn : n < 2 ^ 31) : kin (nI a) n := by
  rw [kin, nI_toInt (by omega)]
  omega
