/-! OWN: methods run by their numbers (d: how deep calls may go) -/
noncomputable def rn : Nat → Nat → List Value → kH → Option kR
  | 0, _, _, _ => none
  | d + 1, y, args, h => match kms[y]? with
    | some M => if kcat args ≤ M.2 then klim (kstep (rn d) kdef kty M.1) (0, kent M.2 args, [], h) else none
    | none => none
noncomputable def kst (d y : Nat) (c : kC) : kO := match kms[y]? with
  | some M => kstep (rn d) kdef kty M.1 c
  | none => none
noncomputable def ex (d y pc : Nat) (L : kL) (S : List Value) (h : kH) : Option kR := klim (kst d y) (pc, L, S, h)
theorem rnE {d y : Nat} {args : List Value} {h : kH} {M : kT × Nat} {L : kL} (hm : kms[y]? = some M) (hl : kent M.2 args = L) (hc : kcat args ≤ M.2) : rn (d + 1) y args h = ex d y 0 L [] h := by
  subst hl
  have e : kst d y = kstep (rn d) kdef kty M.1 := by funext c; simp only [kst, hm]
  simp only [rn, hm, ex, e, if_pos hc]
theorem exs {d y pc pc' : Nat} {L L' : kL} {S S' : List Value} {h h' : kH} (e : kst d y (pc, L, S, h) = some (.inl (pc', L', S', h'))) : ex d y pc L S h = ex d y pc' L' S' h' := by
  unfold ex
  rw [klim_eq, e]
theorem exr {d y pc : Nat} {L : kL} {S : List Value} {h : kH} {r : kR} (e : kst d y (pc, L, S, h) = some (.inr r)) : ex d y pc L S h = some r := by
  unfold ex
  rw [klim_eq, e]
theorem exb {α : Type} {d y pc pc' : Nat} {L : kL} {S : List Value} {h : kH} {o : Option α} {F : α → List Value} {G : α → kH} (e : kst d y (pc, L, S, h) = o.map (fun v => .inl (pc', L, F v, G v))) : ex d y pc L S h = o.bind (fun v => ex d y pc' L (F v) (G v)) := by
  unfold ex
  rw [klim_eq, e]
  cases o <;> rfl
theorem exz {d y pc pc' : Nat} {L L' : kL} {S S' : List Value} {h h' : kH} {c : Prop} [Decidable c] (e : kst d y (pc, L, S, h) = if c then none else some (.inl (pc', L', S', h'))) : ex d y pc L S h = if c then none else ex d y pc' L' S' h' := by
  unfold ex
  rw [klim_eq, e]
  by_cases q : c
  · rw [if_pos q, if_pos q]
  · rw [if_neg q, if_neg q]
theorem exw {d y pc pc' : Nat} {L L' : kL} {S S' : List Value} {h h' : kH} {c : Prop} [Decidable c] (e : kst d y (pc, L, S, h) = if c then some (.inl (pc', L', S', h')) else none) : ex d y pc L S h = if c then ex d y pc' L' S' h' else none := by
  unfold ex
  rw [klim_eq, e]
  by_cases q : c
  · rw [if_pos q, if_pos q]
  · rw [if_neg q, if_neg q]
/-- a branch -/
theorem exc {d y pc a b : Nat} {L : kL} {S S' : List Value} {h : kH} {c : Prop} [Decidable c] (e : kst d y (pc, L, S, h) = kbr a b L S' h (decide c)) : ex d y pc L S h = if c then ex d y a L S' h else ex d y b L S' h := by
  unfold ex
  rw [klim_eq, e, kbr]
  by_cases q : c
  · rw [if_pos q, if_pos (decide_eq_true q)]
  · rw [if_neg q, if_neg (by simp [q])]
/-- a call -/
theorem exv {d y pc pc' g : Nat} {L : kL} {S R : List Value} {h : kH} {As : List Value} {c : Prop} [Decidable c] (e : kst d y (pc, L, S, h) = if c ∧ kcat R ≤ 8 then krr (rn d g As h) pc' L R else none) (hc : kcat R ≤ 8) : ex d y pc L S h = if c then (rn d g As h).bind (fun r => ex d y pc' L (r.1.toList ++ R) r.2) else none := by
  unfold ex
  rw [klim_eq, e]
  by_cases q : c
  · rw [if_pos q, if_pos ⟨q, hc⟩, krr]
    cases rn d g As h <;> rfl
  · rw [if_neg q, if_neg (fun z => q z.1)]
theorem exn {d y pc pc' g : Nat} {L : kL} {S R : List Value} {h : kH} {As : List Value} (e : kst d y (pc, L, S, h) = if kcat R ≤ 8 then krr (rn d g As h) pc' L R else none) (hc : kcat R ≤ 8) : ex d y pc L S h = (rn d g As h).bind (fun r => ex d y pc' L (r.1.toList ++ R) r.2) := by
  unfold ex
  rw [klim_eq, e, if_pos hc, krr]
  cases rn d g As h <;> rfl
theorem exS {d y pc pc' g b : Nat} {L : kL} {S R : List Value} {h : kH} {As : List Value} (e : kst d y (pc, L, S, h) = if b ≤ S.length ∧ kcat R ≤ 8 then krr (rn d g As h) pc' L R else none) (hb : b ≤ S.length) (hc : kcat R ≤ 8) : ex d y pc L S h = (rn d g As h).bind (fun r => ex d y pc' L (r.1.toList ++ R) r.2) := by
  unfold ex
  rw [klim_eq, e, if_pos ⟨hb, hc⟩, krr]
  cases rn d g As h <;> rfl
theorem exo {d y pc pc' : Nat} {L : kL} {S R : List Value} {h : kH} {o : Option kH} (e : kst d y (pc, L, S, h) = if kcat R ≤ 8 then o.map (fun h => .inl (pc', L, R, h)) else none) (hc : kcat R ≤ 8) : ex d y pc L S h = o.bind (fun h => ex d y pc' L R h) := by
  unfold ex
  rw [klim_eq, e, if_pos hc]
  cases o <;> rfl
theorem exsw {d y pc : Nat} {L : kL} {S S' : List Value} {h : kH} {o : Option Int} (e : kst d y (pc, L, S, h) = ksw pc o L S' h) : ex d y pc L S h = o.bind (fun z => if 0 ≤ (pc : Int) + z then ex d y ((pc : Int) + z).toNat L S' h else none) := by
  unfold ex
  rw [klim_eq, e]
  cases o with
  | none => rfl
  | some z =>
    show (match ksw pc (some z) L S' h with | some (.inl c') => klim (kst d y) c' | some (.inr r) => some r | none => none) = if 0 ≤ (pc : Int) + z then _ else _
    unfold ksw kgo
    by_cases q : 0 ≤ (pc : Int) + z
    · simp only [if_pos q]
    · simp only [if_neg q]
/-- a call of the superclass's method -/
theorem exk {d y pc pc' g : Nat} {L : kL} {S R : List Value} {h : kH} {As : List Value} {c : Prop} [Decidable c] (e : kst d y (pc, L, S, h) = if kcat R ≤ 8 then (if c then krr (rn d g As h) pc' L R else none) else none) (hc : kcat R ≤ 8) : ex d y pc L S h = if c then (rn d g As h).bind (fun r => ex d y pc' L (r.1.toList ++ R) r.2) else none := by
  unfold ex
  rw [klim_eq, e, if_pos hc]
  by_cases q : c
  · rw [if_pos q, if_pos q, krr]
    cases rn d g As h <;> rfl
  · rw [if_neg q, if_neg q]
