/-! OWN: filters: what a step keeps -/
def sft (c b : Nat) : Nat := if c = 121 then b else 0
theorem fs_fst {c b k : Nat} {acc : List (Nat × Nat)} {x : Nat × Nat} (hc : okLet c b) : (fs c b k acc x).map Prod.fst = acc.map Prod.fst ∨ (fs c b k acc x).map Prod.fst = acc.map Prod.fst ++ [x.1 + sft c b] := by
  have app : ∀ z : Nat × Nat, z.1 = x.1 + sft c b → (acc ++ [z]).map Prod.fst = acc.map Prod.fst ++ [x.1 + sft c b] := fun z hz => by rw [List.map_append, List.map_cons, List.map_nil, hz]
  rcases hc.1 with rfl | rfl | rfl | rfl | rfl | rfl | rfl | rfl
  · have e : fs 97 b k acc x = if b ≤ x.2 then acc ++ [x] else acc := rfl
    rw [e]
    split
    · exact Or.inr (app x rfl)
    · exact Or.inl rfl
  · have e : fs 98 b k acc x = if x.2 ≤ b then acc ++ [x] else acc := rfl
    rw [e]
    split
    · exact Or.inr (app x rfl)
    · exact Or.inl rfl
  · have e : fs 107 b k acc x = if k % b = 0 then acc ++ [x] else acc := rfl
    rw [e]
    split
    · exact Or.inr (app x rfl)
    · exact Or.inl rfl
  · have e : fs 114 b k acc x = if b ≤ k then acc ++ [x] else acc := rfl
    rw [e]
    split
    · exact Or.inr (app x rfl)
    · exact Or.inl rfl
  · have e : fs 119 b k acc x = if k < b then acc ++ [x] else acc := rfl
    rw [e]
    split
    · exact Or.inr (app x rfl)
    · exact Or.inl rfl
  · exact Or.inr (app _ rfl)
  · exact Or.inr (app _ rfl)
  · rcases List.eq_nil_or_concat acc with h0 | ⟨ac, y, h0⟩
    · subst h0
      exact Or.inr rfl
    · rw [List.concat_eq_append] at h0
      subst h0
      have hfs : fs 109 b k (ac ++ [y]) x = if b ≤ x.1 - y.1 then (ac ++ [y]) ++ [x] else ac ++ [(y.1, min 99 (y.2 + x.2))] := by simp [fs]
      rw [hfs]
      split
      · exact Or.inr (app x rfl)
      · exact Or.inl (by simp)
abbrev sOk (y : Nat × Nat) : Prop := 1 ≤ y.2 ∧ y.2 ≤ 99
theorem fs_str {c b k : Nat} {acc : List (Nat × Nat)} {x : Nat × Nat} (hc : okLet c b) (ha : ∀ y ∈ acc, sOk y) (hx : sOk x) : ∀ y ∈ fs c b k acc x, sOk y := by
  have app : ∀ z : Nat × Nat, sOk z → ∀ y ∈ acc ++ [z], sOk y := fun z hz y hy => by
    rcases List.mem_append.mp hy with q | q
    · exact ha y q
    · rw [List.mem_singleton.mp q]; exact hz
  rcases hc.1 with rfl | rfl | rfl | rfl | rfl | rfl | rfl | rfl
  · have e : fs 97 b k acc x = if b ≤ x.2 then acc ++ [x] else acc := rfl
    rw [e]
    split
    · exact app x hx
    · exact ha
  · have e : fs 98 b k acc x = if x.2 ≤ b then acc ++ [x] else acc := rfl
    rw [e]
    split
    · exact app x hx
    · exact ha
  · have e : fs 107 b k acc x = if k % b = 0 then acc ++ [x] else acc := rfl
    rw [e]
    split
    · exact app x hx
    · exact ha
  · have e : fs 114 b k acc x = if b ≤ k then acc ++ [x] else acc := rfl
    rw [e]
    split
    · exact app x hx
    · exact ha
  · have e : fs 119 b k acc x = if k < b then acc ++ [x] else acc := rfl
    rw [e]
    split
    · exact app x hx
    · exact ha
  · exact app _ ⟨by show 1 ≤ max 1 (min 99 (x.2 * b / 10)); omega, by show max 1 (min 99 (x.2 * b / 10)) ≤ 99; omega⟩
  · exact app _ hx
  · rcases List.eq_nil_or_concat acc with h0 | ⟨ac, y, h0⟩
    · subst h0
      exact app x hx
    · rw [List.concat_eq_append] at h0
      subst h0
      have hfs : fs 109 b k (ac ++ [y]) x = if b ≤ x.1 - y.1 then (ac ++ [y]) ++ [x] else ac ++ [(y.1, min 99 (y.2 + x.2))] := by simp [fs]
      rw [hfs]
      split
      · exact app x hx
      · intro z hz
        rcases List.mem_append.mp hz with q | q
        · exact ha z (List.mem_append_left _ q)
        · rw [List.mem_singleton.mp q]
          have := ha y (by simp)
          exact ⟨by show 1 ≤ min 99 (y.2 + x.2); have := this.1; omega, by show min 99 (y.2 + x.2) ≤ 99; omega⟩
theorem fgo_len {c b : Nat} : ∀ (r : List (Nat × Nat)) (k : Nat) (acc : List (Nat × Nat)), (fgo c b r k acc).length ≤ acc.length + r.length
  | [], k, acc => Nat.le_refl _
  | x :: r, k, acc => by
    have := fgo_len (c := c) (b := b) r (k + 1) (fs c b k acc x)
    have h2 := fs_len c b k acc x
    rw [fgo, List.length_cons]
    omega
theorem fgo_str {c b : Nat} (hc : okLet c b) : ∀ (r : List (Nat × Nat)) (k : Nat) (acc : List (Nat × Nat)), (∀ y ∈ acc, sOk y) → (∀ y ∈ r, sOk y) → ∀ y ∈ fgo c b r k acc, sOk y
  | [], k, acc, ha, _ => ha
  | x :: r, k, acc, ha, hr => fgo_str hc r (k + 1) (fs c b k acc x) (fs_str hc ha (hr x List.mem_cons_self)) (fun y hy => hr y (List.mem_cons_of_mem _ hy))
/-- ticks that come are among those that were, each so much later, in their order -/
theorem fgo_sub {c b : Nat} (hc : okLet c b) : ∀ (r : List (Nat × Nat)) (k : Nat) (acc : List (Nat × Nat)), List.Sublist ((fgo c b r k acc).map Prod.fst) (acc.map Prod.fst ++ r.map (fun x => x.1 + sft c b))
  | [], k, acc => by rw [fgo, List.map_nil, List.append_nil]; exact List.Sublist.refl _
  | x :: r, k, acc => by
    rw [fgo, List.map_cons]
    refine (fgo_sub hc r (k + 1) (fs c b k acc x)).trans ?_
    rcases fs_fst (k := k) (acc := acc) (x := x) hc with e | e
    · rw [e]
      exact List.Sublist.append (List.Sublist.refl _) (List.sublist_cons_self _ _)
    · rw [e, List.append_assoc]
      exact List.Sublist.refl _
/-- a row of knocks: rising ticks, none above B, strengths 1 to 99 -/
def okK (B : Nat) (L : List (Nat × Nat)) : Prop := L.length ≤ 200 ∧ (∀ y ∈ L, y.1 ≤ B) ∧ (∀ y ∈ L, sOk y) ∧ (L.map Prod.fst).Pairwise (· < ·)
theorem fgo_ok {c b B : Nat} {L : List (Nat × Nat)} (hc : okLet c b) (hL : okK B L) : okK (B + 99) (fgo c b L 0 []) := by
  have hsub := fgo_sub hc L 0 []
  rw [List.map_nil, List.nil_append] at hsub
  have hs99 : sft c b ≤ 99 := by unfold sft; have := hc.2.1; split <;> omega
  refine ⟨?_, ?_, fgo_str hc L 0 [] (fun y hy => by simp at hy) hL.2.2.1, ?_⟩
  · have := fgo_len (c := c) (b := b) L 0 []
    have := hL.1
    simp at *
    omega
  · intro y hy
    have h1 := hsub.subset (List.mem_map.mpr ⟨y, hy, rfl⟩)
    obtain ⟨x, hx, e⟩ := List.mem_map.mp h1
    have := hL.2.1 x hx
    omega
  · refine List.Pairwise.sublist hsub ?_
    have := hL.2.2.2
    rw [List.pairwise_map] at this ⊢
    exact this.imp (fun z => by omega)
