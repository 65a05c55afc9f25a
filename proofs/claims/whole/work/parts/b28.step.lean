/-! OWN: one step of a body, in the machine (cases laid by program) -/
theorem k_go {pc pc' : Nat} {L L' : kL} {S S' : List Value} {h h' : kH} (g : kgo pc L S h = some (.inl (pc', L', S', h'))) : pc' = pc ∧ L' = L ∧ S' = S ∧ h' = h := by
  simp only [kgo, Option.some.injEq, Sum.inl.injEq, Prod.mk.injEq] at g
  exact ⟨g.1.symm, g.2.1.symm, g.2.2.1.symm, g.2.2.2.symm⟩
theorem k_i2 {pc pc' : Nat} {L L' : kL} {S S' : List Value} {h h' : kH} {f : Int32 → Int32 → Int32} (g : ki2 pc L S h f = some (.inl (pc', L', S', h'))) : ∃ (x y : Int32) (S1 : List Value), S = .int y :: .int x :: S1 ∧ pc' = pc ∧ L' = L ∧ S' = .int (f x y) :: S1 ∧ h' = h := by
  unfold ki2 at g
  split at g
  · exact ⟨_, _, _, rfl, k_go g⟩
  · cases g
theorem k_l2 {pc pc' : Nat} {L L' : kL} {S S' : List Value} {h h' : kH} {f : Int64 → Int64 → Int64} (g : kl2 pc L S h f = some (.inl (pc', L', S', h'))) : ∃ (x y : Int64) (S1 : List Value), S = .long y :: .long x :: S1 ∧ pc' = pc ∧ L' = L ∧ S' = .long (f x y) :: S1 ∧ h' = h := by
  unfold kl2 at g
  split at g
  · exact ⟨_, _, _, rfl, k_go g⟩
  · cases g
theorem k_ldi {pc pc' k : Nat} {L L' : kL} {S S' : List Value} {h h' : kH} (g : kldi pc L S h k = some (.inl (pc', L', S', h'))) : ∃ x : Int32, L[k]? = some (some (.int x)) ∧ pc' = pc ∧ L' = L ∧ S' = .int x :: S ∧ h' = h := by
  unfold kldi at g
  split at g
  · rename_i x hx
    exact ⟨x, hx, k_go g⟩
  · cases g
theorem k_ldl {pc pc' k : Nat} {L L' : kL} {S S' : List Value} {h h' : kH} (g : kldl pc L S h k = some (.inl (pc', L', S', h'))) : ∃ x : Int64, L[k]? = some (some (.long x)) ∧ pc' = pc ∧ L' = L ∧ S' = .long x :: S ∧ h' = h := by
  unfold kldl at g
  split at g
  · rename_i x hx
    exact ⟨x, hx, k_go g⟩
  · cases g
theorem k_lda {pc pc' k : Nat} {L L' : kL} {S S' : List Value} {h h' : kH} (g : klda pc L S h k = some (.inl (pc', L', S', h'))) : (∃ x : Nat, L[k]? = some (some (.ref x)) ∧ pc' = pc ∧ L' = L ∧ S' = .ref x :: S ∧ h' = h) ∨ (L[k]? = some (some .null) ∧ pc' = pc ∧ L' = L ∧ S' = .null :: S ∧ h' = h) := by
  unfold klda at g
  split at g
  · rename_i x hx
    exact Or.inl ⟨x, hx, k_go g⟩
  · rename_i hx
    exact Or.inr ⟨hx, k_go g⟩
  · cases g
theorem k_sti {pc pc' k : Nat} {L L' : kL} {S S' : List Value} {h h' : kH} (g : ksti pc L S h k = some (.inl (pc', L', S', h'))) : ∃ (x : Int32) (S1 : List Value), S = .int x :: S1 ∧ k < L.length ∧ pc' = pc ∧ L' = kst1 L k (.int x) ∧ S' = S1 ∧ h' = h := by
  unfold ksti at g
  split at g
  · split at g
    · rename_i hx
      exact ⟨_, _, rfl, hx, k_go g⟩
    · cases g
  · cases g
theorem k_stl {pc pc' k : Nat} {L L' : kL} {S S' : List Value} {h h' : kH} (g : kstl pc L S h k = some (.inl (pc', L', S', h'))) : ∃ (x : Int64) (S1 : List Value), S = .long x :: S1 ∧ k + 1 < L.length ∧ pc' = pc ∧ L' = kst2 L k (.long x) ∧ S' = S1 ∧ h' = h := by
  unfold kstl at g
  split at g
  · split at g
    · rename_i hx
      exact ⟨_, _, rfl, hx, k_go g⟩
    · cases g
  · cases g
theorem k_sta {pc pc' k : Nat} {L L' : kL} {S S' : List Value} {h h' : kH} (g : ksta pc L S h k = some (.inl (pc', L', S', h'))) : (∃ (x : Nat) (S1 : List Value), S = .ref x :: S1 ∧ k < L.length ∧ pc' = pc ∧ L' = kst1 L k (.ref x) ∧ S' = S1 ∧ h' = h) ∨ (∃ (S1 : List Value), S = .null :: S1 ∧ k < L.length ∧ pc' = pc ∧ L' = kst1 L k .null ∧ S' = S1 ∧ h' = h) := by
  unfold ksta at g
  split at g
  · split at g
    · rename_i hx
      exact Or.inl ⟨_, _, rfl, hx, k_go g⟩
    · cases g
  · split at g
    · rename_i hx
      exact Or.inr ⟨_, rfl, hx, k_go g⟩
    · cases g
  · cases g
theorem k_br {a b pc' : Nat} {L L' : kL} {S S' : List Value} {h h' : kH} {q : Bool} (g : kbr a b L S h q = some (.inl (pc', L', S', h'))) : pc' = (if q = true then a else b) ∧ L' = L ∧ S' = S ∧ h' = h := by
  simp only [kbr, Option.some.injEq, Sum.inl.injEq, Prod.mk.injEq] at g
  exact ⟨g.1.symm, g.2.1.symm, g.2.2.1.symm, g.2.2.2.symm⟩
theorem k_map {α : Type} {q : Option α} {f : α → kC} {z : kC} (g : q.map (fun v => (Sum.inl (f v) : kC ⊕ kR)) = some (.inl z)) : ∃ v, q = some v ∧ z = f v := by
  cases q with
  | none => cases g
  | some v =>
    simp only [Option.map_some, Option.some.injEq, Sum.inl.injEq] at g
    exact ⟨v, rfl, g.symm⟩
theorem k_sw {pc pc' : Nat} {L L' : kL} {S S' : List Value} {h h' : kH} {q : Option Int} (g : ksw pc q L S h = some (.inl (pc', L', S', h'))) : ∃ z : Int, q = some z ∧ (pc : Int) + z = (pc' : Int) ∧ L' = L ∧ S' = S ∧ h' = h := by
  unfold ksw at g
  split at g
  · split at g
    · rename_i hx
      obtain ⟨e1, e2, e3, e4⟩ := k_go g
      exact ⟨_, rfl, by omega, e2, e3, e4⟩
    · cases g
  · cases g
theorem kstep_inv {call : Nat → List Value → kH → Option kR} {kdef : Nat → List Value} {kty : Nat → Nat → FieldType} {t : kT} {pc : Nat} {L : kL} {S : List Value} {h : kH} {z : kC ⊕ kR} (g : kstep call kdef kty t (pc, L, S, h) = some z) : ∃ (i : Instr) (n a b : Nat) (x : Int), kget t pc = some ((i, n), a, b, x) ∧ kex call kdef kty pc n L S h a b x i = some z := by
  unfold kstep at g
  cases hg : kget t pc with
  | none =>
    have g : (match kget t pc with | some q => kex call kdef kty pc q.1.2 L S h q.2.1 q.2.2.1 q.2.2.2 q.1.1 | none => none) = some z := g
    rw [hg] at g
    cases g
  | some q =>
    obtain ⟨⟨i, n⟩, a, b, x⟩ := q
    have g : (match kget t pc with | some q => kex call kdef kty pc q.1.2 L S h q.2.1 q.2.2.1 q.2.2.2 q.1.1 | none => none) = some z := g
    rw [hg] at g
    exact ⟨i, n, a, b, x, rfl, g⟩
section KT
variable {p : Program} {l : Launch} {e : Env} {R : Room} {s : State} {m : MethodId} {args : Array Value} {below : List Frame} {meth : Method} {c : Code} {Q : State → Prop}
variable {D : va_G} {ad : Nat → Nat} {base : Nat} {I : kMI}

set_option maxHeartbeats 4000000 in
theorem k_step (hcl : kCl) (hC : kCx p s m args meth c D ad base I) (hR : I.2.2.2.2.2.1 ≤ R.frames ∧ I.2.2.2.2.2.2 ≤ R.locals) {t : kT} (hok : ∀ q ∈ t, kOkI I q) {call : Nat → List Value → kH → Option kR} (hcall : ∀ (y : Nat) (As : List Value) (h : kH) (r : Option Value) (h' : kH), call y As h = some (r, h') → kMet l D ad base y As h r h') {pc pc' : Nat} {L L' : kL} {S S' : List Value} {h h' : kH} (hst : kstep call kdef kty t (pc, L, S, h) = some (.inl (pc', L', S', h'))) {K J : Nat} (hroom : h'.2.1 ≤ K + R.cells ∧ h'.2.2 ≤ J + R.slots) {H : Heap} {locs : List Loc} {cells slots : Nat} {ls : Array Slot} (hin : kIn s D ad base I K J L h H locs cells slots ls) (kk : kKont p l e R s m args below meth c Q D ad base I K J pc' L' S' h') : W p l e R s m args below meth c H locs cells slots Q (F0 m pc ls (S.map (kv ad))) := by
  obtain ⟨hx, hb, hml, hown, hts, hnm, hK, had, hNw, hbs, hZ⟩ := id hC
  obtain ⟨hl, hlen, hrel, hS, hcs, hss⟩ := id hin
  obtain ⟨i, n, a, b, x, hg, hst⟩ := kstep_inv hst
  obtain ⟨hd, hw, hk⟩ := hok _ (kget_mem t pc _ hg)
  have hd : decode I.2.1 pc = .ok (i, n) := hd
  have hw : ∀ w ∈ kwd I.2.2.2.2.1 ((i, n), a, b, x), w ∈ kWs := hw
  clear hok hg
  cases i with
  | iconst v =>
    have hn : n = 1 := by simpa [kct, kln] using hk
    subst hn
    obtain ⟨rfl, rfl, rfl, rfl⟩ := k_go hst
    exact lv_iconst hx hb hd rfl (kk _ _ _ _ _ hin)
  | bipush v =>
    have hn : n = 2 := by simpa [kct, kln] using hk
    subst hn
    obtain ⟨rfl, rfl, rfl, rfl⟩ := k_go hst
    exact lv_bipush hx hb hd rfl (kk _ _ _ _ _ hin)
  | sipush v =>
    have hn : n = 3 := by simpa [kct, kln] using hk
    subst hn
    obtain ⟨rfl, rfl, rfl, rfl⟩ := k_go hst
    exact lv_sipush hx hb hd rfl (kk _ _ _ _ _ hin)
  | lconst v =>
    have hn : n = 1 := by simpa [kct, kln] using hk
    subst hn
    obtain ⟨rfl, rfl, rfl, rfl⟩ := k_go hst
    exact lv_lconst hx hb hd rfl (kk _ _ _ _ _ hin)
  | ldc k =>
    simp only [kex] at hst
    simp only [kct, Bool.and_eq_true, beq_iff_eq, Bool.or_eq_true, decide_eq_true_eq] at hk
    obtain ⟨rfl, hk⟩ := hk
    by_cases hb1 : b = 1
    · rw [if_pos hb1] at hst
      obtain ⟨rfl, rfl, rfl, rfl⟩ := k_go hst
      rcases hk with hk | hk
      · exact absurd hb1 hk
      · obtain ⟨q, hq, hk⟩ := List.any_eq_true.mp hk
        obtain ⟨h1, h2, h3⟩ := of_decide_eq_true hk
        have hR := hNw.2.2 q hq
        rw [h1, h2, h3] at hR
        exact va_ldcS hx hb hown hR hd (kk _ _ _ _ _ hin)
    · rw [if_neg hb1] at hst
      obtain ⟨rfl, rfl, rfl, rfl⟩ := k_go hst
      exact lv_ldc hx hb hown (hts _ (hw _ (by simp [kwd, hb1]))) hd (kk _ _ _ _ _ hin)
  | ldc2_w k =>
    have hn : n = 3 := by simpa [kct, kln] using hk
    subst hn
    obtain ⟨rfl, rfl, rfl, rfl⟩ := k_go hst
    exact lv_ldc2 hx hb hown (hts _ (hw _ (by simp [kwd]))) hd (kk _ _ _ _ _ hin)
  | iload k =>
    have hn : n = 2 := by simpa [kct, kln] using hk
    subst hn
    obtain ⟨v, hv, rfl, rfl, rfl, rfl⟩ := k_ldi hst
    exact lv_iload hx hb hd (klv_at hl hv) (kk _ _ _ _ _ hin)
  | iload_n k =>
    have hn : n = 1 := by simpa [kct, kln] using hk
    subst hn
    obtain ⟨v, hv, rfl, rfl, rfl, rfl⟩ := k_ldi hst
    exact lv_iload_n hx hb hd rfl (klv_at hl hv) (kk _ _ _ _ _ hin)
  | lload k =>
    have hn : n = 2 := by simpa [kct, kln] using hk
    subst hn
    obtain ⟨v, hv, rfl, rfl, rfl, rfl⟩ := k_ldl hst
    exact lv_lload hx hb hd (klv_at hl hv) (kk _ _ _ _ _ hin)
  | lload_n k =>
    have hn : n = 1 := by simpa [kct, kln] using hk
    subst hn
    obtain ⟨v, hv, rfl, rfl, rfl, rfl⟩ := k_ldl hst
    exact lv_lload_n hx hb hd rfl (klv_at hl hv) (kk _ _ _ _ _ hin)
  | aload k =>
    have hn : n = 2 := by simpa [kct, kln] using hk
    subst hn
    rcases k_lda hst with ⟨v, hv, rfl, rfl, rfl, rfl⟩ | ⟨hv, rfl, rfl, rfl, rfl⟩
    · exact lv_aload hx hb hd (klv_at hl hv) (kk _ _ _ _ _ hin)
    · exact lv_aloadN hx hb hd (klv_at hl hv) (kk _ _ _ _ _ hin)
  | aload_n k =>
    have hn : n = 1 := by simpa [kct, kln] using hk
    subst hn
    rcases k_lda hst with ⟨v, hv, rfl, rfl, rfl, rfl⟩ | ⟨hv, rfl, rfl, rfl, rfl⟩
    · exact lv_aload_n hx hb hd rfl (klv_at hl hv) (kk _ _ _ _ _ hin)
    · exact lv_aload_nN hx hb hd rfl (klv_at hl hv) (kk _ _ _ _ _ hin)
  | istore k =>
    have hn : n = 2 := by simpa [kct, kln] using hk
    subst hn
    obtain ⟨v, S1, rfl, hv, rfl, rfl, rfl, rfl⟩ := k_sti hst
    exact lv_istore hx hb hd hl (by omega) rfl (fun ls1 h1 => kk _ _ _ _ _ ⟨kst1_has hv h1, by rw [kst1_len]; exact hlen, hrel, hS, hcs, hss⟩)
  | istore_n k =>
    have hn : n = 1 := by simpa [kct, kln] using hk
    subst hn
    obtain ⟨v, S1, rfl, hv, rfl, rfl, rfl, rfl⟩ := k_sti hst
    exact lv_istore_n hx hb hd rfl hl (by omega) rfl (fun ls1 h1 => kk _ _ _ _ _ ⟨kst1_has hv h1, by rw [kst1_len]; exact hlen, hrel, hS, hcs, hss⟩)
  | lstore k =>
    have hn : n = 2 := by simpa [kct, kln] using hk
    subst hn
    obtain ⟨v, S1, rfl, hv, rfl, rfl, rfl, rfl⟩ := k_stl hst
    exact lv_lstore hx hb hd hl (by omega) rfl (fun ls1 h1 => kk _ _ _ _ _ ⟨kst2_has (by omega) h1, by rw [kst2_len]; exact hlen, hrel, hS, hcs, hss⟩)
  | lstore_n k =>
    have hn : n = 1 := by simpa [kct, kln] using hk
    subst hn
    obtain ⟨v, S1, rfl, hv, rfl, rfl, rfl, rfl⟩ := k_stl hst
    exact lv_lstore_n hx hb hd rfl hl (by omega) rfl (fun ls1 h1 => kk _ _ _ _ _ ⟨kst2_has (by omega) h1, by rw [kst2_len]; exact hlen, hrel, hS, hcs, hss⟩)
  | astore k =>
    have hn : n = 2 := by simpa [kct, kln] using hk
    subst hn
    rcases k_sta hst with ⟨v, S1, rfl, hv, rfl, rfl, rfl, rfl⟩ | ⟨S1, rfl, hv, rfl, rfl, rfl, rfl⟩
    · exact lv_astore hx hb hd hl (by omega) rfl (fun ls1 h1 => kk _ _ _ _ _ ⟨kst1_has (v := .ref v) hv h1, by rw [kst1_len]; exact hlen, hrel, hS, hcs, hss⟩)
    · exact lv_astoreN hx hb hd hl (by omega) rfl (fun ls1 h1 => kk _ _ _ _ _ ⟨kst1_has (v := .null) hv h1, by rw [kst1_len]; exact hlen, hrel, hS, hcs, hss⟩)
  | astore_n k =>
    have hn : n = 1 := by simpa [kct, kln] using hk
    subst hn
    rcases k_sta hst with ⟨v, S1, rfl, hv, rfl, rfl, rfl, rfl⟩ | ⟨S1, rfl, hv, rfl, rfl, rfl, rfl⟩
    · exact lv_astore_n hx hb hd rfl hl (by omega) rfl (fun ls1 h1 => kk _ _ _ _ _ ⟨kst1_has (v := .ref v) hv h1, by rw [kst1_len]; exact hlen, hrel, hS, hcs, hss⟩)
    · exact lv_astore_nN hx hb hd rfl hl (by omega) rfl (fun ls1 h1 => kk _ _ _ _ _ ⟨kst1_has (v := .null) hv h1, by rw [kst1_len]; exact hlen, hrel, hS, hcs, hss⟩)
  | iinc k v =>
    have hn : n = 3 := by simpa [kct, kln] using hk
    subst hn
    simp only [kex, kinc] at hst
    split at hst
    · rename_i y hy
      obtain ⟨rfl, rfl, rfl, rfl⟩ := k_go hst
      have hkl : k < L.length := (List.getElem?_eq_some_iff.mp hy).1
      obtain ⟨k2, hk2⟩ := klv_k (ad := ad) hy
      exact lv_iinc hx hb hd hl hk2 rfl (by omega) rfl (fun ls1 h1 => kk _ _ _ _ _ ⟨kst1_has (v := .int _) hkl h1, by rw [kst1_len]; exact hlen, hrel, hS, hcs, hss⟩)
    · cases hst
  | iadd =>
    have hn : n = 1 := by simpa [kct, kln] using hk
    subst hn
    obtain ⟨x, y, S1, rfl, rfl, rfl, rfl, rfl⟩ := k_i2 hst
    exact lv_iadd hx hb hd (kk _ _ _ _ _ hin)
  | isub =>
    have hn : n = 1 := by simpa [kct, kln] using hk
    subst hn
    obtain ⟨x, y, S1, rfl, rfl, rfl, rfl, rfl⟩ := k_i2 hst
    exact lv_isub hx hb hd (kk _ _ _ _ _ hin)
  | imul =>
    have hn : n = 1 := by simpa [kct, kln] using hk
    subst hn
    obtain ⟨x, y, S1, rfl, rfl, rfl, rfl, rfl⟩ := k_i2 hst
    exact lv_imul hx hb hd (kk _ _ _ _ _ hin)
  | iand =>
    have hn : n = 1 := by simpa [kct, kln] using hk
    subst hn
    obtain ⟨x, y, S1, rfl, rfl, rfl, rfl, rfl⟩ := k_i2 hst
    exact lv_iand hx hb hd (kk _ _ _ _ _ hin)
  | ior =>
    have hn : n = 1 := by simpa [kct, kln] using hk
    subst hn
    obtain ⟨x, y, S1, rfl, rfl, rfl, rfl, rfl⟩ := k_i2 hst
    exact lv_ior hx hb hd (kk _ _ _ _ _ hin)
  | ishl =>
    have hn : n = 1 := by simpa [kct, kln] using hk
    subst hn
    obtain ⟨x, y, S1, rfl, rfl, rfl, rfl, rfl⟩ := k_i2 hst
    exact lv_ishl hx hb hd (kk _ _ _ _ _ hin)
  | ishr =>
    have hn : n = 1 := by simpa [kct, kln] using hk
    subst hn
    obtain ⟨x, y, S1, rfl, rfl, rfl, rfl, rfl⟩ := k_i2 hst
    exact lv_ishr hx hb hd (kk _ _ _ _ _ hin)
  | iushr =>
    have hn : n = 1 := by simpa [kct, kln] using hk
    subst hn
    obtain ⟨x, y, S1, rfl, rfl, rfl, rfl, rfl⟩ := k_i2 hst
    exact lv_iushr hx hb hd rfl (kk _ _ _ _ _ hin)
  | ladd =>
    have hn : n = 1 := by simpa [kct, kln] using hk
    subst hn
    obtain ⟨x, y, S1, rfl, rfl, rfl, rfl, rfl⟩ := k_l2 hst
    exact lv_ladd hx hb hd (kk _ _ _ _ _ hin)
  | lsub =>
    have hn : n = 1 := by simpa [kct, kln] using hk
    subst hn
    obtain ⟨x, y, S1, rfl, rfl, rfl, rfl, rfl⟩ := k_l2 hst
    exact lv_lsub hx hb hd (kk _ _ _ _ _ hin)
  | lmul =>
    have hn : n = 1 := by simpa [kct, kln] using hk
    subst hn
    obtain ⟨x, y, S1, rfl, rfl, rfl, rfl, rfl⟩ := k_l2 hst
    exact lv_lmul hx hb hd (kk _ _ _ _ _ hin)
  | land =>
    have hn : n = 1 := by simpa [kct, kln] using hk
    subst hn
    obtain ⟨x, y, S1, rfl, rfl, rfl, rfl, rfl⟩ := k_l2 hst
    exact lv_land hx hb hd (kk _ _ _ _ _ hin)
  | lor =>
    have hn : n = 1 := by simpa [kct, kln] using hk
    subst hn
    obtain ⟨x, y, S1, rfl, rfl, rfl, rfl, rfl⟩ := k_l2 hst
    exact lv_lor hx hb hd (kk _ _ _ _ _ hin)
  | lxor =>
    have hn : n = 1 := by simpa [kct, kln] using hk
    subst hn
    obtain ⟨x, y, S1, rfl, rfl, rfl, rfl, rfl⟩ := k_l2 hst
    exact lv_lxor hx hb hd (kk _ _ _ _ _ hin)
  | idiv =>
    have hn : n = 1 := by simpa [kct, kln] using hk
    subst hn
    simp only [kex, kdi] at hst
    split at hst
    · split at hst
      · cases hst
      · rename_i h0
        obtain ⟨rfl, rfl, rfl, rfl⟩ := k_go hst
        exact lv_idiv hx hb hd h0 (kk _ _ _ _ _ hin)
    · cases hst
  | irem =>
    have hn : n = 1 := by simpa [kct, kln] using hk
    subst hn
    simp only [kex, kdi] at hst
    split at hst
    · split at hst
      · cases hst
      · rename_i h0
        obtain ⟨rfl, rfl, rfl, rfl⟩ := k_go hst
        exact lv_irem hx hb hd h0 (kk _ _ _ _ _ hin)
    · cases hst
  | ldiv =>
    have hn : n = 1 := by simpa [kct, kln] using hk
    subst hn
    simp only [kex, kdl] at hst
    split at hst
    · split at hst
      · cases hst
      · rename_i h0
        obtain ⟨rfl, rfl, rfl, rfl⟩ := k_go hst
        exact lv_ldiv hx hb hd h0 (kk _ _ _ _ _ hin)
    · cases hst
  | lrem =>
    have hn : n = 1 := by simpa [kct, kln] using hk
    subst hn
    simp only [kex, kdl] at hst
    split at hst
    · split at hst
      · cases hst
      · rename_i h0
        obtain ⟨rfl, rfl, rfl, rfl⟩ := k_go hst
        exact lv_lrem hx hb hd h0 (kk _ _ _ _ _ hin)
    · cases hst
  | ineg =>
    have hn : n = 1 := by simpa [kct, kln] using hk
    subst hn
    simp only [kex, kii] at hst
    split at hst
    · obtain ⟨rfl, rfl, rfl, rfl⟩ := k_go hst
      exact lv_ineg hx hb hd (kk _ _ _ _ _ hin)
    · cases hst
  | lneg =>
    have hn : n = 1 := by simpa [kct, kln] using hk
    subst hn
    simp only [kex, klll] at hst
    split at hst
    · obtain ⟨rfl, rfl, rfl, rfl⟩ := k_go hst
      exact lv_lneg hx hb hd (kk _ _ _ _ _ hin)
    · cases hst
  | lshl =>
    have hn : n = 1 := by simpa [kct, kln] using hk
    subst hn
    simp only [kex, ksh] at hst
    split at hst
    · obtain ⟨rfl, rfl, rfl, rfl⟩ := k_go hst
      exact lv_lshl hx hb hd rfl (kk _ _ _ _ _ hin)
    · cases hst
  | lushr =>
    have hn : n = 1 := by simpa [kct, kln] using hk
    subst hn
    simp only [kex, ksh] at hst
    split at hst
    · obtain ⟨rfl, rfl, rfl, rfl⟩ := k_go hst
      exact lv_lushr hx hb hd rfl (kk _ _ _ _ _ hin)
    · cases hst
  | i2l =>
    have hn : n = 1 := by simpa [kct, kln] using hk
    subst hn
    simp only [kex, kitl] at hst
    split at hst
    · obtain ⟨rfl, rfl, rfl, rfl⟩ := k_go hst
      exact lv_i2l hx hb hd rfl (kk _ _ _ _ _ hin)
    · cases hst
  | l2i =>
    have hn : n = 1 := by simpa [kct, kln] using hk
    subst hn
    simp only [kex, klti] at hst
    split at hst
    · obtain ⟨rfl, rfl, rfl, rfl⟩ := k_go hst
      exact lv_l2i hx hb hd rfl (kk _ _ _ _ _ hin)
    · cases hst
  | i2b =>
    have hn : n = 1 := by simpa [kct, kln] using hk
    subst hn
    simp only [kex, kii] at hst
    split at hst
    · obtain ⟨rfl, rfl, rfl, rfl⟩ := k_go hst
      exact lv_i2b hx hb hd rfl (kk _ _ _ _ _ hin)
    · cases hst
  | i2c =>
    have hn : n = 1 := by simpa [kct, kln] using hk
    subst hn
    simp only [kex, kii] at hst
    split at hst
    · obtain ⟨rfl, rfl, rfl, rfl⟩ := k_go hst
      exact lv_i2c hx hb hd rfl (kk _ _ _ _ _ hin)
    · cases hst
  | lcmp =>
    have hn : n = 1 := by simpa [kct, kln] using hk
    subst hn
    simp only [kex, klc] at hst
    split at hst
    · obtain ⟨rfl, rfl, rfl, rfl⟩ := k_go hst
      exact W.lcmp hx hb hd (kk _ _ _ _ _ hin)
    · cases hst
  | dup =>
    have hn : n = 1 := by simpa [kct, kln] using hk
    subst hn
    simp only [kex, kdup] at hst
    split at hst
    · split at hst
      · rename_i h0
        obtain ⟨rfl, rfl, rfl, rfl⟩ := k_go hst
        exact lv_dup hx hb hd (by rw [kv_cat]; exact h0) (kk _ _ _ _ _ hin)
      · cases hst
    · cases hst
  | pop =>
    have hn : n = 1 := by simpa [kct, kln] using hk
    subst hn
    simp only [kex, kpop] at hst
    split at hst
    · split at hst
      · rename_i h0
        obtain ⟨rfl, rfl, rfl, rfl⟩ := k_go hst
        exact lv_pop hx hb hd (by rw [kv_cat]; exact h0) (kk _ _ _ _ _ hin)
      · cases hst
    · cases hst
  | dup2 =>
    have hn : n = 1 := by simpa [kct, kln] using hk
    subst hn
    simp only [kex, kdup2] at hst
    split at hst
    · split at hst
      · rename_i h0
        obtain ⟨rfl, rfl, rfl, rfl⟩ := k_go hst
        exact lv_dup2_11 hx hb hd (by rw [kv_cat]; exact h0.1) (by rw [kv_cat]; exact h0.2) (kk _ _ _ _ _ hin)
      · cases hst
    · cases hst
  | dup_x1 =>
    have hn : n = 1 := by simpa [kct, kln] using hk
    subst hn
    simp only [kex, kdx1] at hst
    split at hst
    · split at hst
      · rename_i h0
        obtain ⟨rfl, rfl, rfl, rfl⟩ := k_go hst
        exact lv_dup_x1 hx hb hd (by rw [kv_cat]; exact h0.1) (by rw [kv_cat]; exact h0.2) (kk _ _ _ _ _ hin)
      · cases hst
    · cases hst
  | ifnonnull o =>
    simp only [kex, knn] at hst
    have hn : n = 3 ∧ (pc : Int) + o = (a : Int) := by simpa [kct] using hk
    obtain ⟨rfl, ht⟩ := hn
    split at hst
    · obtain ⟨rfl, rfl, rfl, rfl⟩ := k_go hst
      exact lv_ifnonnull hx hb hd ht (kk _ _ _ _ _ hin)
    · obtain ⟨rfl, rfl, rfl, rfl⟩ := k_go hst
      exact lv_ifnonnullN hx hb hd (kk _ _ _ _ _ hin)
    · cases hst
  | goto o =>
    have hn : n = 3 ∧ (pc : Int) + o = (a : Int) := by simpa [kct] using hk
    obtain ⟨rfl, ht⟩ := hn
    obtain ⟨rfl, rfl, rfl, rfl⟩ := k_go hst
    exact lv_goto hx hb hd ht (kk _ _ _ _ _ hin)
  | ifCond q o =>
    simp only [kex, kb1] at hst
    have hn : n = 3 ∧ (pc : Int) + o = (a : Int) := by simpa [kct] using hk
    obtain ⟨rfl, ht⟩ := hn
    split at hst
    · obtain ⟨rfl, rfl, rfl, rfl⟩ := k_br hst
      cases q with
      | eq => exact lv_if_eq hx hb hd ht (fun z => by have := kk _ _ _ _ _ hin; rw [if_pos (by simp [kcmp, z])] at this; exact this) (fun z => by have := kk _ _ _ _ _ hin; rw [if_neg (by simp [kcmp, z])] at this; exact this)
      | ne => exact lv_if_ne hx hb hd ht (fun z => by have := kk _ _ _ _ _ hin; rw [if_pos (by simp [kcmp, z])] at this; exact this) (fun z => by have := kk _ _ _ _ _ hin; rw [if_neg (by simp [kcmp, z])] at this; exact this)
      | lt => exact lv_if_lt hx hb hd ht (fun z => by have := kk _ _ _ _ _ hin; rw [if_pos (by simp [kcmp, z])] at this; exact this) (fun z => by have := kk _ _ _ _ _ hin; rw [if_neg (by simp [kcmp, z])] at this; exact this)
      | ge => exact lv_if_ge hx hb hd ht (fun z => by have := kk _ _ _ _ _ hin; rw [if_pos (by simp [kcmp, z])] at this; exact this) (fun z => by have := kk _ _ _ _ _ hin; rw [if_neg (by simp [kcmp, z])] at this; exact this)
      | gt => exact lv_if_gt hx hb hd ht (fun z => by have := kk _ _ _ _ _ hin; rw [if_pos (by simp [kcmp, z])] at this; exact this) (fun z => by have := kk _ _ _ _ _ hin; rw [if_neg (by simp [kcmp, z])] at this; exact this)
      | le => exact lv_if_le hx hb hd ht (fun z => by have := kk _ _ _ _ _ hin; rw [if_pos (by simp [kcmp, z])] at this; exact this) (fun z => by have := kk _ _ _ _ _ hin; rw [if_neg (by simp [kcmp, z])] at this; exact this)
    · cases hst
  | if_icmp q o =>
    simp only [kex, kb2] at hst
    have hn : n = 3 ∧ (pc : Int) + o = (a : Int) := by simpa [kct] using hk
    obtain ⟨rfl, ht⟩ := hn
    split at hst
    · obtain ⟨rfl, rfl, rfl, rfl⟩ := k_br hst
      cases q with
      | eq => exact lv_icmp_eq hx hb hd ht (fun z => by have := kk _ _ _ _ _ hin; rw [if_pos (by simp [kcmp, z])] at this; exact this) (fun z => by have := kk _ _ _ _ _ hin; rw [if_neg (by simp [kcmp, z])] at this; exact this)
      | ne => exact lv_icmp_ne hx hb hd ht (fun z => by have := kk _ _ _ _ _ hin; rw [if_pos (by simp [kcmp, z])] at this; exact this) (fun z => by have := kk _ _ _ _ _ hin; rw [if_neg (by simp [kcmp, z])] at this; exact this)
      | lt => exact lv_icmp_lt hx hb hd ht (fun z => by have := kk _ _ _ _ _ hin; rw [if_pos (by simp [kcmp, z])] at this; exact this) (fun z => by have := kk _ _ _ _ _ hin; rw [if_neg (by simp [kcmp, z])] at this; exact this)
      | ge => exact lv_icmp_ge hx hb hd ht (fun z => by have := kk _ _ _ _ _ hin; rw [if_pos (by simp [kcmp, z])] at this; exact this) (fun z => by have := kk _ _ _ _ _ hin; rw [if_neg (by simp [kcmp, z])] at this; exact this)
      | gt => exact lv_icmp_gt hx hb hd ht (fun z => by have := kk _ _ _ _ _ hin; rw [if_pos (by simp [kcmp, z])] at this; exact this) (fun z => by have := kk _ _ _ _ _ hin; rw [if_neg (by simp [kcmp, z])] at this; exact this)
      | le => exact lv_icmp_le hx hb hd ht (fun z => by have := kk _ _ _ _ _ hin; rw [if_pos (by simp [kcmp, z])] at this; exact this) (fun z => by have := kk _ _ _ _ _ hin; rw [if_neg (by simp [kcmp, z])] at this; exact this)
    · cases hst
  | tableswitch dd lo hi offs =>
    simp only [kex, kts] at hst
    split at hst
    · obtain ⟨z, hz, hpc, rfl, rfl, rfl⟩ := k_sw hst
      split at hz
      · rename_i hc
        cases hz
        exact lv_tableOut hx hb hd hc hpc (kk _ _ _ _ _ hin)
      · rename_i hc
        exact lv_tableIn hx hb hd (fun q => hc (Or.inl q)) (fun q => hc (Or.inr q)) hz hpc (kk _ _ _ _ _ hin)
    · cases hst
  | lookupswitch dd ps =>
    simp only [kex, klk] at hst
    split at hst
    · obtain ⟨z, hz, hpc, rfl, rfl, rfl⟩ := k_sw hst
      cases hz
      exact lv_lookup hx hb hd (by simpa [kct] using hk) rfl hpc (kk _ _ _ _ _ hin)
    · cases hst
  | getfield k =>
    simp only [kex, kgf] at hst
    split at hst
    · rename_i q S1
      obtain ⟨v, hv, hz⟩ := k_map hst
      cases hz
      exact k_getfield hcl hC hin hd hw hk hv (kk _ _ _ _ _ hin)
    · cases hst
  | putfield k =>
    simp only [kex, kpf] at hst
    split at hst
    · rename_i v q S1
      obtain ⟨h1, hv, hz⟩ := k_map hst
      cases hz
      exact k_putfield hcl hC hin hd hw hk hv kk
    · cases hst
  | arraylength =>
    have hn : n = 1 := by simpa [kct, kln] using hk
    subst hn
    simp only [kex, kal_] at hst
    split at hst
    · obtain ⟨v, hv, hz⟩ := k_map hst
      cases hz
      exact k_alen hC hin hd hv (kk _ _ _ _ _ hin)
    · cases hst
  | iaload =>
    have hn : n = 1 := by simpa [kct, kln] using hk
    subst hn
    simp only [kex, kia] at hst
    split at hst
    · obtain ⟨v, hv, hz⟩ := k_map hst
      cases hz
      exact k_iald hC hin hd hv (kk _ _ _ _ _ hin)
    · cases hst
  | baload =>
    have hn : n = 1 := by simpa [kct, kln] using hk
    subst hn
    simp only [kex, kba] at hst
    split at hst
    · obtain ⟨v, hv, hz⟩ := k_map hst
      cases hz
      exact k_bald hC hin hd hv (kk _ _ _ _ _ hin)
    · cases hst
  | laload =>
    have hn : n = 1 := by simpa [kct, kln] using hk
    subst hn
    simp only [kex, kla] at hst
    split at hst
    · obtain ⟨v, hv, hz⟩ := k_map hst
      cases hz
      exact k_lald hC hin hd hv (kk _ _ _ _ _ hin)
    · cases hst
  | aaload =>
    have hn : n = 1 := by simpa [kct, kln] using hk
    subst hn
    simp only [kex, kaa] at hst
    split at hst
    · obtain ⟨v, hv, hz⟩ := k_map hst
      cases hz
      exact k_aald hC hin hd hv (kk _ _ _ _ _ hin)
    · cases hst
  | iastore =>
    have hn : n = 1 := by simpa [kct, kln] using hk
    subst hn
    simp only [kex, kiS] at hst
    split at hst
    · obtain ⟨h1, hv, hz⟩ := k_map hst
      cases hz
      exact k_iast hC hin hd hv kk
    · cases hst
  | bastore =>
    have hn : n = 1 := by simpa [kct, kln] using hk
    subst hn
    simp only [kex, kbS] at hst
    split at hst
    · obtain ⟨h1, hv, hz⟩ := k_map hst
      cases hz
      exact k_bast hC hin hd hv kk
    · cases hst
  | lastore =>
    have hn : n = 1 := by simpa [kct, kln] using hk
    subst hn
    simp only [kex, klS] at hst
    split at hst
    · obtain ⟨h1, hv, hz⟩ := k_map hst
      cases hz
      exact k_last hC hin hd hv kk
    · cases hst
  | aastore =>
    simp only [kex, kaS] at hst
    have hn : n = 1 ∧ a = 8 := by simpa [kct] using hk
    obtain ⟨rfl, rfl⟩ := hn
    split at hst
    · obtain ⟨h1, hv, hz⟩ := k_map hst
      cases hz
      exact k_aast hC hin hd hv kk
    · cases hst
  | new k =>
    obtain ⟨rfl, rfl, rfl, rfl⟩ := k_go hst
    exact k_new hcl hC hin hd hw hk hroom kk
  | newarray ty =>
    simp only [kex, kna] at hst
    split at hst
    · split at hst
      · rename_i hv
        obtain ⟨e1, he, hz⟩ := k_map hst
        cases hz
        exact k_newa hC hin hd hw hk hv he hroom kk
      · cases hst
    · cases hst
  | anewarray k =>
    have hn : n = 3 := by simpa [kct, kln] using hk
    subst hn
    simp only [kex, knq] at hst
    split at hst
    · split at hst
      · rename_i hv
        obtain ⟨rfl, rfl, rfl, rfl⟩ := k_go hst
        exact k_anew hC hin hd hw hv rfl hroom kk
      · cases hst
    · cases hst
  | getstatic k =>
    obtain ⟨rfl, rfl, rfl, rfl⟩ := k_go hst
    exact k_gets hC hin hd hw hk (kk _ _ _ _ _ hin)
  | invokevirtual k =>
    simp only [kex, kiv] at hst
    split at hst
    · rename_i q R1 hq
      split at hst
      · rename_i hv
        exact k_virt hC hR hcall hin hd hw hk hq hv hst hroom kk
      · cases hst
    · cases hst
  | invokespecial k =>
    simp only [kex, kip] at hst
    split at hst
    · rename_i q R1 hq
      split at hst
      · rename_i hv
        exact k_spec hC hR hcall hin hd hw hk hq hv hst hroom kk
      · cases hst
    · cases hst
  | invokestatic k =>
    simp only [kex, kit] at hst
    split at hst
    · rename_i hx1
      unfold kcp at hst
      split at hst
      · split at hst
        · rename_i hcat
          obtain ⟨h1, hv, hz⟩ := k_map hst
          cases hz
          have hk2 : n = 3 ∧ 1 ≤ I.2.2.2.2.2.1 ∧ 8 + (nativeFrameWords "java/lang/System" "arraycopy" 5 + 11) ≤ I.2.2.2.2.2.2 := by
            simp only [kct, if_pos hx1, Bool.and_eq_true, beq_iff_eq, decide_eq_true_eq] at hk
            exact hk
          obtain ⟨rfl, hfr, hlo⟩ := hk2
          exact k_copy hC hR hin hd (fun w z => hw w (by simp only [kwd, if_pos hx1]; exact z)) hfr hlo hcat hv kk
        · cases hst
      · cases hst
    · rename_i hx1
      split at hst
      · rename_i hv
        exact k_stat hC hR hcall hin hd hw hk hx1 hv hst hroom kk
      · cases hst
  | ireturn =>
    simp only [kex, kri] at hst
    split at hst <;> (try split at hst) <;> cases hst
  | lreturn =>
    simp only [kex, krl] at hst
    split at hst <;> (try split at hst) <;> cases hst
  | areturn =>
    simp only [kex, kra] at hst
    split at hst <;> (try split at hst) <;> cases hst
  | return_ =>
    simp only [kex, krv] at hst
    split at hst <;> (try split at hst) <;> cases hst
  | _ => cases hst
end KT
