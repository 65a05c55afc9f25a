/-! OWN: rows copied, methods called -/
theorem k_goodw {w0 : Cond} (h : w0 ∈ kWs) : GoodIn kWs (w0 :: kWs) := fun w hw => by
  rcases List.mem_cons.mp hw with e | e
  · rw [e]; exact k_good _ h
  · exact k_good _ e
section KQ
variable {p : Program} {l : Launch} {e : Env} {R : Room} {s : State} {m : MethodId} {args : Array Value} {below : List Frame} {meth : Method} {c : Code} {Q : State → Prop}
variable {D : va_G} {ad : Nat → Nat} {base : Nat} {I : kMI} {H : Heap} {locs : List Loc} {cells slots : Nat} {ls : Array Slot} {L : kL} {h : kH} {K J pc : Nat}
theorem k_copy (hC : kCx p s m args meth c D ad base I) (hR : I.2.2.2.2.2.1 ≤ R.frames ∧ I.2.2.2.2.2.2 ≤ R.locals) (hin : kIn s D ad base I K J L h H locs cells slots ls) {k q0 q1 : Nat} {sp dp n : Int32} {R1 : List Value} {h1 : kH} (hd : decode I.2.1 pc = .ok (.invokestatic k, 3)) (hw : ∀ w ∈ [Cond.methodLink I.2.2.2.2.1 k arraycopyName, .native arraycopyName, .static arraycopyName, .initialized "java/lang/System"], w ∈ kWs) (hfr : 1 ≤ I.2.2.2.2.2.1) (hlo : 8 + (nativeFrameWords "java/lang/System" "arraycopy" 5 + 11) ≤ I.2.2.2.2.2.2) (hcat : kcat R1 ≤ 8) (hv : kcopy h q0 sp q1 dp n = some h1)
    (kk : kKont p l e R s m args below meth c Q D ad base I K J (pc + 3) L R1 h1) : W p l e R s m args below meth c H locs cells slots Q (F0 m pc ls ((.int n :: .int dp :: .ref q1 :: .int sp :: .ref q0 :: R1).map (kv ad))) := by
  obtain ⟨hx, hb, hml, hown, hts, hnm, hK, had, hNw, hbs, hZ⟩ := id hC
  obtain ⟨hl, hlen, hrel, hS, hcs, hss⟩ := id hin
  unfold kcopy at hv
  split at hv
  · rename_i n0 f n1 g he0 he1
    split at hv
    · rename_i hc
      obtain ⟨hi, hj, hn, hb0, hb1, h320, h321⟩ := hc
      cases hv
      have c1 := k_cl hi
      have c2 := k_cl hj
      have c3 := k_cl hn
      rcases hrel.2.2.1 q0 _ he0 with ⟨h33, _⟩ | ⟨_, cA0, g1, g2, g3⟩
      · omega
      rcases hrel.2.2.1 q1 _ he1 with ⟨h33, _⟩ | ⟨_, cA1, d1, d2, d3⟩
      · omega
      have hc0 : H[ad q0]? = some (vp_cell cA0 (n0, .inl f)) := g1
      have hc1 : H[ad q1]? = some (vp_cell cA1 (n1, .inl g)) := d1
      intro T hT X
      obtain ⟨-, k0, hk0, cm0, hkk0⟩ := g2 n0 (fun j => .int (f j))
      obtain ⟨-, k1, hk1, cm1, hkk1⟩ := d2 n1 (fun j => .int (g j))
      obtain ⟨vm', X', step⟩ := X.arraycopy (index := k) hx hown (hts _ (hw _ (by simp))) (hts _ (hw _ (by simp))) (hts _ (hw _ (by simp))) (hts _ (hw _ (by simp))) (src := ad q0) (dst := ad q1) (cs := vp_cell cA0 (n0, .inl f)) (cd := vp_cell cA1 (n1, .inl g)) (srcPos := sp) (destPos := dp) (n := n) (by rw [hT]; exact hc0) (by rw [hT]; exact hc1)
        (fun _ h => by cases h) (fun _ h => by cases h) (fun h => by cases h) (fun h => by cases h) hk0 hk1 hkk0 hkk1 (by decide) (k_neg hi) (k_neg hj) (k_neg hn)
        (by show ¬ _ > ((arrV cA0 n0 (fun j => .int (f j))).slots.size : Int); rw [arrV_size]; omega)
        (by show ¬ _ > ((arrV cA1 n1 (fun j => .int (g j))).slots.size : Int); rw [arrV_size]; omega)
        (fun vm₁ _ i hi2 => by
          have e : (vp_cell cA0 (n0, .inl f)).slots.getD (sp.toNatClampNeg + i) .null = .int (f (sp.toNatClampNeg + i)) := by
            show (arrV cA0 n0 (fun j => .int (f j))).slots.getD _ _ = _
            rw [Array.getD_eq_getD_getElem?, arrV_read _ _ (by omega)]
            rfl
          refine ⟨?_, ?_⟩
          · rw [e]
            rfl
          · rw [e]
            exact trivial)
        (g := F0 m pc ls ((.int n :: .int dp :: .ref q1 :: .int sp :: .ref q0 :: R1).map (kv ad))) rfl (by rw [hml]; exact hl.1) (rest := R1.map (kv ad)) rfl (by rw [hb]; exact hd) (by omega) (by rw [kcat_map]; show 2 * 0 + _ + _ ≤ _; omega)
      have e1 : copied (vp_cell cA0 (n0, .inl f)) (vp_cell cA1 (n1, .inl g)) sp dp n = vp_cell cA1 (n1, .inl (va_cpy f g sp.toNatClampNeg dp.toNatClampNeg n.toNatClampNeg)) := va_copied (fun z => .int z) cA0 cA1 f g (by omega)
      rw [e1] at X' step
      have hla : ad q1 < H.size := (Array.getElem?_eq_some_iff.mp hc1).1
      have hheap : ((T.setVm vm').setCell (ad q1) (vp_cell cA1 (n1, .inl (va_cpy f g sp.toNatClampNeg dp.toNatClampNeg n.toNatClampNeg)))).heap = H.setIfInBounds (ad q1) (vp_cell cA1 (n1, .inl (va_cpy f g sp.toNatClampNeg dp.toNatClampNeg n.toNatClampNeg))) := by rw [← hT]; rfl
      have oq : ∀ q : Nat, q ≠ ad q1 → (H.setIfInBounds (ad q1) (vp_cell cA1 (n1, .inl (va_cpy f g sp.toNatClampNeg dp.toNatClampNeg n.toNatClampNeg))))[q]? = H[q]? := fun q hq => by simp [Array.getElem?_setIfInBounds, Ne.symm hq]
      obtain ⟨t, a1, b1⟩ := kk _ _ _ _ ls ⟨hl, hlen, hrel.put had h321 (by simp) oq (Or.inr ⟨h321, cA1, show (H.setIfInBounds (ad q1) _)[ad q1]? = some _ by rw [Array.getElem?_setIfInBounds_self_of_lt hla]; rfl, d2, d3⟩), ⟨by simp; exact hS.1, fun q z1 z2 => by
          rw [oq q (fun e => z2 (by rw [e]; exact had.base h321))]
          exact hS.2.1 q z1 z2, fun q hq => by
          rcases List.mem_append.mp hq with h | h
          · exact hS.2.2 q h
          · obtain ⟨z, -, hz⟩ := List.mem_map.mp h
            rw [← hz]
            exact had.base h321⟩, hcs, hss⟩ _ hheap X'
      exact ⟨t, step t a1, b1⟩
    · cases hv
  · rename_i n0 f n1 g he0 he1
    split at hv
    · rename_i hc
      obtain ⟨hi, hj, hn, hb0, hb1, h321, hfit⟩ := hc
      cases hv
      have c1 := k_cl hi
      have c2 := k_cl hj
      have c3 := k_cl hn
      have hsrc : ∃ scr : Cell, H[ad q0]? = some scr ∧ s.isArrayOf scr .byte ∧ scr.vm ≠ .unknown ∧ n0 ≤ scr.slots.size ∧ ∀ j : Nat, j < n0 → scr.slots[j]? = some (.int (f j)) := by
        rcases hrel.2.2.1 q0 _ he0 with ⟨h33, _, n', f', e1, scr, g1, g2, g3, g4, g5⟩ | ⟨_, cA0, g1, g2, g3⟩
        · cases e1
          exact ⟨scr, g1, g2, g3, g4.1, g5⟩
        · exact ⟨_, g1, k_isArr ad g2 _, (fun z => by cases z), by rw [k_size]; exact Nat.le_refl _, fun j hj => arrV_read _ _ hj⟩
      obtain ⟨scr, hc0, hs2, hs3, hs4, hs5⟩ := hsrc
      rcases hrel.2.2.1 q1 _ he1 with ⟨h33, _⟩ | ⟨_, cA1, d1, d2, d3⟩
      · omega
      have hc1 : H[ad q1]? = some (vp_cell cA1 (n1, .inl g)) := d1
      intro T hT X
      obtain ⟨hs6, k0, hk0, cm0, hkk0⟩ := hs2
      obtain ⟨-, k1, hk1, cm1, hkk1⟩ := d2 n1 (fun j => .int (g j))
      obtain ⟨vm', X', step⟩ := X.arraycopy (index := k) hx hown (hts _ (hw _ (by simp))) (hts _ (hw _ (by simp))) (hts _ (hw _ (by simp))) (hts _ (hw _ (by simp))) (src := ad q0) (dst := ad q1) (cs := scr) (cd := vp_cell cA1 (n1, .inl g)) (srcPos := sp) (destPos := dp) (n := n) (by rw [hT]; exact hc0) (by rw [hT]; exact hc1)
        hs6 (fun _ h => by cases h) hs3 (fun h => by cases h) hk0 hk1 hkk0 hkk1 (by simp [refKind]) (k_neg hi) (k_neg hj) (k_neg hn)
        (by omega)
        (by show ¬ _ > ((arrV cA1 n1 (fun j => .int (g j))).slots.size : Int); rw [arrV_size]; omega)
        (fun vm₁ _ i hi2 => by
          have e : scr.slots.getD (sp.toNatClampNeg + i) .null = .int (f (sp.toNatClampNeg + i)) := by
            rw [Array.getD_eq_getD_getElem?, hs5 _ (by omega)]
            rfl
          refine ⟨?_, ?_⟩
          · rw [e, ← hfit i (by omega)]
            exact pk_fb _
          · rw [e]
            exact trivial)
        (g := F0 m pc ls ((.int n :: .int dp :: .ref q1 :: .int sp :: .ref q0 :: R1).map (kv ad))) rfl (by rw [hml]; exact hl.1) (rest := R1.map (kv ad)) rfl (by rw [hb]; exact hd) (by omega) (by rw [kcat_map]; show 2 * 0 + _ + _ ≤ _; omega)
      have e1 : copied scr (vp_cell cA1 (n1, .inl g)) sp dp n = vp_cell cA1 (n1, .inl (va_cpy f g sp.toNatClampNeg dp.toNatClampNeg n.toNatClampNeg)) := va_copiedX (fun z => .int z) scr cA1 f g hs5 (by omega)
      rw [e1] at X' step
      have hla : ad q1 < H.size := (Array.getElem?_eq_some_iff.mp hc1).1
      have hheap : ((T.setVm vm').setCell (ad q1) (vp_cell cA1 (n1, .inl (va_cpy f g sp.toNatClampNeg dp.toNatClampNeg n.toNatClampNeg)))).heap = H.setIfInBounds (ad q1) (vp_cell cA1 (n1, .inl (va_cpy f g sp.toNatClampNeg dp.toNatClampNeg n.toNatClampNeg))) := by rw [← hT]; rfl
      have oq : ∀ q : Nat, q ≠ ad q1 → (H.setIfInBounds (ad q1) (vp_cell cA1 (n1, .inl (va_cpy f g sp.toNatClampNeg dp.toNatClampNeg n.toNatClampNeg))))[q]? = H[q]? := fun q hq => by simp [Array.getElem?_setIfInBounds, Ne.symm hq]
      obtain ⟨t, a1, b1⟩ := kk _ _ _ _ ls ⟨hl, hlen, hrel.put had h321 (by simp) oq (Or.inr ⟨h321, cA1, show (H.setIfInBounds (ad q1) _)[ad q1]? = some _ by rw [Array.getElem?_setIfInBounds_self_of_lt hla]; rfl, d2, d3⟩), ⟨by simp; exact hS.1, fun q z1 z2 => by
          rw [oq q (fun e => z2 (by rw [e]; exact had.base h321))]
          exact hS.2.1 q z1 z2, fun q hq => by
          rcases List.mem_append.mp hq with h | h
          · exact hS.2.2 q h
          · obtain ⟨z, -, hz⟩ := List.mem_map.mp h
            rw [← hz]
            exact had.base h321⟩, hcs, hss⟩ _ hheap X'
      exact ⟨t, step t a1, b1⟩
    · cases hv
  · cases hv
theorem k_rr {o : Option kR} {pc' : Nat} {L' : kL} {S' R1 : List Value} {h' : kH} (g : krr o pc L R1 = some (.inl (pc', L', S', h'))) : ∃ r : Option Value, o = some (r, h') ∧ pc' = pc ∧ L' = L ∧ S' = r.toList ++ R1 := by
  unfold krr at g
  cases o with
  | none => cases g
  | some r =>
    simp only [Option.map_some, Option.some.injEq, Sum.inl.injEq, Prod.mk.injEq] at g
    obtain ⟨e1, e2, e3, e4⟩ := g
    exact ⟨r.1, by rw [← e4], e1.symm, e2.symm, e3.symm⟩
/-- what a call leaves -/
theorem k_after (hC : kCx p s m args meth c D ad base I) (hin : kIn s D ad base I K J L h H locs cells slots ls) {r : Option Value} {h' : kH} (m1 : h.2.1 ≤ h'.2.1) (m2 : h.2.2 ≤ h'.2.2) {R1 : List Value} {st0 : List Value} {Qa : State → Outcome → State → Prop}
    (hQ : ∀ (st : State) (v : Option Value) (t : State), Qa st (.returned v) t → v = r.map (kv ad) ∧ kRel D ad base h' t t.heap ∧ va_F (kA base) st t)
    (hr : va_Run p l e R s m args below meth c H locs cells slots (h'.2.1 - h.2.1) (h'.2.2 - h.2.2) (F0 m pc ls st0) (R1.map (kv ad)) Qa (kA base))
    (kk : kKont p l e R s m args below meth c Q D ad base I K J (pc + 3) L (r.toList ++ R1) h') : W p l e R s m args below meth c H locs cells slots Q (F0 m pc ls st0) := by
  obtain ⟨hx, hb, hml, hown, hts, hnm, hK, had, hNw, hbs, hZ⟩ := id hC
  obtain ⟨hl, hlen, hrel, hS, hcs, hss⟩ := id hin
  refine k_call hr fun v st t Lo h0 hal hL hq => ?_
  obtain ⟨rfl, hrel', hF⟩ := hQ st v t hq
  have hko := kk t.heap (locs ++ Lo) (cells + (h'.2.1 - h.2.1)) (slots + (h'.2.2 - h.2.2)) ls ⟨hl, hlen, hrel'.moved hal.symm, ⟨Nat.le_trans hS.1 (by rw [← h0]; exact hF.1), fun q z1 z2 => by
      rw [hF.2 q (by rw [h0]; exact Nat.lt_of_lt_of_le z1 hS.1) z2, h0]
      exact hS.2.1 q z1 z2, fun q hq => by
      rcases List.mem_append.mp hq with z | z
      · exact hS.2.2 q z
      · exact hL q z⟩, by omega, by omega⟩
  have e1 : (r.map (kv ad)).toList ++ R1.map (kv ad) = (r.toList ++ R1).map (kv ad) := by cases r <;> rfl
  rw [e1]
  exact hko
theorem k_room (R1 : List Value) (hv : kcat R1 ≤ 8) {st : List Value} : 2 * (F0 m pc ls st).monitorRoom + ((R1.map (kv ad)).map fun v => v.category).sum ≤ 8 := by
  rw [kcat_map]
  show 2 * 0 + _ ≤ 8
  omega
theorem k_pre (hC : kCx p s m args meth c D ad base I) (hin : kIn s D ad base I K J L h H locs cells slots ls) {As : List Value} : ∀ U : State, U.heap = H → s.WarmedH U.vm → ((As.map (kv ad)).toArray = (As.map (kv ad)).toArray ∧ kRel D ad base h U U.heap ∧ va_K D vwCl [] U ∧ kNw ad U ∧ base ≤ U.heap.size) := by
  obtain ⟨hx, hb, hml, hown, hts, hnm, hK, had, hNw, hbs, hZ⟩ := id hC
  obtain ⟨hl, hlen, hrel, hS, hcs, hss⟩ := id hin
  intro U hU hW
  exact ⟨rfl, by rw [hU]; exact hrel.moved hW.alike, va_K.moved hW.alike hK, hNw.warm hW, by rw [hU]; exact Nat.le_trans hbs hS.1⟩
theorem k_callee {a b : Nat} (hk : kca I a b = true) : ∃ Jn : kMI, kmi[a]? = some Jn ∧ Jn.2.2.2.2.2.1 + 1 ≤ I.2.2.2.2.2.1 ∧ 8 + (Jn.2.2.1 + 11) + Jn.2.2.2.2.2.2 ≤ I.2.2.2.2.2.2 ∧ (Jn.1.cls ≠ "java/lang/invoke/MethodHandle" ∧ Jn.1.cls ≠ "java/lang/invoke/VarHandle") ∧ (parseMethodDescriptor Jn.1.desc).map (fun d => d.parameters.length) = some b := by
  unfold kca at hk
  split at hk
  · rename_i Jn hJ
    simp only [Bool.and_eq_true, decide_eq_true_eq] at hk
    exact ⟨Jn, hJ, hk.1, hk.2.1, hk.2.2.1, hk.2.2.2⟩
  · cases hk
theorem k_split {S R1 : List Value} {b q : Nat} (hq : S.drop b = .ref q :: R1) : S.map (kv ad) = (((S.take b).reverse).map (kv ad)).reverse ++ .ref (ad q) :: R1.map (kv ad) ∧ (((S.take b).reverse).map (kv ad)).length = b := by
  have e : S = S.take b ++ .ref q :: R1 := by rw [← hq, List.take_append_drop]
  have hlt : b < S.length := by
    rcases Nat.lt_or_ge b S.length with z | z
    · exact z
    · rw [List.drop_eq_nil_of_le z] at hq; cases hq
  refine ⟨?_, by simp; omega⟩
  rw [List.map_reverse, List.reverse_reverse]
  conv => lhs; rw [e]
  rw [List.map_append]
  rfl
abbrev kCalls (l : Launch) (D : va_G) (ad : Nat → Nat) (base : Nat) (call : Nat → List Value → kH → Option kR) : Prop := ∀ (y : Nat) (As : List Value) (h : kH) (r : Option Value) (h' : kH), call y As h = some (r, h') → kMet l D ad base y As h r h'
theorem k_virt (hC : kCx p s m args meth c D ad base I) (hR : I.2.2.2.2.2.1 ≤ R.frames ∧ I.2.2.2.2.2.2 ≤ R.locals) {call : Nat → List Value → kH → Option kR} (hcall : kCalls l D ad base call) (hin : kIn s D ad base I K J L h H locs cells slots ls) {k n a b q pc' : Nat} {x : Int} {S R1 S' : List Value} {L' : kL} {h' : kH} (hd : decode I.2.1 pc = .ok (.invokevirtual k, n)) (hw : ∀ w ∈ kwd I.2.2.2.2.1 ((.invokevirtual k, n), a, b, x), w ∈ kWs) (hk : kct I (pc, (.invokevirtual k, n), a, b, x) = true) (hq : S.drop b = .ref q :: R1) (hv : kis h x.toNat q = true ∧ kcat R1 ≤ 8)
    (hst : krr (call a (.ref q :: (S.take b).reverse) h) (pc + n) L R1 = some (.inl (pc', L', S', h'))) (hroom : h'.2.1 ≤ K + R.cells ∧ h'.2.2 ≤ J + R.slots) (kk : kKont p l e R s m args below meth c Q D ad base I K J pc' L' S' h') : W p l e R s m args below meth c H locs cells slots Q (F0 m pc ls (S.map (kv ad))) := by
  obtain ⟨hx, hb, hml, hown, hts, hnm, hK, had, hNw, hbs, hZ⟩ := id hC
  obtain ⟨hl, hlen, hrel, hS, hcs, hss⟩ := id hin
  simp only [kct, Bool.and_eq_true, beq_iff_eq] at hk
  obtain ⟨rfl, hca⟩ := hk
  obtain ⟨Jn, hJ, hf1, hf2, hmh, hpd⟩ := k_callee hca
  obtain ⟨r, hc, rfl, rfl, rfl⟩ := k_rr hst
  obtain ⟨m1, m2, hM⟩ := hcall _ _ _ _ _ hc
  have hM := hM Jn hJ
  obtain ⟨fs, hfs⟩ := k_isobj hv.1
  have hrcv : ∃ cellB : Cell, H[ad q]? = some cellB ∧ cellB.vm.isStatics = false ∧ s.vm.findClass (kcn x) = some cellB.cls := by
    rcases hrel.2.2.1 q _ hfs with ⟨-, rC, hr, -, cellB, w1, w2, w3, -⟩ | ⟨_, h14, q9, -, ⟨cellB, w1, w2, w3, -⟩, -⟩
    · exact ⟨cellB, w1, by rw [w3]; rfl, by simp only [kcn, hr]; rw [w2]; exact (hK.1 _ _ hr).2.1⟩
    · exact ⟨cellB, w1, w2, by rw [show kcn x = "java/lang/String" by simp only [kcn, h14]; rfl]; exact w3⟩
  have hw5 : ∀ w ∈ [Cond.code Jn.1 Jn.2.1 Jn.2.2.1 Jn.2.2.2.1, .initialized Jn.1.cls, .methodLink I.2.2.2.2.1 k Jn.1, .instanceMethod Jn.1, .selects (kcn x) Jn.1 Jn.1], w ∈ kWs := fun w z => hw w (by simp only [kwd, hJ]; exact z)
  obtain ⟨hstk, hal⟩ := k_split (ad := ad) hq
  refine k_after hC hin m1 m2 (r := r) (R1 := R1) (fun st v t z => ⟨by have := z.1; simpa using this, z.2⟩) (va_runV (C := kcn x) (As := ((S.take b).reverse).map (kv ad)) (rest := R1.map (kv ad)) ⟨hx, hb, hml, hown, hts⟩ hM
    ⟨callB_of b hts (k_goodc (hw5 _ (by simp))) rfl rfl rfl (hts _ (hw5 _ (by simp))) (hts _ (hw5 _ (by simp))) ⟨hmh.1, hmh.2, hpd⟩ ⟨by show Jn.2.2.2.2.2.1 + 1 ≤ _; omega, by show 8 + (Jn.2.2.1 + 11) + Jn.2.2.2.2.2.2 ≤ _; omega⟩, hts _ (hw5 _ (by simp)), hts _ (hw5 _ (by simp))⟩
    ⟨k_blind, hrcv, k_pre hC hin (As := .ref q :: (S.take b).reverse)⟩ rfl hal hl.1 hstk (k_room R1 hv.2) hd ⟨by omega, by omega⟩) kk
theorem k_spec (hC : kCx p s m args meth c D ad base I) (hR : I.2.2.2.2.2.1 ≤ R.frames ∧ I.2.2.2.2.2.2 ≤ R.locals) {call : Nat → List Value → kH → Option kR} (hcall : kCalls l D ad base call) (hin : kIn s D ad base I K J L h H locs cells slots ls) {k n a b q pc' : Nat} {x : Int} {S R1 S' : List Value} {L' : kL} {h' : kH} (hd : decode I.2.1 pc = .ok (.invokespecial k, n)) (hw : ∀ w ∈ kwd I.2.2.2.2.1 ((.invokespecial k, n), a, b, x), w ∈ kWs) (hk : kct I (pc, (.invokespecial k, n), a, b, x) = true) (hq : S.drop b = .ref q :: R1) (hv : kcat R1 ≤ 8)
    (hst : (if x = -1 then kgo (pc + n) L R1 h else if x = 2 then (if kis h 0 q = true then krr (call a (.ref q :: (S.take b).reverse) h) (pc + n) L R1 else none) else krr (call a (.ref q :: (S.take b).reverse) h) (pc + n) L R1) = some (.inl (pc', L', S', h'))) (hroom : h'.2.1 ≤ K + R.cells ∧ h'.2.2 ≤ J + R.slots) (kk : kKont p l e R s m args below meth c Q D ad base I K J pc' L' S' h') : W p l e R s m args below meth c H locs cells slots Q (F0 m pc ls (S.map (kv ad))) := by
  obtain ⟨hx, hb, hml, hown, hts, hnm, hK, had, hNw, hbs, hZ⟩ := id hC
  obtain ⟨hl, hlen, hrel, hS, hcs, hss⟩ := id hin
  simp only [kct, Bool.and_eq_true, beq_iff_eq] at hk
  obtain ⟨rfl, hk⟩ := hk
  by_cases hx1 : x = -1
  · rw [if_pos hx1] at hk hst
    simp only [Bool.and_eq_true, decide_eq_true_eq] at hk
    obtain ⟨rfl, hfr, hlo⟩ := hk
    obtain ⟨rfl, rfl, rfl, rfl⟩ : pc' = pc + 3 ∧ L' = L ∧ S' = R1 ∧ h' = h := by
      simp only [kgo, Option.some.injEq, Sum.inl.injEq, Prod.mk.injEq] at hst
      exact ⟨hst.1.symm, hst.2.1.symm, hst.2.2.1.symm, hst.2.2.2.symm⟩
    rw [List.drop_zero] at hq
    subst hq
    have hw5 : ∀ w ∈ [Cond.methodLink I.2.2.2.2.1 k objectInit, .instanceMethod objectInit, .code objectInit ⟨#[0xb1]⟩ 1 none], w ∈ kWs := fun w z => hw w (by simp only [kwd, if_pos hx1]; exact z)
    exact W.objInit hx hb hown (hts _ (hw5 _ (by simp))) (hts _ (hw5 _ (by simp))) (hts _ (hw5 _ (by simp))) rfl (by rw [hml]; exact hl.1) rfl hd (by omega) (by rw [kcat_map]; show 2 * 0 + _ + 12 ≤ _; omega) (kk _ _ _ _ _ hin)
  · rw [if_neg hx1] at hk hst
    simp only [Bool.and_eq_true] at hk
    obtain ⟨hca, hcl⟩ := hk
    obtain ⟨Jn, hJ, hf1, hf2, hmh, hpd⟩ := k_callee hca
    by_cases hxs : x = 2
    · subst hxs
      simp only [hJ, if_true, decide_eq_true_eq] at hcl
      rw [if_pos rfl] at hst
      split at hst
      case isFalse => cases hst
      rename_i hkis
      obtain ⟨r, hc, rfl, rfl, rfl⟩ := k_rr hst
      obtain ⟨m1, m2, hM⟩ := hcall _ _ _ _ _ hc
      have hM := hM Jn hJ
      obtain ⟨hstk, hal⟩ := k_split (ad := ad) hq
      obtain ⟨fs, hfs⟩ := k_isobj hkis
      rcases hrel.2.2.1 q _ hfs with hat | ⟨_, h14, _⟩
      case inr => cases h14
      obtain ⟨-, rC, hr, -, cellB, w1, w2, w3, -⟩ := hat
      have hw5 : ∀ w ∈ [Cond.code Jn.1 Jn.2.1 Jn.2.2.1 Jn.2.2.2.1, .initialized Jn.1.cls, .instanceMethod Jn.1, .methodLink I.2.2.2.2.1 k Jn.1, .sameMethod Jn.1.cls Jn.1.cls Jn.1.name Jn.1.desc, .superclass I.2.2.2.2.1 Jn.1.cls], w ∈ kWs := fun w z => hw w (by simp only [kwd, if_neg hx1, hJ]; simpa using z)
      have hG : GoodIn kWs (va_wsSU I.2.2.2.2.1 k Jn.1 (.code Jn.1 Jn.2.1 Jn.2.2.1 Jn.2.2.2.1 :: kWs)) := fun w z => by
        unfold va_wsSU at z
        rcases List.mem_append.mp z with z | z
        · exact k_good _ (hw5 w (by simp only [List.mem_cons, List.not_mem_nil, or_false] at z ⊢; rcases z with z | z | z | z | z <;> simp [z]))
        · exact k_goodc (hw5 _ (by simp)) w z
      refine k_after hC hin m1 m2 (r := r) (R1 := R1) (fun st v t z => ⟨by have := z.1; simpa using this, z.2⟩) (va_runSU (C := rC.1) (As := ((S.take b).reverse).map (kv ad)) (rest := R1.map (kv ad)) (hK.1 _ _ hr).2 ⟨hx, hb, hml, hown, hts⟩ hM
        (va_cwSU b hts hG rfl rfl rfl ⟨hcl, hpd⟩ ⟨by show Jn.2.2.2.2.2.1 + 1 ≤ _; omega, by show 8 + (Jn.2.2.1 + 11) + Jn.2.2.2.2.2.2 ≤ _; omega⟩)
        ⟨k_blind, ⟨cellB, w1, by rw [w3]; rfl, by rw [w2]; exact (hK.1 _ _ hr).2.1⟩, k_pre hC hin (As := .ref q :: (S.take b).reverse)⟩ rfl hal hl.1 hstk (k_room R1 hv) hd ⟨by omega, by omega⟩) kk
    simp only [hJ, if_neg hxs, Bool.and_eq_true, decide_eq_true_eq] at hcl
    obtain ⟨hni, hrt, hns⟩ := hcl
    rw [if_neg hxs] at hst
    obtain ⟨r, hc, rfl, rfl, rfl⟩ := k_rr hst
    obtain ⟨m1, m2, hM⟩ := hcall _ _ _ _ _ hc
    have hM := hM Jn hJ
    obtain ⟨hstk, hal⟩ := k_split (ad := ad) hq
    have hw5 : ∀ w ∈ [Cond.code Jn.1 Jn.2.1 Jn.2.2.1 Jn.2.2.2.1, .initialized Jn.1.cls, .instanceMethod Jn.1] ++ (if x = 1 then [] else [.methodLink I.2.2.2.2.1 k Jn.1]), w ∈ kWs := fun w z => hw w (by simp only [kwd, if_neg hx1, if_neg hxs, hJ]; exact z)
    have hQ : ∀ (st : State) (v : Option Value) (t : State), (fun (_ : Array Value) (st : State) (oc : Outcome) (t : State) => oc = .returned (r.map (kv ad)) ∧ kRel D ad base h' t t.heap ∧ va_F (kA base) st t) (Value.ref (ad q) :: ((S.take b).reverse).map (kv ad)).toArray st (.returned v) t → v = r.map (kv ad) ∧ kRel D ad base h' t t.heap ∧ va_F (kA base) st t := fun st v t z => ⟨by have := z.1; simpa using this, z.2⟩
    have hcode := hw5 _ (List.mem_append_left _ (List.mem_cons_self))
    have hini := hw5 (.initialized Jn.1.cls) (List.mem_append_left _ (by simp))
    have hinst := hw5 (.instanceMethod Jn.1) (List.mem_append_left _ (by simp))
    rw [hrt] at hM hcode
    by_cases hx2 : x = 1
    · rw [if_pos hx2] at hns
      have hns := of_decide_eq_true hns
      refine k_after hC hin m1 m2 (r := r) (R1 := R1) hQ (va_runIN (host := "KnockFinder") (As := ((S.take b).reverse).map (kv ad)) (rest := R1.map (kv ad)) ⟨hx, hb, hml, hown, hts⟩ hM
        ⟨va_cnB b hts (k_goodw hcode) rfl rfl rfl (hNw.1 _ hns) (hts _ hini) ⟨hmh.1, hmh.2, hpd⟩ ⟨by show Jn.2.2.2.2.2.1 + 1 ≤ _; omega, by show 8 + (Jn.2.2.1 + 11) + Jn.2.2.2.2.2.2 ≤ _; omega⟩, hni, hts _ hinst⟩
        ⟨k_blind, k_pre hC hin (As := .ref q :: (S.take b).reverse)⟩ rfl hal hl.1 hstk (k_room R1 hv) hd ⟨by omega, by omega⟩) kk
    · have hlink := hw5 (.methodLink I.2.2.2.2.1 k Jn.1) (List.mem_append_right _ (by rw [if_neg hx2]; simp))
      refine k_after hC hin m1 m2 (r := r) (R1 := R1) hQ (va_runI (As := ((S.take b).reverse).map (kv ad)) (rest := R1.map (kv ad)) ⟨hx, hb, hml, hown, hts⟩ hM
        ⟨callB_of b hts (k_goodw hcode) rfl rfl rfl (hts _ hini) (hts _ hlink) ⟨hmh.1, hmh.2, hpd⟩ ⟨by show Jn.2.2.2.2.2.1 + 1 ≤ _; omega, by show 8 + (Jn.2.2.1 + 11) + Jn.2.2.2.2.2.2 ≤ _; omega⟩, hni, hts _ hinst⟩
        ⟨k_blind, k_pre hC hin (As := .ref q :: (S.take b).reverse)⟩ rfl hal hl.1 hstk (k_room R1 hv) hd ⟨by omega, by omega⟩) kk
theorem k_stat (hC : kCx p s m args meth c D ad base I) (hR : I.2.2.2.2.2.1 ≤ R.frames ∧ I.2.2.2.2.2.2 ≤ R.locals) {call : Nat → List Value → kH → Option kR} (hcall : kCalls l D ad base call) (hin : kIn s D ad base I K J L h H locs cells slots ls) {k n a b pc' : Nat} {x : Int} {S S' : List Value} {L' : kL} {h' : kH} (hd : decode I.2.1 pc = .ok (.invokestatic k, n)) (hw : ∀ w ∈ kwd I.2.2.2.2.1 ((.invokestatic k, n), a, b, x), w ∈ kWs) (hk : kct I (pc, (.invokestatic k, n), a, b, x) = true)
    (hx0 : ¬ x = -1) (hv : b ≤ S.length ∧ kcat (S.drop b) ≤ 8) (hst : krr (call a (S.take b).reverse h) (pc + n) L (S.drop b) = some (.inl (pc', L', S', h'))) (hroom : h'.2.1 ≤ K + R.cells ∧ h'.2.2 ≤ J + R.slots) (kk : kKont p l e R s m args below meth c Q D ad base I K J pc' L' S' h') : W p l e R s m args below meth c H locs cells slots Q (F0 m pc ls (S.map (kv ad))) := by
  obtain ⟨hx, hb, hml, hown, hts, hnm, hK, had, hNw, hbs, hZ⟩ := id hC
  obtain ⟨hl, hlen, hrel, hS, hcs, hss⟩ := id hin
  simp only [kct, Bool.and_eq_true, beq_iff_eq] at hk
  obtain ⟨rfl, hk⟩ := hk
  rw [if_neg hx0] at hk
  simp only [Bool.and_eq_true] at hk
  obtain ⟨hca, hns⟩ := hk
  obtain ⟨Jn, hJ, hf1, hf2, hmh, hpd⟩ := k_callee hca
  simp only [hJ] at hns
  obtain ⟨r, hc, rfl, rfl, rfl⟩ := k_rr hst
  obtain ⟨m1, m2, hM⟩ := hcall _ _ _ _ _ hc
  have hM := hM Jn hJ
  have hstk : S.map (kv ad) = (((S.take b).reverse).map (kv ad)).reverse ++ (S.drop b).map (kv ad) := by
    rw [List.map_reverse, List.reverse_reverse, ← List.map_append, List.take_append_drop]
  have hal : (((S.take b).reverse).map (kv ad)).length = b := by simp; omega
  have hw5 : ∀ w ∈ [Cond.code Jn.1 Jn.2.1 Jn.2.2.1 Jn.2.2.2.1, .initialized Jn.1.cls, .static Jn.1] ++ (if x = 1 then [] else [.methodLink I.2.2.2.2.1 k Jn.1]), w ∈ kWs := fun w z => hw w (by simp only [kwd, if_neg hx0, hJ]; exact z)
  have hcode := hw5 _ (List.mem_append_left _ (List.mem_cons_self))
  have hini := hw5 (.initialized Jn.1.cls) (List.mem_append_left _ (by simp))
  have hinst := hw5 (.static Jn.1) (List.mem_append_left _ (by simp))
  by_cases hx2 : x = 1
  · rw [if_pos hx2] at hns
    have hns := of_decide_eq_true hns
    refine k_after hC hin m1 m2 (r := r) (R1 := S.drop b) (fun st v t z => ⟨by have := z.1; simpa using this, z.2⟩) (va_runSN (host := "KnockFinder") (As := ((S.take b).reverse).map (kv ad)) (rest := (S.drop b).map (kv ad)) ⟨hx, hb, hml, hown, hts⟩ hM
      ⟨va_cnB b hts (k_goodc hcode) rfl rfl rfl (hNw.1 _ hns) (hts _ hini) ⟨hmh.1, hmh.2, hpd⟩ ⟨by show Jn.2.2.2.2.2.1 + 1 ≤ _; omega, by show 8 + (Jn.2.2.1 + 11) + Jn.2.2.2.2.2.2 ≤ _; omega⟩, hts _ hinst, trivial⟩
      ⟨k_blind, k_pre hC hin (As := (S.take b).reverse)⟩ rfl hal hl.1 hstk (k_room _ hv.2) hd ⟨by omega, by omega⟩) kk
  · have hlink := hw5 (.methodLink I.2.2.2.2.1 k Jn.1) (List.mem_append_right _ (by rw [if_neg hx2]; simp))
    refine k_after hC hin m1 m2 (r := r) (R1 := S.drop b) (fun st v t z => ⟨by have := z.1; simpa using this, z.2⟩) (va_runS (As := ((S.take b).reverse).map (kv ad)) (rest := (S.drop b).map (kv ad)) ⟨hx, hb, hml, hown, hts⟩ hM
      ⟨callB_of b hts (k_goodc hcode) rfl rfl rfl (hts _ hini) (hts _ hlink) ⟨hmh.1, hmh.2, hpd⟩ ⟨by show Jn.2.2.2.2.2.1 + 1 ≤ _; omega, by show 8 + (Jn.2.2.1 + 11) + Jn.2.2.2.2.2.2 ≤ _; omega⟩, hts _ hinst⟩
      ⟨k_blind, k_pre hC hin (As := (S.take b).reverse)⟩ rfl hal hl.1 hstk (k_room _ hv.2) hd ⟨by omega, by omega⟩) kk
end KQ
