/-! OWN: a body is walked to its end; every method that the numbered machine runs meets its contract -/
theorem kiter_mono {t : kT} {call : Nat → List Value → kH → Option kR} (hcall : ∀ (y : Nat) (As : List Value) (h : kH) (r : Option Value) (h' : kH), call y As h = some (r, h') → kLe h h') {I : kMI} (hok : ∀ q ∈ t, kOkI I q) : ∀ (n pc : Nat) (L : kL) (S : List Value) (h : kH) (r : Option Value) (h' : kH), kiter (kstep call kdef kty t) n (pc, L, S, h) = some (r, h') → kLe h h'
  | 0, pc, L, S, h, r, h', g => by simp [kiter] at g
  | n + 1, pc, L, S, h, r, h', g => by
    rw [kiter] at g
    cases hs : kstep call kdef kty t (pc, L, S, h) with
    | none => rw [hs] at g; cases g
    | some z =>
      rw [hs] at g
      cases z with
      | inl c' =>
        obtain ⟨pc1, L1, S1, h1⟩ := c'
        exact (kstep_mono hcall hs).tr (kiter_mono hcall hok n pc1 L1 S1 h1 r h' g)
      | inr r' =>
        obtain ⟨r1, h1⟩ := r'
        simp only [Option.some.injEq, Prod.mk.injEq] at g
        obtain ⟨rfl, rfl⟩ := g
        rw [(kstep_end hok hs).1]
        exact kLe.rf _
section KW
variable {p : Program} {l : Launch} {e : Env} {R : Room} {s : State} {m : MethodId} {args : Array Value} {below : List Frame} {meth : Method} {c : Code} {Q : State → Prop}
variable {D : va_G} {ad : Nat → Nat} {base : Nat} {I : kMI}
theorem k_walk (hcl : kCl) (hC : kCx p s m args meth c D ad base I) (hR : I.2.2.2.2.2.1 ≤ R.frames ∧ I.2.2.2.2.2.2 ≤ R.locals) {t : kT} (hok : ∀ q ∈ t, kOkI I q) {call : Nat → List Value → kH → Option kR} (hcall : kCalls l D ad base call) {K J : Nat} {rF : Option Value} {hF : kH} (hroom : hF.2.1 ≤ K + R.cells ∧ hF.2.2 ≤ J + R.slots)
    (hend : ∀ (pc : Nat) (L : kL) (S : List Value) (H : Heap) (locs : List Loc) (cells slots : Nat) (ls : Array Slot), kEndI I pc S rF → kIn s D ad base I K J L hF H locs cells slots ls → W p l e R s m args below meth c H locs cells slots Q (F0 m pc ls (S.map (kv ad)))) :
    ∀ (n pc : Nat) (L : kL) (S : List Value) (h : kH), kiter (kstep call kdef kty t) n (pc, L, S, h) = some (rF, hF) → ∀ (H : Heap) (locs : List Loc) (cells slots : Nat) (ls : Array Slot), kIn s D ad base I K J L h H locs cells slots ls → W p l e R s m args below meth c H locs cells slots Q (F0 m pc ls (S.map (kv ad)))
  | 0, pc, L, S, h, g, H, locs, cells, slots, ls, hin => by simp [kiter] at g
  | n + 1, pc, L, S, h, g, H, locs, cells, slots, ls, hin => by
    rw [kiter] at g
    cases hs : kstep call kdef kty t (pc, L, S, h) with
    | none => rw [hs] at g; cases g
    | some z =>
      rw [hs] at g
      cases z with
      | inl c' =>
        obtain ⟨pc1, L1, S1, h1⟩ := c'
        have hm := kiter_mono (fun y As h r h' z => ⟨(hcall y As h r h' z).1, (hcall y As h r h' z).2.1⟩) hok n pc1 L1 S1 h1 rF hF g
        refine k_step hcl hC hR hok hcall hs ⟨Nat.le_trans hm.1 hroom.1, Nat.le_trans hm.2 hroom.2⟩ hin ?_
        intro H1 locs1 cells1 slots1 ls1 hin1
        exact k_walk hcl hC hR hok hcall hroom hend n pc1 L1 S1 h1 g H1 locs1 cells1 slots1 ls1 hin1
      | inr r' =>
        obtain ⟨r1, h1⟩ := r'
        simp only [Option.some.injEq, Prod.mk.injEq] at g
        obtain ⟨rfl, rfl⟩ := g
        obtain ⟨rfl, he⟩ := kstep_end hok hs
        exact hend pc L S H locs cells slots ls he hin
end KW
theorem kent_args (ad : Nat → Nat) : ∀ (As : List Value) (n i : Nat) (q : Nat × Value), q ∈ kll_ ad i (kent n As) → q ∈ lv_args i (As.map (kv ad))
  | [], n, i, q, h => by
    obtain ⟨j, v, h1, -⟩ := (kll_mem ad _ i q).mp h
    rw [kent, List.getElem?_replicate] at h1
    split at h1 <;> cases h1
  | v :: vs, n, i, q, h => by
    rw [kent] at h
    by_cases hc : v.category = 2
    · rw [if_pos hc] at h
      rw [List.map_cons, lv_args, kv_cat, if_pos hc]
      rcases List.mem_cons.mp h with e | e
      · rw [e]; exact List.mem_cons_self
      · exact List.mem_cons_of_mem _ (kent_args ad vs (n - 2) (i + 2) q e)
    · rw [if_neg hc] at h
      rw [List.map_cons, lv_args, kv_cat, if_neg hc]
      rcases List.mem_cons.mp h with e | e
      · rw [e]; exact List.mem_cons_self
      · exact List.mem_cons_of_mem _ (kent_args ad vs (n - 1) (i + 1) q e)
theorem kcat_cons (v : Value) (vs : List Value) : kcat (v :: vs) = v.category + kcat vs := rfl
theorem kent_len : ∀ (As : List Value) (n : Nat), kcat As ≤ n → (kent n As).length = n
  | [], n, _ => by simp [kent]
  | v :: vs, n, h => by
    rw [kcat_cons] at h
    rw [kent]
    rcases lv_cat v with hc | hc
    · rw [if_neg (by omega), List.length_cons, kent_len vs (n - 1) (by omega)]
      omega
    · rw [if_pos hc, List.length_cons, List.length_cons, kent_len vs (n - 2) (by omega)]
      omega
theorem lg_sl_len : ∀ (vs : List Value), (lg_sl vs).length = kcat vs
  | [] => rfl
  | v :: vs => by
    have ih := lg_sl_len vs
    unfold lg_sl at ih ⊢
    rw [List.flatMap_cons, List.length_append, ih, kcat_cons]
    rcases lv_cat v with hc | hc
    · rw [if_neg (by omega), hc]; rfl
    · rw [if_pos hc, hc]; rfl
/-- as Met.ofW, for a method that has no row among the natives, be her class plainly named or not -/
theorem k_ofW {l : Launch} {y : MethodName} {ws : List Cond} {rm : Room} {Pc : Array Value → State → Prop} {Qc : Array Value → State → Outcome → State → Prop} {mc ms : Nat} {free : Addr → Prop} {cc : ByteArray} {maxL : Nat} {ret : Option FieldType} (hy : plainFor y = true) (body : ∀ p e s m args below meth c s₁, BodyLoose p l y (headSpec (.code y cc maxL ret :: ws) rm) cc maxL ret e s m args below meth c s₁ → c.maxLocals = maxL → Pc args s → W p l e (headSpec (.code y cc maxL ret :: ws) rm).room s m args below meth c s.heap [] 0 0 (MQ below Qc args s mc ms free) (entryFrame m args maxL)) : Met l y (.code y cc maxL ret :: ws) rm Pc Qc mc ms free := by
  refine MetFree.of_bodySF (code := cc) (maxLocals := maxL) (ret := ret) hy (fun args s m h hn => ?_) (fun p e s m args below meth c s₁ B hml hP _ => ?_)
  · obtain ⟨meth, c, h1, h2, h3, h4, h5, h6, -⟩ := Cond.code_spec hn (atoms_spec (ws := .code y cc maxL ret :: ws) h _ List.mem_cons_self)
    exact ⟨meth, c, h1, h2, h3, h4, h5, h6⟩
  · obtain ⟨t, a1, o, b1, b2, b3⟩ := body p e s m args below meth c s₁ B hml hP s₁ (by rw [B.state]; rfl) (Stand.of_body B)
    exact ⟨t, o, a1, b1, b2, ⟨b3.1, b3.2⟩⟩
/-- what is said of a method by its tables -/
def kMOk (M : kT × Nat) (I : kMI) : Prop := (∀ q ∈ M.1, kOkI I q) ∧ M.2 = I.2.2.1 ∧ plainFor I.1 = true ∧ I.2.2.2.2.1 = I.1.cls
theorem k_sound (l : Launch) {D : va_G} {ad : Nat → Nat} {base : Nat} (hcl : kCl) (had : kAd ad base) (hall : ∀ (y : Nat) (M : kT × Nat) (I : kMI), kms[y]? = some M → kmi[y]? = some I → kMOk M I) (hlen : kms.length = kmi.length) : ∀ (d : Nat), kCalls l D ad base (rn d)
  | 0, y, As, h, r, h', g => by simp [rn] at g
  | d + 1, y, As, h, r, h', g => by
    have ih := k_sound l (D := D) hcl had hall hlen d
    rw [rn] at g
    cases hM : kms[y]? with
    | none => rw [hM] at g; cases g
    | some M =>
      rw [hM] at g
      dsimp only at g
      by_cases hcat : kcat As ≤ M.2
      · rw [if_pos hcat] at g
        obtain ⟨n, hn⟩ := klim_to _ g
        have hyl : y < kmi.length := by rw [← hlen]; exact (List.getElem?_eq_some_iff.mp hM).1
        obtain ⟨hok, hML, hpl, hown0⟩ := hall y M kmi[y] hM (List.getElem?_eq_getElem hyl)
        have hmono := kiter_mono (fun y As h r h' z => ⟨(ih y As h r h' z).1, (ih y As h r h' z).2.1⟩) hok n 0 _ [] h r h' hn
        refine ⟨hmono.1, hmono.2, fun I hI => ?_⟩
        obtain ⟨hok, hML, hpl, hown0⟩ := hall y M I hM hI
        refine k_ofW (cc := I.2.1) (maxL := I.2.2.1) (ret := I.2.2.2.1) hpl ?_
        intro p e s m args below meth c s₁ B hml hv
        obtain ⟨rfl, hrel, hK, hNw, hbs⟩ := hv
        have hts := atoms_spec (ws := .code I.1 I.2.1 I.2.2.1 I.2.2.2.1 :: kWs) B.pre
        have hlocks := B.notSynchronized
        have hr := B.returns
        have hC : kCx p s m (As.map (kv ad)).toArray meth c D ad base I := ⟨B.exec, B.bytes, hml, by rw [hown0]; exact findClass_of_methodNamed B.named, fun w hw => hts w (List.mem_cons_of_mem _ hw), fun z => (name_of_methodNamed B.named B.method).1.trans z, hK, had, hNw, hbs, hrel.2.2.2⟩
        have hlv := lv_entry (As.map (kv ad)) (n := I.2.2.1) (by rw [lg_sl_len, kcat, kcat_map, ← hML]; exact hcat)
        rw [lg_entry_eq]
        generalize (lg_sl (As.map (kv ad)) ++ List.replicate (I.2.2.1 - (lg_sl (As.map (kv ad))).length) Slot.unset).toArray = ls at hlv ⊢
        have hin : kIn s D ad base I h.2.1 h.2.2 (kent M.2 As) h s.heap [] 0 0 ls := ⟨⟨hlv.1, hlv.2.1, fun q hq => hlv.2.2 q (kent_args ad As M.2 0 q hq)⟩, by rw [kent_len As M.2 hcat]; exact hML, hrel, va_S.rf, by omega, by omega⟩
        refine k_walk (Q := MQ below _ _ s (h'.2.1 - h.2.1) (h'.2.2 - h.2.2) (kA base)) (R := (headSpec (.code I.1 I.2.1 I.2.2.1 I.2.2.2.1 :: kWs) { frames := I.2.2.2.2.2.1, cells := h'.2.1 - h.2.1, slots := h'.2.2 - h.2.2, locals := I.2.2.2.2.2.2 }).room) hcl hC ⟨Nat.le_refl _, Nat.le_refl _⟩ hok ih (rF := r) (hF := h') ⟨by show h'.2.1 ≤ h.2.1 + (h'.2.1 - h.2.1); omega, by show h'.2.2 ≤ h.2.2 + (h'.2.2 - h.2.2); omega⟩ ?_ n 0 _ [] h hn s.heap [] 0 0 ls hin
        intro pc L S H locs cells slots ls he hin2
        obtain ⟨hl2, hlen2, hrel2, hS2, hcs2, hss2⟩ := hin2
        have ec : cells = h'.2.1 - h.2.1 := by omega
        have es : slots = h'.2.2 - h.2.2 := by omega
        subst ec
        subst es
        rcases he with ⟨v, rfl, rfl, hd, hrt⟩ | ⟨v, rfl, rfl, hd, hrt⟩ | ⟨v, rfl, rfl, hd, ty, hrt, hty⟩ | ⟨rfl, rfl, hd, hrt⟩
        · obtain ⟨ty, hrt, rfl | hv⟩ := hrt
          · exact W.iret B.exec B.bytes (hr.trans hrt) (fun t ht hW => ⟨rfl, by rw [ht]; exact hrel2.moved hW.alike, hS2.F ht⟩) hS2.2.2 hd hlocks
          · exact W.zret B.exec B.bytes (hr.trans hrt) hv (fun t ht hW => ⟨rfl, by rw [ht]; exact hrel2.moved hW.alike, hS2.F ht⟩) hS2.2.2 hd hlocks
        · exact W.lret B.exec B.bytes (hr.trans hrt) (fun t ht hW => ⟨rfl, by rw [ht]; exact hrel2.moved hW.alike, hS2.F ht⟩) hS2.2.2 hd hlocks
        · exact W.aret B.exec B.bytes (hr.trans hrt) hty (Or.inr ⟨_, rfl⟩) (fun t ht hW => ⟨rfl, by rw [ht]; exact hrel2.moved hW.alike, hS2.F ht⟩) hS2.2.2 hd hlocks
        · exact W.vret B.exec B.bytes (hr.trans hrt) (fun t ht hW => ⟨rfl, by rw [ht]; exact hrel2.moved hW.alike, hS2.F ht⟩) hS2.2.2 hd hlocks
      · rw [if_neg hcat] at g
        cases g
