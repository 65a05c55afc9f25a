/-! OWN: the machine does what the numbered cells' machine does -/
def kNw (ad : Nat → Nat) (U : State) : Prop := (∀ w ∈ kNs, va_Nw w U) ∧ va_AO "KnockFinder$State" U ∧ ∀ q ∈ kSr, vk_R q.1 q.2.1 q.2.2.1 (ad q.2.2.2) U
/-- the facts of each kind of object -/
def kCl : Prop := ∀ (ci : Nat) (C : String) (T : u_T) (N : Nat), vwCl[ci]? = some (C, T, N) → (∀ w ∈ u_ws C T N, w ∈ kWs) ∧ (∀ k, k < N → parseFieldDescriptor (T k).2.2.1 = some (kty ci k)) ∧ (∀ a, a < N → ∀ b, b < N → a ≠ b → (T a).2.1 ≠ (T b).2.1)
theorem vp_of_kin {i : Int32} {n : Nat} (h : kin i n) : vp_in i n := vp_in_iff.mpr h
theorem k_fit {ty : FieldType} {v : Value} {ad : Nat → Nat} (h : kFit ty v = true) : narrow ty (kv ad v) = kv ad v ∧ fits ty (kv ad v) = true := by
  cases ty <;> cases v <;> simp [kFit] at h <;> try exact ⟨rfl, rfl⟩
  all_goals first
    | (rcases h with rfl | rfl <;> exact ⟨rfl, rfl⟩)
    | (exact ⟨by rw [← h]; exact pk_nb _, by rw [← h]; exact pk_fb _⟩)
section KS
variable {p : Program} {l : Launch} {e : Env} {R : Room} {s : State} {m : MethodId} {args : Array Value} {below : List Frame} {meth : Method} {c : Code} {H : Heap} {locs : List Loc} {cells slots : Nat} {Q : State → Prop}
variable {D : va_G} {ad : Nat → Nat} {base : Nat} {I : kMI}
theorem k_call {mc ms pc : Nat} {ls : Array Slot} {st0 rest : List Value} {Qa : State → Outcome → State → Prop} {free : Addr → Prop} (hr : va_Run p l e R s m args below meth c H locs cells slots mc ms (F0 m pc ls st0) rest Qa free)
    (kk : ∀ (v : Option Value) (st t : State) (L : List Loc), st.heap = H → s.vm.Alike t.vm → (∀ q ∈ L, free q.base) → Qa st (.returned v) t → W p l e R s m args below meth c t.heap (locs ++ L) (cells + mc) (slots + ms) Q (F0 m (pc + 3) ls (v.toList ++ rest))) : W p l e R s m args below meth c H locs cells slots Q (F0 m pc ls st0) := by
  intro T hT X
  obtain ⟨v, st₀, t, T', L, h0, X', hL, e1, e2, hq, st⟩ := hr T hT X
  obtain ⟨t2, a1, b1⟩ := kk v st₀ t L h0 (by rw [← e2]; exact X'.warmed.alike) hL hq T' e1 X'
  exact ⟨t2, st t2 a1, b1⟩
/-- what stands when a method's body is walked -/
def kCx (p : Program) (s : State) (m : MethodId) (args : Array Value) (meth : Method) (c : Code) (D : va_G) (ad : Nat → Nat) (base : Nat) (I : kMI) : Prop :=
  p.tables.exec = Jvm.exec ∧ c.code = I.2.1 ∧ c.maxLocals = I.2.2.1 ∧ s.vm.findClass I.2.2.2.2.1 = some m.cls ∧ (∀ w ∈ kWs, w.before args s = true) ∧ (I.1.name = "<init>" → meth.name = "<init>") ∧ va_K D vwCl [] s ∧ kAd ad base ∧ kNw ad s ∧ base ≤ s.heap.size ∧ kZ ad base s s.heap
/-- a configuration of the body, in the machine -/
def kIn (s : State) (D : va_G) (ad : Nat → Nat) (base : Nat) (I : kMI) (K J : Nat) (L : kL) (h : kH) (H : Heap) (locs : List Loc) (cells slots : Nat) (ls : Array Slot) : Prop :=
  lv_has ls I.2.2.1 (kll_ ad 0 L) ∧ L.length = I.2.2.1 ∧ kRel D ad base h s H ∧ va_S (kA base) s.heap H locs ∧ cells + K = h.2.1 ∧ slots + J = h.2.2
/-- a callee's contract -/
def kMet (l : Launch) (D : va_G) (ad : Nat → Nat) (base y : Nat) (As : List Value) (h : kH) (r : Option Value) (h' : kH) : Prop :=
  h.2.1 ≤ h'.2.1 ∧ h.2.2 ≤ h'.2.2 ∧ ∀ I : kMI, kmi[y]? = some I → Met l I.1 (.code I.1 I.2.1 I.2.2.1 I.2.2.2.1 :: kWs) ({ frames := I.2.2.2.2.2.1, cells := h'.2.1 - h.2.1, slots := h'.2.2 - h.2.2, locals := I.2.2.2.2.2.2 })
    (fun v U => v = (As.map (kv ad)).toArray ∧ kRel D ad base h U U.heap ∧ va_K D vwCl [] U ∧ kNw ad U ∧ base ≤ U.heap.size)
    (fun _ st oc t => oc = .returned (r.map (kv ad)) ∧ kRel D ad base h' t t.heap ∧ va_F (kA base) st t) (h'.2.1 - h.2.1) (h'.2.2 - h.2.2) (kA base)
theorem k_S {A : Nat → Prop} {H0 H1 : Heap} {a : Nat} (hS : va_S A H0 H locs) (z : H1.size = H.size) (oq : ∀ q : Nat, q ≠ a → H1[q]? = H[q]?) (ha : A a) (k : Nat) : va_S A H0 H1 (locs ++ [⟨a, k⟩]) := hS.put z oq ha
theorem k_Sn {A : Nat → Prop} {H0 H1 : Heap} (hS : va_S A H0 H locs) (z : H1.size = H.size + 1) (o1 : ∀ q : Nat, q < H.size → H1[q]? = H[q]?) : va_S A H0 H1 locs :=
  ⟨Nat.le_trans hS.1 (by omega), fun x h1 h2 => (o1 x (Nat.lt_of_lt_of_le h1 hS.1)).trans (hS.2.1 x h1 h2), hS.2.2⟩
theorem kNw.warm {s U : State} (hW : s.WarmedH U.vm) (h : kNw ad s) : kNw ad U := by
  refine ⟨fun w hw => ?_, va_AO.moved hW.alike h.2.1, fun q hq => vk_R.warm hW (h.2.2 q hq)⟩
  have hz := h.1 w hw
  have hm : ∃ a i x q, w = .methodLinkNest a i x q := by
    have hb : kNs.all (fun w => match w with | .methodLinkNest .. => true | _ => false) = true := by decide +kernel
    have := List.all_eq_true.mp hb w hw
    cases w <;> simp at this
    exact ⟨_, _, _, _, rfl⟩
  obtain ⟨a, i, x, q, rfl⟩ := hm
  exact va_Nw.warmM hW hz
/-- the contract, for a call out of a body that stands so -/
theorem k_blind {As : List Value} {h : kH} : FrameBlind (fun (v : Array Value) U => v = (As.map (kv ad)).toArray ∧ kRel D ad base h U U.heap ∧ va_K D vwCl [] U ∧ kNw ad U ∧ base ≤ U.heap.size) := by
  intro a U g mk q
  obtain ⟨q1, q2, q3, q4, q5⟩ := q
  refine ⟨q1, q2.moved (u := U) (Vm.Alike.refl U.vm), va_K.moved (u := U) (U := U.calling g mk a) (Vm.Alike.refl U.vm) q3, ⟨fun w hw => ?_, q4.2.1, fun q hq => vk_R.same (u := U) rfl (q4.2.2 q hq)⟩, q5⟩
  have hm : w.onTables = true := by
    have hb : kNs.all (fun w => w.onTables) = true := by decide +kernel
    exact List.all_eq_true.mp hb w hw
  exact va_Nw.same (u := U) (U := U.calling g mk a) hm rfl (q4.1 w hw)
theorem k_good : GoodIn kWs kWs := fun w hw => ⟨hw, good_of_word (List.mem_filter.mp hw).2⟩
theorem k_goodc {I : kMI} (h : Cond.code I.1 I.2.1 I.2.2.1 I.2.2.2.1 ∈ kWs) : GoodIn kWs (.code I.1 I.2.1 I.2.2.1 I.2.2.2.1 :: kWs) := fun w hw => by
  rcases List.mem_cons.mp hw with e | e
  · rw [e]; exact k_good _ h
  · exact k_good _ e
theorem kv_rev (ad : Nat → Nat) (S : List Value) (b : Nat) : (S.map (kv ad)).take b = (((S.take b).reverse).map (kv ad)).reverse := by
  rw [List.map_reverse, List.reverse_reverse, List.map_take]
theorem k_neg {i : Int32} (h : 0 ≤ i.toInt) : ¬ i < 0 := by
  rw [Int32.lt_iff_toInt_lt]
  simp
  omega
theorem k_cl {i : Int32} (h : 0 ≤ i.toInt) : (i.toNatClampNeg : Int) = i.toInt := by
  show ((i.toInt.toNat : Nat) : Int) = i.toInt
  omega
end KS
