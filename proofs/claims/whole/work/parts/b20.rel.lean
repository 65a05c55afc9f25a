/-! OWN: how the numbered cells lie in the machine's heap -/
/-- a static of which nothing is known but that it's a reference or null -/
def kvn (ad : Nat → Nat) : Value := if ad 31 = 0 then .null else .ref (ad 30)
def kv (ad : Nat → Nat) : Value → Value
  | .ref k => .ref (ad k)
  | .float _ => kvn ad
  | v => v
def kva (ad : Nat → Nat) (a : vp_A) : vp_A := match a with
  | (n, .inr (.inr (.inr (.inr f)))) => (n, .inr (.inr (.inr (.inr (fun j => (f j).map ad)))))
  | a => a
/-- a row of ints or bytes that was there before -/
def kWk (ad : Nat → Nat) (U : State) (H : Heap) (ty : FieldType) (k : Nat) (n : Nat) (f : Nat → Int32) : Prop :=
  ∃ cell : Cell, H[ad k]? = some cell ∧ U.isArrayOf cell ty ∧ cell.vm ≠ .unknown ∧ (n ≤ cell.slots.size ∧ cell.slots.size.toInt32 = Int32.ofNat n) ∧ ∀ j : Nat, j < n → cell.slots[j]? = some (.int (f j))
abbrev kNo (a : Nat) : Nat → Prop := fun q => q ≠ a
/-- a String that was there before -/
def kSt (ad : Nat → Nat) (U : State) (H : Heap) (k q : Nat) : Prop :=
  va_O "java/lang/String" (ad k) (kNo (ad k)) U H ∧ va_OF "java/lang/String" "value" "[B" (.ref (ad q)) (ad k) (kNo (ad k)) U H ∧ va_OF "java/lang/String" "coder" "B" (.int 0) (ad k) (kNo (ad k)) U H
def kAt (D : va_G) (ad : Nat → Nat) (U : State) (H : Heap) (k : Nat) (e : kE) : Prop := match e with
  | .inl (ty, a) => (k < 30 ∧ (ty = .int ∨ ty = .byte) ∧ ∃ (n : Nat) (f : Nat → Int32), a = (n, .inl f) ∧ kWk ad U H ty k n f) ∨ (32 ≤ k ∧ ∃ cA : ClassId, H[ad k]? = some (vp_cell cA (kva ad a)) ∧ ArrOfT U cA ty ∧ va_RA U cA ty)
  | .inr (ci, fs) => (32 ≤ k ∧ ∃ r : vw_C, vwCl[ci]? = some r ∧ fs.length = r.2.2 ∧ t_OB (ad k) (D.1 ci) r.2.2 (D.2 ci) H (vp_V (fs.map (kv ad)))) ∨ (k < 30 ∧ ci = 14 ∧ ∃ q : Nat, fs = [.ref q, .int 0] ∧ kSt ad U H k q)
def kAd (ad : Nat → Nat) (base : Nat) : Prop := (∀ k, 32 ≤ k → ad k = base + (k - 32)) ∧ ∀ k, k < 30 → ad k < base
abbrev kA (base : Nat) : Nat → Prop := fun q => base ≤ q
def kZl : List (String × String × String × Value) := [("KnockFinder", "OPTION_LOW", "[I", .ref 1), ("KnockFinder", "OPTION_HIGH", "[I", .ref 2), ("java/lang/String", "COMPACT_STRINGS", "Z", .int 1), ("java/lang/Integer", "DigitTens", "[B", .ref 15), ("java/lang/Integer", "DigitOnes", "[B", .ref 16), ("jdk/internal/util/Preconditions", "SIOOBE_FORMATTER", "Ljava/util/function/BiFunction;", .float 0)]
def kZ (ad : Nat → Nat) (base : Nat) (U : State) (H : Heap) : Prop := ∀ q ∈ kZl, va_Z q.1 q.2.1 q.2.2.1 (kv ad q.2.2.2) (kA base) U H
def kRel (D : va_G) (ad : Nat → Nat) (base : Nat) (h : kH) (U : State) (H : Heap) : Prop :=
  H.size = ad h.2.1 ∧ 32 ≤ h.2.1 ∧ (∀ (k : Nat) (e : kE), h.1 k = some e → kAt D ad U H k e) ∧ kZ ad base U H
theorem kv_cat (ad : Nat → Nat) (v : Value) : (kv ad v).category = v.category := by
  cases v <;> first
    | rfl
    | (show (kvn ad).category = 1
       unfold kvn
       split <;> rfl)
theorem kcat_map (ad : Nat → Nat) (S : List Value) : ((S.map (kv ad)).map fun v => v.category).sum = kcat S := by
  unfold kcat
  rw [List.map_map]
  congr 1
  exact List.map_congr_left (fun v _ => kv_cat ad v)
theorem kAt.lt {D : va_G} {ad : Nat → Nat} {U : State} {H : Heap} {k : Nat} {e : kE} (h : kAt D ad U H k e) : ad k < H.size := by
  match e, h with
  | .inl (ty, a), .inl ⟨_, _, n, f, _, cl0, hc, _⟩ => exact (Array.getElem?_eq_some_iff.mp hc).1
  | .inl (ty, a), .inr ⟨_, cA, hc, _⟩ => exact (Array.getElem?_eq_some_iff.mp hc).1
  | .inr (ci, fs), .inl ⟨_, r, _, _, cl0, hc, _⟩ => exact (Array.getElem?_eq_some_iff.mp hc).1
  | .inr (ci, fs), .inr ⟨_, _, q, _, ⟨cl0, hc, _⟩, _⟩ => exact (Array.getElem?_eq_some_iff.mp hc).1
theorem kAt.rg {D : va_G} {ad : Nat → Nat} {U : State} {H : Heap} {k : Nat} {e : kE} (h : kAt D ad U H k e) : k < 30 ∨ 32 ≤ k := by
  match e, h with
  | .inl (ty, a), .inl ⟨z, _⟩ => exact Or.inl z
  | .inl (ty, a), .inr ⟨z, _⟩ => exact Or.inr z
  | .inr (ci, fs), .inl ⟨z, _⟩ => exact Or.inr z
  | .inr (ci, fs), .inr ⟨z, _⟩ => exact Or.inl z
theorem kSt.kept {ad : Nat → Nat} {U : State} {H H1 : Heap} {k q : Nat} (h : kSt ad U H k q) (hq : H1[ad k]? = H[ad k]?) : kSt ad U H1 k q := by
  have hz : ∀ a : Nat, a < H.size → ¬ kNo (ad k) a → H1[a]? = H[a]? := fun a _ hn => by
    have e : a = ad k := Decidable.not_not.mp hn
    rw [e]
    exact hq
  exact ⟨h.1.kept hz, h.2.1.kept hz, h.2.2.kept hz⟩
theorem kSt.moved {ad : Nat → Nat} {u U : State} {H : Heap} {k q : Nat} (hvm : u.vm.Alike U.vm) (h : kSt ad u H k q) : kSt ad U H k q := ⟨h.1.moved hvm, h.2.1.moved hvm, h.2.2.moved hvm⟩
theorem kAt.kept {D : va_G} {ad : Nat → Nat} {U : State} {H H1 : Heap} {k : Nat} {e : kE} (h : kAt D ad U H k e) (hq : H1[ad k]? = H[ad k]?) : kAt D ad U H1 k e := by
  match e, h with
  | .inl (ty, a), .inl ⟨h0, h1, n, f, h2, cl0, hc, h3⟩ => exact Or.inl ⟨h0, h1, n, f, h2, cl0, hq.trans hc, h3⟩
  | .inl (ty, a), .inr ⟨h0, cA, hc, h1⟩ => exact Or.inr ⟨h0, cA, hq.trans hc, h1⟩
  | .inr (ci, fs), .inl ⟨h0, r, h1, h2, hc⟩ => exact Or.inl ⟨h0, r, h1, h2, hc.kept hq⟩
  | .inr (ci, fs), .inr ⟨h0, h1, q, h2, h3⟩ => exact Or.inr ⟨h0, h1, q, h2, h3.kept hq⟩
theorem kAt.moved {D : va_G} {ad : Nat → Nat} {u U : State} (hvm : u.vm.Alike U.vm) {H : Heap} {k : Nat} {e : kE} (h : kAt D ad u H k e) : kAt D ad U H k e := by
  match e, h with
  | .inl (ty, a), .inl ⟨h0, h1, n, f, h2, cl0, hc, h3, h4⟩ => exact Or.inl ⟨h0, h1, n, f, h2, cl0, hc, State.isArrayOf_alike hvm h3, h4⟩
  | .inl (ty, a), .inr ⟨h0, cA, hc, h1, h2⟩ => exact Or.inr ⟨h0, cA, hc, arrOfT_moved hvm h1, h2.moved hvm⟩
  | .inr (ci, fs), .inl ⟨h0, r, h1, h2, hc⟩ => exact Or.inl ⟨h0, r, h1, h2, hc⟩
  | .inr (ci, fs), .inr ⟨h0, h1, q, h2, h3⟩ => exact Or.inr ⟨h0, h1, q, h2, h3.moved hvm⟩
theorem kRel.moved {D : va_G} {ad : Nat → Nat} {base : Nat} {h : kH} {u U : State} {H : Heap} (hvm : u.vm.Alike U.vm) (hr : kRel D ad base h u H) : kRel D ad base h U H :=
  ⟨hr.1, hr.2.1, fun k e hk => (hr.2.2.1 k e hk).moved hvm, fun q hq => (hr.2.2.2 q hq).moved hvm⟩
theorem kAd.inj {ad : Nat → Nat} {base : Nat} (had : kAd ad base) {k j : Nat} (hk : 32 ≤ k) (h : j ≠ k) (hj : j < 30 ∨ 32 ≤ j) : ad j ≠ ad k := by
  intro e
  rw [had.1 k hk] at e
  rcases hj with q | q
  · have := had.2 j q
    omega
  · rw [had.1 j q] at e
    omega
theorem kAd.base {ad : Nat → Nat} {base : Nat} (had : kAd ad base) {k : Nat} (hk : 32 ≤ k) : base ≤ ad k := by rw [had.1 k hk]; omega
/-- one cell is written -/
theorem kRel.put {D : va_G} {ad : Nat → Nat} {base : Nat} {h : kH} {U : State} {H H1 : Heap} (hr : kRel D ad base h U H) (had : kAd ad base) {k : Nat} {e' : kE} (h32 : 32 ≤ k) (hz : H1.size = H.size) (oq : ∀ q : Nat, q ≠ ad k → H1[q]? = H[q]?) (hat : kAt D ad U H1 k e') : kRel D ad base (kup h k e') U H1 := by
  have hkp : ∀ a : Nat, a < H.size → ¬ kA base a → H1[a]? = H[a]? := fun a _ hn => oq a (fun e => hn (by rw [e]; exact had.base h32))
  refine ⟨hz.trans hr.1, hr.2.1, fun j e hj => ?_, fun q hq => (hr.2.2.2 q hq).kept hkp⟩
  simp only [kup] at hj
  by_cases q : j = k
  · rw [if_pos q] at hj
    cases hj
    rw [q]
    exact hat
  · rw [if_neg q] at hj
    exact (hr.2.2.1 j e hj).kept (oq _ (had.inj h32 q (hr.2.2.1 j e hj).rg))
/-- one cell comes -/
theorem kRel.new {D : va_G} {ad : Nat → Nat} {base : Nat} {h : kH} {U : State} {H H1 : Heap} (hr : kRel D ad base h U H) (had : kAd ad base) {e : kE} {n : Nat} (hz : H1.size = H.size + 1) (oq : ∀ q : Nat, q < H.size → H1[q]? = H[q]?) (hat : kAt D ad U H1 h.2.1 e) : kRel D ad base (knew h e n) U H1 := by
  have h32 := hr.2.1
  refine ⟨?_, Nat.le_succ_of_le h32, fun j e' hj => ?_, fun q hq => (hr.2.2.2 q hq).kept (fun a ha _ => oq a ha)⟩
  · show H1.size = ad (h.2.1 + 1)
    rw [hz, hr.1, had.1 _ h32, had.1 _ (Nat.le_succ_of_le h32)]
    omega
  · simp only [knew] at hj
    by_cases q : j = h.2.1
    · rw [if_pos q] at hj
      cases hj
      rw [q]
      exact hat
    · rw [if_neg q] at hj
      have h1 := hr.2.2.1 j e' hj
      exact h1.kept (oq _ h1.lt)
/-- locals -/
def kll_ (ad : Nat → Nat) : Nat → kL → List (Nat × Value)
  | _, [] => []
  | i, none :: r => kll_ ad (i + 1) r
  | i, some v :: r => (i, kv ad v) :: kll_ ad (i + 1) r
theorem kll_mem (ad : Nat → Nat) : ∀ (L : kL) (i : Nat) (q : Nat × Value), q ∈ kll_ ad i L ↔ ∃ (j : Nat) (v : Value), L[j]? = some (some v) ∧ q = (i + j, kv ad v)
  | [], i, q => by simp [kll_]
  | none :: r, i, q => by
    rw [kll_, kll_mem ad r (i + 1) q]
    constructor
    · rintro ⟨j, v, h1, h2⟩
      exact ⟨j + 1, v, by simpa using h1, by rw [h2]; congr 1; omega⟩
    · rintro ⟨j, v, h1, h2⟩
      cases j with
      | zero => simp at h1
      | succ j => exact ⟨j, v, by simpa using h1, by rw [h2]; congr 1; omega⟩
  | some w :: r, i, q => by
    rw [kll_, List.mem_cons, kll_mem ad r (i + 1) q]
    constructor
    · rintro (h | ⟨j, v, h1, h2⟩)
      · exact ⟨0, w, rfl, by rw [h]; rfl⟩
      · exact ⟨j + 1, v, by simpa using h1, by rw [h2]; congr 1; omega⟩
    · rintro ⟨j, v, h1, h2⟩
      cases j with
      | zero =>
        simp at h1
        subst h1
        exact Or.inl h2
      | succ j => exact Or.inr ⟨j, v, by simpa using h1, by rw [h2]; congr 1; omega⟩
theorem kmod_get : ∀ (L : kL) (j i : Nat), (kmod L j)[i]? = if i = j then L[i]?.map kkl else L[i]?
  | [], j, i => by simp [kmod]
  | o :: r, 0, i => by cases i <;> simp [kmod]
  | o :: r, j + 1, i => by
    cases i with
    | zero => simp [kmod]
    | succ i =>
      simp only [kmod, List.getElem?_cons_succ]
      rw [kmod_get r j i]
      simp
theorem kmod_len : ∀ (L : kL) (j : Nat), (kmod L j).length = L.length
  | [], j => rfl
  | o :: r, 0 => rfl
  | o :: r, j + 1 => by simp [kmod, kmod_len r j]
theorem kkill_len (L : kL) (k : Nat) : (kkill L k).length = L.length := by cases k with
  | zero => rfl
  | succ j => exact kmod_len L j
theorem kkill_get {L : kL} {k j : Nat} {w : Value} (hj : j ≠ k) (h : (kkill L k)[j]? = some (some w)) : L[j]? = some (some w) ∧ ¬ (j + 1 = k ∧ w.category = 2) := by
  cases k with
  | zero => exact ⟨h, fun q => by omega⟩
  | succ k =>
    rw [kkill, kmod_get] at h
    by_cases q : j = k
    · rw [if_pos q] at h
      cases hl : L[j]? with
      | none => rw [hl] at h; simp at h
      | some o =>
        rw [hl] at h
        cases o with
        | none => simp [kkl] at h
        | some v =>
          by_cases hc : v.category = 2
          · simp [kkl, hc] at h
          · simp [kkl, hc] at h
            subst h
            exact ⟨rfl, fun z => hc z.2⟩
    · rw [if_neg q] at h
      exact ⟨h, fun z => q (by omega)⟩
theorem kst1_has {ad : Nat → Nat} {ls' : Array Slot} {n i : Nat} {L : kL} {v : Value} (hi : i < L.length) (h : lv_has ls' n ((i, kv ad v) :: (kll_ ad 0 L).filter (fun q => !(q.1 == i) && !(q.1 + 1 == i && q.2.category == 2)))) : lv_has ls' n (kll_ ad 0 (kst1 L i v)) := by
  refine ⟨h.1, h.2.1, fun q hq => h.2.2 q ?_⟩
  obtain ⟨j, w, h1, h2⟩ := (kll_mem ad _ 0 q).mp hq
  rw [Nat.zero_add] at h2
  subst h2
  by_cases e : j = i
  · subst e
    rw [kst1, List.getElem?_set_self (by rw [kkill_len]; exact hi)] at h1
    cases h1
    exact List.mem_cons_self
  · rw [kst1, List.getElem?_set_ne (fun z => e z.symm)] at h1
    obtain ⟨h3, h4⟩ := kkill_get e h1
    refine List.mem_cons_of_mem _ (List.mem_filter.mpr ⟨(kll_mem ad L 0 _).mpr ⟨j, w, h3, by rw [Nat.zero_add]⟩, ?_⟩)
    simp only [kv_cat]
    simp [e]
    exact Decidable.not_and_iff_or_not.mp h4
theorem kst2_has {ad : Nat → Nat} {ls' : Array Slot} {n i : Nat} {L : kL} {v : Value} (hi : i < L.length) (h : lv_has ls' n ((i, kv ad v) :: (kll_ ad 0 L).filter (fun q => !(q.1 == i) && (!(q.1 == i + 1) && !(q.1 + 1 == i && q.2.category == 2))))) : lv_has ls' n (kll_ ad 0 (kst2 L i v)) := by
  refine ⟨h.1, h.2.1, fun q hq => h.2.2 q ?_⟩
  obtain ⟨j, w, h1, h2⟩ := (kll_mem ad _ 0 q).mp hq
  rw [Nat.zero_add] at h2
  subst h2
  by_cases e1 : j = i + 1
  · subst e1
    rw [kst2, List.getElem?_set] at h1
    rw [if_pos rfl] at h1
    split at h1 <;> simp at h1
  · rw [kst2, List.getElem?_set_ne (fun z => e1 z.symm)] at h1
    by_cases e : j = i
    · subst e
      rw [List.getElem?_set_self (by rw [kkill_len]; exact hi)] at h1
      cases h1
      exact List.mem_cons_self
    · rw [List.getElem?_set_ne (fun z => e z.symm)] at h1
      obtain ⟨h3, h4⟩ := kkill_get e h1
      refine List.mem_cons_of_mem _ (List.mem_filter.mpr ⟨(kll_mem ad L 0 _).mpr ⟨j, w, h3, by rw [Nat.zero_add]⟩, ?_⟩)
      simp only [kv_cat]
      simp [e, e1]
      exact Decidable.not_and_iff_or_not.mp h4
theorem kst1_len (L : kL) (i : Nat) (v : Value) : (kst1 L i v).length = L.length := by simp [kst1, kkill_len]
theorem kst2_len (L : kL) (i : Nat) (v : Value) : (kst2 L i v).length = L.length := by simp [kst2, kkill_len]
theorem klv_at {ad : Nat → Nat} {ls : Array Slot} {n : Nat} {L : kL} (h : lv_has ls n (kll_ ad 0 L)) {i : Nat} {v : Value} (hi : L[i]? = some (some v)) : ls[i]? = some (.val (kv ad v)) :=
  h.2.2 (i, kv ad v) ((kll_mem ad L 0 _).mpr ⟨i, v, hi, by rw [Nat.zero_add]⟩)
theorem klv_k {ad : Nat → Nat} {L : kL} {i : Nat} {v : Value} (hi : L[i]? = some (some v)) : ∃ k : Nat, (kll_ ad 0 L)[k]? = some (i, kv ad v) :=
  List.getElem?_of_mem ((kll_mem ad L 0 _).mpr ⟨i, v, hi, by rw [Nat.zero_add]⟩)
theorem kget_mem : ∀ (t : kT) (pc : Nat) (e : kI), kget t pc = some e → (pc, e) ∈ t
  | [], pc, e, h => by simp [kget] at h
  | (q, e') :: r, pc, e, h => by
    rw [kget] at h
    cases hq : Nat.beq q pc with
    | true =>
      simp only [hq, cond_true, Option.some.injEq] at h
      rw [← Nat.eq_of_beq_eq_true hq, h]
      exact List.mem_cons_self
    | false =>
      simp only [hq, cond_false] at h
      exact List.mem_cons_of_mem _ (kget_mem r pc e h)
