/-! OWN: cells read, written, made; methods called: one step each -/
theorem kv_rf (ad : Nat → Nat) (o : Option Nat) : kv ad (va_rf o) = va_rf (o.map ad) := by cases o <;> rfl
theorem k_size (ad : Nat → Nat) (cA : ClassId) (x : vp_A) : (vp_cell cA (kva ad x)).slots.size = x.1 := by
  obtain ⟨n, f | f | f | f | f⟩ := x <;> exact arrV_size _ _ _
theorem k_isArr (ad : Nat → Nat) {U : State} {cA : ClassId} {ty : FieldType} (h : ArrOfT U cA ty) (x : vp_A) : U.isArrayOf (vp_cell cA (kva ad x)) ty := by
  obtain ⟨n, f | f | f | f | f⟩ := x <;> exact h _ _
section KM
variable {p : Program} {l : Launch} {e : Env} {R : Room} {s : State} {m : MethodId} {args : Array Value} {below : List Frame} {meth : Method} {c : Code} {Q : State → Prop}
variable {D : va_G} {ad : Nat → Nat} {base : Nat} {I : kMI} {H : Heap} {locs : List Loc} {cells slots : Nat} {ls : Array Slot} {L : kL} {S1 : List Value} {h : kH} {K J pc : Nat}
abbrev kKont (p : Program) (l : Launch) (e : Env) (R : Room) (s : State) (m : MethodId) (args : Array Value) (below : List Frame) (meth : Method) (c : Code) (Q : State → Prop) (D : va_G) (ad : Nat → Nat) (base : Nat) (I : kMI) (K J pc' : Nat) (L' : kL) (S' : List Value) (h' : kH) : Prop :=
  ∀ (H1 : Heap) (locs1 : List Loc) (cells1 slots1 : Nat) (ls1 : Array Slot), kIn s D ad base I K J L' h' H1 locs1 cells1 slots1 ls1 → W p l e R s m args below meth c H1 locs1 cells1 slots1 Q (F0 m pc' ls1 (S'.map (kv ad)))
theorem k_P {a q : Nat} {fs : List Value} {r : vw_C} (hr : vwCl[a]? = some r) (hob : t_OB (ad q) (D.1 a) r.2.2 (D.2 a) H (vp_V (fs.map (kv ad)))) : va_P D vwCl [(ad q, .inr (a, fs.map (kv ad)))] H := by
  intro k0 q0 hq0
  cases k0 with
  | zero =>
    simp only [List.getElem?_cons_zero, Option.some.injEq] at hq0
    subst hq0
    exact ⟨r, hr, hob⟩
  | succ k0 => simp at hq0
theorem k_getfield (hcl : kCl) (hC : kCx p s m args meth c D ad base I) (hin : kIn s D ad base I K J L h H locs cells slots ls) {k n a b q : Nat} {x : Int} {v : Value} (hd : decode I.2.1 pc = .ok (.getfield k, n)) (hw : ∀ w ∈ kwd I.2.2.2.2.1 ((.getfield k, n), a, b, x), w ∈ kWs) (hk : kct I (pc, (.getfield k, n), a, b, x) = true) (hv : kfld h a q b = some v)
    (kk : W p l e R s m args below meth c H locs cells slots Q (F0 m (pc + n) ls ((v :: S1).map (kv ad)))) : W p l e R s m args below meth c H locs cells slots Q (F0 m pc ls ((.ref q :: S1).map (kv ad))) := by
  obtain ⟨hx, hb, hml, hown, hts, hnm, hK, had, hNw, hbs, hZ⟩ := id hC
  obtain ⟨hl, hlen, hrel, hS, hcs, hss⟩ := id hin
  have hn : n = 3 ∧ kfo I.2.2.2.2.1 a b = true := by simpa [kct] using hk
  obtain ⟨rfl, hf⟩ := hn
  unfold kfld at hv
  split at hv
  · rename_i ci fs he
    split at hv
    · rename_i hci
      subst hci
      rcases hrel.2.2.1 q _ he with ⟨h32, ⟨C, T, N⟩, hr, hfl, hob⟩ | ⟨h30, rfl, q1, rfl, hst⟩
      · simp only [kfo, hr, decide_eq_true_eq] at hf
        exact va_get (ref := (T b).1) hx hb hts (hcl _ C T N hr).1 hown hK (k_P hr hob) 0 rfl hr b hf (hts _ (hw _ (by simp [kwd, kfl, hr]))) (fun _ h9 => h9) (v := kv ad v) (by rw [List.getElem?_map, hv]; rfl) hd kk
      · have h14 : vwCl[14]? = none := rfl
        match b, hv with
        | 0, hv =>
          cases hv
          obtain ⟨cf, k9, fi, f, cell, h1, h2, h3, h4, h5, h6⟩ := hst.2.1
          exact W.getf hx hb hown (hts _ (hw _ (by simp [kwd, kfl, h14]))) h1 h2 h3 h4 h5 rfl rfl hd kk
        | 1, hv =>
          cases hv
          obtain ⟨cf, k9, fi, f, cell, h1, h2, h3, h4, h5, h6⟩ := hst.2.2
          exact W.getf hx hb hown (hts _ (hw _ (by simp [kwd, kfl, h14]))) h1 h2 h3 h4 h5 rfl rfl hd kk
        | b + 2, hv => simp at hv
    · cases hv
  · cases hv
theorem k_putfield (hcl : kCl) (hC : kCx p s m args meth c D ad base I) (hin : kIn s D ad base I K J L h H locs cells slots ls) {k n a b q : Nat} {x : Int} {v : Value} {h1 : kH} (hd : decode I.2.1 pc = .ok (.putfield k, n)) (hw : ∀ w ∈ kwd I.2.2.2.2.1 ((.putfield k, n), a, b, x), w ∈ kWs) (hk : kct I (pc, (.putfield k, n), a, b, x) = true) (hv : kput h a q b (kty a b) v = some h1)
    (kk : kKont p l e R s m args below meth c Q D ad base I K J (pc + n) L S1 h1) : W p l e R s m args below meth c H locs cells slots Q (F0 m pc ls ((v :: .ref q :: S1).map (kv ad))) := by
  obtain ⟨hx, hb, hml, hown, hts, hnm, hK, had, hNw, hbs, hZ⟩ := id hC
  obtain ⟨hl, hlen, hrel, hS, hcs, hss⟩ := id hin
  simp only [kct, Bool.and_eq_true, beq_iff_eq] at hk
  obtain ⟨rfl, hf, hfin⟩ := hk
  unfold kput at hv
  split at hv
  · rename_i ci fs he
    split at hv
    · rename_i hci
      obtain ⟨rfl, hbl, h32, hft⟩ := hci
      cases hv
      rcases hrel.2.2.1 q _ he with hat | ⟨h30, _⟩
      case inr => omega
      obtain ⟨-, ⟨C, T, N⟩, hr, hfl, cell, q1, q2, q3, q4⟩ := hat
      simp only [hr, Bool.or_eq_true, Bool.and_eq_true, decide_eq_true_eq] at hfin
      simp only [kfo, hr, decide_eq_true_eq] at hf
      obtain ⟨hin1, hty, hnms⟩ := hcl _ C T N hr
      have hap := va_apart (own := I.2.2.2.2.1) hts hin1 (kty ci) hty hnms hK hr
      obtain ⟨hSl, hfc, kC, hkC, hkind⟩ := hK.1 ci _ hr
      obtain ⟨cf, kf, fi, f, hi, hsl⟩ := hSl b hf
      have hlay := hts _ (hin1 _ (u_in_lay hf))
      have hst := (u_facts hfc hkC (u_lays hts hin1 hf) hi).1
      have hlink : (Cond.fieldLink I.2.2.2.2.1 k (T b).1 (T b).2.1 (T b).2.2.1).before args s = true := hts _ (hw _ (by simp [kwd, kfl, hr]))
      have hi2 : s.fieldFound? (T b).1 (T b).2.1 (T b).2.2.1 = some (cf, kf, fi, f) := hi
      obtain ⟨hnar, hfits⟩ := k_fit (ad := ad) hft
      have fin : ∀ H' : Heap, H'[ad q]? = some (cell.setSlot f.slot (kv ad v)) → H'.size = H.size → (∀ z, z ≠ ad q → H'[z]? = H[z]?) → kIn s D ad base I K J L (kup h q (.inr (ci, fs.set b v))) H' (locs ++ [⟨ad q, f.slot⟩]) cells slots ls := by
        intro H' e1 e2 e3
        refine ⟨hl, hlen, hrel.put had h32 e2 e3 (Or.inl ⟨h32, _, hr, by rw [List.length_set]; exact hfl, ?_⟩), k_S hS e2 e3 (had.base h32) _, hcs, hss⟩
        rw [hsl] at e1
        exact t_OB.to (V := updV (vp_V (fs.map (kv ad))) b (kv ad v)) ⟨_, e1, q2, q3, t_set q4 hap hf _⟩ (fun j _ => by rw [List.map_set]; exact vp_updV_set (by simpa using hbl) _ j)
      rcases hfin with hfin | ⟨hini, hdecl⟩
      · unfold u_lay at hlay
        rw [if_neg (by rw [hfin]; decide)] at hlay
        have h6 := u_store hfc hkC hkind hlay hi (hty b hf) hnar hfits
        exact W.putK hx hb (f := f) ⟨hown, hlink, ⟨_, _, _, hi2⟩, hst⟩ (by rw [q2]; exact h6) q1 q3 (by rw [hsl]; exact k2_hasslot (q4 b hf)) rfl rfl hd fun H' e1 e2 e3 => kk _ _ _ _ _ (fin H' e1 e2 e3)
      · by_cases hq : (T b).2.2.2 = true
        · unfold u_lay at hlay
          rw [if_pos hq] at hlay
          have hcf : m.cls = cf := by
            obtain ⟨_, _, c', _, _, _, -, -, hf', -, -, -, hown2, -⟩ := Cond.laysFinal_spec hlay
            have e1 : c' = cf := by have := hi.symm.trans hf'; simp at this; exact this.1.symm
            rw [hdecl] at hown2
            rw [← e1]; exact Option.some.inj (hown.symm.trans hown2)
          have h6 := u_fits hfc hkC hkind (Or.inr hlay) hi (hty b hf) hnar hfits
          exact W.putFinK hx hb hown hlink hi2 hst hcf (hnm hini) (by rw [q2]; exact h6) q1 q3 (by rw [hsl]; exact k2_hasslot (q4 b hf)) rfl rfl hd fun H' e1 e2 e3 => kk _ _ _ _ _ (fin H' e1 e2 e3)
        · unfold u_lay at hlay
          rw [if_neg hq] at hlay
          have h6 := u_store hfc hkC hkind hlay hi (hty b hf) hnar hfits
          exact W.putK hx hb (f := f) ⟨hown, hlink, ⟨_, _, _, hi2⟩, hst⟩ (by rw [q2]; exact h6) q1 q3 (by rw [hsl]; exact k2_hasslot (q4 b hf)) rfl rfl hd fun H' e1 e2 e3 => kk _ _ _ _ _ (fin H' e1 e2 e3)
    · cases hv
  · cases hv
theorem k_alen (hC : kCx p s m args meth c D ad base I) (hin : kIn s D ad base I K J L h H locs cells slots ls) {q : Nat} {v : Int32} (hd : decode I.2.1 pc = .ok (.arraylength, 1)) (hv : klen h q = some v)
    (kk : W p l e R s m args below meth c H locs cells slots Q (F0 m (pc + 1) ls ((.int v :: S1).map (kv ad)))) : W p l e R s m args below meth c H locs cells slots Q (F0 m pc ls ((.ref q :: S1).map (kv ad))) := by
  obtain ⟨hx, hb, -⟩ := id hC
  obtain ⟨hl, hlen, hrel, hS, hcs, hss⟩ := id hin
  unfold klen at hv
  split at hv
  · rename_i ty n x he
    cases hv
    rcases hrel.2.2.1 q _ he with ⟨h32, hty, n', f, e1, cl0, g1, g2, g3, g4, g5⟩ | ⟨h32, cA, g1, g2, g3⟩
    · cases e1
      exact W.alen hx hb g1 g2 g4.2 rfl rfl hd kk
    · exact W.alen hx hb g1 (k_isArr ad g2 _) (by rw [k_size]) rfl rfl hd kk
  · cases hv
theorem k_iald (hC : kCx p s m args meth c D ad base I) (hin : kIn s D ad base I K J L h H locs cells slots ls) {q : Nat} {i v : Int32} (hd : decode I.2.1 pc = .ok (.iaload, 1)) (hv : kil h q i = some v)
    (kk : W p l e R s m args below meth c H locs cells slots Q (F0 m (pc + 1) ls ((.int v :: S1).map (kv ad)))) : W p l e R s m args below meth c H locs cells slots Q (F0 m pc ls ((.int i :: .ref q :: S1).map (kv ad))) := by
  obtain ⟨hx, hb, -⟩ := id hC
  obtain ⟨hl, hlen, hrel, hS, hcs, hss⟩ := id hin
  unfold kil at hv
  split at hv
  · rename_i n f he
    split at hv
    · rename_i hki
      cases hv
      have hvi := vp_of_kin hki
      have hlt : i.toNatClampNeg < n := Nat.not_le.mp fun q => hvi (Or.inr q)
      rcases hrel.2.2.1 q _ he with ⟨h32, hty, n', f', e1, cl0, g1, g2, g3, g4, g5⟩ | ⟨h32, cA, g1, g2, g3⟩
      · cases e1
        exact W.iald (v := .int (f i.toNatClampNeg)) hx hb g1 g2 g3 (fun z => hvi (z.elim Or.inl (fun y => Or.inr (Nat.le_trans g4.1 y)))) (g5 _ hlt) rfl rfl hd kk
      · have g1 : H[ad q]? = some (arrV cA n (fun j => .int (f j))) := g1
        exact W.iald (v := .int (f i.toNatClampNeg)) hx hb g1 (g2 n (fun j => .int (f j))) (fun q => by cases q) (by show ¬ (i < 0 ∨ (arrV _ _ _).slots.size ≤ _); rw [arrV_size]; exact hvi) (by show (arrV _ _ _).slots[_]? = _; rw [arrV_read _ _ hlt]) rfl rfl hd kk
    · cases hv
  · cases hv
theorem k_bald (hC : kCx p s m args meth c D ad base I) (hin : kIn s D ad base I K J L h H locs cells slots ls) {q : Nat} {i v : Int32} (hd : decode I.2.1 pc = .ok (.baload, 1)) (hv : kbl h q i = some v)
    (kk : W p l e R s m args below meth c H locs cells slots Q (F0 m (pc + 1) ls ((.int v :: S1).map (kv ad)))) : W p l e R s m args below meth c H locs cells slots Q (F0 m pc ls ((.int i :: .ref q :: S1).map (kv ad))) := by
  obtain ⟨hx, hb, -⟩ := id hC
  obtain ⟨hl, hlen, hrel, hS, hcs, hss⟩ := id hin
  unfold kbl at hv
  split at hv
  · rename_i n f he
    split at hv
    · rename_i hki
      cases hv
      have hvi := vp_of_kin hki
      have hlt : i.toNatClampNeg < n := Nat.not_le.mp fun q => hvi (Or.inr q)
      rcases hrel.2.2.1 q _ he with ⟨h32, hty, n', f', e1, cl0, g1, g2, g3, g4, g5⟩ | ⟨h32, cA, g1, g2, g3⟩
      · cases e1
        exact W.bald (v := .int (f i.toNatClampNeg)) hx hb g1 g2 g3 (fun z => hvi (z.elim Or.inl (fun y => Or.inr (Nat.le_trans g4.1 y)))) (g5 _ hlt) rfl rfl hd kk
      · have g1 : H[ad q]? = some (arrV cA n (fun j => .int (f j))) := g1
        exact W.bald (v := .int (f i.toNatClampNeg)) hx hb g1 (g2 n (fun j => .int (f j))) (fun q => by cases q) (by show ¬ (i < 0 ∨ (arrV _ _ _).slots.size ≤ _); rw [arrV_size]; exact hvi) (by show (arrV _ _ _).slots[_]? = _; rw [arrV_read _ _ hlt]) rfl rfl hd kk
    · cases hv
  · rename_i n f he
    split at hv
    · rename_i hki
      cases hv
      have hvi := vp_of_kin hki
      have hlt : i.toNatClampNeg < n := Nat.not_le.mp fun q => hvi (Or.inr q)
      rcases hrel.2.2.1 q _ he with ⟨h32, hty, _⟩ | ⟨h32, cA, g1, g2, g3⟩
      · rcases hty with hty | hty <;> cases hty
      · have g1 : H[ad q]? = some (arrV cA n (fun j => .int (f j))) := g1
        exact W.zald (v := .int (f i.toNatClampNeg)) hx hb g1 (g2 n (fun j => .int (f j))) (fun q => by cases q) (by show ¬ (i < 0 ∨ (arrV _ _ _).slots.size ≤ _); rw [arrV_size]; exact hvi) (by show (arrV _ _ _).slots[_]? = _; rw [arrV_read _ _ hlt]) rfl rfl hd kk
    · cases hv
  · cases hv
theorem k_lald (hC : kCx p s m args meth c D ad base I) (hin : kIn s D ad base I K J L h H locs cells slots ls) {q : Nat} {i : Int32} {v : Int64} (hd : decode I.2.1 pc = .ok (.laload, 1)) (hv : kll h q i = some v)
    (kk : W p l e R s m args below meth c H locs cells slots Q (F0 m (pc + 1) ls ((.long v :: S1).map (kv ad)))) : W p l e R s m args below meth c H locs cells slots Q (F0 m pc ls ((.int i :: .ref q :: S1).map (kv ad))) := by
  obtain ⟨hx, hb, -⟩ := id hC
  obtain ⟨hl, hlen, hrel, hS, hcs, hss⟩ := id hin
  unfold kll at hv
  split at hv
  · rename_i n f he
    split at hv
    · rename_i hki
      cases hv
      have hvi := vp_of_kin hki
      have hlt : i.toNatClampNeg < n := Nat.not_le.mp fun q => hvi (Or.inr q)
      rcases hrel.2.2.1 q _ he with ⟨h32, hty, _⟩ | ⟨h32, cA, g1, g2, g3⟩
      · rcases hty with hty | hty <;> cases hty
      · have g1 : H[ad q]? = some (arrV cA n (fun j => .long (f j))) := g1
        exact W.lald (v := .long (f i.toNatClampNeg)) hx hb g1 (g2 n (fun j => .long (f j))) (fun q => by cases q) (by show ¬ (i < 0 ∨ (arrV _ _ _).slots.size ≤ _); rw [arrV_size]; exact hvi) (by show (arrV _ _ _).slots[_]? = _; rw [arrV_read _ _ hlt]) rfl rfl hd kk
    · cases hv
  · cases hv
theorem k_aald (hC : kCx p s m args meth c D ad base I) (hin : kIn s D ad base I K J L h H locs cells slots ls) {q : Nat} {i : Int32} {v : Value} (hd : decode I.2.1 pc = .ok (.aaload, 1)) (hv : kal h q i = some v)
    (kk : W p l e R s m args below meth c H locs cells slots Q (F0 m (pc + 1) ls ((v :: S1).map (kv ad)))) : W p l e R s m args below meth c H locs cells slots Q (F0 m pc ls ((.int i :: .ref q :: S1).map (kv ad))) := by
  obtain ⟨hx, hb, -⟩ := id hC
  obtain ⟨hl, hlen, hrel, hS, hcs, hss⟩ := id hin
  unfold kal at hv
  split at hv
  · rename_i C n f he
    split at hv
    · rename_i hki
      cases hv
      have hvi := vp_of_kin hki
      have hlt : i.toNatClampNeg < n := Nat.not_le.mp fun q => hvi (Or.inr q)
      rcases hrel.2.2.1 q _ he with ⟨h32, hty, _⟩ | ⟨h32, cA, g1, g2, g3⟩
      · rcases hty with hty | hty <;> cases hty
      · rw [List.map_cons, kv_rf] at kk
        have g1 : H[ad q]? = some (arrV cA n (fun j => va_rf ((f j).map ad))) := g1
        exact W.aald (v := va_rf ((f i.toNatClampNeg).map ad)) (ty := .object C) hx hb g1 (g2 n (fun j => va_rf ((f j).map ad))) rfl (fun q => by cases q) (by show ¬ (i < 0 ∨ (arrV _ _ _).slots.size ≤ _); rw [arrV_size]; exact hvi) (by show (arrV _ _ _).slots[_]? = _; rw [arrV_read _ _ hlt]) rfl rfl hd kk
    · cases hv
  · cases hv
end KM
