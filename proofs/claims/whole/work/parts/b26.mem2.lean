/-! OWN: cells written and made -/
section KN
variable {p : Program} {l : Launch} {e : Env} {R : Room} {s : State} {m : MethodId} {args : Array Value} {below : List Frame} {meth : Method} {c : Code} {Q : State → Prop}
variable {D : va_G} {ad : Nat → Nat} {base : Nat} {I : kMI} {H : Heap} {locs : List Loc} {cells slots : Nat} {ls : Array Slot} {L : kL} {S1 : List Value} {h : kH} {K J pc : Nat}
theorem k_iast (hC : kCx p s m args meth c D ad base I) (hin : kIn s D ad base I K J L h H locs cells slots ls) {q : Nat} {i v : Int32} {h1 : kH} (hd : decode I.2.1 pc = .ok (.iastore, 1)) (hv : kis_ h q i v = some h1)
    (kk : kKont p l e R s m args below meth c Q D ad base I K J (pc + 1) L S1 h1) : W p l e R s m args below meth c H locs cells slots Q (F0 m pc ls ((.int v :: .int i :: .ref q :: S1).map (kv ad))) := by
  obtain ⟨hx, hb, hml, hown, hts, hnm, hK, had, hNw, hbs, hZ⟩ := id hC
  obtain ⟨hl, hlen, hrel, hS, hcs, hss⟩ := id hin
  unfold kis_ at hv
  split at hv
  · rename_i n f he
    split at hv
    · rename_i hki
      obtain ⟨hki, h32⟩ := hki
      cases hv
      have hvi := vp_of_kin hki
      rcases hrel.2.2.1 q _ he with ⟨h33, _⟩ | ⟨_, cA, g1, g2, g3⟩
      · omega
      · have g1 : H[ad q]? = some (arrV cA n (fun j => .int (f j))) := g1
        refine W.iast hx hb g1 (g2 n _) (fun q => by cases q) (by rw [arrV_size]; exact hvi) rfl rfl hd fun H' e1 e2 e3 => ?_
        refine kk _ _ _ _ _ ⟨hl, hlen, hrel.put had h32 e2 e3 (Or.inr ⟨h32, cA, ?_, g2, g3⟩), k_S hS e2 e3 (had.base h32) _, hcs, hss⟩
        rw [e1, arrV_store]
        show _ = some (arrV cA n (fun j => .int (upd f i.toNatClampNeg v j)))
        congr 2
        funext z
        by_cases hz : z = i.toNatClampNeg
        · subst hz; simp [updV, upd]
        · simp [updV, upd, hz]
    · cases hv
  · cases hv
theorem k_bast (hC : kCx p s m args meth c D ad base I) (hin : kIn s D ad base I K J L h H locs cells slots ls) {q : Nat} {i v : Int32} {h1 : kH} (hd : decode I.2.1 pc = .ok (.bastore, 1)) (hv : kbs h q i v = some h1)
    (kk : kKont p l e R s m args below meth c Q D ad base I K J (pc + 1) L S1 h1) : W p l e R s m args below meth c H locs cells slots Q (F0 m pc ls ((.int v :: .int i :: .ref q :: S1).map (kv ad))) := by
  obtain ⟨hx, hb, hml, hown, hts, hnm, hK, had, hNw, hbs, hZ⟩ := id hC
  obtain ⟨hl, hlen, hrel, hS, hcs, hss⟩ := id hin
  unfold kbs at hv
  split at hv
  · rename_i n f he
    split at hv
    · rename_i hki
      obtain ⟨hki, h32⟩ := hki
      cases hv
      have hvi := vp_of_kin hki
      rcases hrel.2.2.1 q _ he with ⟨h33, _⟩ | ⟨_, cA, g1, g2, g3⟩
      · omega
      · have g1 : H[ad q]? = some (arrV cA n (fun j => .int (f j))) := g1
        refine W.bast hx hb g1 (g2 n _) (fun q => by cases q) (by rw [arrV_size]; exact hvi) rfl rfl hd fun H' e1 e2 e3 => ?_
        refine kk _ _ _ _ _ ⟨hl, hlen, hrel.put had h32 e2 e3 (Or.inr ⟨h32, cA, ?_, g2, g3⟩), k_S hS e2 e3 (had.base h32) _, hcs, hss⟩
        rw [e1, arrV_store]
        show _ = some (arrV cA n (fun j => .int (upd f i.toNatClampNeg (vp_nar .byte v) j)))
        congr 2
        funext z
        by_cases hz : z = i.toNatClampNeg
        · subst hz; simp [updV, upd, vp_nar, narrow]
        · simp [updV, upd, hz]
    · cases hv
  · rename_i n f he
    split at hv
    · rename_i hki
      obtain ⟨hki, h32⟩ := hki
      cases hv
      have hvi := vp_of_kin hki
      rcases hrel.2.2.1 q _ he with ⟨h33, _⟩ | ⟨_, cA, g1, g2, g3⟩
      · omega
      · have g1 : H[ad q]? = some (arrV cA n (fun j => .int (f j))) := g1
        refine W.zast hx hb g1 (g2 n _) (fun q => by cases q) (by rw [arrV_size]; exact hvi) rfl rfl hd fun H' e1 e2 e3 => ?_
        refine kk _ _ _ _ _ ⟨hl, hlen, hrel.put had h32 e2 e3 (Or.inr ⟨h32, cA, ?_, g2, g3⟩), k_S hS e2 e3 (had.base h32) _, hcs, hss⟩
        rw [e1, arrV_store]
        show _ = some (arrV cA n (fun j => .int (upd f i.toNatClampNeg (vp_nar .boolean v) j)))
        congr 2
        funext z
        by_cases hz : z = i.toNatClampNeg
        · subst hz; simp [updV, upd, vp_nar, narrow]
        · simp [updV, upd, hz]
    · cases hv
  · cases hv
theorem k_last (hC : kCx p s m args meth c D ad base I) (hin : kIn s D ad base I K J L h H locs cells slots ls) {q : Nat} {i : Int32} {v : Int64} {h1 : kH} (hd : decode I.2.1 pc = .ok (.lastore, 1)) (hv : kls h q i v = some h1)
    (kk : kKont p l e R s m args below meth c Q D ad base I K J (pc + 1) L S1 h1) : W p l e R s m args below meth c H locs cells slots Q (F0 m pc ls ((.long v :: .int i :: .ref q :: S1).map (kv ad))) := by
  obtain ⟨hx, hb, hml, hown, hts, hnm, hK, had, hNw, hbs, hZ⟩ := id hC
  obtain ⟨hl, hlen, hrel, hS, hcs, hss⟩ := id hin
  unfold kls at hv
  split at hv
  · rename_i n f he
    split at hv
    · rename_i hki
      obtain ⟨hki, h32⟩ := hki
      cases hv
      have hvi := vp_of_kin hki
      rcases hrel.2.2.1 q _ he with ⟨h33, _⟩ | ⟨_, cA, g1, g2, g3⟩
      · omega
      · have g1 : H[ad q]? = some (arrV cA n (fun j => .long (f j))) := g1
        refine W.last hx hb g1 (g2 n _) (fun q => by cases q) (by rw [arrV_size]; exact hvi) rfl rfl hd fun H' e1 e2 e3 => ?_
        refine kk _ _ _ _ _ ⟨hl, hlen, hrel.put had h32 e2 e3 (Or.inr ⟨h32, cA, ?_, g2, g3⟩), k_S hS e2 e3 (had.base h32) _, hcs, hss⟩
        rw [e1, arrV_store]
        show _ = some (arrV cA n (fun j => .long (vp_updL f i.toNatClampNeg v j)))
        congr 2
        funext z
        by_cases hz : z = i.toNatClampNeg
        · subst hz; simp [updV, vp_updL]
        · simp [updV, vp_updL, hz]
    · cases hv
  · cases hv
theorem k_isobj {ci q : Nat} (h1 : kis h ci q = true) : ∃ fs : List Value, h.1 q = some (.inr (ci, fs)) := by
  unfold kis at h1
  split at h1
  · rename_i c0 fs he
    simp only [beq_iff_eq] at h1
    subst h1
    exact ⟨fs, he⟩
  · cases h1
theorem k_aast (hC : kCx p s m args meth c D ad base I) (hin : kIn s D ad base I K J L h H locs cells slots ls) {q v : Nat} {i : Int32} {h1 : kH} (hd : decode I.2.1 pc = .ok (.aastore, 1)) (hv : kas h 8 q i v = some h1)
    (kk : kKont p l e R s m args below meth c Q D ad base I K J (pc + 1) L S1 h1) : W p l e R s m args below meth c H locs cells slots Q (F0 m pc ls ((.ref v :: .int i :: .ref q :: S1).map (kv ad))) := by
  obtain ⟨hx, hb, hml, hown, hts, hnm, hK, had, hNw, hbs, hZ⟩ := id hC
  obtain ⟨hl, hlen, hrel, hS, hcs, hss⟩ := id hin
  unfold kas at hv
  split at hv
  · rename_i C n f he
    split at hv
    · rename_i hki
      obtain ⟨hki, h32, hobj, rfl⟩ := hki
      cases hv
      have hvi := vp_of_kin hki
      have hlt : i.toNatClampNeg < n := Nat.not_le.mp fun q => hvi (Or.inr q)
      have h0 : ¬ i < 0 := fun q => hvi (Or.inl q)
      obtain ⟨fs, hfs⟩ := k_isobj hobj
      rcases hrel.2.2.1 v _ hfs with hat | ⟨_, h14, _⟩
      case inr => cases h14
      obtain ⟨-, r, hr, -, cellV, w1, w2, w3, -⟩ := hat
      rcases hrel.2.2.1 q _ he with ⟨h33, _⟩ | ⟨_, cA, g1, g2, g3⟩
      · omega
      · have g1 : H[ad q]? = some (arrV cA n (fun j => va_rf ((f j).map ad))) := g1
        have hr8 : vwCl[8]? = some (RX7, TX7, 9) := rfl
        have hcls := (hK.1 8 _ hr8).2
        obtain ⟨kA, comp, k1, k2, k3, k4⟩ := id g3
        have hcomp : comp = D.1 8 := Option.some.inj (k3.symm.trans hcls.1)
        subst hcomp
        obtain ⟨kC, hkC, -⟩ := hcls.2
        refine W.aast hx hb g1 (fun q h => by cases h) (fun h => by cases h) k1 k2 rfl hkC ⟨h0, by rw [arrV_size]; exact hlt⟩ w1 (fun q h => by rw [w3] at h; cases h) (by rw [w2]; exact hkC) (by rw [w2]; exact va_assign hcls) rfl rfl hd fun H' e1 e2 e3 => ?_
        refine kk _ _ _ _ _ ⟨hl, hlen, hrel.put had h32 e2 e3 (Or.inr ⟨h32, cA, ?_, g2, g3⟩), k_S hS e2 e3 (had.base h32) _, hcs, hss⟩
        rw [e1, arrV_store]
        show _ = some (arrV cA n (fun j => va_rf ((va_up f i.toNatClampNeg (some v) j).map ad)))
        congr 2
        funext z
        by_cases hz : z = i.toNatClampNeg
        · subst hz; simp [updV, va_up, va_rf]
        · simp [updV, va_up, hz]
    · cases hv
  · cases hv
theorem k_vpmap (ad : Nat → Nat) (fs : List Value) (hf : ∀ v ∈ fs, (∀ k, v ≠ .ref k) ∧ ∀ k, v ≠ .float k) : fs.map (kv ad) = fs := by
  induction fs with
  | nil => rfl
  | cons v r ih =>
    rw [List.map_cons, ih (fun w hw => hf w (List.mem_cons_of_mem _ hw))]
    congr 1
    cases v <;> first | rfl | exact absurd rfl ((hf _ List.mem_cons_self).1 _) | exact absurd rfl ((hf _ List.mem_cons_self).2 _)
theorem k_kdef (a : Nat) : ∀ v ∈ kdef a, (∀ k, v ≠ .ref k) ∧ ∀ k, v ≠ .float k := by
  intro v hv
  have hb : (List.range 14).all (fun a => (kdef a).all (fun v => match v with | .ref _ => false | .float _ => false | _ => true)) = true := by decide +kernel
  by_cases ha : a < 14
  · have h1 := List.all_eq_true.mp (List.all_eq_true.mp hb a (List.mem_range.mpr ha)) v hv
    exact ⟨fun k e => by subst e; simp at h1, fun k e => by subst e; simp at h1⟩
  · have h0 : kdef a = [] := by
      unfold kdef
      rw [List.getD_eq_getElem?_getD, List.getElem?_eq_none (by simp; omega)]
      rfl
    rw [h0] at hv
    simp at hv
theorem k_new (hcl : kCl) (hC : kCx p s m args meth c D ad base I) (hin : kIn s D ad base I K J L h H locs cells slots ls) {k n a b : Nat} {x : Int} (hd : decode I.2.1 pc = .ok (.new k, n)) (hw : ∀ w ∈ kwd I.2.2.2.2.1 ((.new k, n), a, b, x), w ∈ kWs) (hk : kct I (pc, (.new k, n), a, b, x) = true)
    (hroom : (knew h (.inr (a, kdef a)) (kdef a).length).2.1 ≤ K + R.cells ∧ (knew h (.inr (a, kdef a)) (kdef a).length).2.2 ≤ J + R.slots)
    (kk : kKont p l e R s m args below meth c Q D ad base I K J (pc + n) L (.ref h.2.1 :: S1) (knew h (.inr (a, kdef a)) (kdef a).length)) : W p l e R s m args below meth c H locs cells slots Q (F0 m pc ls (S1.map (kv ad))) := by
  obtain ⟨hx, hb, hml, hown, hts, hnm, hK, had, hNw, hbs, hZ⟩ := id hC
  obtain ⟨hl, hlen, hrel, hS, hcs, hss⟩ := id hin
  simp only [kct, Bool.and_eq_true, beq_iff_eq] at hk
  obtain ⟨rfl, hk⟩ := hk
  split at hk
  · rename_i C T N hr
    simp only [Bool.and_eq_true, decide_eq_true_eq, List.all_eq_true, List.mem_range] at hk
    obtain ⟨hN, hdv⟩ := hk
    obtain ⟨hin1, hty, hnms⟩ := hcl a C T N hr
    have hKn := hK.1 a _ hr
    have hw3 : ∀ w ∈ [Cond.classLink I.2.2.2.2.1 k C, Cond.instantiable C N, Cond.initialized C], w ∈ kWs := fun w h => hw w (by simp only [kwd, hr]; exact h)
    have r1 : h.2.1 + 1 ≤ K + R.cells := hroom.1
    have r2 : h.2.2 + (kdef a).length ≤ J + R.slots := hroom.2
    refine W.newcK (n := N) hx hb hown (hts _ (hw3 _ (by simp))) (hts _ (hw3 _ (by simp))) (hts _ (hw3 _ (by simp))) rfl hd (by omega) (by omega) hKn.2.1 rfl fun H' kC hkC e1 e2 e3 => ?_
    have hz : H.size = ad h.2.1 := hrel.1
    have h32 := hrel.2.1
    have hko := kk H' locs (cells + 1) (slots + N) ls ⟨hl, hlen, hrel.new had e2 e3 (Or.inl ⟨h32, _, hr, hN, ?_⟩), k_Sn hS e2 e3, by show cells + 1 + K = h.2.1 + 1; omega, by show slots + N + J = h.2.2 + (kdef a).length; omega⟩
    · rw [List.map_cons] at hko
      show W p l e R s m args below meth c H' locs (cells + 1) (slots + N) Q (F0 m (pc + 3) ls (.ref H.size :: S1.map (kv ad)))
      rw [hz]
      exact hko
    · rw [k_vpmap ad _ (k_kdef a), ← hz]
      exact (u_born (kty a) hts hin1 hKn hkC e1 hty).to hdv
  · cases hk
theorem k_newa (hC : kCx p s m args meth c D ad base I) (hin : kIn s D ad base I K J L h H locs cells slots ls) {n a b : Nat} {ty : ArrayType} {x : Int} {v : Int32} {e1 : kE} (hd : decode I.2.1 pc = .ok (.newarray ty, n)) (hw : ∀ w ∈ kwd I.2.2.2.2.1 ((.newarray ty, n), a, b, x), w ∈ kWs) (hk : kct I (pc, (.newarray ty, n), a, b, x) = true)
    (hv : 0 ≤ v.toInt ∧ v.toInt ≤ 100000) (he : karr (newarray.typeOf ty) v.toNatClampNeg = some e1) (hroom : (knew h e1 v.toNatClampNeg).2.1 ≤ K + R.cells ∧ (knew h e1 v.toNatClampNeg).2.2 ≤ J + R.slots)
    (kk : kKont p l e R s m args below meth c Q D ad base I K J (pc + n) L (.ref h.2.1 :: S1) (knew h e1 v.toNatClampNeg)) : W p l e R s m args below meth c H locs cells slots Q (F0 m pc ls ((.int v :: S1).map (kv ad))) := by
  obtain ⟨hx, hb, hml, hown, hts, hnm, hK, had, hNw, hbs, hZ⟩ := id hC
  obtain ⟨hl, hlen, hrel, hS, hcs, hss⟩ := id hin
  simp only [kct, Bool.and_eq_true, beq_iff_eq] at hk
  obtain ⟨rfl, hk⟩ := hk
  have r1 : h.2.1 + 1 ≤ K + R.cells := hroom.1
  have r2 : h.2.2 + v.toNatClampNeg ≤ J + R.slots := hroom.2
  have hcl := k_cl hv.1
  have hz : H.size = ad h.2.1 := hrel.1
  have h32 := hrel.2.1
  have hby : v.toNatClampNeg * componentBytes (newarray.typeOf ty) ≤ 536870912 := by
    have h8 : componentBytes (newarray.typeOf ty) ≤ 8 := by cases ty <;> decide
    have hv1 : v.toNatClampNeg ≤ 100000 := by omega
    exact Nat.le_trans (Nat.mul_le_mul hv1 h8) (by decide)
  refine va_newaK hx hb (hts _ (hw _ (by simp [kwd]))) rfl hd rfl (k_neg hv.1) rfl hby (by omega) (by omega) rfl fun H' cA g1 g2 g3 g4 g5 => ?_
  have hko := kk H' locs (cells + 1) (slots + v.toNatClampNeg) ls ⟨hl, hlen, hrel.new had g2 g3 ?_, k_Sn hS g2 g3, by show cells + 1 + K = h.2.1 + 1; omega, by show slots + v.toNatClampNeg + J = h.2.2 + v.toNatClampNeg; omega⟩
  · rw [List.map_cons] at hko
    show W p l e R s m args below meth c H' locs (cells + 1) (slots + v.toNatClampNeg) Q (F0 m (pc + 2) ls (.ref H.size :: S1.map (kv ad)))
    rw [hz]
    exact hko
  · rw [hz] at g1
    cases ty <;> simp only [newarray.typeOf, karr, Option.some.injEq] at he <;> first | (subst he; exact Or.inr ⟨h32, cA, g1, g4, g5⟩) | cases he
theorem k_arrV {cA : ClassId} {N : Nat} {f g : Nat → Value} (h : ∀ j, j < N → f j = g j) : arrV cA N f = arrV cA N g := by
  unfold arrV
  rw [show (fun j : Fin N => f j.val) = (fun j : Fin N => g j.val) from funext fun j => h j.val j.isLt]
theorem k_anew (hC : kCx p s m args meth c D ad base I) (hin : kIn s D ad base I K J L h H locs cells slots ls) {k a b : Nat} {x : Int} {v : Int32} (hd : decode I.2.1 pc = .ok (.anewarray k, 3)) (hw : ∀ w ∈ kwd I.2.2.2.2.1 ((.anewarray k, 3), a, b, x), w ∈ kWs)
    (hv : 0 ≤ v.toInt ∧ v.toInt ≤ 100000) {e1 : kE} (he : e1 = .inl (.object "KnockFinder$State", v.toNatClampNeg, .inr (.inr (.inr (.inr fun j => if j < v.toNatClampNeg then none else some 0))))) (hroom : (knew h e1 v.toNatClampNeg).2.1 ≤ K + R.cells ∧ (knew h e1 v.toNatClampNeg).2.2 ≤ J + R.slots)
    (kk : kKont p l e R s m args below meth c Q D ad base I K J (pc + 3) L (.ref h.2.1 :: S1) (knew h e1 v.toNatClampNeg)) : W p l e R s m args below meth c H locs cells slots Q (F0 m pc ls ((.int v :: S1).map (kv ad))) := by
  obtain ⟨hx, hb, hml, hown, hts, hnm, hK, had, hNw, hbs, hZ⟩ := id hC
  obtain ⟨hl, hlen, hrel, hS, hcs, hss⟩ := id hin
  have r1 : h.2.1 + 1 ≤ K + R.cells := hroom.1
  have r2 : h.2.2 + v.toNatClampNeg ≤ J + R.slots := hroom.2
  have hcl := k_cl hv.1
  have hz : H.size = ad h.2.1 := hrel.1
  have h32 := hrel.2.1
  refine W.anew hx hb hown (hts _ (hw _ (by simp [kwd]))) (va_AO.use hNw.2.1) rfl hd rfl (k_neg hv.1) (by omega) (by omega) (by omega) fun cA kA comp f1 f2 f3 f4 => ?_
  generalize hH1 : H.push ({ cls := cA, slots := Array.replicate v.toNatClampNeg .null, vm := .none } : Cell) = H1
  have z1 : H1.size = H.size + 1 := by rw [← hH1, Array.size_push]
  have g1 : H1[H.size]? = some (arrV cA v.toNatClampNeg (fun _ => .null)) := by rw [← hH1, Array.getElem?_push_size, ← arrV_new]
  have o1 : ∀ q : Nat, q < H.size → H1[q]? = H[q]? := fun q hq => by rw [← hH1, Array.getElem?_push, if_neg (Nat.ne_of_lt hq)]
  have hAr : ArrOfT s cA (.object "KnockFinder$State") := fun N z => ⟨(fun k h => by cases h), kA, f2, comp, f3⟩
  have hko := kk H1 locs (cells + 1) (slots + v.toNatClampNeg) ls ⟨hl, hlen, hrel.new had z1 o1 ?_, k_Sn hS z1 o1, by show cells + 1 + K = h.2.1 + 1; omega, by show slots + v.toNatClampNeg + J = h.2.2 + v.toNatClampNeg; omega⟩
  · rw [List.map_cons] at hko
    show W p l e R s m args below meth c H1 locs (cells + 1) (slots + v.toNatClampNeg) Q (F0 m (pc + 3) ls (.ref H.size :: S1.map (kv ad)))
    rw [hz]
    exact hko
  · rw [hz] at g1
    subst he
    refine Or.inr ⟨h32, cA, g1.trans ?_, hAr, kA, comp, f2, f3, f4, f1⟩
    show some (arrV cA v.toNatClampNeg (fun _ => .null)) = some (arrV cA v.toNatClampNeg (fun j => va_rf ((if j < v.toNatClampNeg then none else some 0 : Option Nat).map ad)))
    refine congrArg some (k_arrV (fun j hj => ?_))
    rw [if_pos hj]
    rfl
theorem k_gets (hC : kCx p s m args meth c D ad base I) (hin : kIn s D ad base I K J L h H locs cells slots ls) {k n a b : Nat} {x : Int} (hd : decode I.2.1 pc = .ok (.getstatic k, n)) (hw : ∀ w ∈ kwd I.2.2.2.2.1 ((.getstatic k, n), a, b, x), w ∈ kWs) (hk : kct I (pc, (.getstatic k, n), a, b, x) = true)
    (kk : W p l e R s m args below meth c H locs cells slots Q (F0 m (pc + n) ls ((kgv a :: S1).map (kv ad)))) : W p l e R s m args below meth c H locs cells slots Q (F0 m pc ls (S1.map (kv ad))) := by
  obtain ⟨hx, hb, hml, hown, hts, hnm, hK, had, hNw, hbs, hZ⟩ := id hC
  obtain ⟨hl, hlen, hrel, hS, hcs, hss⟩ := id hin
  simp only [kct, Bool.and_eq_true, beq_iff_eq, decide_eq_true_eq] at hk
  obtain ⟨rfl, h1, h6⟩ := hk
  obtain ⟨r, hr, hv⟩ : ∃ r, kZl[a - 1]? = some r ∧ r.2.2.2 = kgv a := by
    match a, h1, h6 with
    | 1, _, _ => exact ⟨_, rfl, rfl⟩
    | 2, _, _ => exact ⟨_, rfl, rfl⟩
    | 3, _, _ => exact ⟨_, rfl, rfl⟩
    | 4, _, _ => exact ⟨_, rfl, rfl⟩
    | 5, _, _ => exact ⟨_, rfl, rfl⟩
    | 6, _, _ => exact ⟨_, rfl, rfl⟩
  rw [List.map_cons, ← hv] at kk
  exact va_gets hx hb (hZ r (List.mem_of_getElem? hr)) hS hown (hts _ (hw _ (by simp [kwd, hr]))) (fun _ h9 => h9) hd kk
end KN
