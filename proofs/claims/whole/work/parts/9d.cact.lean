/-! OWN: the class: acts end; undone -/
/-- the reference's cells are kept -/
def FrC (i i' : tI) (l l' : tL) (I I' : tI) (J J' : tL) : Prop := ∀ p, 217 ≤ p → i' p = i p ∧ l' p = l p ∧ I' p = I p ∧ J' p = J p
def RtC (h : kH) (v : Option Value) (Q : tI → tL → tI → tL → Nat → Nat → (Nat → Nat) → Prop) (r : kR) : Prop := ∃ i l I J nw df P, r = (v, mH h i l I J nw df P) ∧ Q i l I J nw df P
section FRA
variable {i i' i2 : tI} {l l' l2 : tL} {I I' I2 : tI} {J J' J2 : tL}
theorem FrC_refl : FrC i i l l I I J J := fun _ _ => ⟨rfl, rfl, rfl, rfl⟩
theorem FrC_trans (h1 : FrC i i' l l' I I' J J') (h2 : FrC i' i2 l' l2 I' I2 J' J2) : FrC i i2 l l2 I I2 J J2 := fun p hp => ⟨(h2 p hp).1.trans (h1 p hp).1, (h2 p hp).2.1.trans (h1 p hp).2.1, (h2 p hp).2.2.1.trans (h1 p hp).2.2.1, (h2 p hp).2.2.2.trans (h1 p hp).2.2.2⟩
theorem FrC_r {a b : Nat} (k : Kr a b i i' l l' I I' J J') (h : b < 217) : FrC i i' l l' I I' J J' := fun p hp => k p (by omega)
theorem FrC_c {df : Nat} (k : Kc df i i' l l' I I' J J') (h : isS df) : FrC i i' l l' I I' J J' := fun p hp => k p (by omega) (by have := h.b; omega)
theorem FrC_p {ks ls : List (Nat × Nat)} {qs : List Nat} (k : Kp ks ls qs i i' l l' I I' J J') (h1 : ∀ z ∈ ks, z.1 < 217) (h2 : ∀ z ∈ ls, z.1 < 217) (h3 : ∀ z ∈ qs, z < 217) : FrC i i' l l' I I' J J' := fun p hp => ⟨funext fun m => k.1 p m (fun z => by have := h1 _ z; simp at this; omega), funext fun m => k.2.1 p m (fun z => by have := h2 _ z; simp at this; omega), k.2.2.1 p (fun z => by have := h3 _ z; omega), k.2.2.2 p (fun z => by have := h3 _ z; omega)⟩
end FRA
theorem psh_ln {PS : List (Nat → Nat)} {F : Nat → Nat} (h : PS.length ≤ 8) : (psh PS F).length = min (PS.length + 1) 8 := by
  unfold psh
  by_cases c : PS.length = 8
  · rw [if_pos c, List.length_append, List.length_tail, List.length_singleton]
    omega
  · rw [if_neg c, List.length_append, List.length_singleton]
    omega
theorem psh_get {PS : List (Nat → Nat)} {F : Nat → Nat} (h : PS.length ≤ 8) {n : Nat} : (n + 1 = min (PS.length + 1) 8 → (psh PS F).getD n (fun _ => 0) = F) ∧ (n + 1 < min (PS.length + 1) 8 → (psh PS F).getD n (fun _ => 0) = PS.getD (if PS.length = 8 then n + 1 else n) (fun _ => 0)) := by
  unfold psh
  refine ⟨fun e => ?_, fun e => ?_⟩
  · by_cases c : PS.length = 8
    · rw [if_pos c, List.getD_eq_getElem?_getD, List.getElem?_append_right (by rw [List.length_tail]; omega), List.length_tail, show n - (PS.length - 1) = 0 by omega]
      rfl
    · rw [if_neg c, List.getD_eq_getElem?_getD, List.getElem?_append_right (by omega), show n - PS.length = 0 by omega]
      rfl
  · by_cases c : PS.length = 8
    · rw [if_pos c, if_pos c, List.getD_eq_getElem?_getD, List.getD_eq_getElem?_getD, List.getElem?_append_left (by rw [List.length_tail]; omega), List.getElem?_tail]
    · rw [if_neg c, if_neg c, List.getD_eq_getElem?_getD, List.getD_eq_getElem?_getD, List.getElem?_append_left (by omega)]
section CAC
variable {d : Nat} {h : kH} {i : tI} {l : tL} {I : tI} {J : tL} {nw df : Nat} {P : Nat → Nat}
theorem Gd_rc {v : Option Value} {Q : tI → tL → tI → tL → Nat → Nat → (Nat → Nat) → Prop} (q : Q i l I J nw df P) : Gd (some (v, (mH h i l I J nw df P))) (RtC h v Q) := ⟨_, rfl, i, l, I, J, nw, df, P, rfl, q⟩
theorem Gd_rce {v w : Option Value} {Q : tI → tL → tI → tL → Nat → Nat → (Nat → Nat) → Prop} (e : v = w) (q : Q i l I J nw df P) : Gd (some (v, (mH h i l I J nw df P))) (RtC h w Q) := by subst e; exact Gd_rc q
theorem Gd_callC {v : Option Value} {Q1 : tI → tL → tI → tL → Nat → Nat → (Nat → Nat) → Prop} {o : Option kR} {f : kR → Option kR} {Q : kR → Prop} (hc : Gd o (RtC h v Q1)) (g : ∀ i l I J nw df P, Q1 i l I J nw df P → Gd (f (v, (mH h i l I J nw df P))) Q) : Gd (o.bind f) Q := Gd_bind hc (fun r ⟨i, l, I, J, nw, df, P, e, q⟩ => by rw [e]; exact g i l I J nw df P q)
theorem Gd_toC {v : Option Value} {Q1 : tI → tL → tI → tL → Prop} {Q : tI → tL → tI → tL → Nat → Nat → (Nat → Nat) → Prop} {o : Option kR} (hc : Gd o (Rt h nw df P v Q1)) (g : ∀ i l I J, Q1 i l I J → Q i l I J nw df P) : Gd o (RtC h v Q) := Gd_mono hc (fun r ⟨i, l, I, J, e, q⟩ => ⟨i, l, I, J, nw, df, P, e, g i l I J q⟩)
theorem kal65 {a : Nat} (ha : a < 8) : kal (mH h i l I J nw df P) 65 (nI a) = some (.ref (P a)) := by rw [m_al, if_pos (nI_kin ha (by decide)), nI_clamp (by omega)]
theorem kas65 {a v : Nat} (ha : a < 8) (hv : isC8 v) : kas (mH h i l I J nw df P) 8 65 (nI a) v = some (mH h i l I J nw df (va_up P a v)) := by rw [m_as hv.2.1 hv.1, if_pos (nI_kin ha (by decide)), nI_clamp (by omega)]
theorem c_endAct {F F2 : Nat → Nat} {PS : List (Nat → Nat)} {T : Nat → Nat} {tc : Nat} (s : cSs nw df P) (ok : okF F) (ok2 : okF F2) (st : cSta i I nw F) (st2 : cSta i I df F2) (ps : cPst i I P PS) (tp : cTap i I T tc) : Gd (rn (d + 5) mX11_endAct [.ref 32] (mH h i l I J nw df P)) (RtC h none fun i' l' I' J' nw' df' P' => FrC i i' l l' I I' J J' ∧ CInv i' I' nw' df' P' F2 (psh PS F) T tc) := by
  obtain ⟨pn, p1, p2, p3, p4, p5⟩ := ps
  have n8 := s.1.c8.1
  have d8 := s.2.1.c8.1
  have hnb := s.1.b
  have hdb := s.2.1.b
  have sp := s.2.2.2.1 pn p1
  rw [X11_endAct_E]
  conv => arg 1; simp (disch := first | assumption | omega | decide | exact bI_or _) only [kal65, kas65, m_pnw, m_pdf, p2, p3, j_minN, kmodN, X11_endAct_0, X11_endAct_1, X11_endAct_4, X11_endAct_5, X11_endAct_8, X11_endAct_9, X11_endAct_10, X11_endAct_11, X11_endAct_14, X11_endAct_15, X11_endAct_18, X11_endAct_19, X11_endAct_22, X11_endAct_23, X11_endAct_24, X11_endAct_25, X11_endAct_28, X11_endAct_31, X11_endAct_32, X11_endAct_33, X11_endAct_36, X11_endAct_37, X11_endAct_38, X11_endAct_41, X11_endAct_42, X11_endAct_43, X11_endAct_45, X11_endAct_46, X11_endAct_49, X11_endAct_50, X11_endAct_51, X11_endAct_54, X11_endAct_55, X11_endAct_56, X11_endAct_58, X11_endAct_61, X11_endAct_64, X11_endAct_65, X11_endAct_68, g12_3, g12_4, g12_1, g12_2, show (1 : Int32) = nI 1 from rfl, show (8 : Int32) = nI 8 from rfl, show (0 : Int32) = nI 0 from rfl, p12_4, g12_5, p12_5, is_32, exLt_c1, exLt_c2, exEq_c, exLt_t, exLt_f, exEq_s, exEq_t, exEq_f, exLt_mn, exLt_nm, exEq_mn, exEq_nm, exEq_mm, exEq_xf, exLtL_t, exLtL_f, exEqL_t, exEqL_f, exB_t, exB_f, exSw_t, exSw_f, exSw_0, klz_f, klz_g, kieq_f, kdivL, kdivI, kmodL, kmodI, knIL, lN_i, nI_add, pk_mul, pk_sub, pk_subm, kad1, kad2, lN_add, lN_mul, lN_sub, kkl_i, kkl_l, kkl_r, kkl_0, Option.bind_some, Option.toList_some, Option.toList_none, List.cons_append, List.nil_append, if_true, if_false, eq_self, not_true_eq_false, not_false_eq_true, ku2_eq, ku2_ne, pk_us, pk_un, pk_uLs, pk_uLn, kup_Is, kup_In, kup_Js, kup_Jn, ku2_ku2, kup_I, kup_J, knar1, knar0]
  have k0 : Kp [(32, 4), (32, 5)] [] [] i (ku2 (ku2 i 32 4 (nI ((pn + 1) % 8))) 32 5 (nI (min (PS.length + 1) 8))) l l I I J J := by (repeat (first | exact Kp_refl | refine Kp_i ?_ (by first | decide | simp) | refine Kp_l ?_ (by first | decide | simp) | refine Kp_I ?_ (by first | decide | simp) | refine Kp_J ?_ (by first | decide | simp) | exact Kp_refl))
  have z0 : Kr 32 32 i (ku2 (ku2 i 32 4 (nI ((pn + 1) % 8))) 32 5 (nI (min (PS.length + 1) 8))) l l I I J J := Kr_of k0 (by decide) (by decide) (by decide)
  refine Gd_call (c_refresh (nw := df) (df := P pn) (P := va_up P pn nw) s.2.1 ok2 (st2.kr z0 (by omega))) ?_
  intro i1 l1 I1 J1 ⟨k1, r1, r2, r3⟩
  have z1 : Kr 66 92 _ i1 l l1 I I1 J J1 := Kr_of k1 (by decide) (by decide) (by decide)
  have keep : ∀ q G, isS q → cSta i I q G → cSta i1 I1 q G := fun q G hq hg => by
    have := hq.b
    refine (hg.kr z0 (by omega)).e (fun j hj => ⟨?_, ?_⟩)
    · funext m
      exact k1.1 _ _ (by simp; omega)
    · exact k1.2.2.1 _ (by simp; omega)
  conv => arg 1; simp (disch := first | assumption | omega | decide | exact bI_or _) only [X11_endAct_0, X11_endAct_1, X11_endAct_4, X11_endAct_5, X11_endAct_8, X11_endAct_9, X11_endAct_10, X11_endAct_11, X11_endAct_14, X11_endAct_15, X11_endAct_18, X11_endAct_19, X11_endAct_22, X11_endAct_23, X11_endAct_24, X11_endAct_25, X11_endAct_28, X11_endAct_31, X11_endAct_32, X11_endAct_33, X11_endAct_36, X11_endAct_37, X11_endAct_38, X11_endAct_41, X11_endAct_42, X11_endAct_43, X11_endAct_45, X11_endAct_46, X11_endAct_49, X11_endAct_50, X11_endAct_51, X11_endAct_54, X11_endAct_55, X11_endAct_56, X11_endAct_58, X11_endAct_61, X11_endAct_64, X11_endAct_65, X11_endAct_68, g12_3, g12_4, g12_1, g12_2, show (1 : Int32) = nI 1 from rfl, show (8 : Int32) = nI 8 from rfl, show (0 : Int32) = nI 0 from rfl, p12_4, g12_5, p12_5, is_32, exLt_c1, exLt_c2, exEq_c, exLt_t, exLt_f, exEq_s, exEq_t, exEq_f, exLt_mn, exLt_nm, exEq_mn, exEq_nm, exEq_mm, exEq_xf, exLtL_t, exLtL_f, exEqL_t, exEqL_f, exB_t, exB_f, exSw_t, exSw_f, exSw_0, klz_f, klz_g, kieq_f, kdivL, kdivI, kmodL, kmodI, knIL, lN_i, nI_add, pk_mul, pk_sub, pk_subm, kad1, kad2, lN_add, lN_mul, lN_sub, kkl_i, kkl_l, kkl_r, kkl_0, Option.bind_some, Option.toList_some, Option.toList_none, List.cons_append, List.nil_append, if_true, if_false, eq_self, not_true_eq_false, not_false_eq_true, ku2_eq, ku2_ne, pk_us, pk_un, pk_uLs, pk_uLn, kup_Is, kup_In, kup_Js, kup_Jn, ku2_ku2, kup_I, kup_J, knar1, knar0]
  refine Gd_rc ⟨FrC_trans (FrC_p k0 (by decide) (by decide) (by decide)) (FrC_p k1 (by decide) (by decide) (by decide)), ⟨s.2.1, sp.1, sp.2.2, fun k hk => ?_, fun j k hjk hk => ?_⟩, ok2, keep df F2 s.2.1 st2, r1, ⟨fun k hk => Or.inl (r3 k hk), Or.inl r2⟩, ⟨(pn + 1) % 8, Nat.mod_lt _ (by decide), ?_, ?_, ?_, fun n hn => ?_⟩, ?_, tp.2.1, fun j hj => ?_⟩
  · unfold va_up
    by_cases e : k = pn
    · rw [if_pos e]
      exact ⟨s.1, Ne.symm s.2.2.1, Ne.symm sp.2.1⟩
    · rw [if_neg e]
      have h2 := s.2.2.2.1 k hk
      refine ⟨h2.1, h2.2.2, fun z => ?_⟩
      rcases Nat.lt_or_ge k pn with y | y
      · exact s.2.2.2.2 k pn y p1 z
      · exact s.2.2.2.2 pn k (by omega) hk z.symm
  · unfold va_up
    by_cases e1 : j = pn
    · by_cases e2 : k = pn
      · omega
      · rw [if_pos e1, if_neg e2]
        exact Ne.symm (s.2.2.2.1 k hk).2.1
    · by_cases e2 : k = pn
      · rw [if_neg e1, if_pos e2]
        exact (s.2.2.2.1 j (by omega)).2.1
      · rw [if_neg e1, if_neg e2]
        exact s.2.2.2.2 j k hjk hk
  · rw [k1.1 _ _ (by decide)]
    simp (disch := first | assumption | omega | decide | exact bI_or _) only [exLt_c1, exLt_c2, exEq_c, exLt_t, exLt_f, exEq_s, exEq_t, exEq_f, exLt_mn, exLt_nm, exEq_mn, exEq_nm, exEq_mm, exEq_xf, exLtL_t, exLtL_f, exEqL_t, exEqL_f, exB_t, exB_f, exSw_t, exSw_f, exSw_0, klz_f, klz_g, kieq_f, kdivL, kdivI, kmodL, kmodI, knIL, lN_i, nI_add, pk_mul, pk_sub, pk_subm, kad1, kad2, lN_add, lN_mul, lN_sub, kkl_i, kkl_l, kkl_r, kkl_0, Option.bind_some, Option.toList_some, Option.toList_none, List.cons_append, List.nil_append, if_true, if_false, eq_self, not_true_eq_false, not_false_eq_true, ku2_eq, ku2_ne, pk_us, pk_un, pk_uLs, pk_uLn, kup_Is, kup_In, kup_Js, kup_Jn, ku2_ku2, kup_I, kup_J, knar1, knar0]
  · rw [k1.1 _ _ (by decide), ku2_eq, psh_ln p4]
  · rw [psh_ln p4]
    omega
  · rw [psh_ln p4] at hn ⊢
    obtain ⟨g1, g2⟩ := psh_get (F := F) p4 (n := n)
    by_cases e : n + 1 = min (PS.length + 1) 8
    · rw [g1 e, show ((pn + 1) % 8 + 8 - min (PS.length + 1) 8 + n) % 8 = pn by omega]
      unfold va_up
      rw [if_pos rfl]
      exact ⟨keep nw F s.1 st, ok⟩
    · rw [g2 (by omega)]
      have h5 := p5 (if PS.length = 8 then n + 1 else n) (by split <;> omega)
      have e2 : ((pn + 1) % 8 + 8 - min (PS.length + 1) 8 + n) % 8 = (pn + 8 - PS.length + (if PS.length = 8 then n + 1 else n)) % 8 := by split <;> omega
      have e3 : (pn + 8 - PS.length + (if PS.length = 8 then n + 1 else n)) % 8 ≠ pn := by split <;> omega
      rw [e2]
      unfold va_up
      rw [if_neg e3]
      exact ⟨keep _ _ (s.2.2.2.1 _ (Nat.mod_lt _ (by decide))).1 h5.1, h5.2⟩
  · rw [k1.1 _ _ (by decide), ku2_ne (by decide), ku2_ne (by decide)]
    exact tp.1
  · rw [k1.2.2.1 _ (by decide)]
    exact tp.2.2 j hj
theorem c_undo {F : Nat → Nat} {PS : List (Nat → Nat)} {T : Nat → Nat} {tc : Nat} (hC : CInv i I nw df P F PS T tc) : Gd (rn (d + 5) mX11_undo [.ref 32] (mH h i l I J nw df P)) (RtC h (some (.int (sp_undo PS))) fun i' l' I' J' nw' df' P' => FrC i i' l l' I I' J J' ∧ CInv i' I' nw' df' P' (un_F F PS) PS.dropLast T tc) := by
  have hC0 := hC
  obtain ⟨s, ok, st, se, vd, ⟨pn, p1, p2, p3, p4, p5⟩, tp⟩ := hC
  have n8 := s.1.c8.1
  rw [X11_undo_E]
  by_cases c0 : PS.length = 0
  · have p3' : i 32 5 = nI 0 := by rw [p3, c0]
    have e0 : PS = [] := List.length_eq_zero_iff.mp c0
    conv => arg 1; simp (disch := first | assumption | omega | decide | exact bI_or _) only [p3', X11_undo_0, X11_undo_1, X11_undo_4b, X11_undo_7, X11_undo_8, X11_undo_9, X11_undo_10, X11_undo_11, X11_undo_14, X11_undo_16, X11_undo_17, X11_undo_18, X11_undo_19, X11_undo_21, X11_undo_22, X11_undo_25, X11_undo_26, X11_undo_29, X11_undo_30, X11_undo_33, X11_undo_34, X11_undo_35, X11_undo_36, X11_undo_39, X11_undo_40, X11_undo_43, X11_undo_44, X11_undo_47, X11_undo_48, X11_undo_49, X11_undo_50, X11_undo_53, X11_undo_54, X11_undo_55, X11_undo_58, X11_undo_59, X11_undo_60, X11_undo_63, X11_undo_64, X11_undo_67, X11_undo_68, X11_undo_71, g12_5, show (0 : Int32) = nI 0 from rfl, ↓(show (-1 : Int32) = mI 1 from rfl), g12_4, show (8 : Int32) = nI 8 from rfl, show (1 : Int32) = nI 1 from rfl, p12_4, g12_3, g12_1, p12_5, is_32, exLt_c1, exLt_c2, exEq_c, exLt_t, exLt_f, exEq_s, exEq_t, exEq_f, exLt_mn, exLt_nm, exEq_mn, exEq_nm, exEq_mm, exEq_xf, exLtL_t, exLtL_f, exEqL_t, exEqL_f, exB_t, exB_f, exSw_t, exSw_f, exSw_0, klz_f, klz_g, kieq_f, kdivL, kdivI, kmodL, kmodI, knIL, lN_i, nI_add, pk_mul, pk_sub, pk_subm, kad1, kad2, lN_add, lN_mul, lN_sub, kkl_i, kkl_l, kkl_r, kkl_0, Option.bind_some, Option.toList_some, Option.toList_none, List.cons_append, List.nil_append, if_true, if_false, eq_self, not_true_eq_false, not_false_eq_true, ku2_eq, ku2_ne, pk_us, pk_un, pk_uLs, pk_uLn, kup_Is, kup_In, kup_Js, kup_Jn, ku2_ku2, kup_I, kup_J, knar1, knar0]
    refine Gd_rce (by rw [sp_undo, if_pos c0]) ⟨FrC_refl, ?_⟩
    unfold un_F
    rw [if_pos c0, e0]
    rw [e0] at hC0
    exact hC0
  · have hp : (pn + 8 - 1) % 8 < 8 := Nat.mod_lt _ (by decide)
    have h5 := p5 (PS.length - 1) (by omega)
    rw [show (pn + 8 - PS.length + (PS.length - 1)) % 8 = (pn + 8 - 1) % 8 by omega] at h5
    generalize hq : (pn + 8 - 1) % 8 = qn at *
    have sp := s.2.2.2.1 qn hp
    conv => arg 1; simp (disch := first | assumption | omega | decide | exact bI_or _) only [kal65, kas65, m_pnw, m_pdf, p2, p3, kmodN, hq, X11_undo_0, X11_undo_1, X11_undo_4b, X11_undo_7, X11_undo_8, X11_undo_9, X11_undo_10, X11_undo_11, X11_undo_14, X11_undo_16, X11_undo_17, X11_undo_18, X11_undo_19, X11_undo_21, X11_undo_22, X11_undo_25, X11_undo_26, X11_undo_29, X11_undo_30, X11_undo_33, X11_undo_34, X11_undo_35, X11_undo_36, X11_undo_39, X11_undo_40, X11_undo_43, X11_undo_44, X11_undo_47, X11_undo_48, X11_undo_49, X11_undo_50, X11_undo_53, X11_undo_54, X11_undo_55, X11_undo_58, X11_undo_59, X11_undo_60, X11_undo_63, X11_undo_64, X11_undo_67, X11_undo_68, X11_undo_71, g12_5, show (0 : Int32) = nI 0 from rfl, ↓(show (-1 : Int32) = mI 1 from rfl), g12_4, show (8 : Int32) = nI 8 from rfl, show (1 : Int32) = nI 1 from rfl, p12_4, g12_3, g12_1, p12_5, is_32, exLt_c1, exLt_c2, exEq_c, exLt_t, exLt_f, exEq_s, exEq_t, exEq_f, exLt_mn, exLt_nm, exEq_mn, exEq_nm, exEq_mm, exEq_xf, exLtL_t, exLtL_f, exEqL_t, exEqL_f, exB_t, exB_f, exSw_t, exSw_f, exSw_0, klz_f, klz_g, kieq_f, kdivL, kdivI, kmodL, kmodI, knIL, lN_i, nI_add, pk_mul, pk_sub, pk_subm, kad1, kad2, lN_add, lN_mul, lN_sub, kkl_i, kkl_l, kkl_r, kkl_0, Option.bind_some, Option.toList_some, Option.toList_none, List.cons_append, List.nil_append, if_true, if_false, eq_self, not_true_eq_false, not_false_eq_true, ku2_eq, ku2_ne, pk_us, pk_un, pk_uLs, pk_uLn, kup_Is, kup_In, kup_Js, kup_Jn, ku2_ku2, kup_I, kup_J, knar1, knar0]
    have k0 : Kp [(32, 4), (32, 5)] [] [] i (ku2 (ku2 i 32 4 (nI qn)) 32 5 (nI (PS.length - 1))) l l I I J J := by (repeat (first | exact Kp_refl | refine Kp_i ?_ (by first | decide | simp) | refine Kp_l ?_ (by first | decide | simp) | refine Kp_I ?_ (by first | decide | simp) | refine Kp_J ?_ (by first | decide | simp) | exact Kp_refl))
    have z0 : Kr 32 32 i (ku2 (ku2 i 32 4 (nI qn)) 32 5 (nI (PS.length - 1))) l l I I J J := Kr_of k0 (by decide) (by decide) (by decide)
    have hsb := sp.1.b
    refine Gd_call (c_refresh (nw := P qn) (df := df) (P := va_up P qn nw) sp.1 h5.2 (h5.1.kr z0 (by omega))) ?_
    intro i1 l1 I1 J1 ⟨k1, r1, r2, r3⟩
    have keep : ∀ q G, isS q → cSta i I q G → cSta i1 I1 q G := fun q G hq hg => by
      have := hq.b
      refine (hg.kr z0 (by omega)).e (fun j hj => ⟨?_, ?_⟩)
      · funext m
        exact k1.1 _ _ (by simp; omega)
      · exact k1.2.2.1 _ (by simp; omega)
    have e5 : i1 32 5 = nI (PS.length - 1) := by rw [k1.1 _ _ (by decide), ku2_eq]
    conv => arg 1; simp (disch := first | assumption | omega | decide | exact bI_or _) only [e5, X11_undo_0, X11_undo_1, X11_undo_4b, X11_undo_7, X11_undo_8, X11_undo_9, X11_undo_10, X11_undo_11, X11_undo_14, X11_undo_16, X11_undo_17, X11_undo_18, X11_undo_19, X11_undo_21, X11_undo_22, X11_undo_25, X11_undo_26, X11_undo_29, X11_undo_30, X11_undo_33, X11_undo_34, X11_undo_35, X11_undo_36, X11_undo_39, X11_undo_40, X11_undo_43, X11_undo_44, X11_undo_47, X11_undo_48, X11_undo_49, X11_undo_50, X11_undo_53, X11_undo_54, X11_undo_55, X11_undo_58, X11_undo_59, X11_undo_60, X11_undo_63, X11_undo_64, X11_undo_67, X11_undo_68, X11_undo_71, g12_5, show (0 : Int32) = nI 0 from rfl, ↓(show (-1 : Int32) = mI 1 from rfl), g12_4, show (8 : Int32) = nI 8 from rfl, show (1 : Int32) = nI 1 from rfl, p12_4, g12_3, g12_1, p12_5, is_32, exLt_c1, exLt_c2, exEq_c, exLt_t, exLt_f, exEq_s, exEq_t, exEq_f, exLt_mn, exLt_nm, exEq_mn, exEq_nm, exEq_mm, exEq_xf, exLtL_t, exLtL_f, exEqL_t, exEqL_f, exB_t, exB_f, exSw_t, exSw_f, exSw_0, klz_f, klz_g, kieq_f, kdivL, kdivI, kmodL, kmodI, knIL, lN_i, nI_add, pk_mul, pk_sub, pk_subm, kad1, kad2, lN_add, lN_mul, lN_sub, kkl_i, kkl_l, kkl_r, kkl_0, Option.bind_some, Option.toList_some, Option.toList_none, List.cons_append, List.nil_append, if_true, if_false, eq_self, not_true_eq_false, not_false_eq_true, ku2_eq, ku2_ne, pk_us, pk_un, pk_uLs, pk_uLn, kup_Is, kup_In, kup_Js, kup_Jn, ku2_ku2, kup_I, kup_J, knar1, knar0]
    refine Gd_rce (by rw [sp_undo, if_neg c0]) ⟨FrC_trans (FrC_p k0 (by decide) (by decide) (by decide)) (FrC_p k1 (by decide) (by decide) (by decide)), ⟨sp.1, s.2.1, Ne.symm sp.2.2, fun k hk => ?_, fun j k hjk hk => ?_⟩, ?_, ?_, ?_, ?_, ⟨qn, hp, ?_, ?_, ?_, fun n hn => ?_⟩, ?_, tp.2.1, fun j hj => ?_⟩
    · unfold va_up
      by_cases e : k = qn
      · rw [if_pos e]
        exact ⟨s.1, Ne.symm sp.2.1, Ne.symm s.2.2.1⟩
      · rw [if_neg e]
        have h2 := s.2.2.2.1 k hk
        refine ⟨h2.1, fun z => ?_, h2.2.2⟩
        rcases Nat.lt_or_ge k qn with y | y
        · exact s.2.2.2.2 k qn y hp z
        · exact s.2.2.2.2 qn k (by omega) hk z.symm
    · unfold va_up
      by_cases e1 : j = qn
      · by_cases e2 : k = qn
        · omega
        · rw [if_pos e1, if_neg e2]
          exact Ne.symm (s.2.2.2.1 k hk).2.1
      · by_cases e2 : k = qn
        · rw [if_neg e1, if_pos e2]
          exact (s.2.2.2.1 j (by omega)).2.1
        · rw [if_neg e1, if_neg e2]
          exact s.2.2.2.2 j k hjk hk
    · unfold un_F
      rw [if_neg c0]
      exact h5.2
    · unfold un_F
      rw [if_neg c0]
      exact keep _ _ sp.1 h5.1
    · unfold un_F
      rw [if_neg c0]
      exact r1
    · exact ⟨fun k hk => Or.inl (r3 k hk), Or.inl r2⟩
    · rw [k1.1 _ _ (by decide)]
      simp (disch := first | assumption | omega | decide | exact bI_or _) only [exLt_c1, exLt_c2, exEq_c, exLt_t, exLt_f, exEq_s, exEq_t, exEq_f, exLt_mn, exLt_nm, exEq_mn, exEq_nm, exEq_mm, exEq_xf, exLtL_t, exLtL_f, exEqL_t, exEqL_f, exB_t, exB_f, exSw_t, exSw_f, exSw_0, klz_f, klz_g, kieq_f, kdivL, kdivI, kmodL, kmodI, knIL, lN_i, nI_add, pk_mul, pk_sub, pk_subm, kad1, kad2, lN_add, lN_mul, lN_sub, kkl_i, kkl_l, kkl_r, kkl_0, Option.bind_some, Option.toList_some, Option.toList_none, List.cons_append, List.nil_append, if_true, if_false, eq_self, not_true_eq_false, not_false_eq_true, ku2_eq, ku2_ne, pk_us, pk_un, pk_uLs, pk_uLn, kup_Is, kup_In, kup_Js, kup_Jn, ku2_ku2, kup_I, kup_J, knar1, knar0]
    · rw [e5, List.length_dropLast]
    · rw [List.length_dropLast]
      omega
    · rw [List.length_dropLast] at hn ⊢
      have h6 := p5 n (by omega)
      have e1 : PS.dropLast.getD n (fun _ => 0) = PS.getD n (fun _ => 0) := by
        rw [List.getD_eq_getElem?_getD, List.getD_eq_getElem?_getD, List.getElem?_dropLast, if_pos hn]
      have e2 : (qn + 8 - (PS.length - 1) + n) % 8 = (pn + 8 - PS.length + n) % 8 := by omega
      have e3 : (pn + 8 - PS.length + n) % 8 ≠ qn := by omega
      rw [e1, e2]
      unfold va_up
      rw [if_neg e3]
      exact ⟨keep _ _ (s.2.2.2.1 _ (Nat.mod_lt _ (by decide))).1 h6.1, h6.2⟩
    · rw [k1.1 _ _ (by decide), ku2_ne (by decide), ku2_ne (by decide)]
      exact tp.1
    · rw [k1.2.2.1 _ (by decide)]
      exact tp.2.2 j hj
end CAC
