/-! OWN: the class: acts -/
section CXA
variable {i i' : tI} {I I' : tI} {q : Nat} {F F2 : Nat → Nat}
/-- knocks changed -/
theorem cSta_kn (h : cSta i I q F) (ok : okF F) (hF : ∀ j, j < 276 → j ≠ 9 → F2 j = F j) (hk : cKn i' I' (q + 5) (knL F2)) (ei : ∀ p, q ≤ p → p ≠ q + 5 → i' p = i p) (eI : ∀ p, q ≤ p → p ≠ q + 6 → p ≠ q + 7 → I' p = I p) : cSta i' I' q F2 := by
  obtain ⟨⟨s0, s0', s0'', s0'''⟩, s1, s2, s3, s4, s5⟩ := h
  have h10 := ok.1.1
  have h11 := ok.2.2.1.1
  have h12 := ok.2.2.2.2.2.1
  refine ⟨⟨?_, ?_, ?_, ?_⟩, fun k hk5 => ?_, ⟨?_, fun k hk5 => ?_⟩, hk, ⟨?_, fun k hk5 => ?_⟩, ⟨?_, fun k hk5 => ?_⟩⟩
  · rw [ei q (by omega) (by omega), hF 5 (by omega) (by omega)]; exact s0
  · rw [ei q (by omega) (by omega), hF 6 (by omega) (by omega)]; exact s0'
  · rw [ei q (by omega) (by omega), hF 7 (by omega) (by omega)]; exact s0''
  · rw [ei q (by omega) (by omega), hF 8 (by omega) (by omega)]; exact s0'''
  · rw [eI _ (by omega) (by omega) (by omega), hF k (by omega) (by omega)]; exact s1 k hk5
  · rw [ei _ (by omega) (by omega), hF 10 (by omega) (by omega)]; exact s2.1
  · rw [hF 10 (by omega) (by omega)] at hk5
    rw [eI _ (by omega) (by omega) (by omega), eI _ (by omega) (by omega) (by omega), hF _ (by omega) (by omega), hF _ (by omega) (by omega)]
    exact s2.2 k hk5
  · rw [ei _ (by omega) (by omega), hF 11 (by omega) (by omega)]; exact s4.1
  · rw [hF 11 (by omega) (by omega)] at hk5
    rw [eI _ (by omega) (by omega) (by omega), eI _ (by omega) (by omega) (by omega), hF _ (by omega) (by omega), hF _ (by omega) (by omega)]
    exact s4.2 k hk5
  · rw [ei _ (by omega) (by omega), hF 12 (by omega) (by omega)]; exact s5.1
  · rw [hF 12 (by omega) (by omega)] at hk5
    refine ⟨by rw [eI _ (by omega) (by omega) (by omega), hF _ (by omega) (by omega)]; exact (s5.2 k hk5).1, fun w hw => ?_⟩
    rw [eI _ (by omega) (by omega) (by omega), hF _ (by omega) (by omega)]
    exact (s5.2 k hk5).2 w hw
theorem knL_9 (h : ∀ j, (j = 9 ∨ 276 ≤ j) → F2 j = F j) : knL F2 = knL F := by
  unfold knL
  rw [h 9 (Or.inl rfl)]
  refine congrArg (fun f => List.map f _) (funext fun j => ?_)
  rw [h _ (by omega), h _ (by omega)]
theorem tdF_o {m a j : Nat} {acc : List (Nat × Nat)} (h1 : j ≠ m) (h2 : j < a ∨ a + 20 ≤ j) : tdF F m a acc j = F j := by
  unfold tdF
  rw [if_neg h1, if_neg (by omega)]
theorem tdF_v {m a k : Nat} {acc : List (Nat × Nat)} (hm : m < a) (hk : k < acc.length) (hl : acc.length ≤ 10) : tdF F m a acc (a + 2 * k) = tkOf acc k ∧ tdF F m a acc (a + 1 + 2 * k) = stOf acc k := by
  unfold tdF tdV
  rw [if_neg (by omega), if_pos (by omega), show (a + 2 * k - a) / 2 = k by omega, if_pos hk, if_pos (by omega), if_neg (by omega), if_pos (by omega), show (a + 1 + 2 * k - a) / 2 = k by omega, if_pos hk, if_neg (by omega)]
  exact ⟨rfl, rfl⟩
theorem tdF_m {m a : Nat} {acc : List (Nat × Nat)} : tdF F m a acc m = acc.length := if_pos rfl
/-- spans changed -/
theorem cSta_sp {acc : List (Nat × Nat)} (h : cSta i I q F) (ok : okF F) (hl : acc.length ≤ 10) (hk : cKn i' I' (q + 2) acc) (ei : ∀ p, q ≤ p → p ≠ q + 2 → i' p = i p) (eI : ∀ p, q ≤ p → p ≠ q + 3 → p ≠ q + 4 → I' p = I p) : cSta i' I' q (tdF F 10 16 acc) := by
  obtain ⟨⟨s0, s0', s0'', s0'''⟩, s1, s2, s3, s4, s5⟩ := h
  have h11 := ok.2.2.1.1
  have h12 := ok.2.2.2.2.2.1
  have o : ∀ j, j ≠ 10 → (j < 16 ∨ 36 ≤ j) → tdF F 10 16 acc j = F j := fun j a b => tdF_o a (by omega)
  refine ⟨⟨?_, ?_, ?_, ?_⟩, fun k hk5 => ?_, ⟨?_, fun k hk5 => ?_⟩, ?_, ⟨?_, fun k hk5 => ?_⟩, ⟨?_, fun k hk5 => ?_⟩⟩
  · rw [ei q (by omega) (by omega), o 5 (by omega) (by omega)]; exact s0
  · rw [ei q (by omega) (by omega), o 6 (by omega) (by omega)]; exact s0'
  · rw [ei q (by omega) (by omega), o 7 (by omega) (by omega)]; exact s0''
  · rw [ei q (by omega) (by omega), o 8 (by omega) (by omega)]; exact s0'''
  · rw [eI _ (by omega) (by omega) (by omega), o k (by omega) (by omega)]; exact s1 k hk5
  · rw [tdF_m]; exact hk.1
  · rw [tdF_m] at hk5
    have v := tdF_v (F := F) (m := 10) (a := 16) (by decide) hk5 hl
    rw [v.1, v.2]
    exact hk.2 k hk5
  · rw [knL_9 (fun j hj => o j (by omega) (by omega))]
    exact s3.c (by rw [ei _ (by omega) (by omega)]) (eI _ (by omega) (by omega) (by omega)) (eI _ (by omega) (by omega) (by omega))
  · rw [ei _ (by omega) (by omega), o 11 (by omega) (by omega)]; exact s4.1
  · rw [o 11 (by omega) (by omega)] at hk5
    rw [eI _ (by omega) (by omega) (by omega), eI _ (by omega) (by omega) (by omega), o _ (by omega) (by omega), o _ (by omega) (by omega)]
    exact s4.2 k hk5
  · rw [ei _ (by omega) (by omega), o 12 (by omega) (by omega)]; exact s5.1
  · rw [o 12 (by omega) (by omega)] at hk5
    refine ⟨by rw [eI _ (by omega) (by omega) (by omega), o _ (by omega) (by omega)]; exact (s5.2 k hk5).1, fun w hw => ?_⟩
    rw [eI _ (by omega) (by omega) (by omega), o _ (by omega) (by omega)]
    exact (s5.2 k hk5).2 w hw
/-- steps changed -/
theorem cSta_st {acc : List (Nat × Nat)} (h : cSta i I q F) (ok : okF F) (hl : acc.length ≤ 10) (hk : cKn i' I' (q + 8) acc) (ei : ∀ p, q ≤ p → p ≠ q + 8 → i' p = i p) (eI : ∀ p, q ≤ p → p ≠ q + 9 → p ≠ q + 10 → I' p = I p) : cSta i' I' q (tdF F 11 36 acc) := by
  obtain ⟨⟨s0, s0', s0'', s0'''⟩, s1, s2, s3, s4, s5⟩ := h
  have h10 := ok.1.1
  have h12 := ok.2.2.2.2.2.1
  have o : ∀ j, j ≠ 11 → (j < 36 ∨ 56 ≤ j) → tdF F 11 36 acc j = F j := fun j a b => tdF_o a (by omega)
  refine ⟨⟨?_, ?_, ?_, ?_⟩, fun k hk5 => ?_, ⟨?_, fun k hk5 => ?_⟩, ?_, ⟨?_, fun k hk5 => ?_⟩, ⟨?_, fun k hk5 => ?_⟩⟩
  · rw [ei q (by omega) (by omega), o 5 (by omega) (by omega)]; exact s0
  · rw [ei q (by omega) (by omega), o 6 (by omega) (by omega)]; exact s0'
  · rw [ei q (by omega) (by omega), o 7 (by omega) (by omega)]; exact s0''
  · rw [ei q (by omega) (by omega), o 8 (by omega) (by omega)]; exact s0'''
  · rw [eI _ (by omega) (by omega) (by omega), o k (by omega) (by omega)]; exact s1 k hk5
  · rw [ei _ (by omega) (by omega), o 10 (by omega) (by omega)]; exact s2.1
  · rw [o 10 (by omega) (by omega)] at hk5
    rw [eI _ (by omega) (by omega) (by omega), eI _ (by omega) (by omega) (by omega), o _ (by omega) (by omega), o _ (by omega) (by omega)]
    exact s2.2 k hk5
  · rw [knL_9 (fun j hj => o j (by omega) (by omega))]
    exact s3.c (by rw [ei _ (by omega) (by omega)]) (eI _ (by omega) (by omega) (by omega)) (eI _ (by omega) (by omega) (by omega))
  · rw [tdF_m]; exact hk.1
  · rw [tdF_m] at hk5
    have v := tdF_v (F := F) (m := 11) (a := 36) (by decide) hk5 hl
    rw [v.1, v.2]
    exact hk.2 k hk5
  · rw [ei _ (by omega) (by omega), o 12 (by omega) (by omega)]; exact s5.1
  · rw [o 12 (by omega) (by omega)] at hk5
    refine ⟨by rw [eI _ (by omega) (by omega) (by omega), o _ (by omega) (by omega)]; exact (s5.2 k hk5).1, fun w hw => ?_⟩
    rw [eI _ (by omega) (by omega) (by omega), o _ (by omega) (by omega)]
    exact (s5.2 k hk5).2 w hw
/-- an option changed -/
theorem cSta_op {a v : Nat} (h : cSta i I q F) (ha : a < 5) (hI : I' (q + 1) = upd (I (q + 1)) a (nI v)) (eI : ∀ p, p ≠ q + 1 → I' p = I p) : cSta i I' q (fU F a v) := by
  obtain ⟨⟨s0, s0', s0'', s0'''⟩, s1, s2, s3, s4, s5⟩ := h
  have o : ∀ j, 5 ≤ j → fU F a v j = F j := fun j hj => if_neg (by omega)
  refine ⟨⟨?_, ?_, ?_, ?_⟩, fun k hk5 => ?_, ⟨?_, fun k hk5 => ?_⟩, ?_, ⟨?_, fun k hk5 => ?_⟩, ⟨?_, fun k hk5 => ?_⟩⟩
  · rw [o 5 (by omega)]; exact s0
  · rw [o 6 (by omega)]; exact s0'
  · rw [o 7 (by omega)]; exact s0''
  · rw [o 8 (by omega)]; exact s0'''
  · rw [hI]
    unfold upd fU
    split
    · rfl
    · exact s1 k hk5
  · rw [o 10 (by omega)]; exact s2.1
  · rw [o 10 (by omega)] at hk5
    rw [eI _ (by omega), eI _ (by omega), o _ (by omega), o _ (by omega)]
    exact s2.2 k hk5
  · rw [knL_9 (fun j hj => o j (by omega))]
    exact s3.c rfl (eI _ (by omega)) (eI _ (by omega))
  · rw [o 11 (by omega)]; exact s4.1
  · rw [o 11 (by omega)] at hk5
    rw [eI _ (by omega), eI _ (by omega), o _ (by omega), o _ (by omega)]
    exact s4.2 k hk5
  · rw [o 12 (by omega)]; exact s5.1
  · rw [o 12 (by omega)] at hk5
    refine ⟨by rw [eI _ (by omega), o _ (by omega)]; exact (s5.2 k hk5).1, fun w hw => ?_⟩
    rw [eI _ (by omega), o _ (by omega)]
    exact (s5.2 k hk5).2 w hw
end CXA
section CXB
variable {d : Nat} {h : kH} {i : tI} {l : tL} {I : tI} {J : tL} {nw df : Nat} {P : Nat → Nat}
variable {F : Nat → Nat} {PS : List (Nat → Nat)} {T : Nat → Nat} {tc : Nat}
theorem CInv.dr {i' : tI} {l' : tL} {I' : tI} {J' : tL} (h : CInv i I nw df P F PS T tc) (k : Kr df (df + 13) i i' l l' I I' J J') : CInv i' I' nw df P F PS T tc := h.q (Kc_df k) (h.2.2.2.2.1.kr k (by have := h.1.2.1.b; omega))
theorem CInv.ta {i' : tI} {l' : tL} {I' : tI} {J' : tL} {T2 : Nat → Nat} {tc2 : Nat} (h : CInv i I nw df P F PS T tc) (k : Kr 33 36 i i' l l' I I' J J') (t : cTap i' I' T2 tc2) : CInv i' I' nw df P F PS T2 tc2 := by
  obtain ⟨s, ok, st, se, vd, ps, tp⟩ := h
  have hnb := s.1.b
  refine ⟨s, ok, st.kr k (by omega), se.kr k (by omega), vd.kr k (by omega), ?_, t⟩
  obtain ⟨pn, h1, h2, h3, h4, h5⟩ := ps
  refine ⟨pn, h1, by rw [(k 32 (by omega)).1]; exact h2, by rw [(k 32 (by omega)).1]; exact h3, h4, fun n hn => ?_⟩
  have hm := s.2.2.2.1 ((pn + 8 - PS.length + n) % 8) (Nat.mod_lt _ (by decide))
  have := hm.1.b
  exact ⟨(h5 n hn).1.kr k (by omega), (h5 n hn).2⟩
theorem c_end {F2 : Nat → Nat} (hC : CInv i I nw df P F PS T tc) (ok2 : okF F2) (st2 : cSta i I df F2) : Gd (rn (d + 5) mX11_endAct [.ref 32] (mH h i l I J nw df P)) (RtC h none fun i' l' I' J' nw' df' P' => FrC i i' l l' I I' J J' ∧ CInv i' I' nw' df' P' F2 (psh PS F) T tc) := c_endAct hC.1 hC.2.1 ok2 hC.2.2.1 st2 hC.2.2.2.2.2.1 hC.2.2.2.2.2.2
theorem c_turnA (hC : CInv i I nw df P F PS T tc) (x : Int32) : Gd (rn (d + 6) mX11_turn [.ref 32, .int x] (mH h i l I J nw df P)) (RtC h (some (.int (sp_turn F x))) fun i' l' I' J' nw' df' P' => FrC i i' l l' I I' J J' ∧ CInv i' I' nw' df' P' (aT (ac_turn F x) F PS).1 (aT (ac_turn F x) F PS).2 T tc) := by
  have hC0 := hC
  obtain ⟨s, ok, st, se, vd, ps, tp⟩ := hC
  have n8 := s.1.c8.1
  have d8 := s.2.1.c8.1
  have hdb := s.2.1.b
  have e8 := st.1.2.2.2
  rw [X11_turn_E]
  conv => arg 1; simp (disch := first | assumption | omega | decide | exact bI_or _) only [c_isTurnI, X11_turn_0, X11_turn_1, X11_turn_4b, X11_turn_7, X11_turn_8, X11_turn_9, X11_turn_10, X11_turn_13, X11_turn_16, X11_turn_17, X11_turn_18, X11_turn_21, X11_turn_22, X11_turn_25, X11_turn_26, X11_turn_29, X11_turn_30, X11_turn_33, X11_turn_34, show (0 : Int32) = nI 0 from rfl, ↓(show (-1 : Int32) = mI 1 from rfl), g12_1, kg8_3, is_32, g12_2, kp8_3, exLt_c1, exLt_c2, exEq_c, exLt_t, exLt_f, exEq_s, exEq_t, exEq_f, exLt_mn, exLt_nm, exEq_mn, exEq_nm, exEq_mm, exEq_xf, exLtL_t, exLtL_f, exEqL_t, exEqL_f, exB_t, exB_f, exSw_t, exSw_f, exSw_0, klz_f, klz_g, kieq_f, kdivL, kdivI, kmodL, kmodI, knIL, lN_i, nI_add, pk_mul, pk_sub, pk_subm, kad1, kad2, lN_add, lN_mul, lN_sub, kkl_i, kkl_l, kkl_r, kkl_0, Option.bind_some, Option.toList_some, Option.toList_none, List.cons_append, List.nil_append, if_true, if_false, eq_self, not_true_eq_false, not_false_eq_true, ku2_eq, ku2_ne, pk_us, pk_un, pk_uLs, pk_uLn, kup_Is, kup_In, kup_Js, kup_Jn, ku2_ku2, kup_I, kup_J, knar1, knar0]
  refine Gd_b (fun c1 => ?_) (fun c1 => ?_)
  case refine_2 =>
    conv => arg 1; simp (disch := first | assumption | omega | decide | exact bI_or _) only [X11_turn_0, X11_turn_1, X11_turn_4b, X11_turn_7, X11_turn_8, X11_turn_9, X11_turn_10, X11_turn_13, X11_turn_16, X11_turn_17, X11_turn_18, X11_turn_21, X11_turn_22, X11_turn_25, X11_turn_26, X11_turn_29, X11_turn_30, X11_turn_33, X11_turn_34, show (0 : Int32) = nI 0 from rfl, ↓(show (-1 : Int32) = mI 1 from rfl), g12_1, kg8_3, is_32, g12_2, kp8_3, exLt_c1, exLt_c2, exEq_c, exLt_t, exLt_f, exEq_s, exEq_t, exEq_f, exLt_mn, exLt_nm, exEq_mn, exEq_nm, exEq_mm, exEq_xf, exLtL_t, exLtL_f, exEqL_t, exEqL_f, exB_t, exB_f, exSw_t, exSw_f, exSw_0, klz_f, klz_g, kieq_f, kdivL, kdivI, kmodL, kmodI, knIL, lN_i, nI_add, pk_mul, pk_sub, pk_subm, kad1, kad2, lN_add, lN_mul, lN_sub, kkl_i, kkl_l, kkl_r, kkl_0, Option.bind_some, Option.toList_some, Option.toList_none, List.cons_append, List.nil_append, if_true, if_false, eq_self, not_true_eq_false, not_false_eq_true, ku2_eq, ku2_ne, pk_us, pk_un, pk_uLs, pk_uLn, kup_Is, kup_In, kup_Js, kup_Jn, ku2_ku2, kup_I, kup_J, knar1, knar0]
    refine Gd_rce (by rw [sp_turn, if_neg c1]) ⟨FrC_refl, ?_⟩
    rw [ac_turn, if_neg c1]
    exact hC0
  have hsp := c1
  obtain ⟨a, ha, rfl⟩ := nI_inK (x := x) (n := 5000) (by omega) c1.2 (by decide)
  rw [nI_toInt (by omega)] at c1
  conv => arg 1; simp (disch := first | assumption | omega | decide | exact bI_or _) only [e8, X11_turn_0, X11_turn_1, X11_turn_4b, X11_turn_7, X11_turn_8, X11_turn_9, X11_turn_10, X11_turn_13, X11_turn_16, X11_turn_17, X11_turn_18, X11_turn_21, X11_turn_22, X11_turn_25, X11_turn_26, X11_turn_29, X11_turn_30, X11_turn_33, X11_turn_34, show (0 : Int32) = nI 0 from rfl, ↓(show (-1 : Int32) = mI 1 from rfl), g12_1, kg8_3, is_32, g12_2, kp8_3, exLt_c1, exLt_c2, exEq_c, exLt_t, exLt_f, exEq_s, exEq_t, exEq_f, exLt_mn, exLt_nm, exEq_mn, exEq_nm, exEq_mm, exEq_xf, exLtL_t, exLtL_f, exEqL_t, exEqL_f, exB_t, exB_f, exSw_t, exSw_f, exSw_0, klz_f, klz_g, kieq_f, kdivL, kdivI, kmodL, kmodI, knIL, lN_i, nI_add, pk_mul, pk_sub, pk_subm, kad1, kad2, lN_add, lN_mul, lN_sub, kkl_i, kkl_l, kkl_r, kkl_0, Option.bind_some, Option.toList_some, Option.toList_none, List.cons_append, List.nil_append, if_true, if_false, eq_self, not_true_eq_false, not_false_eq_true, ku2_eq, ku2_ne, pk_us, pk_un, pk_uLs, pk_uLn, kup_Is, kup_In, kup_Js, kup_Jn, ku2_ku2, kup_I, kup_J, knar1, knar0]
  refine Gd_call (c_beginAct s.1 s.2.1 s.2.2.1 ok st) ?_
  intro i1 l1 I1 J1 ⟨k1, q1⟩
  conv => arg 1; simp (disch := first | assumption | omega | decide | exact bI_or _) only [X11_turn_0, X11_turn_1, X11_turn_4b, X11_turn_7, X11_turn_8, X11_turn_9, X11_turn_10, X11_turn_13, X11_turn_16, X11_turn_17, X11_turn_18, X11_turn_21, X11_turn_22, X11_turn_25, X11_turn_26, X11_turn_29, X11_turn_30, X11_turn_33, X11_turn_34, show (0 : Int32) = nI 0 from rfl, ↓(show (-1 : Int32) = mI 1 from rfl), g12_1, kg8_3, is_32, g12_2, kp8_3, exLt_c1, exLt_c2, exEq_c, exLt_t, exLt_f, exEq_s, exEq_t, exEq_f, exLt_mn, exLt_nm, exEq_mn, exEq_nm, exEq_mm, exEq_xf, exLtL_t, exLtL_f, exEqL_t, exEqL_f, exB_t, exB_f, exSw_t, exSw_f, exSw_0, klz_f, klz_g, kieq_f, kdivL, kdivI, kmodL, kmodI, knIL, lN_i, nI_add, pk_mul, pk_sub, pk_subm, kad1, kad2, lN_add, lN_mul, lN_sub, kkl_i, kkl_l, kkl_r, kkl_0, Option.bind_some, Option.toList_some, Option.toList_none, List.cons_append, List.nil_append, if_true, if_false, eq_self, not_true_eq_false, not_false_eq_true, ku2_eq, ku2_ne, pk_us, pk_un, pk_uLs, pk_uLn, kup_Is, kup_In, kup_Js, kup_Jn, ku2_ku2, kup_I, kup_J, knar1, knar0]
  have k2 : Kr df (df + 13) i (ku2 i1 df 3 (nI a)) l l1 I I1 J J1 := Kr_trans k1 (Kr_of (ks := [(df, 3)]) (ls := []) (qs := []) (by (repeat (first | exact Kp_refl | refine Kp_i ?_ (by first | decide | simp) | refine Kp_l ?_ (by first | decide | simp) | refine Kp_I ?_ (by first | decide | simp) | refine Kp_J ?_ (by first | decide | simp) | exact Kp_refl))) (by simp) (by simp) (by simp))
  have st2 : cSta (ku2 i1 df 3 (nI a)) I1 df (fU F 8 a) := cSta_set q1 (by simp (disch := first | assumption | omega | decide | exact bI_or _) only [exLt_c1, exLt_c2, exEq_c, exLt_t, exLt_f, exEq_s, exEq_t, exEq_f, exLt_mn, exLt_nm, exEq_mn, exEq_nm, exEq_mm, exEq_xf, exLtL_t, exLtL_f, exEqL_t, exEqL_f, exB_t, exB_f, exSw_t, exSw_f, exSw_0, klz_f, klz_g, kieq_f, kdivL, kdivI, kmodL, kmodI, knIL, lN_i, nI_add, pk_mul, pk_sub, pk_subm, kad1, kad2, lN_add, lN_mul, lN_sub, kkl_i, kkl_l, kkl_r, kkl_0, Option.bind_some, Option.toList_some, Option.toList_none, List.cons_append, List.nil_append, if_true, if_false, eq_self, not_true_eq_false, not_false_eq_true, ku2_eq, ku2_ne, pk_us, pk_un, pk_uLs, pk_uLn, kup_Is, kup_In, kup_Js, kup_Jn, ku2_ku2, kup_I, kup_J, knar1, knar0]; exact q1.1.1) (by simp (disch := first | assumption | omega | decide | exact bI_or _) only [exLt_c1, exLt_c2, exEq_c, exLt_t, exLt_f, exEq_s, exEq_t, exEq_f, exLt_mn, exLt_nm, exEq_mn, exEq_nm, exEq_mm, exEq_xf, exLtL_t, exLtL_f, exEqL_t, exEqL_f, exB_t, exB_f, exSw_t, exSw_f, exSw_0, klz_f, klz_g, kieq_f, kdivL, kdivI, kmodL, kmodI, knIL, lN_i, nI_add, pk_mul, pk_sub, pk_subm, kad1, kad2, lN_add, lN_mul, lN_sub, kkl_i, kkl_l, kkl_r, kkl_0, Option.bind_some, Option.toList_some, Option.toList_none, List.cons_append, List.nil_append, if_true, if_false, eq_self, not_true_eq_false, not_false_eq_true, ku2_eq, ku2_ne, pk_us, pk_un, pk_uLs, pk_uLn, kup_Is, kup_In, kup_Js, kup_Jn, ku2_ku2, kup_I, kup_J, knar1, knar0]; exact q1.1.2.1) (by simp (disch := first | assumption | omega | decide | exact bI_or _) only [exLt_c1, exLt_c2, exEq_c, exLt_t, exLt_f, exEq_s, exEq_t, exEq_f, exLt_mn, exLt_nm, exEq_mn, exEq_nm, exEq_mm, exEq_xf, exLtL_t, exLtL_f, exEqL_t, exEqL_f, exB_t, exB_f, exSw_t, exSw_f, exSw_0, klz_f, klz_g, kieq_f, kdivL, kdivI, kmodL, kmodI, knIL, lN_i, nI_add, pk_mul, pk_sub, pk_subm, kad1, kad2, lN_add, lN_mul, lN_sub, kkl_i, kkl_l, kkl_r, kkl_0, Option.bind_some, Option.toList_some, Option.toList_none, List.cons_append, List.nil_append, if_true, if_false, eq_self, not_true_eq_false, not_false_eq_true, ku2_eq, ku2_ne, pk_us, pk_un, pk_uLs, pk_uLn, kup_Is, kup_In, kup_Js, kup_Jn, ku2_ku2, kup_I, kup_J, knar1, knar0]; exact q1.1.2.2.1) (by simp (disch := first | assumption | omega | decide | exact bI_or _) only [exLt_c1, exLt_c2, exEq_c, exLt_t, exLt_f, exEq_s, exEq_t, exEq_f, exLt_mn, exLt_nm, exEq_mn, exEq_nm, exEq_mm, exEq_xf, exLtL_t, exLtL_f, exEqL_t, exEqL_f, exB_t, exB_f, exSw_t, exSw_f, exSw_0, klz_f, klz_g, kieq_f, kdivL, kdivI, kmodL, kmodI, knIL, lN_i, nI_add, pk_mul, pk_sub, pk_subm, kad1, kad2, lN_add, lN_mul, lN_sub, kkl_i, kkl_l, kkl_r, kkl_0, Option.bind_some, Option.toList_some, Option.toList_none, List.cons_append, List.nil_append, if_true, if_false, eq_self, not_true_eq_false, not_false_eq_true, ku2_eq, ku2_ne, pk_us, pk_un, pk_uLs, pk_uLn, kup_Is, kup_In, kup_Js, kup_Jn, ku2_ku2, kup_I, kup_J, knar1, knar0]; rfl) (fun p hp => by funext m; simp (disch := first | assumption | omega | decide | exact bI_or _) only [exLt_c1, exLt_c2, exEq_c, exLt_t, exLt_f, exEq_s, exEq_t, exEq_f, exLt_mn, exLt_nm, exEq_mn, exEq_nm, exEq_mm, exEq_xf, exLtL_t, exLtL_f, exEqL_t, exEqL_f, exB_t, exB_f, exSw_t, exSw_f, exSw_0, klz_f, klz_g, kieq_f, kdivL, kdivI, kmodL, kmodI, knIL, lN_i, nI_add, pk_mul, pk_sub, pk_subm, kad1, kad2, lN_add, lN_mul, lN_sub, kkl_i, kkl_l, kkl_r, kkl_0, Option.bind_some, Option.toList_some, Option.toList_none, List.cons_append, List.nil_append, if_true, if_false, eq_self, not_true_eq_false, not_false_eq_true, ku2_eq, ku2_ne, pk_us, pk_un, pk_uLs, pk_uLn, kup_Is, kup_In, kup_Js, kup_Jn, ku2_ku2, kup_I, kup_J, knar1, knar0]) (fun j hj => by unfold fU; rw [if_neg (by omega)])
  refine Gd_callC (c_end (hC0.dr k2) (ok_turn ok (by omega)) st2) ?_
  intro i3 l3 I3 J3 nw3 df3 P3 ⟨k3, q3⟩
  conv => arg 1; simp (disch := first | assumption | omega | decide | exact bI_or _) only [X11_turn_0, X11_turn_1, X11_turn_4b, X11_turn_7, X11_turn_8, X11_turn_9, X11_turn_10, X11_turn_13, X11_turn_16, X11_turn_17, X11_turn_18, X11_turn_21, X11_turn_22, X11_turn_25, X11_turn_26, X11_turn_29, X11_turn_30, X11_turn_33, X11_turn_34, show (0 : Int32) = nI 0 from rfl, ↓(show (-1 : Int32) = mI 1 from rfl), g12_1, kg8_3, is_32, g12_2, kp8_3, exLt_c1, exLt_c2, exEq_c, exLt_t, exLt_f, exEq_s, exEq_t, exEq_f, exLt_mn, exLt_nm, exEq_mn, exEq_nm, exEq_mm, exEq_xf, exLtL_t, exLtL_f, exEqL_t, exEqL_f, exB_t, exB_f, exSw_t, exSw_f, exSw_0, klz_f, klz_g, kieq_f, kdivL, kdivI, kmodL, kmodI, knIL, lN_i, nI_add, pk_mul, pk_sub, pk_subm, kad1, kad2, lN_add, lN_mul, lN_sub, kkl_i, kkl_l, kkl_r, kkl_0, Option.bind_some, Option.toList_some, Option.toList_none, List.cons_append, List.nil_append, if_true, if_false, eq_self, not_true_eq_false, not_false_eq_true, ku2_eq, ku2_ne, pk_us, pk_un, pk_uLs, pk_uLn, kup_Is, kup_In, kup_Js, kup_Jn, ku2_ku2, kup_I, kup_J, knar1, knar0]
  refine Gd_rce (by rw [sp_turn, if_pos hsp]) ⟨FrC_trans (FrC_r k2 (by omega)) k3, ?_⟩
  rw [ac_turn, if_pos hsp, tN_nI (by omega)]
  exact q3
theorem c_bearingA (hC : CInv i I nw df P F PS T tc) (x y z : Int32) : Gd (rn (d + 6) mX11_bearing [.ref 32, .int x, .int y, .int z] (mH h i l I J nw df P)) (RtC h (some (.int (sp_bearing x y z))) fun i' l' I' J' nw' df' P' => FrC i i' l l' I I' J J' ∧ CInv i' I' nw' df' P' (aT (ac_bearing F x y z) F PS).1 (aT (ac_bearing F x y z) F PS).2 T tc) := by
  have hC0 := hC
  obtain ⟨s, ok, st, se, vd, ps, tp⟩ := hC
  have n8 := s.1.c8.1
  have d8 := s.2.1.c8.1
  have hdb := s.2.1.b
  rw [X11_bearing_E]
  conv => arg 1; simp (disch := first | assumption | omega | decide | exact bI_or _) only [c_isBearing, X11_bearing_0, X11_bearing_1, X11_bearing_2, X11_bearing_3, X11_bearing_6b, X11_bearing_9, X11_bearing_10, X11_bearing_11, X11_bearing_12, X11_bearing_15, X11_bearing_16, X11_bearing_19, X11_bearing_20, X11_bearing_21, X11_bearing_22, X11_bearing_25, X11_bearing_26, X11_bearing_29, X11_bearing_30, show (0 : Int32) = nI 0 from rfl, ↓(show (-1 : Int32) = mI 1 from rfl), is_32, g12_2, kis8, exLt_c1, exLt_c2, exEq_c, exLt_t, exLt_f, exEq_s, exEq_t, exEq_f, exLt_mn, exLt_nm, exEq_mn, exEq_nm, exEq_mm, exEq_xf, exLtL_t, exLtL_f, exEqL_t, exEqL_f, exB_t, exB_f, exSw_t, exSw_f, exSw_0, klz_f, klz_g, kieq_f, kdivL, kdivI, kmodL, kmodI, knIL, lN_i, nI_add, pk_mul, pk_sub, pk_subm, kad1, kad2, lN_add, lN_mul, lN_sub, kkl_i, kkl_l, kkl_r, kkl_0, Option.bind_some, Option.toList_some, Option.toList_none, List.cons_append, List.nil_append, if_true, if_false, eq_self, not_true_eq_false, not_false_eq_true, ku2_eq, ku2_ne, pk_us, pk_un, pk_uLs, pk_uLn, kup_Is, kup_In, kup_Js, kup_Jn, ku2_ku2, kup_I, kup_J, knar1, knar0]
  refine Gd_b (fun c1 => ?_) (fun c1 => ?_)
  case refine_2 =>
    conv => arg 1; simp (disch := first | assumption | omega | decide | exact bI_or _) only [X11_bearing_0, X11_bearing_1, X11_bearing_2, X11_bearing_3, X11_bearing_6b, X11_bearing_9, X11_bearing_10, X11_bearing_11, X11_bearing_12, X11_bearing_15, X11_bearing_16, X11_bearing_19, X11_bearing_20, X11_bearing_21, X11_bearing_22, X11_bearing_25, X11_bearing_26, X11_bearing_29, X11_bearing_30, show (0 : Int32) = nI 0 from rfl, ↓(show (-1 : Int32) = mI 1 from rfl), is_32, g12_2, kis8, exLt_c1, exLt_c2, exEq_c, exLt_t, exLt_f, exEq_s, exEq_t, exEq_f, exLt_mn, exLt_nm, exEq_mn, exEq_nm, exEq_mm, exEq_xf, exLtL_t, exLtL_f, exEqL_t, exEqL_f, exB_t, exB_f, exSw_t, exSw_f, exSw_0, klz_f, klz_g, kieq_f, kdivL, kdivI, kmodL, kmodI, knIL, lN_i, nI_add, pk_mul, pk_sub, pk_subm, kad1, kad2, lN_add, lN_mul, lN_sub, kkl_i, kkl_l, kkl_r, kkl_0, Option.bind_some, Option.toList_some, Option.toList_none, List.cons_append, List.nil_append, if_true, if_false, eq_self, not_true_eq_false, not_false_eq_true, ku2_eq, ku2_ne, pk_us, pk_un, pk_uLs, pk_uLn, kup_Is, kup_In, kup_Js, kup_Jn, ku2_ku2, kup_I, kup_J, knar1, knar0]
    refine Gd_rce (by rw [sp_bearing, if_neg c1]) ⟨FrC_refl, ?_⟩
    rw [ac_bearing, if_neg c1]
    exact hC0
  have hsp := c1
  obtain ⟨a1, a2, a3, a4, a5, a6, a7⟩ := c1
  obtain ⟨a, ha, rfl⟩ := nI_inK (x := x) (n := 30) (by omega) a2 (by decide)
  obtain ⟨b, hb, rfl⟩ := nI_inK (x := y) (n := 98) (by omega) a4 (by decide)
  obtain ⟨c, hc, rfl⟩ := nI_inK (x := z) (n := 999) (by omega) a6 (by decide)
  rw [nI_toInt (by omega)] at a1 a3 a5 a7
  rw [nI_toInt (by omega)] at a7
  conv => arg 1; simp (disch := first | assumption | omega | decide | exact bI_or _) only [X11_bearing_0, X11_bearing_1, X11_bearing_2, X11_bearing_3, X11_bearing_6b, X11_bearing_9, X11_bearing_10, X11_bearing_11, X11_bearing_12, X11_bearing_15, X11_bearing_16, X11_bearing_19, X11_bearing_20, X11_bearing_21, X11_bearing_22, X11_bearing_25, X11_bearing_26, X11_bearing_29, X11_bearing_30, show (0 : Int32) = nI 0 from rfl, ↓(show (-1 : Int32) = mI 1 from rfl), is_32, g12_2, kis8, exLt_c1, exLt_c2, exEq_c, exLt_t, exLt_f, exEq_s, exEq_t, exEq_f, exLt_mn, exLt_nm, exEq_mn, exEq_nm, exEq_mm, exEq_xf, exLtL_t, exLtL_f, exEqL_t, exEqL_f, exB_t, exB_f, exSw_t, exSw_f, exSw_0, klz_f, klz_g, kieq_f, kdivL, kdivI, kmodL, kmodI, knIL, lN_i, nI_add, pk_mul, pk_sub, pk_subm, kad1, kad2, lN_add, lN_mul, lN_sub, kkl_i, kkl_l, kkl_r, kkl_0, Option.bind_some, Option.toList_some, Option.toList_none, List.cons_append, List.nil_append, if_true, if_false, eq_self, not_true_eq_false, not_false_eq_true, ku2_eq, ku2_ne, pk_us, pk_un, pk_uLs, pk_uLn, kup_Is, kup_In, kup_Js, kup_Jn, ku2_ku2, kup_I, kup_J, knar1, knar0]
  refine Gd_call (c_beginAct s.1 s.2.1 s.2.2.1 ok st) ?_
  intro i1 l1 I1 J1 ⟨k1, q1⟩
  conv => arg 1; simp (disch := first | assumption | omega | decide | exact bI_or _) only [X7_measure_E, X7_measure_0, X7_measure_1, X7_measure_2, X7_measure_5, X7_measure_6, X7_measure_7, X7_measure_10, X7_measure_11, X7_measure_12, X7_measure_15, kp8_0, kp8_1, kp8_2, exLt_c1, exLt_c2, exEq_c, exLt_t, exLt_f, exEq_s, exEq_t, exEq_f, exLt_mn, exLt_nm, exEq_mn, exEq_nm, exEq_mm, exEq_xf, exLtL_t, exLtL_f, exEqL_t, exEqL_f, exB_t, exB_f, exSw_t, exSw_f, exSw_0, klz_f, klz_g, kieq_f, kdivL, kdivI, kmodL, kmodI, knIL, lN_i, nI_add, pk_mul, pk_sub, pk_subm, kad1, kad2, lN_add, lN_mul, lN_sub, kkl_i, kkl_l, kkl_r, kkl_0, Option.bind_some, Option.toList_some, Option.toList_none, List.cons_append, List.nil_append, if_true, if_false, eq_self, not_true_eq_false, not_false_eq_true, ku2_eq, ku2_ne, pk_us, pk_un, pk_uLs, pk_uLn, kup_Is, kup_In, kup_Js, kup_Jn, ku2_ku2, kup_I, kup_J, knar1, knar0, X11_bearing_0, X11_bearing_1, X11_bearing_2, X11_bearing_3, X11_bearing_6b, X11_bearing_9, X11_bearing_10, X11_bearing_11, X11_bearing_12, X11_bearing_15, X11_bearing_16, X11_bearing_19, X11_bearing_20, X11_bearing_21, X11_bearing_22, X11_bearing_25, X11_bearing_26, X11_bearing_29, X11_bearing_30, show (0 : Int32) = nI 0 from rfl, ↓(show (-1 : Int32) = mI 1 from rfl), is_32, g12_2, kis8, exLt_c1, exLt_c2, exEq_c, exLt_t, exLt_f, exEq_s, exEq_t, exEq_f, exLt_mn, exLt_nm, exEq_mn, exEq_nm, exEq_mm, exEq_xf, exLtL_t, exLtL_f, exEqL_t, exEqL_f, exB_t, exB_f, exSw_t, exSw_f, exSw_0, klz_f, klz_g, kieq_f, kdivL, kdivI, kmodL, kmodI, knIL, lN_i, nI_add, pk_mul, pk_sub, pk_subm, kad1, kad2, lN_add, lN_mul, lN_sub, kkl_i, kkl_l, kkl_r, kkl_0, Option.bind_some, Option.toList_some, Option.toList_none, List.cons_append, List.nil_append, if_true, if_false, eq_self, not_true_eq_false, not_false_eq_true, ku2_eq, ku2_ne, pk_us, pk_un, pk_uLs, pk_uLn, kup_Is, kup_In, kup_Js, kup_Jn, ku2_ku2, kup_I, kup_J, knar1, knar0]
  have k2 : Kr df (df + 13) i (ku2 (ku2 (ku2 i1 df 0 (nI a)) df 1 (nI b)) df 2 (nI c)) l l1 I I1 J J1 := Kr_trans k1 (Kr_of (ks := [(df, 0), (df, 1), (df, 2)]) (ls := []) (qs := []) (by (repeat (first | exact Kp_refl | refine Kp_i ?_ (by first | decide | simp) | refine Kp_l ?_ (by first | decide | simp) | refine Kp_I ?_ (by first | decide | simp) | refine Kp_J ?_ (by first | decide | simp) | exact Kp_refl))) (by simp) (by simp) (by simp))
  have st2 : cSta (ku2 (ku2 (ku2 i1 df 0 (nI a)) df 1 (nI b)) df 2 (nI c)) I1 df (fU (fU (fU F 5 a) 6 b) 7 c) := cSta_set q1 (by simp (disch := first | assumption | omega | decide | exact bI_or _) only [exLt_c1, exLt_c2, exEq_c, exLt_t, exLt_f, exEq_s, exEq_t, exEq_f, exLt_mn, exLt_nm, exEq_mn, exEq_nm, exEq_mm, exEq_xf, exLtL_t, exLtL_f, exEqL_t, exEqL_f, exB_t, exB_f, exSw_t, exSw_f, exSw_0, klz_f, klz_g, kieq_f, kdivL, kdivI, kmodL, kmodI, knIL, lN_i, nI_add, pk_mul, pk_sub, pk_subm, kad1, kad2, lN_add, lN_mul, lN_sub, kkl_i, kkl_l, kkl_r, kkl_0, Option.bind_some, Option.toList_some, Option.toList_none, List.cons_append, List.nil_append, if_true, if_false, eq_self, not_true_eq_false, not_false_eq_true, ku2_eq, ku2_ne, pk_us, pk_un, pk_uLs, pk_uLn, kup_Is, kup_In, kup_Js, kup_Jn, ku2_ku2, kup_I, kup_J, knar1, knar0]; rfl) (by simp (disch := first | assumption | omega | decide | exact bI_or _) only [exLt_c1, exLt_c2, exEq_c, exLt_t, exLt_f, exEq_s, exEq_t, exEq_f, exLt_mn, exLt_nm, exEq_mn, exEq_nm, exEq_mm, exEq_xf, exLtL_t, exLtL_f, exEqL_t, exEqL_f, exB_t, exB_f, exSw_t, exSw_f, exSw_0, klz_f, klz_g, kieq_f, kdivL, kdivI, kmodL, kmodI, knIL, lN_i, nI_add, pk_mul, pk_sub, pk_subm, kad1, kad2, lN_add, lN_mul, lN_sub, kkl_i, kkl_l, kkl_r, kkl_0, Option.bind_some, Option.toList_some, Option.toList_none, List.cons_append, List.nil_append, if_true, if_false, eq_self, not_true_eq_false, not_false_eq_true, ku2_eq, ku2_ne, pk_us, pk_un, pk_uLs, pk_uLn, kup_Is, kup_In, kup_Js, kup_Jn, ku2_ku2, kup_I, kup_J, knar1, knar0]; rfl) (by simp (disch := first | assumption | omega | decide | exact bI_or _) only [exLt_c1, exLt_c2, exEq_c, exLt_t, exLt_f, exEq_s, exEq_t, exEq_f, exLt_mn, exLt_nm, exEq_mn, exEq_nm, exEq_mm, exEq_xf, exLtL_t, exLtL_f, exEqL_t, exEqL_f, exB_t, exB_f, exSw_t, exSw_f, exSw_0, klz_f, klz_g, kieq_f, kdivL, kdivI, kmodL, kmodI, knIL, lN_i, nI_add, pk_mul, pk_sub, pk_subm, kad1, kad2, lN_add, lN_mul, lN_sub, kkl_i, kkl_l, kkl_r, kkl_0, Option.bind_some, Option.toList_some, Option.toList_none, List.cons_append, List.nil_append, if_true, if_false, eq_self, not_true_eq_false, not_false_eq_true, ku2_eq, ku2_ne, pk_us, pk_un, pk_uLs, pk_uLn, kup_Is, kup_In, kup_Js, kup_Jn, ku2_ku2, kup_I, kup_J, knar1, knar0]; rfl) (by simp (disch := first | assumption | omega | decide | exact bI_or _) only [exLt_c1, exLt_c2, exEq_c, exLt_t, exLt_f, exEq_s, exEq_t, exEq_f, exLt_mn, exLt_nm, exEq_mn, exEq_nm, exEq_mm, exEq_xf, exLtL_t, exLtL_f, exEqL_t, exEqL_f, exB_t, exB_f, exSw_t, exSw_f, exSw_0, klz_f, klz_g, kieq_f, kdivL, kdivI, kmodL, kmodI, knIL, lN_i, nI_add, pk_mul, pk_sub, pk_subm, kad1, kad2, lN_add, lN_mul, lN_sub, kkl_i, kkl_l, kkl_r, kkl_0, Option.bind_some, Option.toList_some, Option.toList_none, List.cons_append, List.nil_append, if_true, if_false, eq_self, not_true_eq_false, not_false_eq_true, ku2_eq, ku2_ne, pk_us, pk_un, pk_uLs, pk_uLn, kup_Is, kup_In, kup_Js, kup_Jn, ku2_ku2, kup_I, kup_J, knar1, knar0]; exact q1.1.2.2.2) (fun p hp => by funext m; simp (disch := first | assumption | omega | decide | exact bI_or _) only [exLt_c1, exLt_c2, exEq_c, exLt_t, exLt_f, exEq_s, exEq_t, exEq_f, exLt_mn, exLt_nm, exEq_mn, exEq_nm, exEq_mm, exEq_xf, exLtL_t, exLtL_f, exEqL_t, exEqL_f, exB_t, exB_f, exSw_t, exSw_f, exSw_0, klz_f, klz_g, kieq_f, kdivL, kdivI, kmodL, kmodI, knIL, lN_i, nI_add, pk_mul, pk_sub, pk_subm, kad1, kad2, lN_add, lN_mul, lN_sub, kkl_i, kkl_l, kkl_r, kkl_0, Option.bind_some, Option.toList_some, Option.toList_none, List.cons_append, List.nil_append, if_true, if_false, eq_self, not_true_eq_false, not_false_eq_true, ku2_eq, ku2_ne, pk_us, pk_un, pk_uLs, pk_uLn, kup_Is, kup_In, kup_Js, kup_Jn, ku2_ku2, kup_I, kup_J, knar1, knar0]) (fun j hj => by unfold fU; rw [if_neg (by omega), if_neg (by omega), if_neg (by omega)])
  refine Gd_callC (c_end (hC0.dr k2) (ok_bearing ok (by omega)) st2) ?_
  intro i3 l3 I3 J3 nw3 df3 P3 ⟨k3, q3⟩
  conv => arg 1; simp (disch := first | assumption | omega | decide | exact bI_or _) only [X11_bearing_0, X11_bearing_1, X11_bearing_2, X11_bearing_3, X11_bearing_6b, X11_bearing_9, X11_bearing_10, X11_bearing_11, X11_bearing_12, X11_bearing_15, X11_bearing_16, X11_bearing_19, X11_bearing_20, X11_bearing_21, X11_bearing_22, X11_bearing_25, X11_bearing_26, X11_bearing_29, X11_bearing_30, show (0 : Int32) = nI 0 from rfl, ↓(show (-1 : Int32) = mI 1 from rfl), is_32, g12_2, kis8, exLt_c1, exLt_c2, exEq_c, exLt_t, exLt_f, exEq_s, exEq_t, exEq_f, exLt_mn, exLt_nm, exEq_mn, exEq_nm, exEq_mm, exEq_xf, exLtL_t, exLtL_f, exEqL_t, exEqL_f, exB_t, exB_f, exSw_t, exSw_f, exSw_0, klz_f, klz_g, kieq_f, kdivL, kdivI, kmodL, kmodI, knIL, lN_i, nI_add, pk_mul, pk_sub, pk_subm, kad1, kad2, lN_add, lN_mul, lN_sub, kkl_i, kkl_l, kkl_r, kkl_0, Option.bind_some, Option.toList_some, Option.toList_none, List.cons_append, List.nil_append, if_true, if_false, eq_self, not_true_eq_false, not_false_eq_true, ku2_eq, ku2_ne, pk_us, pk_un, pk_uLs, pk_uLn, kup_Is, kup_In, kup_Js, kup_Jn, ku2_ku2, kup_I, kup_J, knar1, knar0]
  refine Gd_rce (by rw [sp_bearing, if_pos hsp]) ⟨FrC_trans (FrC_r k2 (by omega)) k3, ?_⟩
  rw [ac_bearing, if_pos hsp, tN_nI (by omega), tN_nI (by omega), tN_nI (by omega)]
  exact q3
theorem c_dropA (hC : CInv i I nw df P F PS T tc) (x : Int32) : Gd (rn (d + 6) mX11_drop [.ref 32, .int x] (mH h i l I J nw df P)) (RtC h (some (.int (sp_drop F x))) fun i' l' I' J' nw' df' P' => FrC i i' l l' I I' J J' ∧ CInv i' I' nw' df' P' (aT (ac_drop F x) F PS).1 (aT (ac_drop F x) F PS).2 T tc) := by
  have hC0 := hC
  obtain ⟨s, ok, st, se, vd, ps, tp⟩ := hC
  obtain ⟨n8, n7, n3, n9', n5⟩ := s.1.c8
  obtain ⟨d8, d7, d3, d9, d5⟩ := s.2.1.c8
  have hdb := s.2.1.b
  have n9 := ok.n9
  have e9 : i (nw + 5) 2 = nI (F 9) := by rw [st.2.2.2.1.1, knL_len]
  have fail : ¬ inR x (F 9) → Gd (ex (d + 5) mX11_drop 18 [some (.ref 32), some (.int x)] [] (mH h i l I J nw df P)) (RtC h (some (.int (sp_drop F x))) fun i' l' I' J' nw' df' P' => FrC i i' l l' I I' J J' ∧ CInv i' I' nw' df' P' (aT (ac_drop F x) F PS).1 (aT (ac_drop F x) F PS).2 T tc) := fun c1 => by
    conv => arg 1; simp (disch := first | assumption | omega | decide | exact bI_or _) only [X11_drop_0, X11_drop_1b, X11_drop_4, X11_drop_5, X11_drop_6, X11_drop_9, X11_drop_12, X11_drop_15b, X11_drop_18, X11_drop_19, X11_drop_20, X11_drop_21, X11_drop_24, X11_drop_25, X11_drop_28, X11_drop_31, X11_drop_32, X11_drop_35, X11_drop_36, X11_drop_39, X11_drop_40, X11_drop_43, X11_drop_46, X11_drop_49, show (0 : Int32) = nI 0 from rfl, g12_1, kg8_6, kg3_2, ↓(show (-1 : Int32) = mI 1 from rfl), is_32, g12_2, kis3, exLt_c1, exLt_c2, exEq_c, exLt_t, exLt_f, exEq_s, exEq_t, exEq_f, exLt_mn, exLt_nm, exEq_mn, exEq_nm, exEq_mm, exEq_xf, exLtL_t, exLtL_f, exEqL_t, exEqL_f, exB_t, exB_f, exSw_t, exSw_f, exSw_0, klz_f, klz_g, kieq_f, kdivL, kdivI, kmodL, kmodI, knIL, lN_i, nI_add, pk_mul, pk_sub, pk_subm, kad1, kad2, lN_add, lN_mul, lN_sub, kkl_i, kkl_l, kkl_r, kkl_0, Option.bind_some, Option.toList_some, Option.toList_none, List.cons_append, List.nil_append, if_true, if_false, eq_self, not_true_eq_false, not_false_eq_true, ku2_eq, ku2_ne, pk_us, pk_un, pk_uLs, pk_uLn, kup_Is, kup_In, kup_Js, kup_Jn, ku2_ku2, kup_I, kup_J, knar1, knar0]
    refine Gd_rce (by rw [sp_drop, if_neg c1]) ⟨FrC_refl, ?_⟩
    rw [ac_drop, if_neg c1]
    exact hC0
  rw [X11_drop_E]
  conv => arg 1; simp (disch := first | assumption | omega | decide | exact bI_or _) only [X11_drop_0, X11_drop_1b, X11_drop_4, X11_drop_5, X11_drop_6, X11_drop_9, X11_drop_12, X11_drop_15b, X11_drop_19, X11_drop_20, X11_drop_21, X11_drop_24, X11_drop_25, X11_drop_28, X11_drop_31, X11_drop_32, X11_drop_35, X11_drop_36, X11_drop_39, X11_drop_40, X11_drop_43, X11_drop_46, X11_drop_49, show (0 : Int32) = nI 0 from rfl, g12_1, kg8_6, kg3_2, ↓(show (-1 : Int32) = mI 1 from rfl), is_32, g12_2, kis3, exLt_c1, exLt_c2, exEq_c, exLt_t, exLt_f, exEq_s, exEq_t, exEq_f, exLt_mn, exLt_nm, exEq_mn, exEq_nm, exEq_mm, exEq_xf, exLtL_t, exLtL_f, exEqL_t, exEqL_f, exB_t, exB_f, exSw_t, exSw_f, exSw_0, klz_f, klz_g, kieq_f, kdivL, kdivI, kmodL, kmodI, knIL, lN_i, nI_add, pk_mul, pk_sub, pk_subm, kad1, kad2, lN_add, lN_mul, lN_sub, kkl_i, kkl_l, kkl_r, kkl_0, Option.bind_some, Option.toList_some, Option.toList_none, List.cons_append, List.nil_append, if_true, if_false, eq_self, not_true_eq_false, not_false_eq_true, ku2_eq, ku2_ne, pk_us, pk_un, pk_uLs, pk_uLn, kup_Is, kup_In, kup_Js, kup_Jn, ku2_ku2, kup_I, kup_J, knar1, knar0]
  refine Gd_ltA (by decide) (fun c1 => fail (fun z => by have := z.1; omega)) (fun c1 => ?_)
  conv => arg 1; simp (disch := first | assumption | omega | decide | exact bI_or _) only [e9, X11_drop_0, X11_drop_1b, X11_drop_4, X11_drop_5, X11_drop_6, X11_drop_9, X11_drop_12, X11_drop_15b, X11_drop_19, X11_drop_20, X11_drop_21, X11_drop_24, X11_drop_25, X11_drop_28, X11_drop_31, X11_drop_32, X11_drop_35, X11_drop_36, X11_drop_39, X11_drop_40, X11_drop_43, X11_drop_46, X11_drop_49, show (0 : Int32) = nI 0 from rfl, g12_1, kg8_6, kg3_2, ↓(show (-1 : Int32) = mI 1 from rfl), is_32, g12_2, kis3, exLt_c1, exLt_c2, exEq_c, exLt_t, exLt_f, exEq_s, exEq_t, exEq_f, exLt_mn, exLt_nm, exEq_mn, exEq_nm, exEq_mm, exEq_xf, exLtL_t, exLtL_f, exEqL_t, exEqL_f, exB_t, exB_f, exSw_t, exSw_f, exSw_0, klz_f, klz_g, kieq_f, kdivL, kdivI, kmodL, kmodI, knIL, lN_i, nI_add, pk_mul, pk_sub, pk_subm, kad1, kad2, lN_add, lN_mul, lN_sub, kkl_i, kkl_l, kkl_r, kkl_0, Option.bind_some, Option.toList_some, Option.toList_none, List.cons_append, List.nil_append, if_true, if_false, eq_self, not_true_eq_false, not_false_eq_true, ku2_eq, ku2_ne, pk_us, pk_un, pk_uLs, pk_uLn, kup_Is, kup_In, kup_Js, kup_Jn, ku2_ku2, kup_I, kup_J, knar1, knar0]
  refine Gd_ltA (by omega) (fun c2 => ?_) (fun c2 => fail (fun z => by have := z.2; omega))
  have hsp : inR x (F 9) := ⟨by omega, by omega⟩
  obtain ⟨a, ha, rfl⟩ := inR_of hsp (by omega)
  conv => arg 1; simp (disch := first | assumption | omega | decide | exact bI_or _) only [X11_drop_0, X11_drop_1b, X11_drop_4, X11_drop_5, X11_drop_6, X11_drop_9, X11_drop_12, X11_drop_15b, X11_drop_18, X11_drop_19, X11_drop_20, X11_drop_21, X11_drop_24, X11_drop_25, X11_drop_28, X11_drop_31, X11_drop_32, X11_drop_35, X11_drop_36, X11_drop_39, X11_drop_40, X11_drop_43, X11_drop_46, X11_drop_49, show (0 : Int32) = nI 0 from rfl, g12_1, kg8_6, kg3_2, ↓(show (-1 : Int32) = mI 1 from rfl), is_32, g12_2, kis3, exLt_c1, exLt_c2, exEq_c, exLt_t, exLt_f, exEq_s, exEq_t, exEq_f, exLt_mn, exLt_nm, exEq_mn, exEq_nm, exEq_mm, exEq_xf, exLtL_t, exLtL_f, exEqL_t, exEqL_f, exB_t, exB_f, exSw_t, exSw_f, exSw_0, klz_f, klz_g, kieq_f, kdivL, kdivI, kmodL, kmodI, knIL, lN_i, nI_add, pk_mul, pk_sub, pk_subm, kad1, kad2, lN_add, lN_mul, lN_sub, kkl_i, kkl_l, kkl_r, kkl_0, Option.bind_some, Option.toList_some, Option.toList_none, List.cons_append, List.nil_append, if_true, if_false, eq_self, not_true_eq_false, not_false_eq_true, ku2_eq, ku2_ne, pk_us, pk_un, pk_uLs, pk_uLn, kup_Is, kup_In, kup_Js, kup_Jn, ku2_ku2, kup_I, kup_J, knar1, knar0]
  refine Gd_call (c_beginAct s.1 s.2.1 s.2.2.1 ok st) ?_
  intro i1 l1 I1 J1 ⟨k1, q1⟩
  conv => arg 1; simp (disch := first | assumption | omega | decide | exact bI_or _) only [X11_drop_0, X11_drop_1b, X11_drop_4, X11_drop_5, X11_drop_6, X11_drop_9, X11_drop_12, X11_drop_15b, X11_drop_18, X11_drop_19, X11_drop_20, X11_drop_21, X11_drop_24, X11_drop_25, X11_drop_28, X11_drop_31, X11_drop_32, X11_drop_35, X11_drop_36, X11_drop_39, X11_drop_40, X11_drop_43, X11_drop_46, X11_drop_49, show (0 : Int32) = nI 0 from rfl, g12_1, kg8_6, kg3_2, ↓(show (-1 : Int32) = mI 1 from rfl), is_32, g12_2, kis3, exLt_c1, exLt_c2, exEq_c, exLt_t, exLt_f, exEq_s, exEq_t, exEq_f, exLt_mn, exLt_nm, exEq_mn, exEq_nm, exEq_mm, exEq_xf, exLtL_t, exLtL_f, exEqL_t, exEqL_f, exB_t, exB_f, exSw_t, exSw_f, exSw_0, klz_f, klz_g, kieq_f, kdivL, kdivI, kmodL, kmodI, knIL, lN_i, nI_add, pk_mul, pk_sub, pk_subm, kad1, kad2, lN_add, lN_mul, lN_sub, kkl_i, kkl_l, kkl_r, kkl_0, Option.bind_some, Option.toList_some, Option.toList_none, List.cons_append, List.nil_append, if_true, if_false, eq_self, not_true_eq_false, not_false_eq_true, ku2_eq, ku2_ne, pk_us, pk_un, pk_uLs, pk_uLn, kup_Is, kup_In, kup_Js, kup_Jn, ku2_ku2, kup_I, kup_J, knar1, knar0]
  refine Gd_call (c_takeOut (q := df + 5) d3 (by rw [knL_len]; exact n9) q1.2.2.2.1 (by rw [knL_len]; exact ha)) ?_
  intro i2 l2 I2 J2 ⟨k2, q2⟩
  have k3 : Kr df (df + 13) i i2 l l2 I I2 J J2 := Kr_trans k1 (Kr_of k2 (by simp) (by simp) (by simp; omega))
  have st2 : cSta i2 I2 df (drF F a) := cSta_kn q1 ok (fun j h1 h2 => by unfold drF; rw [if_neg h2, if_neg (by omega), if_neg (by omega)]) (by rw [drF_kn ha n9]; exact q2) (fun p _ hp => by funext m; exact k2.1 _ _ (by simp; omega)) (fun p _ h1 h2 => k2.2.2.1 _ (by simp; omega))
  conv => arg 1; simp (disch := first | assumption | omega | decide | exact bI_or _) only [X11_drop_0, X11_drop_1b, X11_drop_4, X11_drop_5, X11_drop_6, X11_drop_9, X11_drop_12, X11_drop_15b, X11_drop_18, X11_drop_19, X11_drop_20, X11_drop_21, X11_drop_24, X11_drop_25, X11_drop_28, X11_drop_31, X11_drop_32, X11_drop_35, X11_drop_36, X11_drop_39, X11_drop_40, X11_drop_43, X11_drop_46, X11_drop_49, show (0 : Int32) = nI 0 from rfl, g12_1, kg8_6, kg3_2, ↓(show (-1 : Int32) = mI 1 from rfl), is_32, g12_2, kis3, exLt_c1, exLt_c2, exEq_c, exLt_t, exLt_f, exEq_s, exEq_t, exEq_f, exLt_mn, exLt_nm, exEq_mn, exEq_nm, exEq_mm, exEq_xf, exLtL_t, exLtL_f, exEqL_t, exEqL_f, exB_t, exB_f, exSw_t, exSw_f, exSw_0, klz_f, klz_g, kieq_f, kdivL, kdivI, kmodL, kmodI, knIL, lN_i, nI_add, pk_mul, pk_sub, pk_subm, kad1, kad2, lN_add, lN_mul, lN_sub, kkl_i, kkl_l, kkl_r, kkl_0, Option.bind_some, Option.toList_some, Option.toList_none, List.cons_append, List.nil_append, if_true, if_false, eq_self, not_true_eq_false, not_false_eq_true, ku2_eq, ku2_ne, pk_us, pk_un, pk_uLs, pk_uLn, kup_Is, kup_In, kup_Js, kup_Jn, ku2_ku2, kup_I, kup_J, knar1, knar0]
  refine Gd_callC (c_end (hC0.dr k3) (ok_drop ok ha) st2) ?_
  intro i3 l3 I3 J3 nw3 df3 P3 ⟨k4, q3⟩
  obtain ⟨m8, m7, m3, m9', m5⟩ := q3.1.1.c8
  have e9' : i3 (nw3 + 5) 2 = nI (F 9 - 1) := by rw [q3.2.2.1.2.2.2.1.1, knL_len]; rfl
  conv => arg 1; simp (disch := first | assumption | omega | decide | exact bI_or _) only [e9', X11_drop_0, X11_drop_1b, X11_drop_4, X11_drop_5, X11_drop_6, X11_drop_9, X11_drop_12, X11_drop_15b, X11_drop_18, X11_drop_19, X11_drop_20, X11_drop_21, X11_drop_24, X11_drop_25, X11_drop_28, X11_drop_31, X11_drop_32, X11_drop_35, X11_drop_36, X11_drop_39, X11_drop_40, X11_drop_43, X11_drop_46, X11_drop_49, show (0 : Int32) = nI 0 from rfl, g12_1, kg8_6, kg3_2, ↓(show (-1 : Int32) = mI 1 from rfl), is_32, g12_2, kis3, exLt_c1, exLt_c2, exEq_c, exLt_t, exLt_f, exEq_s, exEq_t, exEq_f, exLt_mn, exLt_nm, exEq_mn, exEq_nm, exEq_mm, exEq_xf, exLtL_t, exLtL_f, exEqL_t, exEqL_f, exB_t, exB_f, exSw_t, exSw_f, exSw_0, klz_f, klz_g, kieq_f, kdivL, kdivI, kmodL, kmodI, knIL, lN_i, nI_add, pk_mul, pk_sub, pk_subm, kad1, kad2, lN_add, lN_mul, lN_sub, kkl_i, kkl_l, kkl_r, kkl_0, Option.bind_some, Option.toList_some, Option.toList_none, List.cons_append, List.nil_append, if_true, if_false, eq_self, not_true_eq_false, not_false_eq_true, ku2_eq, ku2_ne, pk_us, pk_un, pk_uLs, pk_uLn, kup_Is, kup_In, kup_Js, kup_Jn, ku2_ku2, kup_I, kup_J, knar1, knar0]
  refine Gd_rce (by rw [sp_drop, if_pos hsp]) ⟨FrC_trans (FrC_r k3 (by omega)) k4, ?_⟩
  rw [ac_drop, if_pos hsp, tN_nI (by omega)]
  exact q3
/-- the two rows of limits that were there before -/
def hOpt (h : kH) : Prop := (∃ f : Nat → Int32, h.1 1 = some (.inl (.int, 5, .inl f)) ∧ ∀ a, a < 5 → f a = nI (setLo a)) ∧ ∃ g : Nat → Int32, h.1 2 = some (.inl (.int, 5, .inl g)) ∧ ∀ a, a < 5 → g a = nI (setHi a)
theorem kil_lo {a : Nat} (ho : hOpt h) (ha : a < 5) : kil (mH h i l I J nw df P) 1 (nI a) = some (nI (setLo a)) := by
  obtain ⟨⟨f, h1, h2⟩, _⟩ := ho
  have e : (mH h i l I J nw df P).1 1 = some (.inl (.int, 5, .inl f)) := by rw [← h1]; rfl
  simp only [kil, e]
  rw [if_pos (nI_kin ha (by decide)), nI_clamp (by omega), h2 a ha]
theorem kil_hi {a : Nat} (ho : hOpt h) (ha : a < 5) : kil (mH h i l I J nw df P) 2 (nI a) = some (nI (setHi a)) := by
  obtain ⟨_, ⟨f, h1, h2⟩⟩ := ho
  have e : (mH h i l I J nw df P).1 2 = some (.inl (.int, 5, .inl f)) := by rw [← h1]; rfl
  simp only [kil, e]
  rw [if_pos (nI_kin ha (by decide)), nI_clamp (by omega), h2 a ha]
theorem c_setA (ho : hOpt h) (hC : CInv i I nw df P F PS T tc) (x v : Int32) : Gd (rn (d + 6) mX11_set [.ref 32, .int x, .int v] (mH h i l I J nw df P)) (RtC h (some (.int (sp_set F x v))) fun i' l' I' J' nw' df' P' => FrC i i' l l' I I' J J' ∧ CInv i' I' nw' df' P' (aT (ac_set F x v) F PS).1 (aT (ac_set F x v) F PS).2 T tc) := by
  have hC0 := hC
  obtain ⟨s, ok, st, se, vd, ps, tp⟩ := hC
  have n8 := s.1.c8.1
  have d8 := s.2.1.c8.1
  have hdb := s.2.1.b
  have fail : ¬ setOk x v → Gd (ex (d + 5) mX11_set 25 [some (.ref 32), some (.int x), some (.int v), none] [] (mH h i l I J nw df P)) (RtC h (some (.int (sp_set F x v))) fun i' l' I' J' nw' df' P' => FrC i i' l l' I I' J J' ∧ CInv i' I' nw' df' P' (aT (ac_set F x v) F PS).1 (aT (ac_set F x v) F PS).2 T tc) := fun c1 => by
    conv => arg 1; simp (disch := first | assumption | omega | decide | exact bI_or _) only [X11_set_0, X11_set_1, X11_set_4b, X11_set_7, X11_set_8, X11_set_11, X11_set_12, X11_set_13b, X11_set_16, X11_set_17, X11_set_20, X11_set_21, X11_set_22b, X11_set_25, X11_set_26, X11_set_27, X11_set_28, X11_set_31, X11_set_34, X11_set_35, X11_set_36, X11_set_37, X11_set_38, X11_set_41, X11_set_42, X11_set_45, X11_set_48, X11_set_49, X11_set_50, X11_set_51, X11_set_52, X11_set_55, X11_set_56, show (0 : Int32) = nI 0 from rfl, ↓(show (-1 : Int32) = mI 1 from rfl), g12_1, kg8_4, kl8_4, ks8_4, is_32, g12_2, exLt_c1, exLt_c2, exEq_c, exLt_t, exLt_f, exEq_s, exEq_t, exEq_f, exLt_mn, exLt_nm, exEq_mn, exEq_nm, exEq_mm, exEq_xf, exLtL_t, exLtL_f, exEqL_t, exEqL_f, exB_t, exB_f, exSw_t, exSw_f, exSw_0, klz_f, klz_g, kieq_f, kdivL, kdivI, kmodL, kmodI, knIL, lN_i, nI_add, pk_mul, pk_sub, pk_subm, kad1, kad2, lN_add, lN_mul, lN_sub, kkl_i, kkl_l, kkl_r, kkl_0, Option.bind_some, Option.toList_some, Option.toList_none, List.cons_append, List.nil_append, if_true, if_false, eq_self, not_true_eq_false, not_false_eq_true, ku2_eq, ku2_ne, pk_us, pk_un, pk_uLs, pk_uLn, kup_Is, kup_In, kup_Js, kup_Jn, ku2_ku2, kup_I, kup_J, knar1, knar0]
    refine Gd_rce (by rw [sp_set, if_neg c1]) ⟨FrC_refl, ?_⟩
    rw [ac_set, if_neg c1]
    exact hC0
  rw [X11_set_E]
  conv => arg 1; simp (disch := first | assumption | omega | decide | exact bI_or _) only [c_isOption, X11_set_0, X11_set_1, X11_set_4b, X11_set_7, X11_set_8, X11_set_11, X11_set_12, X11_set_13b, X11_set_16, X11_set_17, X11_set_20, X11_set_21, X11_set_22b, X11_set_26, X11_set_27, X11_set_28, X11_set_31, X11_set_34, X11_set_35, X11_set_36, X11_set_37, X11_set_38, X11_set_41, X11_set_42, X11_set_45, X11_set_48, X11_set_49, X11_set_50, X11_set_51, X11_set_52, X11_set_55, X11_set_56, show (0 : Int32) = nI 0 from rfl, ↓(show (-1 : Int32) = mI 1 from rfl), g12_1, kg8_4, kl8_4, ks8_4, is_32, g12_2, exLt_c1, exLt_c2, exEq_c, exLt_t, exLt_f, exEq_s, exEq_t, exEq_f, exLt_mn, exLt_nm, exEq_mn, exEq_nm, exEq_mm, exEq_xf, exLtL_t, exLtL_f, exEqL_t, exEqL_f, exB_t, exB_f, exSw_t, exSw_f, exSw_0, klz_f, klz_g, kieq_f, kdivL, kdivI, kmodL, kmodI, knIL, lN_i, nI_add, pk_mul, pk_sub, pk_subm, kad1, kad2, lN_add, lN_mul, lN_sub, kkl_i, kkl_l, kkl_r, kkl_0, Option.bind_some, Option.toList_some, Option.toList_none, List.cons_append, List.nil_append, if_true, if_false, eq_self, not_true_eq_false, not_false_eq_true, ku2_eq, ku2_ne, pk_us, pk_un, pk_uLs, pk_uLn, kup_Is, kup_In, kup_Js, kup_Jn, ku2_ku2, kup_I, kup_J, knar1, knar0]
  refine Gd_b (fun c1 => ?_) (fun c1 => fail (fun z => c1 z.1))
  obtain ⟨a, ha, rfl⟩ := inR_of c1 (by decide)
  have hlo : setLo a < 2147483648 := by unfold setLo; split <;> omega
  have hhi : setHi a ≤ 1000 := by
    unfold setHi
    rcases (show a = 0 ∨ a = 1 ∨ a = 2 ∨ a = 3 ∨ a = 4 by omega) with rfl | rfl | rfl | rfl | rfl <;> decide
  conv => arg 1; simp (disch := first | assumption | omega | decide | exact bI_or _) only [kil_lo ho, X11_set_0, X11_set_1, X11_set_4b, X11_set_7, X11_set_8, X11_set_11, X11_set_12, X11_set_13b, X11_set_16, X11_set_17, X11_set_20, X11_set_21, X11_set_22b, X11_set_26, X11_set_27, X11_set_28, X11_set_31, X11_set_34, X11_set_35, X11_set_36, X11_set_37, X11_set_38, X11_set_41, X11_set_42, X11_set_45, X11_set_48, X11_set_49, X11_set_50, X11_set_51, X11_set_52, X11_set_55, X11_set_56, show (0 : Int32) = nI 0 from rfl, ↓(show (-1 : Int32) = mI 1 from rfl), g12_1, kg8_4, kl8_4, ks8_4, is_32, g12_2, exLt_c1, exLt_c2, exEq_c, exLt_t, exLt_f, exEq_s, exEq_t, exEq_f, exLt_mn, exLt_nm, exEq_mn, exEq_nm, exEq_mm, exEq_xf, exLtL_t, exLtL_f, exEqL_t, exEqL_f, exB_t, exB_f, exSw_t, exSw_f, exSw_0, klz_f, klz_g, kieq_f, kdivL, kdivI, kmodL, kmodI, knIL, lN_i, nI_add, pk_mul, pk_sub, pk_subm, kad1, kad2, lN_add, lN_mul, lN_sub, kkl_i, kkl_l, kkl_r, kkl_0, Option.bind_some, Option.toList_some, Option.toList_none, List.cons_append, List.nil_append, if_true, if_false, eq_self, not_true_eq_false, not_false_eq_true, ku2_eq, ku2_ne, pk_us, pk_un, pk_uLs, pk_uLn, kup_Is, kup_In, kup_Js, kup_Jn, ku2_ku2, kup_I, kup_J, knar1, knar0]
  refine Gd_ltA hlo (fun c2 => fail (fun z => by have := z.2.1; rw [tN_nI (by omega)] at this; omega)) (fun c2 => ?_)
  conv => arg 1; simp (disch := first | assumption | omega | decide | exact bI_or _) only [kil_hi ho, X11_set_0, X11_set_1, X11_set_4b, X11_set_7, X11_set_8, X11_set_11, X11_set_12, X11_set_13b, X11_set_16, X11_set_17, X11_set_20, X11_set_21, X11_set_22b, X11_set_26, X11_set_27, X11_set_28, X11_set_31, X11_set_34, X11_set_35, X11_set_36, X11_set_37, X11_set_38, X11_set_41, X11_set_42, X11_set_45, X11_set_48, X11_set_49, X11_set_50, X11_set_51, X11_set_52, X11_set_55, X11_set_56, show (0 : Int32) = nI 0 from rfl, ↓(show (-1 : Int32) = mI 1 from rfl), g12_1, kg8_4, kl8_4, ks8_4, is_32, g12_2, exLt_c1, exLt_c2, exEq_c, exLt_t, exLt_f, exEq_s, exEq_t, exEq_f, exLt_mn, exLt_nm, exEq_mn, exEq_nm, exEq_mm, exEq_xf, exLtL_t, exLtL_f, exEqL_t, exEqL_f, exB_t, exB_f, exSw_t, exSw_f, exSw_0, klz_f, klz_g, kieq_f, kdivL, kdivI, kmodL, kmodI, knIL, lN_i, nI_add, pk_mul, pk_sub, pk_subm, kad1, kad2, lN_add, lN_mul, lN_sub, kkl_i, kkl_l, kkl_r, kkl_0, Option.bind_some, Option.toList_some, Option.toList_none, List.cons_append, List.nil_append, if_true, if_false, eq_self, not_true_eq_false, not_false_eq_true, ku2_eq, ku2_ne, pk_us, pk_un, pk_uLs, pk_uLn, kup_Is, kup_In, kup_Js, kup_Jn, ku2_ku2, kup_I, kup_J, knar1, knar0]
  refine Gd_ltB (by omega) (fun c3 => fail (fun z => by have := z.2.2; rw [tN_nI (by omega)] at this; omega)) (fun c3 => ?_)
  obtain ⟨w, hw, rfl⟩ := nI_inK (x := v) (n := 1000) (by omega) (by omega) (by decide)
  have hsp : setOk (nI a) (nI w) := ⟨c1, by rw [tN_nI (by omega)]; exact c2, by rw [tN_nI (by omega)]; exact c3⟩
  rw [nI_toInt (by omega)] at c2 c3
  have eo := st.2.1 a ha
  conv => arg 1; simp (disch := first | assumption | omega | decide | exact bI_or _) only [eo, X11_set_0, X11_set_1, X11_set_4b, X11_set_7, X11_set_8, X11_set_11, X11_set_12, X11_set_13b, X11_set_16, X11_set_17, X11_set_20, X11_set_21, X11_set_22b, X11_set_25, X11_set_26, X11_set_27, X11_set_28, X11_set_31, X11_set_34, X11_set_35, X11_set_36, X11_set_37, X11_set_38, X11_set_41, X11_set_42, X11_set_45, X11_set_48, X11_set_49, X11_set_50, X11_set_51, X11_set_52, X11_set_55, X11_set_56, show (0 : Int32) = nI 0 from rfl, ↓(show (-1 : Int32) = mI 1 from rfl), g12_1, kg8_4, kl8_4, ks8_4, is_32, g12_2, exLt_c1, exLt_c2, exEq_c, exLt_t, exLt_f, exEq_s, exEq_t, exEq_f, exLt_mn, exLt_nm, exEq_mn, exEq_nm, exEq_mm, exEq_xf, exLtL_t, exLtL_f, exEqL_t, exEqL_f, exB_t, exB_f, exSw_t, exSw_f, exSw_0, klz_f, klz_g, kieq_f, kdivL, kdivI, kmodL, kmodI, knIL, lN_i, nI_add, pk_mul, pk_sub, pk_subm, kad1, kad2, lN_add, lN_mul, lN_sub, kkl_i, kkl_l, kkl_r, kkl_0, Option.bind_some, Option.toList_some, Option.toList_none, List.cons_append, List.nil_append, if_true, if_false, eq_self, not_true_eq_false, not_false_eq_true, ku2_eq, ku2_ne, pk_us, pk_un, pk_uLs, pk_uLn, kup_Is, kup_In, kup_Js, kup_Jn, ku2_ku2, kup_I, kup_J, knar1, knar0]
  refine Gd_call (c_beginAct s.1 s.2.1 s.2.2.1 ok st) ?_
  intro i1 l1 I1 J1 ⟨k1, q1⟩
  conv => arg 1; simp (disch := first | assumption | omega | decide | exact bI_or _) only [X11_set_0, X11_set_1, X11_set_4b, X11_set_7, X11_set_8, X11_set_11, X11_set_12, X11_set_13b, X11_set_16, X11_set_17, X11_set_20, X11_set_21, X11_set_22b, X11_set_25, X11_set_26, X11_set_27, X11_set_28, X11_set_31, X11_set_34, X11_set_35, X11_set_36, X11_set_37, X11_set_38, X11_set_41, X11_set_42, X11_set_45, X11_set_48, X11_set_49, X11_set_50, X11_set_51, X11_set_52, X11_set_55, X11_set_56, show (0 : Int32) = nI 0 from rfl, ↓(show (-1 : Int32) = mI 1 from rfl), g12_1, kg8_4, kl8_4, ks8_4, is_32, g12_2, exLt_c1, exLt_c2, exEq_c, exLt_t, exLt_f, exEq_s, exEq_t, exEq_f, exLt_mn, exLt_nm, exEq_mn, exEq_nm, exEq_mm, exEq_xf, exLtL_t, exLtL_f, exEqL_t, exEqL_f, exB_t, exB_f, exSw_t, exSw_f, exSw_0, klz_f, klz_g, kieq_f, kdivL, kdivI, kmodL, kmodI, knIL, lN_i, nI_add, pk_mul, pk_sub, pk_subm, kad1, kad2, lN_add, lN_mul, lN_sub, kkl_i, kkl_l, kkl_r, kkl_0, Option.bind_some, Option.toList_some, Option.toList_none, List.cons_append, List.nil_append, if_true, if_false, eq_self, not_true_eq_false, not_false_eq_true, ku2_eq, ku2_ne, pk_us, pk_un, pk_uLs, pk_uLn, kup_Is, kup_In, kup_Js, kup_Jn, ku2_ku2, kup_I, kup_J, knar1, knar0]
  have k2 : Kr df (df + 13) i i1 l l1 I (va_up I1 (df + 1) (upd (I1 (df + 1)) a (nI w))) J J1 := Kr_trans k1 (Kr_of (ks := []) (ls := []) (qs := [df + 1]) (by (repeat (first | exact Kp_refl | refine Kp_i ?_ (by first | decide | simp) | refine Kp_l ?_ (by first | decide | simp) | refine Kp_I ?_ (by first | decide | simp) | refine Kp_J ?_ (by first | decide | simp) | exact Kp_refl))) (by simp) (by simp) (by simp))
  have st2 : cSta i1 (va_up I1 (df + 1) (upd (I1 (df + 1)) a (nI w))) df (fU F a w) := cSta_op q1 ha kup_Is (fun p hp => kup_In hp)
  refine Gd_callC (c_end (hC0.dr k2) (ok_set ok ha (by omega) (by omega)) st2) ?_
  intro i3 l3 I3 J3 nw3 df3 P3 ⟨k3, q3⟩
  conv => arg 1; simp (disch := first | assumption | omega | decide | exact bI_or _) only [X11_set_0, X11_set_1, X11_set_4b, X11_set_7, X11_set_8, X11_set_11, X11_set_12, X11_set_13b, X11_set_16, X11_set_17, X11_set_20, X11_set_21, X11_set_22b, X11_set_25, X11_set_26, X11_set_27, X11_set_28, X11_set_31, X11_set_34, X11_set_35, X11_set_36, X11_set_37, X11_set_38, X11_set_41, X11_set_42, X11_set_45, X11_set_48, X11_set_49, X11_set_50, X11_set_51, X11_set_52, X11_set_55, X11_set_56, show (0 : Int32) = nI 0 from rfl, ↓(show (-1 : Int32) = mI 1 from rfl), g12_1, kg8_4, kl8_4, ks8_4, is_32, g12_2, exLt_c1, exLt_c2, exEq_c, exLt_t, exLt_f, exEq_s, exEq_t, exEq_f, exLt_mn, exLt_nm, exEq_mn, exEq_nm, exEq_mm, exEq_xf, exLtL_t, exLtL_f, exEqL_t, exEqL_f, exB_t, exB_f, exSw_t, exSw_f, exSw_0, klz_f, klz_g, kieq_f, kdivL, kdivI, kmodL, kmodI, knIL, lN_i, nI_add, pk_mul, pk_sub, pk_subm, kad1, kad2, lN_add, lN_mul, lN_sub, kkl_i, kkl_l, kkl_r, kkl_0, Option.bind_some, Option.toList_some, Option.toList_none, List.cons_append, List.nil_append, if_true, if_false, eq_self, not_true_eq_false, not_false_eq_true, ku2_eq, ku2_ne, pk_us, pk_un, pk_uLs, pk_uLn, kup_Is, kup_In, kup_Js, kup_Jn, ku2_ku2, kup_I, kup_J, knar1, knar0]
  refine Gd_rce (by rw [sp_set, if_pos hsp, tN_nI (by omega)]) ⟨FrC_trans (FrC_r k2 (by omega)) k3, ?_⟩
  rw [ac_set, if_pos hsp, tN_nI (by omega), tN_nI (by omega)]
  exact q3
end CXB
