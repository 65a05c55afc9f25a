/-! OWN: the reference: its state; acts -/
def fU (F : Nat → Nat) (a v : Nat) : Nat → Nat := fun j => if j = a then v else F j
theorem okSp_c {F G : Nat → Nat} (h : okSp F) (e : ∀ j, j = 10 ∨ (16 ≤ j ∧ j < 36) → G j = F j) (h8 : 20 ≤ G 8 ∧ G 8 ≤ 5000) : okSp G := by
  have e10 := e 10 (Or.inl rfl)
  have h10 := h.1
  have e1 : ∀ k, k < F 10 → G (16 + 2 * k) = F (16 + 2 * k) ∧ G (17 + 2 * k) = F (17 + 2 * k) := fun k hk => ⟨e _ (Or.inr ⟨by omega, by omega⟩), e _ (Or.inr ⟨by omega, by omega⟩)⟩
  refine ⟨by omega, fun k hk => ?_, fun j k hjk hk => ?_, h8⟩
  · rw [e10] at hk
    rw [(e1 k hk).1, (e1 k hk).2]
    exact h.2.1 k hk
  · rw [e10] at hk
    rw [(e1 j (by omega)).1, (e1 k hk).1]
    exact h.2.2.1 j k hjk hk
theorem okSt_c {F G : Nat → Nat} (h : okSt F) (e : ∀ j, j = 11 ∨ (36 ≤ j ∧ j < 56) → G j = F j) : okSt G := by
  have e10 := e 11 (Or.inl rfl)
  have h10 := h.1
  refine ⟨by omega, fun k hk => ?_⟩
  rw [e10] at hk
  rw [e _ (Or.inr ⟨by omega, by omega⟩), e _ (Or.inr ⟨by omega, by omega⟩)]
  exact h.2 k hk
theorem knL_c {F G : Nat → Nat} (h9 : F 9 ≤ 200) (e : ∀ j, j = 9 ∨ (276 ≤ j ∧ j < 676) → G j = F j) : knL G = knL F := by
  unfold knL
  rw [e 9 (Or.inl rfl)]
  refine List.map_congr_left (fun j hj => ?_)
  have hj := List.mem_range.mp hj
  rw [e _ (Or.inr ⟨by omega, by omega⟩), e _ (Or.inr ⟨by omega, by omega⟩)]
theorem okN_c {F G : Nat → Nat} (h : okN F) (e : ∀ j, j = 12 ∨ (56 ≤ j ∧ j < 276) → G j = F j) : okN G := by
  have e10 := e 12 (Or.inl rfl)
  have h10 := h.1
  refine ⟨by omega, fun k hk => ?_, fun j k hjk hk => ?_⟩
  · rw [e10] at hk
    rw [e _ (Or.inr ⟨by omega, by omega⟩)]
    refine ⟨(h.2.1 k hk).1, fun m hm => ?_⟩
    rw [e _ (Or.inr ⟨by omega, by omega⟩), e _ (Or.inr ⟨by omega, by omega⟩)]
    exact (h.2.1 k hk).2 m hm
  · rw [e10] at hk
    rw [e _ (Or.inr ⟨by omega, by omega⟩), e _ (Or.inr ⟨by omega, by omega⟩)]
    exact h.2.2 j k hjk hk
theorem okF.n9 {F : Nat → Nat} (h : okF F) : F 9 ≤ 200 := by have := h.2.2.2.1.1; rw [knL_len] at this; exact this
def rPast (i I : tI) (PS : List (Nat → Nat)) : Prop := i 217 3 = nI PS.length ∧ PS.length ≤ 8 ∧ ∀ n j, n < PS.length → j < 676 → I 220 (676 * n + j) = nI ((PS.getD n (fun _ => 0)) j)
def rTape (i I : tI) (T : Nat → Nat) (tc : Nat) : Prop := i 217 5 = nI tc ∧ tc ≤ 240 ∧ ∀ j, j < tc → I 221 j &&& 255 = nI (T j) ∧ T j < 256
def wds : List Nat := [111, 117, 116, 101, 114, 105, 110, 110, 101, 114, 98, 97, 108, 108, 0, 99, 97, 103, 101, 0, 115, 104, 97, 102, 116]
def rWords (I : tI) : Prop := ∀ j, j < 25 → I 241 j = nI (wds.getD j 0)
/-- the reference's state: its file, those that are past, its tape -/
def RInv (i I : tI) (F : Nat → Nat) (PS : List (Nat → Nat)) (T : Nat → Nat) (tc : Nat) : Prop := rFile I F ∧ okF F ∧ rPast i I PS ∧ (∀ G ∈ PS, okF G) ∧ rTape i I T tc ∧ rWords I
/-- the rest of the memory is kept -/
def FrR (i i' : tI) (l l' : tL) (I I' : tI) (J J' : tL) : Prop := (∀ q k, q ≠ 217 → i' q k = i q k) ∧ (∀ q k, q ≠ 217 → l' q k = l q k) ∧ (∀ q, q < 217 → I' q = I q) ∧ ∀ q, q < 217 → J' q = J q
theorem FrR_of {ks ls : List (Nat × Nat)} {qs : List Nat} {i i' : tI} {l l' : tL} {I I' : tI} {J J' : tL} (k : Kp ks ls qs i i' l l' I I' J J') (h1 : ∀ z ∈ ks, z.1 = 217) (h2 : ∀ z ∈ ls, z.1 = 217) (h3 : ∀ z ∈ qs, 217 < z) : FrR i i' l l' I I' J J' :=
  ⟨fun q m hq => k.1 q m (fun z => hq (h1 _ z)), fun q m hq => k.2.1 q m (fun z => hq (h2 _ z)), fun q hq => k.2.2.1 q (fun z => by have := h3 _ z; omega), fun q hq => k.2.2.2 q (fun z => by have := h3 _ z; omega)⟩
theorem FrR_q {i i' : tI} {l l' : tL} {I I' : tI} {J J' : tL} (k : Kq i i' l l' I I' J J') : FrR i i' l l' I I' J J' := ⟨k.1, k.2.2.2.1, fun q hq => k.2.2.2.2.1 q (Or.inl hq), k.2.2.2.2.2⟩
theorem FrR_trans {i i' i2 : tI} {l l' l2 : tL} {I I' I2 : tI} {J J' J2 : tL} (a : FrR i i' l l' I I' J J') (b : FrR i' i2 l' l2 I' I2 J' J2) : FrR i i2 l l2 I I2 J J2 :=
  ⟨fun q m hq => (b.1 q m hq).trans (a.1 q m hq), fun q m hq => (b.2.1 q m hq).trans (a.2.1 q m hq), fun q hq => (b.2.2.1 q hq).trans (a.2.2.1 q hq), fun q hq => (b.2.2.2 q hq).trans (a.2.2.2 q hq)⟩
theorem FrR_refl {i : tI} {l : tL} {I : tI} {J : tL} : FrR i i l l I I J J := ⟨fun _ _ _ => rfl, fun _ _ _ => rfl, fun _ _ => rfl, fun _ _ => rfl⟩
theorem rPast.c {i I i' I' : tI} {PS : List (Nat → Nat)} (h : rPast i I PS) (e1 : i' 217 3 = i 217 3) (e2 : I' 220 = I 220) : rPast i' I' PS := ⟨by rw [e1]; exact h.1, h.2.1, fun n j h1 h2 => by rw [e2]; exact h.2.2 n j h1 h2⟩
theorem rTape.c {i I i' I' : tI} {T : Nat → Nat} {tc : Nat} (h : rTape i I T tc) (e1 : i' 217 5 = i 217 5) (e2 : I' 221 = I 221) : rTape i' I' T tc := ⟨by rw [e1]; exact h.1, h.2.1, fun j h1 => by rw [e2]; exact h.2.2 j h1⟩
theorem rFile.c {I I' : tI} {F : Nat → Nat} (h : rFile I F) (e2 : I' 218 = I 218) : rFile I' F := fun j h1 => by rw [e2]; exact h j h1
theorem rWords.c {I I' : tI} (h : rWords I) (e2 : I' 241 = I 241) : rWords I' := fun j h1 => by rw [e2]; exact h j h1
theorem RInv.q {i i' : tI} {l l' : tL} {I I' : tI} {J J' : tL} {F : Nat → Nat} {PS : List (Nat → Nat)} {T : Nat → Nat} {tc : Nat} (h : RInv i I F PS T tc) (k : Kq i i' l l' I I' J J') : RInv i' I' F PS T tc := by
  obtain ⟨h1, h2, h3, h4, h5, h6⟩ := h
  exact ⟨h1.c (k.2.2.2.2.1 _ (by omega)), h2, h3.c k.2.1 (k.2.2.2.2.1 _ (by omega)), h4, h5.c k.2.2.1 (k.2.2.2.2.1 _ (by omega)), h6.c (k.2.2.2.2.1 _ (by omega))⟩
def psh (PS : List (Nat → Nat)) (F : Nat → Nat) : List (Nat → Nat) := (if PS.length = 8 then PS.tail else PS) ++ [F]
/-- what an act leaves: a new file, or all as it was -/
def aT (o : Option (Nat → Nat)) (F : Nat → Nat) (PS : List (Nat → Nat)) : (Nat → Nat) × List (Nat → Nat) := match o with
  | none => (F, PS)
  | some G => (G, psh PS F)
theorem rF_upd {f : Nat → Int32} {F : Nat → Nat} {a v : Nat} (h : ∀ j, j < 676 → f j = nI (F j)) : ∀ j, j < 676 → upd f a (nI v) j = nI (fU F a v j) := fun j hj => by
  unfold upd fU
  split
  · rfl
  · exact h j hj
theorem psh_ok {PS : List (Nat → Nat)} {F : Nat → Nat} (h : ∀ G ∈ PS, okF G) (hF : okF F) : ∀ G ∈ psh PS F, okF G := fun G hG => by
  unfold psh at hG
  rcases List.mem_append.mp hG with z | z
  · split at z
    · exact h G (List.mem_of_mem_tail z)
    · exact h G z
  · rw [List.mem_singleton.mp z]; exact hF
theorem psh_len {PS : List (Nat → Nat)} {F : Nat → Nat} (h : PS.length ≤ 8) : (psh PS F).length = min PS.length 7 + 1 := by
  unfold psh
  split
  · rename_i e; simp [e]
  · simp; omega
section RG2
variable {d : Nat} {h : kH} {i : tI} {l : tL} {I : tI} {J : tL} {nw df : Nat} {P : Nat → Nat}
theorem r_rememG {F : Nat → Nat} {PS : List (Nat → Nat)} (hF : rFile I F) (hp : rPast i I PS) : Gd (rn (d + 1) mX12_remembers [.ref 217] (mH h i l I J nw df P)) (Rt h nw df P none fun i' l' I' J' => Kp [(217, 3)] [] [220] i i' l l' I I' J J' ∧ rPast i' I' (psh PS F)) := by
  obtain ⟨h1, h2, h3⟩ := hp
  refine Gd_of (r_remembers h2 h1) ⟨_, _, _, _, rfl, ?_, ?_, ?_, ?_⟩
  · (repeat (first | exact Kp_refl | refine Kp_i ?_ (by decide) | refine Kp_l ?_ (by decide) | refine Kp_I ?_ (by decide) | refine Kp_J ?_ (by decide) | exact Kp_refl))
  · rw [ku2_eq, psh_len h2]
  · rw [psh_len h2]; omega
  · intro n j hn hj
    rw [psh_len h2] at hn
    rw [kup_Is]
    by_cases h8 : PS.length = 8
    · rw [if_pos h8, psh, if_pos h8]
      by_cases h7 : n = 7
      · subst h7
        rw [paPut, if_pos (by omega), show 676 * 7 + j - 676 * 7 = j by omega, hF j hj]
        congr 1
        have : (PS.tail ++ [F]).getD 7 (fun _ => 0) = F := by
          rw [List.getD_eq_getElem?_getD, List.getElem?_append_right (by simp; omega)]
          simp [h8]
        rw [this]
      · rw [paPut, if_neg (by omega), paShift, if_pos (by omega), show 676 + (676 * n + j) = 676 * (n + 1) + j by omega, h3 (n + 1) j (by omega) hj]
        congr 1
        have : (PS.tail ++ [F]).getD n (fun _ => 0) = PS.getD (n + 1) (fun _ => 0) := by
          rw [List.getD_eq_getElem?_getD, List.getElem?_append_left (by simp; omega), List.getElem?_tail, List.getD_eq_getElem?_getD]
        rw [this]
    · rw [if_neg h8, psh, if_neg h8]
      by_cases h7 : n = PS.length
      · subst h7
        rw [paPut, if_pos (by omega), show 676 * PS.length + j - 676 * PS.length = j by omega, hF j hj]
        congr 1
        have : (PS ++ [F]).getD PS.length (fun _ => 0) = F := by
          rw [List.getD_eq_getElem?_getD, List.getElem?_append_right (by omega)]
          simp
        rw [this]
      · rw [paPut, if_neg (by omega), h3 n j (by omega) hj]
        congr 1
        have : (PS ++ [F]).getD n (fun _ => 0) = PS.getD n (fun _ => 0) := by
          rw [List.getD_eq_getElem?_getD, List.getElem?_append_left (by omega), List.getD_eq_getElem?_getD]
        rw [this]
theorem r_isTurn {x : Int32} : rn (d + 2) mX12_isTurn [.int x] h = some (some (.int (bI (20 ≤ x.toInt ∧ x.toInt ≤ 5000))), h) := by
  rw [X12_isTurn_E]
  conv => lhs; simp (disch := first | assumption | omega | decide | exact bI_or _) only [r_inI, X12_isTurn_0, X12_isTurn_1, X12_isTurn_2, X12_isTurn_5, X12_isTurn_8, X12_isTurn_11_0, X12_isTurn_11_1, X12_isTurn_11, show (20 : Int64) = lN 20 from rfl, show (5000 : Int64) = lN 5000 from rfl, exLt_c1, exLt_c2, exEq_c, exLt_t, exLt_f, exEq_s, exEq_t, exEq_f, exLt_mn, exLt_nm, exEq_mn, exEq_nm, exEq_mm, exEq_xf, exLtL_t, exLtL_f, exEqL_t, exEqL_f, exB_t, exB_f, exSw_t, exSw_f, exSw_0, klz_f, klz_g, kieq_f, kdivL, kdivI, kmodL, kmodI, knIL, lN_i, nI_add, pk_mul, pk_sub, pk_subm, kad1, kad2, lN_add, lN_mul, lN_sub, kkl_i, kkl_l, kkl_r, kkl_0, Option.bind_some, Option.toList_some, Option.toList_none, List.cons_append, List.nil_append, if_true, if_false, eq_self, not_true_eq_false, not_false_eq_true, ku2_eq, ku2_ne, pk_us, pk_un, pk_uLs, pk_uLn, kup_Is, kup_In, kup_Js, kup_Jn, ku2_ku2, kup_I, kup_J, knar1, knar0]
  rfl
abbrev bearOk (x y z : Int32) : Prop := 3 ≤ x.toInt ∧ x.toInt ≤ 30 ∧ 1 ≤ y.toInt ∧ y.toInt ≤ 98 ∧ 2 ≤ z.toInt ∧ z.toInt ≤ 999 ∧ y.toInt < z.toInt
theorem r_isBearing {x y z : Int32} : Gd (rn (d + 2) mX12_isBearing [.int x, .int y, .int z] h) (fun r => r = (some (.int (bI (bearOk x y z))), h)) := by
  rw [X12_isBearing_E]
  conv => arg 1; simp (disch := first | assumption | omega | decide | exact bI_or _) only [r_inI, X12_isBearing_0, X12_isBearing_1, X12_isBearing_2, X12_isBearing_5, X12_isBearing_8, X12_isBearing_11b, X12_isBearing_14, X12_isBearing_15, X12_isBearing_16, X12_isBearing_17, X12_isBearing_20, X12_isBearing_23b, X12_isBearing_26, X12_isBearing_27, X12_isBearing_28, X12_isBearing_31, X12_isBearing_34, X12_isBearing_37b, X12_isBearing_40, X12_isBearing_41, X12_isBearing_42b, X12_isBearing_45, X12_isBearing_46, X12_isBearing_49, X12_isBearing_50_0, X12_isBearing_50_1, X12_isBearing_50, show (3 : Int64) = lN 3 from rfl, show (30 : Int64) = lN 30 from rfl, show (0 : Int32) = nI 0 from rfl, show (1 : Int64) = lN 1 from rfl, show (98 : Int64) = lN 98 from rfl, show (2 : Int64) = lN 2 from rfl, show (999 : Int64) = lN 999 from rfl, show (1 : Int32) = nI 1 from rfl, exLt_c1, exLt_c2, exEq_c, exLt_t, exLt_f, exEq_s, exEq_t, exEq_f, exLt_mn, exLt_nm, exEq_mn, exEq_nm, exEq_mm, exEq_xf, exLtL_t, exLtL_f, exEqL_t, exEqL_f, exB_t, exB_f, exSw_t, exSw_f, exSw_0, klz_f, klz_g, kieq_f, kdivL, kdivI, kmodL, kmodI, knIL, lN_i, nI_add, pk_mul, pk_sub, pk_subm, kad1, kad2, lN_add, lN_mul, lN_sub, kkl_i, kkl_l, kkl_r, kkl_0, Option.bind_some, Option.toList_some, Option.toList_none, List.cons_append, List.nil_append, if_true, if_false, eq_self, not_true_eq_false, not_false_eq_true, ku2_eq, ku2_ne, pk_us, pk_un, pk_uLs, pk_uLn, kup_Is, kup_In, kup_Js, kup_Jn, ku2_ku2, kup_I, kup_J, knar1, knar0]
  refine Gd_b (fun c1 => ?_) (fun c1 => ?_)
  case refine_2 =>
    conv => arg 1; simp (disch := first | assumption | omega | decide | exact bI_or _) only [X12_isBearing_0, X12_isBearing_1, X12_isBearing_2, X12_isBearing_5, X12_isBearing_8, X12_isBearing_11b, X12_isBearing_14, X12_isBearing_15, X12_isBearing_16, X12_isBearing_17, X12_isBearing_20, X12_isBearing_23b, X12_isBearing_26, X12_isBearing_27, X12_isBearing_28, X12_isBearing_31, X12_isBearing_34, X12_isBearing_37b, X12_isBearing_40, X12_isBearing_41, X12_isBearing_42b, X12_isBearing_45, X12_isBearing_46, X12_isBearing_49, X12_isBearing_50_0, X12_isBearing_50_1, X12_isBearing_50, show (3 : Int64) = lN 3 from rfl, show (30 : Int64) = lN 30 from rfl, show (0 : Int32) = nI 0 from rfl, show (1 : Int64) = lN 1 from rfl, show (98 : Int64) = lN 98 from rfl, show (2 : Int64) = lN 2 from rfl, show (999 : Int64) = lN 999 from rfl, show (1 : Int32) = nI 1 from rfl, exLt_c1, exLt_c2, exEq_c, exLt_t, exLt_f, exEq_s, exEq_t, exEq_f, exLt_mn, exLt_nm, exEq_mn, exEq_nm, exEq_mm, exEq_xf, exLtL_t, exLtL_f, exEqL_t, exEqL_f, exB_t, exB_f, exSw_t, exSw_f, exSw_0, klz_f, klz_g, kieq_f, kdivL, kdivI, kmodL, kmodI, knIL, lN_i, nI_add, pk_mul, pk_sub, pk_subm, kad1, kad2, lN_add, lN_mul, lN_sub, kkl_i, kkl_l, kkl_r, kkl_0, Option.bind_some, Option.toList_some, Option.toList_none, List.cons_append, List.nil_append, if_true, if_false, eq_self, not_true_eq_false, not_false_eq_true, ku2_eq, ku2_ne, pk_us, pk_un, pk_uLs, pk_uLn, kup_Is, kup_In, kup_Js, kup_Jn, ku2_ku2, kup_I, kup_J, knar1, knar0]
    exact Gd_ret (by rw [bI_f (fun c => c1 ⟨c.1, c.2.1⟩)]; rfl)
  conv => arg 1; simp (disch := first | assumption | omega | decide | exact bI_or _) only [r_inI, X12_isBearing_0, X12_isBearing_1, X12_isBearing_2, X12_isBearing_5, X12_isBearing_8, X12_isBearing_11b, X12_isBearing_14, X12_isBearing_15, X12_isBearing_16, X12_isBearing_17, X12_isBearing_20, X12_isBearing_23b, X12_isBearing_26, X12_isBearing_27, X12_isBearing_28, X12_isBearing_31, X12_isBearing_34, X12_isBearing_37b, X12_isBearing_40, X12_isBearing_41, X12_isBearing_42b, X12_isBearing_45, X12_isBearing_46, X12_isBearing_49, X12_isBearing_50_0, X12_isBearing_50_1, X12_isBearing_50, show (3 : Int64) = lN 3 from rfl, show (30 : Int64) = lN 30 from rfl, show (0 : Int32) = nI 0 from rfl, show (1 : Int64) = lN 1 from rfl, show (98 : Int64) = lN 98 from rfl, show (2 : Int64) = lN 2 from rfl, show (999 : Int64) = lN 999 from rfl, show (1 : Int32) = nI 1 from rfl, exLt_c1, exLt_c2, exEq_c, exLt_t, exLt_f, exEq_s, exEq_t, exEq_f, exLt_mn, exLt_nm, exEq_mn, exEq_nm, exEq_mm, exEq_xf, exLtL_t, exLtL_f, exEqL_t, exEqL_f, exB_t, exB_f, exSw_t, exSw_f, exSw_0, klz_f, klz_g, kieq_f, kdivL, kdivI, kmodL, kmodI, knIL, lN_i, nI_add, pk_mul, pk_sub, pk_subm, kad1, kad2, lN_add, lN_mul, lN_sub, kkl_i, kkl_l, kkl_r, kkl_0, Option.bind_some, Option.toList_some, Option.toList_none, List.cons_append, List.nil_append, if_true, if_false, eq_self, not_true_eq_false, not_false_eq_true, ku2_eq, ku2_ne, pk_us, pk_un, pk_uLs, pk_uLn, kup_Is, kup_In, kup_Js, kup_Jn, ku2_ku2, kup_I, kup_J, knar1, knar0]
  refine Gd_b (fun c2 => ?_) (fun c2 => ?_)
  case refine_2 =>
    conv => arg 1; simp (disch := first | assumption | omega | decide | exact bI_or _) only [X12_isBearing_0, X12_isBearing_1, X12_isBearing_2, X12_isBearing_5, X12_isBearing_8, X12_isBearing_11b, X12_isBearing_14, X12_isBearing_15, X12_isBearing_16, X12_isBearing_17, X12_isBearing_20, X12_isBearing_23b, X12_isBearing_26, X12_isBearing_27, X12_isBearing_28, X12_isBearing_31, X12_isBearing_34, X12_isBearing_37b, X12_isBearing_40, X12_isBearing_41, X12_isBearing_42b, X12_isBearing_45, X12_isBearing_46, X12_isBearing_49, X12_isBearing_50_0, X12_isBearing_50_1, X12_isBearing_50, show (3 : Int64) = lN 3 from rfl, show (30 : Int64) = lN 30 from rfl, show (0 : Int32) = nI 0 from rfl, show (1 : Int64) = lN 1 from rfl, show (98 : Int64) = lN 98 from rfl, show (2 : Int64) = lN 2 from rfl, show (999 : Int64) = lN 999 from rfl, show (1 : Int32) = nI 1 from rfl, exLt_c1, exLt_c2, exEq_c, exLt_t, exLt_f, exEq_s, exEq_t, exEq_f, exLt_mn, exLt_nm, exEq_mn, exEq_nm, exEq_mm, exEq_xf, exLtL_t, exLtL_f, exEqL_t, exEqL_f, exB_t, exB_f, exSw_t, exSw_f, exSw_0, klz_f, klz_g, kieq_f, kdivL, kdivI, kmodL, kmodI, knIL, lN_i, nI_add, pk_mul, pk_sub, pk_subm, kad1, kad2, lN_add, lN_mul, lN_sub, kkl_i, kkl_l, kkl_r, kkl_0, Option.bind_some, Option.toList_some, Option.toList_none, List.cons_append, List.nil_append, if_true, if_false, eq_self, not_true_eq_false, not_false_eq_true, ku2_eq, ku2_ne, pk_us, pk_un, pk_uLs, pk_uLn, kup_Is, kup_In, kup_Js, kup_Jn, ku2_ku2, kup_I, kup_J, knar1, knar0]
    exact Gd_ret (by rw [bI_f (fun c => c2 ⟨c.2.2.1, c.2.2.2.1⟩)]; rfl)
  conv => arg 1; simp (disch := first | assumption | omega | decide | exact bI_or _) only [r_inI, X12_isBearing_0, X12_isBearing_1, X12_isBearing_2, X12_isBearing_5, X12_isBearing_8, X12_isBearing_11b, X12_isBearing_14, X12_isBearing_15, X12_isBearing_16, X12_isBearing_17, X12_isBearing_20, X12_isBearing_23b, X12_isBearing_26, X12_isBearing_27, X12_isBearing_28, X12_isBearing_31, X12_isBearing_34, X12_isBearing_37b, X12_isBearing_40, X12_isBearing_41, X12_isBearing_42b, X12_isBearing_45, X12_isBearing_46, X12_isBearing_49, X12_isBearing_50_0, X12_isBearing_50_1, X12_isBearing_50, show (3 : Int64) = lN 3 from rfl, show (30 : Int64) = lN 30 from rfl, show (0 : Int32) = nI 0 from rfl, show (1 : Int64) = lN 1 from rfl, show (98 : Int64) = lN 98 from rfl, show (2 : Int64) = lN 2 from rfl, show (999 : Int64) = lN 999 from rfl, show (1 : Int32) = nI 1 from rfl, exLt_c1, exLt_c2, exEq_c, exLt_t, exLt_f, exEq_s, exEq_t, exEq_f, exLt_mn, exLt_nm, exEq_mn, exEq_nm, exEq_mm, exEq_xf, exLtL_t, exLtL_f, exEqL_t, exEqL_f, exB_t, exB_f, exSw_t, exSw_f, exSw_0, klz_f, klz_g, kieq_f, kdivL, kdivI, kmodL, kmodI, knIL, lN_i, nI_add, pk_mul, pk_sub, pk_subm, kad1, kad2, lN_add, lN_mul, lN_sub, kkl_i, kkl_l, kkl_r, kkl_0, Option.bind_some, Option.toList_some, Option.toList_none, List.cons_append, List.nil_append, if_true, if_false, eq_self, not_true_eq_false, not_false_eq_true, ku2_eq, ku2_ne, pk_us, pk_un, pk_uLs, pk_uLn, kup_Is, kup_In, kup_Js, kup_Jn, ku2_ku2, kup_I, kup_J, knar1, knar0]
  refine Gd_b (fun c3 => ?_) (fun c3 => ?_)
  case refine_2 =>
    conv => arg 1; simp (disch := first | assumption | omega | decide | exact bI_or _) only [X12_isBearing_0, X12_isBearing_1, X12_isBearing_2, X12_isBearing_5, X12_isBearing_8, X12_isBearing_11b, X12_isBearing_14, X12_isBearing_15, X12_isBearing_16, X12_isBearing_17, X12_isBearing_20, X12_isBearing_23b, X12_isBearing_26, X12_isBearing_27, X12_isBearing_28, X12_isBearing_31, X12_isBearing_34, X12_isBearing_37b, X12_isBearing_40, X12_isBearing_41, X12_isBearing_42b, X12_isBearing_45, X12_isBearing_46, X12_isBearing_49, X12_isBearing_50_0, X12_isBearing_50_1, X12_isBearing_50, show (3 : Int64) = lN 3 from rfl, show (30 : Int64) = lN 30 from rfl, show (0 : Int32) = nI 0 from rfl, show (1 : Int64) = lN 1 from rfl, show (98 : Int64) = lN 98 from rfl, show (2 : Int64) = lN 2 from rfl, show (999 : Int64) = lN 999 from rfl, show (1 : Int32) = nI 1 from rfl, exLt_c1, exLt_c2, exEq_c, exLt_t, exLt_f, exEq_s, exEq_t, exEq_f, exLt_mn, exLt_nm, exEq_mn, exEq_nm, exEq_mm, exEq_xf, exLtL_t, exLtL_f, exEqL_t, exEqL_f, exB_t, exB_f, exSw_t, exSw_f, exSw_0, klz_f, klz_g, kieq_f, kdivL, kdivI, kmodL, kmodI, knIL, lN_i, nI_add, pk_mul, pk_sub, pk_subm, kad1, kad2, lN_add, lN_mul, lN_sub, kkl_i, kkl_l, kkl_r, kkl_0, Option.bind_some, Option.toList_some, Option.toList_none, List.cons_append, List.nil_append, if_true, if_false, eq_self, not_true_eq_false, not_false_eq_true, ku2_eq, ku2_ne, pk_us, pk_un, pk_uLs, pk_uLn, kup_Is, kup_In, kup_Js, kup_Jn, ku2_ku2, kup_I, kup_J, knar1, knar0]
    exact Gd_ret (by rw [bI_f (fun c => c3 ⟨c.2.2.2.2.1, c.2.2.2.2.2.1⟩)]; rfl)
  conv => arg 1; simp (disch := first | assumption | omega | decide | exact bI_or _) only [X12_isBearing_0, X12_isBearing_1, X12_isBearing_2, X12_isBearing_5, X12_isBearing_8, X12_isBearing_11b, X12_isBearing_14, X12_isBearing_15, X12_isBearing_16, X12_isBearing_17, X12_isBearing_20, X12_isBearing_23b, X12_isBearing_26, X12_isBearing_27, X12_isBearing_28, X12_isBearing_31, X12_isBearing_34, X12_isBearing_37b, X12_isBearing_40, X12_isBearing_41, X12_isBearing_42b, X12_isBearing_45, X12_isBearing_46, X12_isBearing_49, X12_isBearing_50_0, X12_isBearing_50_1, X12_isBearing_50, show (3 : Int64) = lN 3 from rfl, show (30 : Int64) = lN 30 from rfl, show (0 : Int32) = nI 0 from rfl, show (1 : Int64) = lN 1 from rfl, show (98 : Int64) = lN 98 from rfl, show (2 : Int64) = lN 2 from rfl, show (999 : Int64) = lN 999 from rfl, show (1 : Int32) = nI 1 from rfl, exLt_c1, exLt_c2, exEq_c, exLt_t, exLt_f, exEq_s, exEq_t, exEq_f, exLt_mn, exLt_nm, exEq_mn, exEq_nm, exEq_mm, exEq_xf, exLtL_t, exLtL_f, exEqL_t, exEqL_f, exB_t, exB_f, exSw_t, exSw_f, exSw_0, klz_f, klz_g, kieq_f, kdivL, kdivI, kmodL, kmodI, knIL, lN_i, nI_add, pk_mul, pk_sub, pk_subm, kad1, kad2, lN_add, lN_mul, lN_sub, kkl_i, kkl_l, kkl_r, kkl_0, Option.bind_some, Option.toList_some, Option.toList_none, List.cons_append, List.nil_append, if_true, if_false, eq_self, not_true_eq_false, not_false_eq_true, ku2_eq, ku2_ne, pk_us, pk_un, pk_uLs, pk_uLn, kup_Is, kup_In, kup_Js, kup_Jn, ku2_ku2, kup_I, kup_J, knar1, knar0]
  refine Gd_ltI (fun c4 => ?_) (fun c4 => ?_)
  · conv => arg 1; simp (disch := first | assumption | omega | decide | exact bI_or _) only [X12_isBearing_0, X12_isBearing_1, X12_isBearing_2, X12_isBearing_5, X12_isBearing_8, X12_isBearing_11b, X12_isBearing_14, X12_isBearing_15, X12_isBearing_16, X12_isBearing_17, X12_isBearing_20, X12_isBearing_23b, X12_isBearing_26, X12_isBearing_27, X12_isBearing_28, X12_isBearing_31, X12_isBearing_34, X12_isBearing_37b, X12_isBearing_40, X12_isBearing_41, X12_isBearing_42b, X12_isBearing_45, X12_isBearing_46, X12_isBearing_49, X12_isBearing_50_0, X12_isBearing_50_1, X12_isBearing_50, show (3 : Int64) = lN 3 from rfl, show (30 : Int64) = lN 30 from rfl, show (0 : Int32) = nI 0 from rfl, show (1 : Int64) = lN 1 from rfl, show (98 : Int64) = lN 98 from rfl, show (2 : Int64) = lN 2 from rfl, show (999 : Int64) = lN 999 from rfl, show (1 : Int32) = nI 1 from rfl, exLt_c1, exLt_c2, exEq_c, exLt_t, exLt_f, exEq_s, exEq_t, exEq_f, exLt_mn, exLt_nm, exEq_mn, exEq_nm, exEq_mm, exEq_xf, exLtL_t, exLtL_f, exEqL_t, exEqL_f, exB_t, exB_f, exSw_t, exSw_f, exSw_0, klz_f, klz_g, kieq_f, kdivL, kdivI, kmodL, kmodI, knIL, lN_i, nI_add, pk_mul, pk_sub, pk_subm, kad1, kad2, lN_add, lN_mul, lN_sub, kkl_i, kkl_l, kkl_r, kkl_0, Option.bind_some, Option.toList_some, Option.toList_none, List.cons_append, List.nil_append, if_true, if_false, eq_self, not_true_eq_false, not_false_eq_true, ku2_eq, ku2_ne, pk_us, pk_un, pk_uLs, pk_uLn, kup_Is, kup_In, kup_Js, kup_Jn, ku2_ku2, kup_I, kup_J, knar1, knar0]
    exact Gd_ret (by rw [bI_t ⟨c1.1, c1.2, c2.1, c2.2, c3.1, c3.2, c4⟩]; rfl)
  · conv => arg 1; simp (disch := first | assumption | omega | decide | exact bI_or _) only [X12_isBearing_0, X12_isBearing_1, X12_isBearing_2, X12_isBearing_5, X12_isBearing_8, X12_isBearing_11b, X12_isBearing_14, X12_isBearing_15, X12_isBearing_16, X12_isBearing_17, X12_isBearing_20, X12_isBearing_23b, X12_isBearing_26, X12_isBearing_27, X12_isBearing_28, X12_isBearing_31, X12_isBearing_34, X12_isBearing_37b, X12_isBearing_40, X12_isBearing_41, X12_isBearing_42b, X12_isBearing_45, X12_isBearing_46, X12_isBearing_49, X12_isBearing_50_0, X12_isBearing_50_1, X12_isBearing_50, show (3 : Int64) = lN 3 from rfl, show (30 : Int64) = lN 30 from rfl, show (0 : Int32) = nI 0 from rfl, show (1 : Int64) = lN 1 from rfl, show (98 : Int64) = lN 98 from rfl, show (2 : Int64) = lN 2 from rfl, show (999 : Int64) = lN 999 from rfl, show (1 : Int32) = nI 1 from rfl, exLt_c1, exLt_c2, exEq_c, exLt_t, exLt_f, exEq_s, exEq_t, exEq_f, exLt_mn, exLt_nm, exEq_mn, exEq_nm, exEq_mm, exEq_xf, exLtL_t, exLtL_f, exEqL_t, exEqL_f, exB_t, exB_f, exSw_t, exSw_f, exSw_0, klz_f, klz_g, kieq_f, kdivL, kdivI, kmodL, kmodI, knIL, lN_i, nI_add, pk_mul, pk_sub, pk_subm, kad1, kad2, lN_add, lN_mul, lN_sub, kkl_i, kkl_l, kkl_r, kkl_0, Option.bind_some, Option.toList_some, Option.toList_none, List.cons_append, List.nil_append, if_true, if_false, eq_self, not_true_eq_false, not_false_eq_true, ku2_eq, ku2_ne, pk_us, pk_un, pk_uLs, pk_uLn, kup_Is, kup_In, kup_Js, kup_Jn, ku2_ku2, kup_I, kup_J, knar1, knar0]
    exact Gd_ret (by rw [bI_f (fun c => by have := c.2.2.2.2.2.2; omega)]; rfl)
end RG2
def sp_turn (F : Nat → Nat) (x : Int32) : Int32 := if 20 ≤ x.toInt ∧ x.toInt ≤ 5000 then nI (F 8) else mI 1
def ac_turn (F : Nat → Nat) (x : Int32) : Option (Nat → Nat) := if 20 ≤ x.toInt ∧ x.toInt ≤ 5000 then some (fU F 8 (tN x)) else none
def sp_bearing (x y z : Int32) : Int32 := if bearOk x y z then nI 0 else mI 1
def ac_bearing (F : Nat → Nat) (x y z : Int32) : Option (Nat → Nat) := if bearOk x y z then some (fU (fU (fU F 5 (tN x)) 6 (tN y)) 7 (tN z)) else none
def setHi (a : Nat) : Nat := if a = 0 then 490 else if a = 1 then 50 else if a = 2 then 5 else if a = 3 then 50 else 1000
def setLo (a : Nat) : Nat := if a = 3 then 2 else 0
abbrev setOk (x v : Int32) : Prop := inR x 5 ∧ (setLo (tN x) : Int) ≤ v.toInt ∧ v.toInt ≤ setHi (tN x)
def sp_set (F : Nat → Nat) (x v : Int32) : Int32 := if setOk x v then nI (F (tN x)) else mI 1
def ac_set (F : Nat → Nat) (x v : Int32) : Option (Nat → Nat) := if setOk x v then some (fU F (tN x) (tN v)) else none
theorem ok_turn {F : Nat → Nat} (ok : okF F) {v : Nat} (h : 20 ≤ v ∧ v ≤ 5000) : okF (fU F 8 v) := by
  obtain ⟨h1, h2, h3, h4, h5, h6⟩ := ok
  have n9 : F 9 ≤ 200 := by have := h4.1; rw [knL_len] at this; exact this
  exact ⟨okSp_c h1 (fun j hj => if_neg (by omega)) h, h2, okSt_c h3 (fun j hj => if_neg (by omega)), by rw [knL_c (G := fU F 8 v) n9 (fun j hj => if_neg (by omega))]; exact h4, h5, okN_c h6 (fun j hj => if_neg (by omega))⟩
theorem ok_bearing {F : Nat → Nat} (ok : okF F) {a b c : Nat} (h : 3 ≤ a ∧ a ≤ 30 ∧ 1 ≤ b ∧ b ≤ 98 ∧ b < c ∧ c ≤ 999) : okF (fU (fU (fU F 5 a) 6 b) 7 c) := by
  obtain ⟨h1, h2, h3, h4, h5, h6⟩ := ok
  have n9 : F 9 ≤ 200 := by have := h4.1; rw [knL_len] at this; exact this
  have e : ∀ j, j ≠ 5 → j ≠ 6 → j ≠ 7 → fU (fU (fU F 5 a) 6 b) 7 c j = F j := fun j q1 q2 q3 => by unfold fU; rw [if_neg q3, if_neg q2, if_neg q1]
  exact ⟨okSp_c h1 (fun j hj => e j (by omega) (by omega) (by omega)) h1.2.2.2, h, okSt_c h3 (fun j hj => e j (by omega) (by omega) (by omega)), by rw [knL_c n9 (fun j hj => e j (by omega) (by omega) (by omega))]; exact h4, h5, okN_c h6 (fun j hj => e j (by omega) (by omega) (by omega))⟩
theorem ok_set {F : Nat → Nat} (ok : okF F) {a v : Nat} (ha : a < 5) (h1 : setLo a ≤ v) (h2 : v ≤ setHi a) : okF (fU F a v) := by
  obtain ⟨h1', h2', h3, h4, h5, h6⟩ := ok
  have n9 : F 9 ≤ 200 := by have := h4.1; rw [knL_len] at this; exact this
  have e8 : fU F a v 8 = F 8 := if_neg (by omega)
  have e5 : fU F a v 5 = F 5 := if_neg (by omega)
  have e6 : fU F a v 6 = F 6 := if_neg (by omega)
  have e7 : fU F a v 7 = F 7 := if_neg (by omega)
  refine ⟨okSp_c h1' (fun j hj => if_neg (by omega)) (by rw [e8]; exact h1'.2.2.2), by unfold okB; rw [e5, e6, e7]; exact h2', okSt_c h3 (fun j hj => if_neg (by omega)), by rw [knL_c (G := fU F a v) n9 (fun j hj => if_neg (by omega))]; exact h4, ?_, okN_c h6 (fun j hj => if_neg (by omega))⟩
  unfold okO at *
  unfold setLo at h1
  unfold setHi at h2
  rcases (show a = 0 ∨ a = 1 ∨ a = 2 ∨ a = 3 ∨ a = 4 by omega) with rfl | rfl | rfl | rfl | rfl <;> simp [fU] at * <;> omega
section RG3
variable {d : Nat} {h : kH} {i : tI} {l : tL} {I : tI} {J : tL} {nw df : Nat} {P : Nat → Nat}
variable {F : Nat → Nat} {PS : List (Nat → Nat)} {T : Nat → Nat} {tc : Nat}
theorem RInv_act {i1 I1 : tI} {l1 : tL} {J1 : tL} {G : Nat → Nat} {f : Nat → Int32} (hR : RInv i I F PS T tc) (k1 : Kp [(217, 3)] [] [220] i i1 l l1 I I1 J J1) (hp : rPast i1 I1 (psh PS F)) (hG : okF G) (hf : ∀ j, j < 676 → f j = nI (G j)) : FrR i i1 l l1 I (va_up I1 218 f) J J1 ∧ RInv i1 (va_up I1 218 f) G (psh PS F) T tc := by
  obtain ⟨h1, h2, h3, h4, h5, h6⟩ := hR
  have k2 : Kp [(217, 3)] [] [218, 220] i i1 l l1 I (va_up I1 218 f) J J1 := Kp_I (Kp_mono k1 (by decide) (by decide) (by decide)) (by decide)
  refine ⟨FrR_of k2 (by decide) (by decide) (by decide), fun j hj => by rw [kup_Is]; exact hf j hj, hG, hp.c rfl (kup_In (by decide)), psh_ok h4 h2, h5.c (k2.1 _ _ (by decide)) (k2.2.2.1 _ (by decide)), h6.c (k2.2.2.1 _ (by decide))⟩
theorem r_turn (hR : RInv i I F PS T tc) (x : Int32) : Gd (rn (d + 3) mX12_turn [.ref 217, .int x] (mH h i l I J nw df P)) (Rt h nw df P (some (.int (sp_turn F x))) fun i' l' I' J' => FrR i i' l l' I I' J J' ∧ RInv i' I' (aT (ac_turn F x) F PS).1 (aT (ac_turn F x) F PS).2 T tc) := by
  have hF := hR.1
  have hf : ∀ j, j < 676 → I 218 j = nI (F j) := hR.1
  rw [X12_turn_E]
  conv => arg 1; simp (disch := first | assumption | omega | decide | exact bI_or _) only [r_isTurn, X12_turn_0, X12_turn_1, X12_turn_4b, X12_turn_7, X12_turn_8, X12_turn_9, X12_turn_10, X12_turn_13, X12_turn_14, X12_turn_17, X12_turn_19, X12_turn_20, X12_turn_21, X12_turn_22, X12_turn_25, X12_turn_27, X12_turn_28, X12_turn_29, X12_turn_30, show (0 : Int32) = nI 0 from rfl, ↓(show (-1 : Int32) = mI 1 from rfl), is_217, g13_0, ln_218, sn_218, show (8 : Int32) = nI 8 from rfl, exLt_c1, exLt_c2, exEq_c, exLt_t, exLt_f, exEq_s, exEq_t, exEq_f, exLt_mn, exLt_nm, exEq_mn, exEq_nm, exEq_mm, exEq_xf, exLtL_t, exLtL_f, exEqL_t, exEqL_f, exB_t, exB_f, exSw_t, exSw_f, exSw_0, klz_f, klz_g, kieq_f, kdivL, kdivI, kmodL, kmodI, knIL, lN_i, nI_add, pk_mul, pk_sub, pk_subm, kad1, kad2, lN_add, lN_mul, lN_sub, kkl_i, kkl_l, kkl_r, kkl_0, Option.bind_some, Option.toList_some, Option.toList_none, List.cons_append, List.nil_append, if_true, if_false, eq_self, not_true_eq_false, not_false_eq_true, ku2_eq, ku2_ne, pk_us, pk_un, pk_uLs, pk_uLn, kup_Is, kup_In, kup_Js, kup_Jn, ku2_ku2, kup_I, kup_J, knar1, knar0]
  refine Gd_b (fun c1 => ?_) (fun c1 => ?_)
  case refine_2 =>
    conv => arg 1; simp (disch := first | assumption | omega | decide | exact bI_or _) only [X12_turn_0, X12_turn_1, X12_turn_4b, X12_turn_7, X12_turn_8, X12_turn_9, X12_turn_10, X12_turn_13, X12_turn_14, X12_turn_17, X12_turn_19, X12_turn_20, X12_turn_21, X12_turn_22, X12_turn_25, X12_turn_27, X12_turn_28, X12_turn_29, X12_turn_30, show (0 : Int32) = nI 0 from rfl, ↓(show (-1 : Int32) = mI 1 from rfl), is_217, g13_0, ln_218, sn_218, show (8 : Int32) = nI 8 from rfl, exLt_c1, exLt_c2, exEq_c, exLt_t, exLt_f, exEq_s, exEq_t, exEq_f, exLt_mn, exLt_nm, exEq_mn, exEq_nm, exEq_mm, exEq_xf, exLtL_t, exLtL_f, exEqL_t, exEqL_f, exB_t, exB_f, exSw_t, exSw_f, exSw_0, klz_f, klz_g, kieq_f, kdivL, kdivI, kmodL, kmodI, knIL, lN_i, nI_add, pk_mul, pk_sub, pk_subm, kad1, kad2, lN_add, lN_mul, lN_sub, kkl_i, kkl_l, kkl_r, kkl_0, Option.bind_some, Option.toList_some, Option.toList_none, List.cons_append, List.nil_append, if_true, if_false, eq_self, not_true_eq_false, not_false_eq_true, ku2_eq, ku2_ne, pk_us, pk_un, pk_uLs, pk_uLn, kup_Is, kup_In, kup_Js, kup_Jn, ku2_ku2, kup_I, kup_J, knar1, knar0]
    exact Gd_rte (by rw [sp_turn, if_neg c1]) ⟨FrR_refl, by rw [ac_turn, if_neg c1]; exact hR⟩
  obtain ⟨a, ha, rfl⟩ := nI_inK (n := 5000) (by omega) c1.2 (by decide)
  conv => arg 1; simp (disch := first | assumption | omega | decide | exact bI_or _) only [X12_turn_0, X12_turn_1, X12_turn_4b, X12_turn_7, X12_turn_8, X12_turn_9, X12_turn_10, X12_turn_13, X12_turn_14, X12_turn_17, X12_turn_19, X12_turn_20, X12_turn_21, X12_turn_22, X12_turn_25, X12_turn_27, X12_turn_28, X12_turn_29, X12_turn_30, show (0 : Int32) = nI 0 from rfl, ↓(show (-1 : Int32) = mI 1 from rfl), is_217, g13_0, ln_218, sn_218, show (8 : Int32) = nI 8 from rfl, exLt_c1, exLt_c2, exEq_c, exLt_t, exLt_f, exEq_s, exEq_t, exEq_f, exLt_mn, exLt_nm, exEq_mn, exEq_nm, exEq_mm, exEq_xf, exLtL_t, exLtL_f, exEqL_t, exEqL_f, exB_t, exB_f, exSw_t, exSw_f, exSw_0, klz_f, klz_g, kieq_f, kdivL, kdivI, kmodL, kmodI, knIL, lN_i, nI_add, pk_mul, pk_sub, pk_subm, kad1, kad2, lN_add, lN_mul, lN_sub, kkl_i, kkl_l, kkl_r, kkl_0, Option.bind_some, Option.toList_some, Option.toList_none, List.cons_append, List.nil_append, if_true, if_false, eq_self, not_true_eq_false, not_false_eq_true, ku2_eq, ku2_ne, pk_us, pk_un, pk_uLs, pk_uLn, kup_Is, kup_In, kup_Js, kup_Jn, ku2_ku2, kup_I, kup_J, knar1, knar0]
  refine Gd_call (r_rememG hF hR.2.2.1) ?_
  intro i1 l1 I1 J1 ⟨k1, hp⟩
  conv => arg 1; simp (disch := first | assumption | omega | decide | exact bI_or _) only [k1.1, k1.2.1, k1.2.2.1, k1.2.2.2, hf, X12_turn_0, X12_turn_1, X12_turn_4b, X12_turn_7, X12_turn_8, X12_turn_9, X12_turn_10, X12_turn_13, X12_turn_14, X12_turn_17, X12_turn_19, X12_turn_20, X12_turn_21, X12_turn_22, X12_turn_25, X12_turn_27, X12_turn_28, X12_turn_29, X12_turn_30, show (0 : Int32) = nI 0 from rfl, ↓(show (-1 : Int32) = mI 1 from rfl), is_217, g13_0, ln_218, sn_218, show (8 : Int32) = nI 8 from rfl, exLt_c1, exLt_c2, exEq_c, exLt_t, exLt_f, exEq_s, exEq_t, exEq_f, exLt_mn, exLt_nm, exEq_mn, exEq_nm, exEq_mm, exEq_xf, exLtL_t, exLtL_f, exEqL_t, exEqL_f, exB_t, exB_f, exSw_t, exSw_f, exSw_0, klz_f, klz_g, kieq_f, kdivL, kdivI, kmodL, kmodI, knIL, lN_i, nI_add, pk_mul, pk_sub, pk_subm, kad1, kad2, lN_add, lN_mul, lN_sub, kkl_i, kkl_l, kkl_r, kkl_0, Option.bind_some, Option.toList_some, Option.toList_none, List.cons_append, List.nil_append, if_true, if_false, eq_self, not_true_eq_false, not_false_eq_true, ku2_eq, ku2_ne, pk_us, pk_un, pk_uLs, pk_uLn, kup_Is, kup_In, kup_Js, kup_Jn, ku2_ku2, kup_I, kup_J, knar1, knar0]
  refine Gd_rte (by rw [sp_turn, if_pos c1]) ?_
  rw [ac_turn, if_pos c1, tN_nI (by omega)]
  rw [nI_toInt (by omega)] at c1
  exact RInv_act hR k1 hp (ok_turn hR.2.1 (by omega)) (rF_upd hf)
theorem r_bearing (hR : RInv i I F PS T tc) (x y z : Int32) : Gd (rn (d + 3) mX12_bearing [.ref 217, .int x, .int y, .int z] (mH h i l I J nw df P)) (Rt h nw df P (some (.int (sp_bearing x y z))) fun i' l' I' J' => FrR i i' l l' I I' J J' ∧ RInv i' I' (aT (ac_bearing F x y z) F PS).1 (aT (ac_bearing F x y z) F PS).2 T tc) := by
  have hF := hR.1
  have hf : ∀ j, j < 676 → I 218 j = nI (F j) := hR.1
  rw [X12_bearing_E]
  conv => arg 1; simp (disch := first | assumption | omega | decide | exact bI_or _) only [X12_bearing_0, X12_bearing_1, X12_bearing_2, X12_bearing_3, X12_bearing_6b, X12_bearing_9, X12_bearing_10, X12_bearing_11, X12_bearing_12, X12_bearing_15, X12_bearing_16, X12_bearing_17, X12_bearing_18, X12_bearing_19, X12_bearing_22, X12_bearing_23, show (0 : Int32) = nI 0 from rfl, ↓(show (-1 : Int32) = mI 1 from rfl), is_217, exLt_c1, exLt_c2, exEq_c, exLt_t, exLt_f, exEq_s, exEq_t, exEq_f, exLt_mn, exLt_nm, exEq_mn, exEq_nm, exEq_mm, exEq_xf, exLtL_t, exLtL_f, exEqL_t, exEqL_f, exB_t, exB_f, exSw_t, exSw_f, exSw_0, klz_f, klz_g, kieq_f, kdivL, kdivI, kmodL, kmodI, knIL, lN_i, nI_add, pk_mul, pk_sub, pk_subm, kad1, kad2, lN_add, lN_mul, lN_sub, kkl_i, kkl_l, kkl_r, kkl_0, Option.bind_some, Option.toList_some, Option.toList_none, List.cons_append, List.nil_append, if_true, if_false, eq_self, not_true_eq_false, not_false_eq_true, ku2_eq, ku2_ne, pk_us, pk_un, pk_uLs, pk_uLn, kup_Is, kup_In, kup_Js, kup_Jn, ku2_ku2, kup_I, kup_J, knar1, knar0]
  refine Gd_bind r_isBearing ?_
  rintro _ rfl
  conv => arg 1; simp (disch := first | assumption | omega | decide | exact bI_or _) only [X12_bearing_0, X12_bearing_1, X12_bearing_2, X12_bearing_3, X12_bearing_6b, X12_bearing_9, X12_bearing_10, X12_bearing_11, X12_bearing_12, X12_bearing_15, X12_bearing_16, X12_bearing_17, X12_bearing_18, X12_bearing_19, X12_bearing_22, X12_bearing_23, show (0 : Int32) = nI 0 from rfl, ↓(show (-1 : Int32) = mI 1 from rfl), is_217, exLt_c1, exLt_c2, exEq_c, exLt_t, exLt_f, exEq_s, exEq_t, exEq_f, exLt_mn, exLt_nm, exEq_mn, exEq_nm, exEq_mm, exEq_xf, exLtL_t, exLtL_f, exEqL_t, exEqL_f, exB_t, exB_f, exSw_t, exSw_f, exSw_0, klz_f, klz_g, kieq_f, kdivL, kdivI, kmodL, kmodI, knIL, lN_i, nI_add, pk_mul, pk_sub, pk_subm, kad1, kad2, lN_add, lN_mul, lN_sub, kkl_i, kkl_l, kkl_r, kkl_0, Option.bind_some, Option.toList_some, Option.toList_none, List.cons_append, List.nil_append, if_true, if_false, eq_self, not_true_eq_false, not_false_eq_true, ku2_eq, ku2_ne, pk_us, pk_un, pk_uLs, pk_uLn, kup_Is, kup_In, kup_Js, kup_Jn, ku2_ku2, kup_I, kup_J, knar1, knar0]
  refine Gd_b (fun c1 => ?_) (fun c1 => ?_)
  case refine_2 =>
    conv => arg 1; simp (disch := first | assumption | omega | decide | exact bI_or _) only [X12_bearing_0, X12_bearing_1, X12_bearing_2, X12_bearing_3, X12_bearing_6b, X12_bearing_9, X12_bearing_10, X12_bearing_11, X12_bearing_12, X12_bearing_15, X12_bearing_16, X12_bearing_17, X12_bearing_18, X12_bearing_19, X12_bearing_22, X12_bearing_23, show (0 : Int32) = nI 0 from rfl, ↓(show (-1 : Int32) = mI 1 from rfl), is_217, exLt_c1, exLt_c2, exEq_c, exLt_t, exLt_f, exEq_s, exEq_t, exEq_f, exLt_mn, exLt_nm, exEq_mn, exEq_nm, exEq_mm, exEq_xf, exLtL_t, exLtL_f, exEqL_t, exEqL_f, exB_t, exB_f, exSw_t, exSw_f, exSw_0, klz_f, klz_g, kieq_f, kdivL, kdivI, kmodL, kmodI, knIL, lN_i, nI_add, pk_mul, pk_sub, pk_subm, kad1, kad2, lN_add, lN_mul, lN_sub, kkl_i, kkl_l, kkl_r, kkl_0, Option.bind_some, Option.toList_some, Option.toList_none, List.cons_append, List.nil_append, if_true, if_false, eq_self, not_true_eq_false, not_false_eq_true, ku2_eq, ku2_ne, pk_us, pk_un, pk_uLs, pk_uLn, kup_Is, kup_In, kup_Js, kup_Jn, ku2_ku2, kup_I, kup_J, knar1, knar0]
    exact Gd_rte (by rw [sp_bearing, if_neg c1]) ⟨FrR_refl, by rw [ac_bearing, if_neg c1]; exact hR⟩
  obtain ⟨b1, b2, b3, b4, b5, b6, b7⟩ := c1
  have c1 : bearOk x y z := ⟨b1, b2, b3, b4, b5, b6, b7⟩
  obtain ⟨a, ha, rfl⟩ := nI_inK (n := 30) (by omega) b2 (by decide)
  obtain ⟨b, hb, rfl⟩ := nI_inK (n := 98) (by omega) b4 (by decide)
  obtain ⟨c, hc, rfl⟩ := nI_inK (n := 999) (by omega) b6 (by decide)
  rw [nI_toInt (by omega)] at b1 b3 b5
  rw [nI_toInt (by omega), nI_toInt (by omega)] at b7
  conv => arg 1; simp (disch := first | assumption | omega | decide | exact bI_or _) only [X12_bearing_0, X12_bearing_1, X12_bearing_2, X12_bearing_3, X12_bearing_6b, X12_bearing_9, X12_bearing_10, X12_bearing_11, X12_bearing_12, X12_bearing_15, X12_bearing_16, X12_bearing_17, X12_bearing_18, X12_bearing_19, X12_bearing_22, X12_bearing_23, show (0 : Int32) = nI 0 from rfl, ↓(show (-1 : Int32) = mI 1 from rfl), is_217, exLt_c1, exLt_c2, exEq_c, exLt_t, exLt_f, exEq_s, exEq_t, exEq_f, exLt_mn, exLt_nm, exEq_mn, exEq_nm, exEq_mm, exEq_xf, exLtL_t, exLtL_f, exEqL_t, exEqL_f, exB_t, exB_f, exSw_t, exSw_f, exSw_0, klz_f, klz_g, kieq_f, kdivL, kdivI, kmodL, kmodI, knIL, lN_i, nI_add, pk_mul, pk_sub, pk_subm, kad1, kad2, lN_add, lN_mul, lN_sub, kkl_i, kkl_l, kkl_r, kkl_0, Option.bind_some, Option.toList_some, Option.toList_none, List.cons_append, List.nil_append, if_true, if_false, eq_self, not_true_eq_false, not_false_eq_true, ku2_eq, ku2_ne, pk_us, pk_un, pk_uLs, pk_uLn, kup_Is, kup_In, kup_Js, kup_Jn, ku2_ku2, kup_I, kup_J, knar1, knar0]
  refine Gd_call (r_rememG hF hR.2.2.1) ?_
  intro i1 l1 I1 J1 ⟨k1, hp⟩
  conv => arg 1; simp (disch := first | assumption | omega | decide | exact bI_or _) only [k1.1, k1.2.1, k1.2.2.1, k1.2.2.2, hf, X12_lays_E, X12_lays_0, X12_lays_1, X12_lays_4, X12_lays_5, X12_lays_6, X12_lays_7, X12_lays_8, X12_lays_11, X12_lays_13, X12_lays_14, X12_lays_15, X12_lays_16, X12_lays_19, X12_lays_21, X12_lays_22, X12_lays_23, g13_0, ln_218, sn_218, show (5 : Int32) = nI 5 from rfl, show (6 : Int32) = nI 6 from rfl, show (7 : Int32) = nI 7 from rfl, exLt_c1, exLt_c2, exEq_c, exLt_t, exLt_f, exEq_s, exEq_t, exEq_f, exLt_mn, exLt_nm, exEq_mn, exEq_nm, exEq_mm, exEq_xf, exLtL_t, exLtL_f, exEqL_t, exEqL_f, exB_t, exB_f, exSw_t, exSw_f, exSw_0, klz_f, klz_g, kieq_f, kdivL, kdivI, kmodL, kmodI, knIL, lN_i, nI_add, pk_mul, pk_sub, pk_subm, kad1, kad2, lN_add, lN_mul, lN_sub, kkl_i, kkl_l, kkl_r, kkl_0, Option.bind_some, Option.toList_some, Option.toList_none, List.cons_append, List.nil_append, if_true, if_false, eq_self, not_true_eq_false, not_false_eq_true, ku2_eq, ku2_ne, pk_us, pk_un, pk_uLs, pk_uLn, kup_Is, kup_In, kup_Js, kup_Jn, ku2_ku2, kup_I, kup_J, knar1, knar0, X12_bearing_0, X12_bearing_1, X12_bearing_2, X12_bearing_3, X12_bearing_6b, X12_bearing_9, X12_bearing_10, X12_bearing_11, X12_bearing_12, X12_bearing_15, X12_bearing_16, X12_bearing_17, X12_bearing_18, X12_bearing_19, X12_bearing_22, X12_bearing_23, show (0 : Int32) = nI 0 from rfl, ↓(show (-1 : Int32) = mI 1 from rfl), is_217, exLt_c1, exLt_c2, exEq_c, exLt_t, exLt_f, exEq_s, exEq_t, exEq_f, exLt_mn, exLt_nm, exEq_mn, exEq_nm, exEq_mm, exEq_xf, exLtL_t, exLtL_f, exEqL_t, exEqL_f, exB_t, exB_f, exSw_t, exSw_f, exSw_0, klz_f, klz_g, kieq_f, kdivL, kdivI, kmodL, kmodI, knIL, lN_i, nI_add, pk_mul, pk_sub, pk_subm, kad1, kad2, lN_add, lN_mul, lN_sub, kkl_i, kkl_l, kkl_r, kkl_0, Option.bind_some, Option.toList_some, Option.toList_none, List.cons_append, List.nil_append, if_true, if_false, eq_self, not_true_eq_false, not_false_eq_true, ku2_eq, ku2_ne, pk_us, pk_un, pk_uLs, pk_uLn, kup_Is, kup_In, kup_Js, kup_Jn, ku2_ku2, kup_I, kup_J, knar1, knar0]
  refine Gd_rte (by rw [sp_bearing, if_pos c1]) ?_
  rw [ac_bearing, if_pos c1, tN_nI (by omega), tN_nI (by omega), tN_nI (by omega)]
  exact RInv_act hR k1 hp (ok_bearing hR.2.1 (by omega)) (rF_upd (rF_upd (rF_upd hf)))
theorem r_set (hR : RInv i I F PS T tc) (x v : Int32) : Gd (rn (d + 2) mX12_set [.ref 217, .int x, .int v] (mH h i l I J nw df P)) (Rt h nw df P (some (.int (sp_set F x v))) fun i' l' I' J' => FrR i i' l l' I I' J J' ∧ RInv i' I' (aT (ac_set F x v) F PS).1 (aT (ac_set F x v) F PS).2 T tc) := by
  have hF := hR.1
  have hf : ∀ j, j < 676 → I 218 j = nI (F j) := hR.1
  have no : ¬ setOk x v → FrR i i l l I I J J ∧ RInv i I (aT (ac_set F x v) F PS).1 (aT (ac_set F x v) F PS).2 T tc := fun c => ⟨FrR_refl, by rw [ac_set, if_neg c]; exact hR⟩
  rw [X12_set_E]
  by_cases c1 : inR x 5
  case neg =>
    have e0 : ¬ x = nI 0 := fun e => c1 (by rw [e]; decide)
    have e1 : ¬ x = nI 1 := fun e => c1 (by rw [e]; decide)
    have e2 : ¬ x = nI 2 := fun e => c1 (by rw [e]; decide)
    have e3 : ¬ x = nI 3 := fun e => c1 (by rw [e]; decide)
    have c2 : ¬ ((0 : Int) ≤ x.toInt ∧ x.toInt ≤ 4) := fun z => c1 ⟨z.1, by have := z.2; omega⟩
    conv => arg 1; simp (disch := first | assumption | omega | decide | exact bI_or _) only [r_inI, X12_set_0, X12_set_1b, X12_set_4, X12_set_7, X12_set_10, X12_set_11, X12_set_12b, X12_set_15, X12_set_16, X12_set_17b, X12_set_20, X12_set_22, X12_set_25, X12_set_26, X12_set_27b, X12_set_30, X12_set_31, X12_set_34, X12_set_37, X12_set_38, X12_set_39, X12_set_40, X12_set_41, X12_set_44, X12_set_47b, X12_set_50, X12_set_51, X12_set_52, X12_set_53, X12_set_54b, X12_set_57, X12_set_60, X12_set_63, X12_set_64, X12_set_65, X12_set_66, X12_set_69b, X12_set_72, X12_set_73, X12_set_74, X12_set_75, X12_set_78, X12_set_79, X12_set_82, X12_set_83, X12_set_84, X12_set_86, X12_set_87, X12_set_90, X12_set_91, X12_set_92, X12_set_93, X12_set_95, show (0 : Int32) = nI 0 from rfl, show (490 : Int32) = nI 490 from rfl, show (1 : Int32) = nI 1 from rfl, show (3 : Int32) = nI 3 from rfl, show (50 : Int32) = nI 50 from rfl, show (2 : Int32) = nI 2 from rfl, show (5 : Int32) = nI 5 from rfl, show (1000 : Int32) = nI 1000 from rfl, show (0 : Int64) = lN 0 from rfl, show (4 : Int64) = lN 4 from rfl, show (2 : Int64) = lN 2 from rfl, ↓(show (-1 : Int32) = mI 1 from rfl), is_217, g13_0, ln_218, sn_218, exLt_c1, exLt_c2, exEq_c, exLt_t, exLt_f, exEq_s, exEq_t, exEq_f, exLt_mn, exLt_nm, exEq_mn, exEq_nm, exEq_mm, exEq_xf, exLtL_t, exLtL_f, exEqL_t, exEqL_f, exB_t, exB_f, exSw_t, exSw_f, exSw_0, klz_f, klz_g, kieq_f, kdivL, kdivI, kmodL, kmodI, knIL, lN_i, nI_add, pk_mul, pk_sub, pk_subm, kad1, kad2, lN_add, lN_mul, lN_sub, kkl_i, kkl_l, kkl_r, kkl_0, Option.bind_some, Option.toList_some, Option.toList_none, List.cons_append, List.nil_append, if_true, if_false, eq_self, not_true_eq_false, not_false_eq_true, ku2_eq, ku2_ne, pk_us, pk_un, pk_uLs, pk_uLn, kup_Is, kup_In, kup_Js, kup_Jn, ku2_ku2, kup_I, kup_J, knar1, knar0]
    exact Gd_rte (by rw [sp_set, if_neg (fun c => c1 c.1)]) (no (fun c => c1 c.1))
  obtain ⟨a, ha, rfl⟩ := inR_of c1 (by decide)
  have hhi : ∀ (w : Nat), setLo a ≤ w → w ≤ setHi a → v = nI w → Gd (ex (d + 1) mX12_set 74 [some (.ref 217), some (.int (nI a)), some (.int (nI w)), some (.int (nI (setHi a))), none] [] (mH h i l I J nw df P)) (Rt h nw df P (some (.int (sp_set F (nI a) v))) fun i' l' I' J' => FrR i i' l l' I I' J J' ∧ RInv i' I' (aT (ac_set F (nI a) v) F PS).1 (aT (ac_set F (nI a) v) F PS).2 T tc) := by
    intro w hw1 hw2 hv
    subst hv
    have hw3 : w < 2147483648 := by unfold setHi at hw2; (repeat' split at hw2) <;> omega
    have c2 : setOk (nI a) (nI w) := ⟨c1, by rw [tN_nI (by omega), nI_toInt hw3]; omega, by rw [tN_nI (by omega), nI_toInt hw3]; omega⟩
    conv => arg 1; simp (disch := first | assumption | omega | decide | exact bI_or _) only [X12_set_0, X12_set_1b, X12_set_4, X12_set_7, X12_set_10, X12_set_11, X12_set_12b, X12_set_15, X12_set_16, X12_set_17b, X12_set_20, X12_set_22, X12_set_25, X12_set_26, X12_set_27b, X12_set_30, X12_set_31, X12_set_34, X12_set_37, X12_set_38, X12_set_39, X12_set_40, X12_set_41, X12_set_44, X12_set_47b, X12_set_50, X12_set_51, X12_set_52, X12_set_53, X12_set_54b, X12_set_57, X12_set_60, X12_set_63, X12_set_64, X12_set_65, X12_set_66, X12_set_69b, X12_set_72, X12_set_73, X12_set_74, X12_set_75, X12_set_78, X12_set_79, X12_set_82, X12_set_83, X12_set_84, X12_set_86, X12_set_87, X12_set_90, X12_set_91, X12_set_92, X12_set_93, X12_set_95, show (0 : Int32) = nI 0 from rfl, show (490 : Int32) = nI 490 from rfl, show (1 : Int32) = nI 1 from rfl, show (3 : Int32) = nI 3 from rfl, show (50 : Int32) = nI 50 from rfl, show (2 : Int32) = nI 2 from rfl, show (5 : Int32) = nI 5 from rfl, show (1000 : Int32) = nI 1000 from rfl, show (0 : Int64) = lN 0 from rfl, show (4 : Int64) = lN 4 from rfl, show (2 : Int64) = lN 2 from rfl, ↓(show (-1 : Int32) = mI 1 from rfl), is_217, g13_0, ln_218, sn_218, exLt_c1, exLt_c2, exEq_c, exLt_t, exLt_f, exEq_s, exEq_t, exEq_f, exLt_mn, exLt_nm, exEq_mn, exEq_nm, exEq_mm, exEq_xf, exLtL_t, exLtL_f, exEqL_t, exEqL_f, exB_t, exB_f, exSw_t, exSw_f, exSw_0, klz_f, klz_g, kieq_f, kdivL, kdivI, kmodL, kmodI, knIL, lN_i, nI_add, pk_mul, pk_sub, pk_subm, kad1, kad2, lN_add, lN_mul, lN_sub, kkl_i, kkl_l, kkl_r, kkl_0, Option.bind_some, Option.toList_some, Option.toList_none, List.cons_append, List.nil_append, if_true, if_false, eq_self, not_true_eq_false, not_false_eq_true, ku2_eq, ku2_ne, pk_us, pk_un, pk_uLs, pk_uLn, kup_Is, kup_In, kup_Js, kup_Jn, ku2_ku2, kup_I, kup_J, knar1, knar0]
    refine Gd_call (r_rememG hF hR.2.2.1) ?_
    intro i1 l1 I1 J1 ⟨k1, hp⟩
    conv => arg 1; simp (disch := first | assumption | omega | decide | exact bI_or _) only [k1.1, k1.2.1, k1.2.2.1, k1.2.2.2, hf, X12_set_0, X12_set_1b, X12_set_4, X12_set_7, X12_set_10, X12_set_11, X12_set_12b, X12_set_15, X12_set_16, X12_set_17b, X12_set_20, X12_set_22, X12_set_25, X12_set_26, X12_set_27b, X12_set_30, X12_set_31, X12_set_34, X12_set_37, X12_set_38, X12_set_39, X12_set_40, X12_set_41, X12_set_44, X12_set_47b, X12_set_50, X12_set_51, X12_set_52, X12_set_53, X12_set_54b, X12_set_57, X12_set_60, X12_set_63, X12_set_64, X12_set_65, X12_set_66, X12_set_69b, X12_set_72, X12_set_73, X12_set_74, X12_set_75, X12_set_78, X12_set_79, X12_set_82, X12_set_83, X12_set_84, X12_set_86, X12_set_87, X12_set_90, X12_set_91, X12_set_92, X12_set_93, X12_set_95, show (0 : Int32) = nI 0 from rfl, show (490 : Int32) = nI 490 from rfl, show (1 : Int32) = nI 1 from rfl, show (3 : Int32) = nI 3 from rfl, show (50 : Int32) = nI 50 from rfl, show (2 : Int32) = nI 2 from rfl, show (5 : Int32) = nI 5 from rfl, show (1000 : Int32) = nI 1000 from rfl, show (0 : Int64) = lN 0 from rfl, show (4 : Int64) = lN 4 from rfl, show (2 : Int64) = lN 2 from rfl, ↓(show (-1 : Int32) = mI 1 from rfl), is_217, g13_0, ln_218, sn_218, exLt_c1, exLt_c2, exEq_c, exLt_t, exLt_f, exEq_s, exEq_t, exEq_f, exLt_mn, exLt_nm, exEq_mn, exEq_nm, exEq_mm, exEq_xf, exLtL_t, exLtL_f, exEqL_t, exEqL_f, exB_t, exB_f, exSw_t, exSw_f, exSw_0, klz_f, klz_g, kieq_f, kdivL, kdivI, kmodL, kmodI, knIL, lN_i, nI_add, pk_mul, pk_sub, pk_subm, kad1, kad2, lN_add, lN_mul, lN_sub, kkl_i, kkl_l, kkl_r, kkl_0, Option.bind_some, Option.toList_some, Option.toList_none, List.cons_append, List.nil_append, if_true, if_false, eq_self, not_true_eq_false, not_false_eq_true, ku2_eq, ku2_ne, pk_us, pk_un, pk_uLs, pk_uLn, kup_Is, kup_In, kup_Js, kup_Jn, ku2_ku2, kup_I, kup_J, knar1, knar0]
    refine Gd_rte (by rw [sp_set, if_pos c2, tN_nI (by omega)]) ?_
    rw [ac_set, if_pos c2, tN_nI (by omega), tN_nI hw3]
    exact RInv_act hR k1 hp (ok_set hR.2.1 ha hw1 hw2) (rF_upd hf)
  rcases (show a = 0 ∨ a = 1 ∨ a = 2 ∨ a = 3 ∨ a = 4 by omega) with rfl | rfl | rfl | rfl | rfl <;> (
    conv => arg 1; simp (disch := first | assumption | omega | decide | exact bI_or _) only [r_inI, r_inN, X12_set_0, X12_set_1b, X12_set_4, X12_set_7, X12_set_10, X12_set_11, X12_set_12b, X12_set_15, X12_set_16, X12_set_17b, X12_set_20, X12_set_22, X12_set_25, X12_set_26, X12_set_27b, X12_set_30, X12_set_31, X12_set_34, X12_set_37, X12_set_38, X12_set_39, X12_set_40, X12_set_41, X12_set_44, X12_set_47b, X12_set_50, X12_set_51, X12_set_52, X12_set_53, X12_set_54b, X12_set_57, X12_set_60, X12_set_63, X12_set_64, X12_set_65, X12_set_66, X12_set_69b, X12_set_72, X12_set_73, X12_set_75, X12_set_78, X12_set_79, X12_set_82, X12_set_83, X12_set_84, X12_set_86, X12_set_87, X12_set_90, X12_set_91, X12_set_92, X12_set_93, X12_set_95, show (0 : Int32) = nI 0 from rfl, show (490 : Int32) = nI 490 from rfl, show (1 : Int32) = nI 1 from rfl, show (3 : Int32) = nI 3 from rfl, show (50 : Int32) = nI 50 from rfl, show (2 : Int32) = nI 2 from rfl, show (5 : Int32) = nI 5 from rfl, show (1000 : Int32) = nI 1000 from rfl, show (0 : Int64) = lN 0 from rfl, show (4 : Int64) = lN 4 from rfl, show (2 : Int64) = lN 2 from rfl, ↓(show (-1 : Int32) = mI 1 from rfl), is_217, g13_0, ln_218, sn_218, exLt_c1, exLt_c2, exEq_c, exLt_t, exLt_f, exEq_s, exEq_t, exEq_f, exLt_mn, exLt_nm, exEq_mn, exEq_nm, exEq_mm, exEq_xf, exLtL_t, exLtL_f, exEqL_t, exEqL_f, exB_t, exB_f, exSw_t, exSw_f, exSw_0, klz_f, klz_g, kieq_f, kdivL, kdivI, kmodL, kmodI, knIL, lN_i, nI_add, pk_mul, pk_sub, pk_subm, kad1, kad2, lN_add, lN_mul, lN_sub, kkl_i, kkl_l, kkl_r, kkl_0, Option.bind_some, Option.toList_some, Option.toList_none, List.cons_append, List.nil_append, if_true, if_false, eq_self, not_true_eq_false, not_false_eq_true, ku2_eq, ku2_ne, pk_us, pk_un, pk_uLs, pk_uLn, kup_Is, kup_In, kup_Js, kup_Jn, ku2_ku2, kup_I, kup_J, knar1, knar0]
    refine Gd_b (fun c2 => ?_) (fun c2 => ?_)
    · obtain ⟨w, hw, e⟩ := nI_inK (x := v) (by omega) c2.2 (by decide)
      rw [e, nI_toInt (by omega)] at c2
      have := hhi w (by simp [setLo] <;> omega) (by simp [setHi] <;> omega) e
      rw [e]
      rw [e] at this
      exact this
    · conv => arg 1; simp (disch := first | assumption | omega | decide | exact bI_or _) only [X12_set_0, X12_set_1b, X12_set_4, X12_set_7, X12_set_10, X12_set_11, X12_set_12b, X12_set_15, X12_set_16, X12_set_17b, X12_set_20, X12_set_22, X12_set_25, X12_set_26, X12_set_27b, X12_set_30, X12_set_31, X12_set_34, X12_set_37, X12_set_38, X12_set_39, X12_set_40, X12_set_41, X12_set_44, X12_set_47b, X12_set_50, X12_set_51, X12_set_52, X12_set_53, X12_set_54b, X12_set_57, X12_set_60, X12_set_63, X12_set_64, X12_set_65, X12_set_66, X12_set_69b, X12_set_72, X12_set_73, X12_set_75, X12_set_78, X12_set_79, X12_set_82, X12_set_83, X12_set_84, X12_set_86, X12_set_87, X12_set_90, X12_set_91, X12_set_92, X12_set_93, X12_set_95, show (0 : Int32) = nI 0 from rfl, show (490 : Int32) = nI 490 from rfl, show (1 : Int32) = nI 1 from rfl, show (3 : Int32) = nI 3 from rfl, show (50 : Int32) = nI 50 from rfl, show (2 : Int32) = nI 2 from rfl, show (5 : Int32) = nI 5 from rfl, show (1000 : Int32) = nI 1000 from rfl, show (0 : Int64) = lN 0 from rfl, show (4 : Int64) = lN 4 from rfl, show (2 : Int64) = lN 2 from rfl, ↓(show (-1 : Int32) = mI 1 from rfl), is_217, g13_0, ln_218, sn_218, exLt_c1, exLt_c2, exEq_c, exLt_t, exLt_f, exEq_s, exEq_t, exEq_f, exLt_mn, exLt_nm, exEq_mn, exEq_nm, exEq_mm, exEq_xf, exLtL_t, exLtL_f, exEqL_t, exEqL_f, exB_t, exB_f, exSw_t, exSw_f, exSw_0, klz_f, klz_g, kieq_f, kdivL, kdivI, kmodL, kmodI, knIL, lN_i, nI_add, pk_mul, pk_sub, pk_subm, kad1, kad2, lN_add, lN_mul, lN_sub, kkl_i, kkl_l, kkl_r, kkl_0, Option.bind_some, Option.toList_some, Option.toList_none, List.cons_append, List.nil_append, if_true, if_false, eq_self, not_true_eq_false, not_false_eq_true, ku2_eq, ku2_ne, pk_us, pk_un, pk_uLs, pk_uLn, kup_Is, kup_In, kup_Js, kup_Jn, ku2_ku2, kup_I, kup_J, knar1, knar0]
      exact Gd_rte (by rw [sp_set, if_neg (fun c => c2 c.2)]) (no (fun c => c2 c.2)))
end RG3
