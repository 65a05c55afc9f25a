/-! OWN: the class: what is told of a comb laid -/
/-- a hit by its place, the eldest first -/
def hA (hs : List cT) (a : Nat) : cT := hs.reverse.getD a (0, 0, 0)
theorem hA_lt {e : cT} {t : List cT} {a : Nat} (h : a < t.length) : hA (e :: t) a = hA t a := by
  unfold hA
  rw [List.reverse_cons, List.getD_eq_getElem?_getD, List.getD_eq_getElem?_getD, List.getElem?_append_left (by rw [List.length_reverse]; exact h)]
theorem hA_eq {e : cT} {t : List cT} : hA (e :: t) t.length = e := by
  unfold hA
  rw [List.reverse_cons, List.getD_eq_getElem?_getD, List.getElem?_append_right (by rw [List.length_reverse]; exact Nat.le_refl _), List.length_reverse, Nat.sub_self]
  rfl
theorem hA_mem : ∀ {hs : List cT} {a : Nat}, a < hs.length → hA hs a ∈ hs
  | [], a, h => by cases h
  | e :: t, a, h => by
    rw [List.length_cons] at h
    by_cases c : a < t.length
    · rw [hA_lt c]
      exact List.mem_cons_of_mem _ (hA_mem c)
    · rw [show a = t.length by omega, hA_eq]
      exact List.mem_cons_self
theorem htR_at {I : tI} {J : tL} : ∀ {hs : List cT} {a : Nat}, htR I J hs → a < hs.length → I 77 a = nI (hA hs a).1 ∧ J 78 a = lN (hA hs a).2.1 ∧ J 79 a = lN (hA hs a).2.2
  | [], a, _, h => by cases h
  | e :: t, a, h, hl => by
    rw [List.length_cons] at hl
    by_cases c : a < t.length
    · rw [hA_lt c]
      exact htR_at h.2 c
    · rw [show a = t.length by omega, hA_eq]
      exact h.1
theorem smN_c {f g : Nat → Nat} : ∀ (n : Nat), (∀ j, j < n → f j = g j) → smN f n = smN g n
  | 0, _ => rfl
  | n + 1, h => by rw [smN, smN, smN_c n (fun j hj => h j (by omega)), h n (by omega)]
theorem sumS_sm {S : Nat → Nat} : ∀ (hs : List cT), smN (fun a => S (hA hs a).1) hs.length = sumS S hs
  | [] => rfl
  | e :: t => by
    rw [List.length_cons, smN, sumS, smN_c (g := fun a => S (hA t a).1) t.length (fun j hj => by rw [hA_lt hj]), sumS_sm t, hA_eq]
    omega
/-- the most of some -/
def mxN (f : Nat → Nat) : Nat → Nat
  | 0 => 0
  | n + 1 => max (mxN f n) (f n)
theorem mxN_c {f g : Nat → Nat} : ∀ (n : Nat), (∀ j, j < n → f j = g j) → mxN f n = mxN g n
  | 0, _ => rfl
  | n + 1, h => by rw [mxN, mxN, mxN_c n (fun j hj => h j (by omega)), h n (by omega)]
theorem mxN_b {f : Nat → Nat} {B : Nat} : ∀ (n : Nat), (∀ j, j < n → f j ≤ B) → mxN f n ≤ B
  | 0, _ => Nat.zero_le _
  | n + 1, h => by
    have := mxN_b n (fun j hj => h j (by omega))
    have := h n (by omega)
    rw [mxN]
    omega
theorem maxO_mx : ∀ (hs : List cT), mxN (fun a => (hA hs a).2.2) hs.length = maxO hs
  | [] => rfl
  | e :: t => by
    rw [List.length_cons, mxN, maxO, mxN_c (g := fun a => (hA t a).2.2) t.length (fun j hj => by rw [hA_lt hj]), maxO_mx t, hA_eq]
    omega
theorem hsK_ne {F : Nat → Nat} {L : List (Nat × Nat)} {u w k : Nat} (hw : 0 < w) (hk : k < L.length) : hsK F L u w k ≠ [] := by
  obtain ⟨pre, e⟩ := hsK_self (F := F) (u := u) hw hk
  rw [e]
  simp
section CTE
variable {d : Nat} {h : kH} {i : tI} {l : tL} {I : tI} {J : tL} {nw df : Nat} {P : Nat → Nat}
theorem c_so1 {L : List (Nat × Nat)} {q K : Nat} {hs : List cT} (hq : isC3 q) (hL : L.length ≤ 200) (hS : ∀ j, j < L.length → I (q + 2) j = nI (stOf L j) ∧ stOf L j ≤ 99) (hd : cLd i I J K hs) (hs2 : hs.length ≤ 200) (he : ∀ e ∈ hs, e.1 < L.length) : ∀ (c a : Nat), a + c = hs.length → ex d mX1_strengthsOf 4 [some (.ref 74), some (.ref q), some (.int (nI (smN (fun a => stOf L (hA hs a).1) a))), some (.int (nI a))] [] (mH h i l I J nw df P) = some (some (.int (nI (sumS (stOf L) hs))), (mH h i l I J nw df P))
  | 0, a, ha => by
    have c2 := c2_74
    have ha : a = hs.length := ha
    subst ha
    have h6 := hd.1
    rw [sumS_sm, X1_strengthsOf_4]
    conv => lhs; simp (disch := first | assumption | omega | decide | exact bI_or _) only [h6, X1_strengthsOf_0, X1_strengthsOf_1, X1_strengthsOf_2, X1_strengthsOf_3, X1_strengthsOf_5, X1_strengthsOf_6, X1_strengthsOf_9b, X1_strengthsOf_12, X1_strengthsOf_13, X1_strengthsOf_14, X1_strengthsOf_17, X1_strengthsOf_18, X1_strengthsOf_21, X1_strengthsOf_22, X1_strengthsOf_23, X1_strengthsOf_24, X1_strengthsOf_25, X1_strengthsOf_26, X1_strengthsOf_29, X1_strengthsOf_32, X1_strengthsOf_33, show (0 : Int32) = nI 0 from rfl, kg2_6, kg3_1, kl3_1, ks3_1, kg2_8, kl2_8, ks2_8, show (1 : Int32) = nI 1 from rfl, exLt_c1, exLt_c2, exEq_c, exLt_t, exLt_f, exEq_s, exEq_t, exEq_f, exLt_mn, exLt_nm, exEq_mn, exEq_nm, exEq_mm, exEq_xf, exLtL_t, exLtL_f, exEqL_t, exEqL_f, exB_t, exB_f, exSw_t, exSw_f, exSw_0, klz_f, klz_g, kieq_f, kdivL, kdivI, kmodL, kmodI, knIL, lN_i, nI_add, pk_mul, pk_sub, pk_subm, kad1, kad2, lN_add, lN_mul, lN_sub, kkl_i, kkl_l, kkl_r, kkl_0, Option.bind_some, Option.toList_some, Option.toList_none, List.cons_append, List.nil_append, if_true, if_false, eq_self, not_true_eq_false, not_false_eq_true, ku2_eq, ku2_ne, pk_us, pk_un, pk_uLs, pk_uLn, kup_Is, kup_In, kup_Js, kup_Jn, ku2_ku2, kup_I, kup_J, knar1, knar0]
  | c + 1, a, ha => by
    have c2 := c2_74
    have h6 := hd.1
    have hh := (htR_at hd.2.2 (show a < hs.length by omega)).1
    have hj := he _ (hA_mem (show a < hs.length by omega))
    have hs3 := (hS _ hj).1
    have ih := c_so1 hq hL hS hd hs2 he c (a + 1) (by omega)
    rw [smN] at ih
    rw [X1_strengthsOf_4]
    conv => lhs; simp (disch := first | assumption | omega | decide | exact bI_or _) only [h6, hh, hs3, X1_strengthsOf_0, X1_strengthsOf_1, X1_strengthsOf_2, X1_strengthsOf_3, X1_strengthsOf_5, X1_strengthsOf_6, X1_strengthsOf_9b, X1_strengthsOf_12, X1_strengthsOf_13, X1_strengthsOf_14, X1_strengthsOf_17, X1_strengthsOf_18, X1_strengthsOf_21, X1_strengthsOf_22, X1_strengthsOf_23, X1_strengthsOf_24, X1_strengthsOf_25, X1_strengthsOf_26, X1_strengthsOf_29, X1_strengthsOf_32, X1_strengthsOf_33, show (0 : Int32) = nI 0 from rfl, kg2_6, kg3_1, kl3_1, ks3_1, kg2_8, kl2_8, ks2_8, show (1 : Int32) = nI 1 from rfl, exLt_c1, exLt_c2, exEq_c, exLt_t, exLt_f, exEq_s, exEq_t, exEq_f, exLt_mn, exLt_nm, exEq_mn, exEq_nm, exEq_mm, exEq_xf, exLtL_t, exLtL_f, exEqL_t, exEqL_f, exB_t, exB_f, exSw_t, exSw_f, exSw_0, klz_f, klz_g, kieq_f, kdivL, kdivI, kmodL, kmodI, knIL, lN_i, nI_add, pk_mul, pk_sub, pk_subm, kad1, kad2, lN_add, lN_mul, lN_sub, kkl_i, kkl_l, kkl_r, kkl_0, Option.bind_some, Option.toList_some, Option.toList_none, List.cons_append, List.nil_append, if_true, if_false, eq_self, not_true_eq_false, not_false_eq_true, ku2_eq, ku2_ne, pk_us, pk_un, pk_uLs, pk_uLn, kup_Is, kup_In, kup_Js, kup_Jn, ku2_ku2, kup_I, kup_J, knar1, knar0]
    exact ih
theorem c_strengthsOf {L : List (Nat × Nat)} {B q K : Nat} {hs : List cT} (hq : isC3 q) (hL : okK B L) (hk : cKn i I q L) (hd : cLd i I J K hs) (hs2 : hs.length ≤ 200) (he : ∀ e ∈ hs, e.1 < L.length) : rn (d + 1) mX1_strengthsOf [.ref 74, .ref q] (mH h i l I J nw df P) = some (some (.int (nI (sumS (stOf L) hs))), (mH h i l I J nw df P)) := by
  rw [X1_strengthsOf_E]
  conv => lhs; simp (disch := first | assumption | omega | decide | exact bI_or _) only [X1_strengthsOf_0, X1_strengthsOf_1, X1_strengthsOf_2, X1_strengthsOf_3, X1_strengthsOf_5, X1_strengthsOf_6, X1_strengthsOf_9b, X1_strengthsOf_12, X1_strengthsOf_13, X1_strengthsOf_14, X1_strengthsOf_17, X1_strengthsOf_18, X1_strengthsOf_21, X1_strengthsOf_22, X1_strengthsOf_23, X1_strengthsOf_24, X1_strengthsOf_25, X1_strengthsOf_26, X1_strengthsOf_29, X1_strengthsOf_32, X1_strengthsOf_33, show (0 : Int32) = nI 0 from rfl, kg2_6, kg3_1, kl3_1, ks3_1, kg2_8, kl2_8, ks2_8, show (1 : Int32) = nI 1 from rfl, exLt_c1, exLt_c2, exEq_c, exLt_t, exLt_f, exEq_s, exEq_t, exEq_f, exLt_mn, exLt_nm, exEq_mn, exEq_nm, exEq_mm, exEq_xf, exLtL_t, exLtL_f, exEqL_t, exEqL_f, exB_t, exB_f, exSw_t, exSw_f, exSw_0, klz_f, klz_g, kieq_f, kdivL, kdivI, kmodL, kmodI, knIL, lN_i, nI_add, pk_mul, pk_sub, pk_subm, kad1, kad2, lN_add, lN_mul, lN_sub, kkl_i, kkl_l, kkl_r, kkl_0, Option.bind_some, Option.toList_some, Option.toList_none, List.cons_append, List.nil_append, if_true, if_false, eq_self, not_true_eq_false, not_false_eq_true, ku2_eq, ku2_ne, pk_us, pk_un, pk_uLs, pk_uLn, kup_Is, kup_In, kup_Js, kup_Jn, ku2_ku2, kup_I, kup_J, knar1, knar0]
  exact c_so1 hq hL.1 (fun j hj => ⟨(hk.2 j hj).2, (st_B hL hj).2⟩) hd hs2 he hs.length 0 (by omega)
theorem c_tickOfHit {L : List (Nat × Nat)} {q K a : Nat} {hs : List cT} (hq : isC3 q) (hL : L.length ≤ 200) (hk : cKn i I q L) (hd : cLd i I J K hs) (hs2 : hs.length ≤ 200) (he : ∀ e ∈ hs, e.1 < L.length) (ha : a < hs.length) : rn (d + 1) mX1_tickOfHit [.ref 74, .ref q, .int (nI a)] (mH h i l I J nw df P) = some (some (.int (nI (tkOf L (hA hs a).1))), (mH h i l I J nw df P)) := by
  have c2 := c2_74
  have h6 := hd.1
  have hh := (htR_at hd.2.2 ha).1
  have hj := he _ (hA_mem ha)
  have ht := (hk.2 _ hj).1
  rw [X1_tickOfHit_E]
  conv => lhs; simp (disch := first | assumption | omega | decide | exact bI_or _) only [h6, hh, ht, X1_tickOfHit_0, X1_tickOfHit_1b, X1_tickOfHit_4, X1_tickOfHit_5, X1_tickOfHit_6, X1_tickOfHit_9b, X1_tickOfHit_12, X1_tickOfHit_13, X1_tickOfHit_16, X1_tickOfHit_17, X1_tickOfHit_20, X1_tickOfHit_21, X1_tickOfHit_22, X1_tickOfHit_23, X1_tickOfHit_26, X1_tickOfHit_27, show (0 : Int32) = nI 0 from rfl, kg2_6, kg3_0, kl3_0, ks3_0, kg2_8, kl2_8, ks2_8, exLt_c1, exLt_c2, exEq_c, exLt_t, exLt_f, exEq_s, exEq_t, exEq_f, exLt_mn, exLt_nm, exEq_mn, exEq_nm, exEq_mm, exEq_xf, exLtL_t, exLtL_f, exEqL_t, exEqL_f, exB_t, exB_f, exSw_t, exSw_f, exSw_0, klz_f, klz_g, kieq_f, kdivL, kdivI, kmodL, kmodI, knIL, lN_i, nI_add, pk_mul, pk_sub, pk_subm, kad1, kad2, lN_add, lN_mul, lN_sub, kkl_i, kkl_l, kkl_r, kkl_0, Option.bind_some, Option.toList_some, Option.toList_none, List.cons_append, List.nil_append, if_true, if_false, eq_self, not_true_eq_false, not_false_eq_true, ku2_eq, ku2_ne, pk_us, pk_un, pk_uLs, pk_uLn, kup_Is, kup_In, kup_Js, kup_Jn, ku2_ku2, kup_I, kup_J, knar1, knar0]
theorem c_ko1 {K n m : Nat} {hs : List cT} (hd : cLd i I J K hs) (hs2 : hs.length ≤ 200) (he : ∀ e ∈ hs, e.2.1 < 9223372036854775808) (hm : m < 2147483648) : ∀ (c a : Nat), a + c = hs.length → ex d mX1_knockOf 2 [some (.ref 74), some (.int (nI m)), some (.int (nI a))] [] (mH h i l I J nw df P) = some (some (.int (hitAt (hs.reverse.drop a) m)), (mH h i l I J nw df P))
  | 0, a, ha => by
    have c2 := c2_74
    have h6 := hd.1
    have ha : a = hs.length := ha
    subst ha
    rw [List.drop_eq_nil_of_le (by simp), hitAt, X1_knockOf_2]
    conv => lhs; simp (disch := first | assumption | omega | decide | exact bI_or _) only [h6, X1_knockOf_0, X1_knockOf_1, X1_knockOf_3, X1_knockOf_4, X1_knockOf_7b, X1_knockOf_10, X1_knockOf_11, X1_knockOf_14, X1_knockOf_15, X1_knockOf_16, X1_knockOf_17, X1_knockOf_18, X1_knockOf_19b, X1_knockOf_22, X1_knockOf_23, X1_knockOf_26, X1_knockOf_27, X1_knockOf_28, X1_knockOf_29, X1_knockOf_32, X1_knockOf_35, X1_knockOf_37, show (0 : Int32) = nI 0 from rfl, kg2_6, kg2_9, kl2_9, ks2_9, kg2_8, kl2_8, ks2_8, show (1 : Int32) = nI 1 from rfl, ↓(show (-2 : Int32) = mI 2 from rfl), exLt_c1, exLt_c2, exEq_c, exLt_t, exLt_f, exEq_s, exEq_t, exEq_f, exLt_mn, exLt_nm, exEq_mn, exEq_nm, exEq_mm, exEq_xf, exLtL_t, exLtL_f, exEqL_t, exEqL_f, exB_t, exB_f, exSw_t, exSw_f, exSw_0, klz_f, klz_g, kieq_f, kdivL, kdivI, kmodL, kmodI, knIL, lN_i, nI_add, pk_mul, pk_sub, pk_subm, kad1, kad2, lN_add, lN_mul, lN_sub, kkl_i, kkl_l, kkl_r, kkl_0, Option.bind_some, Option.toList_some, Option.toList_none, List.cons_append, List.nil_append, if_true, if_false, eq_self, not_true_eq_false, not_false_eq_true, ku2_eq, ku2_ne, pk_us, pk_un, pk_uLs, pk_uLn, kup_Is, kup_In, kup_Js, kup_Jn, ku2_ku2, kup_I, kup_J, knar1, knar0]
  | c + 1, a, ha => by
    have c2 := c2_74
    have h6 := hd.1
    have hh := htR_at hd.2.2 (show a < hs.length by omega)
    have hb := he _ (hA_mem (show a < hs.length by omega))
    have ih := c_ko1 (n := n) hd hs2 he hm c (a + 1) (by omega)
    have e : hs.reverse.drop a = hA hs a :: hs.reverse.drop (a + 1) := by
      rw [List.drop_eq_getElem_cons (by simp; omega)]
      congr 1
      unfold hA
      rw [List.getD_eq_getElem?_getD, List.getElem?_eq_getElem (by simp; omega)]
      rfl
    obtain ⟨e1, e2, e3⟩ := hh
    rw [e, hitAt, X1_knockOf_2]
    by_cases c1 : (hA hs a).2.1 = m
    · rw [if_pos c1]
      conv => lhs; simp (disch := first | assumption | omega | decide | exact bI_or _) only [h6, e1, e2, X1_knockOf_0, X1_knockOf_1, X1_knockOf_3, X1_knockOf_4, X1_knockOf_7b, X1_knockOf_10, X1_knockOf_11, X1_knockOf_14, X1_knockOf_15, X1_knockOf_16, X1_knockOf_17, X1_knockOf_18, X1_knockOf_19b, X1_knockOf_22, X1_knockOf_23, X1_knockOf_26, X1_knockOf_27, X1_knockOf_28, X1_knockOf_29, X1_knockOf_32, X1_knockOf_35, X1_knockOf_37, show (0 : Int32) = nI 0 from rfl, kg2_6, kg2_9, kl2_9, ks2_9, kg2_8, kl2_8, ks2_8, show (1 : Int32) = nI 1 from rfl, ↓(show (-2 : Int32) = mI 2 from rfl), exLt_c1, exLt_c2, exEq_c, exLt_t, exLt_f, exEq_s, exEq_t, exEq_f, exLt_mn, exLt_nm, exEq_mn, exEq_nm, exEq_mm, exEq_xf, exLtL_t, exLtL_f, exEqL_t, exEqL_f, exB_t, exB_f, exSw_t, exSw_f, exSw_0, klz_f, klz_g, kieq_f, kdivL, kdivI, kmodL, kmodI, knIL, lN_i, nI_add, pk_mul, pk_sub, pk_subm, kad1, kad2, lN_add, lN_mul, lN_sub, kkl_i, kkl_l, kkl_r, kkl_0, Option.bind_some, Option.toList_some, Option.toList_none, List.cons_append, List.nil_append, if_true, if_false, eq_self, not_true_eq_false, not_false_eq_true, ku2_eq, ku2_ne, pk_us, pk_un, pk_uLs, pk_uLn, kup_Is, kup_In, kup_Js, kup_Jn, ku2_ku2, kup_I, kup_J, knar1, knar0]
    · rw [if_neg c1]
      conv => lhs; simp (disch := first | assumption | omega | decide | exact bI_or _) only [h6, e1, e2, X1_knockOf_0, X1_knockOf_1, X1_knockOf_3, X1_knockOf_4, X1_knockOf_7b, X1_knockOf_10, X1_knockOf_11, X1_knockOf_14, X1_knockOf_15, X1_knockOf_16, X1_knockOf_17, X1_knockOf_18, X1_knockOf_19b, X1_knockOf_22, X1_knockOf_23, X1_knockOf_26, X1_knockOf_27, X1_knockOf_28, X1_knockOf_29, X1_knockOf_32, X1_knockOf_35, X1_knockOf_37, show (0 : Int32) = nI 0 from rfl, kg2_6, kg2_9, kl2_9, ks2_9, kg2_8, kl2_8, ks2_8, show (1 : Int32) = nI 1 from rfl, ↓(show (-2 : Int32) = mI 2 from rfl), exLt_c1, exLt_c2, exEq_c, exLt_t, exLt_f, exEq_s, exEq_t, exEq_f, exLt_mn, exLt_nm, exEq_mn, exEq_nm, exEq_mm, exEq_xf, exLtL_t, exLtL_f, exEqL_t, exEqL_f, exB_t, exB_f, exSw_t, exSw_f, exSw_0, klz_f, klz_g, kieq_f, kdivL, kdivI, kmodL, kmodI, knIL, lN_i, nI_add, pk_mul, pk_sub, pk_subm, kad1, kad2, lN_add, lN_mul, lN_sub, kkl_i, kkl_l, kkl_r, kkl_0, Option.bind_some, Option.toList_some, Option.toList_none, List.cons_append, List.nil_append, if_true, if_false, eq_self, not_true_eq_false, not_false_eq_true, ku2_eq, ku2_ne, pk_us, pk_un, pk_uLs, pk_uLn, kup_Is, kup_In, kup_Js, kup_Jn, ku2_ku2, kup_I, kup_J, knar1, knar0]
      exact ih
theorem c_knockOf {K m : Nat} {hs : List cT} (hd : cLd i I J K hs) (hs2 : hs.length ≤ 200) (he : ∀ e ∈ hs, e.2.1 < 9223372036854775808) (hm : m < 2147483648) : rn (d + 1) mX1_knockOf [.ref 74, .int (nI m)] (mH h i l I J nw df P) = some (some (.int (hitAt hs.reverse m)), (mH h i l I J nw df P)) := by
  rw [X1_knockOf_E]
  conv => lhs; simp (disch := first | assumption | omega | decide | exact bI_or _) only [X1_knockOf_0, X1_knockOf_1, X1_knockOf_3, X1_knockOf_4, X1_knockOf_7b, X1_knockOf_10, X1_knockOf_11, X1_knockOf_14, X1_knockOf_15, X1_knockOf_16, X1_knockOf_17, X1_knockOf_18, X1_knockOf_19b, X1_knockOf_22, X1_knockOf_23, X1_knockOf_26, X1_knockOf_27, X1_knockOf_28, X1_knockOf_29, X1_knockOf_32, X1_knockOf_35, X1_knockOf_37, show (0 : Int32) = nI 0 from rfl, kg2_6, kg2_9, kl2_9, ks2_9, kg2_8, kl2_8, ks2_8, show (1 : Int32) = nI 1 from rfl, ↓(show (-2 : Int32) = mI 2 from rfl), exLt_c1, exLt_c2, exEq_c, exLt_t, exLt_f, exEq_s, exEq_t, exEq_f, exLt_mn, exLt_nm, exEq_mn, exEq_nm, exEq_mm, exEq_xf, exLtL_t, exLtL_f, exEqL_t, exEqL_f, exB_t, exB_f, exSw_t, exSw_f, exSw_0, klz_f, klz_g, kieq_f, kdivL, kdivI, kmodL, kmodI, knIL, lN_i, nI_add, pk_mul, pk_sub, pk_subm, kad1, kad2, lN_add, lN_mul, lN_sub, kkl_i, kkl_l, kkl_r, kkl_0, Option.bind_some, Option.toList_some, Option.toList_none, List.cons_append, List.nil_append, if_true, if_false, eq_self, not_true_eq_false, not_false_eq_true, ku2_eq, ku2_ne, pk_us, pk_un, pk_uLs, pk_uLn, kup_Is, kup_In, kup_Js, kup_Jn, ku2_ku2, kup_I, kup_J, knar1, knar0]
  have := c_ko1 (d := d) (h := h) (i := i) (l := l) (I := I) (J := J) (nw := nw) (df := df) (P := P) (n := 0) hd hs2 he hm hs.length 0 (by omega)
  rw [List.drop_zero] at this
  exact this
theorem c_mo1 {K w : Nat} {hs : List cT} (hd : cLd i I J K hs) (hs2 : hs.length ≤ 200) (hw : 1 ≤ w ∧ w ≤ 100000) (h1 : l 74 1 = lN (1000000 * w)) (he : ∀ e ∈ hs, e.2.2 ≤ 1000000 * w) : ∀ (c a : Nat), a + c = hs.length → ex (d + 1) mX1_mostOff 4 [some (.ref 74), some (.long (lN (mxN (fun a => (hA hs a).2.2) a))), none, some (.int (nI a))] [] (mH h i l I J nw df P) = some (some (.int (nI (maxO hs / (1000 * w)))), (mH h i l I J nw df P))
  | 0, a, ha => by
    have c2 := c2_74
    have h6 := hd.1
    have ha : a = hs.length := ha
    subst ha
    have hmo : maxO hs ≤ 1000000 * w := maxO_b he
    rw [maxO_mx, X1_mostOff_4]
    conv => lhs; simp (disch := first | assumption | omega | decide | exact bI_or _) only [h6, h1, j_maxl1, X1_mostOff_0, X1_mostOff_1, X1_mostOff_2, X1_mostOff_3, X1_mostOff_5, X1_mostOff_6, X1_mostOff_9b, X1_mostOff_12, X1_mostOff_13, X1_mostOff_14, X1_mostOff_17, X1_mostOff_18, X1_mostOff_19, X1_mostOff_22, X1_mostOff_23, X1_mostOff_26, X1_mostOff_29, X1_mostOff_30, X1_mostOff_33, X1_mostOff_34, X1_mostOff_35, X1_mostOff_36, X1_mostOff_39, X1_mostOff_42, X1_mostOff_43, X1_mostOff_44, show (0 : Int64) = lN 0 from rfl, show (0 : Int32) = nI 0 from rfl, kg2_6, kg2_10, kl2_10, ks2_10, show (1 : Int32) = nI 1 from rfl, show (1000 : Int64) = lN 1000 from rfl, show (1 : Int64) = lN 1 from rfl, kg2_1, exLt_c1, exLt_c2, exEq_c, exLt_t, exLt_f, exEq_s, exEq_t, exEq_f, exLt_mn, exLt_nm, exEq_mn, exEq_nm, exEq_mm, exEq_xf, exLtL_t, exLtL_f, exEqL_t, exEqL_f, exB_t, exB_f, exSw_t, exSw_f, exSw_0, klz_f, klz_g, kieq_f, kdivL, kdivI, kmodL, kmodI, knIL, lN_i, nI_add, pk_mul, pk_sub, pk_subm, kad1, kad2, lN_add, lN_mul, lN_sub, kkl_i, kkl_l, kkl_r, kkl_0, Option.bind_some, Option.toList_some, Option.toList_none, List.cons_append, List.nil_append, if_true, if_false, eq_self, not_true_eq_false, not_false_eq_true, ku2_eq, ku2_ne, pk_us, pk_un, pk_uLs, pk_uLn, kup_Is, kup_In, kup_Js, kup_Jn, ku2_ku2, kup_I, kup_J, knar1, knar0]
    rw [show 1000000 * w = 1000 * w * 1000 by omega, Nat.mul_div_mul_right _ _ (by decide)]
  | c + 1, a, ha => by
    have c2 := c2_74
    have h6 := hd.1
    have hh := (htR_at hd.2.2 (show a < hs.length by omega)).2.2
    have hb := he _ (hA_mem (show a < hs.length by omega))
    have hb2 : mxN (fun a => (hA hs a).2.2) a ≤ 1000000 * w := mxN_b a (fun j hj => he _ (hA_mem (by omega)))
    have ih := c_mo1 hd hs2 hw h1 he c (a + 1) (by omega)
    rw [mxN] at ih
    rw [X1_mostOff_4]
    conv => lhs; simp (disch := first | assumption | omega | decide | exact bI_or _) only [h6, hh, j_maxlN, X1_mostOff_0, X1_mostOff_1, X1_mostOff_2, X1_mostOff_3, X1_mostOff_5, X1_mostOff_6, X1_mostOff_9b, X1_mostOff_12, X1_mostOff_13, X1_mostOff_14, X1_mostOff_17, X1_mostOff_18, X1_mostOff_19, X1_mostOff_22, X1_mostOff_23, X1_mostOff_26, X1_mostOff_29, X1_mostOff_30, X1_mostOff_33, X1_mostOff_34, X1_mostOff_35, X1_mostOff_36, X1_mostOff_39, X1_mostOff_42, X1_mostOff_43, X1_mostOff_44, show (0 : Int64) = lN 0 from rfl, show (0 : Int32) = nI 0 from rfl, kg2_6, kg2_10, kl2_10, ks2_10, show (1 : Int32) = nI 1 from rfl, show (1000 : Int64) = lN 1000 from rfl, show (1 : Int64) = lN 1 from rfl, kg2_1, exLt_c1, exLt_c2, exEq_c, exLt_t, exLt_f, exEq_s, exEq_t, exEq_f, exLt_mn, exLt_nm, exEq_mn, exEq_nm, exEq_mm, exEq_xf, exLtL_t, exLtL_f, exEqL_t, exEqL_f, exB_t, exB_f, exSw_t, exSw_f, exSw_0, klz_f, klz_g, kieq_f, kdivL, kdivI, kmodL, kmodI, knIL, lN_i, nI_add, pk_mul, pk_sub, pk_subm, kad1, kad2, lN_add, lN_mul, lN_sub, kkl_i, kkl_l, kkl_r, kkl_0, Option.bind_some, Option.toList_some, Option.toList_none, List.cons_append, List.nil_append, if_true, if_false, eq_self, not_true_eq_false, not_false_eq_true, ku2_eq, ku2_ne, pk_us, pk_un, pk_uLs, pk_uLn, kup_Is, kup_In, kup_Js, kup_Jn, ku2_ku2, kup_I, kup_J, knar1, knar0]
    exact ih
theorem c_mostOff {K w : Nat} {hs : List cT} (hd : cLd i I J K hs) (hs2 : hs.length ≤ 200) (hw : 1 ≤ w ∧ w ≤ 100000) (h1 : l 74 1 = lN (1000000 * w)) (he : ∀ e ∈ hs, e.2.2 ≤ 1000000 * w) : rn (d + 2) mX1_mostOff [.ref 74] (mH h i l I J nw df P) = some (some (.int (nI (maxO hs / (1000 * w)))), (mH h i l I J nw df P)) := by
  rw [X1_mostOff_E]
  conv => lhs; simp (disch := first | assumption | omega | decide | exact bI_or _) only [X1_mostOff_0, X1_mostOff_1, X1_mostOff_2, X1_mostOff_3, X1_mostOff_5, X1_mostOff_6, X1_mostOff_9b, X1_mostOff_12, X1_mostOff_13, X1_mostOff_14, X1_mostOff_17, X1_mostOff_18, X1_mostOff_19, X1_mostOff_22, X1_mostOff_23, X1_mostOff_26, X1_mostOff_29, X1_mostOff_30, X1_mostOff_33, X1_mostOff_34, X1_mostOff_35, X1_mostOff_36, X1_mostOff_39, X1_mostOff_42, X1_mostOff_43, X1_mostOff_44, show (0 : Int64) = lN 0 from rfl, show (0 : Int32) = nI 0 from rfl, kg2_6, kg2_10, kl2_10, ks2_10, show (1 : Int32) = nI 1 from rfl, show (1000 : Int64) = lN 1000 from rfl, show (1 : Int64) = lN 1 from rfl, kg2_1, exLt_c1, exLt_c2, exEq_c, exLt_t, exLt_f, exEq_s, exEq_t, exEq_f, exLt_mn, exLt_nm, exEq_mn, exEq_nm, exEq_mm, exEq_xf, exLtL_t, exLtL_f, exEqL_t, exEqL_f, exB_t, exB_f, exSw_t, exSw_f, exSw_0, klz_f, klz_g, kieq_f, kdivL, kdivI, kmodL, kmodI, knIL, lN_i, nI_add, pk_mul, pk_sub, pk_subm, kad1, kad2, lN_add, lN_mul, lN_sub, kkl_i, kkl_l, kkl_r, kkl_0, Option.bind_some, Option.toList_some, Option.toList_none, List.cons_append, List.nil_append, if_true, if_false, eq_self, not_true_eq_false, not_false_eq_true, ku2_eq, ku2_ne, pk_us, pk_un, pk_uLs, pk_uLn, kup_Is, kup_In, kup_Js, kup_Jn, ku2_ku2, kup_I, kup_J, knar1, knar0]
  exact c_mo1 hd hs2 hw h1 he hs.length 0 (by omega)
theorem c_tell {L : List (Nat × Nat)} {F : Nat → Nat} {q u w k z : Nat} (hq : isC3 q) (ok : okF F) (hL : okK 100989 L) (hr : okR u w) (hkn : cKn i I q L) (hc : cCb i l J L.length (AL F L) u w (F 0) (F 1)) (hd : cLd i I J (mkK F L u w k) (hsK F L u w k)) (hk : k < L.length) (hz : z < 6) : rn (d + 3) mX1_tell [.ref 74, .ref q, .int (nI z)] (mH h i l I J nw df P) = some (some (.int (nI (tld L w k (mkK F L u w k) (hsK F L u w k) z))), (mH h i l I J nw df P)) := by
  have c2 := c2_74
  have hl := hL.1
  have hA := AL_ok ok.1 hL
  have hI := hsK_I (F := F) (L := L) (u := u) (w := w) (show k ≤ L.length by omega)
  have hlen := hsK_b (u := u) (w := w) hA (show k ≤ L.length by omega)
  have hK : mkK F L u w k ≤ 5100501 := cK_b hA hr (by omega)
  have hK1 := mkK_pos F L u w k
  have hne : hsK F L u w k ≠ [] := hsK_ne hr.2.2.1 hk
  have h6 := hd.1
  have h7 := hd.2.1
  have e2 : rn (d + 2) mX1_score [.ref 74] (mH h i l I J nw df P) = some (some (.int (nI ((hsK F L u w k).length * 1000 / mkK F L u w k))), (mH h i l I J nw df P)) := c_score h6 h7 (by omega) hK1 hK
  have e3 : rn (d + 2) mX1_strengthsOf [.ref 74, .ref q] (mH h i l I J nw df P) = some (some (.int (nI (sumS (stOf L) (hsK F L u w k)))), (mH h i l I J nw df P)) := c_strengthsOf hq hL hkn hd (by omega) (fun e he => (hI.2 e he).2.1)
  have hpos : 0 < (hsK F L u w k).length := List.length_pos_iff.mpr hne
  have e4 : rn (d + 2) mX1_tickOfHit [.ref 74, .ref q, .int (nI ((hsK F L u w k).length - 1))] (mH h i l I J nw df P) = some (some (.int (nI (tkOf L (laK k (hsK F L u w k))))), (mH h i l I J nw df P)) := by
    rw [c_tickOfHit hq hl hkn hd (by omega) (fun e he => (hI.2 e he).2.1) (by omega)]
    cases hh : hsK F L u w k with
    | nil => exact absurd hh hne
    | cons e t => rw [List.length_cons, Nat.add_sub_cancel, hA_eq]; rfl
  have e5 : rn (d + 2) mX1_mostOff [.ref 74] (mH h i l I J nw df P) = some (some (.int (nI (maxO (hsK F L u w k) / (1000 * w)))), (mH h i l I J nw df P)) := c_mostOff hd (by omega) hr.2.2 hc.2.1 (fun e he => (hI.2 e he).2.2.2)
  rw [X1_tell_E]
  rcases (show z = 0 ∨ z = 1 ∨ z = 2 ∨ z = 3 ∨ z = 4 ∨ z = 5 by omega) with rfl | rfl | rfl | rfl | rfl | rfl
  all_goals
    conv => lhs; simp (disch := first | assumption | omega | decide | exact bI_or _) only [h6, h7, e2, e3, e4, e5, X1_tell_0, X1_tell_1b, X1_tell_36, X1_tell_37, X1_tell_40, X1_tell_41, X1_tell_42, X1_tell_45, X1_tell_46, X1_tell_47, X1_tell_50, X1_tell_51, X1_tell_52, X1_tell_53, X1_tell_56, X1_tell_57, X1_tell_58, X1_tell_59, X1_tell_60, X1_tell_63, X1_tell_64, X1_tell_65, X1_tell_68, X1_tell_69, X1_tell_70, X1_tell_73, show (0 : Int32) = nI 0 from rfl, show (1 : Int32) = nI 1 from rfl, show (2 : Int32) = nI 2 from rfl, show (3 : Int32) = nI 3 from rfl, show (4 : Int32) = nI 4 from rfl, kg2_6, kg2_7, kis2, exLt_c1, exLt_c2, exEq_c, exLt_t, exLt_f, exEq_s, exEq_t, exEq_f, exLt_mn, exLt_nm, exEq_mn, exEq_nm, exEq_mm, exEq_xf, exLtL_t, exLtL_f, exEqL_t, exEqL_f, exB_t, exB_f, exSw_t, exSw_f, exSw_0, klz_f, klz_g, kieq_f, kdivL, kdivI, kmodL, kmodI, knIL, lN_i, nI_add, pk_mul, pk_sub, pk_subm, kad1, kad2, lN_add, lN_mul, lN_sub, kkl_i, kkl_l, kkl_r, kkl_0, Option.bind_some, Option.toList_some, Option.toList_none, List.cons_append, List.nil_append, if_true, if_false, eq_self, not_true_eq_false, not_false_eq_true, ku2_eq, ku2_ne, pk_us, pk_un, pk_uLs, pk_uLn, kup_Is, kup_In, kup_Js, kup_Jn, ku2_ku2, kup_I, kup_J, knar1, knar0]
    rfl
end CTE
