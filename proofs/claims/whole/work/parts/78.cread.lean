/-! OWN: the class reads spans and steps -/
theorem ff_as (a b c : Nat) : ff (ff a b) c = ff a (ff b c) := by
  unfold ff
  by_cases h : a = 0
  · rw [if_pos h, if_pos h]
  · rw [if_neg h, if_neg h, if_neg h]
theorem ff_e {a b : Nat} : ff a b = 0 ↔ a = 0 ∧ b = 0 := by
  unfold ff
  split <;> omega
theorem rcF_f (tx : Nat → Nat) (ln D p f : Nat) : rcF tx ln D p f = ff f (rcF tx ln D p 0) := by
  unfold rcF
  rw [ff_z, ff_as]
theorem rcF_b (tx : Nat → Nat) (ln D p : Nat) (hp : p < 1000) (hD : D ≤ 5) : rcF tx ln D p 0 < 10000 := by
  have := rdc_b (tx := tx) (ln := ln) D p 0
  unfold rcF ff
  repeat' split
  all_goals omega
theorem rdn_rdc {tx : Nat → Nat} {ln D p0 : Nat} : ∀ (f k p v : Nat), p + k = p0 + D → ln - p ≤ f → rdn tx ln D p0 f p v = ((rdc tx ln k p v).1, (rdc tx ln k p v).2, decide (¬ isDg tx ln (rdc tx ln k p v).1))
  | 0, k, p, v, hk, hf => by
    have hd : ¬ isDg tx ln p := fun z => by have := z.1; omega
    have e : rdc tx ln k p v = (p, v) := by
      match k with
      | 0 => rfl
      | k + 1 => rw [rdc, if_neg hd]
    rw [e, rdn]
    simp only [hd, not_false_eq_true, decide_true]
  | f + 1, k, p, v, hk, hf => by
    rw [rdn]
    by_cases c : isDg tx ln p
    · rw [if_pos c]
      match k with
      | 0 =>
        rw [if_pos (by omega), rdc]
        exact congrArg (fun b => (p, v, b)) (decide_eq_false (fun z => z c)).symm
      | k + 1 =>
        rw [if_neg (by omega), rdc, if_pos c]
        exact rdn_rdc f k (p + 1) _ (by omega) (by omega)
    · rw [if_neg c]
      have e : rdc tx ln k p v = (p, v) := by
        match k with
        | 0 => rfl
        | k + 1 => rw [rdc, if_neg c]
      rw [e]
      simp only [c, not_false_eq_true, decide_true]
theorem rdNum_c (tx : Nat → Nat) (ln D p lo hi : Nat) : (rdNum tx ln D p lo hi).1 = ff (rcF tx ln D p 0) (if lo ≤ (rdc tx ln D p 0).2 ∧ (rdc tx ln D p 0).2 ≤ hi then 0 else 3000 + p) ∧ ((rdNum tx ln D p lo hi).1 = 0 → (rdNum tx ln D p lo hi).2 = ((rdc tx ln D p 0).2, (rdc tx ln D p 0).1)) := by
  unfold rdNum rcF
  rw [rdn_rdc (tx := tx) (ln := ln) (D := D) (p0 := p) (ln - p) D p 0 rfl (Nat.le_refl _)]
  rw [ff_z]
  by_cases c : isDg tx ln p
  · rw [if_pos c, if_pos c, ff_z]
    by_cases c2 : isDg tx ln (rdc tx ln D p 0).1
    · rw [if_neg (by simp [c2]), if_pos c2]
      refine ⟨(ff_n (by omega)).symm, fun z => ?_⟩
      have : 2000 + (rdc tx ln D p 0).1 = 0 := z
      omega
    · rw [if_pos (by simp [c2]), if_neg c2, ff_z]
      by_cases c3 : lo ≤ (rdc tx ln D p 0).2 ∧ (rdc tx ln D p 0).2 ≤ hi
      · rw [if_pos c3, if_pos c3]
        exact ⟨rfl, fun _ => rfl⟩
      · rw [if_neg c3, if_neg c3]
        refine ⟨rfl, fun z => ?_⟩
        have : 3000 + p = 0 := z
        omega
  · rw [if_neg c, if_neg c]
    refine ⟨?_, fun z => ?_⟩
    · rw [ff_n (show 1000 + p ≠ 0 by omega), ff_n (by omega)]
    · have : 1000 + p = 0 := z
      omega
theorem rdc_v {tx : Nat → Nat} {ln : Nat} : ∀ (D p v : Nat), (rdc tx ln D p v).2 < (v + 1) * 10 ^ D
  | 0, p, v => by rw [rdc]; simp
  | D + 1, p, v => by
    rw [rdc]
    by_cases c : isDg tx ln p
    · rw [if_pos c]
      have h := rdc_v (tx := tx) (ln := ln) D (p + 1) (10 * v + tx p - 48)
      have h2 : 10 * v + tx p - 48 + 1 ≤ (v + 1) * 10 := by have := c.2; omega
      have h3 := Nat.mul_le_mul_right (10 ^ D) h2
      rw [Nat.pow_succ, Nat.mul_comm (10 ^ D) 10, ← Nat.mul_assoc]
      exact Nat.lt_of_lt_of_le h h3
    · rw [if_neg c]
      have : 0 < 10 ^ (D + 1) := Nat.pow_pos (by decide)
      show v < (v + 1) * 10 ^ (D + 1)
      have := Nat.le_mul_of_pos_right (v + 1) this
      omega
section CRA
variable {d : Nat} {h : kH} {i : tI} {l : tL} {I : tI} {J : tL} {nw df : Nat} {P : Nat → Nat}
theorem c_isTurn {n : Nat} (hn : n < 2147483648) : rn (d + 1) mX11_isTurn [.int (nI n)] h = some (some (.int (bI (20 ≤ n ∧ n ≤ 5000))), h) := by
  rw [X11_isTurn_E]
  by_cases c : 20 ≤ n ∧ n ≤ 5000
  · have c1 := c.1
    have c2 := c.2
    rw [bI_t c]
    conv => lhs; simp (disch := first | assumption | omega | decide | exact bI_or _) only [X11_isTurn_0, X11_isTurn_1, X11_isTurn_3b, X11_isTurn_6, X11_isTurn_7, X11_isTurn_10b, X11_isTurn_13, X11_isTurn_14, X11_isTurn_17, X11_isTurn_18_0, X11_isTurn_18_1, X11_isTurn_18, show (20 : Int32) = nI 20 from rfl, show (5000 : Int32) = nI 5000 from rfl, show (1 : Int32) = nI 1 from rfl, show (0 : Int32) = nI 0 from rfl, exLt_c1, exLt_c2, exEq_c, exLt_t, exLt_f, exEq_s, exEq_t, exEq_f, exLt_mn, exLt_nm, exEq_mn, exEq_nm, exEq_mm, exEq_xf, exLtL_t, exLtL_f, exEqL_t, exEqL_f, exB_t, exB_f, exSw_t, exSw_f, exSw_0, klz_f, klz_g, kieq_f, kdivL, kdivI, kmodL, kmodI, knIL, lN_i, nI_add, pk_mul, pk_sub, pk_subm, kad1, kad2, lN_add, lN_mul, lN_sub, kkl_i, kkl_l, kkl_r, kkl_0, Option.bind_some, Option.toList_some, Option.toList_none, List.cons_append, List.nil_append, if_true, if_false, eq_self, not_true_eq_false, not_false_eq_true, ku2_eq, ku2_ne, pk_us, pk_un, pk_uLs, pk_uLn, kup_Is, kup_In, kup_Js, kup_Jn, ku2_ku2, kup_I, kup_J, knar1, knar0]
    rfl
  · rw [bI_f c]
    by_cases c1 : 20 ≤ n
    · have c2 : 5000 < n := by omega
      conv => lhs; simp (disch := first | assumption | omega | decide | exact bI_or _) only [X11_isTurn_0, X11_isTurn_1, X11_isTurn_3b, X11_isTurn_6, X11_isTurn_7, X11_isTurn_10b, X11_isTurn_13, X11_isTurn_14, X11_isTurn_17, X11_isTurn_18_0, X11_isTurn_18_1, X11_isTurn_18, show (20 : Int32) = nI 20 from rfl, show (5000 : Int32) = nI 5000 from rfl, show (1 : Int32) = nI 1 from rfl, show (0 : Int32) = nI 0 from rfl, exLt_c1, exLt_c2, exEq_c, exLt_t, exLt_f, exEq_s, exEq_t, exEq_f, exLt_mn, exLt_nm, exEq_mn, exEq_nm, exEq_mm, exEq_xf, exLtL_t, exLtL_f, exEqL_t, exEqL_f, exB_t, exB_f, exSw_t, exSw_f, exSw_0, klz_f, klz_g, kieq_f, kdivL, kdivI, kmodL, kmodI, knIL, lN_i, nI_add, pk_mul, pk_sub, pk_subm, kad1, kad2, lN_add, lN_mul, lN_sub, kkl_i, kkl_l, kkl_r, kkl_0, Option.bind_some, Option.toList_some, Option.toList_none, List.cons_append, List.nil_append, if_true, if_false, eq_self, not_true_eq_false, not_false_eq_true, ku2_eq, ku2_ne, pk_us, pk_un, pk_uLs, pk_uLn, kup_Is, kup_In, kup_Js, kup_Jn, ku2_ku2, kup_I, kup_J, knar1, knar0]
      rfl
    · have c3 : n < 20 := by omega
      conv => lhs; simp (disch := first | assumption | omega | decide | exact bI_or _) only [X11_isTurn_0, X11_isTurn_1, X11_isTurn_3b, X11_isTurn_6, X11_isTurn_7, X11_isTurn_10b, X11_isTurn_13, X11_isTurn_14, X11_isTurn_17, X11_isTurn_18_0, X11_isTurn_18_1, X11_isTurn_18, show (20 : Int32) = nI 20 from rfl, show (5000 : Int32) = nI 5000 from rfl, show (1 : Int32) = nI 1 from rfl, show (0 : Int32) = nI 0 from rfl, exLt_c1, exLt_c2, exEq_c, exLt_t, exLt_f, exEq_s, exEq_t, exEq_f, exLt_mn, exLt_nm, exEq_mn, exEq_nm, exEq_mm, exEq_xf, exLtL_t, exLtL_f, exEqL_t, exEqL_f, exB_t, exB_f, exSw_t, exSw_f, exSw_0, klz_f, klz_g, kieq_f, kdivL, kdivI, kmodL, kmodI, knIL, lN_i, nI_add, pk_mul, pk_sub, pk_subm, kad1, kad2, lN_add, lN_mul, lN_sub, kkl_i, kkl_l, kkl_r, kkl_0, Option.bind_some, Option.toList_some, Option.toList_none, List.cons_append, List.nil_append, if_true, if_false, eq_self, not_true_eq_false, not_false_eq_true, ku2_eq, ku2_ne, pk_us, pk_un, pk_uLs, pk_uLn, kup_Is, kup_In, kup_Js, kup_Jn, ku2_ku2, kup_I, kup_J, knar1, knar0]
      rfl
theorem cKn_app {i' I' : tI} {q : Nat} {L : List (Nat × Nat)} {x : Nat × Nat} (hk : cKn i I q L) (h2 : i' q 2 = nI (L.length + 1)) (h3 : I' (q + 1) = upd (I (q + 1)) L.length (nI x.1)) (h4 : I' (q + 2) = upd (I (q + 2)) L.length (nI x.2)) : cKn i' I' q (L ++ [x]) := by
  refine ⟨by rw [h2, List.length_append]; rfl, fun j hj => ?_⟩
  rw [List.length_append] at hj
  simp at hj
  rw [h3, h4]
  unfold upd
  by_cases c : j = L.length
  · subst c
    rw [if_pos rfl, if_pos rfl, tk_app2.1, tk_app2.2]
    exact ⟨rfl, rfl⟩
  · rw [if_neg c, if_neg c, (tk_app (by omega)).1, (tk_app (by omega)).2]
    exact hk.2 j (by omega)
/-- what reading one part leaves: fault or the row with one more -/
def pRes (q ln : Nat) (r : Nat × (Nat × Nat) × Nat) (acc : List (Nat × Nat)) (i I : tI) : Prop := i 33 4 = mI r.1 ∧ r.1 < 1000000 ∧ (r.1 ≠ 0 → ∃ p, p < 1000 ∧ i 33 3 = nI p) ∧ (r.1 = 0 → i 33 3 = nI r.2.2 ∧ cKn i I q (acc ++ [r.2.1]))
theorem c_readSpan {tx : Nat → Nat} {ln p q : Nat} {acc : List (Nat × Nat)} (hq : isC7 q) (hq3 : 36 < q) (ht : cTx I tx ln) (h2 : i 33 2 = nI ln) (h3 : i 33 3 = nI p) (h4 : i 33 4 = mI 0) (hp : p ≤ ln) (hk : cKn i I q acc) (ha : acc.length < 10) (hb : ∀ k, k < acc.length → tkOf acc k ≤ 99999) : Gd (rn (d + 3) mX6_readSpan [.ref q, .ref 33] (mH h i l I J nw df P)) (Rt h nw df P none fun i' l' I' J' => Kp [(33, 3), (33, 4), (q, 2)] [] [q + 1, q + 2] i i' l l' I I' J J' ∧ pRes q ln (spIt tx ln p acc) acc i' I') := by
  have hl := ht.1
  have hk2 := hk.1
  obtain ⟨lo, hlo⟩ : ∃ lo, (if acc.length = 0 then 0 else tkOf acc (acc.length - 1) + 1) = lo := ⟨_, rfl⟩
  rw [X6_readSpan_E]
  conv => arg 1; simp (disch := first | assumption | omega | decide | exact bI_or _) only [gt_3, h3, X6_readSpan_0, X6_readSpan_1, X6_readSpan_4, X6_readSpan_5, X6_readSpan_6, X6_readSpan_7, X6_readSpan_10, X6_readSpan_11, X6_readSpan_12, X6_readSpan_15b, X6_readSpan_18, X6_readSpan_19, X6_readSpan_22, X6_readSpan_24b, X6_readSpan_27, X6_readSpan_28, X6_readSpan_29, X6_readSpan_32, X6_readSpan_33, X6_readSpan_36, X6_readSpan_37, X6_readSpan_38, X6_readSpan_39b, X6_readSpan_42, X6_readSpan_43, X6_readSpan_44, X6_readSpan_45, X6_readSpan_48, X6_readSpan_49, X6_readSpan_51, X6_readSpan_53, X6_readSpan_56, X6_readSpan_57, X6_readSpan_60, X6_readSpan_61, X6_readSpan_62, X6_readSpan_63, X6_readSpan_66, X6_readSpan_68, X6_readSpan_70, X6_readSpan_73b, X6_readSpan_76, X6_readSpan_77, X6_readSpan_78, X6_readSpan_79, X6_readSpan_82, X6_readSpan_83, X6_readSpan_86b, X6_readSpan_89, X6_readSpan_90, X6_readSpan_93, X6_readSpan_95b, X6_readSpan_98, X6_readSpan_99, X6_readSpan_102, X6_readSpan_103, X6_readSpan_106, X6_readSpan_107, X6_readSpan_108, X6_readSpan_109, X6_readSpan_112, X6_readSpan_113, X6_readSpan_116, X6_readSpan_118, X6_readSpan_119, X6_readSpan_120, X6_readSpan_121, X6_readSpan_124, X6_readSpan_125, X6_readSpan_126, X6_readSpan_129, kg10_3, show (5 : Int32) = nI 5 from rfl, kis10, kg7_2, show (0 : Int32) = nI 0 from rfl, show (10 : Int32) = nI 10 from rfl, kg7_0, kl7_0, ks7_0, show (1 : Int32) = nI 1 from rfl, show (3 : Int32) = nI 3 from rfl, show (58 : Int32) = nI 58 from rfl, show (4 : Int32) = nI 4 from rfl, kg10_4, kg7_1, kl7_1, ks7_1, kp7_2, exLt_c1, exLt_c2, exEq_c, exLt_t, exLt_f, exEq_s, exEq_t, exEq_f, exLt_mn, exLt_nm, exEq_mn, exEq_nm, exEq_mm, exEq_xf, exLtL_t, exLtL_f, exEqL_t, exEqL_f, exB_t, exB_f, exSw_t, exSw_f, exSw_0, klz_f, klz_g, kieq_f, kdivL, kdivI, kmodL, kmodI, knIL, lN_i, nI_add, pk_mul, pk_sub, pk_subm, kad1, kad2, lN_add, lN_mul, lN_sub, kkl_i, kkl_l, kkl_r, kkl_0, Option.bind_some, Option.toList_some, Option.toList_none, List.cons_append, List.nil_append, if_true, if_false, eq_self, not_true_eq_false, not_false_eq_true, ku2_eq, ku2_ne, pk_us, pk_un, pk_uLs, pk_uLn, kup_Is, kup_In, kup_Js, kup_Jn, ku2_ku2, kup_I, kup_J, knar1, knar0]
  refine Gd_call (t_readNumber (D := 5) ht h2 h3 h4 (by omega) (by omega) (by omega)) ?_
  intro i1 l1 I1 J1 ⟨k1, e3, e4⟩
  have hv := rdc_v (tx := tx) (ln := ln) 5 p 0
  have hpb := rdc_b (tx := tx) (ln := ln) 5 p 0
  have hN := rdNum_c tx ln 5 p lo 99999
  have hFb := rcF_b tx ln 5 p (by omega) (by omega)
  obtain ⟨X, hX⟩ : ∃ X, spIt tx ln p acc = X := ⟨_, rfl⟩
  rw [hX]
  unfold spIt at hX
  rw [if_neg (by omega), hlo] at hX
  generalize rdNum tx ln 5 p lo 99999 = N at *
  generalize rcF tx ln 5 p 0 = f1 at *
  generalize rdc tx ln 5 p 0 = R at *
  have hNb : N.1 < 10000 := by
    rw [hN.1]
    unfold ff
    repeat' split
    all_goals omega
  have mid : ∀ (i2 : tI), i2 33 3 = nI R.1 → i2 33 4 = mI N.1 → Kp [(33, 3), (33, 4)] [] [] i i2 l l1 I I1 J J1 → Gd (ex (d + 2) mX6_readSpan 48 [some (.ref q), some (.ref 33), some (.int (nI p)), some (.int (nI R.2)), none] [] (mH h i2 l1 I1 J1 nw df P)) (Rt h nw df P none fun i' l' I' J' => Kp [(33, 3), (33, 4), (q, 2)] [] [q + 1, q + 2] i i' l l' I I' J J' ∧ pRes q ln X acc i' I') := fun i2 m3 m4 k2 => by
    have ht2 : cTx I1 tx ln := ht.c (k2.2.2.1 _ (by simp))
    conv => arg 1; simp (disch := first | assumption | omega | decide | exact bI_or _) only [X6_readSpan_0, X6_readSpan_1, X6_readSpan_4, X6_readSpan_5, X6_readSpan_6, X6_readSpan_7, X6_readSpan_10, X6_readSpan_11, X6_readSpan_12, X6_readSpan_15b, X6_readSpan_18, X6_readSpan_19, X6_readSpan_22, X6_readSpan_24b, X6_readSpan_27, X6_readSpan_28, X6_readSpan_29, X6_readSpan_32, X6_readSpan_33, X6_readSpan_36, X6_readSpan_37, X6_readSpan_38, X6_readSpan_39b, X6_readSpan_42, X6_readSpan_43, X6_readSpan_44, X6_readSpan_45, X6_readSpan_48, X6_readSpan_49, X6_readSpan_51, X6_readSpan_53, X6_readSpan_56, X6_readSpan_57, X6_readSpan_60, X6_readSpan_61, X6_readSpan_62, X6_readSpan_63, X6_readSpan_66, X6_readSpan_68, X6_readSpan_70, X6_readSpan_73b, X6_readSpan_76, X6_readSpan_77, X6_readSpan_78, X6_readSpan_79, X6_readSpan_82, X6_readSpan_83, X6_readSpan_86b, X6_readSpan_89, X6_readSpan_90, X6_readSpan_93, X6_readSpan_95b, X6_readSpan_98, X6_readSpan_99, X6_readSpan_102, X6_readSpan_103, X6_readSpan_106, X6_readSpan_107, X6_readSpan_108, X6_readSpan_109, X6_readSpan_112, X6_readSpan_113, X6_readSpan_116, X6_readSpan_118, X6_readSpan_119, X6_readSpan_120, X6_readSpan_121, X6_readSpan_124, X6_readSpan_125, X6_readSpan_126, X6_readSpan_129, kg10_3, show (5 : Int32) = nI 5 from rfl, kis10, kg7_2, show (0 : Int32) = nI 0 from rfl, show (10 : Int32) = nI 10 from rfl, kg7_0, kl7_0, ks7_0, show (1 : Int32) = nI 1 from rfl, show (3 : Int32) = nI 3 from rfl, show (58 : Int32) = nI 58 from rfl, show (4 : Int32) = nI 4 from rfl, kg10_4, kg7_1, kl7_1, ks7_1, kp7_2, exLt_c1, exLt_c2, exEq_c, exLt_t, exLt_f, exEq_s, exEq_t, exEq_f, exLt_mn, exLt_nm, exEq_mn, exEq_nm, exEq_mm, exEq_xf, exLtL_t, exLtL_f, exEqL_t, exEqL_f, exB_t, exB_f, exSw_t, exSw_f, exSw_0, klz_f, klz_g, kieq_f, kdivL, kdivI, kmodL, kmodI, knIL, lN_i, nI_add, pk_mul, pk_sub, pk_subm, kad1, kad2, lN_add, lN_mul, lN_sub, kkl_i, kkl_l, kkl_r, kkl_0, Option.bind_some, Option.toList_some, Option.toList_none, List.cons_append, List.nil_append, if_true, if_false, eq_self, not_true_eq_false, not_false_eq_true, ku2_eq, ku2_ne, pk_us, pk_un, pk_uLs, pk_uLn, kup_Is, kup_In, kup_Js, kup_Jn, ku2_ku2, kup_I, kup_J, knar1, knar0]
    refine Gd_call (t_pass (a := 58) (b := 58) ht2 ((k2.1 _ _ (by decide)).trans h2) m3 m4 (by omega) (by omega) (by omega) (by omega) (by omega)) ?_
    intro i3 l3 I3 J3 ⟨k3, g3, g4⟩
    have ht3 : cTx I3 tx ln := ht2.c (k3.2.2.1 _ (by simp))
    have k3' := Kp_trans k2 k3
    obtain ⟨p2, hp2⟩ : ∃ p2, (if R.1 < ln ∧ 58 ≤ tx R.1 ∧ tx R.1 ≤ 58 then R.1 + 1 else R.1) = p2 := ⟨_, rfl⟩
    obtain ⟨f2, hf2⟩ : ∃ f2, ff N.1 (if R.1 < ln ∧ 58 ≤ tx R.1 ∧ tx R.1 ≤ 58 then 0 else 1000 + R.1) = f2 := ⟨_, rfl⟩
    rw [hp2] at g3
    rw [hf2] at g4
    have hp2b : p2 ≤ 300 := by
      rw [← hp2]
      split <;> omega
    have hf2b : f2 < 10000 := by
      rw [← hf2]
      unfold ff
      repeat' split
      all_goals omega
    conv => arg 1; simp (disch := first | assumption | omega | decide | exact bI_or _) only [gt_3, g3, X6_readSpan_0, X6_readSpan_1, X6_readSpan_4, X6_readSpan_5, X6_readSpan_6, X6_readSpan_7, X6_readSpan_10, X6_readSpan_11, X6_readSpan_12, X6_readSpan_15b, X6_readSpan_18, X6_readSpan_19, X6_readSpan_22, X6_readSpan_24b, X6_readSpan_27, X6_readSpan_28, X6_readSpan_29, X6_readSpan_32, X6_readSpan_33, X6_readSpan_36, X6_readSpan_37, X6_readSpan_38, X6_readSpan_39b, X6_readSpan_42, X6_readSpan_43, X6_readSpan_44, X6_readSpan_45, X6_readSpan_48, X6_readSpan_49, X6_readSpan_51, X6_readSpan_53, X6_readSpan_56, X6_readSpan_57, X6_readSpan_60, X6_readSpan_61, X6_readSpan_62, X6_readSpan_63, X6_readSpan_66, X6_readSpan_68, X6_readSpan_70, X6_readSpan_73b, X6_readSpan_76, X6_readSpan_77, X6_readSpan_78, X6_readSpan_79, X6_readSpan_82, X6_readSpan_83, X6_readSpan_86b, X6_readSpan_89, X6_readSpan_90, X6_readSpan_93, X6_readSpan_95b, X6_readSpan_98, X6_readSpan_99, X6_readSpan_102, X6_readSpan_103, X6_readSpan_106, X6_readSpan_107, X6_readSpan_108, X6_readSpan_109, X6_readSpan_112, X6_readSpan_113, X6_readSpan_116, X6_readSpan_118, X6_readSpan_119, X6_readSpan_120, X6_readSpan_121, X6_readSpan_124, X6_readSpan_125, X6_readSpan_126, X6_readSpan_129, kg10_3, show (5 : Int32) = nI 5 from rfl, kis10, kg7_2, show (0 : Int32) = nI 0 from rfl, show (10 : Int32) = nI 10 from rfl, kg7_0, kl7_0, ks7_0, show (1 : Int32) = nI 1 from rfl, show (3 : Int32) = nI 3 from rfl, show (58 : Int32) = nI 58 from rfl, show (4 : Int32) = nI 4 from rfl, kg10_4, kg7_1, kl7_1, ks7_1, kp7_2, exLt_c1, exLt_c2, exEq_c, exLt_t, exLt_f, exEq_s, exEq_t, exEq_f, exLt_mn, exLt_nm, exEq_mn, exEq_nm, exEq_mm, exEq_xf, exLtL_t, exLtL_f, exEqL_t, exEqL_f, exB_t, exB_f, exSw_t, exSw_f, exSw_0, klz_f, klz_g, kieq_f, kdivL, kdivI, kmodL, kmodI, knIL, lN_i, nI_add, pk_mul, pk_sub, pk_subm, kad1, kad2, lN_add, lN_mul, lN_sub, kkl_i, kkl_l, kkl_r, kkl_0, Option.bind_some, Option.toList_some, Option.toList_none, List.cons_append, List.nil_append, if_true, if_false, eq_self, not_true_eq_false, not_false_eq_true, ku2_eq, ku2_ne, pk_us, pk_un, pk_uLs, pk_uLn, kup_Is, kup_In, kup_Js, kup_Jn, ku2_ku2, kup_I, kup_J, knar1, knar0]
    refine Gd_call (t_readNumber (D := 4) ht3 ((k3'.1 _ _ (by decide)).trans h2) g3 g4 (by omega) (by omega) (by omega)) ?_
    intro i4 l4 I4 J4 ⟨k4, r3, r4⟩
    have k4' := Kp_trans k3' k4
    have hv2 := rdc_v (tx := tx) (ln := ln) 4 p2 0
    have hpb2 := rdc_b (tx := tx) (ln := ln) 4 p2 0
    have hM := rdNum_c tx ln 4 p2 20 5000
    have hFb2 := rcF_b tx ln 4 p2 (by omega) (by omega)
    rw [rcF_f] at r4
    have hX1 : X.1 = ff f2 (rdNum tx ln 4 p2 20 5000).1 ∧ (X.1 = 0 → X.2 = ((R.2, (rdc tx ln 4 p2 0).2), (rdc tx ln 4 p2 0).1)) := by
      rw [← hX]
      by_cases c1 : N.1 = 0
      · have eN := hN.2 c1
        have eN1 : N.2.2 = R.1 := by rw [eN]
        have eN2 : N.2.1 = R.2 := by rw [eN]
        rw [if_neg (fun z => z c1), eN1, eN2]
        rw [c1, ff_z] at hf2
        by_cases c2 : R.1 < ln ∧ tx R.1 = 58
        · rw [if_pos (by omega)] at hp2 hf2
          rw [if_pos c2, hp2, ← hf2, ff_z]
          by_cases c3 : (rdNum tx ln 4 p2 20 5000).1 = 0
          · have eM := hM.2 c3
            rw [if_neg (fun z => z c3), eM]
            exact ⟨c3.symm, fun _ => rfl⟩
          · rw [if_pos c3]
            exact ⟨rfl, fun z => absurd z c3⟩
        · rw [if_neg (by omega)] at hf2
          rw [if_neg c2, ← hf2, ff_n (by omega)]
          refine ⟨rfl, fun z => ?_⟩
          have : 1000 + R.1 = 0 := z
          omega
      · rw [if_pos c1, ← hf2, ff_n c1, ff_n c1]
        exact ⟨rfl, fun z => absurd z c1⟩
    generalize rdNum tx ln 4 p2 20 5000 = M at *
    generalize rcF tx ln 4 p2 0 = f3 at *
    generalize rdc tx ln 4 p2 0 = S at *
    have hMb : M.1 < 10000 := by
      rw [hM.1]
      unfold ff
      repeat' split
      all_goals omega
    have hXb : X.1 < 10000 := by
      rw [hX1.1]
      unfold ff
      repeat' split
      all_goals omega
    have fin : ∀ (i5 : tI), i5 33 3 = nI S.1 → i5 33 4 = mI X.1 → Kp [(33, 3), (33, 4)] [] [] i i5 l l4 I I4 J J4 → Gd (ex (d + 2) mX6_readSpan 82 [some (.ref q), some (.ref 33), some (.int (nI p2)), some (.int (nI R.2)), some (.int (nI S.2))] [] (mH h i5 l4 I4 J4 nw df P)) (Rt h nw df P none fun i' l' I' J' => Kp [(33, 3), (33, 4), (q, 2)] [] [q + 1, q + 2] i i' l l' I I' J J' ∧ pRes q ln X acc i' I') := fun i5 n3 n4 k5 => by
      have n2 : i5 q 2 = nI acc.length := (k5.1 _ _ (by simp)).trans hk2
      by_cases c : X.1 = 0
      · have eX := hX1.2 c
        have n4' : i5 33 4 = nI 0 := by rw [n4, c]; rfl
        have u1 : I4 (q + 1) = I (q + 1) := k5.2.2.1 _ (by simp)
        have u2 : I4 (q + 2) = I (q + 2) := k5.2.2.1 _ (by simp)
        conv => arg 1; simp (disch := first | assumption | omega | decide | exact bI_or _) only [gt_4, n4', n2, X6_readSpan_0, X6_readSpan_1, X6_readSpan_4, X6_readSpan_5, X6_readSpan_6, X6_readSpan_7, X6_readSpan_10, X6_readSpan_11, X6_readSpan_12, X6_readSpan_15b, X6_readSpan_18, X6_readSpan_19, X6_readSpan_22, X6_readSpan_24b, X6_readSpan_27, X6_readSpan_28, X6_readSpan_29, X6_readSpan_32, X6_readSpan_33, X6_readSpan_36, X6_readSpan_37, X6_readSpan_38, X6_readSpan_39b, X6_readSpan_42, X6_readSpan_43, X6_readSpan_44, X6_readSpan_45, X6_readSpan_48, X6_readSpan_49, X6_readSpan_51, X6_readSpan_53, X6_readSpan_56, X6_readSpan_57, X6_readSpan_60, X6_readSpan_61, X6_readSpan_62, X6_readSpan_63, X6_readSpan_66, X6_readSpan_68, X6_readSpan_70, X6_readSpan_73b, X6_readSpan_76, X6_readSpan_77, X6_readSpan_78, X6_readSpan_79, X6_readSpan_82, X6_readSpan_83, X6_readSpan_86b, X6_readSpan_89, X6_readSpan_90, X6_readSpan_93, X6_readSpan_95b, X6_readSpan_98, X6_readSpan_99, X6_readSpan_102, X6_readSpan_103, X6_readSpan_106, X6_readSpan_107, X6_readSpan_108, X6_readSpan_109, X6_readSpan_112, X6_readSpan_113, X6_readSpan_116, X6_readSpan_118, X6_readSpan_119, X6_readSpan_120, X6_readSpan_121, X6_readSpan_124, X6_readSpan_125, X6_readSpan_126, X6_readSpan_129, kg10_3, show (5 : Int32) = nI 5 from rfl, kis10, kg7_2, show (0 : Int32) = nI 0 from rfl, show (10 : Int32) = nI 10 from rfl, kg7_0, kl7_0, ks7_0, show (1 : Int32) = nI 1 from rfl, show (3 : Int32) = nI 3 from rfl, show (58 : Int32) = nI 58 from rfl, show (4 : Int32) = nI 4 from rfl, kg10_4, kg7_1, kl7_1, ks7_1, kp7_2, exLt_c1, exLt_c2, exEq_c, exLt_t, exLt_f, exEq_s, exEq_t, exEq_f, exLt_mn, exLt_nm, exEq_mn, exEq_nm, exEq_mm, exEq_xf, exLtL_t, exLtL_f, exEqL_t, exEqL_f, exB_t, exB_f, exSw_t, exSw_f, exSw_0, klz_f, klz_g, kieq_f, kdivL, kdivI, kmodL, kmodI, knIL, lN_i, nI_add, pk_mul, pk_sub, pk_subm, kad1, kad2, lN_add, lN_mul, lN_sub, kkl_i, kkl_l, kkl_r, kkl_0, Option.bind_some, Option.toList_some, Option.toList_none, List.cons_append, List.nil_append, if_true, if_false, eq_self, not_true_eq_false, not_false_eq_true, ku2_eq, ku2_ne, pk_us, pk_un, pk_uLs, pk_uLn, kup_Is, kup_In, kup_Js, kup_Jn, ku2_ku2, kup_I, kup_J, knar1, knar0]
        refine Gd_rt ⟨Kp_i (Kp_I (Kp_I (Kp_mono k5 (by simp) (by simp) (by simp)) (by simp)) (by simp)) (by simp), by rw [c]; simp (disch := first | assumption | omega | decide | exact bI_or _) only [n4', exLt_c1, exLt_c2, exEq_c, exLt_t, exLt_f, exEq_s, exEq_t, exEq_f, exLt_mn, exLt_nm, exEq_mn, exEq_nm, exEq_mm, exEq_xf, exLtL_t, exLtL_f, exEqL_t, exEqL_f, exB_t, exB_f, exSw_t, exSw_f, exSw_0, klz_f, klz_g, kieq_f, kdivL, kdivI, kmodL, kmodI, knIL, lN_i, nI_add, pk_mul, pk_sub, pk_subm, kad1, kad2, lN_add, lN_mul, lN_sub, kkl_i, kkl_l, kkl_r, kkl_0, Option.bind_some, Option.toList_some, Option.toList_none, List.cons_append, List.nil_append, if_true, if_false, eq_self, not_true_eq_false, not_false_eq_true, ku2_eq, ku2_ne, pk_us, pk_un, pk_uLs, pk_uLn, kup_Is, kup_In, kup_Js, kup_Jn, ku2_ku2, kup_I, kup_J, knar1, knar0]; rfl, by omega, fun z => absurd c z, fun _ => ?_⟩
        rw [eX]
        refine ⟨by simp (disch := first | assumption | omega | decide | exact bI_or _) only [n3, exLt_c1, exLt_c2, exEq_c, exLt_t, exLt_f, exEq_s, exEq_t, exEq_f, exLt_mn, exLt_nm, exEq_mn, exEq_nm, exEq_mm, exEq_xf, exLtL_t, exLtL_f, exEqL_t, exEqL_f, exB_t, exB_f, exSw_t, exSw_f, exSw_0, klz_f, klz_g, kieq_f, kdivL, kdivI, kmodL, kmodI, knIL, lN_i, nI_add, pk_mul, pk_sub, pk_subm, kad1, kad2, lN_add, lN_mul, lN_sub, kkl_i, kkl_l, kkl_r, kkl_0, Option.bind_some, Option.toList_some, Option.toList_none, List.cons_append, List.nil_append, if_true, if_false, eq_self, not_true_eq_false, not_false_eq_true, ku2_eq, ku2_ne, pk_us, pk_un, pk_uLs, pk_uLn, kup_Is, kup_In, kup_Js, kup_Jn, ku2_ku2, kup_I, kup_J, knar1, knar0], cKn_app hk (by simp (disch := first | assumption | omega | decide | exact bI_or _) only [exLt_c1, exLt_c2, exEq_c, exLt_t, exLt_f, exEq_s, exEq_t, exEq_f, exLt_mn, exLt_nm, exEq_mn, exEq_nm, exEq_mm, exEq_xf, exLtL_t, exLtL_f, exEqL_t, exEqL_f, exB_t, exB_f, exSw_t, exSw_f, exSw_0, klz_f, klz_g, kieq_f, kdivL, kdivI, kmodL, kmodI, knIL, lN_i, nI_add, pk_mul, pk_sub, pk_subm, kad1, kad2, lN_add, lN_mul, lN_sub, kkl_i, kkl_l, kkl_r, kkl_0, Option.bind_some, Option.toList_some, Option.toList_none, List.cons_append, List.nil_append, if_true, if_false, eq_self, not_true_eq_false, not_false_eq_true, ku2_eq, ku2_ne, pk_us, pk_un, pk_uLs, pk_uLn, kup_Is, kup_In, kup_Js, kup_Jn, ku2_ku2, kup_I, kup_J, knar1, knar0]) ?_ ?_⟩
        · simp (disch := first | assumption | omega | decide | exact bI_or _) only [u1, exLt_c1, exLt_c2, exEq_c, exLt_t, exLt_f, exEq_s, exEq_t, exEq_f, exLt_mn, exLt_nm, exEq_mn, exEq_nm, exEq_mm, exEq_xf, exLtL_t, exLtL_f, exEqL_t, exEqL_f, exB_t, exB_f, exSw_t, exSw_f, exSw_0, klz_f, klz_g, kieq_f, kdivL, kdivI, kmodL, kmodI, knIL, lN_i, nI_add, pk_mul, pk_sub, pk_subm, kad1, kad2, lN_add, lN_mul, lN_sub, kkl_i, kkl_l, kkl_r, kkl_0, Option.bind_some, Option.toList_some, Option.toList_none, List.cons_append, List.nil_append, if_true, if_false, eq_self, not_true_eq_false, not_false_eq_true, ku2_eq, ku2_ne, pk_us, pk_un, pk_uLs, pk_uLn, kup_Is, kup_In, kup_Js, kup_Jn, ku2_ku2, kup_I, kup_J, knar1, knar0]
        · simp (disch := first | assumption | omega | decide | exact bI_or _) only [u2, exLt_c1, exLt_c2, exEq_c, exLt_t, exLt_f, exEq_s, exEq_t, exEq_f, exLt_mn, exLt_nm, exEq_mn, exEq_nm, exEq_mm, exEq_xf, exLtL_t, exLtL_f, exEqL_t, exEqL_f, exB_t, exB_f, exSw_t, exSw_f, exSw_0, klz_f, klz_g, kieq_f, kdivL, kdivI, kmodL, kmodI, knIL, lN_i, nI_add, pk_mul, pk_sub, pk_subm, kad1, kad2, lN_add, lN_mul, lN_sub, kkl_i, kkl_l, kkl_r, kkl_0, Option.bind_some, Option.toList_some, Option.toList_none, List.cons_append, List.nil_append, if_true, if_false, eq_self, not_true_eq_false, not_false_eq_true, ku2_eq, ku2_ne, pk_us, pk_un, pk_uLs, pk_uLn, kup_Is, kup_In, kup_Js, kup_Jn, ku2_ku2, kup_I, kup_J, knar1, knar0]
      · have c2 : 0 < X.1 := by omega
        conv => arg 1; simp (disch := first | assumption | omega | decide | exact bI_or _) only [gt_4, n4, X6_readSpan_0, X6_readSpan_1, X6_readSpan_4, X6_readSpan_5, X6_readSpan_6, X6_readSpan_7, X6_readSpan_10, X6_readSpan_11, X6_readSpan_12, X6_readSpan_15b, X6_readSpan_18, X6_readSpan_19, X6_readSpan_22, X6_readSpan_24b, X6_readSpan_27, X6_readSpan_28, X6_readSpan_29, X6_readSpan_32, X6_readSpan_33, X6_readSpan_36, X6_readSpan_37, X6_readSpan_38, X6_readSpan_39b, X6_readSpan_42, X6_readSpan_43, X6_readSpan_44, X6_readSpan_45, X6_readSpan_48, X6_readSpan_49, X6_readSpan_51, X6_readSpan_53, X6_readSpan_56, X6_readSpan_57, X6_readSpan_60, X6_readSpan_61, X6_readSpan_62, X6_readSpan_63, X6_readSpan_66, X6_readSpan_68, X6_readSpan_70, X6_readSpan_73b, X6_readSpan_76, X6_readSpan_77, X6_readSpan_78, X6_readSpan_79, X6_readSpan_82, X6_readSpan_83, X6_readSpan_86b, X6_readSpan_89, X6_readSpan_90, X6_readSpan_93, X6_readSpan_95b, X6_readSpan_98, X6_readSpan_99, X6_readSpan_102, X6_readSpan_103, X6_readSpan_106, X6_readSpan_107, X6_readSpan_108, X6_readSpan_109, X6_readSpan_112, X6_readSpan_113, X6_readSpan_116, X6_readSpan_118, X6_readSpan_119, X6_readSpan_120, X6_readSpan_121, X6_readSpan_124, X6_readSpan_125, X6_readSpan_126, X6_readSpan_129, kg10_3, show (5 : Int32) = nI 5 from rfl, kis10, kg7_2, show (0 : Int32) = nI 0 from rfl, show (10 : Int32) = nI 10 from rfl, kg7_0, kl7_0, ks7_0, show (1 : Int32) = nI 1 from rfl, show (3 : Int32) = nI 3 from rfl, show (58 : Int32) = nI 58 from rfl, show (4 : Int32) = nI 4 from rfl, kg10_4, kg7_1, kl7_1, ks7_1, kp7_2, exLt_c1, exLt_c2, exEq_c, exLt_t, exLt_f, exEq_s, exEq_t, exEq_f, exLt_mn, exLt_nm, exEq_mn, exEq_nm, exEq_mm, exEq_xf, exLtL_t, exLtL_f, exEqL_t, exEqL_f, exB_t, exB_f, exSw_t, exSw_f, exSw_0, klz_f, klz_g, kieq_f, kdivL, kdivI, kmodL, kmodI, knIL, lN_i, nI_add, pk_mul, pk_sub, pk_subm, kad1, kad2, lN_add, lN_mul, lN_sub, kkl_i, kkl_l, kkl_r, kkl_0, Option.bind_some, Option.toList_some, Option.toList_none, List.cons_append, List.nil_append, if_true, if_false, eq_self, not_true_eq_false, not_false_eq_true, ku2_eq, ku2_ne, pk_us, pk_un, pk_uLs, pk_uLn, kup_Is, kup_In, kup_Js, kup_Jn, ku2_ku2, kup_I, kup_J, knar1, knar0]
        exact Gd_rt ⟨Kp_mono k5 (by simp) (by simp) (by simp), n4, by omega, fun _ => ⟨S.1, by omega, n3⟩, fun z => absurd z c⟩
    have hff : ff f2 f3 < 2147483648 := by
      unfold ff
      split <;> omega
    conv => arg 1; simp (disch := first | assumption | omega | decide | exact bI_or _) only [c_isTurn, X6_readSpan_0, X6_readSpan_1, X6_readSpan_4, X6_readSpan_5, X6_readSpan_6, X6_readSpan_7, X6_readSpan_10, X6_readSpan_11, X6_readSpan_12, X6_readSpan_15b, X6_readSpan_18, X6_readSpan_19, X6_readSpan_22, X6_readSpan_24b, X6_readSpan_27, X6_readSpan_28, X6_readSpan_29, X6_readSpan_32, X6_readSpan_33, X6_readSpan_36, X6_readSpan_37, X6_readSpan_38, X6_readSpan_39b, X6_readSpan_42, X6_readSpan_43, X6_readSpan_44, X6_readSpan_45, X6_readSpan_48, X6_readSpan_49, X6_readSpan_51, X6_readSpan_53, X6_readSpan_56, X6_readSpan_57, X6_readSpan_60, X6_readSpan_61, X6_readSpan_62, X6_readSpan_63, X6_readSpan_66, X6_readSpan_68, X6_readSpan_70, X6_readSpan_73b, X6_readSpan_76, X6_readSpan_77, X6_readSpan_78, X6_readSpan_79, X6_readSpan_83, X6_readSpan_86b, X6_readSpan_89, X6_readSpan_90, X6_readSpan_93, X6_readSpan_95b, X6_readSpan_98, X6_readSpan_99, X6_readSpan_102, X6_readSpan_103, X6_readSpan_106, X6_readSpan_107, X6_readSpan_108, X6_readSpan_109, X6_readSpan_112, X6_readSpan_113, X6_readSpan_116, X6_readSpan_118, X6_readSpan_119, X6_readSpan_120, X6_readSpan_121, X6_readSpan_124, X6_readSpan_125, X6_readSpan_126, X6_readSpan_129, kg10_3, show (5 : Int32) = nI 5 from rfl, kis10, kg7_2, show (0 : Int32) = nI 0 from rfl, show (10 : Int32) = nI 10 from rfl, kg7_0, kl7_0, ks7_0, show (1 : Int32) = nI 1 from rfl, show (3 : Int32) = nI 3 from rfl, show (58 : Int32) = nI 58 from rfl, show (4 : Int32) = nI 4 from rfl, kg10_4, kg7_1, kl7_1, ks7_1, kp7_2, exLt_c1, exLt_c2, exEq_c, exLt_t, exLt_f, exEq_s, exEq_t, exEq_f, exLt_mn, exLt_nm, exEq_mn, exEq_nm, exEq_mm, exEq_xf, exLtL_t, exLtL_f, exEqL_t, exEqL_f, exB_t, exB_f, exSw_t, exSw_f, exSw_0, klz_f, klz_g, kieq_f, kdivL, kdivI, kmodL, kmodI, knIL, lN_i, nI_add, pk_mul, pk_sub, pk_subm, kad1, kad2, lN_add, lN_mul, lN_sub, kkl_i, kkl_l, kkl_r, kkl_0, Option.bind_some, Option.toList_some, Option.toList_none, List.cons_append, List.nil_append, if_true, if_false, eq_self, not_true_eq_false, not_false_eq_true, ku2_eq, ku2_ne, pk_us, pk_un, pk_uLs, pk_uLn, kup_Is, kup_In, kup_Js, kup_Jn, ku2_ku2, kup_I, kup_J, knar1, knar0]
    refine Gd_b (fun c => ?_) (fun c => ?_)
    · conv => arg 1; simp (disch := first | assumption | omega | decide | exact bI_or _) only [X6_readSpan_0, X6_readSpan_1, X6_readSpan_4, X6_readSpan_5, X6_readSpan_6, X6_readSpan_7, X6_readSpan_10, X6_readSpan_11, X6_readSpan_12, X6_readSpan_15b, X6_readSpan_18, X6_readSpan_19, X6_readSpan_22, X6_readSpan_24b, X6_readSpan_27, X6_readSpan_28, X6_readSpan_29, X6_readSpan_32, X6_readSpan_33, X6_readSpan_36, X6_readSpan_37, X6_readSpan_38, X6_readSpan_39b, X6_readSpan_42, X6_readSpan_43, X6_readSpan_44, X6_readSpan_45, X6_readSpan_48, X6_readSpan_49, X6_readSpan_51, X6_readSpan_53, X6_readSpan_56, X6_readSpan_57, X6_readSpan_60, X6_readSpan_61, X6_readSpan_62, X6_readSpan_63, X6_readSpan_66, X6_readSpan_68, X6_readSpan_70, X6_readSpan_73b, X6_readSpan_76, X6_readSpan_77, X6_readSpan_78, X6_readSpan_79, X6_readSpan_83, X6_readSpan_86b, X6_readSpan_89, X6_readSpan_90, X6_readSpan_93, X6_readSpan_95b, X6_readSpan_98, X6_readSpan_99, X6_readSpan_102, X6_readSpan_103, X6_readSpan_106, X6_readSpan_107, X6_readSpan_108, X6_readSpan_109, X6_readSpan_112, X6_readSpan_113, X6_readSpan_116, X6_readSpan_118, X6_readSpan_119, X6_readSpan_120, X6_readSpan_121, X6_readSpan_124, X6_readSpan_125, X6_readSpan_126, X6_readSpan_129, kg10_3, show (5 : Int32) = nI 5 from rfl, kis10, kg7_2, show (0 : Int32) = nI 0 from rfl, show (10 : Int32) = nI 10 from rfl, kg7_0, kl7_0, ks7_0, show (1 : Int32) = nI 1 from rfl, show (3 : Int32) = nI 3 from rfl, show (58 : Int32) = nI 58 from rfl, show (4 : Int32) = nI 4 from rfl, kg10_4, kg7_1, kl7_1, ks7_1, kp7_2, exLt_c1, exLt_c2, exEq_c, exLt_t, exLt_f, exEq_s, exEq_t, exEq_f, exLt_mn, exLt_nm, exEq_mn, exEq_nm, exEq_mm, exEq_xf, exLtL_t, exLtL_f, exEqL_t, exEqL_f, exB_t, exB_f, exSw_t, exSw_f, exSw_0, klz_f, klz_g, kieq_f, kdivL, kdivI, kmodL, kmodI, knIL, lN_i, nI_add, pk_mul, pk_sub, pk_subm, kad1, kad2, lN_add, lN_mul, lN_sub, kkl_i, kkl_l, kkl_r, kkl_0, Option.bind_some, Option.toList_some, Option.toList_none, List.cons_append, List.nil_append, if_true, if_false, eq_self, not_true_eq_false, not_false_eq_true, ku2_eq, ku2_ne, pk_us, pk_un, pk_uLs, pk_uLn, kup_Is, kup_In, kup_Js, kup_Jn, ku2_ku2, kup_I, kup_J, knar1, knar0]
      refine fin i4 r3 ?_ k4'
      rw [r4, hX1.1, hM.1, if_pos c, ff_0]
    · conv => arg 1; simp (disch := first | assumption | omega | decide | exact bI_or _) only [t_refuseN r4, X6_readSpan_0, X6_readSpan_1, X6_readSpan_4, X6_readSpan_5, X6_readSpan_6, X6_readSpan_7, X6_readSpan_10, X6_readSpan_11, X6_readSpan_12, X6_readSpan_15b, X6_readSpan_18, X6_readSpan_19, X6_readSpan_22, X6_readSpan_24b, X6_readSpan_27, X6_readSpan_28, X6_readSpan_29, X6_readSpan_32, X6_readSpan_33, X6_readSpan_36, X6_readSpan_37, X6_readSpan_38, X6_readSpan_39b, X6_readSpan_42, X6_readSpan_43, X6_readSpan_44, X6_readSpan_45, X6_readSpan_48, X6_readSpan_49, X6_readSpan_51, X6_readSpan_53, X6_readSpan_56, X6_readSpan_57, X6_readSpan_60, X6_readSpan_61, X6_readSpan_62, X6_readSpan_63, X6_readSpan_66, X6_readSpan_68, X6_readSpan_70, X6_readSpan_73b, X6_readSpan_76, X6_readSpan_77, X6_readSpan_78, X6_readSpan_79, X6_readSpan_83, X6_readSpan_86b, X6_readSpan_89, X6_readSpan_90, X6_readSpan_93, X6_readSpan_95b, X6_readSpan_98, X6_readSpan_99, X6_readSpan_102, X6_readSpan_103, X6_readSpan_106, X6_readSpan_107, X6_readSpan_108, X6_readSpan_109, X6_readSpan_112, X6_readSpan_113, X6_readSpan_116, X6_readSpan_118, X6_readSpan_119, X6_readSpan_120, X6_readSpan_121, X6_readSpan_124, X6_readSpan_125, X6_readSpan_126, X6_readSpan_129, kg10_3, show (5 : Int32) = nI 5 from rfl, kis10, kg7_2, show (0 : Int32) = nI 0 from rfl, show (10 : Int32) = nI 10 from rfl, kg7_0, kl7_0, ks7_0, show (1 : Int32) = nI 1 from rfl, show (3 : Int32) = nI 3 from rfl, show (58 : Int32) = nI 58 from rfl, show (4 : Int32) = nI 4 from rfl, kg10_4, kg7_1, kl7_1, ks7_1, kp7_2, exLt_c1, exLt_c2, exEq_c, exLt_t, exLt_f, exEq_s, exEq_t, exEq_f, exLt_mn, exLt_nm, exEq_mn, exEq_nm, exEq_mm, exEq_xf, exLtL_t, exLtL_f, exEqL_t, exEqL_f, exB_t, exB_f, exSw_t, exSw_f, exSw_0, klz_f, klz_g, kieq_f, kdivL, kdivI, kmodL, kmodI, knIL, lN_i, nI_add, pk_mul, pk_sub, pk_subm, kad1, kad2, lN_add, lN_mul, lN_sub, kkl_i, kkl_l, kkl_r, kkl_0, Option.bind_some, Option.toList_some, Option.toList_none, List.cons_append, List.nil_append, if_true, if_false, eq_self, not_true_eq_false, not_false_eq_true, ku2_eq, ku2_ne, pk_us, pk_un, pk_uLs, pk_uLn, kup_Is, kup_In, kup_Js, kup_Jn, ku2_ku2, kup_I, kup_J, knar1, knar0]
      refine fin (ku2 i4 33 4 (mI (ff (ff f2 f3) (1000 * 3 + p2)))) (by simp (disch := first | assumption | omega | decide | exact bI_or _) only [r3, exLt_c1, exLt_c2, exEq_c, exLt_t, exLt_f, exEq_s, exEq_t, exEq_f, exLt_mn, exLt_nm, exEq_mn, exEq_nm, exEq_mm, exEq_xf, exLtL_t, exLtL_f, exEqL_t, exEqL_f, exB_t, exB_f, exSw_t, exSw_f, exSw_0, klz_f, klz_g, kieq_f, kdivL, kdivI, kmodL, kmodI, knIL, lN_i, nI_add, pk_mul, pk_sub, pk_subm, kad1, kad2, lN_add, lN_mul, lN_sub, kkl_i, kkl_l, kkl_r, kkl_0, Option.bind_some, Option.toList_some, Option.toList_none, List.cons_append, List.nil_append, if_true, if_false, eq_self, not_true_eq_false, not_false_eq_true, ku2_eq, ku2_ne, pk_us, pk_un, pk_uLs, pk_uLn, kup_Is, kup_In, kup_Js, kup_Jn, ku2_ku2, kup_I, kup_J, knar1, knar0]) ?_ (Kp_i k4' (by decide))
      rw [ku2_eq, hX1.1, hM.1, if_neg c, ff_as]
  have n2 : i1 q 2 = nI acc.length := (k1.1 _ _ (by simp)).trans hk2
  have u1 : I1 (q + 1) = I (q + 1) := k1.2.2.1 _ (by simp)
  by_cases c : acc.length = 0
  · rw [if_pos c] at hlo
    conv => arg 1; simp (disch := first | assumption | omega | decide | exact bI_or _) only [n2, X6_readSpan_0, X6_readSpan_1, X6_readSpan_4, X6_readSpan_5, X6_readSpan_6, X6_readSpan_7, X6_readSpan_10, X6_readSpan_11, X6_readSpan_12, X6_readSpan_15b, X6_readSpan_18, X6_readSpan_19, X6_readSpan_22, X6_readSpan_24b, X6_readSpan_27, X6_readSpan_28, X6_readSpan_29, X6_readSpan_32, X6_readSpan_33, X6_readSpan_36, X6_readSpan_37, X6_readSpan_38, X6_readSpan_39b, X6_readSpan_42, X6_readSpan_43, X6_readSpan_44, X6_readSpan_45, X6_readSpan_49, X6_readSpan_51, X6_readSpan_53, X6_readSpan_56, X6_readSpan_57, X6_readSpan_60, X6_readSpan_61, X6_readSpan_62, X6_readSpan_63, X6_readSpan_66, X6_readSpan_68, X6_readSpan_70, X6_readSpan_73b, X6_readSpan_76, X6_readSpan_77, X6_readSpan_78, X6_readSpan_79, X6_readSpan_82, X6_readSpan_83, X6_readSpan_86b, X6_readSpan_89, X6_readSpan_90, X6_readSpan_93, X6_readSpan_95b, X6_readSpan_98, X6_readSpan_99, X6_readSpan_102, X6_readSpan_103, X6_readSpan_106, X6_readSpan_107, X6_readSpan_108, X6_readSpan_109, X6_readSpan_112, X6_readSpan_113, X6_readSpan_116, X6_readSpan_118, X6_readSpan_119, X6_readSpan_120, X6_readSpan_121, X6_readSpan_124, X6_readSpan_125, X6_readSpan_126, X6_readSpan_129, kg10_3, show (5 : Int32) = nI 5 from rfl, kis10, kg7_2, show (0 : Int32) = nI 0 from rfl, show (10 : Int32) = nI 10 from rfl, kg7_0, kl7_0, ks7_0, show (1 : Int32) = nI 1 from rfl, show (3 : Int32) = nI 3 from rfl, show (58 : Int32) = nI 58 from rfl, show (4 : Int32) = nI 4 from rfl, kg10_4, kg7_1, kl7_1, ks7_1, kp7_2, exLt_c1, exLt_c2, exEq_c, exLt_t, exLt_f, exEq_s, exEq_t, exEq_f, exLt_mn, exLt_nm, exEq_mn, exEq_nm, exEq_mm, exEq_xf, exLtL_t, exLtL_f, exEqL_t, exEqL_f, exB_t, exB_f, exSw_t, exSw_f, exSw_0, klz_f, klz_g, kieq_f, kdivL, kdivI, kmodL, kmodI, knIL, lN_i, nI_add, pk_mul, pk_sub, pk_subm, kad1, kad2, lN_add, lN_mul, lN_sub, kkl_i, kkl_l, kkl_r, kkl_0, Option.bind_some, Option.toList_some, Option.toList_none, List.cons_append, List.nil_append, if_true, if_false, eq_self, not_true_eq_false, not_false_eq_true, ku2_eq, ku2_ne, pk_us, pk_un, pk_uLs, pk_uLn, kup_Is, kup_In, kup_Js, kup_Jn, ku2_ku2, kup_I, kup_J, knar1, knar0]
    refine mid i1 e3 ?_ k1
    rw [e4, hN.1, if_pos (by omega), ff_0]
  · rw [if_neg c] at hlo
    have d1 := (hk.2 (acc.length - 1) (by omega)).1
    have d2 := hb (acc.length - 1) (by omega)
    have c2 : 0 < acc.length := by omega
    conv => arg 1; simp (disch := first | assumption | omega | decide | exact bI_or _) only [n2, u1, d1, X6_readSpan_0, X6_readSpan_1, X6_readSpan_4, X6_readSpan_5, X6_readSpan_6, X6_readSpan_7, X6_readSpan_10, X6_readSpan_11, X6_readSpan_12, X6_readSpan_15b, X6_readSpan_18, X6_readSpan_19, X6_readSpan_22, X6_readSpan_24b, X6_readSpan_27, X6_readSpan_28, X6_readSpan_29, X6_readSpan_32, X6_readSpan_33, X6_readSpan_36, X6_readSpan_37, X6_readSpan_38, X6_readSpan_39b, X6_readSpan_42, X6_readSpan_43, X6_readSpan_44, X6_readSpan_45, X6_readSpan_49, X6_readSpan_51, X6_readSpan_53, X6_readSpan_56, X6_readSpan_57, X6_readSpan_60, X6_readSpan_61, X6_readSpan_62, X6_readSpan_63, X6_readSpan_66, X6_readSpan_68, X6_readSpan_70, X6_readSpan_73b, X6_readSpan_76, X6_readSpan_77, X6_readSpan_78, X6_readSpan_79, X6_readSpan_82, X6_readSpan_83, X6_readSpan_86b, X6_readSpan_89, X6_readSpan_90, X6_readSpan_93, X6_readSpan_95b, X6_readSpan_98, X6_readSpan_99, X6_readSpan_102, X6_readSpan_103, X6_readSpan_106, X6_readSpan_107, X6_readSpan_108, X6_readSpan_109, X6_readSpan_112, X6_readSpan_113, X6_readSpan_116, X6_readSpan_118, X6_readSpan_119, X6_readSpan_120, X6_readSpan_121, X6_readSpan_124, X6_readSpan_125, X6_readSpan_126, X6_readSpan_129, kg10_3, show (5 : Int32) = nI 5 from rfl, kis10, kg7_2, show (0 : Int32) = nI 0 from rfl, show (10 : Int32) = nI 10 from rfl, kg7_0, kl7_0, ks7_0, show (1 : Int32) = nI 1 from rfl, show (3 : Int32) = nI 3 from rfl, show (58 : Int32) = nI 58 from rfl, show (4 : Int32) = nI 4 from rfl, kg10_4, kg7_1, kl7_1, ks7_1, kp7_2, exLt_c1, exLt_c2, exEq_c, exLt_t, exLt_f, exEq_s, exEq_t, exEq_f, exLt_mn, exLt_nm, exEq_mn, exEq_nm, exEq_mm, exEq_xf, exLtL_t, exLtL_f, exEqL_t, exEqL_f, exB_t, exB_f, exSw_t, exSw_f, exSw_0, klz_f, klz_g, kieq_f, kdivL, kdivI, kmodL, kmodI, knIL, lN_i, nI_add, pk_mul, pk_sub, pk_subm, kad1, kad2, lN_add, lN_mul, lN_sub, kkl_i, kkl_l, kkl_r, kkl_0, Option.bind_some, Option.toList_some, Option.toList_none, List.cons_append, List.nil_append, if_true, if_false, eq_self, not_true_eq_false, not_false_eq_true, ku2_eq, ku2_ne, pk_us, pk_un, pk_uLs, pk_uLn, kup_Is, kup_In, kup_Js, kup_Jn, ku2_ku2, kup_I, kup_J, knar1, knar0]
    refine Gd_lt (by omega) (by omega) (fun c3 => ?_) (fun c3 => ?_)
    · conv => arg 1; simp (disch := first | assumption | omega | decide | exact bI_or _) only [X6_readSpan_0, X6_readSpan_1, X6_readSpan_4, X6_readSpan_5, X6_readSpan_6, X6_readSpan_7, X6_readSpan_10, X6_readSpan_11, X6_readSpan_12, X6_readSpan_15b, X6_readSpan_18, X6_readSpan_19, X6_readSpan_22, X6_readSpan_24b, X6_readSpan_27, X6_readSpan_28, X6_readSpan_29, X6_readSpan_32, X6_readSpan_33, X6_readSpan_36, X6_readSpan_37, X6_readSpan_38, X6_readSpan_39b, X6_readSpan_42, X6_readSpan_43, X6_readSpan_44, X6_readSpan_45, X6_readSpan_49, X6_readSpan_51, X6_readSpan_53, X6_readSpan_56, X6_readSpan_57, X6_readSpan_60, X6_readSpan_61, X6_readSpan_62, X6_readSpan_63, X6_readSpan_66, X6_readSpan_68, X6_readSpan_70, X6_readSpan_73b, X6_readSpan_76, X6_readSpan_77, X6_readSpan_78, X6_readSpan_79, X6_readSpan_82, X6_readSpan_83, X6_readSpan_86b, X6_readSpan_89, X6_readSpan_90, X6_readSpan_93, X6_readSpan_95b, X6_readSpan_98, X6_readSpan_99, X6_readSpan_102, X6_readSpan_103, X6_readSpan_106, X6_readSpan_107, X6_readSpan_108, X6_readSpan_109, X6_readSpan_112, X6_readSpan_113, X6_readSpan_116, X6_readSpan_118, X6_readSpan_119, X6_readSpan_120, X6_readSpan_121, X6_readSpan_124, X6_readSpan_125, X6_readSpan_126, X6_readSpan_129, kg10_3, show (5 : Int32) = nI 5 from rfl, kis10, kg7_2, show (0 : Int32) = nI 0 from rfl, show (10 : Int32) = nI 10 from rfl, kg7_0, kl7_0, ks7_0, show (1 : Int32) = nI 1 from rfl, show (3 : Int32) = nI 3 from rfl, show (58 : Int32) = nI 58 from rfl, show (4 : Int32) = nI 4 from rfl, kg10_4, kg7_1, kl7_1, ks7_1, kp7_2, exLt_c1, exLt_c2, exEq_c, exLt_t, exLt_f, exEq_s, exEq_t, exEq_f, exLt_mn, exLt_nm, exEq_mn, exEq_nm, exEq_mm, exEq_xf, exLtL_t, exLtL_f, exEqL_t, exEqL_f, exB_t, exB_f, exSw_t, exSw_f, exSw_0, klz_f, klz_g, kieq_f, kdivL, kdivI, kmodL, kmodI, knIL, lN_i, nI_add, pk_mul, pk_sub, pk_subm, kad1, kad2, lN_add, lN_mul, lN_sub, kkl_i, kkl_l, kkl_r, kkl_0, Option.bind_some, Option.toList_some, Option.toList_none, List.cons_append, List.nil_append, if_true, if_false, eq_self, not_true_eq_false, not_false_eq_true, ku2_eq, ku2_ne, pk_us, pk_un, pk_uLs, pk_uLn, kup_Is, kup_In, kup_Js, kup_Jn, ku2_ku2, kup_I, kup_J, knar1, knar0]
      refine mid i1 e3 ?_ k1
      rw [e4, hN.1, if_pos (by omega), ff_0]
    · conv => arg 1; simp (disch := first | assumption | omega | decide | exact bI_or _) only [t_refuseN e4, X6_readSpan_0, X6_readSpan_1, X6_readSpan_4, X6_readSpan_5, X6_readSpan_6, X6_readSpan_7, X6_readSpan_10, X6_readSpan_11, X6_readSpan_12, X6_readSpan_15b, X6_readSpan_18, X6_readSpan_19, X6_readSpan_22, X6_readSpan_24b, X6_readSpan_27, X6_readSpan_28, X6_readSpan_29, X6_readSpan_32, X6_readSpan_33, X6_readSpan_36, X6_readSpan_37, X6_readSpan_38, X6_readSpan_39b, X6_readSpan_42, X6_readSpan_43, X6_readSpan_44, X6_readSpan_45, X6_readSpan_49, X6_readSpan_51, X6_readSpan_53, X6_readSpan_56, X6_readSpan_57, X6_readSpan_60, X6_readSpan_61, X6_readSpan_62, X6_readSpan_63, X6_readSpan_66, X6_readSpan_68, X6_readSpan_70, X6_readSpan_73b, X6_readSpan_76, X6_readSpan_77, X6_readSpan_78, X6_readSpan_79, X6_readSpan_82, X6_readSpan_83, X6_readSpan_86b, X6_readSpan_89, X6_readSpan_90, X6_readSpan_93, X6_readSpan_95b, X6_readSpan_98, X6_readSpan_99, X6_readSpan_102, X6_readSpan_103, X6_readSpan_106, X6_readSpan_107, X6_readSpan_108, X6_readSpan_109, X6_readSpan_112, X6_readSpan_113, X6_readSpan_116, X6_readSpan_118, X6_readSpan_119, X6_readSpan_120, X6_readSpan_121, X6_readSpan_124, X6_readSpan_125, X6_readSpan_126, X6_readSpan_129, kg10_3, show (5 : Int32) = nI 5 from rfl, kis10, kg7_2, show (0 : Int32) = nI 0 from rfl, show (10 : Int32) = nI 10 from rfl, kg7_0, kl7_0, ks7_0, show (1 : Int32) = nI 1 from rfl, show (3 : Int32) = nI 3 from rfl, show (58 : Int32) = nI 58 from rfl, show (4 : Int32) = nI 4 from rfl, kg10_4, kg7_1, kl7_1, ks7_1, kp7_2, exLt_c1, exLt_c2, exEq_c, exLt_t, exLt_f, exEq_s, exEq_t, exEq_f, exLt_mn, exLt_nm, exEq_mn, exEq_nm, exEq_mm, exEq_xf, exLtL_t, exLtL_f, exEqL_t, exEqL_f, exB_t, exB_f, exSw_t, exSw_f, exSw_0, klz_f, klz_g, kieq_f, kdivL, kdivI, kmodL, kmodI, knIL, lN_i, nI_add, pk_mul, pk_sub, pk_subm, kad1, kad2, lN_add, lN_mul, lN_sub, kkl_i, kkl_l, kkl_r, kkl_0, Option.bind_some, Option.toList_some, Option.toList_none, List.cons_append, List.nil_append, if_true, if_false, eq_self, not_true_eq_false, not_false_eq_true, ku2_eq, ku2_ne, pk_us, pk_un, pk_uLs, pk_uLn, kup_Is, kup_In, kup_Js, kup_Jn, ku2_ku2, kup_I, kup_J, knar1, knar0]
      refine mid (ku2 i1 33 4 (mI (ff f1 (1000 * 3 + p)))) (by simp (disch := first | assumption | omega | decide | exact bI_or _) only [e3, exLt_c1, exLt_c2, exEq_c, exLt_t, exLt_f, exEq_s, exEq_t, exEq_f, exLt_mn, exLt_nm, exEq_mn, exEq_nm, exEq_mm, exEq_xf, exLtL_t, exLtL_f, exEqL_t, exEqL_f, exB_t, exB_f, exSw_t, exSw_f, exSw_0, klz_f, klz_g, kieq_f, kdivL, kdivI, kmodL, kmodI, knIL, lN_i, nI_add, pk_mul, pk_sub, pk_subm, kad1, kad2, lN_add, lN_mul, lN_sub, kkl_i, kkl_l, kkl_r, kkl_0, Option.bind_some, Option.toList_some, Option.toList_none, List.cons_append, List.nil_append, if_true, if_false, eq_self, not_true_eq_false, not_false_eq_true, ku2_eq, ku2_ne, pk_us, pk_un, pk_uLs, pk_uLn, kup_Is, kup_In, kup_Js, kup_Jn, ku2_ku2, kup_I, kup_J, knar1, knar0]) ?_ (Kp_i k1 (by decide))
      rw [ku2_eq, hN.1, if_neg (by omega)]
/-- what reading a row leaves -/
def pEnd (q : Nat) (r : Nat × List (Nat × Nat)) (i I : tI) : Prop := i 33 4 = mI r.1 ∧ r.1 < 1000000 ∧ (∃ p, p < 1000 ∧ i 33 3 = nI p) ∧ (r.1 = 0 → cKn i I q r.2)
end CRA
section CR6
variable {d : Nat} {h : kH} {i : tI} {l : tL} {I : tI} {J : tL} {nw df : Nat} {P : Nat → Nat}
theorem c_rdst6 {tx : Nat → Nat} {ln p q k g : Nat} (ht : cTx I tx ln) (h2 : i 33 2 = nI ln) (h3 : i 33 3 = nI p) (h4 : i 33 4 = mI g) (hg : 0 < g) (hg2 : g < 1000000) (hp : p < 1000) (hk : k ≤ 10) : Gd (ex (d + 3) mX6_read 7 [some (.ref q), some (.ref 33), some (.int (nI k))] [] (mH h i l I J nw df P)) (Rt h nw df P none fun i' l' I' J' => Kp [(33, 3), (33, 4)] [] [] i i' l l' I I' J J' ∧ i' 33 3 = nI p ∧ i' 33 4 = mI g) := by
  conv => arg 1; simp (disch := first | assumption | omega | decide | exact bI_or _) only [X6_read_0, X6_read_1, X6_read_2, X6_read_5, X6_read_6, X6_read_7, X6_read_8, X6_read_10b, X6_read_13, X6_read_14, X6_read_15, X6_read_17, X6_read_20b, X6_read_23, X6_read_24, X6_read_25, X6_read_28, X6_read_31, X6_read_34, show (0 : Int32) = nI 0 from rfl, kp7_2, show (10 : Int32) = nI 10 from rfl, kis10, kis7, show (1 : Int32) = nI 1 from rfl, exLt_c1, exLt_c2, exEq_c, exLt_t, exLt_f, exEq_s, exEq_t, exEq_f, exLt_mn, exLt_nm, exEq_mn, exEq_nm, exEq_mm, exEq_xf, exLtL_t, exLtL_f, exEqL_t, exEqL_f, exB_t, exB_f, exSw_t, exSw_f, exSw_0, klz_f, klz_g, kieq_f, kdivL, kdivI, kmodL, kmodI, knIL, lN_i, nI_add, pk_mul, pk_sub, pk_subm, kad1, kad2, lN_add, lN_mul, lN_sub, kkl_i, kkl_l, kkl_r, kkl_0, Option.bind_some, Option.toList_some, Option.toList_none, List.cons_append, List.nil_append, if_true, if_false, eq_self, not_true_eq_false, not_false_eq_true, ku2_eq, ku2_ne, pk_us, pk_un, pk_uLs, pk_uLn, kup_Is, kup_In, kup_Js, kup_Jn, ku2_ku2, kup_I, kup_J, knar1, knar0]
  refine Gd_call (t_hasPart (k := k) (m := 10) ht h2 h3 h4 hp hg2 (by omega) (by omega)) ?_
  intro i1 l1 I1 J1 ⟨k1, e3, e4⟩
  have c : ¬ (g = 0 ∧ p < ln) := by omega
  rw [if_neg c] at e3 e4
  have c1 : ¬ (g = 0 ∧ p < ln ∧ hpF tx ln p k 10 = 0) := by omega
  conv => arg 1; simp (disch := first | assumption | omega | decide | exact bI_or _) only [X6_read_0, X6_read_1, X6_read_2, X6_read_5, X6_read_6, X6_read_8, X6_read_10b, X6_read_13, X6_read_14, X6_read_15, X6_read_17, X6_read_20b, X6_read_23, X6_read_24, X6_read_25, X6_read_28, X6_read_31, X6_read_34, show (0 : Int32) = nI 0 from rfl, kp7_2, show (10 : Int32) = nI 10 from rfl, kis10, kis7, show (1 : Int32) = nI 1 from rfl, exLt_c1, exLt_c2, exEq_c, exLt_t, exLt_f, exEq_s, exEq_t, exEq_f, exLt_mn, exLt_nm, exEq_mn, exEq_nm, exEq_mm, exEq_xf, exLtL_t, exLtL_f, exEqL_t, exEqL_f, exB_t, exB_f, exSw_t, exSw_f, exSw_0, klz_f, klz_g, kieq_f, kdivL, kdivI, kmodL, kmodI, knIL, lN_i, nI_add, pk_mul, pk_sub, pk_subm, kad1, kad2, lN_add, lN_mul, lN_sub, kkl_i, kkl_l, kkl_r, kkl_0, Option.bind_some, Option.toList_some, Option.toList_none, List.cons_append, List.nil_append, if_true, if_false, eq_self, not_true_eq_false, not_false_eq_true, ku2_eq, ku2_ne, pk_us, pk_un, pk_uLs, pk_uLn, kup_Is, kup_In, kup_Js, kup_Jn, ku2_ku2, kup_I, kup_J, knar1, knar0]
  exact Gd_rt ⟨k1, e3, e4⟩
theorem c_rdL6 {tx : Nat → Nat} {ln q : Nat} {i0 : tI} {l0 : tL} {I0 : tI} {J0 : tL} (hq : isC7 q) (hq3 : 36 < q) (ht0 : cTx I0 tx ln) : ∀ (f p : Nat) (acc : List (Nat × Nat)) (i : tI) (l : tL) (I : tI) (J : tL), p ≤ ln → ln - p < f → 0 < acc.length → okSpL acc → i 33 2 = nI ln → i 33 3 = nI p → i 33 4 = mI 0 → cKn i I q acc → Kp [(33, 3), (33, 4), (q, 2)] [] [q + 1, q + 2] i0 i l0 l I0 I J0 J → Gd (ex (d + 3) mX6_read 7 [some (.ref q), some (.ref 33), some (.int (nI acc.length))] [] (mH h i l I J nw df P)) (Rt h nw df P none fun i' l' I' J' => Kp [(33, 3), (33, 4), (q, 2)] [] [q + 1, q + 2] i0 i' l0 l' I0 I' J0 J' ∧ pEnd q (rdL (spIt tx ln) tx ln f p acc) i' I')
  | 0, p, acc, i, l, I, J, hp, hf, h0, hok, h2, h3, h4, hk, k => absurd hf (by omega)
  | f + 1, p, acc, i, l, I, J, hp, hf, h0, hok, h2, h3, h4, hk, k => by
    have ht : cTx I tx ln := ht0.c (k.2.2.1 _ (by simp; omega))
    have hl := ht.1
    have hal := hok.1
    conv => arg 1; simp (disch := first | assumption | omega | decide | exact bI_or _) only [X6_read_0, X6_read_1, X6_read_2, X6_read_5, X6_read_6, X6_read_7, X6_read_8, X6_read_10b, X6_read_13, X6_read_14, X6_read_15, X6_read_17, X6_read_20b, X6_read_23, X6_read_24, X6_read_25, X6_read_28, X6_read_31, X6_read_34, show (0 : Int32) = nI 0 from rfl, kp7_2, show (10 : Int32) = nI 10 from rfl, kis10, kis7, show (1 : Int32) = nI 1 from rfl, exLt_c1, exLt_c2, exEq_c, exLt_t, exLt_f, exEq_s, exEq_t, exEq_f, exLt_mn, exLt_nm, exEq_mn, exEq_nm, exEq_mm, exEq_xf, exLtL_t, exLtL_f, exEqL_t, exEqL_f, exB_t, exB_f, exSw_t, exSw_f, exSw_0, klz_f, klz_g, kieq_f, kdivL, kdivI, kmodL, kmodI, knIL, lN_i, nI_add, pk_mul, pk_sub, pk_subm, kad1, kad2, lN_add, lN_mul, lN_sub, kkl_i, kkl_l, kkl_r, kkl_0, Option.bind_some, Option.toList_some, Option.toList_none, List.cons_append, List.nil_append, if_true, if_false, eq_self, not_true_eq_false, not_false_eq_true, ku2_eq, ku2_ne, pk_us, pk_un, pk_uLs, pk_uLn, kup_Is, kup_In, kup_Js, kup_Jn, ku2_ku2, kup_I, kup_J, knar1, knar0]
    refine Gd_call (t_hasPart (k := acc.length) (m := 10) ht h2 h3 h4 (by omega) (by omega) (by omega) (by omega)) ?_
    intro i1 l1 I1 J1 ⟨k1, e3, e4⟩
    have k1' := Kp_trans k (Kp_mono k1 (ks' := [(33, 3), (33, 4), (q, 2)]) (ls' := []) (qs' := [q + 1, q + 2]) (by simp) (by simp) (by simp))
    rw [rdL]
    by_cases c1 : ln ≤ p
    · rw [if_pos c1]
      rw [if_neg (by omega)] at e3 e4
      have c2 : ¬ (0 = 0 ∧ p < ln ∧ hpF tx ln p acc.length 10 = 0) := by omega
      conv => arg 1; simp (disch := first | assumption | omega | decide | exact bI_or _) only [X6_read_0, X6_read_1, X6_read_2, X6_read_5, X6_read_6, X6_read_8, X6_read_10b, X6_read_13, X6_read_14, X6_read_15, X6_read_17, X6_read_20b, X6_read_23, X6_read_24, X6_read_25, X6_read_28, X6_read_31, X6_read_34, show (0 : Int32) = nI 0 from rfl, kp7_2, show (10 : Int32) = nI 10 from rfl, kis10, kis7, show (1 : Int32) = nI 1 from rfl, exLt_c1, exLt_c2, exEq_c, exLt_t, exLt_f, exEq_s, exEq_t, exEq_f, exLt_mn, exLt_nm, exEq_mn, exEq_nm, exEq_mm, exEq_xf, exLtL_t, exLtL_f, exEqL_t, exEqL_f, exB_t, exB_f, exSw_t, exSw_f, exSw_0, klz_f, klz_g, kieq_f, kdivL, kdivI, kmodL, kmodI, knIL, lN_i, nI_add, pk_mul, pk_sub, pk_subm, kad1, kad2, lN_add, lN_mul, lN_sub, kkl_i, kkl_l, kkl_r, kkl_0, Option.bind_some, Option.toList_some, Option.toList_none, List.cons_append, List.nil_append, if_true, if_false, eq_self, not_true_eq_false, not_false_eq_true, ku2_eq, ku2_ne, pk_us, pk_un, pk_uLs, pk_uLn, kup_Is, kup_In, kup_Js, kup_Jn, ku2_ku2, kup_I, kup_J, knar1, knar0]
      refine Gd_rt ⟨k1', e4, by omega, ⟨p, by omega, e3⟩, fun _ => hk.c (k1.1 _ _ (by simp)) (k1.2.2.1 _ (by simp)) (k1.2.2.1 _ (by simp))⟩
    rw [if_neg c1]
    rw [if_pos ⟨rfl, by omega⟩] at e3 e4
    by_cases c2 : tx p = 59
    case neg =>
      have ef : hpF tx ln p acc.length 10 = 1000 + p := by
        unfold hpF
        rw [if_neg (by omega), ff_n (by omega)]
      have ep : hpP tx ln p acc.length = p := by
        unfold hpP
        rw [if_neg (by omega)]
      rw [if_neg c2]
      rw [ef] at e4
      rw [ep] at e3
      have c3 : ¬ (0 = 0 ∧ p < ln ∧ hpF tx ln p acc.length 10 = 0) := by rw [ef]; omega
      conv => arg 1; simp (disch := first | assumption | omega | decide | exact bI_or _) only [X6_read_0, X6_read_1, X6_read_2, X6_read_5, X6_read_6, X6_read_8, X6_read_10b, X6_read_13, X6_read_14, X6_read_15, X6_read_17, X6_read_20b, X6_read_23, X6_read_24, X6_read_25, X6_read_28, X6_read_31, X6_read_34, show (0 : Int32) = nI 0 from rfl, kp7_2, show (10 : Int32) = nI 10 from rfl, kis10, kis7, show (1 : Int32) = nI 1 from rfl, exLt_c1, exLt_c2, exEq_c, exLt_t, exLt_f, exEq_s, exEq_t, exEq_f, exLt_mn, exLt_nm, exEq_mn, exEq_nm, exEq_mm, exEq_xf, exLtL_t, exLtL_f, exEqL_t, exEqL_f, exB_t, exB_f, exSw_t, exSw_f, exSw_0, klz_f, klz_g, kieq_f, kdivL, kdivI, kmodL, kmodI, knIL, lN_i, nI_add, pk_mul, pk_sub, pk_subm, kad1, kad2, lN_add, lN_mul, lN_sub, kkl_i, kkl_l, kkl_r, kkl_0, Option.bind_some, Option.toList_some, Option.toList_none, List.cons_append, List.nil_append, if_true, if_false, eq_self, not_true_eq_false, not_false_eq_true, ku2_eq, ku2_ne, pk_us, pk_un, pk_uLs, pk_uLn, kup_Is, kup_In, kup_Js, kup_Jn, ku2_ku2, kup_I, kup_J, knar1, knar0]
      refine Gd_rt ⟨k1', e4, by show 1000 + p < 1000000; omega, ⟨p, by omega, e3⟩, fun z => ?_⟩
      have : 1000 + p = 0 := z
      omega
    rw [if_pos c2]
    have ep : hpP tx ln p acc.length = p + 1 := by
      unfold hpP
      rw [if_pos (by omega)]
    rw [ep] at e3
    by_cases c3 : acc.length = 10
    · have ef : hpF tx ln p acc.length 10 = 4000 + (p + 1) := by
        unfold hpF
        rw [if_pos (by omega), ff_z, if_neg (by omega), ep]
      have ei : (spIt tx ln (p + 1) acc).1 = 4000 + (p + 1) := by
        unfold spIt
        rw [if_pos c3]
      rw [if_pos (by omega), ei]
      rw [ef] at e4
      have c4 : ¬ (0 = 0 ∧ p < ln ∧ hpF tx ln p acc.length 10 = 0) := by rw [ef]; omega
      conv => arg 1; simp (disch := first | assumption | omega | decide | exact bI_or _) only [X6_read_0, X6_read_1, X6_read_2, X6_read_5, X6_read_6, X6_read_8, X6_read_10b, X6_read_13, X6_read_14, X6_read_15, X6_read_17, X6_read_20b, X6_read_23, X6_read_24, X6_read_25, X6_read_28, X6_read_31, X6_read_34, show (0 : Int32) = nI 0 from rfl, kp7_2, show (10 : Int32) = nI 10 from rfl, kis10, kis7, show (1 : Int32) = nI 1 from rfl, exLt_c1, exLt_c2, exEq_c, exLt_t, exLt_f, exEq_s, exEq_t, exEq_f, exLt_mn, exLt_nm, exEq_mn, exEq_nm, exEq_mm, exEq_xf, exLtL_t, exLtL_f, exEqL_t, exEqL_f, exB_t, exB_f, exSw_t, exSw_f, exSw_0, klz_f, klz_g, kieq_f, kdivL, kdivI, kmodL, kmodI, knIL, lN_i, nI_add, pk_mul, pk_sub, pk_subm, kad1, kad2, lN_add, lN_mul, lN_sub, kkl_i, kkl_l, kkl_r, kkl_0, Option.bind_some, Option.toList_some, Option.toList_none, List.cons_append, List.nil_append, if_true, if_false, eq_self, not_true_eq_false, not_false_eq_true, ku2_eq, ku2_ne, pk_us, pk_un, pk_uLs, pk_uLn, kup_Is, kup_In, kup_Js, kup_Jn, ku2_ku2, kup_I, kup_J, knar1, knar0]
      refine Gd_rt ⟨k1', e4, by show 4000 + (p + 1) < 1000000; omega, ⟨p + 1, by omega, e3⟩, fun z => ?_⟩
      have : 4000 + (p + 1) = 0 := z
      omega
    have ef : hpF tx ln p acc.length 10 = 0 := by
      unfold hpF
      rw [if_pos (by omega), ff_z, if_pos (by omega)]
    rw [ef] at e4
    have c4 : True ∧ p < ln ∧ hpF tx ln p acc.length 10 = 0 := ⟨trivial, by omega, ef⟩
    have ht1 : cTx I1 tx ln := ht.c (k1.2.2.1 _ (by simp))
    have v2 : acc.length + 1 ≤ 10 := by omega
    have hk1 : cKn i1 I1 q acc := hk.c (k1.1 _ _ (by simp)) (k1.2.2.1 _ (by simp)) (k1.2.2.1 _ (by simp))
    conv => arg 1; simp (disch := first | assumption | omega | decide | exact bI_or _) only [X6_read_0, X6_read_1, X6_read_2, X6_read_5, X6_read_6, X6_read_8, X6_read_10b, X6_read_13, X6_read_14, X6_read_15, X6_read_17, X6_read_20b, X6_read_23, X6_read_24, X6_read_25, X6_read_28, X6_read_31, X6_read_34, show (0 : Int32) = nI 0 from rfl, kp7_2, show (10 : Int32) = nI 10 from rfl, kis10, kis7, show (1 : Int32) = nI 1 from rfl, exLt_c1, exLt_c2, exEq_c, exLt_t, exLt_f, exEq_s, exEq_t, exEq_f, exLt_mn, exLt_nm, exEq_mn, exEq_nm, exEq_mm, exEq_xf, exLtL_t, exLtL_f, exEqL_t, exEqL_f, exB_t, exB_f, exSw_t, exSw_f, exSw_0, klz_f, klz_g, kieq_f, kdivL, kdivI, kmodL, kmodI, knIL, lN_i, nI_add, pk_mul, pk_sub, pk_subm, kad1, kad2, lN_add, lN_mul, lN_sub, kkl_i, kkl_l, kkl_r, kkl_0, Option.bind_some, Option.toList_some, Option.toList_none, List.cons_append, List.nil_append, if_true, if_false, eq_self, not_true_eq_false, not_false_eq_true, ku2_eq, ku2_ne, pk_us, pk_un, pk_uLs, pk_uLn, kup_Is, kup_In, kup_Js, kup_Jn, ku2_ku2, kup_I, kup_J, knar1, knar0]
    refine Gd_call (c_readSpan (p := p + 1) hq hq3 ht1 ((k1.1 _ _ (by decide)).trans h2) e3 e4 (by omega) hk1 (by omega) (fun k hk => (hok.2.1 k hk).1)) ?_
    intro i2 l2 I2 J2 ⟨k2, r4, r5, r6, r7⟩
    have k2' := Kp_trans k1' k2
    have hb := spIt_b (tx := tx) (ln := ln) (p := p + 1) hok
    have h22 : i2 33 2 = nI ln := (k2.1 _ _ (by simp; omega)).trans ((k1.1 _ _ (by decide)).trans h2)
    generalize spIt tx ln (p + 1) acc = X at *
    conv => arg 1; simp (disch := first | assumption | omega | decide | exact bI_or _) only [X6_read_0, X6_read_1, X6_read_2, X6_read_5, X6_read_6, X6_read_8, X6_read_10b, X6_read_13, X6_read_14, X6_read_15, X6_read_17, X6_read_20b, X6_read_23, X6_read_24, X6_read_25, X6_read_28, X6_read_31, X6_read_34, show (0 : Int32) = nI 0 from rfl, kp7_2, show (10 : Int32) = nI 10 from rfl, kis10, kis7, show (1 : Int32) = nI 1 from rfl, exLt_c1, exLt_c2, exEq_c, exLt_t, exLt_f, exEq_s, exEq_t, exEq_f, exLt_mn, exLt_nm, exEq_mn, exEq_nm, exEq_mm, exEq_xf, exLtL_t, exLtL_f, exEqL_t, exEqL_f, exB_t, exB_f, exSw_t, exSw_f, exSw_0, klz_f, klz_g, kieq_f, kdivL, kdivI, kmodL, kmodI, knIL, lN_i, nI_add, pk_mul, pk_sub, pk_subm, kad1, kad2, lN_add, lN_mul, lN_sub, kkl_i, kkl_l, kkl_r, kkl_0, Option.bind_some, Option.toList_some, Option.toList_none, List.cons_append, List.nil_append, if_true, if_false, eq_self, not_true_eq_false, not_false_eq_true, ku2_eq, ku2_ne, pk_us, pk_un, pk_uLs, pk_uLn, kup_Is, kup_In, kup_Js, kup_Jn, ku2_ku2, kup_I, kup_J, knar1, knar0]
    by_cases c5 : X.1 = 0
    · obtain ⟨r7a, r7b⟩ := r7 c5
      obtain ⟨b1, b2, b3⟩ := hb c5
      rw [if_neg (fun z => z c5)]
      have := c_rdL6 hq hq3 ht0 f X.2.2 (acc ++ [X.2.1]) i2 l2 I2 J2 b2 (by omega) (by simp) b3 h22 r7a (by rw [r4, c5]) r7b k2'
      rw [List.length_append] at this
      exact this
    · have v1 : 0 < X.1 := Nat.pos_of_ne_zero c5
      obtain ⟨p3, hp3, r6a⟩ := r6 c5
      rw [if_pos c5]
      refine Gd_tail (c_rdst6 (ht1.c (k2.2.2.1 _ (by simp; omega))) h22 r6a r4 v1 r5 hp3 v2) ?_
      intro i3 l3 I3 J3 ⟨k3, s3, s4⟩
      exact ⟨Kp_trans k2' (Kp_mono k3 (by simp) (by simp) (by simp)), s4, r5, ⟨p3, hp3, s3⟩, fun z => absurd z c5⟩
theorem c_read6 {tx : Nat → Nat} {ln q : Nat} (hq : isC7 q) (hq3 : 36 < q) (ht : cTx I tx ln) (h2 : i 33 2 = nI ln) (h3 : i 33 3 = nI 0) (h4 : i 33 4 = mI 0) : Gd (rn (d + 4) mX6_read [.ref q, .ref 33] (mH h i l I J nw df P)) (Rt h nw df P none fun i' l' I' J' => Kp [(33, 3), (33, 4), (q, 2)] [] [q + 1, q + 2] i i' l l' I I' J J' ∧ pEnd q (rdA (spIt tx ln) tx ln) i' I') := by
  have hl := ht.1
  rw [X6_read_E]
  conv => arg 1; simp (disch := first | assumption | omega | decide | exact bI_or _) only [X6_read_0, X6_read_1, X6_read_2, X6_read_5, X6_read_6, X6_read_7, X6_read_8, X6_read_10b, X6_read_13, X6_read_14, X6_read_15, X6_read_17, X6_read_20b, X6_read_23, X6_read_24, X6_read_25, X6_read_28, X6_read_31, X6_read_34, show (0 : Int32) = nI 0 from rfl, kp7_2, show (10 : Int32) = nI 10 from rfl, kis10, kis7, show (1 : Int32) = nI 1 from rfl, exLt_c1, exLt_c2, exEq_c, exLt_t, exLt_f, exEq_s, exEq_t, exEq_f, exLt_mn, exLt_nm, exEq_mn, exEq_nm, exEq_mm, exEq_xf, exLtL_t, exLtL_f, exEqL_t, exEqL_f, exB_t, exB_f, exSw_t, exSw_f, exSw_0, klz_f, klz_g, kieq_f, kdivL, kdivI, kmodL, kmodI, knIL, lN_i, nI_add, pk_mul, pk_sub, pk_subm, kad1, kad2, lN_add, lN_mul, lN_sub, kkl_i, kkl_l, kkl_r, kkl_0, Option.bind_some, Option.toList_some, Option.toList_none, List.cons_append, List.nil_append, if_true, if_false, eq_self, not_true_eq_false, not_false_eq_true, ku2_eq, ku2_ne, pk_us, pk_un, pk_uLs, pk_uLn, kup_Is, kup_In, kup_Js, kup_Jn, ku2_ku2, kup_I, kup_J, knar1, knar0]
  have k0 : Kp [(33, 3), (33, 4), (q, 2)] [] [q + 1, q + 2] i (ku2 i q 2 (nI 0)) l l I I J J := Kp_i Kp_refl (by simp)
  refine Gd_call (t_hasPart (k := 0) (m := 10) (p := 0) (f := 0) ht (by simp (disch := first | assumption | omega | decide | exact bI_or _) only [h2, exLt_c1, exLt_c2, exEq_c, exLt_t, exLt_f, exEq_s, exEq_t, exEq_f, exLt_mn, exLt_nm, exEq_mn, exEq_nm, exEq_mm, exEq_xf, exLtL_t, exLtL_f, exEqL_t, exEqL_f, exB_t, exB_f, exSw_t, exSw_f, exSw_0, klz_f, klz_g, kieq_f, kdivL, kdivI, kmodL, kmodI, knIL, lN_i, nI_add, pk_mul, pk_sub, pk_subm, kad1, kad2, lN_add, lN_mul, lN_sub, kkl_i, kkl_l, kkl_r, kkl_0, Option.bind_some, Option.toList_some, Option.toList_none, List.cons_append, List.nil_append, if_true, if_false, eq_self, not_true_eq_false, not_false_eq_true, ku2_eq, ku2_ne, pk_us, pk_un, pk_uLs, pk_uLn, kup_Is, kup_In, kup_Js, kup_Jn, ku2_ku2, kup_I, kup_J, knar1, knar0]) (by simp (disch := first | assumption | omega | decide | exact bI_or _) only [h3, exLt_c1, exLt_c2, exEq_c, exLt_t, exLt_f, exEq_s, exEq_t, exEq_f, exLt_mn, exLt_nm, exEq_mn, exEq_nm, exEq_mm, exEq_xf, exLtL_t, exLtL_f, exEqL_t, exEqL_f, exB_t, exB_f, exSw_t, exSw_f, exSw_0, klz_f, klz_g, kieq_f, kdivL, kdivI, kmodL, kmodI, knIL, lN_i, nI_add, pk_mul, pk_sub, pk_subm, kad1, kad2, lN_add, lN_mul, lN_sub, kkl_i, kkl_l, kkl_r, kkl_0, Option.bind_some, Option.toList_some, Option.toList_none, List.cons_append, List.nil_append, if_true, if_false, eq_self, not_true_eq_false, not_false_eq_true, ku2_eq, ku2_ne, pk_us, pk_un, pk_uLs, pk_uLn, kup_Is, kup_In, kup_Js, kup_Jn, ku2_ku2, kup_I, kup_J, knar1, knar0]) (by simp (disch := first | assumption | omega | decide | exact bI_or _) only [h4, exLt_c1, exLt_c2, exEq_c, exLt_t, exLt_f, exEq_s, exEq_t, exEq_f, exLt_mn, exLt_nm, exEq_mn, exEq_nm, exEq_mm, exEq_xf, exLtL_t, exLtL_f, exEqL_t, exEqL_f, exB_t, exB_f, exSw_t, exSw_f, exSw_0, klz_f, klz_g, kieq_f, kdivL, kdivI, kmodL, kmodI, knIL, lN_i, nI_add, pk_mul, pk_sub, pk_subm, kad1, kad2, lN_add, lN_mul, lN_sub, kkl_i, kkl_l, kkl_r, kkl_0, Option.bind_some, Option.toList_some, Option.toList_none, List.cons_append, List.nil_append, if_true, if_false, eq_self, not_true_eq_false, not_false_eq_true, ku2_eq, ku2_ne, pk_us, pk_un, pk_uLs, pk_uLn, kup_Is, kup_In, kup_Js, kup_Jn, ku2_ku2, kup_I, kup_J, knar1, knar0]) (by omega) (by omega) (by omega) (by omega)) ?_
  intro i1 l1 I1 J1 ⟨k1, e3, e4⟩
  have k1' := Kp_trans k0 (Kp_mono k1 (ks' := [(33, 3), (33, 4), (q, 2)]) (ls' := []) (qs' := [q + 1, q + 2]) (by simp) (by simp) (by simp))
  have e5 : i1 q 2 = nI 0 := (k1.1 _ _ (by simp)).trans (ku2_eq _ _ _ _)
  have hk0 : cKn i1 I1 q [] := ⟨e5, fun j hj => absurd hj (by simp)⟩
  unfold rdA
  by_cases c1 : ln = 0
  · rw [if_pos c1]
    rw [if_neg (by omega)] at e3 e4
    have c2 : ¬ (0 = 0 ∧ 0 < ln ∧ hpF tx ln 0 0 10 = 0) := by omega
    conv => arg 1; simp (disch := first | assumption | omega | decide | exact bI_or _) only [X6_read_0, X6_read_1, X6_read_2, X6_read_5, X6_read_6, X6_read_8, X6_read_10b, X6_read_13, X6_read_14, X6_read_15, X6_read_17, X6_read_20b, X6_read_23, X6_read_24, X6_read_25, X6_read_28, X6_read_31, X6_read_34, show (0 : Int32) = nI 0 from rfl, kp7_2, show (10 : Int32) = nI 10 from rfl, kis10, kis7, show (1 : Int32) = nI 1 from rfl, exLt_c1, exLt_c2, exEq_c, exLt_t, exLt_f, exEq_s, exEq_t, exEq_f, exLt_mn, exLt_nm, exEq_mn, exEq_nm, exEq_mm, exEq_xf, exLtL_t, exLtL_f, exEqL_t, exEqL_f, exB_t, exB_f, exSw_t, exSw_f, exSw_0, klz_f, klz_g, kieq_f, kdivL, kdivI, kmodL, kmodI, knIL, lN_i, nI_add, pk_mul, pk_sub, pk_subm, kad1, kad2, lN_add, lN_mul, lN_sub, kkl_i, kkl_l, kkl_r, kkl_0, Option.bind_some, Option.toList_some, Option.toList_none, List.cons_append, List.nil_append, if_true, if_false, eq_self, not_true_eq_false, not_false_eq_true, ku2_eq, ku2_ne, pk_us, pk_un, pk_uLs, pk_uLn, kup_Is, kup_In, kup_Js, kup_Jn, ku2_ku2, kup_I, kup_J, knar1, knar0]
    exact Gd_rt ⟨k1', e4, by show 0 < 1000000; omega, ⟨0, by omega, e3⟩, fun _ => hk0⟩
  rw [if_neg c1]
  rw [if_pos ⟨rfl, by omega⟩] at e3 e4
  have ef : hpF tx ln 0 0 10 = 0 := by
    unfold hpF
    rw [if_pos (Or.inl rfl), ff_z, if_pos (by omega)]
  have ep : hpP tx ln 0 0 = 0 := by
    unfold hpP
    rw [if_neg (by omega)]
  rw [ef] at e4
  rw [ep] at e3
  have ht1 : cTx I1 tx ln := ht.c (k1.2.2.1 _ (by simp))
  have h21 : i1 33 2 = nI ln := (k1.1 _ _ (by decide)).trans (by simp (disch := first | assumption | omega | decide | exact bI_or _) only [h2, exLt_c1, exLt_c2, exEq_c, exLt_t, exLt_f, exEq_s, exEq_t, exEq_f, exLt_mn, exLt_nm, exEq_mn, exEq_nm, exEq_mm, exEq_xf, exLtL_t, exLtL_f, exEqL_t, exEqL_f, exB_t, exB_f, exSw_t, exSw_f, exSw_0, klz_f, klz_g, kieq_f, kdivL, kdivI, kmodL, kmodI, knIL, lN_i, nI_add, pk_mul, pk_sub, pk_subm, kad1, kad2, lN_add, lN_mul, lN_sub, kkl_i, kkl_l, kkl_r, kkl_0, Option.bind_some, Option.toList_some, Option.toList_none, List.cons_append, List.nil_append, if_true, if_false, eq_self, not_true_eq_false, not_false_eq_true, ku2_eq, ku2_ne, pk_us, pk_un, pk_uLs, pk_uLn, kup_Is, kup_In, kup_Js, kup_Jn, ku2_ku2, kup_I, kup_J, knar1, knar0])
  have c4 : True ∧ 0 < ln ∧ hpF tx ln 0 0 10 = 0 := ⟨trivial, by omega, ef⟩
  conv => arg 1; simp (disch := first | assumption | omega | decide | exact bI_or _) only [X6_read_0, X6_read_1, X6_read_2, X6_read_5, X6_read_6, X6_read_8, X6_read_10b, X6_read_13, X6_read_14, X6_read_15, X6_read_17, X6_read_20b, X6_read_23, X6_read_24, X6_read_25, X6_read_28, X6_read_31, X6_read_34, show (0 : Int32) = nI 0 from rfl, kp7_2, show (10 : Int32) = nI 10 from rfl, kis10, kis7, show (1 : Int32) = nI 1 from rfl, exLt_c1, exLt_c2, exEq_c, exLt_t, exLt_f, exEq_s, exEq_t, exEq_f, exLt_mn, exLt_nm, exEq_mn, exEq_nm, exEq_mm, exEq_xf, exLtL_t, exLtL_f, exEqL_t, exEqL_f, exB_t, exB_f, exSw_t, exSw_f, exSw_0, klz_f, klz_g, kieq_f, kdivL, kdivI, kmodL, kmodI, knIL, lN_i, nI_add, pk_mul, pk_sub, pk_subm, kad1, kad2, lN_add, lN_mul, lN_sub, kkl_i, kkl_l, kkl_r, kkl_0, Option.bind_some, Option.toList_some, Option.toList_none, List.cons_append, List.nil_append, if_true, if_false, eq_self, not_true_eq_false, not_false_eq_true, ku2_eq, ku2_ne, pk_us, pk_un, pk_uLs, pk_uLn, kup_Is, kup_In, kup_Js, kup_Jn, ku2_ku2, kup_I, kup_J, knar1, knar0]
  refine Gd_call (c_readSpan (p := 0) (acc := []) hq hq3 ht1 h21 e3 e4 (by omega) hk0 (by simp) (fun k hk => absurd hk (by simp))) ?_
  intro i2 l2 I2 J2 ⟨k2, r4, r5, r6, r7⟩
  have k2' := Kp_trans k1' k2
  have hb := spIt_b (tx := tx) (ln := ln) (p := 0) (acc := []) ⟨by simp, fun k hk => absurd hk (by simp), fun j k _ hk => absurd hk (by simp)⟩
  have h22 : i2 33 2 = nI ln := (k2.1 _ _ (by simp; omega)).trans h21
  generalize spIt tx ln 0 [] = X at *
  conv => arg 1; simp (disch := first | assumption | omega | decide | exact bI_or _) only [X6_read_0, X6_read_1, X6_read_2, X6_read_5, X6_read_6, X6_read_8, X6_read_10b, X6_read_13, X6_read_14, X6_read_15, X6_read_17, X6_read_20b, X6_read_23, X6_read_24, X6_read_25, X6_read_28, X6_read_31, X6_read_34, show (0 : Int32) = nI 0 from rfl, kp7_2, show (10 : Int32) = nI 10 from rfl, kis10, kis7, show (1 : Int32) = nI 1 from rfl, exLt_c1, exLt_c2, exEq_c, exLt_t, exLt_f, exEq_s, exEq_t, exEq_f, exLt_mn, exLt_nm, exEq_mn, exEq_nm, exEq_mm, exEq_xf, exLtL_t, exLtL_f, exEqL_t, exEqL_f, exB_t, exB_f, exSw_t, exSw_f, exSw_0, klz_f, klz_g, kieq_f, kdivL, kdivI, kmodL, kmodI, knIL, lN_i, nI_add, pk_mul, pk_sub, pk_subm, kad1, kad2, lN_add, lN_mul, lN_sub, kkl_i, kkl_l, kkl_r, kkl_0, Option.bind_some, Option.toList_some, Option.toList_none, List.cons_append, List.nil_append, if_true, if_false, eq_self, not_true_eq_false, not_false_eq_true, ku2_eq, ku2_ne, pk_us, pk_un, pk_uLs, pk_uLn, kup_Is, kup_In, kup_Js, kup_Jn, ku2_ku2, kup_I, kup_J, knar1, knar0]
  by_cases c5 : X.1 = 0
  · obtain ⟨r7a, r7b⟩ := r7 c5
    obtain ⟨b1, b2, b3⟩ := hb c5
    rw [if_neg (fun z => z c5)]
    exact c_rdL6 hq hq3 ht ln X.2.2 [X.2.1] i2 l2 I2 J2 b2 (by omega) (by simp) b3 h22 r7a (by rw [r4, c5]) r7b k2'
  · have v1 : 0 < X.1 := Nat.pos_of_ne_zero c5
    obtain ⟨p3, hp3, r6a⟩ := r6 c5
    rw [if_pos c5]
    refine Gd_tail (c_rdst6 (k := 1) (ht1.c (k2.2.2.1 _ (by simp; omega))) h22 r6a r4 v1 r5 hp3 (by omega)) ?_
    intro i3 l3 I3 J3 ⟨k3, s3, s4⟩
    exact ⟨Kp_trans k2' (Kp_mono k3 (by simp) (by simp) (by simp)), s4, r5, ⟨p3, hp3, s3⟩, fun z => absurd z c5⟩
end CR6
