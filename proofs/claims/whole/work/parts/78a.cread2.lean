/-! OWN: the class reads steps (a step: taken as read) -/
section CR8
variable {d : Nat} {h : kH} {i : tI} {l : tL} {I : tI} {J : tL} {nw df : Nat} {P : Nat → Nat}
theorem c_rdst8 {tx : Nat → Nat} {ln p q k g : Nat} (ht : cTx I tx ln) (h2 : i 33 2 = nI ln) (h3 : i 33 3 = nI p) (h4 : i 33 4 = mI g) (hg : 0 < g) (hg2 : g < 1000000) (hp : p < 1000) (hk : k ≤ 10) : Gd (ex (d + 3) mX8_read 7 [some (.ref q), some (.ref 33), some (.int (nI k))] [] (mH h i l I J nw df P)) (Rt h nw df P none fun i' l' I' J' => Kp [(33, 3), (33, 4)] [] [] i i' l l' I I' J J' ∧ i' 33 3 = nI p ∧ i' 33 4 = mI g) := by
  conv => arg 1; simp (disch := first | assumption | omega | decide | exact bI_or _) only [X8_read_0, X8_read_1, X8_read_2, X8_read_5, X8_read_6, X8_read_7, X8_read_8, X8_read_10b, X8_read_13, X8_read_14, X8_read_15, X8_read_17, X8_read_20b, X8_read_23, X8_read_24, X8_read_25, X8_read_28, X8_read_31, X8_read_34, show (0 : Int32) = nI 0 from rfl, kp9_2, show (10 : Int32) = nI 10 from rfl, kis10, kis9, show (1 : Int32) = nI 1 from rfl, exLt_c1, exLt_c2, exEq_c, exLt_t, exLt_f, exEq_s, exEq_t, exEq_f, exLt_mn, exLt_nm, exEq_mn, exEq_nm, exEq_mm, exEq_xf, exLtL_t, exLtL_f, exEqL_t, exEqL_f, exB_t, exB_f, exSw_t, exSw_f, exSw_0, klz_f, klz_g, kieq_f, kdivL, kdivI, kmodL, kmodI, knIL, lN_i, nI_add, pk_mul, pk_sub, pk_subm, kad1, kad2, lN_add, lN_mul, lN_sub, kkl_i, kkl_l, kkl_r, kkl_0, Option.bind_some, Option.toList_some, Option.toList_none, List.cons_append, List.nil_append, if_true, if_false, eq_self, not_true_eq_false, not_false_eq_true, ku2_eq, ku2_ne, pk_us, pk_un, pk_uLs, pk_uLn, kup_Is, kup_In, kup_Js, kup_Jn, ku2_ku2, kup_I, kup_J, knar1, knar0]
  refine Gd_call (t_hasPart (k := k) (m := 10) ht h2 h3 h4 hp hg2 (by omega) (by omega)) ?_
  intro i1 l1 I1 J1 ⟨k1, e3, e4⟩
  have c : ¬ (g = 0 ∧ p < ln) := by omega
  rw [if_neg c] at e3 e4
  have c1 : ¬ (g = 0 ∧ p < ln ∧ hpF tx ln p k 10 = 0) := by omega
  conv => arg 1; simp (disch := first | assumption | omega | decide | exact bI_or _) only [X8_read_0, X8_read_1, X8_read_2, X8_read_5, X8_read_6, X8_read_8, X8_read_10b, X8_read_13, X8_read_14, X8_read_15, X8_read_17, X8_read_20b, X8_read_23, X8_read_24, X8_read_25, X8_read_28, X8_read_31, X8_read_34, show (0 : Int32) = nI 0 from rfl, kp9_2, show (10 : Int32) = nI 10 from rfl, kis10, kis9, show (1 : Int32) = nI 1 from rfl, exLt_c1, exLt_c2, exEq_c, exLt_t, exLt_f, exEq_s, exEq_t, exEq_f, exLt_mn, exLt_nm, exEq_mn, exEq_nm, exEq_mm, exEq_xf, exLtL_t, exLtL_f, exEqL_t, exEqL_f, exB_t, exB_f, exSw_t, exSw_f, exSw_0, klz_f, klz_g, kieq_f, kdivL, kdivI, kmodL, kmodI, knIL, lN_i, nI_add, pk_mul, pk_sub, pk_subm, kad1, kad2, lN_add, lN_mul, lN_sub, kkl_i, kkl_l, kkl_r, kkl_0, Option.bind_some, Option.toList_some, Option.toList_none, List.cons_append, List.nil_append, if_true, if_false, eq_self, not_true_eq_false, not_false_eq_true, ku2_eq, ku2_ne, pk_us, pk_un, pk_uLs, pk_uLn, kup_Is, kup_In, kup_Js, kup_Jn, ku2_ku2, kup_I, kup_J, knar1, knar0]
  exact Gd_rt ⟨k1, e3, e4⟩
theorem c_rdL8 {tx : Nat → Nat} {ln q : Nat} {i0 : tI} {l0 : tL} {I0 : tI} {J0 : tL} (hq : isC9 q) (hq3 : 36 < q) (ht0 : cTx I0 tx ln) (hS : ∀ {p : Nat} {acc : List (Nat × Nat)} {i : tI} {l : tL} {I : tI} {J : tL}, isC9 q → 36 < q → cTx I tx ln → i 33 2 = nI ln → i 33 3 = nI p → i 33 4 = mI 0 → p ≤ ln → cKn i I q acc → acc.length < 10 → Gd (rn (d + 3) mX8_readStep [.ref q, .ref 33] (mH h i l I J nw df P)) (Rt h nw df P none fun i' l' I' J' => Kp [(33, 3), (33, 4), (q, 2)] [] [q + 1, q + 2] i i' l l' I I' J J' ∧ pRes q ln (stIt tx ln p acc) acc i' I')) : ∀ (f p : Nat) (acc : List (Nat × Nat)) (i : tI) (l : tL) (I : tI) (J : tL), p ≤ ln → ln - p < f → 0 < acc.length → okStL acc → i 33 2 = nI ln → i 33 3 = nI p → i 33 4 = mI 0 → cKn i I q acc → Kp [(33, 3), (33, 4), (q, 2)] [] [q + 1, q + 2] i0 i l0 l I0 I J0 J → Gd (ex (d + 3) mX8_read 7 [some (.ref q), some (.ref 33), some (.int (nI acc.length))] [] (mH h i l I J nw df P)) (Rt h nw df P none fun i' l' I' J' => Kp [(33, 3), (33, 4), (q, 2)] [] [q + 1, q + 2] i0 i' l0 l' I0 I' J0 J' ∧ pEnd q (rdL (stIt tx ln) tx ln f p acc) i' I')
  | 0, p, acc, i, l, I, J, hp, hf, h0, hok, h2, h3, h4, hk, k => absurd hf (by omega)
  | f + 1, p, acc, i, l, I, J, hp, hf, h0, hok, h2, h3, h4, hk, k => by
    have ht : cTx I tx ln := ht0.c (k.2.2.1 _ (by simp; omega))
    have hl := ht.1
    have hal := hok.1
    conv => arg 1; simp (disch := first | assumption | omega | decide | exact bI_or _) only [X8_read_0, X8_read_1, X8_read_2, X8_read_5, X8_read_6, X8_read_7, X8_read_8, X8_read_10b, X8_read_13, X8_read_14, X8_read_15, X8_read_17, X8_read_20b, X8_read_23, X8_read_24, X8_read_25, X8_read_28, X8_read_31, X8_read_34, show (0 : Int32) = nI 0 from rfl, kp9_2, show (10 : Int32) = nI 10 from rfl, kis10, kis9, show (1 : Int32) = nI 1 from rfl, exLt_c1, exLt_c2, exEq_c, exLt_t, exLt_f, exEq_s, exEq_t, exEq_f, exLt_mn, exLt_nm, exEq_mn, exEq_nm, exEq_mm, exEq_xf, exLtL_t, exLtL_f, exEqL_t, exEqL_f, exB_t, exB_f, exSw_t, exSw_f, exSw_0, klz_f, klz_g, kieq_f, kdivL, kdivI, kmodL, kmodI, knIL, lN_i, nI_add, pk_mul, pk_sub, pk_subm, kad1, kad2, lN_add, lN_mul, lN_sub, kkl_i, kkl_l, kkl_r, kkl_0, Option.bind_some, Option.toList_some, Option.toList_none, List.cons_append, List.nil_append, if_true, if_false, eq_self, not_true_eq_false, not_false_eq_true, ku2_eq, ku2_ne, pk_us, pk_un, pk_uLs, pk_uLn, kup_Is, kup_In, kup_Js, kup_Jn, ku2_ku2, kup_I, kup_J, knar1, knar0]
    refine Gd_call (t_hasPart (k := acc.length) (m := 10) ht h2 h3 h4 (by omega) (by omega) (by omega) (by omega)) ?_
    intro i1 l1 I1 J1 ⟨k1, e3, e4⟩
    have k1' := Kp_trans k (Kp_mono k1 (ks' := [(33, 3), (33, 4), (q, 2)]) (ls' := []) (qs' := [q + 1, q + 2]) (by simp) (by simp) (by simp))
    rw [rdL]
    by_cases c1 : ln ≤ p
    · rw [if_pos c1]
      rw [if_neg (by omega)] at e3 e4
      have c2 : ¬ (0 = 0 ∧ p < ln ∧ hpF tx ln p acc.length 10 = 0) := by omega
      conv => arg 1; simp (disch := first | assumption | omega | decide | exact bI_or _) only [X8_read_0, X8_read_1, X8_read_2, X8_read_5, X8_read_6, X8_read_8, X8_read_10b, X8_read_13, X8_read_14, X8_read_15, X8_read_17, X8_read_20b, X8_read_23, X8_read_24, X8_read_25, X8_read_28, X8_read_31, X8_read_34, show (0 : Int32) = nI 0 from rfl, kp9_2, show (10 : Int32) = nI 10 from rfl, kis10, kis9, show (1 : Int32) = nI 1 from rfl, exLt_c1, exLt_c2, exEq_c, exLt_t, exLt_f, exEq_s, exEq_t, exEq_f, exLt_mn, exLt_nm, exEq_mn, exEq_nm, exEq_mm, exEq_xf, exLtL_t, exLtL_f, exEqL_t, exEqL_f, exB_t, exB_f, exSw_t, exSw_f, exSw_0, klz_f, klz_g, kieq_f, kdivL, kdivI, kmodL, kmodI, knIL, lN_i, nI_add, pk_mul, pk_sub, pk_subm, kad1, kad2, lN_add, lN_mul, lN_sub, kkl_i, kkl_l, kkl_r, kkl_0, Option.bind_some, Option.toList_some, Option.toList_none, List.cons_append, List.nil_append, if_true, if_false, eq_self, not_true_eq_false, not_false_eq_true, ku2_eq, ku2_ne, pk_us, pk_un, pk_uLs, pk_uLn, kup_Is, kup_In, kup_Js, kup_Jn, ku2_ku2, kup_I, kup_J, knar1, knar0]
      refine Gd_rt ⟨k1', e4, by omega, ⟨p, by omega, e3⟩, fun _ => hk.c (k1.1 _ _ (by simp)) (k1.2.2.1 _ (by simp)) (k1.2.2.1 _ (by simp))⟩
    rw [if_neg c1]
    rw [if_pos ⟨rfl, by omega⟩] at e3 e4
    by_cases c2 : tx p = 59
    case neg =>
      have ef : hpF tx ln p acc.length 10 = 1000 + p := by
        unfold hpF
        rw [if_neg (by omega), ff_n (by omega)]
      have ep : hpP tx ln p acc.length = p := by
        unfold hpP
        rw [if_neg (by omega)]
      rw [if_neg c2]
      rw [ef] at e4
      rw [ep] at e3
      have c3 : ¬ (0 = 0 ∧ p < ln ∧ hpF tx ln p acc.length 10 = 0) := by rw [ef]; omega
      conv => arg 1; simp (disch := first | assumption | omega | decide | exact bI_or _) only [X8_read_0, X8_read_1, X8_read_2, X8_read_5, X8_read_6, X8_read_8, X8_read_10b, X8_read_13, X8_read_14, X8_read_15, X8_read_17, X8_read_20b, X8_read_23, X8_read_24, X8_read_25, X8_read_28, X8_read_31, X8_read_34, show (0 : Int32) = nI 0 from rfl, kp9_2, show (10 : Int32) = nI 10 from rfl, kis10, kis9, show (1 : Int32) = nI 1 from rfl, exLt_c1, exLt_c2, exEq_c, exLt_t, exLt_f, exEq_s, exEq_t, exEq_f, exLt_mn, exLt_nm, exEq_mn, exEq_nm, exEq_mm, exEq_xf, exLtL_t, exLtL_f, exEqL_t, exEqL_f, exB_t, exB_f, exSw_t, exSw_f, exSw_0, klz_f, klz_g, kieq_f, kdivL, kdivI, kmodL, kmodI, knIL, lN_i, nI_add, pk_mul, pk_sub, pk_subm, kad1, kad2, lN_add, lN_mul, lN_sub, kkl_i, kkl_l, kkl_r, kkl_0, Option.bind_some, Option.toList_some, Option.toList_none, List.cons_append, List.nil_append, if_true, if_false, eq_self, not_true_eq_false, not_false_eq_true, ku2_eq, ku2_ne, pk_us, pk_un, pk_uLs, pk_uLn, kup_Is, kup_In, kup_Js, kup_Jn, ku2_ku2, kup_I, kup_J, knar1, knar0]
      refine Gd_rt ⟨k1', e4, by show 1000 + p < 1000000; omega, ⟨p, by omega, e3⟩, fun z => ?_⟩
      have : 1000 + p = 0 := z
      omega
    rw [if_pos c2]
    have ep : hpP tx ln p acc.length = p + 1 := by
      unfold hpP
      rw [if_pos (by omega)]
    rw [ep] at e3
    by_cases c3 : acc.length = 10
    · have ef : hpF tx ln p acc.length 10 = 4000 + (p + 1) := by
        unfold hpF
        rw [if_pos (by omega), ff_z, if_neg (by omega), ep]
      have ei : (stIt tx ln (p + 1) acc).1 = 4000 + (p + 1) := by
        unfold stIt
        rw [if_pos c3]
      rw [if_pos (by omega), ei]
      rw [ef] at e4
      have c4 : ¬ (0 = 0 ∧ p < ln ∧ hpF tx ln p acc.length 10 = 0) := by rw [ef]; omega
      conv => arg 1; simp (disch := first | assumption | omega | decide | exact bI_or _) only [X8_read_0, X8_read_1, X8_read_2, X8_read_5, X8_read_6, X8_read_8, X8_read_10b, X8_read_13, X8_read_14, X8_read_15, X8_read_17, X8_read_20b, X8_read_23, X8_read_24, X8_read_25, X8_read_28, X8_read_31, X8_read_34, show (0 : Int32) = nI 0 from rfl, kp9_2, show (10 : Int32) = nI 10 from rfl, kis10, kis9, show (1 : Int32) = nI 1 from rfl, exLt_c1, exLt_c2, exEq_c, exLt_t, exLt_f, exEq_s, exEq_t, exEq_f, exLt_mn, exLt_nm, exEq_mn, exEq_nm, exEq_mm, exEq_xf, exLtL_t, exLtL_f, exEqL_t, exEqL_f, exB_t, exB_f, exSw_t, exSw_f, exSw_0, klz_f, klz_g, kieq_f, kdivL, kdivI, kmodL, kmodI, knIL, lN_i, nI_add, pk_mul, pk_sub, pk_subm, kad1, kad2, lN_add, lN_mul, lN_sub, kkl_i, kkl_l, kkl_r, kkl_0, Option.bind_some, Option.toList_some, Option.toList_none, List.cons_append, List.nil_append, if_true, if_false, eq_self, not_true_eq_false, not_false_eq_true, ku2_eq, ku2_ne, pk_us, pk_un, pk_uLs, pk_uLn, kup_Is, kup_In, kup_Js, kup_Jn, ku2_ku2, kup_I, kup_J, knar1, knar0]
      refine Gd_rt ⟨k1', e4, by show 4000 + (p + 1) < 1000000; omega, ⟨p + 1, by omega, e3⟩, fun z => ?_⟩
      have : 4000 + (p + 1) = 0 := z
      omega
    have ef : hpF tx ln p acc.length 10 = 0 := by
      unfold hpF
      rw [if_pos (by omega), ff_z, if_pos (by omega)]
    rw [ef] at e4
    have c4 : True ∧ p < ln ∧ hpF tx ln p acc.length 10 = 0 := ⟨trivial, by omega, ef⟩
    have ht1 : cTx I1 tx ln := ht.c (k1.2.2.1 _ (by simp))
    have v2 : acc.length + 1 ≤ 10 := by omega
    have hk1 : cKn i1 I1 q acc := hk.c (k1.1 _ _ (by simp)) (k1.2.2.1 _ (by simp)) (k1.2.2.1 _ (by simp))
    conv => arg 1; simp (disch := first | assumption | omega | decide | exact bI_or _) only [X8_read_0, X8_read_1, X8_read_2, X8_read_5, X8_read_6, X8_read_8, X8_read_10b, X8_read_13, X8_read_14, X8_read_15, X8_read_17, X8_read_20b, X8_read_23, X8_read_24, X8_read_25, X8_read_28, X8_read_31, X8_read_34, show (0 : Int32) = nI 0 from rfl, kp9_2, show (10 : Int32) = nI 10 from rfl, kis10, kis9, show (1 : Int32) = nI 1 from rfl, exLt_c1, exLt_c2, exEq_c, exLt_t, exLt_f, exEq_s, exEq_t, exEq_f, exLt_mn, exLt_nm, exEq_mn, exEq_nm, exEq_mm, exEq_xf, exLtL_t, exLtL_f, exEqL_t, exEqL_f, exB_t, exB_f, exSw_t, exSw_f, exSw_0, klz_f, klz_g, kieq_f, kdivL, kdivI, kmodL, kmodI, knIL, lN_i, nI_add, pk_mul, pk_sub, pk_subm, kad1, kad2, lN_add, lN_mul, lN_sub, kkl_i, kkl_l, kkl_r, kkl_0, Option.bind_some, Option.toList_some, Option.toList_none, List.cons_append, List.nil_append, if_true, if_false, eq_self, not_true_eq_false, not_false_eq_true, ku2_eq, ku2_ne, pk_us, pk_un, pk_uLs, pk_uLn, kup_Is, kup_In, kup_Js, kup_Jn, ku2_ku2, kup_I, kup_J, knar1, knar0]
    refine Gd_call (hS (p := p + 1) hq hq3 ht1 ((k1.1 _ _ (by decide)).trans h2) e3 e4 (by omega) hk1 (by omega)) ?_
    intro i2 l2 I2 J2 ⟨k2, r4, r5, r6, r7⟩
    have k2' := Kp_trans k1' k2
    have hb := stIt_b (tx := tx) (ln := ln) (p := p + 1) hok
    have h22 : i2 33 2 = nI ln := (k2.1 _ _ (by simp; omega)).trans ((k1.1 _ _ (by decide)).trans h2)
    generalize stIt tx ln (p + 1) acc = X at *
    conv => arg 1; simp (disch := first | assumption | omega | decide | exact bI_or _) only [X8_read_0, X8_read_1, X8_read_2, X8_read_5, X8_read_6, X8_read_8, X8_read_10b, X8_read_13, X8_read_14, X8_read_15, X8_read_17, X8_read_20b, X8_read_23, X8_read_24, X8_read_25, X8_read_28, X8_read_31, X8_read_34, show (0 : Int32) = nI 0 from rfl, kp9_2, show (10 : Int32) = nI 10 from rfl, kis10, kis9, show (1 : Int32) = nI 1 from rfl, exLt_c1, exLt_c2, exEq_c, exLt_t, exLt_f, exEq_s, exEq_t, exEq_f, exLt_mn, exLt_nm, exEq_mn, exEq_nm, exEq_mm, exEq_xf, exLtL_t, exLtL_f, exEqL_t, exEqL_f, exB_t, exB_f, exSw_t, exSw_f, exSw_0, klz_f, klz_g, kieq_f, kdivL, kdivI, kmodL, kmodI, knIL, lN_i, nI_add, pk_mul, pk_sub, pk_subm, kad1, kad2, lN_add, lN_mul, lN_sub, kkl_i, kkl_l, kkl_r, kkl_0, Option.bind_some, Option.toList_some, Option.toList_none, List.cons_append, List.nil_append, if_true, if_false, eq_self, not_true_eq_false, not_false_eq_true, ku2_eq, ku2_ne, pk_us, pk_un, pk_uLs, pk_uLn, kup_Is, kup_In, kup_Js, kup_Jn, ku2_ku2, kup_I, kup_J, knar1, knar0]
    by_cases c5 : X.1 = 0
    · obtain ⟨r7a, r7b⟩ := r7 c5
      obtain ⟨b1, b2, b3⟩ := hb c5
      rw [if_neg (fun z => z c5)]
      have := c_rdL8 hq hq3 ht0 hS f X.2.2 (acc ++ [X.2.1]) i2 l2 I2 J2 b2 (by omega) (by simp) b3 h22 r7a (by rw [r4, c5]) r7b k2'
      rw [List.length_append] at this
      exact this
    · have v1 : 0 < X.1 := Nat.pos_of_ne_zero c5
      obtain ⟨p3, hp3, r6a⟩ := r6 c5
      rw [if_pos c5]
      refine Gd_tail (c_rdst8 (ht1.c (k2.2.2.1 _ (by simp; omega))) h22 r6a r4 v1 r5 hp3 v2) ?_
      intro i3 l3 I3 J3 ⟨k3, s3, s4⟩
      exact ⟨Kp_trans k2' (Kp_mono k3 (by simp) (by simp) (by simp)), s4, r5, ⟨p3, hp3, s3⟩, fun z => absurd z c5⟩
theorem c_read8 {tx : Nat → Nat} {ln q : Nat} (hq : isC9 q) (hq3 : 36 < q) (ht : cTx I tx ln) (h2 : i 33 2 = nI ln) (h3 : i 33 3 = nI 0) (h4 : i 33 4 = mI 0) (hS : ∀ {p : Nat} {acc : List (Nat × Nat)} {i : tI} {l : tL} {I : tI} {J : tL}, isC9 q → 36 < q → cTx I tx ln → i 33 2 = nI ln → i 33 3 = nI p → i 33 4 = mI 0 → p ≤ ln → cKn i I q acc → acc.length < 10 → Gd (rn (d + 3) mX8_readStep [.ref q, .ref 33] (mH h i l I J nw df P)) (Rt h nw df P none fun i' l' I' J' => Kp [(33, 3), (33, 4), (q, 2)] [] [q + 1, q + 2] i i' l l' I I' J J' ∧ pRes q ln (stIt tx ln p acc) acc i' I')) : Gd (rn (d + 4) mX8_read [.ref q, .ref 33] (mH h i l I J nw df P)) (Rt h nw df P none fun i' l' I' J' => Kp [(33, 3), (33, 4), (q, 2)] [] [q + 1, q + 2] i i' l l' I I' J J' ∧ pEnd q (rdA (stIt tx ln) tx ln) i' I') := by
  have hl := ht.1
  rw [X8_read_E]
  conv => arg 1; simp (disch := first | assumption | omega | decide | exact bI_or _) only [X8_read_0, X8_read_1, X8_read_2, X8_read_5, X8_read_6, X8_read_7, X8_read_8, X8_read_10b, X8_read_13, X8_read_14, X8_read_15, X8_read_17, X8_read_20b, X8_read_23, X8_read_24, X8_read_25, X8_read_28, X8_read_31, X8_read_34, show (0 : Int32) = nI 0 from rfl, kp9_2, show (10 : Int32) = nI 10 from rfl, kis10, kis9, show (1 : Int32) = nI 1 from rfl, exLt_c1, exLt_c2, exEq_c, exLt_t, exLt_f, exEq_s, exEq_t, exEq_f, exLt_mn, exLt_nm, exEq_mn, exEq_nm, exEq_mm, exEq_xf, exLtL_t, exLtL_f, exEqL_t, exEqL_f, exB_t, exB_f, exSw_t, exSw_f, exSw_0, klz_f, klz_g, kieq_f, kdivL, kdivI, kmodL, kmodI, knIL, lN_i, nI_add, pk_mul, pk_sub, pk_subm, kad1, kad2, lN_add, lN_mul, lN_sub, kkl_i, kkl_l, kkl_r, kkl_0, Option.bind_some, Option.toList_some, Option.toList_none, List.cons_append, List.nil_append, if_true, if_false, eq_self, not_true_eq_false, not_false_eq_true, ku2_eq, ku2_ne, pk_us, pk_un, pk_uLs, pk_uLn, kup_Is, kup_In, kup_Js, kup_Jn, ku2_ku2, kup_I, kup_J, knar1, knar0]
  have k0 : Kp [(33, 3), (33, 4), (q, 2)] [] [q + 1, q + 2] i (ku2 i q 2 (nI 0)) l l I I J J := Kp_i Kp_refl (by simp)
  refine Gd_call (t_hasPart (k := 0) (m := 10) (p := 0) (f := 0) ht (by simp (disch := first | assumption | omega | decide | exact bI_or _) only [h2, exLt_c1, exLt_c2, exEq_c, exLt_t, exLt_f, exEq_s, exEq_t, exEq_f, exLt_mn, exLt_nm, exEq_mn, exEq_nm, exEq_mm, exEq_xf, exLtL_t, exLtL_f, exEqL_t, exEqL_f, exB_t, exB_f, exSw_t, exSw_f, exSw_0, klz_f, klz_g, kieq_f, kdivL, kdivI, kmodL, kmodI, knIL, lN_i, nI_add, pk_mul, pk_sub, pk_subm, kad1, kad2, lN_add, lN_mul, lN_sub, kkl_i, kkl_l, kkl_r, kkl_0, Option.bind_some, Option.toList_some, Option.toList_none, List.cons_append, List.nil_append, if_true, if_false, eq_self, not_true_eq_false, not_false_eq_true, ku2_eq, ku2_ne, pk_us, pk_un, pk_uLs, pk_uLn, kup_Is, kup_In, kup_Js, kup_Jn, ku2_ku2, kup_I, kup_J, knar1, knar0]) (by simp (disch := first | assumption | omega | decide | exact bI_or _) only [h3, exLt_c1, exLt_c2, exEq_c, exLt_t, exLt_f, exEq_s, exEq_t, exEq_f, exLt_mn, exLt_nm, exEq_mn, exEq_nm, exEq_mm, exEq_xf, exLtL_t, exLtL_f, exEqL_t, exEqL_f, exB_t, exB_f, exSw_t, exSw_f, exSw_0, klz_f, klz_g, kieq_f, kdivL, kdivI, kmodL, kmodI, knIL, lN_i, nI_add, pk_mul, pk_sub, pk_subm, kad1, kad2, lN_add, lN_mul, lN_sub, kkl_i, kkl_l, kkl_r, kkl_0, Option.bind_some, Option.toList_some, Option.toList_none, List.cons_append, List.nil_append, if_true, if_false, eq_self, not_true_eq_false, not_false_eq_true, ku2_eq, ku2_ne, pk_us, pk_un, pk_uLs, pk_uLn, kup_Is, kup_In, kup_Js, kup_Jn, ku2_ku2, kup_I, kup_J, knar1, knar0]) (by simp (disch := first | assumption | omega | decide | exact bI_or _) only [h4, exLt_c1, exLt_c2, exEq_c, exLt_t, exLt_f, exEq_s, exEq_t, exEq_f, exLt_mn, exLt_nm, exEq_mn, exEq_nm, exEq_mm, exEq_xf, exLtL_t, exLtL_f, exEqL_t, exEqL_f, exB_t, exB_f, exSw_t, exSw_f, exSw_0, klz_f, klz_g, kieq_f, kdivL, kdivI, kmodL, kmodI, knIL, lN_i, nI_add, pk_mul, pk_sub, pk_subm, kad1, kad2, lN_add, lN_mul, lN_sub, kkl_i, kkl_l, kkl_r, kkl_0, Option.bind_some, Option.toList_some, Option.toList_none, List.cons_append, List.nil_append, if_true, if_false, eq_self, not_true_eq_false, not_false_eq_true, ku2_eq, ku2_ne, pk_us, pk_un, pk_uLs, pk_uLn, kup_Is, kup_In, kup_Js, kup_Jn, ku2_ku2, kup_I, kup_J, knar1, knar0]) (by omega) (by omega) (by omega) (by omega)) ?_
  intro i1 l1 I1 J1 ⟨k1, e3, e4⟩
  have k1' := Kp_trans k0 (Kp_mono k1 (ks' := [(33, 3), (33, 4), (q, 2)]) (ls' := []) (qs' := [q + 1, q + 2]) (by simp) (by simp) (by simp))
  have e5 : i1 q 2 = nI 0 := (k1.1 _ _ (by simp)).trans (ku2_eq _ _ _ _)
  have hk0 : cKn i1 I1 q [] := ⟨e5, fun j hj => absurd hj (by simp)⟩
  unfold rdA
  by_cases c1 : ln = 0
  · rw [if_pos c1]
    rw [if_neg (by omega)] at e3 e4
    have c2 : ¬ (0 = 0 ∧ 0 < ln ∧ hpF tx ln 0 0 10 = 0) := by omega
    conv => arg 1; simp (disch := first | assumption | omega | decide | exact bI_or _) only [X8_read_0, X8_read_1, X8_read_2, X8_read_5, X8_read_6, X8_read_8, X8_read_10b, X8_read_13, X8_read_14, X8_read_15, X8_read_17, X8_read_20b, X8_read_23, X8_read_24, X8_read_25, X8_read_28, X8_read_31, X8_read_34, show (0 : Int32) = nI 0 from rfl, kp9_2, show (10 : Int32) = nI 10 from rfl, kis10, kis9, show (1 : Int32) = nI 1 from rfl, exLt_c1, exLt_c2, exEq_c, exLt_t, exLt_f, exEq_s, exEq_t, exEq_f, exLt_mn, exLt_nm, exEq_mn, exEq_nm, exEq_mm, exEq_xf, exLtL_t, exLtL_f, exEqL_t, exEqL_f, exB_t, exB_f, exSw_t, exSw_f, exSw_0, klz_f, klz_g, kieq_f, kdivL, kdivI, kmodL, kmodI, knIL, lN_i, nI_add, pk_mul, pk_sub, pk_subm, kad1, kad2, lN_add, lN_mul, lN_sub, kkl_i, kkl_l, kkl_r, kkl_0, Option.bind_some, Option.toList_some, Option.toList_none, List.cons_append, List.nil_append, if_true, if_false, eq_self, not_true_eq_false, not_false_eq_true, ku2_eq, ku2_ne, pk_us, pk_un, pk_uLs, pk_uLn, kup_Is, kup_In, kup_Js, kup_Jn, ku2_ku2, kup_I, kup_J, knar1, knar0]
    exact Gd_rt ⟨k1', e4, by show 0 < 1000000; omega, ⟨0, by omega, e3⟩, fun _ => hk0⟩
  rw [if_neg c1]
  rw [if_pos ⟨rfl, by omega⟩] at e3 e4
  have ef : hpF tx ln 0 0 10 = 0 := by
    unfold hpF
    rw [if_pos (Or.inl rfl), ff_z, if_pos (by omega)]
  have ep : hpP tx ln 0 0 = 0 := by
    unfold hpP
    rw [if_neg (by omega)]
  rw [ef] at e4
  rw [ep] at e3
  have ht1 : cTx I1 tx ln := ht.c (k1.2.2.1 _ (by simp))
  have h21 : i1 33 2 = nI ln := (k1.1 _ _ (by decide)).trans (by simp (disch := first | assumption | omega | decide | exact bI_or _) only [h2, exLt_c1, exLt_c2, exEq_c, exLt_t, exLt_f, exEq_s, exEq_t, exEq_f, exLt_mn, exLt_nm, exEq_mn, exEq_nm, exEq_mm, exEq_xf, exLtL_t, exLtL_f, exEqL_t, exEqL_f, exB_t, exB_f, exSw_t, exSw_f, exSw_0, klz_f, klz_g, kieq_f, kdivL, kdivI, kmodL, kmodI, knIL, lN_i, nI_add, pk_mul, pk_sub, pk_subm, kad1, kad2, lN_add, lN_mul, lN_sub, kkl_i, kkl_l, kkl_r, kkl_0, Option.bind_some, Option.toList_some, Option.toList_none, List.cons_append, List.nil_append, if_true, if_false, eq_self, not_true_eq_false, not_false_eq_true, ku2_eq, ku2_ne, pk_us, pk_un, pk_uLs, pk_uLn, kup_Is, kup_In, kup_Js, kup_Jn, ku2_ku2, kup_I, kup_J, knar1, knar0])
  have c4 : True ∧ 0 < ln ∧ hpF tx ln 0 0 10 = 0 := ⟨trivial, by omega, ef⟩
  conv => arg 1; simp (disch := first | assumption | omega | decide | exact bI_or _) only [X8_read_0, X8_read_1, X8_read_2, X8_read_5, X8_read_6, X8_read_8, X8_read_10b, X8_read_13, X8_read_14, X8_read_15, X8_read_17, X8_read_20b, X8_read_23, X8_read_24, X8_read_25, X8_read_28, X8_read_31, X8_read_34, show (0 : Int32) = nI 0 from rfl, kp9_2, show (10 : Int32) = nI 10 from rfl, kis10, kis9, show (1 : Int32) = nI 1 from rfl, exLt_c1, exLt_c2, exEq_c, exLt_t, exLt_f, exEq_s, exEq_t, exEq_f, exLt_mn, exLt_nm, exEq_mn, exEq_nm, exEq_mm, exEq_xf, exLtL_t, exLtL_f, exEqL_t, exEqL_f, exB_t, exB_f, exSw_t, exSw_f, exSw_0, klz_f, klz_g, kieq_f, kdivL, kdivI, kmodL, kmodI, knIL, lN_i, nI_add, pk_mul, pk_sub, pk_subm, kad1, kad2, lN_add, lN_mul, lN_sub, kkl_i, kkl_l, kkl_r, kkl_0, Option.bind_some, Option.toList_some, Option.toList_none, List.cons_append, List.nil_append, if_true, if_false, eq_self, not_true_eq_false, not_false_eq_true, ku2_eq, ku2_ne, pk_us, pk_un, pk_uLs, pk_uLn, kup_Is, kup_In, kup_Js, kup_Jn, ku2_ku2, kup_I, kup_J, knar1, knar0]
  refine Gd_call (hS (p := 0) (acc := []) hq hq3 ht1 h21 e3 e4 (by omega) hk0 (by simp)) ?_
  intro i2 l2 I2 J2 ⟨k2, r4, r5, r6, r7⟩
  have k2' := Kp_trans k1' k2
  have hb := stIt_b (tx := tx) (ln := ln) (p := 0) (acc := []) ⟨by simp, fun k hk => absurd hk (by simp)⟩
  have h22 : i2 33 2 = nI ln := (k2.1 _ _ (by simp; omega)).trans h21
  generalize stIt tx ln 0 [] = X at *
  conv => arg 1; simp (disch := first | assumption | omega | decide | exact bI_or _) only [X8_read_0, X8_read_1, X8_read_2, X8_read_5, X8_read_6, X8_read_8, X8_read_10b, X8_read_13, X8_read_14, X8_read_15, X8_read_17, X8_read_20b, X8_read_23, X8_read_24, X8_read_25, X8_read_28, X8_read_31, X8_read_34, show (0 : Int32) = nI 0 from rfl, kp9_2, show (10 : Int32) = nI 10 from rfl, kis10, kis9, show (1 : Int32) = nI 1 from rfl, exLt_c1, exLt_c2, exEq_c, exLt_t, exLt_f, exEq_s, exEq_t, exEq_f, exLt_mn, exLt_nm, exEq_mn, exEq_nm, exEq_mm, exEq_xf, exLtL_t, exLtL_f, exEqL_t, exEqL_f, exB_t, exB_f, exSw_t, exSw_f, exSw_0, klz_f, klz_g, kieq_f, kdivL, kdivI, kmodL, kmodI, knIL, lN_i, nI_add, pk_mul, pk_sub, pk_subm, kad1, kad2, lN_add, lN_mul, lN_sub, kkl_i, kkl_l, kkl_r, kkl_0, Option.bind_some, Option.toList_some, Option.toList_none, List.cons_append, List.nil_append, if_true, if_false, eq_self, not_true_eq_false, not_false_eq_true, ku2_eq, ku2_ne, pk_us, pk_un, pk_uLs, pk_uLn, kup_Is, kup_In, kup_Js, kup_Jn, ku2_ku2, kup_I, kup_J, knar1, knar0]
  by_cases c5 : X.1 = 0
  · obtain ⟨r7a, r7b⟩ := r7 c5
    obtain ⟨b1, b2, b3⟩ := hb c5
    rw [if_neg (fun z => z c5)]
    exact c_rdL8 hq hq3 ht hS ln X.2.2 [X.2.1] i2 l2 I2 J2 b2 (by omega) (by simp) b3 h22 r7a (by rw [r4, c5]) r7b k2'
  · have v1 : 0 < X.1 := Nat.pos_of_ne_zero c5
    obtain ⟨p3, hp3, r6a⟩ := r6 c5
    rw [if_pos c5]
    refine Gd_tail (c_rdst8 (k := 1) (ht1.c (k2.2.2.1 _ (by simp; omega))) h22 r6a r4 v1 r5 hp3 (by omega)) ?_
    intro i3 l3 I3 J3 ⟨k3, s3, s4⟩
    exact ⟨Kp_trans k2' (Kp_mono k3 (by simp) (by simp) (by simp)), s4, r5, ⟨p3, hp3, s3⟩, fun z => absurd z c5⟩
end CR8
