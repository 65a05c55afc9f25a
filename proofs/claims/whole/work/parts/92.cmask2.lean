/-! OWN: the class: masks put, held together -/
/-- of the first so many hits: is this knock one -/
def hP (hs : List cT) : Nat → Nat → Bool
  | 0, _ => false
  | a + 1, j => hP hs a j || j == (hA hs a).1
theorem hP_c {e : cT} {t : List cT} : ∀ (a : Nat), a ≤ t.length → ∀ j, hP (e :: t) a j = hP t a j
  | 0, _, j => rfl
  | a + 1, h, j => by rw [hP, hP, hP_c a (by omega) j, hA_lt (by omega)]
theorem hP_all : ∀ (hs : List cT) (j : Nat), hP hs hs.length j = hB hs j
  | [], j => rfl
  | e :: t, j => by
    rw [List.length_cons, hP, hP_c t.length (Nat.le_refl _) j, hP_all t j, hA_eq]
    unfold hB
    rw [List.any_cons, Bool.or_comm, show (j == e.1) = (e.1 == j) from BEq.comm]
/-- a row of a mask -/
def mkW (J : tL) (q row : Nat) (p : Nat → Bool) : Prop := ∀ w, w < 4 → J (q + 1) (row * 4 + w) = lN (wl p (64 * w) 64)
theorem sh6 : ∀ k, k < 200 → nI k >>> (nI 6 &&& 31) = nI (k / 64) ∧ nI k &&& nI 63 = nI (k % 64) := by decide +kernel
theorem cntF_ie (p q : Nat → Bool) : ∀ (n j : Nat), cntF p n j + cntF q n j = cntF (fun k => p k || q k) n j + cntF (fun k => p k && q k) n j
  | 0, j => rfl
  | n + 1, j => by
    have ih := cntF_ie p q n (j + 1)
    rw [cntF, cntF, cntF, cntF]
    cases h1 : p j <;> cases h2 : q j <;> simp <;> omega
theorem cntF_fa {p : Nat → Bool} : ∀ (n j : Nat), (∀ k, j ≤ k → k < j + n → p k = false) → cntF p n j = 0
  | 0, j, _ => rfl
  | n + 1, j, h => by
    rw [cntF, h j (Nat.le_refl _) (by omega), cntF_fa n (j + 1) (fun k a b => h k (by omega) (by omega))]
    rfl
theorem cntF_ext {p : Nat → Bool} {n m : Nat} (h : n ≤ m) (hp : ∀ k, n ≤ k → p k = false) : cntF p m 0 = cntF p n 0 := by
  rw [show m = n + (m - n) by omega, cntF_split, cntF_fa (m - n) (0 + n) (fun k a _ => hp k (by omega)), Nat.add_zero]
theorem cntF_one {m : Nat} : ∀ (n j : Nat), j ≤ m → m < j + n → cntF (fun k => k == m) n j = 1
  | 0, j, h1, h2 => by omega
  | n + 1, j, h1, h2 => by
    rw [cntF]
    by_cases e : j = m
    · subst e
      rw [cntF_fa n (j + 1) (fun k a b => by simp; omega)]
      simp
    · rw [cntF_one n (j + 1) (by omega) (by omega)]
      simp [e]
/-- as many knocks as hits -/
theorem hB_cnt {n : Nat} : ∀ (hs : List cT), (hs.Pairwise fun a b => b.1 < a.1) → (∀ e ∈ hs, e.1 < n) → cntF (hB hs) n 0 = hs.length
  | [], _, _ => cntF_fa n 0 (fun k _ _ => rfl)
  | e :: t, hp, he => by
    have h2 := List.pairwise_cons.mp hp
    have ih := hB_cnt t h2.2 (fun x hx => he x (List.mem_cons_of_mem _ hx))
    have ie := cntF_ie (fun k => k == e.1) (hB t) n 0
    have h1 := cntF_one (m := e.1) n 0 (Nat.zero_le _) (by have := he e List.mem_cons_self; omega)
    have h3 : cntF (fun k => (k == e.1) && hB t k) n 0 = 0 := cntF_fa n 0 (fun k _ _ => by
      by_cases z : k = e.1
      · have : hB t k = false := by
          unfold hB
          rw [List.any_eq_false]
          intro x hx
          have := h2.1 x hx
          simp
          omega
        rw [this, Bool.and_false]
      · simp [z])
    have h4 : cntF (hB (e :: t)) n 0 = cntF (fun k => (k == e.1) || hB t k) n 0 := cntF_c n 0 (fun k _ _ => by
      show hB (e :: t) k = _
      unfold hB
      rw [List.any_cons, show (e.1 == k) = (k == e.1) from BEq.comm])
    rw [h4, List.length_cons]
    omega
section CMB
variable {d : Nat} {h : kH} {i : tI} {l : tL} {I : tI} {J : tL} {nw df : Nat} {P : Nat → Nat}
theorem c_mp0 {q row : Nat} {J0 : tL} {Q : kR → Prop} (hq : isC4 q) (hr : row < 200) (hcont : ∀ (J : tL), Kp [] [] [q + 1] i i l l I I J0 J → (∀ w, w < 4 → J (q + 1) (row * 4 + w) = lN 0) → (∀ x, (x < row * 4 ∨ row * 4 + 4 ≤ x) → J (q + 1) x = J0 (q + 1) x) → Gd (ex d mX3_put 29 [some (.ref q), some (.int (nI row)), some (.ref 74), some (.int (nI (row * 4))), some (.int (nI 4)), none] [] (mH h i l I J nw df P)) Q) : ∀ (c w : Nat) (J : tL), w + c = 4 → Kp [] [] [q + 1] i i l l I I J0 J → (∀ v, v < w → J (q + 1) (row * 4 + v) = lN 0) → (∀ x, (x < row * 4 ∨ row * 4 + 4 ≤ x) → J (q + 1) x = J0 (q + 1) x) → Gd (ex d mX3_put 7 [some (.ref q), some (.int (nI row)), some (.ref 74), some (.int (nI (row * 4))), some (.int (nI w)), none] [] (mH h i l I J nw df P)) Q
  | 0, w, J, hw, k1, h1, h2 => by
    have hw : w = 4 := hw
    subst hw
    rw [X3_put_7]
    conv => arg 1; simp (disch := first | assumption | omega | decide | exact bI_or _) only [X3_put_0, X3_put_1, X3_put_2, X3_put_3, X3_put_4, X3_put_5, X3_put_9, X3_put_10b, X3_put_13, X3_put_14, X3_put_17, X3_put_18, X3_put_20, X3_put_21, X3_put_22, X3_put_23, X3_put_26, X3_put_30, X3_put_34, X3_put_35, X3_put_38b, X3_put_41, X3_put_42, X3_put_45, X3_put_47, X3_put_48, X3_put_50, X3_put_51, X3_put_54, X3_put_55, X3_put_57, X3_put_59, X3_put_60, X3_put_61, X3_put_62, X3_put_63, X3_put_64, X3_put_66, X3_put_68, X3_put_69, X3_put_70, X3_put_71, X3_put_72, X3_put_75, X3_put_78, X3_put_79, X3_put_82, X3_put_83, X3_put_84, X3_put_87, X3_put_88, show (4 : Int32) = nI 4 from rfl, show (0 : Int32) = nI 0 from rfl, kg4_0, kl4_0, ks4_0, show (0 : Int64) = lN 0 from rfl, show (1 : Int32) = nI 1 from rfl, kg2_6, kg2_8, kl2_8, ks2_8, show (6 : Int32) = nI 6 from rfl, show (1 : Int64) = lN 1 from rfl, show (63 : Int32) = nI 63 from rfl, kg4_1, kl4_1, ks4_1, exLt_c1, exLt_c2, exEq_c, exLt_t, exLt_f, exEq_s, exEq_t, exEq_f, exLt_mn, exLt_nm, exEq_mn, exEq_nm, exEq_mm, exEq_xf, exLtL_t, exLtL_f, exEqL_t, exEqL_f, exB_t, exB_f, exSw_t, exSw_f, exSw_0, klz_f, klz_g, kieq_f, kdivL, kdivI, kmodL, kmodI, knIL, lN_i, nI_add, pk_mul, pk_sub, pk_subm, kad1, kad2, lN_add, lN_mul, lN_sub, kkl_i, kkl_l, kkl_r, kkl_0, Option.bind_some, Option.toList_some, Option.toList_none, List.cons_append, List.nil_append, if_true, if_false, eq_self, not_true_eq_false, not_false_eq_true, ku2_eq, ku2_ne, pk_us, pk_un, pk_uLs, pk_uLn, kup_Is, kup_In, kup_Js, kup_Jn, ku2_ku2, kup_I, kup_J, knar1, knar0]
    exact hcont J k1 h1 h2
  | c + 1, w, J, hw, k1, h1, h2 => by
    rw [X3_put_7]
    conv => arg 1; simp (disch := first | assumption | omega | decide | exact bI_or _) only [X3_put_0, X3_put_1, X3_put_2, X3_put_3, X3_put_4, X3_put_5, X3_put_9, X3_put_10b, X3_put_13, X3_put_14, X3_put_17, X3_put_18, X3_put_20, X3_put_21, X3_put_22, X3_put_23, X3_put_26, X3_put_30, X3_put_34, X3_put_35, X3_put_38b, X3_put_41, X3_put_42, X3_put_45, X3_put_47, X3_put_48, X3_put_50, X3_put_51, X3_put_54, X3_put_55, X3_put_57, X3_put_59, X3_put_60, X3_put_61, X3_put_62, X3_put_63, X3_put_64, X3_put_66, X3_put_68, X3_put_69, X3_put_70, X3_put_71, X3_put_72, X3_put_75, X3_put_78, X3_put_79, X3_put_82, X3_put_83, X3_put_84, X3_put_87, X3_put_88, show (4 : Int32) = nI 4 from rfl, show (0 : Int32) = nI 0 from rfl, kg4_0, kl4_0, ks4_0, show (0 : Int64) = lN 0 from rfl, show (1 : Int32) = nI 1 from rfl, kg2_6, kg2_8, kl2_8, ks2_8, show (6 : Int32) = nI 6 from rfl, show (1 : Int64) = lN 1 from rfl, show (63 : Int32) = nI 63 from rfl, kg4_1, kl4_1, ks4_1, exLt_c1, exLt_c2, exEq_c, exLt_t, exLt_f, exEq_s, exEq_t, exEq_f, exLt_mn, exLt_nm, exEq_mn, exEq_nm, exEq_mm, exEq_xf, exLtL_t, exLtL_f, exEqL_t, exEqL_f, exB_t, exB_f, exSw_t, exSw_f, exSw_0, klz_f, klz_g, kieq_f, kdivL, kdivI, kmodL, kmodI, knIL, lN_i, nI_add, pk_mul, pk_sub, pk_subm, kad1, kad2, lN_add, lN_mul, lN_sub, kkl_i, kkl_l, kkl_r, kkl_0, Option.bind_some, Option.toList_some, Option.toList_none, List.cons_append, List.nil_append, if_true, if_false, eq_self, not_true_eq_false, not_false_eq_true, ku2_eq, ku2_ne, pk_us, pk_un, pk_uLs, pk_uLn, kup_Is, kup_In, kup_Js, kup_Jn, ku2_ku2, kup_I, kup_J, knar1, knar0]
    refine c_mp0 hq hr hcont c (w + 1) _ (by omega) (by (repeat (first | exact k1 | refine Kp_i ?_ (by first | decide | simp) | refine Kp_l ?_ (by first | decide | simp) | refine Kp_I ?_ (by first | decide | simp) | refine Kp_J ?_ (by first | decide | simp) | exact Kp_refl))) (fun v hv => ?_) (fun x hx => ?_)
    · rw [kup_Js]
      unfold vp_updL
      split
      · rfl
      · exact h1 v (by omega)
    · rw [kup_Js]
      unfold vp_updL
      rw [if_neg (by omega)]
      exact h2 x hx
theorem c_mp1 {q row : Nat} {hs : List cT} {J0 : tL} (hq : isC4 q) (hq2 : 79 < q) (hr : row < 200) (h6 : i 74 6 = nI hs.length) (hs2 : hs.length ≤ 200) (hI : ∀ a, a < hs.length → I 77 a = nI (hA hs a).1) (he : ∀ e ∈ hs, e.1 < 200) : ∀ (c a : Nat) (J : tL) (a5 : Option Value), a + c = hs.length → Kp [] [] [q + 1] i i l l I I J0 J → mkW J q row (hP hs a) → (∀ x, (x < row * 4 ∨ row * 4 + 4 ≤ x) → J (q + 1) x = J0 (q + 1) x) → Gd (ex d mX3_put 32 [some (.ref q), some (.int (nI row)), some (.ref 74), some (.int (nI (row * 4))), some (.int (nI a)), a5] [] (mH h i l I J nw df P)) (Rt h nw df P none fun i' l' I' J' => Kp [] [] [q + 1, q + 2] i i' l l' I I' J0 J' ∧ mkW J' q row (hB hs) ∧ (∀ x, (x < row * 4 ∨ row * 4 + 4 ≤ x) → J' (q + 1) x = J0 (q + 1) x) ∧ I' (q + 2) = upd (I (q + 2)) row (nI hs.length))
  | 0, a, J, a5, ha, k1, h1, h2 => by
    have c2 := c2_74
    have ha : a = hs.length := ha
    subst ha
    rw [X3_put_32]
    conv => arg 1; simp (disch := first | assumption | omega | decide | exact bI_or _) only [h6, X3_put_0, X3_put_1, X3_put_2, X3_put_3, X3_put_4, X3_put_5, X3_put_9, X3_put_10b, X3_put_13, X3_put_14, X3_put_17, X3_put_18, X3_put_20, X3_put_21, X3_put_22, X3_put_23, X3_put_26, X3_put_29, X3_put_30, X3_put_34, X3_put_35, X3_put_38b, X3_put_41, X3_put_42, X3_put_45, X3_put_47, X3_put_48, X3_put_50, X3_put_51, X3_put_54, X3_put_55, X3_put_57, X3_put_59, X3_put_60, X3_put_61, X3_put_62, X3_put_63, X3_put_64, X3_put_66, X3_put_68, X3_put_69, X3_put_70, X3_put_71, X3_put_72, X3_put_75, X3_put_78, X3_put_79, X3_put_82, X3_put_83, X3_put_84, X3_put_87, X3_put_88, show (4 : Int32) = nI 4 from rfl, show (0 : Int32) = nI 0 from rfl, kg4_0, kl4_0, ks4_0, show (0 : Int64) = lN 0 from rfl, show (1 : Int32) = nI 1 from rfl, kg2_6, kg2_8, kl2_8, ks2_8, show (6 : Int32) = nI 6 from rfl, show (1 : Int64) = lN 1 from rfl, show (63 : Int32) = nI 63 from rfl, kg4_1, kl4_1, ks4_1, exLt_c1, exLt_c2, exEq_c, exLt_t, exLt_f, exEq_s, exEq_t, exEq_f, exLt_mn, exLt_nm, exEq_mn, exEq_nm, exEq_mm, exEq_xf, exLtL_t, exLtL_f, exEqL_t, exEqL_f, exB_t, exB_f, exSw_t, exSw_f, exSw_0, klz_f, klz_g, kieq_f, kdivL, kdivI, kmodL, kmodI, knIL, lN_i, nI_add, pk_mul, pk_sub, pk_subm, kad1, kad2, lN_add, lN_mul, lN_sub, kkl_i, kkl_l, kkl_r, kkl_0, Option.bind_some, Option.toList_some, Option.toList_none, List.cons_append, List.nil_append, if_true, if_false, eq_self, not_true_eq_false, not_false_eq_true, ku2_eq, ku2_ne, pk_us, pk_un, pk_uLs, pk_uLn, kup_Is, kup_In, kup_Js, kup_Jn, ku2_ku2, kup_I, kup_J, knar1, knar0]
    refine Gd_rt ⟨by (repeat (first | exact Kp_mono k1 (by simp) (by simp) (by simp) | refine Kp_i ?_ (by first | decide | simp) | refine Kp_l ?_ (by first | decide | simp) | refine Kp_I ?_ (by first | decide | simp) | refine Kp_J ?_ (by first | decide | simp) | exact Kp_refl)), fun w hw => ?_, h2, by simp (disch := first | assumption | omega | decide | exact bI_or _) only [exLt_c1, exLt_c2, exEq_c, exLt_t, exLt_f, exEq_s, exEq_t, exEq_f, exLt_mn, exLt_nm, exEq_mn, exEq_nm, exEq_mm, exEq_xf, exLtL_t, exLtL_f, exEqL_t, exEqL_f, exB_t, exB_f, exSw_t, exSw_f, exSw_0, klz_f, klz_g, kieq_f, kdivL, kdivI, kmodL, kmodI, knIL, lN_i, nI_add, pk_mul, pk_sub, pk_subm, kad1, kad2, lN_add, lN_mul, lN_sub, kkl_i, kkl_l, kkl_r, kkl_0, Option.bind_some, Option.toList_some, Option.toList_none, List.cons_append, List.nil_append, if_true, if_false, eq_self, not_true_eq_false, not_false_eq_true, ku2_eq, ku2_ne, pk_us, pk_un, pk_uLs, pk_uLn, kup_Is, kup_In, kup_Js, kup_Jn, ku2_ku2, kup_I, kup_J, knar1, knar0]⟩
    rw [h1 w hw]
    exact congrArg lN (wl_cong 64 _ (fun j _ _ => hP_all hs j))
  | c + 1, a, J, a5, ha, k1, h1, h2 => by
    have c2 := c2_74
    have hk := he _ (hA_mem (show a < hs.length by omega))
    have hIa := hI a (by omega)
    generalize hkk : (hA hs a).1 = k at *
    obtain ⟨sa, sb⟩ := sh6 k hk
    have hsh := lN_shl (k % 64) (by omega)
    have hkw : k / 64 < 4 := by omega
    have hwd := h1 (k / 64) hkw
    have hor : wl (hP hs a) (64 * (k / 64)) 64 ||| 2 ^ (k % 64) = wl (hP hs (a + 1)) (64 * (k / 64)) 64 := by
      rw [← wl_bit 64 (64 * (k / 64)) (k % 64) (by omega), wl_or]
      refine wl_cong 64 _ (fun j _ _ => ?_)
      rw [show 64 * (k / 64) + k % 64 = k by omega, hP, hkk]
    rw [X3_put_32]
    conv => arg 1; simp (disch := first | assumption | omega | decide | exact bI_or _) only [h6, hIa, sa, sb, hwd, hsh, lN_or, hor, X3_put_0, X3_put_1, X3_put_2, X3_put_3, X3_put_4, X3_put_5, X3_put_9, X3_put_10b, X3_put_13, X3_put_14, X3_put_17, X3_put_18, X3_put_20, X3_put_21, X3_put_22, X3_put_23, X3_put_26, X3_put_29, X3_put_30, X3_put_34, X3_put_35, X3_put_38b, X3_put_41, X3_put_42, X3_put_45, X3_put_47, X3_put_48, X3_put_50, X3_put_51, X3_put_54, X3_put_55, X3_put_57, X3_put_59, X3_put_60, X3_put_61, X3_put_62, X3_put_63, X3_put_64, X3_put_66, X3_put_68, X3_put_69, X3_put_70, X3_put_71, X3_put_72, X3_put_75, X3_put_78, X3_put_79, X3_put_82, X3_put_83, X3_put_84, X3_put_87, X3_put_88, show (4 : Int32) = nI 4 from rfl, show (0 : Int32) = nI 0 from rfl, kg4_0, kl4_0, ks4_0, show (0 : Int64) = lN 0 from rfl, show (1 : Int32) = nI 1 from rfl, kg2_6, kg2_8, kl2_8, ks2_8, show (6 : Int32) = nI 6 from rfl, show (1 : Int64) = lN 1 from rfl, show (63 : Int32) = nI 63 from rfl, kg4_1, kl4_1, ks4_1, exLt_c1, exLt_c2, exEq_c, exLt_t, exLt_f, exEq_s, exEq_t, exEq_f, exLt_mn, exLt_nm, exEq_mn, exEq_nm, exEq_mm, exEq_xf, exLtL_t, exLtL_f, exEqL_t, exEqL_f, exB_t, exB_f, exSw_t, exSw_f, exSw_0, klz_f, klz_g, kieq_f, kdivL, kdivI, kmodL, kmodI, knIL, lN_i, nI_add, pk_mul, pk_sub, pk_subm, kad1, kad2, lN_add, lN_mul, lN_sub, kkl_i, kkl_l, kkl_r, kkl_0, Option.bind_some, Option.toList_some, Option.toList_none, List.cons_append, List.nil_append, if_true, if_false, eq_self, not_true_eq_false, not_false_eq_true, ku2_eq, ku2_ne, pk_us, pk_un, pk_uLs, pk_uLn, kup_Is, kup_In, kup_Js, kup_Jn, ku2_ku2, kup_I, kup_J, knar1, knar0]
    refine c_mp1 hq hq2 hr h6 hs2 hI he c (a + 1) _ _ (by omega) (by (repeat (first | exact k1 | refine Kp_i ?_ (by first | decide | simp) | refine Kp_l ?_ (by first | decide | simp) | refine Kp_I ?_ (by first | decide | simp) | refine Kp_J ?_ (by first | decide | simp) | exact Kp_refl))) (fun w hw => ?_) (fun x hx => ?_)
    · rw [kup_Js]
      unfold vp_updL
      by_cases z : w = k / 64
      · rw [if_pos (by omega), z]
      · rw [if_neg (by omega), h1 w hw]
        refine congrArg lN (wl_cong 64 _ (fun j y1 y2 => ?_))
        rw [hP, hkk]
        have : (j == k) = false := by simp; omega
        rw [this, Bool.or_false]
    · rw [kup_Js]
      unfold vp_updL
      rw [if_neg (by omega)]
      exact h2 x hx
theorem c_mput {q row K : Nat} {hs : List cT} (hq : isC4 q) (hq2 : 79 < q) (hr : row < 200) (hd : cLd i I J K hs) (hs2 : hs.length ≤ 200) (he : ∀ e ∈ hs, e.1 < 200) : Gd (rn (d + 1) mX3_put [.ref q, .int (nI row), .ref 74] (mH h i l I J nw df P)) (Rt h nw df P none fun i' l' I' J' => Kp [] [] [q + 1, q + 2] i i' l l' I I' J J' ∧ mkW J' q row (hB hs) ∧ (∀ x, (x < row * 4 ∨ row * 4 + 4 ≤ x) → J' (q + 1) x = J (q + 1) x) ∧ I' (q + 2) = upd (I (q + 2)) row (nI hs.length)) := by
  have c2 := c2_74
  rw [X3_put_E]
  conv => arg 1; simp (disch := first | assumption | omega | decide | exact bI_or _) only [X3_put_0, X3_put_1, X3_put_2, X3_put_3, X3_put_4, X3_put_5, X3_put_9, X3_put_10b, X3_put_13, X3_put_14, X3_put_17, X3_put_18, X3_put_20, X3_put_21, X3_put_22, X3_put_23, X3_put_26, X3_put_29, X3_put_30, X3_put_34, X3_put_35, X3_put_38b, X3_put_41, X3_put_42, X3_put_45, X3_put_47, X3_put_48, X3_put_50, X3_put_51, X3_put_54, X3_put_55, X3_put_57, X3_put_59, X3_put_60, X3_put_61, X3_put_62, X3_put_63, X3_put_64, X3_put_66, X3_put_68, X3_put_69, X3_put_70, X3_put_71, X3_put_72, X3_put_75, X3_put_78, X3_put_79, X3_put_82, X3_put_83, X3_put_84, X3_put_87, X3_put_88, show (4 : Int32) = nI 4 from rfl, show (0 : Int32) = nI 0 from rfl, kg4_0, kl4_0, ks4_0, show (0 : Int64) = lN 0 from rfl, show (1 : Int32) = nI 1 from rfl, kg2_6, kg2_8, kl2_8, ks2_8, show (6 : Int32) = nI 6 from rfl, show (1 : Int64) = lN 1 from rfl, show (63 : Int32) = nI 63 from rfl, kg4_1, kl4_1, ks4_1, exLt_c1, exLt_c2, exEq_c, exLt_t, exLt_f, exEq_s, exEq_t, exEq_f, exLt_mn, exLt_nm, exEq_mn, exEq_nm, exEq_mm, exEq_xf, exLtL_t, exLtL_f, exEqL_t, exEqL_f, exB_t, exB_f, exSw_t, exSw_f, exSw_0, klz_f, klz_g, kieq_f, kdivL, kdivI, kmodL, kmodI, knIL, lN_i, nI_add, pk_mul, pk_sub, pk_subm, kad1, kad2, lN_add, lN_mul, lN_sub, kkl_i, kkl_l, kkl_r, kkl_0, Option.bind_some, Option.toList_some, Option.toList_none, List.cons_append, List.nil_append, if_true, if_false, eq_self, not_true_eq_false, not_false_eq_true, ku2_eq, ku2_ne, pk_us, pk_un, pk_uLs, pk_uLn, kup_Is, kup_In, kup_Js, kup_Jn, ku2_ku2, kup_I, kup_J, knar1, knar0]
  refine c_mp0 (J0 := J) hq hr ?_ 4 0 J rfl Kp_refl (fun v hv => by omega) (fun x hx => rfl)
  intro J1 k1 p1 p2
  conv => arg 1; simp (disch := first | assumption | omega | decide | exact bI_or _) only [X3_put_0, X3_put_1, X3_put_2, X3_put_3, X3_put_4, X3_put_5, X3_put_9, X3_put_10b, X3_put_13, X3_put_14, X3_put_17, X3_put_18, X3_put_20, X3_put_21, X3_put_22, X3_put_23, X3_put_26, X3_put_29, X3_put_30, X3_put_34, X3_put_35, X3_put_38b, X3_put_41, X3_put_42, X3_put_45, X3_put_47, X3_put_48, X3_put_50, X3_put_51, X3_put_54, X3_put_55, X3_put_57, X3_put_59, X3_put_60, X3_put_61, X3_put_62, X3_put_63, X3_put_64, X3_put_66, X3_put_68, X3_put_69, X3_put_70, X3_put_71, X3_put_72, X3_put_75, X3_put_78, X3_put_79, X3_put_82, X3_put_83, X3_put_84, X3_put_87, X3_put_88, show (4 : Int32) = nI 4 from rfl, show (0 : Int32) = nI 0 from rfl, kg4_0, kl4_0, ks4_0, show (0 : Int64) = lN 0 from rfl, show (1 : Int32) = nI 1 from rfl, kg2_6, kg2_8, kl2_8, ks2_8, show (6 : Int32) = nI 6 from rfl, show (1 : Int64) = lN 1 from rfl, show (63 : Int32) = nI 63 from rfl, kg4_1, kl4_1, ks4_1, exLt_c1, exLt_c2, exEq_c, exLt_t, exLt_f, exEq_s, exEq_t, exEq_f, exLt_mn, exLt_nm, exEq_mn, exEq_nm, exEq_mm, exEq_xf, exLtL_t, exLtL_f, exEqL_t, exEqL_f, exB_t, exB_f, exSw_t, exSw_f, exSw_0, klz_f, klz_g, kieq_f, kdivL, kdivI, kmodL, kmodI, knIL, lN_i, nI_add, pk_mul, pk_sub, pk_subm, kad1, kad2, lN_add, lN_mul, lN_sub, kkl_i, kkl_l, kkl_r, kkl_0, Option.bind_some, Option.toList_some, Option.toList_none, List.cons_append, List.nil_append, if_true, if_false, eq_self, not_true_eq_false, not_false_eq_true, ku2_eq, ku2_ne, pk_us, pk_un, pk_uLs, pk_uLn, kup_Is, kup_In, kup_Js, kup_Jn, ku2_ku2, kup_I, kup_J, knar1, knar0]
  refine c_mp1 (J0 := J) hq hq2 hr hd.1 hs2 (fun a ha => (htR_at hd.2.2 ha).1) he hs.length 0 J1 none (by omega) k1 (fun w hw => ?_) p2
  rw [p1 w hw, wl_no (p := hP hs 0) 64 _ (fun j _ _ => rfl)]
theorem c_tg1 {q r a b : Nat} {p p' : Nat → Bool} (hq : isC4 q) (hr : isC4 r) (ha : a < 200) (hb : b < 200) (h1 : mkW J q a p) (h2 : mkW J r b p') : ∀ (c w : Nat), w + c = 4 → ex (d + 1) mX3_together 6 [some (.ref q), some (.int (nI a)), some (.ref r), some (.int (nI b)), some (.int (nI (cntF (fun j => p j || p' j) (64 * w) 0))), some (.int (nI w))] [] (mH h i l I J nw df P) = some (some (.int (nI (cntF (fun j => p j || p' j) 256 0))), (mH h i l I J nw df P))
  | 0, w, hw => by
    have hw : w = 4 := hw
    subst hw
    rw [X3_together_6]
    conv => lhs; simp (disch := first | assumption | omega | decide | exact bI_or _) only [X3_together_0, X3_together_1, X3_together_3, X3_together_4, X3_together_8, X3_together_9b, X3_together_12, X3_together_14, X3_together_15, X3_together_18, X3_together_19, X3_together_20, X3_together_21, X3_together_23, X3_together_24, X3_together_25, X3_together_26, X3_together_29, X3_together_30, X3_together_31, X3_together_32, X3_together_34, X3_together_35, X3_together_36, X3_together_37, X3_together_40, X3_together_41, X3_together_43, X3_together_46, X3_together_49, X3_together_51, show (0 : Int32) = nI 0 from rfl, show (4 : Int32) = nI 4 from rfl, kg4_0, kl4_0, ks4_0, show (1 : Int32) = nI 1 from rfl, exLt_c1, exLt_c2, exEq_c, exLt_t, exLt_f, exEq_s, exEq_t, exEq_f, exLt_mn, exLt_nm, exEq_mn, exEq_nm, exEq_mm, exEq_xf, exLtL_t, exLtL_f, exEqL_t, exEqL_f, exB_t, exB_f, exSw_t, exSw_f, exSw_0, klz_f, klz_g, kieq_f, kdivL, kdivI, kmodL, kmodI, knIL, lN_i, nI_add, pk_mul, pk_sub, pk_subm, kad1, kad2, lN_add, lN_mul, lN_sub, kkl_i, kkl_l, kkl_r, kkl_0, Option.bind_some, Option.toList_some, Option.toList_none, List.cons_append, List.nil_append, if_true, if_false, eq_self, not_true_eq_false, not_false_eq_true, ku2_eq, ku2_ne, pk_us, pk_un, pk_uLs, pk_uLn, kup_Is, kup_In, kup_Js, kup_Jn, ku2_ku2, kup_I, kup_J, knar1, knar0]
  | c + 1, w, hw => by
    have e1 := h1 w (by omega)
    have e2 := h2 w (by omega)
    have hor := wl_or p p' 64 (64 * w)
    have hlt := wl_lt (fun j => p j || p' j) 64 (64 * w)
    have hbi : rn (d + 1) mJ13_bitCount_95d88 [.long (lN (wl (fun j => p j || p' j) (64 * w) 64))] (mH h i l I J nw df P) = some (some (.int (nI (cntF (fun j => p j || p' j) 64 (64 * w)))), (mH h i l I J nw df P)) := by
      rw [j_bitCount hlt, wl_pc]
    have IH := c_tg1 hq hr ha hb h1 h2 c (w + 1) (by omega)
    rw [show 64 * (w + 1) = 64 * w + 64 by omega, cntF_split, Nat.zero_add] at IH
    rw [X3_together_6]
    conv => lhs; simp (disch := first | assumption | omega | decide | exact bI_or _) only [e1, e2, lN_or, hor, hbi, X3_together_0, X3_together_1, X3_together_3, X3_together_4, X3_together_8, X3_together_9b, X3_together_12, X3_together_14, X3_together_15, X3_together_18, X3_together_19, X3_together_20, X3_together_21, X3_together_23, X3_together_24, X3_together_25, X3_together_26, X3_together_29, X3_together_30, X3_together_31, X3_together_32, X3_together_34, X3_together_35, X3_together_36, X3_together_37, X3_together_40, X3_together_41, X3_together_43, X3_together_46, X3_together_49, X3_together_51, show (0 : Int32) = nI 0 from rfl, show (4 : Int32) = nI 4 from rfl, kg4_0, kl4_0, ks4_0, show (1 : Int32) = nI 1 from rfl, exLt_c1, exLt_c2, exEq_c, exLt_t, exLt_f, exEq_s, exEq_t, exEq_f, exLt_mn, exLt_nm, exEq_mn, exEq_nm, exEq_mm, exEq_xf, exLtL_t, exLtL_f, exEqL_t, exEqL_f, exB_t, exB_f, exSw_t, exSw_f, exSw_0, klz_f, klz_g, kieq_f, kdivL, kdivI, kmodL, kmodI, knIL, lN_i, nI_add, pk_mul, pk_sub, pk_subm, kad1, kad2, lN_add, lN_mul, lN_sub, kkl_i, kkl_l, kkl_r, kkl_0, Option.bind_some, Option.toList_some, Option.toList_none, List.cons_append, List.nil_append, if_true, if_false, eq_self, not_true_eq_false, not_false_eq_true, ku2_eq, ku2_ne, pk_us, pk_un, pk_uLs, pk_uLn, kup_Is, kup_In, kup_Js, kup_Jn, ku2_ku2, kup_I, kup_J, knar1, knar0]
    exact IH
theorem c_together {q r a b : Nat} {p p' : Nat → Bool} (hq : isC4 q) (hr : isC4 r) (ha : a < 200) (hb : b < 200) (h1 : mkW J q a p) (h2 : mkW J r b p') : rn (d + 2) mX3_together [.ref q, .int (nI a), .ref r, .int (nI b)] (mH h i l I J nw df P) = some (some (.int (nI (cntF (fun j => p j || p' j) 256 0))), (mH h i l I J nw df P)) := by
  rw [X3_together_E]
  conv => lhs; simp (disch := first | assumption | omega | decide | exact bI_or _) only [X3_together_0, X3_together_1, X3_together_3, X3_together_4, X3_together_8, X3_together_9b, X3_together_12, X3_together_14, X3_together_15, X3_together_18, X3_together_19, X3_together_20, X3_together_21, X3_together_23, X3_together_24, X3_together_25, X3_together_26, X3_together_29, X3_together_30, X3_together_31, X3_together_32, X3_together_34, X3_together_35, X3_together_36, X3_together_37, X3_together_40, X3_together_41, X3_together_43, X3_together_46, X3_together_49, X3_together_51, show (0 : Int32) = nI 0 from rfl, show (4 : Int32) = nI 4 from rfl, kg4_0, kl4_0, ks4_0, show (1 : Int32) = nI 1 from rfl, exLt_c1, exLt_c2, exEq_c, exLt_t, exLt_f, exEq_s, exEq_t, exEq_f, exLt_mn, exLt_nm, exEq_mn, exEq_nm, exEq_mm, exEq_xf, exLtL_t, exLtL_f, exEqL_t, exEqL_f, exB_t, exB_f, exSw_t, exSw_f, exSw_0, klz_f, klz_g, kieq_f, kdivL, kdivI, kmodL, kmodI, knIL, lN_i, nI_add, pk_mul, pk_sub, pk_subm, kad1, kad2, lN_add, lN_mul, lN_sub, kkl_i, kkl_l, kkl_r, kkl_0, Option.bind_some, Option.toList_some, Option.toList_none, List.cons_append, List.nil_append, if_true, if_false, eq_self, not_true_eq_false, not_false_eq_true, ku2_eq, ku2_ne, pk_us, pk_un, pk_uLs, pk_uLn, kup_Is, kup_In, kup_Js, kup_Jn, ku2_ku2, kup_I, kup_J, knar1, knar0]
  exact c_tg1 hq hr ha hb h1 h2 4 0 rfl
theorem c_common {q r a b n : Nat} {h1 h2 : List cT} (hq : isC4 q) (hr : isC4 r) (ha : a < 200) (hb : b < 200) (w1 : mkW J q a (hB h1)) (w2 : mkW J r b (hB h2)) (c1 : I (q + 2) a = nI h1.length) (c2 : I (r + 2) b = nI h2.length) (p1 : h1.Pairwise fun a b => b.1 < a.1) (p2 : h2.Pairwise fun a b => b.1 < a.1) (hn : n ≤ 200) (e1 : ∀ e ∈ h1, e.1 < n) (e2 : ∀ e ∈ h2, e.1 < n) : rn (d + 3) mX3_common [.ref q, .int (nI a), .ref r, .int (nI b)] (mH h i l I J nw df P) = some (some (.int (nI (cntF (fun j => hB h1 j && hB h2 j) n 0))), (mH h i l I J nw df P)) := by
  have n1 : ∀ k, n ≤ k → hB h1 k = false := fun k hk => by
    unfold hB
    rw [List.any_eq_false]
    intro e he
    have := e1 e he
    simp
    omega
  have n2 : ∀ k, n ≤ k → hB h2 k = false := fun k hk => by
    unfold hB
    rw [List.any_eq_false]
    intro e he
    have := e2 e he
    simp
    omega
  have x1 := hB_cnt h1 p1 e1
  have x2 := hB_cnt h2 p2 e2
  have x3 := cntF_ie (hB h1) (hB h2) n 0
  have x4 : cntF (fun j => hB h1 j || hB h2 j) 256 0 = cntF (fun j => hB h1 j || hB h2 j) n 0 := cntF_ext (by omega) (fun k hk => by rw [n1 k hk, n2 k hk]; rfl)
  have et := c_together (d := d) (h := h) (i := i) (l := l) (I := I) (J := J) (nw := nw) (df := df) (P := P) hq hr ha hb w1 w2
  rw [x4] at et
  rw [X3_common_E]
  conv => lhs; simp (disch := first | assumption | omega | decide | exact bI_or _) only [c1, c2, et, X3_common_0, X3_common_1, X3_common_4, X3_common_5, X3_common_6, X3_common_7, X3_common_10, X3_common_11, X3_common_12, X3_common_13, X3_common_14, X3_common_15, X3_common_16, X3_common_17, X3_common_20, X3_common_21, kg4_1, kl4_1, ks4_1, kis4, exLt_c1, exLt_c2, exEq_c, exLt_t, exLt_f, exEq_s, exEq_t, exEq_f, exLt_mn, exLt_nm, exEq_mn, exEq_nm, exEq_mm, exEq_xf, exLtL_t, exLtL_f, exEqL_t, exEqL_f, exB_t, exB_f, exSw_t, exSw_f, exSw_0, klz_f, klz_g, kieq_f, kdivL, kdivI, kmodL, kmodI, knIL, lN_i, nI_add, pk_mul, pk_sub, pk_subm, kad1, kad2, lN_add, lN_mul, lN_sub, kkl_i, kkl_l, kkl_r, kkl_0, Option.bind_some, Option.toList_some, Option.toList_none, List.cons_append, List.nil_append, if_true, if_false, eq_self, not_true_eq_false, not_false_eq_true, ku2_eq, ku2_ne, pk_us, pk_un, pk_uLs, pk_uLn, kup_Is, kup_In, kup_Js, kup_Jn, ku2_ku2, kup_I, kup_J, knar1, knar0]
  rw [show h1.length + h2.length - cntF (fun j => hB h1 j || hB h2 j) n 0 = cntF (fun j => hB h1 j && hB h2 j) n 0 by omega]
end CMB
