/-! OWN: the class lays a trace's items -/
def okL (L : List (Nat × Nat)) : Prop := L.length ≤ 200 ∧ ∀ k, k < L.length → tkOf L k ≤ 99999
theorem lyG_ok : ∀ (G L : List (Nat × Nat)), okL L → okL (lyG L G).2 ∧ ((lyG L G).1 = 0 → (lyG L G).2.length = L.length + G.length)
  | [], L, h => ⟨h, fun _ => rfl⟩
  | y :: r, L, h => by
    rw [lyG]
    by_cases c1 : 200 ≤ L.length
    · rw [if_pos c1]
      exact ⟨h, fun z => absurd z (by decide : ¬ (3 : Nat) = 0)⟩
    rw [if_neg c1]
    by_cases c2 : 99999 < (if L.length = 0 then 0 else tkOf L (L.length - 1)) + y.1
    · rw [if_pos c2]
      exact ⟨h, fun z => absurd z (by decide : ¬ (4 : Nat) = 0)⟩
    rw [if_neg c2]
    generalize (if L.length = 0 then 0 else tkOf L (L.length - 1)) + y.1 = t at *
    have h2 : okL (L ++ [(t, y.2)]) := by
      refine ⟨by simp; omega, fun k hk => ?_⟩
      rw [List.length_append] at hk
      simp at hk
      by_cases c : k = L.length
      · subst c
        rw [tk_app2.1]
        omega
      · rw [(tk_app (by omega)).1]
        exact h.2 k (by omega)
    obtain ⟨a, b⟩ := lyG_ok r _ h2
    refine ⟨a, fun z => ?_⟩
    rw [b z]
    simp
    omega
theorem lyG_c {L a b : List (Nat × Nat)} : ((lyG L a).1 ≠ 0 → lyG L (a ++ b) = lyG L a) ∧ ((lyG L a).1 = 0 → lyG L (a ++ b) = lyG (lyG L a).2 b) := by
  rw [lyG_app]
  exact ⟨fun z => if_pos z, fun z => if_neg (fun y => y z)⟩
theorem lyG_4 : ∀ (G L : List (Nat × Nat)), (lyG L G).1 ≤ 4
  | [], L => by rw [lyG]; exact Nat.zero_le _
  | y :: r, L => by
    rw [lyG]
    by_cases c1 : 200 ≤ L.length
    · rw [if_pos c1]
      exact (by decide : (3 : Nat) ≤ 4)
    rw [if_neg c1]
    by_cases c2 : 99999 < (if L.length = 0 then 0 else tkOf L (L.length - 1)) + y.1
    · rw [if_pos c2]
      exact Nat.le_refl _
    rw [if_neg c2]
    exact lyG_4 r _
section CLB
variable {d : Nat} {h : kH} {i : tI} {l : tL} {I : tI} {J : tL} {nw df : Nat} {P : Nat → Nat}
theorem t_lyE {q o k g : Nat} {Q : kR → Prop} {a5 : Option Value} (hk : k < 2147483648) (hg : 0 < g) (hg2 : g < 1000) (hh : Gd (some (some (.int (mI g)), (mH h i l I J nw df P))) Q) : Gd (ex (d + 3) mX9_layItems 12 [some (.ref 33), some (.ref q), some (.int (nI o)), some (.int (mI g)), some (.int (nI k)), a5] [] (mH h i l I J nw df P)) Q := by
  by_cases c : k < 100000
  · rw [X9_layItems_12]
    conv => arg 1; simp (disch := first | assumption | omega | decide | exact bI_or _) only [X9_layItems_0, X9_layItems_1, X9_layItems_2, X9_layItems_3, X9_layItems_4, X9_layItems_5, X9_layItems_6, X9_layItems_9, X9_layItems_10, X9_layItems_14, X9_layItems_16b, X9_layItems_19, X9_layItems_20b, X9_layItems_23, X9_layItems_24, X9_layItems_27b, X9_layItems_30, X9_layItems_31, X9_layItems_34, X9_layItems_36, X9_layItems_38, X9_layItems_40b, X9_layItems_43, X9_layItems_44, X9_layItems_45, X9_layItems_48, X9_layItems_49, X9_layItems_52, X9_layItems_54, X9_layItems_56b, X9_layItems_59, X9_layItems_60, X9_layItems_61, X9_layItems_64, X9_layItems_65, X9_layItems_68, X9_layItems_69, X9_layItems_70, X9_layItems_73, X9_layItems_74, X9_layItems_77, X9_layItems_80, X9_layItems_81, show (0 : Int32) = nI 0 from rfl, kp10_3, show (100000 : Int32) = nI 100000 from rfl, kis10, show (40 : Int32) = nI 40 from rfl, show (41 : Int32) = nI 41 from rfl, show (1 : Int32) = nI 1 from rfl, exLt_c1, exLt_c2, exEq_c, exLt_t, exLt_f, exEq_s, exEq_t, exEq_f, exLt_mn, exLt_nm, exEq_mn, exEq_nm, exEq_mm, exEq_xf, exLtL_t, exLtL_f, exEqL_t, exEqL_f, exB_t, exB_f, exSw_t, exSw_f, exSw_0, klz_f, klz_g, kieq_f, kdivL, kdivI, kmodL, kmodI, knIL, lN_i, nI_add, pk_mul, pk_sub, pk_subm, kad1, kad2, lN_add, lN_mul, lN_sub, kkl_i, kkl_l, kkl_r, kkl_0, Option.bind_some, Option.toList_some, Option.toList_none, List.cons_append, List.nil_append, if_true, if_false, eq_self, not_true_eq_false, not_false_eq_true, ku2_eq, ku2_ne, pk_us, pk_un, pk_uLs, pk_uLn, kup_Is, kup_In, kup_Js, kup_Jn, ku2_ku2, kup_I, kup_J, knar1, knar0]
    exact hh
  · have c2 : 100000 ≤ k := by omega
    rw [X9_layItems_12]
    conv => arg 1; simp (disch := first | assumption | omega | decide | exact bI_or _) only [X9_layItems_0, X9_layItems_1, X9_layItems_2, X9_layItems_3, X9_layItems_4, X9_layItems_5, X9_layItems_6, X9_layItems_9, X9_layItems_10, X9_layItems_14, X9_layItems_16b, X9_layItems_19, X9_layItems_20b, X9_layItems_23, X9_layItems_24, X9_layItems_27b, X9_layItems_30, X9_layItems_31, X9_layItems_34, X9_layItems_36, X9_layItems_38, X9_layItems_40b, X9_layItems_43, X9_layItems_44, X9_layItems_45, X9_layItems_48, X9_layItems_49, X9_layItems_52, X9_layItems_54, X9_layItems_56b, X9_layItems_59, X9_layItems_60, X9_layItems_61, X9_layItems_64, X9_layItems_65, X9_layItems_68, X9_layItems_69, X9_layItems_70, X9_layItems_73, X9_layItems_74, X9_layItems_77, X9_layItems_80, X9_layItems_81, show (0 : Int32) = nI 0 from rfl, kp10_3, show (100000 : Int32) = nI 100000 from rfl, kis10, show (40 : Int32) = nI 40 from rfl, show (41 : Int32) = nI 41 from rfl, show (1 : Int32) = nI 1 from rfl, exLt_c1, exLt_c2, exEq_c, exLt_t, exLt_f, exEq_s, exEq_t, exEq_f, exLt_mn, exLt_nm, exEq_mn, exEq_nm, exEq_mm, exEq_xf, exLtL_t, exLtL_f, exEqL_t, exEqL_f, exB_t, exB_f, exSw_t, exSw_f, exSw_0, klz_f, klz_g, kieq_f, kdivL, kdivI, kmodL, kmodI, knIL, lN_i, nI_add, pk_mul, pk_sub, pk_subm, kad1, kad2, lN_add, lN_mul, lN_sub, kkl_i, kkl_l, kkl_r, kkl_0, Option.bind_some, Option.toList_some, Option.toList_none, List.cons_append, List.nil_append, if_true, if_false, eq_self, not_true_eq_false, not_false_eq_true, ku2_eq, ku2_ne, pk_us, pk_un, pk_uLs, pk_uLn, kup_Is, kup_In, kup_Js, kup_Jn, ku2_ku2, kup_I, kup_J, knar1, knar0]
    exact hh
theorem t_ly {tx : Nat → Nat} {ln q : Nat} {Q : kR → Prop} {i0 : tI} {l0 : tL} {I0 : tI} {J0 : tL} (hq : isC3 q) (hq3 : 36 < q) (ht : cTx I0 tx ln) : ∀ (f o p c k : Nat) (w : Bool) (L : List (Nat × Nat)) (i : tI) (l : tL) (I : tI) (J : tL) (a5 : Option Value), p ≤ ln → c + 2 * o = 7 → (w = true ∨ w = false) → (trI tx ln f o p w []).1 = 0 → okL L → i 33 2 = nI ln → i 33 3 = nI p → i 33 4 = mI 0 → cKn i I q L → k ≤ 7 * L.length + 3 * o → Kp [(33, 3), (33, 4), (q, 2)] [] [35, 36, q + 1, q + 2] i0 i l0 l I0 I J0 J →
    ((lyG L (trI tx ln f o p w []).2.1).1 ≠ 0 → ∀ (i : tI) (l : tL) (I : tI) (J : tL), Kp [(33, 3), (33, 4), (q, 2)] [] [35, 36, q + 1, q + 2] i0 i l0 l I0 I J0 J → Gd (some (some (.int (mI (lyG L (trI tx ln f o p w []).2.1).1)), (mH h i l I J nw df P))) Q) →
    ((lyG L (trI tx ln f o p w []).2.1).1 = 0 → ∀ (i' : tI) (l' : tL) (I' : tI) (J' : tL) (k' : Nat) (a5 : Option Value), Kp [(33, 3), (33, 4), (q, 2)] [] [35, 36, q + 1, q + 2] i0 i' l0 l' I0 I' J0 J' → i' 33 2 = nI ln → i' 33 3 = nI (trI tx ln f o p w []).2.2 → i' 33 4 = mI 0 → cKn i' I' q (lyG L (trI tx ln f o p w []).2.1).2 → k' ≤ k + c * (trI tx ln f o p w []).2.1.length → (∀ j, j < o → I' 35 j = I 35 j ∧ I' 36 j = I 36 j) → Gd (ex (d + 3) mX9_layItems 12 [some (.ref 33), some (.ref q), some (.int (nI o)), some (.int (nI 0)), some (.int (nI k')), a5] [] (mH h i' l' I' J' nw df P)) Q) →
    Gd (ex (d + 3) mX9_layItems 12 [some (.ref 33), some (.ref q), some (.int (nI o)), some (.int (nI 0)), some (.int (nI k)), a5] [] (mH h i l I J nw df P)) Q := by
  intro f
  have hl := ht.1
  induction f with
  | zero => intro o p c k w L i l I J a5 hp hco hw hX; exact absurd hX (by rw [trI]; simp)
  | succ f ih =>
    intro o p c k w L i l I J a5 hp hco hw hX hL h2 h3 h4 hk hkk k1 hE hS
    have ht1 : cTx I tx ln := ht.c (k1.2.2.1 _ (by simp; omega))
    have hLl := hL.1
    have es := t_sign (d := d + 2) (h := h) (l := l) (J := J) (nw := nw) (df := df) (P := P) ht1 h2 h3 (by omega)
    have ee : rn (d + 3) mX9_hasEnded [.ref 33] (mH h i l I J nw df P) = some (some (.int (bI (ln ≤ p))), (mH h i l I J nw df P)) := t_hasEnded h2 h3 (by omega) (by omega)
    rw [trI] at hE hS hX
    by_cases c1 : p < ln ∧ tx p = 40
    · have c11 := c1.1
      have ehr : hr tx ln p = nI 40 := by rw [hr, if_pos c11, c1.2]
      rw [if_pos c1] at hE hS hX
      have ho3 : o ≠ 3 := fun z => by
        rw [if_pos z] at hX
        have : 5000 + p = 0 := hX
        omega
      rw [if_neg ho3] at hE hS hX
      obtain ⟨c', rfl⟩ : ∃ c', c = c' + 2 := ⟨c - 2, by omega⟩
      have hrb := trI_b (tx := tx) (ln := ln) f (o + 1) (p + 1) true [] (by omega) (fun y hy => by cases hy) (fun z => by cases z)
      have IHR := fun k L i l I J a5 => ih (o + 1) (p + 1) c' k true L i l I J a5 (by omega) (by omega) (Or.inl rfl)
      generalize trI tx ln f (o + 1) (p + 1) true [] = R at *
      have hR0 : R.1 = 0 := by
        by_cases z : R.1 = 0
        · exact z
        · rw [if_pos z] at hX
          exact hX
      rw [if_neg (fun z => z hR0)] at hE hS hX
      have c4 : R.2.2 + 1 < ln ∧ 50 ≤ tx (R.2.2 + 1) ∧ tx (R.2.2 + 1) ≤ 57 := by
        by_cases z : R.2.2 + 1 < ln ∧ 50 ≤ tx (R.2.2 + 1) ∧ tx (R.2.2 + 1) ≤ 57
        · exact z
        · rw [if_neg z] at hX
          have : 1000 + (R.2.2 + 1) = 0 := hX
          omega
      rw [if_pos c4] at hE hS hX
      have hrb := hrb hR0
      have hR41 := hrb.2.2.2.2.1 (by omega)
      have hR1 := hR41.1
      have hlenR : 0 < R.2.1.length := List.length_pos_iff.mpr hrb.2.2.2.1
      obtain ⟨t, ht2⟩ : ∃ t, tx (R.2.2 + 1) = 48 + t := ⟨tx (R.2.2 + 1) - 48, by omega⟩
      have et : tx (R.2.2 + 1) - 48 = t := by omega
      rw [et] at hE hS hX
      have hacc := trI_acc (tx := tx) (ln := ln) f o (R.2.2 + 2) false ([] ++ rpt t R.2.1)
      have hY := hacc.1.symm.trans hX
      rw [(hacc.2 hY).2] at hS
      rw [(hacc.2 hY).1, List.nil_append] at hE hS
      have IHY := fun k L i l I J a5 => ih o (R.2.2 + 2) (c' + 2) k false L i l I J a5 (by omega) hco (Or.inr rfl) hY
      generalize trI tx ln f o (R.2.2 + 2) false [] = Y at *
      have rounds : ∀ (m r kk : Nat) (L : List (Nat × Nat)) (i1 : tI) (l1 : tL) (I1 : tI) (J1 : tL) (a5 : Option Value), r + m + 1 = t → okL L → i1 33 2 = nI ln → i1 33 3 = nI (p + 1) → i1 33 4 = mI 0 → cKn i1 I1 q L → kk ≤ 7 * L.length + 3 * (o + 1) → Kp [(33, 3), (33, 4), (q, 2)] [] [35, 36, q + 1, q + 2] i0 i1 l0 l1 I0 I1 J0 J1 → I1 35 o = nI (p + 1) → I1 36 o = nI r → (∀ j, j < o → I1 35 j = I 35 j ∧ I1 36 j = I 36 j) →
          ((lyG L (rpt (m + 1) R.2.1)).1 ≠ 0 → ∀ (i : tI) (l : tL) (I : tI) (J : tL), Kp [(33, 3), (33, 4), (q, 2)] [] [35, 36, q + 1, q + 2] i0 i l0 l I0 I J0 J → Gd (some (some (.int (mI (lyG L (rpt (m + 1) R.2.1)).1)), (mH h i l I J nw df P))) Q) →
          ((lyG L (rpt (m + 1) R.2.1)).1 = 0 → ∀ (i' : tI) (l' : tL) (I' : tI) (J' : tL) (k' : Nat) (a5 : Option Value), Kp [(33, 3), (33, 4), (q, 2)] [] [35, 36, q + 1, q + 2] i0 i' l0 l' I0 I' J0 J' → i' 33 2 = nI ln → i' 33 3 = nI (R.2.2 + 2) → i' 33 4 = mI 0 → cKn i' I' q (lyG L (rpt (m + 1) R.2.1)).2 → k' ≤ kk + c' * ((m + 1) * R.2.1.length) + (m + 1) → (∀ j, j < o → I' 35 j = I 35 j ∧ I' 36 j = I 36 j) → Gd (ex (d + 3) mX9_layItems 12 [some (.ref 33), some (.ref q), some (.int (nI o)), some (.int (nI 0)), some (.int (nI k')), a5] [] (mH h i' l' I' J' nw df P)) Q) →
          Gd (ex (d + 3) mX9_layItems 12 [some (.ref 33), some (.ref q), some (.int (nI (o + 1))), some (.int (nI 0)), some (.int (nI kk)), a5] [] (mH h i1 l1 I1 J1 nw df P)) Q := by
        intro m
        induction m with
        | zero =>
          intro r kk L i1 l1 I1 J1 a5 hrm hL g2 g3 g4 g5 gk gK g35 g36 gj hE' hS'
          have e0 : rpt (0 + 1) R.2.1 = R.2.1 ++ rpt 0 R.2.1 := rfl
          have hc := lyG_c (L := L) (a := R.2.1) (b := rpt 0 R.2.1)
          rw [e0] at hE' hS'
          have hok := lyG_ok R.2.1 L hL
          refine IHR kk L i1 l1 I1 J1 a5 hR0 hL g2 g3 g4 g5 gk gK (fun z => ?_) (fun z i2 l2 I2 J2 k2 a6 u1 u2 u3 u4 u5 u6 u7 => ?_)
          · rw [hc.1 z] at hE'
            exact hE' z
          rw [hc.2 z] at hE' hS'
          have hlen := hok.2 z
          have hok1 := hok.1
          generalize (lyG L R.2.1).2 = L1 at *
          have hL1 := hok1.1
          have hc5 : c' * R.2.1.length ≤ 5 * R.2.1.length := Nat.mul_le_mul_right _ (by omega)
          generalize hcl : c' * R.2.1.length = cl at *
          have v35 := (u7 o (by omega)).1.trans g35
          have v36 := (u7 o (by omega)).2.trans g36
          have ht3 : cTx I2 tx ln := ht.c (u1.2.2.1 _ (by simp; omega))
          have es2 := t_sign (d := d + 2) (h := h) (l := l2) (J := J2) (nw := nw) (df := df) (P := P) ht3 u2 u3 (by omega)
          have ee2 : rn (d + 3) mX9_hasEnded [.ref 33] (mH h i2 l2 I2 J2 nw df P) = some (some (.int (bI (ln ≤ R.2.2))), mH h i2 l2 I2 J2 nw df P) := t_hasEnded u2 u3 (by omega) (by omega)
          have ehr2 : hr tx ln R.2.2 = nI 41 := by rw [hr, if_pos hR41.1, hR41.2]
          have een := t_endRound (d := d + 1) (h := h) (l := l2) (J := J2) (nw := nw) (df := df) (P := P) (r := r) (b := p + 1) (t := t) ht3 u2 u3 c4.1 (by omega) v35 v36 (by omega) ht2
          have k3 : ∀ (v : Int32) (w : Nat → Int32), Kp [(33, 3), (33, 4), (q, 2)] [] [35, 36, q + 1, q + 2] i0 (ku2 i2 33 3 v) l0 l2 I0 (va_up I2 36 w) J0 J2 := fun v w => Kp_i (Kp_I u1 (by simp)) (by simp)
          rw [if_neg (by omega), if_neg (by omega)] at een
          rw [X9_layItems_12]
          conv => arg 1; simp (disch := first | assumption | omega | decide | exact bI_or _) only [es2, ee2, ehr2, een, X9_layItems_0, X9_layItems_1, X9_layItems_2, X9_layItems_3, X9_layItems_4, X9_layItems_5, X9_layItems_6, X9_layItems_9, X9_layItems_10, X9_layItems_14, X9_layItems_16b, X9_layItems_19, X9_layItems_20b, X9_layItems_23, X9_layItems_24, X9_layItems_27b, X9_layItems_30, X9_layItems_31, X9_layItems_34, X9_layItems_36, X9_layItems_38, X9_layItems_40b, X9_layItems_43, X9_layItems_44, X9_layItems_45, X9_layItems_48, X9_layItems_49, X9_layItems_52, X9_layItems_54, X9_layItems_56b, X9_layItems_59, X9_layItems_60, X9_layItems_61, X9_layItems_64, X9_layItems_65, X9_layItems_68, X9_layItems_69, X9_layItems_70, X9_layItems_73, X9_layItems_74, X9_layItems_77, X9_layItems_80, X9_layItems_81, show (0 : Int32) = nI 0 from rfl, kp10_3, show (100000 : Int32) = nI 100000 from rfl, kis10, show (40 : Int32) = nI 40 from rfl, show (41 : Int32) = nI 41 from rfl, show (1 : Int32) = nI 1 from rfl, exLt_c1, exLt_c2, exEq_c, exLt_t, exLt_f, exEq_s, exEq_t, exEq_f, exLt_mn, exLt_nm, exEq_mn, exEq_nm, exEq_mm, exEq_xf, exLtL_t, exLtL_f, exEqL_t, exEqL_f, exB_t, exB_f, exSw_t, exSw_f, exSw_0, klz_f, klz_g, kieq_f, kdivL, kdivI, kmodL, kmodI, knIL, lN_i, nI_add, pk_mul, pk_sub, pk_subm, kad1, kad2, lN_add, lN_mul, lN_sub, kkl_i, kkl_l, kkl_r, kkl_0, Option.bind_some, Option.toList_some, Option.toList_none, List.cons_append, List.nil_append, if_true, if_false, eq_self, not_true_eq_false, not_false_eq_true, ku2_eq, ku2_ne, pk_us, pk_un, pk_uLs, pk_uLn, kup_Is, kup_In, kup_Js, kup_Jn, ku2_ku2, kup_I, kup_J, knar1, knar0]
          rw [rpt, lyG] at hS'
          refine hS' rfl _ l2 _ J2 (k2 + 1) _ (k3 _ _) (by simp (disch := first | assumption | omega | decide | exact bI_or _) only [u2, exLt_c1, exLt_c2, exEq_c, exLt_t, exLt_f, exEq_s, exEq_t, exEq_f, exLt_mn, exLt_nm, exEq_mn, exEq_nm, exEq_mm, exEq_xf, exLtL_t, exLtL_f, exEqL_t, exEqL_f, exB_t, exB_f, exSw_t, exSw_f, exSw_0, klz_f, klz_g, kieq_f, kdivL, kdivI, kmodL, kmodI, knIL, lN_i, nI_add, pk_mul, pk_sub, pk_subm, kad1, kad2, lN_add, lN_mul, lN_sub, kkl_i, kkl_l, kkl_r, kkl_0, Option.bind_some, Option.toList_some, Option.toList_none, List.cons_append, List.nil_append, if_true, if_false, eq_self, not_true_eq_false, not_false_eq_true, ku2_eq, ku2_ne, pk_us, pk_un, pk_uLs, pk_uLn, kup_Is, kup_In, kup_Js, kup_Jn, ku2_ku2, kup_I, kup_J, knar1, knar0]) (by simp (disch := first | assumption | omega | decide | exact bI_or _) only [exLt_c1, exLt_c2, exEq_c, exLt_t, exLt_f, exEq_s, exEq_t, exEq_f, exLt_mn, exLt_nm, exEq_mn, exEq_nm, exEq_mm, exEq_xf, exLtL_t, exLtL_f, exEqL_t, exEqL_f, exB_t, exB_f, exSw_t, exSw_f, exSw_0, klz_f, klz_g, kieq_f, kdivL, kdivI, kmodL, kmodI, knIL, lN_i, nI_add, pk_mul, pk_sub, pk_subm, kad1, kad2, lN_add, lN_mul, lN_sub, kkl_i, kkl_l, kkl_r, kkl_0, Option.bind_some, Option.toList_some, Option.toList_none, List.cons_append, List.nil_append, if_true, if_false, eq_self, not_true_eq_false, not_false_eq_true, ku2_eq, ku2_ne, pk_us, pk_un, pk_uLs, pk_uLn, kup_Is, kup_In, kup_Js, kup_Jn, ku2_ku2, kup_I, kup_J, knar1, knar0]) (by simp (disch := first | assumption | omega | decide | exact bI_or _) only [u4, exLt_c1, exLt_c2, exEq_c, exLt_t, exLt_f, exEq_s, exEq_t, exEq_f, exLt_mn, exLt_nm, exEq_mn, exEq_nm, exEq_mm, exEq_xf, exLtL_t, exLtL_f, exEqL_t, exEqL_f, exB_t, exB_f, exSw_t, exSw_f, exSw_0, klz_f, klz_g, kieq_f, kdivL, kdivI, kmodL, kmodI, knIL, lN_i, nI_add, pk_mul, pk_sub, pk_subm, kad1, kad2, lN_add, lN_mul, lN_sub, kkl_i, kkl_l, kkl_r, kkl_0, Option.bind_some, Option.toList_some, Option.toList_none, List.cons_append, List.nil_append, if_true, if_false, eq_self, not_true_eq_false, not_false_eq_true, ku2_eq, ku2_ne, pk_us, pk_un, pk_uLs, pk_uLn, kup_Is, kup_In, kup_Js, kup_Jn, ku2_ku2, kup_I, kup_J, knar1, knar0]) (u5.c (by simp (disch := first | assumption | omega | decide | exact bI_or _) only [exLt_c1, exLt_c2, exEq_c, exLt_t, exLt_f, exEq_s, exEq_t, exEq_f, exLt_mn, exLt_nm, exEq_mn, exEq_nm, exEq_mm, exEq_xf, exLtL_t, exLtL_f, exEqL_t, exEqL_f, exB_t, exB_f, exSw_t, exSw_f, exSw_0, klz_f, klz_g, kieq_f, kdivL, kdivI, kmodL, kmodI, knIL, lN_i, nI_add, pk_mul, pk_sub, pk_subm, kad1, kad2, lN_add, lN_mul, lN_sub, kkl_i, kkl_l, kkl_r, kkl_0, Option.bind_some, Option.toList_some, Option.toList_none, List.cons_append, List.nil_append, if_true, if_false, eq_self, not_true_eq_false, not_false_eq_true, ku2_eq, ku2_ne, pk_us, pk_un, pk_uLs, pk_uLn, kup_Is, kup_In, kup_Js, kup_Jn, ku2_ku2, kup_I, kup_J, knar1, knar0]) (by simp (disch := first | assumption | omega | decide | exact bI_or _) only [exLt_c1, exLt_c2, exEq_c, exLt_t, exLt_f, exEq_s, exEq_t, exEq_f, exLt_mn, exLt_nm, exEq_mn, exEq_nm, exEq_mm, exEq_xf, exLtL_t, exLtL_f, exEqL_t, exEqL_f, exB_t, exB_f, exSw_t, exSw_f, exSw_0, klz_f, klz_g, kieq_f, kdivL, kdivI, kmodL, kmodI, knIL, lN_i, nI_add, pk_mul, pk_sub, pk_subm, kad1, kad2, lN_add, lN_mul, lN_sub, kkl_i, kkl_l, kkl_r, kkl_0, Option.bind_some, Option.toList_some, Option.toList_none, List.cons_append, List.nil_append, if_true, if_false, eq_self, not_true_eq_false, not_false_eq_true, ku2_eq, ku2_ne, pk_us, pk_un, pk_uLs, pk_uLn, kup_Is, kup_In, kup_Js, kup_Jn, ku2_ku2, kup_I, kup_J, knar1, knar0]) (by simp (disch := first | assumption | omega | decide | exact bI_or _) only [exLt_c1, exLt_c2, exEq_c, exLt_t, exLt_f, exEq_s, exEq_t, exEq_f, exLt_mn, exLt_nm, exEq_mn, exEq_nm, exEq_mm, exEq_xf, exLtL_t, exLtL_f, exEqL_t, exEqL_f, exB_t, exB_f, exSw_t, exSw_f, exSw_0, klz_f, klz_g, kieq_f, kdivL, kdivI, kmodL, kmodI, knIL, lN_i, nI_add, pk_mul, pk_sub, pk_subm, kad1, kad2, lN_add, lN_mul, lN_sub, kkl_i, kkl_l, kkl_r, kkl_0, Option.bind_some, Option.toList_some, Option.toList_none, List.cons_append, List.nil_append, if_true, if_false, eq_self, not_true_eq_false, not_false_eq_true, ku2_eq, ku2_ne, pk_us, pk_un, pk_uLs, pk_uLn, kup_Is, kup_In, kup_Js, kup_Jn, ku2_ku2, kup_I, kup_J, knar1, knar0])) ?_ (fun j hj => ?_)
          · rw [show (0 + 1) * R.2.1.length = R.2.1.length by omega, hcl]
            omega
          · have := u7 j (by omega)
            have := gj j hj
            rw [kup_In (by decide), kup_Is]
            unfold upd
            rw [if_neg (by omega)]
            exact ⟨(u7 j (by omega)).1.trans (gj j hj).1, (u7 j (by omega)).2.trans (gj j hj).2⟩
        | succ m ihm =>
          intro r kk L i1 l1 I1 J1 a5 hrm hL g2 g3 g4 g5 gk gK g35 g36 gj hE' hS'
          have e0 : rpt ((m + 1) + 1) R.2.1 = R.2.1 ++ rpt (m + 1) R.2.1 := by rw [rpt]
          have hc := lyG_c (L := L) (a := R.2.1) (b := rpt (m + 1) R.2.1)
          rw [e0] at hE' hS'
          have hok := lyG_ok R.2.1 L hL
          refine IHR kk L i1 l1 I1 J1 a5 hR0 hL g2 g3 g4 g5 gk gK (fun z => ?_) (fun z i2 l2 I2 J2 k2 a6 u1 u2 u3 u4 u5 u6 u7 => ?_)
          · rw [hc.1 z] at hE'
            exact hE' z
          rw [hc.2 z] at hE' hS'
          have hlen := hok.2 z
          have hok1 := hok.1
          generalize (lyG L R.2.1).2 = L1 at *
          have hL1 := hok1.1
          have hc5 : c' * R.2.1.length ≤ 5 * R.2.1.length := Nat.mul_le_mul_right _ (by omega)
          generalize hcl : c' * R.2.1.length = cl at *
          have v35 := (u7 o (by omega)).1.trans g35
          have v36 := (u7 o (by omega)).2.trans g36
          have ht3 : cTx I2 tx ln := ht.c (u1.2.2.1 _ (by simp; omega))
          have es2 := t_sign (d := d + 2) (h := h) (l := l2) (J := J2) (nw := nw) (df := df) (P := P) ht3 u2 u3 (by omega)
          have ee2 : rn (d + 3) mX9_hasEnded [.ref 33] (mH h i2 l2 I2 J2 nw df P) = some (some (.int (bI (ln ≤ R.2.2))), mH h i2 l2 I2 J2 nw df P) := t_hasEnded u2 u3 (by omega) (by omega)
          have ehr2 : hr tx ln R.2.2 = nI 41 := by rw [hr, if_pos hR41.1, hR41.2]
          have een := t_endRound (d := d + 1) (h := h) (l := l2) (J := J2) (nw := nw) (df := df) (P := P) (r := r) (b := p + 1) (t := t) ht3 u2 u3 c4.1 (by omega) v35 v36 (by omega) ht2
          have k3 : ∀ (v : Int32) (w : Nat → Int32), Kp [(33, 3), (33, 4), (q, 2)] [] [35, 36, q + 1, q + 2] i0 (ku2 i2 33 3 v) l0 l2 I0 (va_up I2 36 w) J0 J2 := fun v w => Kp_i (Kp_I u1 (by simp)) (by simp)
          rw [if_pos (by omega), if_pos (by omega)] at een
          rw [X9_layItems_12]
          conv => arg 1; simp (disch := first | assumption | omega | decide | exact bI_or _) only [es2, ee2, ehr2, een, X9_layItems_0, X9_layItems_1, X9_layItems_2, X9_layItems_3, X9_layItems_4, X9_layItems_5, X9_layItems_6, X9_layItems_9, X9_layItems_10, X9_layItems_14, X9_layItems_16b, X9_layItems_19, X9_layItems_20b, X9_layItems_23, X9_layItems_24, X9_layItems_27b, X9_layItems_30, X9_layItems_31, X9_layItems_34, X9_layItems_36, X9_layItems_38, X9_layItems_40b, X9_layItems_43, X9_layItems_44, X9_layItems_45, X9_layItems_48, X9_layItems_49, X9_layItems_52, X9_layItems_54, X9_layItems_56b, X9_layItems_59, X9_layItems_60, X9_layItems_61, X9_layItems_64, X9_layItems_65, X9_layItems_68, X9_layItems_69, X9_layItems_70, X9_layItems_73, X9_layItems_74, X9_layItems_77, X9_layItems_80, X9_layItems_81, show (0 : Int32) = nI 0 from rfl, kp10_3, show (100000 : Int32) = nI 100000 from rfl, kis10, show (40 : Int32) = nI 40 from rfl, show (41 : Int32) = nI 41 from rfl, show (1 : Int32) = nI 1 from rfl, exLt_c1, exLt_c2, exEq_c, exLt_t, exLt_f, exEq_s, exEq_t, exEq_f, exLt_mn, exLt_nm, exEq_mn, exEq_nm, exEq_mm, exEq_xf, exLtL_t, exLtL_f, exEqL_t, exEqL_f, exB_t, exB_f, exSw_t, exSw_f, exSw_0, klz_f, klz_g, kieq_f, kdivL, kdivI, kmodL, kmodI, knIL, lN_i, nI_add, pk_mul, pk_sub, pk_subm, kad1, kad2, lN_add, lN_mul, lN_sub, kkl_i, kkl_l, kkl_r, kkl_0, Option.bind_some, Option.toList_some, Option.toList_none, List.cons_append, List.nil_append, if_true, if_false, eq_self, not_true_eq_false, not_false_eq_true, ku2_eq, ku2_ne, pk_us, pk_un, pk_uLs, pk_uLn, kup_Is, kup_In, kup_Js, kup_Jn, ku2_ku2, kup_I, kup_J, knar1, knar0]
          refine ihm (r + 1) (k2 + 1) L1 _ l2 _ J2 _ (by omega) hok1 (by simp (disch := first | assumption | omega | decide | exact bI_or _) only [u2, exLt_c1, exLt_c2, exEq_c, exLt_t, exLt_f, exEq_s, exEq_t, exEq_f, exLt_mn, exLt_nm, exEq_mn, exEq_nm, exEq_mm, exEq_xf, exLtL_t, exLtL_f, exEqL_t, exEqL_f, exB_t, exB_f, exSw_t, exSw_f, exSw_0, klz_f, klz_g, kieq_f, kdivL, kdivI, kmodL, kmodI, knIL, lN_i, nI_add, pk_mul, pk_sub, pk_subm, kad1, kad2, lN_add, lN_mul, lN_sub, kkl_i, kkl_l, kkl_r, kkl_0, Option.bind_some, Option.toList_some, Option.toList_none, List.cons_append, List.nil_append, if_true, if_false, eq_self, not_true_eq_false, not_false_eq_true, ku2_eq, ku2_ne, pk_us, pk_un, pk_uLs, pk_uLn, kup_Is, kup_In, kup_Js, kup_Jn, ku2_ku2, kup_I, kup_J, knar1, knar0]) (by simp (disch := first | assumption | omega | decide | exact bI_or _) only [exLt_c1, exLt_c2, exEq_c, exLt_t, exLt_f, exEq_s, exEq_t, exEq_f, exLt_mn, exLt_nm, exEq_mn, exEq_nm, exEq_mm, exEq_xf, exLtL_t, exLtL_f, exEqL_t, exEqL_f, exB_t, exB_f, exSw_t, exSw_f, exSw_0, klz_f, klz_g, kieq_f, kdivL, kdivI, kmodL, kmodI, knIL, lN_i, nI_add, pk_mul, pk_sub, pk_subm, kad1, kad2, lN_add, lN_mul, lN_sub, kkl_i, kkl_l, kkl_r, kkl_0, Option.bind_some, Option.toList_some, Option.toList_none, List.cons_append, List.nil_append, if_true, if_false, eq_self, not_true_eq_false, not_false_eq_true, ku2_eq, ku2_ne, pk_us, pk_un, pk_uLs, pk_uLn, kup_Is, kup_In, kup_Js, kup_Jn, ku2_ku2, kup_I, kup_J, knar1, knar0]) (by simp (disch := first | assumption | omega | decide | exact bI_or _) only [u4, exLt_c1, exLt_c2, exEq_c, exLt_t, exLt_f, exEq_s, exEq_t, exEq_f, exLt_mn, exLt_nm, exEq_mn, exEq_nm, exEq_mm, exEq_xf, exLtL_t, exLtL_f, exEqL_t, exEqL_f, exB_t, exB_f, exSw_t, exSw_f, exSw_0, klz_f, klz_g, kieq_f, kdivL, kdivI, kmodL, kmodI, knIL, lN_i, nI_add, pk_mul, pk_sub, pk_subm, kad1, kad2, lN_add, lN_mul, lN_sub, kkl_i, kkl_l, kkl_r, kkl_0, Option.bind_some, Option.toList_some, Option.toList_none, List.cons_append, List.nil_append, if_true, if_false, eq_self, not_true_eq_false, not_false_eq_true, ku2_eq, ku2_ne, pk_us, pk_un, pk_uLs, pk_uLn, kup_Is, kup_In, kup_Js, kup_Jn, ku2_ku2, kup_I, kup_J, knar1, knar0]) (u5.c (by simp (disch := first | assumption | omega | decide | exact bI_or _) only [exLt_c1, exLt_c2, exEq_c, exLt_t, exLt_f, exEq_s, exEq_t, exEq_f, exLt_mn, exLt_nm, exEq_mn, exEq_nm, exEq_mm, exEq_xf, exLtL_t, exLtL_f, exEqL_t, exEqL_f, exB_t, exB_f, exSw_t, exSw_f, exSw_0, klz_f, klz_g, kieq_f, kdivL, kdivI, kmodL, kmodI, knIL, lN_i, nI_add, pk_mul, pk_sub, pk_subm, kad1, kad2, lN_add, lN_mul, lN_sub, kkl_i, kkl_l, kkl_r, kkl_0, Option.bind_some, Option.toList_some, Option.toList_none, List.cons_append, List.nil_append, if_true, if_false, eq_self, not_true_eq_false, not_false_eq_true, ku2_eq, ku2_ne, pk_us, pk_un, pk_uLs, pk_uLn, kup_Is, kup_In, kup_Js, kup_Jn, ku2_ku2, kup_I, kup_J, knar1, knar0]) (by simp (disch := first | assumption | omega | decide | exact bI_or _) only [exLt_c1, exLt_c2, exEq_c, exLt_t, exLt_f, exEq_s, exEq_t, exEq_f, exLt_mn, exLt_nm, exEq_mn, exEq_nm, exEq_mm, exEq_xf, exLtL_t, exLtL_f, exEqL_t, exEqL_f, exB_t, exB_f, exSw_t, exSw_f, exSw_0, klz_f, klz_g, kieq_f, kdivL, kdivI, kmodL, kmodI, knIL, lN_i, nI_add, pk_mul, pk_sub, pk_subm, kad1, kad2, lN_add, lN_mul, lN_sub, kkl_i, kkl_l, kkl_r, kkl_0, Option.bind_some, Option.toList_some, Option.toList_none, List.cons_append, List.nil_append, if_true, if_false, eq_self, not_true_eq_false, not_false_eq_true, ku2_eq, ku2_ne, pk_us, pk_un, pk_uLs, pk_uLn, kup_Is, kup_In, kup_Js, kup_Jn, ku2_ku2, kup_I, kup_J, knar1, knar0]) (by simp (disch := first | assumption | omega | decide | exact bI_or _) only [exLt_c1, exLt_c2, exEq_c, exLt_t, exLt_f, exEq_s, exEq_t, exEq_f, exLt_mn, exLt_nm, exEq_mn, exEq_nm, exEq_mm, exEq_xf, exLtL_t, exLtL_f, exEqL_t, exEqL_f, exB_t, exB_f, exSw_t, exSw_f, exSw_0, klz_f, klz_g, kieq_f, kdivL, kdivI, kmodL, kmodI, knIL, lN_i, nI_add, pk_mul, pk_sub, pk_subm, kad1, kad2, lN_add, lN_mul, lN_sub, kkl_i, kkl_l, kkl_r, kkl_0, Option.bind_some, Option.toList_some, Option.toList_none, List.cons_append, List.nil_append, if_true, if_false, eq_self, not_true_eq_false, not_false_eq_true, ku2_eq, ku2_ne, pk_us, pk_un, pk_uLs, pk_uLn, kup_Is, kup_In, kup_Js, kup_Jn, ku2_ku2, kup_I, kup_J, knar1, knar0])) (by omega) (k3 _ _) (by simp (disch := first | assumption | omega | decide | exact bI_or _) only [v35, exLt_c1, exLt_c2, exEq_c, exLt_t, exLt_f, exEq_s, exEq_t, exEq_f, exLt_mn, exLt_nm, exEq_mn, exEq_nm, exEq_mm, exEq_xf, exLtL_t, exLtL_f, exEqL_t, exEqL_f, exB_t, exB_f, exSw_t, exSw_f, exSw_0, klz_f, klz_g, kieq_f, kdivL, kdivI, kmodL, kmodI, knIL, lN_i, nI_add, pk_mul, pk_sub, pk_subm, kad1, kad2, lN_add, lN_mul, lN_sub, kkl_i, kkl_l, kkl_r, kkl_0, Option.bind_some, Option.toList_some, Option.toList_none, List.cons_append, List.nil_append, if_true, if_false, eq_self, not_true_eq_false, not_false_eq_true, ku2_eq, ku2_ne, pk_us, pk_un, pk_uLs, pk_uLn, kup_Is, kup_In, kup_Js, kup_Jn, ku2_ku2, kup_I, kup_J, knar1, knar0]) (by simp (disch := first | assumption | omega | decide | exact bI_or _) only [exLt_c1, exLt_c2, exEq_c, exLt_t, exLt_f, exEq_s, exEq_t, exEq_f, exLt_mn, exLt_nm, exEq_mn, exEq_nm, exEq_mm, exEq_xf, exLtL_t, exLtL_f, exEqL_t, exEqL_f, exB_t, exB_f, exSw_t, exSw_f, exSw_0, klz_f, klz_g, kieq_f, kdivL, kdivI, kmodL, kmodI, knIL, lN_i, nI_add, pk_mul, pk_sub, pk_subm, kad1, kad2, lN_add, lN_mul, lN_sub, kkl_i, kkl_l, kkl_r, kkl_0, Option.bind_some, Option.toList_some, Option.toList_none, List.cons_append, List.nil_append, if_true, if_false, eq_self, not_true_eq_false, not_false_eq_true, ku2_eq, ku2_ne, pk_us, pk_un, pk_uLs, pk_uLn, kup_Is, kup_In, kup_Js, kup_Jn, ku2_ku2, kup_I, kup_J, knar1, knar0]) (fun j hj => ?_) hE' (fun z2 i3 l3 I3 J3 k4 a7 w1 w2 w3 w4 w5 w6 w7 => ?_)
          · rw [kup_In (by decide), kup_Is]
            unfold upd
            rw [if_neg (by omega)]
            exact ⟨(u7 j (by omega)).1.trans (gj j hj).1, (u7 j (by omega)).2.trans (gj j hj).2⟩
          · refine hS' z2 i3 l3 I3 J3 k4 a7 w1 w2 w3 w4 w5 ?_ w7
            rw [show (m + 1 + 1) * R.2.1.length = (m + 1) * R.2.1.length + R.2.1.length from Nat.succ_mul _ _, Nat.mul_add, hcl]
            omega
      have eer := t_enterRounds (d := d + 2) (h := h) (l := l) (I := I) (J := J) (nw := nw) (df := df) (P := P) (o := o) h3 (by omega)
      obtain ⟨m, rfl⟩ : ∃ m, t = m + 1 := ⟨t - 1, by omega⟩
      have hc := lyG_c (L := L) (a := rpt (m + 1) R.2.1) (b := Y.2.1)
      have hok := lyG_ok (rpt (m + 1) R.2.1) L hL
      have hrl := rpt_len (m + 1) R.2.1
      have hml : m + 1 ≤ (m + 1) * R.2.1.length := Nat.le_mul_of_pos_right _ hlenR
      rw [X9_layItems_12]
      conv => arg 1; simp (disch := first | assumption | omega | decide | exact bI_or _) only [es, ee, ehr, eer, X9_layItems_0, X9_layItems_1, X9_layItems_2, X9_layItems_3, X9_layItems_4, X9_layItems_5, X9_layItems_6, X9_layItems_9, X9_layItems_10, X9_layItems_14, X9_layItems_16b, X9_layItems_19, X9_layItems_20b, X9_layItems_23, X9_layItems_24, X9_layItems_27b, X9_layItems_30, X9_layItems_31, X9_layItems_34, X9_layItems_36, X9_layItems_38, X9_layItems_40b, X9_layItems_43, X9_layItems_44, X9_layItems_45, X9_layItems_48, X9_layItems_49, X9_layItems_52, X9_layItems_54, X9_layItems_56b, X9_layItems_59, X9_layItems_60, X9_layItems_61, X9_layItems_64, X9_layItems_65, X9_layItems_68, X9_layItems_69, X9_layItems_70, X9_layItems_73, X9_layItems_74, X9_layItems_77, X9_layItems_80, X9_layItems_81, show (0 : Int32) = nI 0 from rfl, kp10_3, show (100000 : Int32) = nI 100000 from rfl, kis10, show (40 : Int32) = nI 40 from rfl, show (41 : Int32) = nI 41 from rfl, show (1 : Int32) = nI 1 from rfl, exLt_c1, exLt_c2, exEq_c, exLt_t, exLt_f, exEq_s, exEq_t, exEq_f, exLt_mn, exLt_nm, exEq_mn, exEq_nm, exEq_mm, exEq_xf, exLtL_t, exLtL_f, exEqL_t, exEqL_f, exB_t, exB_f, exSw_t, exSw_f, exSw_0, klz_f, klz_g, kieq_f, kdivL, kdivI, kmodL, kmodI, knIL, lN_i, nI_add, pk_mul, pk_sub, pk_subm, kad1, kad2, lN_add, lN_mul, lN_sub, kkl_i, kkl_l, kkl_r, kkl_0, Option.bind_some, Option.toList_some, Option.toList_none, List.cons_append, List.nil_append, if_true, if_false, eq_self, not_true_eq_false, not_false_eq_true, ku2_eq, ku2_ne, pk_us, pk_un, pk_uLs, pk_uLn, kup_Is, kup_In, kup_Js, kup_Jn, ku2_ku2, kup_I, kup_J, knar1, knar0]
      refine rounds m 0 (k + 1) L _ l _ J _ (by omega) hL (by simp (disch := first | assumption | omega | decide | exact bI_or _) only [h2, exLt_c1, exLt_c2, exEq_c, exLt_t, exLt_f, exEq_s, exEq_t, exEq_f, exLt_mn, exLt_nm, exEq_mn, exEq_nm, exEq_mm, exEq_xf, exLtL_t, exLtL_f, exEqL_t, exEqL_f, exB_t, exB_f, exSw_t, exSw_f, exSw_0, klz_f, klz_g, kieq_f, kdivL, kdivI, kmodL, kmodI, knIL, lN_i, nI_add, pk_mul, pk_sub, pk_subm, kad1, kad2, lN_add, lN_mul, lN_sub, kkl_i, kkl_l, kkl_r, kkl_0, Option.bind_some, Option.toList_some, Option.toList_none, List.cons_append, List.nil_append, if_true, if_false, eq_self, not_true_eq_false, not_false_eq_true, ku2_eq, ku2_ne, pk_us, pk_un, pk_uLs, pk_uLn, kup_Is, kup_In, kup_Js, kup_Jn, ku2_ku2, kup_I, kup_J, knar1, knar0]) (by simp (disch := first | assumption | omega | decide | exact bI_or _) only [exLt_c1, exLt_c2, exEq_c, exLt_t, exLt_f, exEq_s, exEq_t, exEq_f, exLt_mn, exLt_nm, exEq_mn, exEq_nm, exEq_mm, exEq_xf, exLtL_t, exLtL_f, exEqL_t, exEqL_f, exB_t, exB_f, exSw_t, exSw_f, exSw_0, klz_f, klz_g, kieq_f, kdivL, kdivI, kmodL, kmodI, knIL, lN_i, nI_add, pk_mul, pk_sub, pk_subm, kad1, kad2, lN_add, lN_mul, lN_sub, kkl_i, kkl_l, kkl_r, kkl_0, Option.bind_some, Option.toList_some, Option.toList_none, List.cons_append, List.nil_append, if_true, if_false, eq_self, not_true_eq_false, not_false_eq_true, ku2_eq, ku2_ne, pk_us, pk_un, pk_uLs, pk_uLn, kup_Is, kup_In, kup_Js, kup_Jn, ku2_ku2, kup_I, kup_J, knar1, knar0]) (by simp (disch := first | assumption | omega | decide | exact bI_or _) only [h4, exLt_c1, exLt_c2, exEq_c, exLt_t, exLt_f, exEq_s, exEq_t, exEq_f, exLt_mn, exLt_nm, exEq_mn, exEq_nm, exEq_mm, exEq_xf, exLtL_t, exLtL_f, exEqL_t, exEqL_f, exB_t, exB_f, exSw_t, exSw_f, exSw_0, klz_f, klz_g, kieq_f, kdivL, kdivI, kmodL, kmodI, knIL, lN_i, nI_add, pk_mul, pk_sub, pk_subm, kad1, kad2, lN_add, lN_mul, lN_sub, kkl_i, kkl_l, kkl_r, kkl_0, Option.bind_some, Option.toList_some, Option.toList_none, List.cons_append, List.nil_append, if_true, if_false, eq_self, not_true_eq_false, not_false_eq_true, ku2_eq, ku2_ne, pk_us, pk_un, pk_uLs, pk_uLn, kup_Is, kup_In, kup_Js, kup_Jn, ku2_ku2, kup_I, kup_J, knar1, knar0]) (hk.c (by simp (disch := first | assumption | omega | decide | exact bI_or _) only [exLt_c1, exLt_c2, exEq_c, exLt_t, exLt_f, exEq_s, exEq_t, exEq_f, exLt_mn, exLt_nm, exEq_mn, exEq_nm, exEq_mm, exEq_xf, exLtL_t, exLtL_f, exEqL_t, exEqL_f, exB_t, exB_f, exSw_t, exSw_f, exSw_0, klz_f, klz_g, kieq_f, kdivL, kdivI, kmodL, kmodI, knIL, lN_i, nI_add, pk_mul, pk_sub, pk_subm, kad1, kad2, lN_add, lN_mul, lN_sub, kkl_i, kkl_l, kkl_r, kkl_0, Option.bind_some, Option.toList_some, Option.toList_none, List.cons_append, List.nil_append, if_true, if_false, eq_self, not_true_eq_false, not_false_eq_true, ku2_eq, ku2_ne, pk_us, pk_un, pk_uLs, pk_uLn, kup_Is, kup_In, kup_Js, kup_Jn, ku2_ku2, kup_I, kup_J, knar1, knar0]) (by simp (disch := first | assumption | omega | decide | exact bI_or _) only [exLt_c1, exLt_c2, exEq_c, exLt_t, exLt_f, exEq_s, exEq_t, exEq_f, exLt_mn, exLt_nm, exEq_mn, exEq_nm, exEq_mm, exEq_xf, exLtL_t, exLtL_f, exEqL_t, exEqL_f, exB_t, exB_f, exSw_t, exSw_f, exSw_0, klz_f, klz_g, kieq_f, kdivL, kdivI, kmodL, kmodI, knIL, lN_i, nI_add, pk_mul, pk_sub, pk_subm, kad1, kad2, lN_add, lN_mul, lN_sub, kkl_i, kkl_l, kkl_r, kkl_0, Option.bind_some, Option.toList_some, Option.toList_none, List.cons_append, List.nil_append, if_true, if_false, eq_self, not_true_eq_false, not_false_eq_true, ku2_eq, ku2_ne, pk_us, pk_un, pk_uLs, pk_uLn, kup_Is, kup_In, kup_Js, kup_Jn, ku2_ku2, kup_I, kup_J, knar1, knar0]) (by simp (disch := first | assumption | omega | decide | exact bI_or _) only [exLt_c1, exLt_c2, exEq_c, exLt_t, exLt_f, exEq_s, exEq_t, exEq_f, exLt_mn, exLt_nm, exEq_mn, exEq_nm, exEq_mm, exEq_xf, exLtL_t, exLtL_f, exEqL_t, exEqL_f, exB_t, exB_f, exSw_t, exSw_f, exSw_0, klz_f, klz_g, kieq_f, kdivL, kdivI, kmodL, kmodI, knIL, lN_i, nI_add, pk_mul, pk_sub, pk_subm, kad1, kad2, lN_add, lN_mul, lN_sub, kkl_i, kkl_l, kkl_r, kkl_0, Option.bind_some, Option.toList_some, Option.toList_none, List.cons_append, List.nil_append, if_true, if_false, eq_self, not_true_eq_false, not_false_eq_true, ku2_eq, ku2_ne, pk_us, pk_un, pk_uLs, pk_uLn, kup_Is, kup_In, kup_Js, kup_Jn, ku2_ku2, kup_I, kup_J, knar1, knar0])) (by omega) (Kp_i (Kp_I (Kp_I k1 (by simp)) (by simp)) (by simp)) (by simp (disch := first | assumption | omega | decide | exact bI_or _) only [exLt_c1, exLt_c2, exEq_c, exLt_t, exLt_f, exEq_s, exEq_t, exEq_f, exLt_mn, exLt_nm, exEq_mn, exEq_nm, exEq_mm, exEq_xf, exLtL_t, exLtL_f, exEqL_t, exEqL_f, exB_t, exB_f, exSw_t, exSw_f, exSw_0, klz_f, klz_g, kieq_f, kdivL, kdivI, kmodL, kmodI, knIL, lN_i, nI_add, pk_mul, pk_sub, pk_subm, kad1, kad2, lN_add, lN_mul, lN_sub, kkl_i, kkl_l, kkl_r, kkl_0, Option.bind_some, Option.toList_some, Option.toList_none, List.cons_append, List.nil_append, if_true, if_false, eq_self, not_true_eq_false, not_false_eq_true, ku2_eq, ku2_ne, pk_us, pk_un, pk_uLs, pk_uLn, kup_Is, kup_In, kup_Js, kup_Jn, ku2_ku2, kup_I, kup_J, knar1, knar0]) (by simp (disch := first | assumption | omega | decide | exact bI_or _) only [exLt_c1, exLt_c2, exEq_c, exLt_t, exLt_f, exEq_s, exEq_t, exEq_f, exLt_mn, exLt_nm, exEq_mn, exEq_nm, exEq_mm, exEq_xf, exLtL_t, exLtL_f, exEqL_t, exEqL_f, exB_t, exB_f, exSw_t, exSw_f, exSw_0, klz_f, klz_g, kieq_f, kdivL, kdivI, kmodL, kmodI, knIL, lN_i, nI_add, pk_mul, pk_sub, pk_subm, kad1, kad2, lN_add, lN_mul, lN_sub, kkl_i, kkl_l, kkl_r, kkl_0, Option.bind_some, Option.toList_some, Option.toList_none, List.cons_append, List.nil_append, if_true, if_false, eq_self, not_true_eq_false, not_false_eq_true, ku2_eq, ku2_ne, pk_us, pk_un, pk_uLs, pk_uLn, kup_Is, kup_In, kup_Js, kup_Jn, ku2_ku2, kup_I, kup_J, knar1, knar0]) (fun j hj => ?_) (fun z => ?_) (fun z i' l' I' J' k' a5 u1 u2 u3 u4 u5 u6 u7 => ?_)
      · rw [kup_In (by decide), kup_Is, kup_Is]
        unfold upd
        rw [if_neg (by omega), if_neg (by omega)]
        exact ⟨rfl, rfl⟩
      · rw [hc.1 z] at hE
        exact hE z
      · rw [hc.2 z] at hE hS
        have hlen := hok.2 z
        have hok1 := hok.1
        rw [hrl] at hlen
        generalize (lyG L (rpt (m + 1) R.2.1)).2 = L1 at *
        have hc5 : c' * ((m + 1) * R.2.1.length) ≤ 5 * ((m + 1) * R.2.1.length) := Nat.mul_le_mul_right _ (by omega)
        refine IHY k' L1 i' l' I' J' a5 hok1 u2 u3 u4 u5 (by omega) u1 hE (fun z2 i3 l3 I3 J3 k4 a7 w1 w2 w3 w4 w5 w6 w7 => ?_)
        refine hS z2 i3 l3 I3 J3 k4 a7 w1 w2 w3 w4 w5 ?_ (fun j hj => ⟨(w7 j hj).1.trans (u7 j hj).1, (w7 j hj).2.trans (u7 j hj).2⟩)
        rw [List.length_append, hrl, Nat.mul_add, Nat.add_mul c' 2 ((m + 1) * R.2.1.length)]
        omega
    rw [if_neg c1] at hE hS hX
    by_cases c2 : p < ln ∧ tx p = 41 ∧ 0 < o ∧ w = false
    · rw [if_pos c2] at hE hS
      exact hS rfl i l I J k a5 k1 h2 h3 h4 hk (by simp) (fun j _ => ⟨rfl, rfl⟩)
    rw [if_neg c2] at hE hS hX
    by_cases c3 : ln ≤ p ∧ o = 0 ∧ w = false
    · rw [if_pos c3] at hE hS
      exact hS rfl i l I J k a5 k1 h2 h3 h4 hk (by simp) (fun j _ => ⟨rfl, rfl⟩)
    rw [if_neg c3] at hE hS hX
    by_cases c4 : (rdNum tx ln 3 p 1 999).1 = 0
    case neg =>
      rw [if_pos c4] at hX
      exact absurd hX c4
    rw [if_neg (fun z => z c4)] at hE hS hX
    by_cases c5 : (rdNum tx ln 3 p 1 999).2.2 < ln ∧ 97 ≤ tx (rdNum tx ln 3 p 1 999).2.2 ∧ tx (rdNum tx ln 3 p 1 999).2.2 ≤ 122
    case neg =>
      rw [if_neg c5] at hX
      have : 1000 + (rdNum tx ln 3 p 1 999).2.2 = 0 := hX
      omega
    rw [if_pos c5] at hE hS hX
    have hN := rdNum_b (tx := tx) (ln := ln) (D := 3) (p := p) (lo := 1) (hi := 999) (by omega) c4
    have c6 : p < ln := by omega
    have c7 : isDg tx ln p := by
      by_cases z : isDg tx ln p
      · exact z
      · unfold rdNum at c4
        rw [if_neg z] at c4
        have : 1000 + p = 0 := c4
        omega
    have c71 := c7.2
    have ehr : hr tx ln p = nI (tx p) := if_pos c6
    rw [X9_layItems_12]
    conv => arg 1; simp (disch := first | assumption | omega | decide | exact bI_or _) only [es, ee, ehr, X9_layItems_0, X9_layItems_1, X9_layItems_2, X9_layItems_3, X9_layItems_4, X9_layItems_5, X9_layItems_6, X9_layItems_9, X9_layItems_10, X9_layItems_14, X9_layItems_16b, X9_layItems_19, X9_layItems_20b, X9_layItems_23, X9_layItems_24, X9_layItems_27b, X9_layItems_30, X9_layItems_31, X9_layItems_34, X9_layItems_36, X9_layItems_38, X9_layItems_40b, X9_layItems_43, X9_layItems_44, X9_layItems_45, X9_layItems_48, X9_layItems_49, X9_layItems_52, X9_layItems_54, X9_layItems_56b, X9_layItems_59, X9_layItems_60, X9_layItems_61, X9_layItems_64, X9_layItems_65, X9_layItems_68, X9_layItems_69, X9_layItems_70, X9_layItems_73, X9_layItems_74, X9_layItems_77, X9_layItems_80, X9_layItems_81, show (0 : Int32) = nI 0 from rfl, kp10_3, show (100000 : Int32) = nI 100000 from rfl, kis10, show (40 : Int32) = nI 40 from rfl, show (41 : Int32) = nI 41 from rfl, show (1 : Int32) = nI 1 from rfl, exLt_c1, exLt_c2, exEq_c, exLt_t, exLt_f, exEq_s, exEq_t, exEq_f, exLt_mn, exLt_nm, exEq_mn, exEq_nm, exEq_mm, exEq_xf, exLtL_t, exLtL_f, exEqL_t, exEqL_f, exB_t, exB_f, exSw_t, exSw_f, exSw_0, klz_f, klz_g, kieq_f, kdivL, kdivI, kmodL, kmodI, knIL, lN_i, nI_add, pk_mul, pk_sub, pk_subm, kad1, kad2, lN_add, lN_mul, lN_sub, kkl_i, kkl_l, kkl_r, kkl_0, Option.bind_some, Option.toList_some, Option.toList_none, List.cons_append, List.nil_append, if_true, if_false, eq_self, not_true_eq_false, not_false_eq_true, ku2_eq, ku2_ne, pk_us, pk_un, pk_uLs, pk_uLn, kup_Is, kup_In, kup_Js, kup_Jn, ku2_ku2, kup_I, kup_J, knar1, knar0]
    refine Gd_call (t_layKnock hq hq3 ht1 h2 h3 h4 hp c4 c5 hLl hL.2 hk) ?_
    intro i1 l1 I1 J1 ⟨k2, f3, f4, f5⟩
    generalize rdNum tx ln 3 p 1 999 = N at *
    conv => arg 1; simp (disch := first | assumption | omega | decide | exact bI_or _) only [X9_layItems_0, X9_layItems_1, X9_layItems_2, X9_layItems_3, X9_layItems_4, X9_layItems_5, X9_layItems_6, X9_layItems_9, X9_layItems_10, X9_layItems_14, X9_layItems_16b, X9_layItems_19, X9_layItems_20b, X9_layItems_23, X9_layItems_24, X9_layItems_27b, X9_layItems_30, X9_layItems_31, X9_layItems_34, X9_layItems_36, X9_layItems_38, X9_layItems_40b, X9_layItems_43, X9_layItems_44, X9_layItems_45, X9_layItems_48, X9_layItems_49, X9_layItems_52, X9_layItems_54, X9_layItems_56b, X9_layItems_59, X9_layItems_60, X9_layItems_61, X9_layItems_64, X9_layItems_65, X9_layItems_68, X9_layItems_69, X9_layItems_70, X9_layItems_73, X9_layItems_74, X9_layItems_77, X9_layItems_80, X9_layItems_81, show (0 : Int32) = nI 0 from rfl, kp10_3, show (100000 : Int32) = nI 100000 from rfl, kis10, show (40 : Int32) = nI 40 from rfl, show (41 : Int32) = nI 41 from rfl, show (1 : Int32) = nI 1 from rfl, exLt_c1, exLt_c2, exEq_c, exLt_t, exLt_f, exEq_s, exEq_t, exEq_f, exLt_mn, exLt_nm, exEq_mn, exEq_nm, exEq_mm, exEq_xf, exLtL_t, exLtL_f, exEqL_t, exEqL_f, exB_t, exB_f, exSw_t, exSw_f, exSw_0, klz_f, klz_g, kieq_f, kdivL, kdivI, kmodL, kmodI, knIL, lN_i, nI_add, pk_mul, pk_sub, pk_subm, kad1, kad2, lN_add, lN_mul, lN_sub, kkl_i, kkl_l, kkl_r, kkl_0, Option.bind_some, Option.toList_some, Option.toList_none, List.cons_append, List.nil_append, if_true, if_false, eq_self, not_true_eq_false, not_false_eq_true, ku2_eq, ku2_ne, pk_us, pk_un, pk_uLs, pk_uLn, kup_Is, kup_In, kup_Js, kup_Jn, ku2_ku2, kup_I, kup_J, knar1, knar0]
    obtain ⟨x, hx⟩ : ∃ x, (N.2.1, tx N.2.2 - 96) = x := ⟨_, rfl⟩
    rw [hx] at hE hS hX f5 ⊢
    have hacc := trI_acc (tx := tx) (ln := ln) f o (N.2.2 + 1) false ([] ++ [x])
    have hY := hacc.1.symm.trans hX
    rw [(hacc.2 hY).2] at hS
    rw [(hacc.2 hY).1, List.nil_append] at hE hS
    have IH := fun k L i l I J a5 => ih o (N.2.2 + 1) c k false L i l I J a5 (by omega) hco (Or.inr rfl) hY
    generalize trI tx ln f o (N.2.2 + 1) false [] = Y at *
    have hok := lyG_ok [x] L hL
    have h4b := lyG_4 [x] L
    have hc := lyG_c (L := L) (a := [x]) (b := Y.2.1)
    have k2' := Kp_trans k1 (Kp_mono k2 (ks' := [(33, 3), (33, 4), (q, 2)]) (ls' := []) (qs' := [35, 36, q + 1, q + 2]) (by simp) (by simp) (by simp))
    by_cases c8 : (lyG L [x]).1 = 0
    · rw [hc.2 c8] at hE hS
      have hlen := hok.2 c8
      rw [c8]
      generalize (lyG L [x]).2 = L1 at *
      have hlen1 : L1.length = L.length + 1 := hlen
      refine IH (k + 1) L1 i1 l1 I1 J1 _ hok.1 ((k2.1 _ _ (by simp; omega)).trans h2) f3 f4 f5 (by omega) k2' hE (fun z i' l' I' J' k' a5 u1 u2 u3 u4 u5 u6 u7 => ?_)
      refine hS z i' l' I' J' k' a5 u1 u2 u3 u4 u5 ?_ (fun j hj => ?_)
      · rw [List.length_append, List.length_singleton, Nat.mul_add]
        omega
      · have e35 : I1 35 = I 35 := k2.2.2.1 _ (by simp; omega)
        have e36 : I1 36 = I 36 := k2.2.2.1 _ (by simp; omega)
        rw [← e35, ← e36]
        exact u7 j hj
    · rw [hc.1 c8] at hE
      exact t_lyE (by omega) (Nat.pos_of_ne_zero c8) (by omega) (hE c8 i1 l1 I1 J1 k2')
end CLB
