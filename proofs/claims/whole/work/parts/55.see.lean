/-! OWN: angles rise; what is at hand of the reference -/
def stOf (L : List (Nat × Nat)) (j : Nat) : Nat := (L.getD j (0, 0)).2
def AL (F : Nat → Nat) (L : List (Nat × Nat)) (j : Nat) : Nat := ang F (tkOf L j)
theorem div_st {a b tu : Nat} (h : a < b) (h1 : 0 < tu) (h2 : tu ≤ 1000000) : a * 1000000 / tu < b * 1000000 / tu := by
  have h3 : a * 1000000 + tu ≤ b * 1000000 := by omega
  have h4 : (a * 1000000 + tu) / tu = a * 1000000 / tu + 1 := Nat.add_div_right _ h1
  have h5 := Nat.div_le_div_right (c := tu) h3
  omega
theorem div_50 {x tu : Nat} (h : 20 ≤ tu) : x * 1000000 / tu ≤ x * 50000 := by
  refine Nat.div_le_of_le_mul ?_
  have := Nat.mul_le_mul_right (x * 50000) h
  omega
theorem angR_pos {F : Nat → Nat} (ok : okSp F) {t : Nat} : ∀ (m k fr tu : Nat), k + m = F 10 → (20 ≤ tu ∧ tu ≤ 5000) → fr < t → 0 < angR F t m k fr tu
  | 0, k, fr, tu, hk, h1, h2 => by
    have := div_st (a := 0) (b := t - fr) (tu := tu) (by omega) (by omega) (by omega)
    rw [angR]
    exact Nat.lt_of_le_of_lt (Nat.zero_le _) this
  | m + 1, k, fr, tu, hk, h1, h2 => by
    rw [angR]
    split
    · rename_i hc
      exact Nat.add_pos_right _ (angR_pos ok (t := t) m (k + 1) (F (16 + 2 * k)) (F (17 + 2 * k)) (by omega) (ok.2.1 k (by omega)).2 hc)
    · have := div_st (a := 0) (b := t - fr) (tu := tu) (by omega) (by omega) (by omega)
      exact Nat.lt_of_le_of_lt (Nat.zero_le _) this
theorem angR_lt {F : Nat → Nat} (ok : okSp F) {t s : Nat} (hts : t < s) : ∀ (m k fr tu : Nat), k + m = F 10 → (20 ≤ tu ∧ tu ≤ 5000) → fr ≤ t → (∀ j, k ≤ j → j < F 10 → fr ≤ F (16 + 2 * j)) → angR F t m k fr tu < angR F s m k fr tu
  | 0, k, fr, tu, hk, h1, h2, h3 => by
    rw [angR, angR]
    exact div_st (by omega) (by omega) (by omega)
  | m + 1, k, fr, tu, hk, h1, h2, h3 => by
    have hs := (ok.2.1 k (by omega)).2
    have hn : ∀ j, k + 1 ≤ j → j < F 10 → F (16 + 2 * k) ≤ F (16 + 2 * j) := fun j q1 q2 => Nat.le_of_lt (ok.2.2.1 k j (by omega) q2)
    have h4 := h3 k (Nat.le_refl _) (by omega)
    rw [angR, angR]
    by_cases c1 : F (16 + 2 * k) < t
    · rw [if_pos c1, if_pos (by omega)]
      have := angR_lt ok hts m (k + 1) (F (16 + 2 * k)) (F (17 + 2 * k)) (by omega) hs (by omega) hn
      omega
    · rw [if_neg c1]
      by_cases c2 : F (16 + 2 * k) < s
      · rw [if_pos c2]
        have h5 := angR_pos ok (t := s) m (k + 1) (F (16 + 2 * k)) (F (17 + 2 * k)) (by omega) hs c2
        have h6 : (t - fr) * 1000000 / tu ≤ (F (16 + 2 * k) - fr) * 1000000 / tu := Nat.div_le_div_right (Nat.mul_le_mul_right _ (by omega))
        omega
      · rw [if_neg c2]
        exact div_st (by omega) (by omega) (by omega)
theorem angR_le {F : Nat → Nat} (ok : okSp F) {t : Nat} : ∀ (m k fr tu : Nat), k + m = F 10 → (20 ≤ tu ∧ tu ≤ 5000) → fr ≤ t → (∀ j, k ≤ j → j < F 10 → fr ≤ F (16 + 2 * j)) → angR F t m k fr tu ≤ (t - fr) * 50000
  | 0, k, fr, tu, hk, h1, h2, h3 => by
    rw [angR]
    exact div_50 h1.1
  | m + 1, k, fr, tu, hk, h1, h2, h3 => by
    have hs := (ok.2.1 k (by omega)).2
    have hn : ∀ j, k + 1 ≤ j → j < F 10 → F (16 + 2 * k) ≤ F (16 + 2 * j) := fun j q1 q2 => Nat.le_of_lt (ok.2.2.1 k j (by omega) q2)
    have h4 := h3 k (Nat.le_refl _) (by omega)
    rw [angR]
    split
    · rename_i hc
      have h5 := angR_le ok (t := t) m (k + 1) (F (16 + 2 * k)) (F (17 + 2 * k)) (by omega) hs (by omega) hn
      have h6 := div_50 (x := F (16 + 2 * k) - fr) h1.1
      omega
    · exact div_50 h1.1
theorem ang_lt {F : Nat → Nat} (ok : okSp F) {t s : Nat} (hts : t < s) : ang F t < ang F s := angR_lt ok hts (F 10) 0 0 (F 8) (by omega) ok.2.2.2 (Nat.zero_le _) (fun _ _ _ => Nat.zero_le _)
theorem ang_le {F : Nat → Nat} (ok : okSp F) (t : Nat) : ang F t ≤ t * 50000 := angR_le ok (F 10) 0 0 (F 8) (by omega) ok.2.2.2 (Nat.zero_le _) (fun _ _ _ => Nat.zero_le _)
theorem tk_get {L : List (Nat × Nat)} {j : Nat} (h : j < L.length) : tkOf L j = L[j].1 := by simp [tkOf, h]
theorem st_get {L : List (Nat × Nat)} {j : Nat} (h : j < L.length) : stOf L j = L[j].2 := by simp [stOf, h]
theorem tk_lt {B : Nat} {L : List (Nat × Nat)} (hL : okK B L) {a b : Nat} (hab : a < b) (hb : b < L.length) : tkOf L a < tkOf L b := by
  have h1 : a < (L.map Prod.fst).length := by simp; omega
  have h2 : b < (L.map Prod.fst).length := by simp; omega
  have h3 := List.pairwise_iff_getElem.mp hL.2.2.2 a b h1 h2 hab
  rw [tk_get (show a < L.length by omega), tk_get hb]
  simpa using h3
theorem tk_B {B : Nat} {L : List (Nat × Nat)} (hL : okK B L) {a : Nat} (ha : a < L.length) : tkOf L a ≤ B := by
  rw [tk_get ha]
  exact hL.2.1 _ (List.getElem_mem ha)
theorem st_B {B : Nat} {L : List (Nat × Nat)} (hL : okK B L) {a : Nat} (ha : a < L.length) : 1 ≤ stOf L a ∧ stOf L a ≤ 99 := by
  rw [st_get ha]
  exact hL.2.2.1 _ (List.getElem_mem ha)
theorem AL_lt {F : Nat → Nat} {L : List (Nat × Nat)} (ok : okSp F) (hL : okK 100989 L) {a b : Nat} (hab : a < b) (hb : b < L.length) : AL F L a < AL F L b := ang_lt ok (tk_lt hL hab hb)
theorem AL_ok {F : Nat → Nat} {L : List (Nat × Nat)} (ok : okSp F) (hL : okK 100989 L) : okA (AL F L) L.length := by
  refine ⟨fun j k h1 h2 => ?_, fun j hj => ?_⟩
  · rcases Nat.eq_or_lt_of_le h1 with e | e
    · rw [e]; exact Nat.le_refl _
    · exact Nat.le_of_lt (AL_lt ok hL e h2)
  · have h1 := ang_le ok (tkOf L j)
    have h2 := tk_B hL hj
    show ang F (tkOf L j) ≤ _
    omega
def okO (F : Nat → Nat) : Prop := F 0 ≤ 490 ∧ F 1 ≤ 50 ∧ F 2 ≤ 5 ∧ 2 ≤ F 3 ∧ F 3 ≤ 50 ∧ F 4 ≤ 1000
def okN (F : Nat → Nat) : Prop := F 12 ≤ 20 ∧ (∀ j, j < F 12 → F (56 + 11 * j) ≤ 9999 ∧ ∀ k, k < 5 → F (57 + 11 * j + k) ≤ 200 ∧ F (62 + 11 * j + k) ≤ 19800) ∧ ∀ j k, j < k → k < F 12 → F (56 + 11 * j) < F (56 + 11 * k)
/-- a file as it may be -/
def okF (F : Nat → Nat) : Prop := okSp F ∧ okB F ∧ okSt F ∧ okK 99999 (knL F) ∧ okO F ∧ okN F
theorem okF.sn {F : Nat → Nat} (h : okF F) : okK 100989 (seenL F) := seenL_ok h.2.2.1 h.2.2.2.1
/-- the knocks at hand of the reference -/
def rKn (i : tI) (I : tI) (J : tL) (F : Nat → Nat) (L : List (Nat × Nat)) : Prop := i 217 22 = nI L.length ∧ ∀ j, j < L.length → I 226 j = nI (tkOf L j) ∧ I 227 j = nI (stOf L j) ∧ J 228 j = lN (AL F L j)
theorem rKn.at {i : tI} {I : tI} {J : tL} {F : Nat → Nat} {L : List (Nat × Nat)} (h : rKn i I J F L) (hL : okK 100989 L) : rAt i I J L.length (AL F L) (stOf L) := ⟨h.1, fun j hj => (h.2 j hj).2.2, fun j hj => ⟨(h.2 j hj).2.1, (st_B hL hj).2⟩⟩
theorem rKn.kp {ks ls : List (Nat × Nat)} {qs : List Nat} {i i' : tI} {l l' : tL} {I I' : tI} {J J' : tL} {F : Nat → Nat} {L : List (Nat × Nat)} (h : rKn i I J F L) (k : Kp ks ls qs i i' l l' I I' J J') (h1 : (217, 22) ∉ ks) (h2 : 226 ∉ qs) (h3 : 227 ∉ qs) (h4 : 228 ∉ qs) : rKn i' I' J' F L := by
  refine ⟨by rw [k.1 _ _ h1]; exact h.1, fun j hj => ?_⟩
  rw [k.2.2.1 _ h2, k.2.2.1 _ h3, k.2.2.2 _ h4]
  exact h.2 j hj
theorem rFile.kp {ks ls : List (Nat × Nat)} {qs : List Nat} {i i' : tI} {l l' : tL} {I I' : tI} {J J' : tL} {F : Nat → Nat} (h : rFile I F) (k : Kp ks ls qs i i' l l' I I' J J') (h2 : 218 ∉ qs) : rFile I' F := fun j hj => by rw [k.2.2.1 _ h2]; exact h j hj
theorem Gd_of {o : Option kR} {r : kR} {Q : kR → Prop} (e : o = some r) (h : Q r) : Gd o Q := ⟨r, e, h⟩
section RS2
variable {d : Nat} {h : kH} {i : tI} {l : tL} {I : tI} {J : tL} {nw df : Nat} {P : Nat → Nat}
theorem r_sees {F : Nat → Nat} (hF : rFile I F) (ok : okF F) : Gd (rn (d + 3) mX12_sees [.ref 217] (mH h i l I J nw df P)) (Rt h nw df P none fun i' l' I' J' => Kp [(217, 22)] [] [226, 227, 228] i i' l l' I I' J J' ∧ rKn i' I' J' F (seenL F)) := by
  have hn : F 9 ≤ 200 := by have := ok.2.2.2.1.1; rw [knL_len] at this; exact this
  have hsn := ok.sn
  obtain ⟨T, S, e1, q1, q2⟩ := r_se1 (d := d) (h := h) (i := ku2 i 217 22 (nI (F 9))) (l := l) (J := J) (nw := nw) (df := df) (P := P) hn (ku2_eq _ _ _ _) (F 9) 0 I hF (by omega)
  have hF1 : rFile (va_up (va_up I 226 T) 227 S) F := (hF.up (by decide) _).up (by decide) _
  obtain ⟨T2, S2, e2, q3⟩ := r_se2 (d := d) (h := h) (l := l) (J := J) (nw := nw) (df := df) (P := P) ok.2.2.1 (F 11) 0 99999 (knL F) (ku2 i 217 22 (nI (F 9))) _ hF1 (by omega) (by rw [ku2_eq, knL_len]) (by
    intro j y hj
    rw [kup_Is, kup_In (by decide), kup_Is]
    have hj2 : j < F 9 := by have := (List.getElem?_eq_some_iff.mp hj).1; rw [knL_len] at this; exact this
    have := q2 j (Nat.zero_le _) hj2
    rw [Nat.zero_add]
    simp [knL, hj2] at hj
    rw [← hj]
    exact this) ok.2.2.2.1 (by omega)
  rw [kup_com (va_up I 226 T) S T2 (show (226 : Nat) ≠ 227 by decide), kup_I, kup_I, ku2_ku2] at e2
  have hq : ∀ j, j < (seenL F).length → T2 j = nI (tkOf (seenL F) j) ∧ S2 j = nI (stOf (seenL F) j) := fun j hj => by
    have h1 : (seenL F)[j]? = some (seenL F)[j] := List.getElem?_eq_getElem hj
    have := q3 j _ h1
    rw [Nat.zero_add] at this
    rw [tk_get hj, st_get hj]
    exact this
  have e3 := r_se3 (d := d) (h := h) (i := ku2 i 217 22 (nI (seenL F).length)) (l := l) (I := va_up (va_up I 226 T2) 227 S2) (nw := nw) (df := df) (P := P) ((hF.up (by decide) _).up (by decide) _) ok.1 (n := (seenL F).length) (tk := tkOf (seenL F)) hsn.1 (ku2_eq _ _ _ _) (fun j hj => ⟨by rw [kup_In (by decide), kup_Is]; exact (hq j hj).1, by have := tk_B hsn hj; omega⟩) (seenL F).length 0 J (by omega)
  rw [X12_sees_E]
  conv => arg 1; simp (disch := first | assumption | omega | decide | exact bI_or _) only [lf_218 hF, X12_sees_0, X12_sees_1, X12_sees_2, X12_sees_5, X12_sees_7, X12_sees_8, X12_sees_11, X12_sees_12, X12_sees_14, X12_sees_15, X12_sees_18b, X12_sees_21, X12_sees_22, X12_sees_25, X12_sees_26, X12_sees_27, X12_sees_30, X12_sees_33, X12_sees_34, X12_sees_35, X12_sees_36, X12_sees_37, X12_sees_38, X12_sees_41, X12_sees_42, X12_sees_43, X12_sees_46, X12_sees_49, X12_sees_50, X12_sees_51, X12_sees_52, X12_sees_53, X12_sees_56, X12_sees_59, X12_sees_60, X12_sees_62, X12_sees_63, X12_sees_66, X12_sees_68, X12_sees_69b, X12_sees_72, X12_sees_73, X12_sees_74, X12_sees_77, X12_sees_79, X12_sees_80, X12_sees_81, X12_sees_82, X12_sees_83, X12_sees_84, X12_sees_85, X12_sees_88, X12_sees_90, X12_sees_91, X12_sees_92, X12_sees_93, X12_sees_94, X12_sees_95, X12_sees_96, X12_sees_97, X12_sees_100, X12_sees_103, X12_sees_106, X12_sees_107, X12_sees_109, X12_sees_110, X12_sees_113b, X12_sees_116, X12_sees_117, X12_sees_120, X12_sees_121, X12_sees_122, X12_sees_123, X12_sees_126, X12_sees_127, X12_sees_128, X12_sees_131, X12_sees_132, X12_sees_135, X12_sees_138, g13_0, ln_218, sn_218, show (9 : Int32) = nI 9 from rfl, p13_22, show (0 : Int32) = nI 0 from rfl, g13_22, g13_19, ln_226, sn_226, show (276 : Int32) = nI 276 from rfl, g13_20, ln_227, sn_227, show (476 : Int32) = nI 476 from rfl, show (1 : Int32) = nI 1 from rfl, show (11 : Int32) = nI 11 from rfl, show (36 : Int32) = nI 36 from rfl, show (2 : Int32) = nI 2 from rfl, is_217, g13_21, ln_228, sn_228, exLt_c1, exLt_c2, exEq_c, exLt_t, exLt_f, exEq_s, exEq_t, exEq_f, exLt_mn, exLt_nm, exEq_mn, exEq_nm, exEq_mm, exEq_xf, exLtL_t, exLtL_f, exEqL_t, exEqL_f, exB_t, exB_f, exSw_t, exSw_f, exSw_0, klz_f, klz_g, kieq_f, kdivL, kdivI, kmodL, kmodI, knIL, lN_i, nI_add, pk_mul, pk_sub, pk_subm, kad1, kad2, lN_add, lN_mul, lN_sub, kkl_i, kkl_l, kkl_r, kkl_0, Option.bind_some, Option.toList_some, Option.toList_none, List.cons_append, List.nil_append, if_true, if_false, eq_self, not_true_eq_false, not_false_eq_true, ku2_eq, ku2_ne, pk_us, pk_un, pk_uLs, pk_uLn, kup_Is, kup_In, kup_Js, kup_Jn, ku2_ku2, kup_I, kup_J, knar1, knar0]
  rw [e1]
  conv => arg 1; simp (disch := first | assumption | omega | decide | exact bI_or _) only [X12_sees_0, X12_sees_1, X12_sees_2, X12_sees_5, X12_sees_7, X12_sees_8, X12_sees_11, X12_sees_12, X12_sees_14, X12_sees_15, X12_sees_18b, X12_sees_21, X12_sees_22, X12_sees_25, X12_sees_26, X12_sees_27, X12_sees_30, X12_sees_33, X12_sees_34, X12_sees_35, X12_sees_36, X12_sees_37, X12_sees_38, X12_sees_41, X12_sees_42, X12_sees_43, X12_sees_46, X12_sees_49, X12_sees_50, X12_sees_51, X12_sees_52, X12_sees_53, X12_sees_56, X12_sees_59, X12_sees_60, X12_sees_62, X12_sees_63, X12_sees_66, X12_sees_68, X12_sees_69b, X12_sees_72, X12_sees_73, X12_sees_74, X12_sees_77, X12_sees_79, X12_sees_80, X12_sees_81, X12_sees_82, X12_sees_83, X12_sees_84, X12_sees_85, X12_sees_88, X12_sees_90, X12_sees_91, X12_sees_92, X12_sees_93, X12_sees_94, X12_sees_95, X12_sees_96, X12_sees_97, X12_sees_100, X12_sees_103, X12_sees_106, X12_sees_107, X12_sees_109, X12_sees_110, X12_sees_113b, X12_sees_116, X12_sees_117, X12_sees_120, X12_sees_121, X12_sees_122, X12_sees_123, X12_sees_126, X12_sees_127, X12_sees_128, X12_sees_131, X12_sees_132, X12_sees_135, X12_sees_138, g13_0, ln_218, sn_218, show (9 : Int32) = nI 9 from rfl, p13_22, show (0 : Int32) = nI 0 from rfl, g13_22, g13_19, ln_226, sn_226, show (276 : Int32) = nI 276 from rfl, g13_20, ln_227, sn_227, show (476 : Int32) = nI 476 from rfl, show (1 : Int32) = nI 1 from rfl, show (11 : Int32) = nI 11 from rfl, show (36 : Int32) = nI 36 from rfl, show (2 : Int32) = nI 2 from rfl, is_217, g13_21, ln_228, sn_228, exLt_c1, exLt_c2, exEq_c, exLt_t, exLt_f, exEq_s, exEq_t, exEq_f, exLt_mn, exLt_nm, exEq_mn, exEq_nm, exEq_mm, exEq_xf, exLtL_t, exLtL_f, exEqL_t, exEqL_f, exB_t, exB_f, exSw_t, exSw_f, exSw_0, klz_f, klz_g, kieq_f, kdivL, kdivI, kmodL, kmodI, knIL, lN_i, nI_add, pk_mul, pk_sub, pk_subm, kad1, kad2, lN_add, lN_mul, lN_sub, kkl_i, kkl_l, kkl_r, kkl_0, Option.bind_some, Option.toList_some, Option.toList_none, List.cons_append, List.nil_append, if_true, if_false, eq_self, not_true_eq_false, not_false_eq_true, ku2_eq, ku2_ne, pk_us, pk_un, pk_uLs, pk_uLn, kup_Is, kup_In, kup_Js, kup_Jn, ku2_ku2, kup_I, kup_J, knar1, knar0]
  rw [e2]
  conv => arg 1; simp (disch := first | assumption | omega | decide | exact bI_or _) only [X12_sees_0, X12_sees_1, X12_sees_2, X12_sees_5, X12_sees_7, X12_sees_8, X12_sees_11, X12_sees_12, X12_sees_14, X12_sees_15, X12_sees_18b, X12_sees_21, X12_sees_22, X12_sees_25, X12_sees_26, X12_sees_27, X12_sees_30, X12_sees_33, X12_sees_34, X12_sees_35, X12_sees_36, X12_sees_37, X12_sees_38, X12_sees_41, X12_sees_42, X12_sees_43, X12_sees_46, X12_sees_49, X12_sees_50, X12_sees_51, X12_sees_52, X12_sees_53, X12_sees_56, X12_sees_59, X12_sees_60, X12_sees_62, X12_sees_63, X12_sees_66, X12_sees_68, X12_sees_69b, X12_sees_72, X12_sees_73, X12_sees_74, X12_sees_77, X12_sees_79, X12_sees_80, X12_sees_81, X12_sees_82, X12_sees_83, X12_sees_84, X12_sees_85, X12_sees_88, X12_sees_90, X12_sees_91, X12_sees_92, X12_sees_93, X12_sees_94, X12_sees_95, X12_sees_96, X12_sees_97, X12_sees_100, X12_sees_103, X12_sees_106, X12_sees_107, X12_sees_109, X12_sees_110, X12_sees_113b, X12_sees_116, X12_sees_117, X12_sees_120, X12_sees_121, X12_sees_122, X12_sees_123, X12_sees_126, X12_sees_127, X12_sees_128, X12_sees_131, X12_sees_132, X12_sees_135, X12_sees_138, g13_0, ln_218, sn_218, show (9 : Int32) = nI 9 from rfl, p13_22, show (0 : Int32) = nI 0 from rfl, g13_22, g13_19, ln_226, sn_226, show (276 : Int32) = nI 276 from rfl, g13_20, ln_227, sn_227, show (476 : Int32) = nI 476 from rfl, show (1 : Int32) = nI 1 from rfl, show (11 : Int32) = nI 11 from rfl, show (36 : Int32) = nI 36 from rfl, show (2 : Int32) = nI 2 from rfl, is_217, g13_21, ln_228, sn_228, exLt_c1, exLt_c2, exEq_c, exLt_t, exLt_f, exEq_s, exEq_t, exEq_f, exLt_mn, exLt_nm, exEq_mn, exEq_nm, exEq_mm, exEq_xf, exLtL_t, exLtL_f, exEqL_t, exEqL_f, exB_t, exB_f, exSw_t, exSw_f, exSw_0, klz_f, klz_g, kieq_f, kdivL, kdivI, kmodL, kmodI, knIL, lN_i, nI_add, pk_mul, pk_sub, pk_subm, kad1, kad2, lN_add, lN_mul, lN_sub, kkl_i, kkl_l, kkl_r, kkl_0, Option.bind_some, Option.toList_some, Option.toList_none, List.cons_append, List.nil_append, if_true, if_false, eq_self, not_true_eq_false, not_false_eq_true, ku2_eq, ku2_ne, pk_us, pk_un, pk_uLs, pk_uLn, kup_Is, kup_In, kup_Js, kup_Jn, ku2_ku2, kup_I, kup_J, knar1, knar0]
  rw [show fAll F (F 11) 0 (knL F) = seenL F from rfl, e3]
  refine Gd_rt ⟨?_, ?_, ?_⟩
  · (repeat (first | exact Kp_refl | refine Kp_i ?_ (by decide) | refine Kp_l ?_ (by decide) | refine Kp_I ?_ (by decide) | refine Kp_J ?_ (by decide) | exact Kp_refl))
  · exact ku2_eq _ _ _ _
  · intro j hj
    rw [kup_Is, kup_In (by decide), kup_Is, kup_Js, if_pos ⟨Nat.zero_le _, hj⟩]
    exact ⟨(hq j hj).1, (hq j hj).2, rfl⟩
end RS2
