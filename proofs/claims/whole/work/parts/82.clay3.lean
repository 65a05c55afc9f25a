/-! OWN: the class lays a trace: as the file has it -/
def lasL (L : List (Nat × Nat)) : Nat := if L.length = 0 then 0 else tkOf L (L.length - 1)
theorem lasL_app (L : List (Nat × Nat)) (x : Nat × Nat) : lasL (L ++ [x]) = x.1 := by
  unfold lasL
  rw [if_neg (by simp), List.length_append, List.length_singleton, Nat.add_sub_cancel, tk_app2.1]
theorem drop_c {G : List (Nat × Nat)} {k : Nat} (h : k < G.length) : G.drop k = (tkOf G k, stOf G k) :: G.drop (k + 1) := by
  rw [List.drop_eq_getElem_cons h]
  congr 1
  simp [tkOf, stOf, h]
theorem lyG_tc {G : List (Nat × Nat)} {n : Nat} : ∀ (c k : Nat) (L : List (Nat × Nat)), k + c = G.length → L.length = n + k → n + k ≤ 200 → (lyG L (G.drop k)).1 = tcG G n c k (lasL L)
  | 0, k, L, hk, hL, hn => by
    rw [List.drop_eq_nil_of_le (by omega), lyG, tcG]
  | c + 1, k, L, hk, hL, hn => by
    rw [drop_c (by omega), lyG, tcG]
    show (if 200 ≤ L.length then (3, L) else if 99999 < lasL L + tkOf G k then (4, L) else lyG (L ++ [(lasL L + tkOf G k, stOf G k)]) (G.drop (k + 1))).1 = _
    by_cases c1 : n + k = 200
    · rw [if_pos (by omega), if_pos c1]
    rw [if_neg (by omega), if_neg c1]
    by_cases c2 : 99999 < lasL L + tkOf G k
    · rw [if_pos c2, if_pos c2]
    rw [if_neg c2, if_neg c2, lyG_tc (n := n) c (k + 1) _ (by omega) (by rw [List.length_append, List.length_singleton]; omega) (by omega), lasL_app]
theorem lyG_val {G : List (Nat × Nat)} {la : Nat} : ∀ (c k : Nat) (L : List (Nat × Nat)), k + c = G.length → lasL L = tkT G la k → (lyG L (G.drop k)).1 = 0 → (∀ j, j < L.length → tkOf (lyG L (G.drop k)).2 j = tkOf L j ∧ stOf (lyG L (G.drop k)).2 j = stOf L j) ∧ ∀ m, k ≤ m → m < G.length → tkOf (lyG L (G.drop k)).2 (L.length + (m - k)) = tkT G la (m + 1) ∧ stOf (lyG L (G.drop k)).2 (L.length + (m - k)) = stOf G m
  | 0, k, L, hk, hla, h0 => by
    rw [List.drop_eq_nil_of_le (by omega), lyG]
    exact ⟨fun j hj => ⟨rfl, rfl⟩, fun m h1 h2 => by omega⟩
  | c + 1, k, L, hk, hla, h0 => by
    rw [drop_c (by omega), lyG] at h0 ⊢
    have e : (if L.length = 0 then 0 else tkOf L (L.length - 1)) = tkT G la k := hla
    rw [e] at h0 ⊢
    by_cases c1 : 200 ≤ L.length
    · rw [if_pos c1] at h0
      exact absurd h0 (by decide : ¬ (3 : Nat) = 0)
    rw [if_neg c1] at h0 ⊢
    by_cases c2 : 99999 < tkT G la k + (tkOf G k, stOf G k).1
    · rw [if_pos c2] at h0
      exact absurd h0 (by decide : ¬ (4 : Nat) = 0)
    rw [if_neg c2] at h0 ⊢
    obtain ⟨a, b⟩ := lyG_val (la := la) c (k + 1) _ (by omega) (by rw [lasL_app]; rfl) h0
    have el : (L ++ [(tkT G la k + (tkOf G k, stOf G k).1, (tkOf G k, stOf G k).2)]).length = L.length + 1 := by simp
    refine ⟨fun j hj => ?_, fun m h1 h2 => ?_⟩
    · rw [(a j (by rw [el]; omega)).1, (a j (by rw [el]; omega)).2]
      exact tk_app hj
    · by_cases c3 : m = k
      · subst c3
        rw [show L.length + (m - m) = L.length by omega, (a L.length (by rw [el]; omega)).1, (a L.length (by rw [el]; omega)).2, tk_app2.1, tk_app2.2]
        exact ⟨rfl, rfl⟩
      · have := b m (by omega) h2
        rw [el, show L.length + 1 + (m - (k + 1)) = L.length + (m - k) by omega] at this
        exact this
theorem tk_kn {F : Nat → Nat} {j : Nat} (h : j < F 9) : tkOf (knL F) j = F (276 + j) ∧ stOf (knL F) j = F (476 + j) := by
  simp [tkOf, stOf, knL, h]
theorem lasL_kn (F : Nat → Nat) : lasL (knL F) = lastF F := by
  unfold lasL lastF
  rw [knL_len]
  by_cases c : F 9 = 0
  · rw [if_pos c, if_pos c]
  · rw [if_neg c, if_neg c, (tk_kn (by omega)).1]
    congr 1
    omega
theorem lyG_F {F : Nat → Nat} {G : List (Nat × Nat)} (h9 : F 9 ≤ 200) : (lyG (knL F) G).1 = tcK F G := by
  have := lyG_tc (G := G) (n := F 9) G.length 0 (knL F) (by omega) (by rw [knL_len]; rfl) (by omega)
  rw [List.drop_zero, lasL_kn] at this
  exact this
theorem trFl_v {F : Nat → Nat} {G : List (Nat × Nat)} (h : F 9 + G.length ≤ 200) : trFl F G 9 = F 9 + G.length ∧ (∀ j, j < F 9 → trFl F G (276 + j) = F (276 + j) ∧ trFl F G (476 + j) = F (476 + j)) ∧ ∀ m, m < G.length → trFl F G (276 + (F 9 + m)) = tkT G (lastF F) (m + 1) ∧ trFl F G (476 + (F 9 + m)) = stOf G m := by
  refine ⟨?_, fun j hj => ⟨?_, ?_⟩, fun m hm => ⟨?_, ?_⟩⟩ <;> unfold trFl fU trP
  · rw [if_pos rfl]
  · rw [if_neg (by omega), if_neg (by omega), if_neg (by omega)]
  · rw [if_neg (by omega), if_neg (by omega), if_neg (by omega)]
  · rw [if_neg (by omega), if_pos (by omega), show 276 + (F 9 + m) - (276 + F 9) + 1 = m + 1 by omega]
  · rw [if_neg (by omega), if_neg (by omega), if_pos (by omega), show 476 + (F 9 + m) - (476 + F 9) = m by omega]
theorem cKn_tr {i I : tI} {q : Nat} {F : Nat → Nat} {G : List (Nat × Nat)} (h9 : F 9 ≤ 200) (h0 : (lyG (knL F) G).1 = 0) (hb : okL (knL F)) (hk : cKn i I q (lyG (knL F) G).2) : cKn i I q (knL (trFl F G)) := by
  have hlen := (lyG_ok G (knL F) hb).2 h0
  have hb2 := (lyG_ok G (knL F) hb).1.1
  rw [knL_len] at hlen
  have hv := lyG_val (G := G) (la := lastF F) G.length 0 (knL F) (by omega) (by rw [lasL_kn]; rfl) (by rw [List.drop_zero]; exact h0)
  rw [List.drop_zero, knL_len] at hv
  obtain ⟨t1, t2, t3⟩ := trFl_v (F := F) (G := G) (by omega)
  refine ⟨by rw [hk.1, knL_len, t1, hlen], fun j hj => ?_⟩
  rw [knL_len] at hj
  rw [(tk_kn hj).1, (tk_kn hj).2, (hk.2 j (by omega)).1, (hk.2 j (by omega)).2]
  by_cases c : j < F 9
  · rw [(hv.1 j c).1, (hv.1 j c).2, (tk_kn c).1, (tk_kn c).2, (t2 j c).1, (t2 j c).2]
    exact ⟨rfl, rfl⟩
  · obtain ⟨m, rfl⟩ : ∃ m, j = F 9 + m := ⟨j - F 9, by omega⟩
    have h1 := hv.2 m (by omega) (by omega)
    rw [Nat.sub_zero] at h1
    rw [h1.1, h1.2, (t3 m (by omega)).1, (t3 m (by omega)).2]
    exact ⟨rfl, rfl⟩
section CLC
variable {d : Nat} {h : kH} {i : tI} {l : tL} {I : tI} {J : tL} {nw df : Nat} {P : Nat → Nat}
theorem t_layItems {tx : Nat → Nat} {ln q p0 : Nat} {L : List (Nat × Nat)} (hq : isC3 q) (hq3 : 36 < q) (ht : cTx I tx ln) (hX : (trA tx ln).1 = 0) (hL : okL L) (h2 : i 33 2 = nI ln) (h4 : i 33 4 = mI 0) (hk : cKn i I q L) : Gd (rn (d + 4) mX9_layItems [.ref 33, .ref q] (mH h i l I J nw df P)) (Rt h nw df P (some (.int (mI (lyG L (trA tx ln).2.1).1))) fun i' l' I' J' => Kp [(33, 3), (33, 4), (q, 2)] [] [35, 36, q + 1, q + 2] i i' l l' I I' J J' ∧ ((lyG L (trA tx ln).2.1).1 = 0 → cKn i' I' q (lyG L (trA tx ln).2.1).2)) := by
  have hl := ht.1
  have hb := trI_b (tx := tx) (ln := ln) (ln + 1) 0 0 true [] (by omega) (fun y hy => by cases hy) (fun z => by cases z) hX
  have hb := hb.2.2.2.2.2 rfl
  have hok := lyG_ok (trA tx ln).2.1 L hL
  unfold trA at *
  rw [X9_layItems_E]
  conv => arg 1; simp (disch := first | assumption | omega | decide | exact bI_or _) only [pt_3, X9_layItems_0, X9_layItems_1, X9_layItems_2, X9_layItems_3, X9_layItems_4, X9_layItems_5, X9_layItems_6, X9_layItems_9, X9_layItems_10, X9_layItems_14, X9_layItems_16b, X9_layItems_19, X9_layItems_20b, X9_layItems_23, X9_layItems_24, X9_layItems_27b, X9_layItems_30, X9_layItems_31, X9_layItems_34, X9_layItems_36, X9_layItems_38, X9_layItems_40b, X9_layItems_43, X9_layItems_44, X9_layItems_45, X9_layItems_48, X9_layItems_49, X9_layItems_52, X9_layItems_54, X9_layItems_56b, X9_layItems_59, X9_layItems_60, X9_layItems_61, X9_layItems_64, X9_layItems_65, X9_layItems_68, X9_layItems_69, X9_layItems_70, X9_layItems_73, X9_layItems_74, X9_layItems_77, X9_layItems_80, X9_layItems_81, show (0 : Int32) = nI 0 from rfl, kp10_3, show (100000 : Int32) = nI 100000 from rfl, kis10, show (40 : Int32) = nI 40 from rfl, show (41 : Int32) = nI 41 from rfl, show (1 : Int32) = nI 1 from rfl, exLt_c1, exLt_c2, exEq_c, exLt_t, exLt_f, exEq_s, exEq_t, exEq_f, exLt_mn, exLt_nm, exEq_mn, exEq_nm, exEq_mm, exEq_xf, exLtL_t, exLtL_f, exEqL_t, exEqL_f, exB_t, exB_f, exSw_t, exSw_f, exSw_0, klz_f, klz_g, kieq_f, kdivL, kdivI, kmodL, kmodI, knIL, lN_i, nI_add, pk_mul, pk_sub, pk_subm, kad1, kad2, lN_add, lN_mul, lN_sub, kkl_i, kkl_l, kkl_r, kkl_0, Option.bind_some, Option.toList_some, Option.toList_none, List.cons_append, List.nil_append, if_true, if_false, eq_self, not_true_eq_false, not_false_eq_true, ku2_eq, ku2_ne, pk_us, pk_un, pk_uLs, pk_uLn, kup_Is, kup_In, kup_Js, kup_Jn, ku2_ku2, kup_I, kup_J, knar1, knar0]
  refine t_ly (d := d) (i0 := i) (l0 := l) (I0 := I) (J0 := J) hq hq3 ht (ln + 1) 0 0 7 0 true L _ l I J _ (by omega) (by omega) (Or.inl rfl) hX hL (by simp (disch := first | assumption | omega | decide | exact bI_or _) only [h2, exLt_c1, exLt_c2, exEq_c, exLt_t, exLt_f, exEq_s, exEq_t, exEq_f, exLt_mn, exLt_nm, exEq_mn, exEq_nm, exEq_mm, exEq_xf, exLtL_t, exLtL_f, exEqL_t, exEqL_f, exB_t, exB_f, exSw_t, exSw_f, exSw_0, klz_f, klz_g, kieq_f, kdivL, kdivI, kmodL, kmodI, knIL, lN_i, nI_add, pk_mul, pk_sub, pk_subm, kad1, kad2, lN_add, lN_mul, lN_sub, kkl_i, kkl_l, kkl_r, kkl_0, Option.bind_some, Option.toList_some, Option.toList_none, List.cons_append, List.nil_append, if_true, if_false, eq_self, not_true_eq_false, not_false_eq_true, ku2_eq, ku2_ne, pk_us, pk_un, pk_uLs, pk_uLn, kup_Is, kup_In, kup_Js, kup_Jn, ku2_ku2, kup_I, kup_J, knar1, knar0]) (by simp (disch := first | assumption | omega | decide | exact bI_or _) only [exLt_c1, exLt_c2, exEq_c, exLt_t, exLt_f, exEq_s, exEq_t, exEq_f, exLt_mn, exLt_nm, exEq_mn, exEq_nm, exEq_mm, exEq_xf, exLtL_t, exLtL_f, exEqL_t, exEqL_f, exB_t, exB_f, exSw_t, exSw_f, exSw_0, klz_f, klz_g, kieq_f, kdivL, kdivI, kmodL, kmodI, knIL, lN_i, nI_add, pk_mul, pk_sub, pk_subm, kad1, kad2, lN_add, lN_mul, lN_sub, kkl_i, kkl_l, kkl_r, kkl_0, Option.bind_some, Option.toList_some, Option.toList_none, List.cons_append, List.nil_append, if_true, if_false, eq_self, not_true_eq_false, not_false_eq_true, ku2_eq, ku2_ne, pk_us, pk_un, pk_uLs, pk_uLn, kup_Is, kup_In, kup_Js, kup_Jn, ku2_ku2, kup_I, kup_J, knar1, knar0]) (by simp (disch := first | assumption | omega | decide | exact bI_or _) only [h4, exLt_c1, exLt_c2, exEq_c, exLt_t, exLt_f, exEq_s, exEq_t, exEq_f, exLt_mn, exLt_nm, exEq_mn, exEq_nm, exEq_mm, exEq_xf, exLtL_t, exLtL_f, exEqL_t, exEqL_f, exB_t, exB_f, exSw_t, exSw_f, exSw_0, klz_f, klz_g, kieq_f, kdivL, kdivI, kmodL, kmodI, knIL, lN_i, nI_add, pk_mul, pk_sub, pk_subm, kad1, kad2, lN_add, lN_mul, lN_sub, kkl_i, kkl_l, kkl_r, kkl_0, Option.bind_some, Option.toList_some, Option.toList_none, List.cons_append, List.nil_append, if_true, if_false, eq_self, not_true_eq_false, not_false_eq_true, ku2_eq, ku2_ne, pk_us, pk_un, pk_uLs, pk_uLn, kup_Is, kup_In, kup_Js, kup_Jn, ku2_ku2, kup_I, kup_J, knar1, knar0]) (hk.c (by simp (disch := first | assumption | omega | decide | exact bI_or _) only [exLt_c1, exLt_c2, exEq_c, exLt_t, exLt_f, exEq_s, exEq_t, exEq_f, exLt_mn, exLt_nm, exEq_mn, exEq_nm, exEq_mm, exEq_xf, exLtL_t, exLtL_f, exEqL_t, exEqL_f, exB_t, exB_f, exSw_t, exSw_f, exSw_0, klz_f, klz_g, kieq_f, kdivL, kdivI, kmodL, kmodI, knIL, lN_i, nI_add, pk_mul, pk_sub, pk_subm, kad1, kad2, lN_add, lN_mul, lN_sub, kkl_i, kkl_l, kkl_r, kkl_0, Option.bind_some, Option.toList_some, Option.toList_none, List.cons_append, List.nil_append, if_true, if_false, eq_self, not_true_eq_false, not_false_eq_true, ku2_eq, ku2_ne, pk_us, pk_un, pk_uLs, pk_uLn, kup_Is, kup_In, kup_Js, kup_Jn, ku2_ku2, kup_I, kup_J, knar1, knar0]) rfl rfl) (by omega) (Kp_i Kp_refl (by simp)) ?_ ?_
  · intro z i1 l1 I1 J1 k1
    exact Gd_rt ⟨k1, fun y => absurd y z⟩
  · intro z i1 l1 I1 J1 k' a5 k1 f2 f3 f4 f5 f6 f7
    have hlen := hok.2 z
    have hl2 := hok.1.1
    rw [hb] at f3
    rw [z]
    generalize (trI tx ln (ln + 1) 0 0 true []).2.1.length = g at *
    have ee : rn (d + 3) mX9_hasEnded [.ref 33] (mH h i1 l1 I1 J1 nw df P) = some (some (.int (bI (ln ≤ ln))), (mH h i1 l1 I1 J1 nw df P)) := t_hasEnded f2 f3 (by omega) (by omega)
    have c0 : ln ≤ ln := Nat.le_refl _
    rw [X9_layItems_12]
    conv => arg 1; simp (disch := first | assumption | omega | decide | exact bI_or _) only [ee, X9_layItems_0, X9_layItems_1, X9_layItems_2, X9_layItems_3, X9_layItems_4, X9_layItems_5, X9_layItems_6, X9_layItems_9, X9_layItems_10, X9_layItems_14, X9_layItems_16b, X9_layItems_19, X9_layItems_20b, X9_layItems_23, X9_layItems_24, X9_layItems_27b, X9_layItems_30, X9_layItems_31, X9_layItems_34, X9_layItems_36, X9_layItems_38, X9_layItems_40b, X9_layItems_43, X9_layItems_44, X9_layItems_45, X9_layItems_48, X9_layItems_49, X9_layItems_52, X9_layItems_54, X9_layItems_56b, X9_layItems_59, X9_layItems_60, X9_layItems_61, X9_layItems_64, X9_layItems_65, X9_layItems_68, X9_layItems_69, X9_layItems_70, X9_layItems_73, X9_layItems_74, X9_layItems_77, X9_layItems_80, X9_layItems_81, show (0 : Int32) = nI 0 from rfl, kp10_3, show (100000 : Int32) = nI 100000 from rfl, kis10, show (40 : Int32) = nI 40 from rfl, show (41 : Int32) = nI 41 from rfl, show (1 : Int32) = nI 1 from rfl, exLt_c1, exLt_c2, exEq_c, exLt_t, exLt_f, exEq_s, exEq_t, exEq_f, exLt_mn, exLt_nm, exEq_mn, exEq_nm, exEq_mm, exEq_xf, exLtL_t, exLtL_f, exEqL_t, exEqL_f, exB_t, exB_f, exSw_t, exSw_f, exSw_0, klz_f, klz_g, kieq_f, kdivL, kdivI, kmodL, kmodI, knIL, lN_i, nI_add, pk_mul, pk_sub, pk_subm, kad1, kad2, lN_add, lN_mul, lN_sub, kkl_i, kkl_l, kkl_r, kkl_0, Option.bind_some, Option.toList_some, Option.toList_none, List.cons_append, List.nil_append, if_true, if_false, eq_self, not_true_eq_false, not_false_eq_true, ku2_eq, ku2_ne, pk_us, pk_un, pk_uLs, pk_uLn, kup_Is, kup_In, kup_Js, kup_Jn, ku2_ku2, kup_I, kup_J, knar1, knar0]
    exact Gd_rte (show some (Value.int (nI 0)) = some (Value.int (mI 0)) by rw [mI_0]; rfl) ⟨k1, fun _ => f5⟩
end CLC
