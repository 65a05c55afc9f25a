/-! OWN: the reference: undo, drop, feed -/
def sp_undo (PS : List (Nat → Nat)) : Int32 := if PS.length = 0 then mI 1 else nI (PS.length - 1)
def un_F (F : Nat → Nat) (PS : List (Nat → Nat)) : Nat → Nat := if PS.length = 0 then F else PS.getD (PS.length - 1) (fun _ => 0)
def drF (F : Nat → Nat) (k : Nat) : Nat → Nat := fun j => if j = 9 then F 9 - 1 else if 276 + k ≤ j ∧ j < 275 + F 9 then F (j + 1) else if 476 + k ≤ j ∧ j < 475 + F 9 then F (j + 1) else F j
def sp_drop (F : Nat → Nat) (x : Int32) : Int32 := if inR x (F 9) then nI (F 9 - 1) else mI 1
def ac_drop (F : Nat → Nat) (x : Int32) : Option (Nat → Nat) := if inR x (F 9) then some (drF F (tN x)) else none
theorem drF_kn {F : Nat → Nat} {k : Nat} (hk : k < F 9) (h9 : F 9 ≤ 200) : knL (drF F k) = (knL F).eraseIdx k := by
  apply List.ext_getElem
  · rw [List.length_eraseIdx, knL_len, knL_len, if_pos hk]; rfl
  · intro j h1 h2
    rw [knL_len] at h1
    have h1 : j < F 9 - 1 := h1
    rw [List.getElem_eraseIdx]
    have e9 : drF F k 9 = F 9 - 1 := rfl
    simp only [knL, List.getElem_map, List.getElem_range]
    by_cases c : j < k
    · rw [dif_pos c]
      simp only [drF]
      rw [if_neg (by omega), if_neg (by omega), if_neg (by omega), if_neg (by omega), if_neg (by omega), if_neg (by omega)]
    · rw [dif_neg c]
      simp only [drF]
      rw [if_neg (by omega), if_pos (by omega), if_neg (by omega), if_neg (by omega), if_pos (by omega)]
      rfl
theorem okK_sub {B : Nat} {L M : List (Nat × Nat)} (h : okK B L) (hs : M.Sublist L) : okK B M := ⟨Nat.le_trans hs.length_le h.1, fun y hy => h.2.1 y (hs.subset hy), fun y hy => h.2.2.1 y (hs.subset hy), h.2.2.2.sublist (hs.map _)⟩
theorem ok_drop {F : Nat → Nat} (ok : okF F) {k : Nat} (hk : k < F 9) : okF (drF F k) := by
  have n9 := ok.n9
  obtain ⟨h1, h2, h3, h4, h5, h6⟩ := ok
  have e : ∀ j, j < 276 → j ≠ 9 → drF F k j = F j := fun j q1 q2 => by unfold drF; rw [if_neg q2, if_neg (by omega), if_neg (by omega)]
  refine ⟨okSp_c h1 (fun j hj => e j (by omega) (by omega)) (by rw [e 8 (by omega) (by omega)]; exact h1.2.2.2), ?_, okSt_c h3 (fun j hj => e j (by omega) (by omega)), ?_, ?_, okN_c h6 (fun j hj => e j (by omega) (by omega))⟩
  · unfold okB
    rw [e 5 (by omega) (by omega), e 6 (by omega) (by omega), e 7 (by omega) (by omega)]
    exact h2
  · rw [drF_kn hk n9]
    exact okK_sub h4 (List.eraseIdx_sublist _ _)
  · unfold okO
    rw [e 0 (by omega) (by omega), e 1 (by omega) (by omega), e 2 (by omega) (by omega), e 3 (by omega) (by omega), e 4 (by omega) (by omega)]
    exact h5
/-- four bytes of an int on a tape, from a place on -/
def byt (v : Int32) (s : Nat) : Nat := tN ((v >>> (nI s &&& nI 31)) &&& nI 255)
def ty4 (T : Nat → Nat) (c : Nat) (v : Int32) : Nat → Nat := fun j => if j = c then byt v 24 else if j = c + 1 then byt v 16 else if j = c + 2 then byt v 8 else if j = c + 3 then byt v 0 else T j
theorem byt_b (v : Int32) (s : Nat) : byt v s < 256 ∧ (v >>> (nI s &&& nI 31)) &&& nI 255 = nI (byt v s) := by
  obtain ⟨k, hk, e⟩ := pk_andE (v >>> (nI s &&& nI 31)) (m := 255) 8 (by decide)
  have e : (v >>> (nI s &&& nI 31)) &&& nI 255 = nI k := e
  unfold byt
  rw [e, tN_nI (by omega)]
  exact ⟨hk, rfl⟩
theorem i8_255 (x : Int32) : x.toInt8.toInt32 &&& nI 255 = x &&& nI 255 := by
  apply Int32.toBitVec_inj.mp
  apply BitVec.eq_of_getLsbD_eq
  intro k hk
  have e : (nI 255).toBitVec = 255#32 := rfl
  simp only [Int32.toBitVec_and, e, BitVec.getLsbD_and]
  by_cases c : k < 8
  · congr 1
    show (x.toBitVec.signExtend 8 |>.signExtend 32).getLsbD k = _
    rw [BitVec.getLsbD_signExtend, BitVec.getLsbD_signExtend]
    simp [c, hk]
  · have : (255#32).getLsbD k = false := by
      rw [BitVec.getLsbD_ofNat]
      have := Nat.testBit_two_pow_sub_one 8 k
      simp at this
      simp [this]
      omega
    rw [this, Bool.and_false, Bool.and_false]
def fedT (T : Nat → Nat) (tc : Nat) (a b c d e : Int32) : Nat → Nat := ty4 (ty4 (ty4 (ty4 (ty4 T tc a) (tc + 4) b) (tc + 8) c) (tc + 12) d) (tc + 16) e
section RH
variable {d : Nat} {h : kH} {i : tI} {l : tL} {I : tI} {J : tL} {nw df : Nat} {P : Nat → Nat}
variable {F : Nat → Nat} {PS : List (Nat → Nat)} {T : Nat → Nat} {tc : Nat}
theorem r_undoG (hR : RInv i I F PS T tc) : Gd (rn (d + 1) mX12_undo [.ref 217] (mH h i l I J nw df P)) (Rt h nw df P (some (.int (sp_undo PS))) fun i' l' I' J' => FrR i i' l l' I I' J J' ∧ RInv i' I' (un_F F PS) PS.dropLast T tc) := by
  obtain ⟨h1, h2, h3, h4, h5, h6⟩ := hR
  have e := r_undo (d := d) (h := h) (l := l) (J := J) (nw := nw) (df := df) (P := P) h3.2.1 h3.1 (I := I)
  by_cases h0 : PS.length = 0
  · rw [if_pos h0] at e
    have : PS = [] := List.length_eq_zero_iff.mp h0
    subst this
    exact Gd_of e ⟨_, _, _, _, rfl, FrR_refl, h1, h2, h3, h4, h5, h6⟩
  · rw [if_neg h0] at e
    have k1 : Kp [(217, 3)] [] [218] i (ku2 i 217 3 (nI (PS.length - 1))) l l I (va_up I 218 (fun j => if j < 676 then I 220 (676 * (PS.length - 1) + j) else I 218 j)) J J := by (repeat (first | exact Kp_refl | refine Kp_i ?_ (by decide) | refine Kp_l ?_ (by decide) | refine Kp_I ?_ (by decide) | refine Kp_J ?_ (by decide) | exact Kp_refl))
    rw [sp_undo, un_F, if_neg h0, if_neg h0]
    have hp := h3.2.1
    refine Gd_of e ⟨_, _, _, _, rfl, FrR_of k1 (by decide) (by decide) (by decide), ?_, ?_, ⟨?_, ?_, ?_⟩, ?_, h5.c (k1.1 _ _ (by decide)) (k1.2.2.1 _ (by decide)), h6.c (k1.2.2.1 _ (by decide))⟩
    · intro j hj
      rw [kup_Is, if_pos hj]
      exact h3.2.2 _ j (by omega) hj
    · have hm : PS.getD (PS.length - 1) (fun _ => 0) = PS[PS.length - 1] := by simp [List.getD_eq_getElem?_getD, List.getElem?_eq_getElem (show PS.length - 1 < PS.length by omega)]
      rw [hm]
      exact h4 _ (List.getElem_mem _)
    · rw [ku2_eq, List.length_dropLast]
    · rw [List.length_dropLast]; omega
    · intro n j hn hj
      rw [List.length_dropLast] at hn
      rw [kup_In (by decide), h3.2.2 n j (by omega) hj]
      congr 2
      rw [List.getD_eq_getElem?_getD, List.getD_eq_getElem?_getD, List.getElem?_dropLast, if_pos hn]
    · exact fun G hG => h4 G ((List.dropLast_sublist PS).subset hG)
theorem r_dr1 {n : Nat} {x : Int32} (hn : n ≤ 200) : ∀ (c j : Nat) (I : tI), j + c = n - 1 → I 218 9 = nI (n - 1) → ex d mX12_drop 43 [some (.ref 217), some (.int x), some (.int (nI j))] [] (mH h i l I J nw df P) = ex d mX12_drop 104 [some (.ref 217), some (.int x), some (.int (nI (n - 1)))] [] (mH h i l (va_up I 218 (fun q => if 276 + j ≤ q ∧ q < 275 + n then I 218 (q + 1) else if 476 + j ≤ q ∧ q < 475 + n then I 218 (q + 1) else I 218 q)) J nw df P)
  | 0, j, I, hj, h9 => by
    have hj : j = n - 1 := hj
    subst hj
    rw [X12_drop_43, kup_Ii (fun q => by rw [if_neg (by omega), if_neg (by omega)])]
    conv => lhs; simp (disch := first | assumption | omega | decide | exact bI_or _) only [h9, X12_drop_0, X12_drop_1, X12_drop_2, X12_drop_3, X12_drop_4, X12_drop_7, X12_drop_9, X12_drop_10, X12_drop_11, X12_drop_12, X12_drop_13, X12_drop_16b, X12_drop_19, X12_drop_20, X12_drop_21, X12_drop_22, X12_drop_25, X12_drop_26, X12_drop_29, X12_drop_31, X12_drop_32, X12_drop_35, X12_drop_37, X12_drop_38, X12_drop_39, X12_drop_40, X12_drop_41, X12_drop_42, X12_drop_44, X12_drop_45, X12_drop_48, X12_drop_50, X12_drop_51b, X12_drop_54, X12_drop_55, X12_drop_58, X12_drop_61, X12_drop_62, X12_drop_63, X12_drop_64, X12_drop_67, X12_drop_70, X12_drop_71, X12_drop_72, X12_drop_73, X12_drop_74, X12_drop_75, X12_drop_76, X12_drop_77, X12_drop_80, X12_drop_83, X12_drop_84, X12_drop_85, X12_drop_86, X12_drop_89, X12_drop_92, X12_drop_93, X12_drop_94, X12_drop_95, X12_drop_96, X12_drop_97, X12_drop_98, X12_drop_101, X12_drop_105, X12_drop_108, X12_drop_110, X12_drop_111, show (0 : Int64) = lN 0 from rfl, g13_0, ln_218, sn_218, show (9 : Int32) = nI 9 from rfl, show (1 : Int32) = nI 1 from rfl, show (0 : Int32) = nI 0 from rfl, ↓(show (-1 : Int32) = mI 1 from rfl), is_217, show (276 : Int32) = nI 276 from rfl, show (476 : Int32) = nI 476 from rfl, exLt_c1, exLt_c2, exEq_c, exLt_t, exLt_f, exEq_s, exEq_t, exEq_f, exLt_mn, exLt_nm, exEq_mn, exEq_nm, exEq_mm, exEq_xf, exLtL_t, exLtL_f, exEqL_t, exEqL_f, exB_t, exB_f, exSw_t, exSw_f, exSw_0, klz_f, klz_g, kieq_f, kdivL, kdivI, kmodL, kmodI, knIL, lN_i, nI_add, pk_mul, pk_sub, pk_subm, kad1, kad2, lN_add, lN_mul, lN_sub, kkl_i, kkl_l, kkl_r, kkl_0, Option.bind_some, Option.toList_some, Option.toList_none, List.cons_append, List.nil_append, if_true, if_false, eq_self, not_true_eq_false, not_false_eq_true, ku2_eq, ku2_ne, pk_us, pk_un, pk_uLs, pk_uLn, kup_Is, kup_In, kup_Js, kup_Jn, ku2_ku2, kup_I, kup_J, knar1, knar0]
  | c + 1, j, I, hj, h9 => by
    have IH := r_dr1 (x := x) hn c (j + 1) (va_up I 218 (upd (upd (I 218) (276 + j) (I 218 (276 + j + 1))) (476 + j) (I 218 (476 + j + 1)))) (by omega) (by rw [kup_Is]; unfold upd; rw [if_neg (by omega), if_neg (by omega)]; exact h9)
    rw [kup_I, kup_Is] at IH
    rw [X12_drop_43]
    conv => lhs; simp (disch := first | assumption | omega | decide | exact bI_or _) only [h9, X12_drop_0, X12_drop_1, X12_drop_2, X12_drop_3, X12_drop_4, X12_drop_7, X12_drop_9, X12_drop_10, X12_drop_11, X12_drop_12, X12_drop_13, X12_drop_16b, X12_drop_19, X12_drop_20, X12_drop_21, X12_drop_22, X12_drop_25, X12_drop_26, X12_drop_29, X12_drop_31, X12_drop_32, X12_drop_35, X12_drop_37, X12_drop_38, X12_drop_39, X12_drop_40, X12_drop_41, X12_drop_42, X12_drop_44, X12_drop_45, X12_drop_48, X12_drop_50, X12_drop_51b, X12_drop_54, X12_drop_55, X12_drop_58, X12_drop_61, X12_drop_62, X12_drop_63, X12_drop_64, X12_drop_67, X12_drop_70, X12_drop_71, X12_drop_72, X12_drop_73, X12_drop_74, X12_drop_75, X12_drop_76, X12_drop_77, X12_drop_80, X12_drop_83, X12_drop_84, X12_drop_85, X12_drop_86, X12_drop_89, X12_drop_92, X12_drop_93, X12_drop_94, X12_drop_95, X12_drop_96, X12_drop_97, X12_drop_98, X12_drop_101, X12_drop_105, X12_drop_108, X12_drop_110, X12_drop_111, show (0 : Int64) = lN 0 from rfl, g13_0, ln_218, sn_218, show (9 : Int32) = nI 9 from rfl, show (1 : Int32) = nI 1 from rfl, show (0 : Int32) = nI 0 from rfl, ↓(show (-1 : Int32) = mI 1 from rfl), is_217, show (276 : Int32) = nI 276 from rfl, show (476 : Int32) = nI 476 from rfl, exLt_c1, exLt_c2, exEq_c, exLt_t, exLt_f, exEq_s, exEq_t, exEq_f, exLt_mn, exLt_nm, exEq_mn, exEq_nm, exEq_mm, exEq_xf, exLtL_t, exLtL_f, exEqL_t, exEqL_f, exB_t, exB_f, exSw_t, exSw_f, exSw_0, klz_f, klz_g, kieq_f, kdivL, kdivI, kmodL, kmodI, knIL, lN_i, nI_add, pk_mul, pk_sub, pk_subm, kad1, kad2, lN_add, lN_mul, lN_sub, kkl_i, kkl_l, kkl_r, kkl_0, Option.bind_some, Option.toList_some, Option.toList_none, List.cons_append, List.nil_append, if_true, if_false, eq_self, not_true_eq_false, not_false_eq_true, ku2_eq, ku2_ne, pk_us, pk_un, pk_uLs, pk_uLn, kup_Is, kup_In, kup_Js, kup_Jn, ku2_ku2, kup_I, kup_J, knar1, knar0]
    rw [IH]
    congr 3
    funext q
    unfold upd
    (repeat' split) <;> first | rfl | (exfalso; omega) | (congr 1; omega)
theorem r_drop (hR : RInv i I F PS T tc) (x : Int32) : Gd (rn (d + 2) mX12_drop [.ref 217, .int x] (mH h i l I J nw df P)) (Rt h nw df P (some (.int (sp_drop F x))) fun i' l' I' J' => FrR i i' l l' I I' J J' ∧ RInv i' I' (aT (ac_drop F x) F PS).1 (aT (ac_drop F x) F PS).2 T tc) := by
  have hF := hR.1
  have hf : ∀ j, j < 676 → I 218 j = nI (F j) := hR.1
  have n9 := hR.2.1.n9
  rw [X12_drop_E]
  conv => arg 1; simp (disch := first | assumption | omega | decide | exact bI_or _) only [r_inK, hf, X12_drop_0, X12_drop_1, X12_drop_2, X12_drop_3, X12_drop_4, X12_drop_7, X12_drop_9, X12_drop_10, X12_drop_11, X12_drop_12, X12_drop_13, X12_drop_16b, X12_drop_19, X12_drop_20, X12_drop_21, X12_drop_22, X12_drop_25, X12_drop_26, X12_drop_29, X12_drop_31, X12_drop_32, X12_drop_35, X12_drop_37, X12_drop_38, X12_drop_39, X12_drop_40, X12_drop_41, X12_drop_42, X12_drop_44, X12_drop_45, X12_drop_48, X12_drop_50, X12_drop_51b, X12_drop_54, X12_drop_55, X12_drop_58, X12_drop_61, X12_drop_62, X12_drop_63, X12_drop_64, X12_drop_67, X12_drop_70, X12_drop_71, X12_drop_72, X12_drop_73, X12_drop_74, X12_drop_75, X12_drop_76, X12_drop_77, X12_drop_80, X12_drop_83, X12_drop_84, X12_drop_85, X12_drop_86, X12_drop_89, X12_drop_92, X12_drop_93, X12_drop_94, X12_drop_95, X12_drop_96, X12_drop_97, X12_drop_98, X12_drop_101, X12_drop_104, X12_drop_105, X12_drop_108, X12_drop_110, X12_drop_111, show (0 : Int64) = lN 0 from rfl, g13_0, ln_218, sn_218, show (9 : Int32) = nI 9 from rfl, show (1 : Int32) = nI 1 from rfl, show (0 : Int32) = nI 0 from rfl, ↓(show (-1 : Int32) = mI 1 from rfl), is_217, show (276 : Int32) = nI 276 from rfl, show (476 : Int32) = nI 476 from rfl, exLt_c1, exLt_c2, exEq_c, exLt_t, exLt_f, exEq_s, exEq_t, exEq_f, exLt_mn, exLt_nm, exEq_mn, exEq_nm, exEq_mm, exEq_xf, exLtL_t, exLtL_f, exEqL_t, exEqL_f, exB_t, exB_f, exSw_t, exSw_f, exSw_0, klz_f, klz_g, kieq_f, kdivL, kdivI, kmodL, kmodI, knIL, lN_i, nI_add, pk_mul, pk_sub, pk_subm, kad1, kad2, lN_add, lN_mul, lN_sub, kkl_i, kkl_l, kkl_r, kkl_0, Option.bind_some, Option.toList_some, Option.toList_none, List.cons_append, List.nil_append, if_true, if_false, eq_self, not_true_eq_false, not_false_eq_true, ku2_eq, ku2_ne, pk_us, pk_un, pk_uLs, pk_uLn, kup_Is, kup_In, kup_Js, kup_Jn, ku2_ku2, kup_I, kup_J, knar1, knar0]
  refine Gd_b (fun c1 => ?_) (fun c1 => ?_)
  case refine_2 =>
    conv => arg 1; simp (disch := first | assumption | omega | decide | exact bI_or _) only [X12_drop_0, X12_drop_1, X12_drop_2, X12_drop_3, X12_drop_4, X12_drop_7, X12_drop_9, X12_drop_10, X12_drop_11, X12_drop_12, X12_drop_13, X12_drop_16b, X12_drop_19, X12_drop_20, X12_drop_21, X12_drop_22, X12_drop_25, X12_drop_26, X12_drop_29, X12_drop_31, X12_drop_32, X12_drop_35, X12_drop_37, X12_drop_38, X12_drop_39, X12_drop_40, X12_drop_41, X12_drop_42, X12_drop_44, X12_drop_45, X12_drop_48, X12_drop_50, X12_drop_51b, X12_drop_54, X12_drop_55, X12_drop_58, X12_drop_61, X12_drop_62, X12_drop_63, X12_drop_64, X12_drop_67, X12_drop_70, X12_drop_71, X12_drop_72, X12_drop_73, X12_drop_74, X12_drop_75, X12_drop_76, X12_drop_77, X12_drop_80, X12_drop_83, X12_drop_84, X12_drop_85, X12_drop_86, X12_drop_89, X12_drop_92, X12_drop_93, X12_drop_94, X12_drop_95, X12_drop_96, X12_drop_97, X12_drop_98, X12_drop_101, X12_drop_104, X12_drop_105, X12_drop_108, X12_drop_110, X12_drop_111, show (0 : Int64) = lN 0 from rfl, g13_0, ln_218, sn_218, show (9 : Int32) = nI 9 from rfl, show (1 : Int32) = nI 1 from rfl, show (0 : Int32) = nI 0 from rfl, ↓(show (-1 : Int32) = mI 1 from rfl), is_217, show (276 : Int32) = nI 276 from rfl, show (476 : Int32) = nI 476 from rfl, exLt_c1, exLt_c2, exEq_c, exLt_t, exLt_f, exEq_s, exEq_t, exEq_f, exLt_mn, exLt_nm, exEq_mn, exEq_nm, exEq_mm, exEq_xf, exLtL_t, exLtL_f, exEqL_t, exEqL_f, exB_t, exB_f, exSw_t, exSw_f, exSw_0, klz_f, klz_g, kieq_f, kdivL, kdivI, kmodL, kmodI, knIL, lN_i, nI_add, pk_mul, pk_sub, pk_subm, kad1, kad2, lN_add, lN_mul, lN_sub, kkl_i, kkl_l, kkl_r, kkl_0, Option.bind_some, Option.toList_some, Option.toList_none, List.cons_append, List.nil_append, if_true, if_false, eq_self, not_true_eq_false, not_false_eq_true, ku2_eq, ku2_ne, pk_us, pk_un, pk_uLs, pk_uLn, kup_Is, kup_In, kup_Js, kup_Jn, ku2_ku2, kup_I, kup_J, knar1, knar0]
    exact Gd_rte (by rw [sp_drop, if_neg c1]) ⟨FrR_refl, by rw [ac_drop, if_neg c1]; exact hR⟩
  obtain ⟨k, hk, rfl⟩ := inR_of c1 (by omega)
  conv => arg 1; simp (disch := first | assumption | omega | decide | exact bI_or _) only [X12_drop_0, X12_drop_1, X12_drop_2, X12_drop_3, X12_drop_4, X12_drop_7, X12_drop_9, X12_drop_10, X12_drop_11, X12_drop_12, X12_drop_13, X12_drop_16b, X12_drop_19, X12_drop_20, X12_drop_21, X12_drop_22, X12_drop_25, X12_drop_26, X12_drop_29, X12_drop_31, X12_drop_32, X12_drop_35, X12_drop_37, X12_drop_38, X12_drop_39, X12_drop_40, X12_drop_41, X12_drop_42, X12_drop_44, X12_drop_45, X12_drop_48, X12_drop_50, X12_drop_51b, X12_drop_54, X12_drop_55, X12_drop_58, X12_drop_61, X12_drop_62, X12_drop_63, X12_drop_64, X12_drop_67, X12_drop_70, X12_drop_71, X12_drop_72, X12_drop_73, X12_drop_74, X12_drop_75, X12_drop_76, X12_drop_77, X12_drop_80, X12_drop_83, X12_drop_84, X12_drop_85, X12_drop_86, X12_drop_89, X12_drop_92, X12_drop_93, X12_drop_94, X12_drop_95, X12_drop_96, X12_drop_97, X12_drop_98, X12_drop_101, X12_drop_104, X12_drop_105, X12_drop_108, X12_drop_110, X12_drop_111, show (0 : Int64) = lN 0 from rfl, g13_0, ln_218, sn_218, show (9 : Int32) = nI 9 from rfl, show (1 : Int32) = nI 1 from rfl, show (0 : Int32) = nI 0 from rfl, ↓(show (-1 : Int32) = mI 1 from rfl), is_217, show (276 : Int32) = nI 276 from rfl, show (476 : Int32) = nI 476 from rfl, exLt_c1, exLt_c2, exEq_c, exLt_t, exLt_f, exEq_s, exEq_t, exEq_f, exLt_mn, exLt_nm, exEq_mn, exEq_nm, exEq_mm, exEq_xf, exLtL_t, exLtL_f, exEqL_t, exEqL_f, exB_t, exB_f, exSw_t, exSw_f, exSw_0, klz_f, klz_g, kieq_f, kdivL, kdivI, kmodL, kmodI, knIL, lN_i, nI_add, pk_mul, pk_sub, pk_subm, kad1, kad2, lN_add, lN_mul, lN_sub, kkl_i, kkl_l, kkl_r, kkl_0, Option.bind_some, Option.toList_some, Option.toList_none, List.cons_append, List.nil_append, if_true, if_false, eq_self, not_true_eq_false, not_false_eq_true, ku2_eq, ku2_ne, pk_us, pk_un, pk_uLs, pk_uLn, kup_Is, kup_In, kup_Js, kup_Jn, ku2_ku2, kup_I, kup_J, knar1, knar0]
  refine Gd_call (r_rememG hF hR.2.2.1) ?_
  intro i1 l1 I1 J1 ⟨k1, hp⟩
  have e218 : I1 218 = I 218 := k1.2.2.1 _ (by decide)
  conv => arg 1; simp (disch := first | assumption | omega | decide | exact bI_or _) only [k1.1, k1.2.1, k1.2.2.1, k1.2.2.2, hf, X12_drop_0, X12_drop_1, X12_drop_2, X12_drop_3, X12_drop_4, X12_drop_7, X12_drop_9, X12_drop_10, X12_drop_11, X12_drop_12, X12_drop_13, X12_drop_16b, X12_drop_19, X12_drop_20, X12_drop_21, X12_drop_22, X12_drop_25, X12_drop_26, X12_drop_29, X12_drop_31, X12_drop_32, X12_drop_35, X12_drop_37, X12_drop_38, X12_drop_39, X12_drop_40, X12_drop_41, X12_drop_42, X12_drop_44, X12_drop_45, X12_drop_48, X12_drop_50, X12_drop_51b, X12_drop_54, X12_drop_55, X12_drop_58, X12_drop_61, X12_drop_62, X12_drop_63, X12_drop_64, X12_drop_67, X12_drop_70, X12_drop_71, X12_drop_72, X12_drop_73, X12_drop_74, X12_drop_75, X12_drop_76, X12_drop_77, X12_drop_80, X12_drop_83, X12_drop_84, X12_drop_85, X12_drop_86, X12_drop_89, X12_drop_92, X12_drop_93, X12_drop_94, X12_drop_95, X12_drop_96, X12_drop_97, X12_drop_98, X12_drop_101, X12_drop_104, X12_drop_105, X12_drop_108, X12_drop_110, X12_drop_111, show (0 : Int64) = lN 0 from rfl, g13_0, ln_218, sn_218, show (9 : Int32) = nI 9 from rfl, show (1 : Int32) = nI 1 from rfl, show (0 : Int32) = nI 0 from rfl, ↓(show (-1 : Int32) = mI 1 from rfl), is_217, show (276 : Int32) = nI 276 from rfl, show (476 : Int32) = nI 476 from rfl, exLt_c1, exLt_c2, exEq_c, exLt_t, exLt_f, exEq_s, exEq_t, exEq_f, exLt_mn, exLt_nm, exEq_mn, exEq_nm, exEq_mm, exEq_xf, exLtL_t, exLtL_f, exEqL_t, exEqL_f, exB_t, exB_f, exSw_t, exSw_f, exSw_0, klz_f, klz_g, kieq_f, kdivL, kdivI, kmodL, kmodI, knIL, lN_i, nI_add, pk_mul, pk_sub, pk_subm, kad1, kad2, lN_add, lN_mul, lN_sub, kkl_i, kkl_l, kkl_r, kkl_0, Option.bind_some, Option.toList_some, Option.toList_none, List.cons_append, List.nil_append, if_true, if_false, eq_self, not_true_eq_false, not_false_eq_true, ku2_eq, ku2_ne, pk_us, pk_un, pk_uLs, pk_uLn, kup_Is, kup_In, kup_Js, kup_Jn, ku2_ku2, kup_I, kup_J, knar1, knar0]
  rw [r_dr1 (n := F 9) n9 (F 9 - 1 - k) k _ (by omega) (by rw [kup_Is, pk_us]), kup_I, kup_Is]
  conv => arg 1; simp (disch := first | assumption | omega | decide | exact bI_or _) only [k1.1, k1.2.1, k1.2.2.1, k1.2.2.2, hf, X12_drop_0, X12_drop_1, X12_drop_2, X12_drop_3, X12_drop_4, X12_drop_7, X12_drop_9, X12_drop_10, X12_drop_11, X12_drop_12, X12_drop_13, X12_drop_16b, X12_drop_19, X12_drop_20, X12_drop_21, X12_drop_22, X12_drop_25, X12_drop_26, X12_drop_29, X12_drop_31, X12_drop_32, X12_drop_35, X12_drop_37, X12_drop_38, X12_drop_39, X12_drop_40, X12_drop_41, X12_drop_42, X12_drop_44, X12_drop_45, X12_drop_48, X12_drop_50, X12_drop_51b, X12_drop_54, X12_drop_55, X12_drop_58, X12_drop_61, X12_drop_62, X12_drop_63, X12_drop_64, X12_drop_67, X12_drop_70, X12_drop_71, X12_drop_72, X12_drop_73, X12_drop_74, X12_drop_75, X12_drop_76, X12_drop_77, X12_drop_80, X12_drop_83, X12_drop_84, X12_drop_85, X12_drop_86, X12_drop_89, X12_drop_92, X12_drop_93, X12_drop_94, X12_drop_95, X12_drop_96, X12_drop_97, X12_drop_98, X12_drop_101, X12_drop_104, X12_drop_105, X12_drop_108, X12_drop_110, X12_drop_111, show (0 : Int64) = lN 0 from rfl, g13_0, ln_218, sn_218, show (9 : Int32) = nI 9 from rfl, show (1 : Int32) = nI 1 from rfl, show (0 : Int32) = nI 0 from rfl, ↓(show (-1 : Int32) = mI 1 from rfl), is_217, show (276 : Int32) = nI 276 from rfl, show (476 : Int32) = nI 476 from rfl, exLt_c1, exLt_c2, exEq_c, exLt_t, exLt_f, exEq_s, exEq_t, exEq_f, exLt_mn, exLt_nm, exEq_mn, exEq_nm, exEq_mm, exEq_xf, exLtL_t, exLtL_f, exEqL_t, exEqL_f, exB_t, exB_f, exSw_t, exSw_f, exSw_0, klz_f, klz_g, kieq_f, kdivL, kdivI, kmodL, kmodI, knIL, lN_i, nI_add, pk_mul, pk_sub, pk_subm, kad1, kad2, lN_add, lN_mul, lN_sub, kkl_i, kkl_l, kkl_r, kkl_0, Option.bind_some, Option.toList_some, Option.toList_none, List.cons_append, List.nil_append, if_true, if_false, eq_self, not_true_eq_false, not_false_eq_true, ku2_eq, ku2_ne, pk_us, pk_un, pk_uLs, pk_uLn, kup_Is, kup_In, kup_Js, kup_Jn, ku2_ku2, kup_I, kup_J, knar1, knar0]
  have e9 : (if 276 + k ≤ 9 ∧ 9 < 275 + F 9 then upd (I 218) 9 (nI (F 9 - 1)) (9 + 1) else if 476 + k ≤ 9 ∧ 9 < 475 + F 9 then upd (I 218) 9 (nI (F 9 - 1)) (9 + 1) else nI (F 9 - 1)) = nI (F 9 - 1) := by rw [if_neg (by omega), if_neg (by omega)]
  refine Gd_rte ?_ ?_
  · rw [sp_drop, if_pos c1]
    (repeat' split) <;> first | rfl | (exfalso; omega)
  rw [ac_drop, if_pos c1, tN_nI (by omega)]
  refine RInv_act (G := drF F k) hR k1 hp (ok_drop hR.2.1 hk) (fun j hj => ?_)
  unfold drF upd
  by_cases c9 : j = 9
  · subst c9
    rw [if_neg (by omega), if_neg (by omega), if_pos rfl, if_pos rfl]
  · rw [if_neg c9, if_neg c9]
    by_cases d1 : 276 + k ≤ j ∧ j < 275 + F 9
    · rw [if_pos d1, if_pos d1]
    · rw [if_neg d1, if_neg d1]
      by_cases d2 : 476 + k ≤ j ∧ j < 475 + F 9
      · rw [if_pos d2, if_pos d2]
      · rw [if_neg d2, if_neg d2]; exact hf _ hj
theorem r_types {v : Int32} (hT : rTape i I T tc) (hc : tc + 4 ≤ 240) : Gd (rn (d + 1) mX12_types [.ref 217, .int v] (mH h i l I J nw df P)) (Rt h nw df P none fun i' l' I' J' => Kp [(217, 5)] [] [221] i i' l l' I I' J J' ∧ rTape i' I' (ty4 T tc v) (tc + 4)) := by
  have h5 := hT.1
  rw [X12_types_E]
  conv => arg 1; simp (disch := first | assumption | omega | decide | exact bI_or _) only [h5, X12_types_0, X12_types_1, X12_types_2, X12_types_3b, X12_types_6, X12_types_7, X12_types_10, X12_types_11, X12_types_14, X12_types_15, X12_types_17, X12_types_18, X12_types_19, X12_types_20, X12_types_21, X12_types_22, X12_types_23, X12_types_24, X12_types_27, X12_types_28, X12_types_29, X12_types_32, X12_types_35, X12_types_38, show (3 : Int32) = nI 3 from rfl, show (0 : Int32) = nI 0 from rfl, g13_4, ln_221, sn_221, g13_5, show (8 : Int32) = nI 8 from rfl, show (1 : Int32) = nI 1 from rfl, p13_5, ↓(show (-1 : Int32) = mI 1 from rfl), exLt_c1, exLt_c2, exEq_c, exLt_t, exLt_f, exEq_s, exEq_t, exEq_f, exLt_mn, exLt_nm, exEq_mn, exEq_nm, exEq_mm, exEq_xf, exLtL_t, exLtL_f, exEqL_t, exEqL_f, exB_t, exB_f, exSw_t, exSw_f, exSw_0, klz_f, klz_g, kieq_f, kdivL, kdivI, kmodL, kmodI, knIL, lN_i, nI_add, pk_mul, pk_sub, pk_subm, kad1, kad2, lN_add, lN_mul, lN_sub, kkl_i, kkl_l, kkl_r, kkl_0, Option.bind_some, Option.toList_some, Option.toList_none, List.cons_append, List.nil_append, if_true, if_false, eq_self, not_true_eq_false, not_false_eq_true, ku2_eq, ku2_ne, pk_us, pk_un, pk_uLs, pk_uLn, kup_Is, kup_In, kup_Js, kup_Jn, ku2_ku2, kup_I, kup_J, knar1, knar0]
  refine Gd_rt ⟨?_, ?_, ?_, ?_⟩
  · (repeat (first | exact Kp_refl | refine Kp_i ?_ (by decide) | refine Kp_l ?_ (by decide) | refine Kp_I ?_ (by decide) | refine Kp_J ?_ (by decide) | exact Kp_refl))
  · rw [ku2_eq]
  · omega
  · intro j hj
    have s1 : ∀ s : Nat, vp_nar .byte (v >>> (nI s &&& 31)).toInt8.toInt32 &&& 255 = nI (byt v s) ∧ byt v s < 256 := fun s => by
      have e1 : vp_nar .byte (v >>> (nI s &&& 31)).toInt8.toInt32 = (v >>> (nI s &&& 31)).toInt8.toInt32 := pk_vb _
      rw [e1]
      exact ⟨(i8_255 _).trans (byt_b v s).2, (byt_b v s).1⟩
    rw [kup_Is]
    unfold upd ty4
    rcases (show j < tc ∨ j = tc ∨ j = tc + 1 ∨ j = tc + 2 ∨ j = tc + 3 by omega) with z | z | z | z | z
    · rw [if_neg (by omega), if_neg (by omega), if_neg (by omega), if_neg (by omega), if_neg (by omega), if_neg (by omega), if_neg (by omega), if_neg (by omega)]
      exact hT.2.2 j z
    · rw [if_neg (by omega), if_neg (by omega), if_neg (by omega), if_pos z, if_pos z]
      exact s1 24
    · rw [if_neg (by omega), if_neg (by omega), if_pos z, if_neg (by omega), if_pos z]
      exact s1 16
    · rw [if_neg (by omega), if_pos (by omega), if_neg (by omega), if_neg (by omega), if_pos z]
      exact s1 8
    · rw [if_pos (by omega), if_neg (by omega), if_neg (by omega), if_neg (by omega), if_pos z]
      exact s1 0
theorem r_feed (hR : RInv i I F PS T tc) (a b c d_ e : Int32) : Gd (rn (d + 2) mX12_feed [.ref 217, .int a, .int b, .int c, .int d_, .int e] (mH h i l I J nw df P)) (Rt h nw df P (some (.int (if tc + 20 ≤ 240 then nI (tc + 20) else mI 1))) fun i' l' I' J' => FrR i i' l l' I I' J J' ∧ RInv i' I' F PS (if tc + 20 ≤ 240 then fedT T tc a b c d_ e else T) (if tc + 20 ≤ 240 then tc + 20 else tc)) := by
  obtain ⟨h1, h2, h3, h4, h5, h6⟩ := hR
  have ht := h5.1
  have ht2 := h5.2.1
  rw [X12_feed_E]
  by_cases c1 : tc + 20 ≤ 240
  case neg =>
    conv => arg 1; simp (disch := first | assumption | omega | decide | exact bI_or _) only [ht, X12_feed_0, X12_feed_1, X12_feed_4, X12_feed_6, X12_feed_7, X12_feed_10b, X12_feed_13, X12_feed_14, X12_feed_15, X12_feed_16, X12_feed_17, X12_feed_20, X12_feed_21, X12_feed_22, X12_feed_25, X12_feed_26, X12_feed_27, X12_feed_30, X12_feed_31, X12_feed_33, X12_feed_36, X12_feed_37, X12_feed_39, X12_feed_42, X12_feed_43, X12_feed_46, g13_5, show (20 : Int32) = nI 20 from rfl, show (240 : Int32) = nI 240 from rfl, ↓(show (-1 : Int32) = mI 1 from rfl), is_217, exLt_c1, exLt_c2, exEq_c, exLt_t, exLt_f, exEq_s, exEq_t, exEq_f, exLt_mn, exLt_nm, exEq_mn, exEq_nm, exEq_mm, exEq_xf, exLtL_t, exLtL_f, exEqL_t, exEqL_f, exB_t, exB_f, exSw_t, exSw_f, exSw_0, klz_f, klz_g, kieq_f, kdivL, kdivI, kmodL, kmodI, knIL, lN_i, nI_add, pk_mul, pk_sub, pk_subm, kad1, kad2, lN_add, lN_mul, lN_sub, kkl_i, kkl_l, kkl_r, kkl_0, Option.bind_some, Option.toList_some, Option.toList_none, List.cons_append, List.nil_append, if_true, if_false, eq_self, not_true_eq_false, not_false_eq_true, ku2_eq, ku2_ne, pk_us, pk_un, pk_uLs, pk_uLn, kup_Is, kup_In, kup_Js, kup_Jn, ku2_ku2, kup_I, kup_J, knar1, knar0]
    rw [if_neg c1, if_neg c1, if_neg c1]
    exact Gd_rt ⟨FrR_refl, h1, h2, h3, h4, h5, h6⟩
  conv => arg 1; simp (disch := first | assumption | omega | decide | exact bI_or _) only [ht, X12_feed_0, X12_feed_1, X12_feed_4, X12_feed_6, X12_feed_7, X12_feed_10b, X12_feed_13, X12_feed_14, X12_feed_15, X12_feed_16, X12_feed_17, X12_feed_20, X12_feed_21, X12_feed_22, X12_feed_25, X12_feed_26, X12_feed_27, X12_feed_30, X12_feed_31, X12_feed_33, X12_feed_36, X12_feed_37, X12_feed_39, X12_feed_42, X12_feed_43, X12_feed_46, g13_5, show (20 : Int32) = nI 20 from rfl, show (240 : Int32) = nI 240 from rfl, ↓(show (-1 : Int32) = mI 1 from rfl), is_217, exLt_c1, exLt_c2, exEq_c, exLt_t, exLt_f, exEq_s, exEq_t, exEq_f, exLt_mn, exLt_nm, exEq_mn, exEq_nm, exEq_mm, exEq_xf, exLtL_t, exLtL_f, exEqL_t, exEqL_f, exB_t, exB_f, exSw_t, exSw_f, exSw_0, klz_f, klz_g, kieq_f, kdivL, kdivI, kmodL, kmodI, knIL, lN_i, nI_add, pk_mul, pk_sub, pk_subm, kad1, kad2, lN_add, lN_mul, lN_sub, kkl_i, kkl_l, kkl_r, kkl_0, Option.bind_some, Option.toList_some, Option.toList_none, List.cons_append, List.nil_append, if_true, if_false, eq_self, not_true_eq_false, not_false_eq_true, ku2_eq, ku2_ne, pk_us, pk_un, pk_uLs, pk_uLn, kup_Is, kup_In, kup_Js, kup_Jn, ku2_ku2, kup_I, kup_J, knar1, knar0]
  refine Gd_call (r_types h5 (by omega)) ?_
  intro i1 l1 I1 J1 ⟨k1, t1⟩
  conv => arg 1; simp (disch := first | assumption | omega | decide | exact bI_or _) only [X12_feed_0, X12_feed_1, X12_feed_4, X12_feed_6, X12_feed_7, X12_feed_10b, X12_feed_13, X12_feed_14, X12_feed_15, X12_feed_16, X12_feed_17, X12_feed_20, X12_feed_21, X12_feed_22, X12_feed_25, X12_feed_26, X12_feed_27, X12_feed_30, X12_feed_31, X12_feed_33, X12_feed_36, X12_feed_37, X12_feed_39, X12_feed_42, X12_feed_43, X12_feed_46, g13_5, show (20 : Int32) = nI 20 from rfl, show (240 : Int32) = nI 240 from rfl, ↓(show (-1 : Int32) = mI 1 from rfl), is_217, exLt_c1, exLt_c2, exEq_c, exLt_t, exLt_f, exEq_s, exEq_t, exEq_f, exLt_mn, exLt_nm, exEq_mn, exEq_nm, exEq_mm, exEq_xf, exLtL_t, exLtL_f, exEqL_t, exEqL_f, exB_t, exB_f, exSw_t, exSw_f, exSw_0, klz_f, klz_g, kieq_f, kdivL, kdivI, kmodL, kmodI, knIL, lN_i, nI_add, pk_mul, pk_sub, pk_subm, kad1, kad2, lN_add, lN_mul, lN_sub, kkl_i, kkl_l, kkl_r, kkl_0, Option.bind_some, Option.toList_some, Option.toList_none, List.cons_append, List.nil_append, if_true, if_false, eq_self, not_true_eq_false, not_false_eq_true, ku2_eq, ku2_ne, pk_us, pk_un, pk_uLs, pk_uLn, kup_Is, kup_In, kup_Js, kup_Jn, ku2_ku2, kup_I, kup_J, knar1, knar0]
  refine Gd_call (r_types t1 (by omega)) ?_
  intro i2 l2 I2 J2 ⟨k2, t2⟩
  conv => arg 1; simp (disch := first | assumption | omega | decide | exact bI_or _) only [X12_feed_0, X12_feed_1, X12_feed_4, X12_feed_6, X12_feed_7, X12_feed_10b, X12_feed_13, X12_feed_14, X12_feed_15, X12_feed_16, X12_feed_17, X12_feed_20, X12_feed_21, X12_feed_22, X12_feed_25, X12_feed_26, X12_feed_27, X12_feed_30, X12_feed_31, X12_feed_33, X12_feed_36, X12_feed_37, X12_feed_39, X12_feed_42, X12_feed_43, X12_feed_46, g13_5, show (20 : Int32) = nI 20 from rfl, show (240 : Int32) = nI 240 from rfl, ↓(show (-1 : Int32) = mI 1 from rfl), is_217, exLt_c1, exLt_c2, exEq_c, exLt_t, exLt_f, exEq_s, exEq_t, exEq_f, exLt_mn, exLt_nm, exEq_mn, exEq_nm, exEq_mm, exEq_xf, exLtL_t, exLtL_f, exEqL_t, exEqL_f, exB_t, exB_f, exSw_t, exSw_f, exSw_0, klz_f, klz_g, kieq_f, kdivL, kdivI, kmodL, kmodI, knIL, lN_i, nI_add, pk_mul, pk_sub, pk_subm, kad1, kad2, lN_add, lN_mul, lN_sub, kkl_i, kkl_l, kkl_r, kkl_0, Option.bind_some, Option.toList_some, Option.toList_none, List.cons_append, List.nil_append, if_true, if_false, eq_self, not_true_eq_false, not_false_eq_true, ku2_eq, ku2_ne, pk_us, pk_un, pk_uLs, pk_uLn, kup_Is, kup_In, kup_Js, kup_Jn, ku2_ku2, kup_I, kup_J, knar1, knar0]
  refine Gd_call (r_types t2 (by omega)) ?_
  intro i3 l3 I3 J3 ⟨k3, t3⟩
  conv => arg 1; simp (disch := first | assumption | omega | decide | exact bI_or _) only [X12_feed_0, X12_feed_1, X12_feed_4, X12_feed_6, X12_feed_7, X12_feed_10b, X12_feed_13, X12_feed_14, X12_feed_15, X12_feed_16, X12_feed_17, X12_feed_20, X12_feed_21, X12_feed_22, X12_feed_25, X12_feed_26, X12_feed_27, X12_feed_30, X12_feed_31, X12_feed_33, X12_feed_36, X12_feed_37, X12_feed_39, X12_feed_42, X12_feed_43, X12_feed_46, g13_5, show (20 : Int32) = nI 20 from rfl, show (240 : Int32) = nI 240 from rfl, ↓(show (-1 : Int32) = mI 1 from rfl), is_217, exLt_c1, exLt_c2, exEq_c, exLt_t, exLt_f, exEq_s, exEq_t, exEq_f, exLt_mn, exLt_nm, exEq_mn, exEq_nm, exEq_mm, exEq_xf, exLtL_t, exLtL_f, exEqL_t, exEqL_f, exB_t, exB_f, exSw_t, exSw_f, exSw_0, klz_f, klz_g, kieq_f, kdivL, kdivI, kmodL, kmodI, knIL, lN_i, nI_add, pk_mul, pk_sub, pk_subm, kad1, kad2, lN_add, lN_mul, lN_sub, kkl_i, kkl_l, kkl_r, kkl_0, Option.bind_some, Option.toList_some, Option.toList_none, List.cons_append, List.nil_append, if_true, if_false, eq_self, not_true_eq_false, not_false_eq_true, ku2_eq, ku2_ne, pk_us, pk_un, pk_uLs, pk_uLn, kup_Is, kup_In, kup_Js, kup_Jn, ku2_ku2, kup_I, kup_J, knar1, knar0]
  refine Gd_call (r_types t3 (by omega)) ?_
  intro i4 l4 I4 J4 ⟨k4, t4⟩
  conv => arg 1; simp (disch := first | assumption | omega | decide | exact bI_or _) only [X12_feed_0, X12_feed_1, X12_feed_4, X12_feed_6, X12_feed_7, X12_feed_10b, X12_feed_13, X12_feed_14, X12_feed_15, X12_feed_16, X12_feed_17, X12_feed_20, X12_feed_21, X12_feed_22, X12_feed_25, X12_feed_26, X12_feed_27, X12_feed_30, X12_feed_31, X12_feed_33, X12_feed_36, X12_feed_37, X12_feed_39, X12_feed_42, X12_feed_43, X12_feed_46, g13_5, show (20 : Int32) = nI 20 from rfl, show (240 : Int32) = nI 240 from rfl, ↓(show (-1 : Int32) = mI 1 from rfl), is_217, exLt_c1, exLt_c2, exEq_c, exLt_t, exLt_f, exEq_s, exEq_t, exEq_f, exLt_mn, exLt_nm, exEq_mn, exEq_nm, exEq_mm, exEq_xf, exLtL_t, exLtL_f, exEqL_t, exEqL_f, exB_t, exB_f, exSw_t, exSw_f, exSw_0, klz_f, klz_g, kieq_f, kdivL, kdivI, kmodL, kmodI, knIL, lN_i, nI_add, pk_mul, pk_sub, pk_subm, kad1, kad2, lN_add, lN_mul, lN_sub, kkl_i, kkl_l, kkl_r, kkl_0, Option.bind_some, Option.toList_some, Option.toList_none, List.cons_append, List.nil_append, if_true, if_false, eq_self, not_true_eq_false, not_false_eq_true, ku2_eq, ku2_ne, pk_us, pk_un, pk_uLs, pk_uLn, kup_Is, kup_In, kup_Js, kup_Jn, ku2_ku2, kup_I, kup_J, knar1, knar0]
  refine Gd_call (r_types t4 (by omega)) ?_
  intro i5 l5 I5 J5 ⟨k5, t5⟩
  have ht5 := t5.1
  have k6 := Kp_trans k1 (Kp_trans k2 (Kp_trans k3 (Kp_trans k4 k5)))
  conv => arg 1; simp (disch := first | assumption | omega | decide | exact bI_or _) only [ht5, X12_feed_0, X12_feed_1, X12_feed_4, X12_feed_6, X12_feed_7, X12_feed_10b, X12_feed_13, X12_feed_14, X12_feed_15, X12_feed_16, X12_feed_17, X12_feed_20, X12_feed_21, X12_feed_22, X12_feed_25, X12_feed_26, X12_feed_27, X12_feed_30, X12_feed_31, X12_feed_33, X12_feed_36, X12_feed_37, X12_feed_39, X12_feed_42, X12_feed_43, X12_feed_46, g13_5, show (20 : Int32) = nI 20 from rfl, show (240 : Int32) = nI 240 from rfl, ↓(show (-1 : Int32) = mI 1 from rfl), is_217, exLt_c1, exLt_c2, exEq_c, exLt_t, exLt_f, exEq_s, exEq_t, exEq_f, exLt_mn, exLt_nm, exEq_mn, exEq_nm, exEq_mm, exEq_xf, exLtL_t, exLtL_f, exEqL_t, exEqL_f, exB_t, exB_f, exSw_t, exSw_f, exSw_0, klz_f, klz_g, kieq_f, kdivL, kdivI, kmodL, kmodI, knIL, lN_i, nI_add, pk_mul, pk_sub, pk_subm, kad1, kad2, lN_add, lN_mul, lN_sub, kkl_i, kkl_l, kkl_r, kkl_0, Option.bind_some, Option.toList_some, Option.toList_none, List.cons_append, List.nil_append, if_true, if_false, eq_self, not_true_eq_false, not_false_eq_true, ku2_eq, ku2_ne, pk_us, pk_un, pk_uLs, pk_uLn, kup_Is, kup_In, kup_Js, kup_Jn, ku2_ku2, kup_I, kup_J, knar1, knar0]
  rw [if_pos c1, if_pos c1, if_pos c1]
  exact Gd_rt ⟨FrR_of k6 (by decide) (by decide) (by decide), h1.c (k6.2.2.1 _ (by decide)), h2, h3.c (k6.1 _ _ (by decide)) (k6.2.2.1 _ (by decide)), h4, t5, h6.c (k6.2.2.1 _ (by decide))⟩
end RH
