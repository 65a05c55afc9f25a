/-! OWN: what is seen: the mathematics, the reference -/
def okSt (F : Nat → Nat) : Prop := F 11 ≤ 10 ∧ ∀ k, k < F 11 → okLet (F (36 + 2 * k)) (F (37 + 2 * k))
/-- the knocks of a file -/
def knL (F : Nat → Nat) : List (Nat × Nat) := (List.range (F 9)).map fun j => (F (276 + j), F (476 + j))
def seenL (F : Nat → Nat) : List (Nat × Nat) := fAll F (F 11) 0 (knL F)
def tkOf (L : List (Nat × Nat)) (j : Nat) : Nat := (L.getD j (0, 0)).1
theorem knL_len (F : Nat → Nat) : (knL F).length = F 9 := by simp [knL]
theorem fAll_ok {F : Nat → Nat} (ok : okSt F) : ∀ (m k B : Nat) (L : List (Nat × Nat)), k + m = F 11 → okK B L → okK (B + 99 * m) (fAll F m k L)
  | 0, k, B, L, _, h => h
  | m + 1, k, B, L, hk, h => by
    have := fAll_ok ok m (k + 1) (B + 99) _ (by omega) (fgo_ok (ok.2 k (by omega)) h)
    rw [fAll, show B + 99 * (m + 1) = B + 99 + 99 * m by omega]
    exact this
theorem seenL_ok {F : Nat → Nat} (ok : okSt F) (hK : okK 99999 (knL F)) : okK 100989 (seenL F) := by
  have h1 := fAll_ok ok (F 11) 0 99999 (knL F) (by omega) hK
  have := ok.1
  refine ⟨h1.1, fun y hy => Nat.le_trans (h1.2.1 y hy) (by omega), h1.2.2⟩
section RS
variable {d : Nat} {h : kH} {i : Nat → Nat → Int32} {l : Nat → Nat → Int64} {I : Nat → Nat → Int32} {J : Nat → Nat → Int64} {nw df : Nat} {P : Nat → Nat}
theorem rFile.up {F : Nat → Nat} (hF : rFile I F) {q : Nat} (hq : q ≠ 218) (f : Nat → Int32) : rFile (va_up I q f) F := fun j hj => by rw [kup_In (fun e => hq e.symm)]; exact hF j hj
theorem r_se1 {F : Nat → Nat} {n : Nat} (hn : n ≤ 200) (hm : i 217 22 = nI n) : ∀ (m k : Nat) (I : Nat → Nat → Int32), rFile I F → k + m = n → ∃ T S : Nat → Int32, ex (d + 2) mX12_sees 13 [some (.ref 217), some (.int (nI k))] [] (mH h i l I J nw df P) = ex (d + 2) mX12_sees 59 [some (.ref 217), some (.int (nI n))] [] (mH h i l (va_up (va_up I 226 T) 227 S) J nw df P) ∧ (∀ j, j < k → T j = I 226 j ∧ S j = I 227 j) ∧ ∀ j, k ≤ j → j < n → T j = nI (F (276 + j)) ∧ S j = nI (F (476 + j))
  | 0, k, I, hF, hk => by
    have hk : k = n := hk
    subst hk
    refine ⟨I 226, I 227, ?_, fun j _ => ⟨rfl, rfl⟩, fun j h1 h2 => by omega⟩
    rw [kup_two rfl rfl, X12_sees_13]
    simp only [X12_sees_14, X12_sees_15, X12_sees_18, g13_22, hm, Option.bind_some]
    rw [if_pos (nI_le (Nat.le_refl k) (by omega))]
  | m + 1, k, I, hF, hk => by
    have ck : ¬ nI n ≤ nI k := nI_ge (by omega) (by omega)
    have e1 : (276 : Int32) + nI k = nI (276 + k) := by rw [show (276 : Int32) = nI 276 from rfl, nI_add]
    have e2 : (476 : Int32) + nI k = nI (476 + k) := by rw [show (476 : Int32) = nI 476 from rfl, nI_add]
    obtain ⟨T, S, e, q1, q2⟩ := r_se1 hn hm m (k + 1) (va_up (va_up I 226 (upd (I 226) k (nI (F (276 + k))))) 227 (upd (I 227) k (nI (F (476 + k))))) ((hF.up (by decide) _).up (by decide) _) (by omega)
    refine ⟨T, S, ?_, ?_, ?_⟩
    · rw [X12_sees_13]
      conv => lhs; simp (disch := omega) only [X12_sees_0, X12_sees_1, X12_sees_2, X12_sees_5, X12_sees_7, X12_sees_8, X12_sees_11, X12_sees_12, X12_sees_14, X12_sees_15, X12_sees_18, X12_sees_21, X12_sees_22, X12_sees_25, X12_sees_26, X12_sees_27, X12_sees_30, X12_sees_33, X12_sees_34, X12_sees_35, X12_sees_36, X12_sees_37, X12_sees_38, X12_sees_41, X12_sees_42, X12_sees_43, X12_sees_46, X12_sees_49, X12_sees_50, X12_sees_51, X12_sees_52, X12_sees_53, X12_sees_56, X12_sees_60, X12_sees_61, X12_sees_62, X12_sees_63, X12_sees_66, X12_sees_68, X12_sees_69, X12_sees_72, X12_sees_73, X12_sees_74, X12_sees_77, X12_sees_79, X12_sees_80, X12_sees_81, X12_sees_82, X12_sees_83, X12_sees_84, X12_sees_85, X12_sees_88, X12_sees_90, X12_sees_91, X12_sees_92, X12_sees_93, X12_sees_94, X12_sees_95, X12_sees_96, X12_sees_97, X12_sees_100, X12_sees_103, X12_sees_106, X12_sees_107, X12_sees_108, X12_sees_109, X12_sees_110, X12_sees_113, X12_sees_116, X12_sees_117, X12_sees_120, X12_sees_121, X12_sees_122, X12_sees_123, X12_sees_126, X12_sees_127, X12_sees_128, X12_sees_131, X12_sees_132, X12_sees_135, X12_sees_138, g13_0, g13_19, g13_20, g13_22, hm, if_neg ck, e1, e2, lf_218 hF (show 276 + k < 676 by omega), lf_218 (hF.up (q := 226) (by decide) _) (show 476 + k < 676 by omega), sn_226, sn_227, kup_In (show (227 : Nat) ≠ 226 by decide), kkl_r, nI_1, Option.bind_some]
      rw [e, kup_com (va_up I 226 (upd (I 226) k (nI (F (276 + k))))) (upd (I 227) k (nI (F (476 + k)))) T (show (226 : Nat) ≠ 227 by decide), kup_I, kup_I]
    · intro j hj
      have := q1 j (by omega)
      rw [kup_Is, kup_In (by decide), kup_Is] at this
      unfold upd at this
      rw [if_neg (by omega), if_neg (by omega)] at this
      exact this
    · intro j h1 h2
      by_cases hj : j = k
      · subst hj
        have := q1 j (by omega)
        rw [kup_Is, kup_In (by decide), kup_Is] at this
        unfold upd at this
        rw [if_pos rfl, if_pos rfl] at this
        exact this
      · exact q2 j (by omega) h2
theorem r_se2 {F : Nat → Nat} (ok : okSt F) : ∀ (m k B : Nat) (L : List (Nat × Nat)) (i : Nat → Nat → Int32) (I : Nat → Nat → Int32), rFile I F → k + m = F 11 → i 217 22 = nI L.length → kRw (I 226) (I 227) 0 L → okK B L → B ≤ 99999 + 99 * k → ∃ T S : Nat → Int32, ex (d + 2) mX12_sees 61 [some (.ref 217), some (.int (nI k))] [] (mH h i l I J nw df P) = ex (d + 2) mX12_sees 106 [some (.ref 217), some (.int (nI (F 11)))] [] (mH h (ku2 i 217 22 (nI (fAll F m k L).length)) l (va_up (va_up I 226 T) 227 S) J nw df P) ∧ kRw T S 0 (fAll F m k L)
  | 0, k, B, L, i, I, hF, hk, hm, hR, hL, hB => by
    have hk : k = F 11 := hk
    subst hk
    have h11 := ok.1
    refine ⟨I 226, I 227, ?_, hR⟩
    rw [kup_two rfl rfl, X12_sees_61, fAll, ku2_self hm]
    simp only [X12_sees_62, X12_sees_63, X12_sees_66, X12_sees_68, X12_sees_69, g13_0, show (11 : Int32) = nI 11 from rfl, lf_218 hF (show 11 < 676 by decide), Option.bind_some]
    rw [if_pos (nI_le (Nat.le_refl _) (by omega))]
  | m + 1, k, B, L, i, I, hF, hk, hm, hR, hL, hB => by
    have h11 := ok.1
    have hlet := ok.2 k (by omega)
    have ck : ¬ nI (F 11) ≤ nI k := nI_ge (by omega) (by omega)
    have e1 : (36 : Int32) + 2 * nI k = nI (36 + 2 * k) := by rw [show (36 : Int32) = nI 36 from rfl, show (2 : Int32) = nI 2 from rfl, pk_mul, nI_add]
    have e2 : nI (36 + 2 * k) + (1 : Int32) = nI (37 + 2 * k) := by rw [nI_1]; congr 1; omega
    have hpw : L.Pairwise (fun x y => x.1 ≤ y.1) := by
      have := hL.2.2.2
      rw [List.pairwise_map] at this
      exact this.imp (fun z => Nat.le_of_lt z)
    obtain ⟨T1, S1, g1, g2⟩ := r_goesThrough (d := d) (h := h) (i := i) (l := l) (I := I) (J := J) (nw := nw) (df := df) (P := P) hlet hL.1 hm hR (fun x hx => ⟨by have := hL.2.1 x hx; omega, by have := hL.2.2.1 x hx; omega⟩) hpw
    obtain ⟨T, S, e, q⟩ := r_se2 ok m (k + 1) (B + 99) (fgo (F (36 + 2 * k)) (F (37 + 2 * k)) L 0 []) (ku2 i 217 22 (nI (fgo (F (36 + 2 * k)) (F (37 + 2 * k)) L 0 []).length)) (va_up (va_up I 226 T1) 227 S1) ((hF.up (by decide) _).up (by decide) _) (by omega) (ku2_eq _ _ _ _) (by rw [kup_Is, kup_In (by decide), kup_Is]; exact g2) (fgo_ok hlet hL) (by omega)
    refine ⟨T, S, ?_, q⟩
    rw [X12_sees_61, fAll]
    conv => lhs; simp (disch := omega) only [X12_sees_0, X12_sees_1, X12_sees_2, X12_sees_5, X12_sees_7, X12_sees_8, X12_sees_11, X12_sees_12, X12_sees_13, X12_sees_14, X12_sees_15, X12_sees_18, X12_sees_21, X12_sees_22, X12_sees_25, X12_sees_26, X12_sees_27, X12_sees_30, X12_sees_33, X12_sees_34, X12_sees_35, X12_sees_36, X12_sees_37, X12_sees_38, X12_sees_41, X12_sees_42, X12_sees_43, X12_sees_46, X12_sees_49, X12_sees_50, X12_sees_51, X12_sees_52, X12_sees_53, X12_sees_56, X12_sees_59, X12_sees_60, X12_sees_62, X12_sees_63, X12_sees_66, X12_sees_68, X12_sees_69, X12_sees_72, X12_sees_73, X12_sees_74, X12_sees_77, X12_sees_79, X12_sees_80, X12_sees_81, X12_sees_82, X12_sees_83, X12_sees_84, X12_sees_85, X12_sees_88, X12_sees_90, X12_sees_91, X12_sees_92, X12_sees_93, X12_sees_94, X12_sees_95, X12_sees_96, X12_sees_97, X12_sees_100, X12_sees_103, X12_sees_107, X12_sees_108, X12_sees_109, X12_sees_110, X12_sees_113, X12_sees_116, X12_sees_117, X12_sees_120, X12_sees_121, X12_sees_122, X12_sees_123, X12_sees_126, X12_sees_127, X12_sees_128, X12_sees_131, X12_sees_132, X12_sees_135, X12_sees_138, g13_0, show (11 : Int32) = nI 11 from rfl, lf_218 hF (show 11 < 676 by decide), lf_218 hF (show 36 + 2 * k < 676 by omega), lf_218 hF (show 37 + 2 * k < 676 by omega), if_neg ck, e1, e2, is_217, if_true, g1, kkl_r, nI_1, Option.bind_some, Option.toList_none, List.nil_append]
    rw [e, ku2_ku2, kup_com (va_up I 226 T1) S1 T (show (226 : Nat) ≠ 227 by decide), kup_I, kup_I]
theorem r_se3 {F : Nat → Nat} (hF : rFile I F) (okS : okSp F) {n : Nat} {tk : Nat → Nat} (hn : n ≤ 200) (hm : i 217 22 = nI n) (hT : ∀ j, j < n → I 226 j = nI (tk j) ∧ tk j < 1000000) : ∀ (m k : Nat) (J : Nat → Nat → Int64), k + m = n → ex (d + 2) mX12_sees 108 [some (.ref 217), some (.int (nI k))] [] (mH h i l I J nw df P) = some (none, mH h i l I (va_up J 228 (fun j => if k ≤ j ∧ j < n then lN (ang F (tk j)) else J 228 j)) nw df P)
  | 0, k, J, hk => by
    have hk : k = n := hk
    subst hk
    simp only [X12_sees_108, X12_sees_109, X12_sees_110, X12_sees_113, X12_sees_138, g13_22, hm, Option.bind_some]
    rw [if_pos (nI_le (Nat.le_refl k) (by omega)), kup_Ji (fun j => if_neg (by omega))]
  | m + 1, k, J, hk => by
    have ck : ¬ nI n ≤ nI k := nI_ge (by omega) (by omega)
    have ht := hT k (by omega)
    rw [X12_sees_108]
    conv => lhs; simp (disch := omega) only [X12_sees_0, X12_sees_1, X12_sees_2, X12_sees_5, X12_sees_7, X12_sees_8, X12_sees_11, X12_sees_12, X12_sees_13, X12_sees_14, X12_sees_15, X12_sees_18, X12_sees_21, X12_sees_22, X12_sees_25, X12_sees_26, X12_sees_27, X12_sees_30, X12_sees_33, X12_sees_34, X12_sees_35, X12_sees_36, X12_sees_37, X12_sees_38, X12_sees_41, X12_sees_42, X12_sees_43, X12_sees_46, X12_sees_49, X12_sees_50, X12_sees_51, X12_sees_52, X12_sees_53, X12_sees_56, X12_sees_59, X12_sees_60, X12_sees_61, X12_sees_62, X12_sees_63, X12_sees_66, X12_sees_68, X12_sees_69, X12_sees_72, X12_sees_73, X12_sees_74, X12_sees_77, X12_sees_79, X12_sees_80, X12_sees_81, X12_sees_82, X12_sees_83, X12_sees_84, X12_sees_85, X12_sees_88, X12_sees_90, X12_sees_91, X12_sees_92, X12_sees_93, X12_sees_94, X12_sees_95, X12_sees_96, X12_sees_97, X12_sees_100, X12_sees_103, X12_sees_106, X12_sees_107, X12_sees_109, X12_sees_110, X12_sees_113, X12_sees_116, X12_sees_117, X12_sees_120, X12_sees_121, X12_sees_122, X12_sees_123, X12_sees_126, X12_sees_127, X12_sees_128, X12_sees_131, X12_sees_132, X12_sees_135, X12_sees_138, g13_19, g13_21, g13_22, hm, if_neg ck, ln_226, ht.1, is_217, if_true, r_angleOf hF okS ht.2, sn_228, kkl_r, nI_1, Option.bind_some, Option.toList_some, List.cons_append, List.nil_append]
    rw [r_se3 hF okS hn hm hT m (k + 1) _ (by omega), kup_J, kup_Js]
    congr 4
    funext j
    unfold vp_updL
    by_cases hj : j = k
    · subst hj
      rw [if_neg (by omega), if_pos rfl, if_pos (by omega)]
    · (repeat' split) <;> first | rfl | (exfalso; omega)
end RS
