/-! OWN: the class: angles -/
section CG
variable {d : Nat} {h : kH} {i : Nat → Nat → Int32} {l : Nat → Nat → Int64} {I : Nat → Nat → Int32} {J : Nat → Nat → Int64} {nw df : Nat} {P : Nat → Nat}
/-- spans at q, as a file has them -/
def cSp (i : Nat → Nat → Int32) (I : Nat → Nat → Int32) (q : Nat) (F : Nat → Nat) : Prop := i q 2 = nI (F 10) ∧ ∀ k, k < F 10 → I (q + 1) k = nI (F (16 + 2 * k)) ∧ I (q + 2) k = nI (F (17 + 2 * k))
abbrev isSp (q : Nat) : Prop := 32 ≤ q ∧ kd q = (7, 0) ∧ kd (q + 1) = (20, 10) ∧ kd (q + 2) = (20, 10)
theorem m_iln {q n a : Nat} (hq : kd q = (20, n)) (h32 : 32 ≤ q) (ha : a < n) (hn : n < 2 ^ 31) : kil (mH h i l I J nw df P) q (nI a) = some (I q a) := by rw [m_il hq h32, if_pos (nI_kin ha hn), nI_clamp (by omega)]
theorem m_isn {q n a : Nat} {v : Int32} (hq : kd q = (20, n)) (h32 : 32 ≤ q) (ha : a < n) (hn : n < 2 ^ 31) : kis_ (mH h i l I J nw df P) q (nI a) v = some (mH h i l (va_up I q (upd (I q) a v)) J nw df P) := by rw [m_is_ hq h32, if_pos (nI_kin ha hn), nI_clamp (by omega)]
theorem c_ang1 {F : Nat → Nat} {q : Nat} (hq : isSp q) (hF : cSp i I q F) (ok : okSp F) {t : Nat} (ht : t < 1000000) {a2 : Option Value} : ∀ (m k s fr tu : Nat), k + m = F 10 → fr ≤ t → (20 ≤ tu ∧ tu ≤ 5000) → (∀ j, k ≤ j → j < F 10 → fr ≤ F (16 + 2 * j)) → ex (d + 1) mX6_angleOf 15 [some (.ref q), some (.int (nI t)), a2, some (.long (lN s)), none, some (.int (nI fr)), some (.int (nI tu)), some (.int (nI k))] [] (mH h i l I J nw df P) = some (some (.long (lN (s + angR F t m k fr tu))), mH h i l I J nw df P)
  | 0, k, s, fr, tu, hk, h1, h2, h3 => by
    have h10 := ok.1
    have c1 : nI (F 10) ≤ nI k := nI_le (by omega) (by omega)
    have e1 : (nI (t - fr)).toInt64 = lN (t - fr) := nI_l (by omega)
    have e2 : (nI tu).toInt64 = lN tu := nI_l (by omega)
    have e3 : ¬ lN tu = 0 := fun z => by have := (pk_lEQ (a := tu) (b := 0) (by omega) (by omega)).mp z; omega
    rw [X6_angleOf_15]
    simp only [X6_angleOf_0, X6_angleOf_1, X6_angleOf_2, X6_angleOf_3, X6_angleOf_5, X6_angleOf_6, X6_angleOf_7, X6_angleOf_10, X6_angleOf_12, X6_angleOf_13, X6_angleOf_17, X6_angleOf_18, X6_angleOf_21, X6_angleOf_24, X6_angleOf_25, X6_angleOf_28, X6_angleOf_30, X6_angleOf_31, X6_angleOf_32, X6_angleOf_35, X6_angleOf_36, X6_angleOf_37, X6_angleOf_40, X6_angleOf_42, X6_angleOf_43, X6_angleOf_45, X6_angleOf_46, X6_angleOf_47, X6_angleOf_50, X6_angleOf_51, X6_angleOf_53, X6_angleOf_54, X6_angleOf_55, X6_angleOf_56, X6_angleOf_57, X6_angleOf_58, X6_angleOf_61, X6_angleOf_63, X6_angleOf_64, X6_angleOf_66, X6_angleOf_67, X6_angleOf_68, X6_angleOf_71, X6_angleOf_73, X6_angleOf_74, X6_angleOf_77, X6_angleOf_79, X6_angleOf_82, X6_angleOf_85, X6_angleOf_86, X6_angleOf_87, X6_angleOf_89, X6_angleOf_90, X6_angleOf_91, X6_angleOf_94, X6_angleOf_95, X6_angleOf_97, X6_angleOf_98, X6_angleOf_99, X6_angleOf_100, g7_2 hq.2.1 hq.1, hF.1, Option.bind_some, if_pos c1, pk_sub h1, e1, e2, if_neg e3, ang_div _ _ (show t - fr < 1000000 by omega) h2, lN_add, angR]
  | m + 1, k, s, fr, tu, hk, h1, h2, h3 => by
    have h10 := ok.1
    have hkn : k < F 10 := by omega
    have hsp := ok.2.1 k hkn
    have hfk := h3 k (Nat.le_refl _) hkn
    have hk2 := hF.2 k hkn
    have c1 : ¬ nI (F 10) ≤ nI k := nI_ge (by omega) (by omega)
    have e2 : (nI tu).toInt64 = lN tu := nI_l (by omega)
    have e3 : ¬ lN tu = 0 := fun z => by have := (pk_lEQ (a := tu) (b := 0) (by omega) (by omega)).mp z; omega
    have r1 : kil (mH h i l I J nw df P) (q + 1) (nI k) = some (nI (F (16 + 2 * k))) := by rw [m_iln hq.2.2.1 (by have := hq.1; omega) (by omega) (by decide), hk2.1]
    have r2 : kil (mH h i l I J nw df P) (q + 2) (nI k) = some (nI (F (17 + 2 * k))) := by rw [m_iln hq.2.2.2 (by have := hq.1; omega) (by omega) (by decide), hk2.2]
    rw [X6_angleOf_15, angR]
    by_cases hlt : F (16 + 2 * k) < t
    · have c2 : ¬ nI t ≤ nI (F (16 + 2 * k)) := nI_ge (by omega) (by omega)
      have c3 : (if (1 : Int32) < nI (F (17 + 2 * k)) then nI (F (17 + 2 * k)) else 1) = nI (F (17 + 2 * k)) := if_pos (nI_lt (a := 1) (by omega) (by omega))
      have e5 : (nI (F (16 + 2 * k) - fr)).toInt64 = lN (F (16 + 2 * k) - fr) := nI_l (by omega)
      rw [if_pos hlt]
      conv => lhs; simp only [X6_angleOf_0, X6_angleOf_1, X6_angleOf_2, X6_angleOf_3, X6_angleOf_5, X6_angleOf_6, X6_angleOf_7, X6_angleOf_10, X6_angleOf_12, X6_angleOf_13, X6_angleOf_17, X6_angleOf_18, X6_angleOf_21, X6_angleOf_24, X6_angleOf_25, X6_angleOf_28, X6_angleOf_30, X6_angleOf_31, X6_angleOf_32, X6_angleOf_35, X6_angleOf_36, X6_angleOf_37, X6_angleOf_40, X6_angleOf_42, X6_angleOf_43, X6_angleOf_45, X6_angleOf_46, X6_angleOf_47, X6_angleOf_50, X6_angleOf_51, X6_angleOf_53, X6_angleOf_54, X6_angleOf_55, X6_angleOf_56, X6_angleOf_57, X6_angleOf_58, X6_angleOf_61, X6_angleOf_63, X6_angleOf_64, X6_angleOf_66, X6_angleOf_67, X6_angleOf_68, X6_angleOf_71, X6_angleOf_73, X6_angleOf_74, X6_angleOf_77, X6_angleOf_79, X6_angleOf_82, X6_angleOf_85, X6_angleOf_86, X6_angleOf_87, X6_angleOf_89, X6_angleOf_90, X6_angleOf_91, X6_angleOf_94, X6_angleOf_95, X6_angleOf_97, X6_angleOf_98, X6_angleOf_99, X6_angleOf_100, g7_0 hq.2.1 hq.1, g7_1 hq.2.1 hq.1, g7_2 hq.2.1 hq.1, r1, r2, hF.1, Option.bind_some, if_neg c1, if_neg c2, j_max, c3, pk_sub hfk, e2, e5, if_neg e3, ang_div _ _ (show F (16 + 2 * k) - fr < 1000000 by omega) h2, lN_add, kkl_i, kkl_l, kkl_r, kkl_0, nI_1, Option.toList_some, List.cons_append, List.nil_append]
      rw [c_ang1 hq hF ok ht m (k + 1) _ _ _ (by omega) (by omega) hsp.2 (fun j q1 q2 => Nat.le_of_lt (ok.2.2.1 k j (by omega) q2)), Nat.add_assoc]
    · have c2 : nI t ≤ nI (F (16 + 2 * k)) := nI_le (by omega) (by omega)
      have e1 : (nI (t - fr)).toInt64 = lN (t - fr) := nI_l (by omega)
      rw [if_neg hlt]
      simp only [X6_angleOf_0, X6_angleOf_1, X6_angleOf_2, X6_angleOf_3, X6_angleOf_5, X6_angleOf_6, X6_angleOf_7, X6_angleOf_10, X6_angleOf_12, X6_angleOf_13, X6_angleOf_17, X6_angleOf_18, X6_angleOf_21, X6_angleOf_24, X6_angleOf_25, X6_angleOf_28, X6_angleOf_30, X6_angleOf_31, X6_angleOf_32, X6_angleOf_35, X6_angleOf_36, X6_angleOf_37, X6_angleOf_40, X6_angleOf_42, X6_angleOf_43, X6_angleOf_45, X6_angleOf_46, X6_angleOf_47, X6_angleOf_50, X6_angleOf_51, X6_angleOf_53, X6_angleOf_54, X6_angleOf_55, X6_angleOf_56, X6_angleOf_57, X6_angleOf_58, X6_angleOf_61, X6_angleOf_63, X6_angleOf_64, X6_angleOf_66, X6_angleOf_67, X6_angleOf_68, X6_angleOf_71, X6_angleOf_73, X6_angleOf_74, X6_angleOf_77, X6_angleOf_79, X6_angleOf_82, X6_angleOf_85, X6_angleOf_86, X6_angleOf_87, X6_angleOf_89, X6_angleOf_90, X6_angleOf_91, X6_angleOf_94, X6_angleOf_95, X6_angleOf_97, X6_angleOf_98, X6_angleOf_99, X6_angleOf_100, g7_0 hq.2.1 hq.1, g7_2 hq.2.1 hq.1, r1, hF.1, Option.bind_some, if_neg c1, if_pos c2, pk_sub h1, e1, e2, if_neg e3, ang_div _ _ (show t - fr < 1000000 by omega) h2, lN_add]
theorem c_angleOf {F : Nat → Nat} {q : Nat} (hq : isSp q) (hF : cSp i I q F) (ok : okSp F) {t : Nat} (ht : t < 1000000) : rn (d + 2) mX6_angleOf [.ref q, .int (nI t), .int (nI (F 8))] (mH h i l I J nw df P) = some (some (.long (lN (ang F t))), mH h i l I J nw df P) := by
  have c3 : (if (1 : Int32) < nI (F 8) then nI (F 8) else 1) = nI (F 8) := if_pos (nI_lt (a := 1) (by have := ok.2.2.2; omega) (by have := ok.2.2.2; omega))
  rw [X6_angleOf_E]
  conv => lhs; simp only [X6_angleOf_0, X6_angleOf_1, X6_angleOf_2, X6_angleOf_3, X6_angleOf_5, X6_angleOf_6, X6_angleOf_7, X6_angleOf_10, X6_angleOf_12, X6_angleOf_13, X6_angleOf_17, X6_angleOf_18, X6_angleOf_21, X6_angleOf_24, X6_angleOf_25, X6_angleOf_28, X6_angleOf_30, X6_angleOf_31, X6_angleOf_32, X6_angleOf_35, X6_angleOf_36, X6_angleOf_37, X6_angleOf_40, X6_angleOf_42, X6_angleOf_43, X6_angleOf_45, X6_angleOf_46, X6_angleOf_47, X6_angleOf_50, X6_angleOf_51, X6_angleOf_53, X6_angleOf_54, X6_angleOf_55, X6_angleOf_56, X6_angleOf_57, X6_angleOf_58, X6_angleOf_61, X6_angleOf_63, X6_angleOf_64, X6_angleOf_66, X6_angleOf_67, X6_angleOf_68, X6_angleOf_71, X6_angleOf_73, X6_angleOf_74, X6_angleOf_77, X6_angleOf_79, X6_angleOf_82, X6_angleOf_85, X6_angleOf_86, X6_angleOf_87, X6_angleOf_89, X6_angleOf_90, X6_angleOf_91, X6_angleOf_94, X6_angleOf_95, X6_angleOf_97, X6_angleOf_98, X6_angleOf_99, X6_angleOf_100, j_max, c3, Option.bind_some, kkl_i, kkl_l, kkl_r, kkl_0, Option.toList_some, List.cons_append, List.nil_append]
  have := c_ang1 (d := d) (h := h) (l := l) (J := J) (nw := nw) (df := df) (P := P) hq hF ok ht (a2 := some (.int (nI (F 8)))) (F 10) 0 0 0 (F 8) (by omega) (Nat.zero_le _) ok.2.2.2 (fun _ _ _ => Nat.zero_le _)
  rw [Nat.zero_add] at this
  exact this
end CG
