/-! OWN: the reference: acts -/
theorem ku2_ku2 {α : Type} (f : Nat → Nat → α) (q k : Nat) (v w : α) : ku2 (ku2 f q k v) q k w = ku2 f q k w := by
  funext a b
  unfold ku2
  split <;> rfl
def paPut (f g : Nat → Int32) (n : Nat) : Nat → Int32 := fun j => if 676 * n ≤ j ∧ j < 676 * n + 676 then f (j - 676 * n) else g j
def paShift (g : Nat → Int32) : Nat → Int32 := fun j => if j < 4732 then g (676 + j) else g j
section RA
variable {d : Nat} {h : kH} {i : Nat → Nat → Int32} {l : Nat → Nat → Int64} {J : Nat → Nat → Int64} {nw df : Nat} {P : Nat → Nat}
theorem r_rem2 {n : Nat} (hn : n ≤ 7) (ha : i 217 3 = nI n) : ∀ (m k : Nat) (I : Nat → Nat → Int32), k + m = 676 → ex d mX12_remembers 52 [some (.ref 217), some (.int (nI k))] [] (mH h i l I J nw df P) = ex d mX12_remembers 86 [some (.ref 217), some (.int (nI 676))] [] (mH h i l (va_up I 220 (fun j => if 676 * n + k ≤ j ∧ j < 676 * n + 676 then I 218 (j - 676 * n) else I 220 j)) J nw df P)
  | 0, k, I, hk => by
    have hk : k = 676 := hk
    subst hk
    rw [X12_remembers_52]
    simp only [X12_remembers_53, X12_remembers_56]
    rw [if_pos (show (676 : Int32) ≤ nI 676 from by decide), kup_Ii (fun j => if_neg (by omega))]
  | m + 1, k, I, hk => by
    rw [X12_remembers_52]
    simp only [X12_remembers_53, X12_remembers_56]
    rw [if_neg (show ¬ (676 : Int32) ≤ nI k from nI_ge (b := 676) (by omega) (by omega))]
    have e1 : (676 : Int32) * i 217 3 + nI k = nI (676 * n + k) := by rw [ha, show (676 : Int32) = nI 676 from rfl, pk_mul, nI_add]
    conv => lhs; simp (disch := omega) only [X12_remembers_0, X12_remembers_1, X12_remembers_4, X12_remembers_6, X12_remembers_9, X12_remembers_10, X12_remembers_11, X12_remembers_12, X12_remembers_15, X12_remembers_18, X12_remembers_19, X12_remembers_22, X12_remembers_23, X12_remembers_24, X12_remembers_27, X12_remembers_30, X12_remembers_31, X12_remembers_32, X12_remembers_33, X12_remembers_34, X12_remembers_37, X12_remembers_40, X12_remembers_41, X12_remembers_42, X12_remembers_45, X12_remembers_46, X12_remembers_47, X12_remembers_50, X12_remembers_51, X12_remembers_53, X12_remembers_56, X12_remembers_59, X12_remembers_60, X12_remembers_63, X12_remembers_66, X12_remembers_67, X12_remembers_70, X12_remembers_71, X12_remembers_72, X12_remembers_73, X12_remembers_74, X12_remembers_77, X12_remembers_78, X12_remembers_79, X12_remembers_80, X12_remembers_83, X12_remembers_86, X12_remembers_87, X12_remembers_88, X12_remembers_91, X12_remembers_92, X12_remembers_93, X12_remembers_96, g13_0, g13_2, g13_3, Option.bind_some, e1, ln_218, sn_220, kkl_r, nI_1]
    rw [r_rem2 hn ha m (k + 1) _ (by omega), kup_I, kup_In (by decide), kup_Is]
    congr 3
    funext j
    unfold upd
    (repeat' split) <;> first | rfl | (exfalso; omega) | (congr 1; omega)
theorem r_rem1 : ∀ (m k : Nat) (I : Nat → Nat → Int32), k + m = 4732 → ex d mX12_remembers 11 [some (.ref 217), some (.int (nI k))] [] (mH h i l I J nw df P) = ex d mX12_remembers 40 [some (.ref 217), some (.int (nI 4732))] [] (mH h i l (va_up I 220 (fun j => if k ≤ j ∧ j < 4732 then I 220 (676 + j) else I 220 j)) J nw df P)
  | 0, k, I, hk => by
    have hk : k = 4732 := hk
    subst hk
    rw [X12_remembers_11]
    simp only [X12_remembers_12, X12_remembers_15]
    rw [if_pos (show (4732 : Int32) ≤ nI 4732 from by decide), kup_Ii (fun j => if_neg (by omega))]
  | m + 1, k, I, hk => by
    rw [X12_remembers_11]
    simp only [X12_remembers_12, X12_remembers_15]
    rw [if_neg (show ¬ (4732 : Int32) ≤ nI k from nI_ge (b := 4732) (by omega) (by omega))]
    have e1 : (676 : Int32) + nI k = nI (676 + k) := by rw [show (676 : Int32) = nI 676 from rfl, nI_add]
    conv => lhs; simp (disch := omega) only [X12_remembers_0, X12_remembers_1, X12_remembers_4, X12_remembers_6, X12_remembers_9, X12_remembers_10, X12_remembers_12, X12_remembers_15, X12_remembers_18, X12_remembers_19, X12_remembers_22, X12_remembers_23, X12_remembers_24, X12_remembers_27, X12_remembers_30, X12_remembers_31, X12_remembers_32, X12_remembers_33, X12_remembers_34, X12_remembers_37, X12_remembers_40, X12_remembers_41, X12_remembers_42, X12_remembers_45, X12_remembers_46, X12_remembers_47, X12_remembers_50, X12_remembers_51, X12_remembers_52, X12_remembers_53, X12_remembers_56, X12_remembers_59, X12_remembers_60, X12_remembers_63, X12_remembers_66, X12_remembers_67, X12_remembers_70, X12_remembers_71, X12_remembers_72, X12_remembers_73, X12_remembers_74, X12_remembers_77, X12_remembers_78, X12_remembers_79, X12_remembers_80, X12_remembers_83, X12_remembers_86, X12_remembers_87, X12_remembers_88, X12_remembers_91, X12_remembers_92, X12_remembers_93, X12_remembers_96, g13_2, Option.bind_some, e1, ln_220, sn_220, kkl_r, nI_1]
    rw [r_rem1 m (k + 1) _ (by omega), kup_I, kup_Is]
    congr 3
    funext j
    unfold upd
    (repeat' split) <;> first | rfl | (exfalso; omega) | (congr 1; omega)
theorem r_remembers {n : Nat} {I : Nat → Nat → Int32} (hn : n ≤ 8) (ha : i 217 3 = nI n) : rn (d + 1) mX12_remembers [.ref 217] (mH h i l I J nw df P) = some (none, mH h (ku2 i 217 3 (nI (min n 7 + 1))) l (va_up I 220 (if n = 8 then paPut (I 218) (paShift (I 220)) 7 else paPut (I 218) (I 220) n)) J nw df P) := by
  rw [X12_remembers_E]
  by_cases h8 : n = 8
  · subst h8
    conv => lhs; simp (disch := omega) only [X12_remembers_0, X12_remembers_1, X12_remembers_4, X12_remembers_6, X12_remembers_9, X12_remembers_10, X12_remembers_12, X12_remembers_15, X12_remembers_18, X12_remembers_19, X12_remembers_22, X12_remembers_23, X12_remembers_24, X12_remembers_27, X12_remembers_30, X12_remembers_31, X12_remembers_32, X12_remembers_33, X12_remembers_34, X12_remembers_37, X12_remembers_40, X12_remembers_41, X12_remembers_42, X12_remembers_45, X12_remembers_46, X12_remembers_47, X12_remembers_50, X12_remembers_51, X12_remembers_53, X12_remembers_56, X12_remembers_59, X12_remembers_60, X12_remembers_63, X12_remembers_66, X12_remembers_67, X12_remembers_70, X12_remembers_71, X12_remembers_72, X12_remembers_73, X12_remembers_74, X12_remembers_77, X12_remembers_78, X12_remembers_79, X12_remembers_80, X12_remembers_83, X12_remembers_86, X12_remembers_87, X12_remembers_88, X12_remembers_91, X12_remembers_92, X12_remembers_93, X12_remembers_96, g13_3, Option.bind_some, ha, show nI 8 = (8 : Int32) from rfl, not_true_eq_false, if_false, kkl_r, k_lit0]
    rw [r_rem1 4732 0 I rfl]
    conv => lhs; simp (disch := omega) only [X12_remembers_0, X12_remembers_1, X12_remembers_4, X12_remembers_6, X12_remembers_9, X12_remembers_10, X12_remembers_12, X12_remembers_15, X12_remembers_18, X12_remembers_19, X12_remembers_22, X12_remembers_23, X12_remembers_24, X12_remembers_27, X12_remembers_30, X12_remembers_31, X12_remembers_32, X12_remembers_33, X12_remembers_34, X12_remembers_37, X12_remembers_40, X12_remembers_41, X12_remembers_42, X12_remembers_45, X12_remembers_46, X12_remembers_47, X12_remembers_50, X12_remembers_51, X12_remembers_53, X12_remembers_56, X12_remembers_59, X12_remembers_60, X12_remembers_63, X12_remembers_66, X12_remembers_67, X12_remembers_70, X12_remembers_71, X12_remembers_72, X12_remembers_73, X12_remembers_74, X12_remembers_77, X12_remembers_78, X12_remembers_79, X12_remembers_80, X12_remembers_83, X12_remembers_86, X12_remembers_87, X12_remembers_88, X12_remembers_91, X12_remembers_92, X12_remembers_93, X12_remembers_96, g13_3, p13_3, Option.bind_some, ha, kkl_r, k_lit0, show nI 8 - (1 : Int32) = nI 7 from rfl]
    rw [r_rem2 (n := 7) (by omega) (ku2_eq _ _ _ _) 676 0 _ rfl]
    simp (disch := omega) only [X12_remembers_0, X12_remembers_1, X12_remembers_4, X12_remembers_6, X12_remembers_9, X12_remembers_10, X12_remembers_11, X12_remembers_12, X12_remembers_15, X12_remembers_18, X12_remembers_19, X12_remembers_22, X12_remembers_23, X12_remembers_24, X12_remembers_27, X12_remembers_30, X12_remembers_31, X12_remembers_32, X12_remembers_33, X12_remembers_34, X12_remembers_37, X12_remembers_40, X12_remembers_41, X12_remembers_42, X12_remembers_45, X12_remembers_46, X12_remembers_47, X12_remembers_50, X12_remembers_51, X12_remembers_52, X12_remembers_53, X12_remembers_56, X12_remembers_59, X12_remembers_60, X12_remembers_63, X12_remembers_66, X12_remembers_67, X12_remembers_70, X12_remembers_71, X12_remembers_72, X12_remembers_73, X12_remembers_74, X12_remembers_77, X12_remembers_78, X12_remembers_79, X12_remembers_80, X12_remembers_83, X12_remembers_86, X12_remembers_87, X12_remembers_88, X12_remembers_91, X12_remembers_92, X12_remembers_93, X12_remembers_96, g13_3, p13_3, Option.bind_some, ku2_eq, ku2_ku2, kup_I, kup_Is, kup_In (show (218 : Nat) ≠ 220 by decide), if_true]
    congr 4
    funext j
    unfold paPut paShift
    (repeat' split) <;> first | rfl | (exfalso; omega) | (congr 1; omega)
  · have hne : ¬ nI n = (8 : Int32) := fun z => h8 ((nI_eq (by omega) (by omega)).mp (show nI n = nI 8 from z))
    conv => lhs; simp (disch := omega) only [X12_remembers_0, X12_remembers_1, X12_remembers_4, X12_remembers_6, X12_remembers_9, X12_remembers_10, X12_remembers_12, X12_remembers_15, X12_remembers_18, X12_remembers_19, X12_remembers_22, X12_remembers_23, X12_remembers_24, X12_remembers_27, X12_remembers_30, X12_remembers_31, X12_remembers_32, X12_remembers_33, X12_remembers_34, X12_remembers_37, X12_remembers_40, X12_remembers_41, X12_remembers_42, X12_remembers_45, X12_remembers_46, X12_remembers_47, X12_remembers_50, X12_remembers_51, X12_remembers_53, X12_remembers_56, X12_remembers_59, X12_remembers_60, X12_remembers_63, X12_remembers_66, X12_remembers_67, X12_remembers_70, X12_remembers_71, X12_remembers_72, X12_remembers_73, X12_remembers_74, X12_remembers_77, X12_remembers_78, X12_remembers_79, X12_remembers_80, X12_remembers_83, X12_remembers_86, X12_remembers_87, X12_remembers_88, X12_remembers_91, X12_remembers_92, X12_remembers_93, X12_remembers_96, g13_3, Option.bind_some, ha, hne, not_false_eq_true, if_true, kkl_r, k_lit0]
    rw [r_rem2 (n := n) (by omega) ha 676 0 _ rfl]
    simp (disch := omega) only [X12_remembers_0, X12_remembers_1, X12_remembers_4, X12_remembers_6, X12_remembers_9, X12_remembers_10, X12_remembers_11, X12_remembers_12, X12_remembers_15, X12_remembers_18, X12_remembers_19, X12_remembers_22, X12_remembers_23, X12_remembers_24, X12_remembers_27, X12_remembers_30, X12_remembers_31, X12_remembers_32, X12_remembers_33, X12_remembers_34, X12_remembers_37, X12_remembers_40, X12_remembers_41, X12_remembers_42, X12_remembers_45, X12_remembers_46, X12_remembers_47, X12_remembers_50, X12_remembers_51, X12_remembers_52, X12_remembers_53, X12_remembers_56, X12_remembers_59, X12_remembers_60, X12_remembers_63, X12_remembers_66, X12_remembers_67, X12_remembers_70, X12_remembers_71, X12_remembers_72, X12_remembers_73, X12_remembers_74, X12_remembers_77, X12_remembers_78, X12_remembers_79, X12_remembers_80, X12_remembers_83, X12_remembers_86, X12_remembers_87, X12_remembers_88, X12_remembers_91, X12_remembers_92, X12_remembers_93, X12_remembers_96, g13_3, p13_3, Option.bind_some, ha, nI_1, if_neg h8]
    rw [show min n 7 = n by omega]
    rfl
theorem r_und1 {n : Nat} (hn : n ≤ 7) (ha : i 217 3 = nI n) : ∀ (m k : Nat) (I : Nat → Nat → Int32), k + m = 676 → ex d mX12_undo 21 [some (.ref 217), some (.int (nI k))] [] (mH h i l I J nw df P) = ex d mX12_undo 55 [some (.ref 217), some (.int (nI 676))] [] (mH h i l (va_up I 218 (fun j => if k ≤ j ∧ j < 676 then I 220 (676 * n + j) else I 218 j)) J nw df P)
  | 0, k, I, hk => by
    have hk : k = 676 := hk
    subst hk
    rw [X12_undo_21]
    simp only [X12_undo_22, X12_undo_25]
    rw [if_pos (show (676 : Int32) ≤ nI 676 from by decide), kup_Ii (fun j => if_neg (by omega))]
  | m + 1, k, I, hk => by
    rw [X12_undo_21]
    simp only [X12_undo_22, X12_undo_25]
    rw [if_neg (show ¬ (676 : Int32) ≤ nI k from nI_ge (b := 676) (by omega) (by omega))]
    have e1 : (676 : Int32) * i 217 3 + nI k = nI (676 * n + k) := by rw [ha, show (676 : Int32) = nI 676 from rfl, pk_mul, nI_add]
    conv => lhs; simp (disch := omega) only [X12_undo_0, X12_undo_1, X12_undo_4, X12_undo_7, X12_undo_8, X12_undo_9, X12_undo_10, X12_undo_11, X12_undo_14, X12_undo_15, X12_undo_16, X12_undo_19, X12_undo_20, X12_undo_22, X12_undo_25, X12_undo_28, X12_undo_29, X12_undo_32, X12_undo_33, X12_undo_34, X12_undo_37, X12_undo_40, X12_undo_41, X12_undo_44, X12_undo_45, X12_undo_46, X12_undo_47, X12_undo_48, X12_undo_49, X12_undo_52, X12_undo_55, X12_undo_56, X12_undo_59, g13_0, g13_2, g13_3, Option.bind_some, e1, ln_220, sn_218, kkl_r, nI_1]
    rw [r_und1 hn ha m (k + 1) _ (by omega), kup_I, kup_In (by decide), kup_Is]
    congr 3
    funext j
    unfold upd
    (repeat' split) <;> first | rfl | (exfalso; omega) | (congr 1; omega)
theorem r_undo {n : Nat} {I : Nat → Nat → Int32} (hn : n ≤ 8) (ha : i 217 3 = nI n) : rn (d + 1) mX12_undo [.ref 217] (mH h i l I J nw df P) = if n = 0 then some (some (.int (-1)), mH h i l I J nw df P) else some (some (.int (nI (n - 1))), mH h (ku2 i 217 3 (nI (n - 1))) l (va_up I 218 (fun j => if j < 676 then I 220 (676 * (n - 1) + j) else I 218 j)) J nw df P) := by
  rw [X12_undo_E]
  by_cases h0 : n = 0
  · subst h0
    rw [if_pos rfl]
    simp (disch := omega) only [X12_undo_0, X12_undo_1, X12_undo_4, X12_undo_7, X12_undo_8, X12_undo_9, X12_undo_10, X12_undo_11, X12_undo_14, X12_undo_15, X12_undo_16, X12_undo_19, X12_undo_20, X12_undo_22, X12_undo_25, X12_undo_28, X12_undo_29, X12_undo_32, X12_undo_33, X12_undo_34, X12_undo_37, X12_undo_40, X12_undo_41, X12_undo_44, X12_undo_45, X12_undo_46, X12_undo_47, X12_undo_48, X12_undo_49, X12_undo_52, X12_undo_55, X12_undo_56, X12_undo_59, g13_3, Option.bind_some, ha, show nI 0 = (0 : Int32) from rfl, not_true_eq_false, if_false]
  · have hne : ¬ nI n = nI 0 := fun z => h0 ((nI_eq (by omega) (by omega)).mp z)
    have e1 : nI n - (1 : Int32) = nI (n - 1) := pk_sub (a := n) (b := 1) (by omega)
    rw [if_neg h0]
    conv => lhs; simp (disch := omega) only [X12_undo_0, X12_undo_1, X12_undo_4, X12_undo_7, X12_undo_8, X12_undo_9, X12_undo_10, X12_undo_11, X12_undo_14, X12_undo_15, X12_undo_16, X12_undo_19, X12_undo_20, X12_undo_22, X12_undo_25, X12_undo_28, X12_undo_29, X12_undo_32, X12_undo_33, X12_undo_34, X12_undo_37, X12_undo_40, X12_undo_41, X12_undo_44, X12_undo_45, X12_undo_46, X12_undo_47, X12_undo_48, X12_undo_49, X12_undo_52, X12_undo_55, X12_undo_56, X12_undo_59, g13_3, p13_3, Option.bind_some, ha, hne, not_false_eq_true, if_true, kkl_r, k_lit0, e1]
    rw [r_und1 (n := n - 1) (by omega) (ku2_eq _ _ _ _) 676 0 _ rfl]
    simp (disch := omega) only [X12_undo_0, X12_undo_1, X12_undo_4, X12_undo_7, X12_undo_8, X12_undo_9, X12_undo_10, X12_undo_11, X12_undo_14, X12_undo_15, X12_undo_16, X12_undo_19, X12_undo_20, X12_undo_22, X12_undo_25, X12_undo_28, X12_undo_29, X12_undo_32, X12_undo_33, X12_undo_34, X12_undo_37, X12_undo_40, X12_undo_41, X12_undo_44, X12_undo_45, X12_undo_46, X12_undo_47, X12_undo_48, X12_undo_49, X12_undo_52, X12_undo_55, X12_undo_56, X12_undo_59, g13_3, Option.bind_some, ku2_eq, Nat.zero_le, true_and]
theorem r_asd1 : ∀ (m k : Nat) (I : Nat → Nat → Int32), k + m = 676 → ex d mX12_laysAside 2 [some (.ref 217), some (.int (nI k))] [] (mH h i l I J nw df P) = some (none, mH h i l (va_up I 219 (fun j => if k ≤ j ∧ j < 676 then I 218 j else I 219 j)) J nw df P)
  | 0, k, I, hk => by
    have hk : k = 676 := hk
    subst hk
    simp only [X12_laysAside_0, X12_laysAside_1, X12_laysAside_2, X12_laysAside_3, X12_laysAside_6, X12_laysAside_9, X12_laysAside_10, X12_laysAside_13, X12_laysAside_14, X12_laysAside_15, X12_laysAside_18, X12_laysAside_19, X12_laysAside_20, X12_laysAside_21, X12_laysAside_24, X12_laysAside_27]
    rw [if_pos (show (676 : Int32) ≤ nI 676 from by decide), kup_Ii (fun j => if_neg (by omega))]
  | m + 1, k, I, hk => by
    rw [X12_laysAside_2]
    simp only [X12_laysAside_3, X12_laysAside_6]
    rw [if_neg (show ¬ (676 : Int32) ≤ nI k from nI_ge (b := 676) (by omega) (by omega))]
    conv => lhs; simp (disch := omega) only [X12_laysAside_0, X12_laysAside_1, X12_laysAside_3, X12_laysAside_6, X12_laysAside_9, X12_laysAside_10, X12_laysAside_13, X12_laysAside_14, X12_laysAside_15, X12_laysAside_18, X12_laysAside_19, X12_laysAside_20, X12_laysAside_21, X12_laysAside_24, X12_laysAside_27, g13_0, g13_1, Option.bind_some, ln_218, sn_219, kkl_r, nI_1]
    rw [r_asd1 m (k + 1) _ (by omega), kup_I, kup_In (by decide), kup_Is]
    congr 4
    funext j
    unfold upd
    (repeat' split) <;> first | rfl | (exfalso; omega) | (congr 1; omega)
theorem r_laysAside {I : Nat → Nat → Int32} : rn (d + 1) mX12_laysAside [.ref 217] (mH h i l I J nw df P) = some (none, mH h i l (va_up I 219 (fun j => if j < 676 then I 218 j else I 219 j)) J nw df P) := by
  rw [X12_laysAside_E]
  conv => lhs; simp (disch := omega) only [X12_laysAside_0, X12_laysAside_1, X12_laysAside_3, X12_laysAside_6, X12_laysAside_9, X12_laysAside_10, X12_laysAside_13, X12_laysAside_14, X12_laysAside_15, X12_laysAside_18, X12_laysAside_19, X12_laysAside_20, X12_laysAside_21, X12_laysAside_24, X12_laysAside_27, kkl_r, k_lit0]
  rw [r_asd1 676 0 I rfl]
  simp only [Nat.zero_le, true_and]
theorem r_bck1 : ∀ (m k : Nat) (I : Nat → Nat → Int32), k + m = 676 → ex d mX12_laysBack 2 [some (.ref 217), some (.int (nI k))] [] (mH h i l I J nw df P) = some (none, mH h i l (va_up I 218 (fun j => if k ≤ j ∧ j < 676 then I 219 j else I 218 j)) J nw df P)
  | 0, k, I, hk => by
    have hk : k = 676 := hk
    subst hk
    simp only [X12_laysBack_0, X12_laysBack_1, X12_laysBack_2, X12_laysBack_3, X12_laysBack_6, X12_laysBack_9, X12_laysBack_10, X12_laysBack_13, X12_laysBack_14, X12_laysBack_15, X12_laysBack_18, X12_laysBack_19, X12_laysBack_20, X12_laysBack_21, X12_laysBack_24, X12_laysBack_27]
    rw [if_pos (show (676 : Int32) ≤ nI 676 from by decide), kup_Ii (fun j => if_neg (by omega))]
  | m + 1, k, I, hk => by
    rw [X12_laysBack_2]
    simp only [X12_laysBack_3, X12_laysBack_6]
    rw [if_neg (show ¬ (676 : Int32) ≤ nI k from nI_ge (b := 676) (by omega) (by omega))]
    conv => lhs; simp (disch := omega) only [X12_laysBack_0, X12_laysBack_1, X12_laysBack_3, X12_laysBack_6, X12_laysBack_9, X12_laysBack_10, X12_laysBack_13, X12_laysBack_14, X12_laysBack_15, X12_laysBack_18, X12_laysBack_19, X12_laysBack_20, X12_laysBack_21, X12_laysBack_24, X12_laysBack_27, g13_0, g13_1, Option.bind_some, ln_219, sn_218, kkl_r, nI_1]
    rw [r_bck1 m (k + 1) _ (by omega), kup_I, kup_In (by decide), kup_Is]
    congr 4
    funext j
    unfold upd
    (repeat' split) <;> first | rfl | (exfalso; omega) | (congr 1; omega)
theorem r_laysBack {I : Nat → Nat → Int32} : rn (d + 1) mX12_laysBack [.ref 217] (mH h i l I J nw df P) = some (none, mH h i l (va_up I 218 (fun j => if j < 676 then I 219 j else I 218 j)) J nw df P) := by
  rw [X12_laysBack_E]
  conv => lhs; simp (disch := omega) only [X12_laysBack_0, X12_laysBack_1, X12_laysBack_3, X12_laysBack_6, X12_laysBack_9, X12_laysBack_10, X12_laysBack_13, X12_laysBack_14, X12_laysBack_15, X12_laysBack_18, X12_laysBack_19, X12_laysBack_20, X12_laysBack_21, X12_laysBack_24, X12_laysBack_27, kkl_r, k_lit0]
  rw [r_bck1 676 0 I rfl]
  simp only [Nat.zero_le, true_and]
end RA
