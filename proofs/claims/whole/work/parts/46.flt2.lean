/-! OWN: filters: the reference's loop over the knocks (cases laid by program) -/
theorem kRw_out {T S : Nat → Int32} {acc : List (Nat × Nat)} {k : Nat} {v w : Int32} (h : kRw T S 0 acc) (hk : acc.length ≤ k) : kRw (upd T k v) (upd S k w) 0 acc := by
  intro j y hj
  have hl : j < acc.length := (List.getElem?_eq_some_iff.mp hj).1
  have := h j y hj
  unfold upd
  rw [if_neg (by omega), if_neg (by omega)]
  exact this
theorem upd_id (f : Nat → Int32) (k : Nat) : upd f k (f k) = f := by
  funext j
  unfold upd
  split
  · rename_i e; rw [e]
  · rfl
theorem kup_com {α : Type} (I : Nat → α) {p q : Nat} (f g : α) (hpq : p ≠ q) : va_up (va_up I q f) p g = va_up (va_up I p g) q f := by
  funext a
  unfold va_up
  by_cases h1 : a = p
  · rw [if_pos h1, if_neg (fun z => hpq (h1.symm.trans z)), if_pos h1]
  · rw [if_neg h1]
    split
    · rfl
    · rfl
section RF2
variable {d : Nat} {h : kH} {i : Nat → Nat → Int32} {l : Nat → Nat → Int64} {I : Nat → Nat → Int32} {J : Nat → Nat → Int64} {nw df : Nat} {P : Nat → Nat}
/-- what one pass of the loop does -/
def rStep (d : Nat) (h : kH) (i : Nat → Nat → Int32) (l : Nat → Nat → Int64) (I : Nat → Nat → Int32) (J : Nat → Nat → Int64) (nw df : Nat) (P : Nat → Nat) (c b k : Nat) (acc : List (Nat × Nat)) (x : Nat × Nat) : Prop :=
  ∃ T S : Nat → Int32, ex (d + 1) mX12_goesThrough 5 [some (.ref 217), some (.int (nI c)), some (.int (nI b)), some (.int (nI acc.length)), some (.int (nI k))] [] (mH h i l I J nw df P) = ex (d + 1) mX12_goesThrough 5 [some (.ref 217), some (.int (nI c)), some (.int (nI b)), some (.int (nI (fs c b k acc x).length)), some (.int (nI (k + 1)))] [] (mH h i l (va_up (va_up I 226 T) 227 S) J nw df P) ∧ kRw T S 0 (fs c b k acc x) ∧ ∀ j, k < j → T j = I 226 j ∧ S j = I 227 j
def rPre (i : Nat → Nat → Int32) (I : Nat → Nat → Int32) (n b k : Nat) (acc : List (Nat × Nat)) (x : Nat × Nat) : Prop :=
  n ≤ 200 ∧ i 217 22 = nI n ∧ k < n ∧ b < 100 ∧ acc.length ≤ k ∧ kRw (I 226) (I 227) 0 acc ∧ I 226 k = nI x.1 ∧ I 227 k = nI x.2 ∧ x.1 < 1000000 ∧ x.2 < 1000
theorem r_go_a {n b k : Nat} {acc : List (Nat × Nat)} {x : Nat × Nat} (hp : rPre i I n b k acc x) : rStep d h i l I J nw df P 97 b k acc x := by
  obtain ⟨hn, hm, hk, hb, ha, hP, hx1, hx2, ht2, hs2⟩ := hp
  have hk2 : k < 200 := by omega
  have ck : ¬ nI n ≤ nI k := nI_ge hk (by omega)
  have hfs : fs 97 b k acc x = if b ≤ x.2 then acc ++ [x] else acc := rfl
  by_cases h1 : b ≤ x.2
  · refine ⟨upd (I 226) acc.length (I 226 k), upd (I 227) acc.length (I 227 k), ?_, ?_, ?_⟩
    · rw [X12_goesThrough_5, hfs, if_pos h1, List.length_append]
      conv => lhs; simp only [X12_goesThrough_0, X12_goesThrough_1, X12_goesThrough_2, X12_goesThrough_3, X12_goesThrough_7, X12_goesThrough_8, X12_goesThrough_11, X12_goesThrough_14, X12_goesThrough_15, X12_goesThrough_17, X12_goesThrough_20, X12_goesThrough_21, X12_goesThrough_24, X12_goesThrough_26, X12_goesThrough_27, X12_goesThrough_29, X12_goesThrough_30, X12_goesThrough_33, X12_goesThrough_35, X12_goesThrough_36, X12_goesThrough_37, X12_goesThrough_38, X12_goesThrough_40, X12_goesThrough_41, X12_goesThrough_44, X12_goesThrough_47, X12_goesThrough_48, X12_goesThrough_49, X12_goesThrough_51, X12_goesThrough_54, X12_goesThrough_55, X12_goesThrough_58, X12_goesThrough_60, X12_goesThrough_61, X12_goesThrough_64, X12_goesThrough_66, X12_goesThrough_67, X12_goesThrough_68, X12_goesThrough_69, X12_goesThrough_70, X12_goesThrough_71, X12_goesThrough_72, X12_goesThrough_73, X12_goesThrough_75, X12_goesThrough_76, X12_goesThrough_79, X12_goesThrough_82, X12_goesThrough_83, X12_goesThrough_84, X12_goesThrough_86, X12_goesThrough_89, X12_goesThrough_90, X12_goesThrough_91, X12_goesThrough_92, X12_goesThrough_93, X12_goesThrough_96, X12_goesThrough_97, X12_goesThrough_99, X12_goesThrough_102, X12_goesThrough_103, X12_goesThrough_106, X12_goesThrough_107, X12_goesThrough_108, X12_goesThrough_109, X12_goesThrough_111, X12_goesThrough_112, X12_goesThrough_115, X12_goesThrough_116, X12_goesThrough_117, X12_goesThrough_118, X12_goesThrough_119, X12_goesThrough_120, X12_goesThrough_123, X12_goesThrough_125, X12_goesThrough_126, X12_goesThrough_127, X12_goesThrough_130, X12_goesThrough_131, X12_goesThrough_134, X12_goesThrough_137, X12_goesThrough_138, X12_goesThrough_139, X12_goesThrough_142, show nI 97 = (97 : Int32) from rfl, if_pos (show ¬ (97 : Int32) = 120 from by decide), if_pos (show ¬ (97 : Int32) = 121 from by decide), if_pos (show ¬ (97 : Int32) = 109 from by decide), r_st_a hk2 hx2 hb hs2, if_pos h1, r_keeps (show acc.length < 200 by omega) hk2, is_217, if_true, g13_22, g13_19, g13_20, hm, if_neg ck, nI_1, kkl_i, kkl_r, Option.bind_some, Option.toList_some, Option.toList_none, List.cons_append, List.nil_append, if_neg (show ¬ (1 : Int32) = 0 from by decide)]
      rfl
    · rw [hfs, if_pos h1, hx1, hx2]
      exact kRw_app hP
    · intro j hj
      unfold upd
      rw [if_neg (by omega), if_neg (by omega)]
      exact ⟨rfl, rfl⟩
  · refine ⟨I 226, I 227, ?_, by rw [hfs, if_neg h1]; exact hP, fun j _ => ⟨rfl, rfl⟩⟩
    rw [kup_two rfl rfl, X12_goesThrough_5, hfs, if_neg h1]
    conv => lhs; simp only [X12_goesThrough_0, X12_goesThrough_1, X12_goesThrough_2, X12_goesThrough_3, X12_goesThrough_7, X12_goesThrough_8, X12_goesThrough_11, X12_goesThrough_14, X12_goesThrough_15, X12_goesThrough_17, X12_goesThrough_20, X12_goesThrough_21, X12_goesThrough_24, X12_goesThrough_26, X12_goesThrough_27, X12_goesThrough_29, X12_goesThrough_30, X12_goesThrough_33, X12_goesThrough_35, X12_goesThrough_36, X12_goesThrough_37, X12_goesThrough_38, X12_goesThrough_40, X12_goesThrough_41, X12_goesThrough_44, X12_goesThrough_47, X12_goesThrough_48, X12_goesThrough_49, X12_goesThrough_51, X12_goesThrough_54, X12_goesThrough_55, X12_goesThrough_58, X12_goesThrough_60, X12_goesThrough_61, X12_goesThrough_64, X12_goesThrough_66, X12_goesThrough_67, X12_goesThrough_68, X12_goesThrough_69, X12_goesThrough_70, X12_goesThrough_71, X12_goesThrough_72, X12_goesThrough_73, X12_goesThrough_75, X12_goesThrough_76, X12_goesThrough_79, X12_goesThrough_82, X12_goesThrough_83, X12_goesThrough_84, X12_goesThrough_86, X12_goesThrough_89, X12_goesThrough_90, X12_goesThrough_91, X12_goesThrough_92, X12_goesThrough_93, X12_goesThrough_96, X12_goesThrough_97, X12_goesThrough_99, X12_goesThrough_102, X12_goesThrough_103, X12_goesThrough_106, X12_goesThrough_107, X12_goesThrough_108, X12_goesThrough_109, X12_goesThrough_111, X12_goesThrough_112, X12_goesThrough_115, X12_goesThrough_116, X12_goesThrough_117, X12_goesThrough_118, X12_goesThrough_119, X12_goesThrough_120, X12_goesThrough_123, X12_goesThrough_125, X12_goesThrough_126, X12_goesThrough_127, X12_goesThrough_130, X12_goesThrough_131, X12_goesThrough_134, X12_goesThrough_137, X12_goesThrough_138, X12_goesThrough_139, X12_goesThrough_142, show nI 97 = (97 : Int32) from rfl, if_pos (show ¬ (97 : Int32) = 120 from by decide), if_pos (show ¬ (97 : Int32) = 121 from by decide), if_pos (show ¬ (97 : Int32) = 109 from by decide), r_st_a hk2 hx2 hb hs2, if_neg h1, is_217, if_true, g13_22, g13_19, g13_20, hm, if_neg ck, nI_1, kkl_i, kkl_r, Option.bind_some, Option.toList_some, Option.toList_none, List.cons_append, List.nil_append, if_neg (show ¬ (1 : Int32) = 0 from by decide)]
    rfl
theorem r_go_b {n b k : Nat} {acc : List (Nat × Nat)} {x : Nat × Nat} (hp : rPre i I n b k acc x) : rStep d h i l I J nw df P 98 b k acc x := by
  obtain ⟨hn, hm, hk, hb, ha, hP, hx1, hx2, ht2, hs2⟩ := hp
  have hk2 : k < 200 := by omega
  have ck : ¬ nI n ≤ nI k := nI_ge hk (by omega)
  have hfs : fs 98 b k acc x = if x.2 ≤ b then acc ++ [x] else acc := rfl
  by_cases h1 : x.2 ≤ b
  · refine ⟨upd (I 226) acc.length (I 226 k), upd (I 227) acc.length (I 227 k), ?_, ?_, ?_⟩
    · rw [X12_goesThrough_5, hfs, if_pos h1, List.length_append]
      conv => lhs; simp only [X12_goesThrough_0, X12_goesThrough_1, X12_goesThrough_2, X12_goesThrough_3, X12_goesThrough_7, X12_goesThrough_8, X12_goesThrough_11, X12_goesThrough_14, X12_goesThrough_15, X12_goesThrough_17, X12_goesThrough_20, X12_goesThrough_21, X12_goesThrough_24, X12_goesThrough_26, X12_goesThrough_27, X12_goesThrough_29, X12_goesThrough_30, X12_goesThrough_33, X12_goesThrough_35, X12_goesThrough_36, X12_goesThrough_37, X12_goesThrough_38, X12_goesThrough_40, X12_goesThrough_41, X12_goesThrough_44, X12_goesThrough_47, X12_goesThrough_48, X12_goesThrough_49, X12_goesThrough_51, X12_goesThrough_54, X12_goesThrough_55, X12_goesThrough_58, X12_goesThrough_60, X12_goesThrough_61, X12_goesThrough_64, X12_goesThrough_66, X12_goesThrough_67, X12_goesThrough_68, X12_goesThrough_69, X12_goesThrough_70, X12_goesThrough_71, X12_goesThrough_72, X12_goesThrough_73, X12_goesThrough_75, X12_goesThrough_76, X12_goesThrough_79, X12_goesThrough_82, X12_goesThrough_83, X12_goesThrough_84, X12_goesThrough_86, X12_goesThrough_89, X12_goesThrough_90, X12_goesThrough_91, X12_goesThrough_92, X12_goesThrough_93, X12_goesThrough_96, X12_goesThrough_97, X12_goesThrough_99, X12_goesThrough_102, X12_goesThrough_103, X12_goesThrough_106, X12_goesThrough_107, X12_goesThrough_108, X12_goesThrough_109, X12_goesThrough_111, X12_goesThrough_112, X12_goesThrough_115, X12_goesThrough_116, X12_goesThrough_117, X12_goesThrough_118, X12_goesThrough_119, X12_goesThrough_120, X12_goesThrough_123, X12_goesThrough_125, X12_goesThrough_126, X12_goesThrough_127, X12_goesThrough_130, X12_goesThrough_131, X12_goesThrough_134, X12_goesThrough_137, X12_goesThrough_138, X12_goesThrough_139, X12_goesThrough_142, show nI 98 = (98 : Int32) from rfl, if_pos (show ¬ (98 : Int32) = 120 from by decide), if_pos (show ¬ (98 : Int32) = 121 from by decide), if_pos (show ¬ (98 : Int32) = 109 from by decide), r_st_b hk2 hx2 hb hs2, if_pos h1, r_keeps (show acc.length < 200 by omega) hk2, is_217, if_true, g13_22, g13_19, g13_20, hm, if_neg ck, nI_1, kkl_i, kkl_r, Option.bind_some, Option.toList_some, Option.toList_none, List.cons_append, List.nil_append, if_neg (show ¬ (1 : Int32) = 0 from by decide)]
      rfl
    · rw [hfs, if_pos h1, hx1, hx2]
      exact kRw_app hP
    · intro j hj
      unfold upd
      rw [if_neg (by omega), if_neg (by omega)]
      exact ⟨rfl, rfl⟩
  · refine ⟨I 226, I 227, ?_, by rw [hfs, if_neg h1]; exact hP, fun j _ => ⟨rfl, rfl⟩⟩
    rw [kup_two rfl rfl, X12_goesThrough_5, hfs, if_neg h1]
    conv => lhs; simp only [X12_goesThrough_0, X12_goesThrough_1, X12_goesThrough_2, X12_goesThrough_3, X12_goesThrough_7, X12_goesThrough_8, X12_goesThrough_11, X12_goesThrough_14, X12_goesThrough_15, X12_goesThrough_17, X12_goesThrough_20, X12_goesThrough_21, X12_goesThrough_24, X12_goesThrough_26, X12_goesThrough_27, X12_goesThrough_29, X12_goesThrough_30, X12_goesThrough_33, X12_goesThrough_35, X12_goesThrough_36, X12_goesThrough_37, X12_goesThrough_38, X12_goesThrough_40, X12_goesThrough_41, X12_goesThrough_44, X12_goesThrough_47, X12_goesThrough_48, X12_goesThrough_49, X12_goesThrough_51, X12_goesThrough_54, X12_goesThrough_55, X12_goesThrough_58, X12_goesThrough_60, X12_goesThrough_61, X12_goesThrough_64, X12_goesThrough_66, X12_goesThrough_67, X12_goesThrough_68, X12_goesThrough_69, X12_goesThrough_70, X12_goesThrough_71, X12_goesThrough_72, X12_goesThrough_73, X12_goesThrough_75, X12_goesThrough_76, X12_goesThrough_79, X12_goesThrough_82, X12_goesThrough_83, X12_goesThrough_84, X12_goesThrough_86, X12_goesThrough_89, X12_goesThrough_90, X12_goesThrough_91, X12_goesThrough_92, X12_goesThrough_93, X12_goesThrough_96, X12_goesThrough_97, X12_goesThrough_99, X12_goesThrough_102, X12_goesThrough_103, X12_goesThrough_106, X12_goesThrough_107, X12_goesThrough_108, X12_goesThrough_109, X12_goesThrough_111, X12_goesThrough_112, X12_goesThrough_115, X12_goesThrough_116, X12_goesThrough_117, X12_goesThrough_118, X12_goesThrough_119, X12_goesThrough_120, X12_goesThrough_123, X12_goesThrough_125, X12_goesThrough_126, X12_goesThrough_127, X12_goesThrough_130, X12_goesThrough_131, X12_goesThrough_134, X12_goesThrough_137, X12_goesThrough_138, X12_goesThrough_139, X12_goesThrough_142, show nI 98 = (98 : Int32) from rfl, if_pos (show ¬ (98 : Int32) = 120 from by decide), if_pos (show ¬ (98 : Int32) = 121 from by decide), if_pos (show ¬ (98 : Int32) = 109 from by decide), r_st_b hk2 hx2 hb hs2, if_neg h1, is_217, if_true, g13_22, g13_19, g13_20, hm, if_neg ck, nI_1, kkl_i, kkl_r, Option.bind_some, Option.toList_some, Option.toList_none, List.cons_append, List.nil_append, if_neg (show ¬ (1 : Int32) = 0 from by decide)]
    rfl
theorem r_go_k {n b k : Nat} {acc : List (Nat × Nat)} {x : Nat × Nat} (hp : rPre i I n b k acc x) (hb0 : 0 < b) : rStep d h i l I J nw df P 107 b k acc x := by
  obtain ⟨hn, hm, hk, hb, ha, hP, hx1, hx2, ht2, hs2⟩ := hp
  have hk2 : k < 200 := by omega
  have ck : ¬ nI n ≤ nI k := nI_ge hk (by omega)
  have hfs : fs 107 b k acc x = if k % b = 0 then acc ++ [x] else acc := rfl
  by_cases h1 : k % b = 0
  · refine ⟨upd (I 226) acc.length (I 226 k), upd (I 227) acc.length (I 227 k), ?_, ?_, ?_⟩
    · rw [X12_goesThrough_5, hfs, if_pos h1, List.length_append]
      conv => lhs; simp only [X12_goesThrough_0, X12_goesThrough_1, X12_goesThrough_2, X12_goesThrough_3, X12_goesThrough_7, X12_goesThrough_8, X12_goesThrough_11, X12_goesThrough_14, X12_goesThrough_15, X12_goesThrough_17, X12_goesThrough_20, X12_goesThrough_21, X12_goesThrough_24, X12_goesThrough_26, X12_goesThrough_27, X12_goesThrough_29, X12_goesThrough_30, X12_goesThrough_33, X12_goesThrough_35, X12_goesThrough_36, X12_goesThrough_37, X12_goesThrough_38, X12_goesThrough_40, X12_goesThrough_41, X12_goesThrough_44, X12_goesThrough_47, X12_goesThrough_48, X12_goesThrough_49, X12_goesThrough_51, X12_goesThrough_54, X12_goesThrough_55, X12_goesThrough_58, X12_goesThrough_60, X12_goesThrough_61, X12_goesThrough_64, X12_goesThrough_66, X12_goesThrough_67, X12_goesThrough_68, X12_goesThrough_69, X12_goesThrough_70, X12_goesThrough_71, X12_goesThrough_72, X12_goesThrough_73, X12_goesThrough_75, X12_goesThrough_76, X12_goesThrough_79, X12_goesThrough_82, X12_goesThrough_83, X12_goesThrough_84, X12_goesThrough_86, X12_goesThrough_89, X12_goesThrough_90, X12_goesThrough_91, X12_goesThrough_92, X12_goesThrough_93, X12_goesThrough_96, X12_goesThrough_97, X12_goesThrough_99, X12_goesThrough_102, X12_goesThrough_103, X12_goesThrough_106, X12_goesThrough_107, X12_goesThrough_108, X12_goesThrough_109, X12_goesThrough_111, X12_goesThrough_112, X12_goesThrough_115, X12_goesThrough_116, X12_goesThrough_117, X12_goesThrough_118, X12_goesThrough_119, X12_goesThrough_120, X12_goesThrough_123, X12_goesThrough_125, X12_goesThrough_126, X12_goesThrough_127, X12_goesThrough_130, X12_goesThrough_131, X12_goesThrough_134, X12_goesThrough_137, X12_goesThrough_138, X12_goesThrough_139, X12_goesThrough_142, show nI 107 = (107 : Int32) from rfl, if_pos (show ¬ (107 : Int32) = 120 from by decide), if_pos (show ¬ (107 : Int32) = 121 from by decide), if_pos (show ¬ (107 : Int32) = 109 from by decide), r_st_k hk2 hb hb0, if_pos h1, r_keeps (show acc.length < 200 by omega) hk2, is_217, if_true, g13_22, g13_19, g13_20, hm, if_neg ck, nI_1, kkl_i, kkl_r, Option.bind_some, Option.toList_some, Option.toList_none, List.cons_append, List.nil_append, if_neg (show ¬ (1 : Int32) = 0 from by decide)]
      rfl
    · rw [hfs, if_pos h1, hx1, hx2]
      exact kRw_app hP
    · intro j hj
      unfold upd
      rw [if_neg (by omega), if_neg (by omega)]
      exact ⟨rfl, rfl⟩
  · refine ⟨I 226, I 227, ?_, by rw [hfs, if_neg h1]; exact hP, fun j _ => ⟨rfl, rfl⟩⟩
    rw [kup_two rfl rfl, X12_goesThrough_5, hfs, if_neg h1]
    conv => lhs; simp only [X12_goesThrough_0, X12_goesThrough_1, X12_goesThrough_2, X12_goesThrough_3, X12_goesThrough_7, X12_goesThrough_8, X12_goesThrough_11, X12_goesThrough_14, X12_goesThrough_15, X12_goesThrough_17, X12_goesThrough_20, X12_goesThrough_21, X12_goesThrough_24, X12_goesThrough_26, X12_goesThrough_27, X12_goesThrough_29, X12_goesThrough_30, X12_goesThrough_33, X12_goesThrough_35, X12_goesThrough_36, X12_goesThrough_37, X12_goesThrough_38, X12_goesThrough_40, X12_goesThrough_41, X12_goesThrough_44, X12_goesThrough_47, X12_goesThrough_48, X12_goesThrough_49, X12_goesThrough_51, X12_goesThrough_54, X12_goesThrough_55, X12_goesThrough_58, X12_goesThrough_60, X12_goesThrough_61, X12_goesThrough_64, X12_goesThrough_66, X12_goesThrough_67, X12_goesThrough_68, X12_goesThrough_69, X12_goesThrough_70, X12_goesThrough_71, X12_goesThrough_72, X12_goesThrough_73, X12_goesThrough_75, X12_goesThrough_76, X12_goesThrough_79, X12_goesThrough_82, X12_goesThrough_83, X12_goesThrough_84, X12_goesThrough_86, X12_goesThrough_89, X12_goesThrough_90, X12_goesThrough_91, X12_goesThrough_92, X12_goesThrough_93, X12_goesThrough_96, X12_goesThrough_97, X12_goesThrough_99, X12_goesThrough_102, X12_goesThrough_103, X12_goesThrough_106, X12_goesThrough_107, X12_goesThrough_108, X12_goesThrough_109, X12_goesThrough_111, X12_goesThrough_112, X12_goesThrough_115, X12_goesThrough_116, X12_goesThrough_117, X12_goesThrough_118, X12_goesThrough_119, X12_goesThrough_120, X12_goesThrough_123, X12_goesThrough_125, X12_goesThrough_126, X12_goesThrough_127, X12_goesThrough_130, X12_goesThrough_131, X12_goesThrough_134, X12_goesThrough_137, X12_goesThrough_138, X12_goesThrough_139, X12_goesThrough_142, show nI 107 = (107 : Int32) from rfl, if_pos (show ¬ (107 : Int32) = 120 from by decide), if_pos (show ¬ (107 : Int32) = 121 from by decide), if_pos (show ¬ (107 : Int32) = 109 from by decide), r_st_k hk2 hb hb0, if_neg h1, is_217, if_true, g13_22, g13_19, g13_20, hm, if_neg ck, nI_1, kkl_i, kkl_r, Option.bind_some, Option.toList_some, Option.toList_none, List.cons_append, List.nil_append, if_neg (show ¬ (1 : Int32) = 0 from by decide)]
    rfl
theorem r_go_r {n b k : Nat} {acc : List (Nat × Nat)} {x : Nat × Nat} (hp : rPre i I n b k acc x) : rStep d h i l I J nw df P 114 b k acc x := by
  obtain ⟨hn, hm, hk, hb, ha, hP, hx1, hx2, ht2, hs2⟩ := hp
  have hk2 : k < 200 := by omega
  have ck : ¬ nI n ≤ nI k := nI_ge hk (by omega)
  have hfs : fs 114 b k acc x = if b ≤ k then acc ++ [x] else acc := rfl
  by_cases h1 : b ≤ k
  · refine ⟨upd (I 226) acc.length (I 226 k), upd (I 227) acc.length (I 227 k), ?_, ?_, ?_⟩
    · rw [X12_goesThrough_5, hfs, if_pos h1, List.length_append]
      conv => lhs; simp only [X12_goesThrough_0, X12_goesThrough_1, X12_goesThrough_2, X12_goesThrough_3, X12_goesThrough_7, X12_goesThrough_8, X12_goesThrough_11, X12_goesThrough_14, X12_goesThrough_15, X12_goesThrough_17, X12_goesThrough_20, X12_goesThrough_21, X12_goesThrough_24, X12_goesThrough_26, X12_goesThrough_27, X12_goesThrough_29, X12_goesThrough_30, X12_goesThrough_33, X12_goesThrough_35, X12_goesThrough_36, X12_goesThrough_37, X12_goesThrough_38, X12_goesThrough_40, X12_goesThrough_41, X12_goesThrough_44, X12_goesThrough_47, X12_goesThrough_48, X12_goesThrough_49, X12_goesThrough_51, X12_goesThrough_54, X12_goesThrough_55, X12_goesThrough_58, X12_goesThrough_60, X12_goesThrough_61, X12_goesThrough_64, X12_goesThrough_66, X12_goesThrough_67, X12_goesThrough_68, X12_goesThrough_69, X12_goesThrough_70, X12_goesThrough_71, X12_goesThrough_72, X12_goesThrough_73, X12_goesThrough_75, X12_goesThrough_76, X12_goesThrough_79, X12_goesThrough_82, X12_goesThrough_83, X12_goesThrough_84, X12_goesThrough_86, X12_goesThrough_89, X12_goesThrough_90, X12_goesThrough_91, X12_goesThrough_92, X12_goesThrough_93, X12_goesThrough_96, X12_goesThrough_97, X12_goesThrough_99, X12_goesThrough_102, X12_goesThrough_103, X12_goesThrough_106, X12_goesThrough_107, X12_goesThrough_108, X12_goesThrough_109, X12_goesThrough_111, X12_goesThrough_112, X12_goesThrough_115, X12_goesThrough_116, X12_goesThrough_117, X12_goesThrough_118, X12_goesThrough_119, X12_goesThrough_120, X12_goesThrough_123, X12_goesThrough_125, X12_goesThrough_126, X12_goesThrough_127, X12_goesThrough_130, X12_goesThrough_131, X12_goesThrough_134, X12_goesThrough_137, X12_goesThrough_138, X12_goesThrough_139, X12_goesThrough_142, show nI 114 = (114 : Int32) from rfl, if_pos (show ¬ (114 : Int32) = 120 from by decide), if_pos (show ¬ (114 : Int32) = 121 from by decide), if_pos (show ¬ (114 : Int32) = 109 from by decide), r_st_r hk2 hb, if_pos h1, r_keeps (show acc.length < 200 by omega) hk2, is_217, if_true, g13_22, g13_19, g13_20, hm, if_neg ck, nI_1, kkl_i, kkl_r, Option.bind_some, Option.toList_some, Option.toList_none, List.cons_append, List.nil_append, if_neg (show ¬ (1 : Int32) = 0 from by decide)]
      rfl
    · rw [hfs, if_pos h1, hx1, hx2]
      exact kRw_app hP
    · intro j hj
      unfold upd
      rw [if_neg (by omega), if_neg (by omega)]
      exact ⟨rfl, rfl⟩
  · refine ⟨I 226, I 227, ?_, by rw [hfs, if_neg h1]; exact hP, fun j _ => ⟨rfl, rfl⟩⟩
    rw [kup_two rfl rfl, X12_goesThrough_5, hfs, if_neg h1]
    conv => lhs; simp only [X12_goesThrough_0, X12_goesThrough_1, X12_goesThrough_2, X12_goesThrough_3, X12_goesThrough_7, X12_goesThrough_8, X12_goesThrough_11, X12_goesThrough_14, X12_goesThrough_15, X12_goesThrough_17, X12_goesThrough_20, X12_goesThrough_21, X12_goesThrough_24, X12_goesThrough_26, X12_goesThrough_27, X12_goesThrough_29, X12_goesThrough_30, X12_goesThrough_33, X12_goesThrough_35, X12_goesThrough_36, X12_goesThrough_37, X12_goesThrough_38, X12_goesThrough_40, X12_goesThrough_41, X12_goesThrough_44, X12_goesThrough_47, X12_goesThrough_48, X12_goesThrough_49, X12_goesThrough_51, X12_goesThrough_54, X12_goesThrough_55, X12_goesThrough_58, X12_goesThrough_60, X12_goesThrough_61, X12_goesThrough_64, X12_goesThrough_66, X12_goesThrough_67, X12_goesThrough_68, X12_goesThrough_69, X12_goesThrough_70, X12_goesThrough_71, X12_goesThrough_72, X12_goesThrough_73, X12_goesThrough_75, X12_goesThrough_76, X12_goesThrough_79, X12_goesThrough_82, X12_goesThrough_83, X12_goesThrough_84, X12_goesThrough_86, X12_goesThrough_89, X12_goesThrough_90, X12_goesThrough_91, X12_goesThrough_92, X12_goesThrough_93, X12_goesThrough_96, X12_goesThrough_97, X12_goesThrough_99, X12_goesThrough_102, X12_goesThrough_103, X12_goesThrough_106, X12_goesThrough_107, X12_goesThrough_108, X12_goesThrough_109, X12_goesThrough_111, X12_goesThrough_112, X12_goesThrough_115, X12_goesThrough_116, X12_goesThrough_117, X12_goesThrough_118, X12_goesThrough_119, X12_goesThrough_120, X12_goesThrough_123, X12_goesThrough_125, X12_goesThrough_126, X12_goesThrough_127, X12_goesThrough_130, X12_goesThrough_131, X12_goesThrough_134, X12_goesThrough_137, X12_goesThrough_138, X12_goesThrough_139, X12_goesThrough_142, show nI 114 = (114 : Int32) from rfl, if_pos (show ¬ (114 : Int32) = 120 from by decide), if_pos (show ¬ (114 : Int32) = 121 from by decide), if_pos (show ¬ (114 : Int32) = 109 from by decide), r_st_r hk2 hb, if_neg h1, is_217, if_true, g13_22, g13_19, g13_20, hm, if_neg ck, nI_1, kkl_i, kkl_r, Option.bind_some, Option.toList_some, Option.toList_none, List.cons_append, List.nil_append, if_neg (show ¬ (1 : Int32) = 0 from by decide)]
    rfl
theorem r_go_w {n b k : Nat} {acc : List (Nat × Nat)} {x : Nat × Nat} (hp : rPre i I n b k acc x) : rStep d h i l I J nw df P 119 b k acc x := by
  obtain ⟨hn, hm, hk, hb, ha, hP, hx1, hx2, ht2, hs2⟩ := hp
  have hk2 : k < 200 := by omega
  have ck : ¬ nI n ≤ nI k := nI_ge hk (by omega)
  have hfs : fs 119 b k acc x = if k < b then acc ++ [x] else acc := rfl
  by_cases h1 : k < b
  · refine ⟨upd (I 226) acc.length (I 226 k), upd (I 227) acc.length (I 227 k), ?_, ?_, ?_⟩
    · rw [X12_goesThrough_5, hfs, if_pos h1, List.length_append]
      conv => lhs; simp only [X12_goesThrough_0, X12_goesThrough_1, X12_goesThrough_2, X12_goesThrough_3, X12_goesThrough_7, X12_goesThrough_8, X12_goesThrough_11, X12_goesThrough_14, X12_goesThrough_15, X12_goesThrough_17, X12_goesThrough_20, X12_goesThrough_21, X12_goesThrough_24, X12_goesThrough_26, X12_goesThrough_27, X12_goesThrough_29, X12_goesThrough_30, X12_goesThrough_33, X12_goesThrough_35, X12_goesThrough_36, X12_goesThrough_37, X12_goesThrough_38, X12_goesThrough_40, X12_goesThrough_41, X12_goesThrough_44, X12_goesThrough_47, X12_goesThrough_48, X12_goesThrough_49, X12_goesThrough_51, X12_goesThrough_54, X12_goesThrough_55, X12_goesThrough_58, X12_goesThrough_60, X12_goesThrough_61, X12_goesThrough_64, X12_goesThrough_66, X12_goesThrough_67, X12_goesThrough_68, X12_goesThrough_69, X12_goesThrough_70, X12_goesThrough_71, X12_goesThrough_72, X12_goesThrough_73, X12_goesThrough_75, X12_goesThrough_76, X12_goesThrough_79, X12_goesThrough_82, X12_goesThrough_83, X12_goesThrough_84, X12_goesThrough_86, X12_goesThrough_89, X12_goesThrough_90, X12_goesThrough_91, X12_goesThrough_92, X12_goesThrough_93, X12_goesThrough_96, X12_goesThrough_97, X12_goesThrough_99, X12_goesThrough_102, X12_goesThrough_103, X12_goesThrough_106, X12_goesThrough_107, X12_goesThrough_108, X12_goesThrough_109, X12_goesThrough_111, X12_goesThrough_112, X12_goesThrough_115, X12_goesThrough_116, X12_goesThrough_117, X12_goesThrough_118, X12_goesThrough_119, X12_goesThrough_120, X12_goesThrough_123, X12_goesThrough_125, X12_goesThrough_126, X12_goesThrough_127, X12_goesThrough_130, X12_goesThrough_131, X12_goesThrough_134, X12_goesThrough_137, X12_goesThrough_138, X12_goesThrough_139, X12_goesThrough_142, show nI 119 = (119 : Int32) from rfl, if_pos (show ¬ (119 : Int32) = 120 from by decide), if_pos (show ¬ (119 : Int32) = 121 from by decide), if_pos (show ¬ (119 : Int32) = 109 from by decide), r_st_w hk2 hb, if_pos h1, r_keeps (show acc.length < 200 by omega) hk2, is_217, if_true, g13_22, g13_19, g13_20, hm, if_neg ck, nI_1, kkl_i, kkl_r, Option.bind_some, Option.toList_some, Option.toList_none, List.cons_append, List.nil_append, if_neg (show ¬ (1 : Int32) = 0 from by decide)]
      rfl
    · rw [hfs, if_pos h1, hx1, hx2]
      exact kRw_app hP
    · intro j hj
      unfold upd
      rw [if_neg (by omega), if_neg (by omega)]
      exact ⟨rfl, rfl⟩
  · refine ⟨I 226, I 227, ?_, by rw [hfs, if_neg h1]; exact hP, fun j _ => ⟨rfl, rfl⟩⟩
    rw [kup_two rfl rfl, X12_goesThrough_5, hfs, if_neg h1]
    conv => lhs; simp only [X12_goesThrough_0, X12_goesThrough_1, X12_goesThrough_2, X12_goesThrough_3, X12_goesThrough_7, X12_goesThrough_8, X12_goesThrough_11, X12_goesThrough_14, X12_goesThrough_15, X12_goesThrough_17, X12_goesThrough_20, X12_goesThrough_21, X12_goesThrough_24, X12_goesThrough_26, X12_goesThrough_27, X12_goesThrough_29, X12_goesThrough_30, X12_goesThrough_33, X12_goesThrough_35, X12_goesThrough_36, X12_goesThrough_37, X12_goesThrough_38, X12_goesThrough_40, X12_goesThrough_41, X12_goesThrough_44, X12_goesThrough_47, X12_goesThrough_48, X12_goesThrough_49, X12_goesThrough_51, X12_goesThrough_54, X12_goesThrough_55, X12_goesThrough_58, X12_goesThrough_60, X12_goesThrough_61, X12_goesThrough_64, X12_goesThrough_66, X12_goesThrough_67, X12_goesThrough_68, X12_goesThrough_69, X12_goesThrough_70, X12_goesThrough_71, X12_goesThrough_72, X12_goesThrough_73, X12_goesThrough_75, X12_goesThrough_76, X12_goesThrough_79, X12_goesThrough_82, X12_goesThrough_83, X12_goesThrough_84, X12_goesThrough_86, X12_goesThrough_89, X12_goesThrough_90, X12_goesThrough_91, X12_goesThrough_92, X12_goesThrough_93, X12_goesThrough_96, X12_goesThrough_97, X12_goesThrough_99, X12_goesThrough_102, X12_goesThrough_103, X12_goesThrough_106, X12_goesThrough_107, X12_goesThrough_108, X12_goesThrough_109, X12_goesThrough_111, X12_goesThrough_112, X12_goesThrough_115, X12_goesThrough_116, X12_goesThrough_117, X12_goesThrough_118, X12_goesThrough_119, X12_goesThrough_120, X12_goesThrough_123, X12_goesThrough_125, X12_goesThrough_126, X12_goesThrough_127, X12_goesThrough_130, X12_goesThrough_131, X12_goesThrough_134, X12_goesThrough_137, X12_goesThrough_138, X12_goesThrough_139, X12_goesThrough_142, show nI 119 = (119 : Int32) from rfl, if_pos (show ¬ (119 : Int32) = 120 from by decide), if_pos (show ¬ (119 : Int32) = 121 from by decide), if_pos (show ¬ (119 : Int32) = 109 from by decide), r_st_w hk2 hb, if_neg h1, is_217, if_true, g13_22, g13_19, g13_20, hm, if_neg ck, nI_1, kkl_i, kkl_r, Option.bind_some, Option.toList_some, Option.toList_none, List.cons_append, List.nil_append, if_neg (show ¬ (1 : Int32) = 0 from by decide)]
    rfl
theorem r_go_x {n b k : Nat} {acc : List (Nat × Nat)} {x : Nat × Nat} (hp : rPre i I n b k acc x) : rStep d h i l I J nw df P 120 b k acc x := by
  obtain ⟨hn, hm, hk, hb, ha, hP, hx1, hx2, ht2, hs2⟩ := hp
  have hk2 : k < 200 := by omega
  have ck : ¬ nI n ≤ nI k := nI_ge hk (by omega)
  have hfs : fs 120 b k acc x = acc ++ [(x.1, max 1 (min 99 (x.2 * b / 10)))] := rfl
  have hmul : x.2 * b ≤ 1000 * 100 := Nat.mul_le_mul (by omega) (by omega)
  have e1 : nI x.2 * nI b / (10 : Int32) = nI (x.2 * b / 10) := by rw [pk_mul, show (10 : Int32) = nI 10 from rfl, pk_div (by omega) (by decide) (by decide)]
  have e2 : (if (99 : Int32) < nI (x.2 * b / 10) then (99 : Int32) else nI (x.2 * b / 10)) = nI (min 99 (x.2 * b / 10)) := by
    by_cases z : 99 < x.2 * b / 10
    · rw [if_pos (show (99 : Int32) < nI (x.2 * b / 10) from nI_lt (a := 99) z (by omega)), show min 99 (x.2 * b / 10) = 99 by omega]; rfl
    · rw [if_neg (show ¬ (99 : Int32) < nI (x.2 * b / 10) from fun y => by
        have := (nI_ltI (a := 99) (b := x.2 * b / 10) (by decide) (by omega)).mp y
        omega), show min 99 (x.2 * b / 10) = x.2 * b / 10 by omega]
  have e3 : (if nI (min 99 (x.2 * b / 10)) < (1 : Int32) then (1 : Int32) else nI (min 99 (x.2 * b / 10))) = nI (max 1 (min 99 (x.2 * b / 10))) := by
    by_cases z : min 99 (x.2 * b / 10) < 1
    · rw [if_pos (show nI (min 99 (x.2 * b / 10)) < (1 : Int32) from nI_lt (b := 1) z (by decide)), show max 1 (min 99 (x.2 * b / 10)) = 1 by omega]; rfl
    · rw [if_neg (show ¬ nI (min 99 (x.2 * b / 10)) < (1 : Int32) from nI_nlt (b := 1) (by omega) (by omega)), show max 1 (min 99 (x.2 * b / 10)) = min 99 (x.2 * b / 10) by omega]
  refine ⟨upd (I 226) acc.length (nI x.1), upd (upd (I 227) k (nI (max 1 (min 99 (x.2 * b / 10))))) acc.length (nI (max 1 (min 99 (x.2 * b / 10)))), ?_, ?_, ?_⟩
  · rw [X12_goesThrough_5, hfs, List.length_append]
    conv => lhs; simp (disch := omega) only [X12_goesThrough_0, X12_goesThrough_1, X12_goesThrough_2, X12_goesThrough_3, X12_goesThrough_7, X12_goesThrough_8, X12_goesThrough_11, X12_goesThrough_14, X12_goesThrough_15, X12_goesThrough_17, X12_goesThrough_20, X12_goesThrough_21, X12_goesThrough_24, X12_goesThrough_26, X12_goesThrough_27, X12_goesThrough_29, X12_goesThrough_30, X12_goesThrough_33, X12_goesThrough_35, X12_goesThrough_36, X12_goesThrough_37, X12_goesThrough_38, X12_goesThrough_40, X12_goesThrough_41, X12_goesThrough_44, X12_goesThrough_47, X12_goesThrough_48, X12_goesThrough_49, X12_goesThrough_51, X12_goesThrough_54, X12_goesThrough_55, X12_goesThrough_58, X12_goesThrough_60, X12_goesThrough_61, X12_goesThrough_64, X12_goesThrough_66, X12_goesThrough_67, X12_goesThrough_68, X12_goesThrough_69, X12_goesThrough_70, X12_goesThrough_71, X12_goesThrough_72, X12_goesThrough_73, X12_goesThrough_75, X12_goesThrough_76, X12_goesThrough_79, X12_goesThrough_82, X12_goesThrough_83, X12_goesThrough_84, X12_goesThrough_86, X12_goesThrough_89, X12_goesThrough_90, X12_goesThrough_91, X12_goesThrough_92, X12_goesThrough_93, X12_goesThrough_96, X12_goesThrough_97, X12_goesThrough_99, X12_goesThrough_102, X12_goesThrough_103, X12_goesThrough_106, X12_goesThrough_107, X12_goesThrough_108, X12_goesThrough_109, X12_goesThrough_111, X12_goesThrough_112, X12_goesThrough_115, X12_goesThrough_116, X12_goesThrough_117, X12_goesThrough_118, X12_goesThrough_119, X12_goesThrough_120, X12_goesThrough_123, X12_goesThrough_125, X12_goesThrough_126, X12_goesThrough_127, X12_goesThrough_130, X12_goesThrough_131, X12_goesThrough_134, X12_goesThrough_137, X12_goesThrough_138, X12_goesThrough_139, X12_goesThrough_142, show nI 120 = (120 : Int32) from rfl, if_neg (show ¬ ¬ (120 : Int32) = 120 from by decide), if_pos (show ¬ (120 : Int32) = 121 from by decide), ln_227, sn_227, hx2, e1, e2, e3, if_neg (show ¬ (10 : Int32) = 0 from by decide), r_min, r_max, r_st_x, r_keeps (show acc.length < 200 by omega) hk2, kup_Is, kup_In (show (226 : Nat) ≠ 227 by decide), kup_In (show (227 : Nat) ≠ 226 by decide), not_true_eq_false, if_false, pk_us, is_217, if_true, g13_22, g13_19, g13_20, hm, if_neg ck, nI_1, kkl_i, kkl_r, Option.bind_some, Option.toList_some, Option.toList_none, List.cons_append, List.nil_append, if_neg (show ¬ (1 : Int32) = 0 from by decide)]
    rw [kup_com I _ _ (show (226 : Nat) ≠ 227 by decide), kup_I, hx1]
    rfl
  · rw [hfs]
    have := kRw_app (x := (x.1, max 1 (min 99 (x.2 * b / 10)))) (kRw_out (v := I 226 k) (w := nI (max 1 (min 99 (x.2 * b / 10)))) hP ha)
    rw [upd_id] at this
    exact this
  · intro j hj
    unfold upd
    rw [if_neg (by omega), if_neg (by omega), if_neg (by omega)]
    exact ⟨rfl, rfl⟩
theorem r_go_y {n b k : Nat} {acc : List (Nat × Nat)} {x : Nat × Nat} (hp : rPre i I n b k acc x) : rStep d h i l I J nw df P 121 b k acc x := by
  obtain ⟨hn, hm, hk, hb, ha, hP, hx1, hx2, ht2, hs2⟩ := hp
  have hk2 : k < 200 := by omega
  have ck : ¬ nI n ≤ nI k := nI_ge hk (by omega)
  have hfs : fs 121 b k acc x = acc ++ [(x.1 + b, x.2)] := rfl
  refine ⟨upd (upd (I 226) k (nI (x.1 + b))) acc.length (nI (x.1 + b)), upd (I 227) acc.length (nI x.2), ?_, ?_, ?_⟩
  · rw [X12_goesThrough_5, hfs, List.length_append]
    conv => lhs; simp (disch := omega) only [X12_goesThrough_0, X12_goesThrough_1, X12_goesThrough_2, X12_goesThrough_3, X12_goesThrough_7, X12_goesThrough_8, X12_goesThrough_11, X12_goesThrough_14, X12_goesThrough_15, X12_goesThrough_17, X12_goesThrough_20, X12_goesThrough_21, X12_goesThrough_24, X12_goesThrough_26, X12_goesThrough_27, X12_goesThrough_29, X12_goesThrough_30, X12_goesThrough_33, X12_goesThrough_35, X12_goesThrough_36, X12_goesThrough_37, X12_goesThrough_38, X12_goesThrough_40, X12_goesThrough_41, X12_goesThrough_44, X12_goesThrough_47, X12_goesThrough_48, X12_goesThrough_49, X12_goesThrough_51, X12_goesThrough_54, X12_goesThrough_55, X12_goesThrough_58, X12_goesThrough_60, X12_goesThrough_61, X12_goesThrough_64, X12_goesThrough_66, X12_goesThrough_67, X12_goesThrough_68, X12_goesThrough_69, X12_goesThrough_70, X12_goesThrough_71, X12_goesThrough_72, X12_goesThrough_73, X12_goesThrough_75, X12_goesThrough_76, X12_goesThrough_79, X12_goesThrough_82, X12_goesThrough_83, X12_goesThrough_84, X12_goesThrough_86, X12_goesThrough_89, X12_goesThrough_90, X12_goesThrough_91, X12_goesThrough_92, X12_goesThrough_93, X12_goesThrough_96, X12_goesThrough_97, X12_goesThrough_99, X12_goesThrough_102, X12_goesThrough_103, X12_goesThrough_106, X12_goesThrough_107, X12_goesThrough_108, X12_goesThrough_109, X12_goesThrough_111, X12_goesThrough_112, X12_goesThrough_115, X12_goesThrough_116, X12_goesThrough_117, X12_goesThrough_118, X12_goesThrough_119, X12_goesThrough_120, X12_goesThrough_123, X12_goesThrough_125, X12_goesThrough_126, X12_goesThrough_127, X12_goesThrough_130, X12_goesThrough_131, X12_goesThrough_134, X12_goesThrough_137, X12_goesThrough_138, X12_goesThrough_139, X12_goesThrough_142, show nI 121 = (121 : Int32) from rfl, if_pos (show ¬ (121 : Int32) = 120 from by decide), ln_226, sn_226, hx1, nI_add, r_st_y, r_keeps (show acc.length < 200 by omega) hk2, kup_Is, kup_In (show (226 : Nat) ≠ 227 by decide), kup_In (show (227 : Nat) ≠ 226 by decide), not_true_eq_false, if_false, pk_us, is_217, if_true, g13_22, g13_19, g13_20, hm, if_neg ck, nI_1, kkl_i, kkl_r, Option.bind_some, Option.toList_some, Option.toList_none, List.cons_append, List.nil_append, if_neg (show ¬ (1 : Int32) = 0 from by decide)]
    rw [kup_I, hx2]
    rfl
  · rw [hfs]
    have := kRw_app (x := (x.1 + b, x.2)) (kRw_out (v := nI (x.1 + b)) (w := I 227 k) hP ha)
    rw [upd_id] at this
    exact this
  · intro j hj
    unfold upd
    rw [if_neg (by omega), if_neg (by omega), if_neg (by omega)]
    exact ⟨rfl, rfl⟩
theorem r_go_m {n b k : Nat} {acc : List (Nat × Nat)} {x : Nat × Nat} (hp : rPre i I n b k acc x) (hord : ∀ y ∈ acc, y.1 ≤ x.1 ∧ y.2 < 1000) : rStep d h i l I J nw df P 109 b k acc x := by
  obtain ⟨hn, hm, hk, hb, ha, hP, hx1, hx2, ht2, hs2⟩ := hp
  have hk2 : k < 200 := by omega
  have ck : ¬ nI n ≤ nI k := nI_ge hk (by omega)
  rcases List.eq_nil_or_concat acc with h0 | ⟨ac, y, h0⟩
  · subst h0
    have hfs : fs 109 b k [] x = [x] := rfl
    refine ⟨upd (I 226) 0 (I 226 k), upd (I 227) 0 (I 227 k), ?_, ?_, ?_⟩
    · rw [X12_goesThrough_5, hfs]
      conv => lhs; simp only [X12_goesThrough_0, X12_goesThrough_1, X12_goesThrough_2, X12_goesThrough_3, X12_goesThrough_7, X12_goesThrough_8, X12_goesThrough_11, X12_goesThrough_14, X12_goesThrough_15, X12_goesThrough_17, X12_goesThrough_20, X12_goesThrough_21, X12_goesThrough_24, X12_goesThrough_26, X12_goesThrough_27, X12_goesThrough_29, X12_goesThrough_30, X12_goesThrough_33, X12_goesThrough_35, X12_goesThrough_36, X12_goesThrough_37, X12_goesThrough_38, X12_goesThrough_40, X12_goesThrough_41, X12_goesThrough_44, X12_goesThrough_47, X12_goesThrough_48, X12_goesThrough_49, X12_goesThrough_51, X12_goesThrough_54, X12_goesThrough_55, X12_goesThrough_58, X12_goesThrough_60, X12_goesThrough_61, X12_goesThrough_64, X12_goesThrough_66, X12_goesThrough_67, X12_goesThrough_68, X12_goesThrough_69, X12_goesThrough_70, X12_goesThrough_71, X12_goesThrough_72, X12_goesThrough_73, X12_goesThrough_75, X12_goesThrough_76, X12_goesThrough_79, X12_goesThrough_82, X12_goesThrough_83, X12_goesThrough_84, X12_goesThrough_86, X12_goesThrough_89, X12_goesThrough_90, X12_goesThrough_91, X12_goesThrough_92, X12_goesThrough_93, X12_goesThrough_96, X12_goesThrough_97, X12_goesThrough_99, X12_goesThrough_102, X12_goesThrough_103, X12_goesThrough_106, X12_goesThrough_107, X12_goesThrough_108, X12_goesThrough_109, X12_goesThrough_111, X12_goesThrough_112, X12_goesThrough_115, X12_goesThrough_116, X12_goesThrough_117, X12_goesThrough_118, X12_goesThrough_119, X12_goesThrough_120, X12_goesThrough_123, X12_goesThrough_125, X12_goesThrough_126, X12_goesThrough_127, X12_goesThrough_130, X12_goesThrough_131, X12_goesThrough_134, X12_goesThrough_137, X12_goesThrough_138, X12_goesThrough_139, X12_goesThrough_142, List.length_nil, show nI 109 = (109 : Int32) from rfl, if_pos (show ¬ (109 : Int32) = 120 from by decide), if_pos (show ¬ (109 : Int32) = 121 from by decide), r_st_m0, r_keeps (show 0 < 200 by decide) hk2, is_217, if_true, g13_22, g13_19, g13_20, hm, if_neg ck, nI_1, kkl_i, kkl_r, Option.bind_some, Option.toList_some, Option.toList_none, List.cons_append, List.nil_append, if_neg (show ¬ (1 : Int32) = 0 from by decide)]
      rfl
    · rw [hfs, hx1, hx2]
      exact kRw_app (acc := []) hP
    · intro j hj
      unfold upd
      rw [if_neg (by omega), if_neg (by omega)]
      exact ⟨rfl, rfl⟩
  · rw [List.concat_eq_append] at h0
    subst h0
    have hlen : (ac ++ [y]).length = ac.length + 1 := by simp
    rw [hlen] at ha
    have hy := hord y (by simp)
    have hyr := hP ac.length y (by simp)
    rw [Nat.zero_add] at hyr
    have hfs : fs 109 b k (ac ++ [y]) x = if b ≤ x.1 - y.1 then (ac ++ [y]) ++ [x] else ac ++ [(y.1, min 99 (y.2 + x.2))] := by
      simp [fs]
    have hst := r_st_m (d := d) (h := h) (i := i) (l := l) (J := J) (nw := nw) (df := df) (P := P) (n := ac.length + 1) hk2 (by omega) (by omega) hx1 (show I 226 (ac.length + 1 - 1) = nI y.1 from hyr.1) hy.1 ht2 hb
    have e2 : nI (ac.length + 1) - (1 : Int32) = nI ac.length := pk_sub (a := ac.length + 1) (b := 1) (by omega)
    by_cases h1 : b ≤ x.1 - y.1
    · refine ⟨upd (I 226) (ac.length + 1) (I 226 k), upd (I 227) (ac.length + 1) (I 227 k), ?_, ?_, ?_⟩
      · have hl2 : ((ac ++ [y]) ++ [x]).length = ac.length + 1 + 1 := by simp
        rw [X12_goesThrough_5, hfs, if_pos h1, hl2, hlen]
        conv => lhs; simp only [X12_goesThrough_0, X12_goesThrough_1, X12_goesThrough_2, X12_goesThrough_3, X12_goesThrough_7, X12_goesThrough_8, X12_goesThrough_11, X12_goesThrough_14, X12_goesThrough_15, X12_goesThrough_17, X12_goesThrough_20, X12_goesThrough_21, X12_goesThrough_24, X12_goesThrough_26, X12_goesThrough_27, X12_goesThrough_29, X12_goesThrough_30, X12_goesThrough_33, X12_goesThrough_35, X12_goesThrough_36, X12_goesThrough_37, X12_goesThrough_38, X12_goesThrough_40, X12_goesThrough_41, X12_goesThrough_44, X12_goesThrough_47, X12_goesThrough_48, X12_goesThrough_49, X12_goesThrough_51, X12_goesThrough_54, X12_goesThrough_55, X12_goesThrough_58, X12_goesThrough_60, X12_goesThrough_61, X12_goesThrough_64, X12_goesThrough_66, X12_goesThrough_67, X12_goesThrough_68, X12_goesThrough_69, X12_goesThrough_70, X12_goesThrough_71, X12_goesThrough_72, X12_goesThrough_73, X12_goesThrough_75, X12_goesThrough_76, X12_goesThrough_79, X12_goesThrough_82, X12_goesThrough_83, X12_goesThrough_84, X12_goesThrough_86, X12_goesThrough_89, X12_goesThrough_90, X12_goesThrough_91, X12_goesThrough_92, X12_goesThrough_93, X12_goesThrough_96, X12_goesThrough_97, X12_goesThrough_99, X12_goesThrough_102, X12_goesThrough_103, X12_goesThrough_106, X12_goesThrough_107, X12_goesThrough_108, X12_goesThrough_109, X12_goesThrough_111, X12_goesThrough_112, X12_goesThrough_115, X12_goesThrough_116, X12_goesThrough_117, X12_goesThrough_118, X12_goesThrough_119, X12_goesThrough_120, X12_goesThrough_123, X12_goesThrough_125, X12_goesThrough_126, X12_goesThrough_127, X12_goesThrough_130, X12_goesThrough_131, X12_goesThrough_134, X12_goesThrough_137, X12_goesThrough_138, X12_goesThrough_139, X12_goesThrough_142, show nI 109 = (109 : Int32) from rfl, if_pos (show ¬ (109 : Int32) = 120 from by decide), if_pos (show ¬ (109 : Int32) = 121 from by decide), hst, if_pos h1, r_keeps (show ac.length + 1 < 200 by omega) hk2, is_217, if_true, g13_22, g13_19, g13_20, hm, if_neg ck, nI_1, kkl_i, kkl_r, Option.bind_some, Option.toList_some, Option.toList_none, List.cons_append, List.nil_append, if_neg (show ¬ (1 : Int32) = 0 from by decide)]
        rfl
      · rw [hfs, if_pos h1, hx1, hx2, ← hlen]
        exact kRw_app hP
      · intro j hj
        unfold upd
        rw [if_neg (by omega), if_neg (by omega)]
        exact ⟨rfl, rfl⟩
    · have e3 : (if (99 : Int32) < nI (y.2 + x.2) then (99 : Int32) else nI (y.2 + x.2)) = nI (min 99 (y.2 + x.2)) := by
        by_cases z : 99 < y.2 + x.2
        · rw [if_pos (show (99 : Int32) < nI (y.2 + x.2) from nI_lt (a := 99) z (by omega)), show min 99 (y.2 + x.2) = 99 by omega]; rfl
        · rw [if_neg (show ¬ (99 : Int32) < nI (y.2 + x.2) from fun q => by
            have := (nI_ltI (a := 99) (b := y.2 + x.2) (by decide) (by omega)).mp q
            omega), show min 99 (y.2 + x.2) = y.2 + x.2 by omega]
      refine ⟨I 226, upd (I 227) ac.length (nI (min 99 (y.2 + x.2))), ?_, ?_, ?_⟩
      · have hl2 : (ac ++ [(y.1, min 99 (y.2 + x.2))]).length = ac.length + 1 := by simp
        rw [X12_goesThrough_5, hfs, if_neg h1, hl2, hlen]
        conv => lhs; simp (disch := omega) only [X12_goesThrough_0, X12_goesThrough_1, X12_goesThrough_2, X12_goesThrough_3, X12_goesThrough_7, X12_goesThrough_8, X12_goesThrough_11, X12_goesThrough_14, X12_goesThrough_15, X12_goesThrough_17, X12_goesThrough_20, X12_goesThrough_21, X12_goesThrough_24, X12_goesThrough_26, X12_goesThrough_27, X12_goesThrough_29, X12_goesThrough_30, X12_goesThrough_33, X12_goesThrough_35, X12_goesThrough_36, X12_goesThrough_37, X12_goesThrough_38, X12_goesThrough_40, X12_goesThrough_41, X12_goesThrough_44, X12_goesThrough_47, X12_goesThrough_48, X12_goesThrough_49, X12_goesThrough_51, X12_goesThrough_54, X12_goesThrough_55, X12_goesThrough_58, X12_goesThrough_60, X12_goesThrough_61, X12_goesThrough_64, X12_goesThrough_66, X12_goesThrough_67, X12_goesThrough_68, X12_goesThrough_69, X12_goesThrough_70, X12_goesThrough_71, X12_goesThrough_72, X12_goesThrough_73, X12_goesThrough_75, X12_goesThrough_76, X12_goesThrough_79, X12_goesThrough_82, X12_goesThrough_83, X12_goesThrough_84, X12_goesThrough_86, X12_goesThrough_89, X12_goesThrough_90, X12_goesThrough_91, X12_goesThrough_92, X12_goesThrough_93, X12_goesThrough_96, X12_goesThrough_97, X12_goesThrough_99, X12_goesThrough_102, X12_goesThrough_103, X12_goesThrough_106, X12_goesThrough_107, X12_goesThrough_108, X12_goesThrough_109, X12_goesThrough_111, X12_goesThrough_112, X12_goesThrough_115, X12_goesThrough_116, X12_goesThrough_117, X12_goesThrough_118, X12_goesThrough_119, X12_goesThrough_120, X12_goesThrough_123, X12_goesThrough_125, X12_goesThrough_126, X12_goesThrough_127, X12_goesThrough_130, X12_goesThrough_131, X12_goesThrough_134, X12_goesThrough_137, X12_goesThrough_138, X12_goesThrough_139, X12_goesThrough_142, show nI 109 = (109 : Int32) from rfl, if_pos (show ¬ (109 : Int32) = 120 from by decide), if_pos (show ¬ (109 : Int32) = 121 from by decide), hst, if_neg h1, not_true_eq_false, if_false, e2, ln_227, sn_227, hyr.2, hx2, nI_add, r_min, e3, is_217, if_true, g13_22, g13_19, g13_20, hm, if_neg ck, nI_1, kkl_i, kkl_r, Option.bind_some, Option.toList_some, Option.toList_none, List.cons_append, List.nil_append, if_neg (show ¬ (1 : Int32) = 0 from by decide)]
        have e4 : va_up I 226 (I 226) = I := kup_Ii (fun _ => rfl)
        rw [e4]
        rfl
      · rw [hfs, if_neg h1]
        have hP2 : kRw (I 226) (I 227) 0 ac := fun j z hz => hP j z (by rw [List.getElem?_append_left (List.getElem?_eq_some_iff.mp hz).1]; exact hz)
        have := kRw_app (x := (y.1, min 99 (y.2 + x.2))) hP2
        rw [show nI (y.1, min 99 (y.2 + x.2)).1 = I 226 ac.length from hyr.1.symm, upd_id] at this
        exact this
      · intro j hj
        unfold upd
        rw [if_neg (by omega)]
        exact ⟨rfl, rfl⟩
end RF2
