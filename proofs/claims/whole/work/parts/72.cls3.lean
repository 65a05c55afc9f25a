/-! OWN: the class: ratios -/
/-- Euclid, so many rounds at most -/
def gl : Nat → Nat → Nat → Nat
  | 0, a, _ => a
  | f + 1, a, b => if b = 0 then a else gl f b (a % b)
theorem gl_gcd : ∀ (k f a b : Nat), b < 2 ^ k → 2 * k + 1 ≤ f → gl f a b = Nat.gcd a b
  | 0, f, a, b, hb, hf => by
    have : b = 0 := by simpa using hb
    subst this
    cases f with
    | zero => rw [gl, Nat.gcd_zero_right]
    | succ f => rw [gl, if_pos rfl, Nat.gcd_zero_right]
  | k + 1, f, a, b, hb, hf => by
    match f, hf with
    | f + 2, hf =>
      rw [gl]
      by_cases h0 : b = 0
      · rw [if_pos h0, h0, Nat.gcd_zero_right]
      · rw [if_neg h0, gl, gcd_step a b]
        have hr := Nat.mod_lt a (show 0 < b by omega)
        by_cases h1 : a % b = 0
        · rw [if_pos h1, h1, Nat.gcd_zero_right]
        · rw [if_neg h1, gcd_step b (a % b)]
          have hs := Nat.mod_lt b (show 0 < a % b by omega)
          have ht : b % (a % b) + (a % b) ≤ b := by
            have e := Nat.div_add_mod b (a % b)
            have e2 : 1 ≤ b / (a % b) := Nat.div_pos (by omega) (by omega)
            have e3 : a % b ≤ a % b * (b / (a % b)) := Nat.le_mul_of_pos_right _ e2
            omega
          exact gl_gcd k f (a % b) (b % (a % b)) (by rw [Nat.pow_succ] at hb; omega) (by omega)
theorem j_maxl {d : Nat} {h : kH} (a b : Int64) : rn (d + 1) mJ9_max_f86c9 [.long a, .long b] h = some (some (.long (if a < b then b else a)), h) := by
  simp only [J9_max_f86c9_E, J9_max_f86c9_0, J9_max_f86c9_1, J9_max_f86c9_2, J9_max_f86c9_3, J9_max_f86c9_6, J9_max_f86c9_7, J9_max_f86c9_10, J9_max_f86c9_11, lg_cmp_lt]
  by_cases h1 : a < b
  · rw [if_pos h1, if_pos h1]
  · rw [if_neg h1, if_neg h1]
theorem j_abs {d : Nat} {h : kH} (a : Int64) : rn (d + 1) mJ9_abs_067f4 [.long a] h = some (some (.long (if a < 0 then -a else a)), h) := by
  simp only [J9_abs_067f4_E, J9_abs_067f4_0, J9_abs_067f4_1, J9_abs_067f4_2, J9_abs_067f4_3, J9_abs_067f4_6, J9_abs_067f4_7, J9_abs_067f4_8, J9_abs_067f4_11, J9_abs_067f4_12, lg_cmp_ge]
  by_cases h1 : a < 0
  · rw [if_neg (fun z => absurd h1 (Int64.not_lt.mpr z)), if_pos h1]
  · rw [if_pos (Int64.not_lt.mp h1), if_neg h1]
theorem c_gl {d : Nat} {h : kH} {a0 a1 a2 a3 : Option Value} : ∀ (f k x y : Nat) (o : Option Value), k + f = 200 → x < 2 ^ 63 → y < 2 ^ 63 → ex d mX5_divisor 9 [a0, a1, a2, a3, some (.long (lN x)), none, some (.long (lN y)), none, some (.int (nI k)), o, none] [] h = some (some (.long (lN (gl f x y))), h)
  | 0, k, x, y, o, hk, hx, hy => by
    rw [X5_divisor_9]
    simp only [X5_divisor_0, X5_divisor_1, X5_divisor_3, X5_divisor_4, X5_divisor_6, X5_divisor_7, X5_divisor_11, X5_divisor_14, X5_divisor_17, X5_divisor_19, X5_divisor_20, X5_divisor_21, X5_divisor_24, X5_divisor_26, X5_divisor_28, X5_divisor_29, X5_divisor_31, X5_divisor_33, X5_divisor_35, X5_divisor_37, X5_divisor_39, X5_divisor_42, X5_divisor_45, X5_divisor_47, if_pos (show (200 : Int32) ≤ nI k from nI_le (a := 200) (by omega) (by omega)), gl]
  | f + 1, k, x, y, o, hk, hx, hy => by
    have c0 : ¬ (200 : Int32) ≤ nI k := nI_ge (b := 200) (by omega) (by omega)
    rw [X5_divisor_9, gl]
    by_cases h0 : y = 0
    · subst h0
      simp only [X5_divisor_0, X5_divisor_1, X5_divisor_3, X5_divisor_4, X5_divisor_6, X5_divisor_7, X5_divisor_11, X5_divisor_14, X5_divisor_17, X5_divisor_19, X5_divisor_20, X5_divisor_21, X5_divisor_24, X5_divisor_26, X5_divisor_28, X5_divisor_29, X5_divisor_31, X5_divisor_33, X5_divisor_35, X5_divisor_37, X5_divisor_39, X5_divisor_42, X5_divisor_45, X5_divisor_47, if_neg c0, lg_cmp_eq, show lN 0 = (0 : Int64) from rfl, if_true]
    · have c1 : ¬ lN y = (0 : Int64) := fun z => h0 ((pk_lEQ hy (by decide)).mp (show lN y = lN 0 from z))
      have hm := Nat.mod_lt x (show 0 < y by omega)
      rw [if_neg h0]
      conv => lhs; simp only [X5_divisor_0, X5_divisor_1, X5_divisor_3, X5_divisor_4, X5_divisor_6, X5_divisor_7, X5_divisor_11, X5_divisor_14, X5_divisor_17, X5_divisor_19, X5_divisor_20, X5_divisor_21, X5_divisor_24, X5_divisor_26, X5_divisor_28, X5_divisor_29, X5_divisor_31, X5_divisor_33, X5_divisor_35, X5_divisor_37, X5_divisor_39, X5_divisor_42, X5_divisor_45, X5_divisor_47, if_neg c0, lg_cmp_eq, if_neg c1, pk_lRem hx (show 0 < y by omega) hy, kkl_l, kkl_i, kkl_0, nI_1]
      rw [c_gl f (k + 1) y (x % y) _ (by omega) hy (by omega)]
theorem c_divisor {d : Nat} {h : kH} {a b : Nat} (ha : a < 2 ^ 63) (hb : b < 2 ^ 63) : rn (d + 1) mX5_divisor [.long (lN a), .long (lN b)] h = some (some (.long (lN (Nat.gcd a b))), h) := by
  rw [X5_divisor_E]
  conv => lhs; simp only [X5_divisor_0, X5_divisor_1, X5_divisor_3, X5_divisor_4, X5_divisor_6, X5_divisor_7, X5_divisor_11, X5_divisor_14, X5_divisor_17, X5_divisor_19, X5_divisor_20, X5_divisor_21, X5_divisor_24, X5_divisor_26, X5_divisor_28, X5_divisor_29, X5_divisor_31, X5_divisor_33, X5_divisor_35, X5_divisor_37, X5_divisor_39, X5_divisor_42, X5_divisor_45, X5_divisor_47, kkl_l, kkl_0, k_lit0]
  rw [c_gl 200 0 a b none rfl ha hb, gl_gcd 63 200 a b hb (by decide)]
section CR
variable {d : Nat} {h : kH} {i : Nat → Nat → Int32} {l : Nat → Nat → Int64} {I : Nat → Nat → Int32} {J : Nat → Nat → Int64} {nw df : Nat} {P : Nat → Nat}
/-- a ratio takes a fraction of whole numbers above 0 -/
theorem c_become {q a b : Nat} (hq : kd q = (6, 0)) (h32 : 32 ≤ q) (ha : a < 2 ^ 62) (hb : 0 < b) (hb2 : b < 2 ^ 62) : rn (d + 2) mX5_become [.ref q, .long (lN a), .long (lN b)] (mH h i l I J nw df P) = some (none, mH h i (ku2 (ku2 l q 0 (lN (a / Nat.gcd a b))) q 1 (lN (b / Nat.gcd a b))) I J nw df P) := by
  have hg : 0 < Nat.gcd a b := Nat.gcd_pos_of_pos_right _ hb
  have hg2 : Nat.gcd a b ≤ b := Nat.gcd_le_right _ hb
  have e1 : (if (1 : Int64) < lN (Nat.gcd a b) then lN (Nat.gcd a b) else 1) = lN (Nat.gcd a b) := by
    by_cases h1 : 1 < Nat.gcd a b
    · exact if_pos ((pk_lLT (a := 1) (by decide) (by omega)).mpr h1)
    · rw [if_neg (show ¬ (1 : Int64) < lN (Nat.gcd a b) from fun z => h1 ((pk_lLT (a := 1) (by decide) (show Nat.gcd a b < 2 ^ 63 by omega)).mp z)), show Nat.gcd a b = 1 by omega]
      rfl
  have hg3 : ¬ lN (Nat.gcd a b) = (0 : Int64) := fun z => by have := (pk_lEQ (a := Nat.gcd a b) (b := 0) (by omega) (by decide)).mp z; omega
  rw [X5_become_E]
  simp only [X5_become_0, X5_become_1, X5_become_2, X5_become_5, X5_become_6, X5_become_9, X5_become_12, X5_become_14, X5_become_15, X5_become_16, X5_become_18, X5_become_19, X5_become_22, X5_become_23, X5_become_24, X5_become_26, X5_become_27, X5_become_30, j_abs, j_maxl, if_neg (lN_nneg (show a < 2 ^ 63 by omega)), c_divisor (show a < 2 ^ 63 by omega) (show b < 2 ^ 63 by omega), e1, if_neg hg3, pk_lDiv (show a < 2 ^ 63 by omega) hg (show Nat.gcd a b < 2 ^ 63 by omega), pk_lDiv (show b < 2 ^ 63 by omega) hg (show Nat.gcd a b < 2 ^ 63 by omega), p6_0 hq h32, p6_1 hq h32, Option.bind_some, Option.toList_some, List.cons_append, List.nil_append, kkl_l, kkl_0]
/-- the bearing of a state at q, as a file has it -/
def cBe (i : Nat → Nat → Int32) (q : Nat) (F : Nat → Nat) : Prop := i q 0 = nI (F 5) ∧ i q 1 = nI (F 6) ∧ i q 2 = nI (F 7)
theorem c_rate {F : Nat → Nat} {q r k : Nat} (hq : kd q = (8, 0)) (h32 : 32 ≤ q) (hr : kd r = (6, 0)) (hr32 : 32 ≤ r) (hB : cBe i q F) (ok : okB F) (hk : k < 5) : rn (d + 3) mX7_rate [.ref q, .int (nI k), .ref r] (mH h i l I J nw df P) = some (none, mH h i (ku2 (ku2 l r 0 (lN (rUp F k))) r 1 (lN (rLo F k))) I J nw df P) := by
  have b1 := rUpN_b ok hk
  have b2 := rLoN_b ok hk
  have hbc := c_become (d := d) (h := h) (i := i) (l := l) (I := I) (J := J) (nw := nw) (df := df) (P := P) hr hr32 (show rUpN F k < 2 ^ 62 by omega) (show 0 < rLoN F k by omega) (show rLoN F k < 2 ^ 62 by omega)
  obtain ⟨h1, h2, h3, h4, h5, h6⟩ := ok
  obtain ⟨f5, f6, f7⟩ := hB
  have s5 : F 6 * F 6 ≤ F 7 * F 7 := Nat.mul_le_mul (by omega) (by omega)
  have his := m_is (h := h) (i := i) (l := l) (I := I) (J := J) (nw := nw) (df := df) (P := P) hr hr32 (show 6 < 20 by decide)
  rcases (show k = 0 ∨ k = 1 ∨ k = 2 ∨ k = 3 ∨ k = 4 by omega) with rfl | rfl | rfl | rfl | rfl
  · have u1 : (nI (F 5) * (nI (F 7) - nI (F 6))).toInt64 = lN (rUpN F 0) := by rw [pk_sub (by omega), pk_mul]; exact nI_l (show rUpN F 0 < 2 ^ 31 by omega)
    have u2 : ((2 : Int32) * nI (F 7)).toInt64 = lN (rLoN F 0) := by rw [show (2 : Int32) = nI 2 from rfl, pk_mul]; exact nI_l (show rLoN F 0 < 2 ^ 31 by omega)
    simp only [X7_rate_E, X7_rate_0, X7_rate_1, X7_rate_32, X7_rate_33, X7_rate_34, X7_rate_37, X7_rate_38, X7_rate_41, X7_rate_42, X7_rate_45, X7_rate_46, X7_rate_47, X7_rate_48, X7_rate_49, X7_rate_50, X7_rate_53, X7_rate_54, X7_rate_55, X7_rate_58, X7_rate_61, X7_rate_62, X7_rate_63, X7_rate_66, X7_rate_67, X7_rate_70, X7_rate_71, X7_rate_74, X7_rate_75, X7_rate_76, X7_rate_77, X7_rate_78, X7_rate_79, X7_rate_82, X7_rate_83, X7_rate_84, X7_rate_87, X7_rate_90, X7_rate_91, X7_rate_92, X7_rate_95, X7_rate_96, X7_rate_99, X7_rate_100, X7_rate_101, X7_rate_104, X7_rate_105, X7_rate_108, X7_rate_109, X7_rate_110, X7_rate_111, X7_rate_112, X7_rate_115, X7_rate_116, X7_rate_119, X7_rate_120, X7_rate_121, X7_rate_124, X7_rate_127, X7_rate_128, X7_rate_129, X7_rate_132, X7_rate_133, X7_rate_136, X7_rate_137, X7_rate_138, X7_rate_139, X7_rate_140, X7_rate_143, X7_rate_144, X7_rate_145, X7_rate_148, X7_rate_151, X7_rate_152, X7_rate_153, X7_rate_154, X7_rate_157, show nI 0 = (0 : Int32) from rfl, if_true, g8_0 hq h32, g8_1 hq h32, g8_2 hq h32, f5, f6, f7, u1, u2, his, hbc, Option.bind_some, Option.toList_none, List.nil_append]
    rfl
  · have u1 : (nI (F 5) * (nI (F 7) + nI (F 6))).toInt64 = lN (rUpN F 1) := by rw [nI_add, pk_mul]; exact nI_l (show rUpN F 1 < 2 ^ 31 by omega)
    have u2 : ((2 : Int32) * nI (F 7)).toInt64 = lN (rLoN F 1) := by rw [show (2 : Int32) = nI 2 from rfl, pk_mul]; exact nI_l (show rLoN F 1 < 2 ^ 31 by omega)
    simp only [X7_rate_E, X7_rate_0, X7_rate_1, X7_rate_32, X7_rate_33, X7_rate_34, X7_rate_37, X7_rate_38, X7_rate_41, X7_rate_42, X7_rate_45, X7_rate_46, X7_rate_47, X7_rate_48, X7_rate_49, X7_rate_50, X7_rate_53, X7_rate_54, X7_rate_55, X7_rate_58, X7_rate_61, X7_rate_62, X7_rate_63, X7_rate_66, X7_rate_67, X7_rate_70, X7_rate_71, X7_rate_74, X7_rate_75, X7_rate_76, X7_rate_77, X7_rate_78, X7_rate_79, X7_rate_82, X7_rate_83, X7_rate_84, X7_rate_87, X7_rate_90, X7_rate_91, X7_rate_92, X7_rate_95, X7_rate_96, X7_rate_99, X7_rate_100, X7_rate_101, X7_rate_104, X7_rate_105, X7_rate_108, X7_rate_109, X7_rate_110, X7_rate_111, X7_rate_112, X7_rate_115, X7_rate_116, X7_rate_119, X7_rate_120, X7_rate_121, X7_rate_124, X7_rate_127, X7_rate_128, X7_rate_129, X7_rate_132, X7_rate_133, X7_rate_136, X7_rate_137, X7_rate_138, X7_rate_139, X7_rate_140, X7_rate_143, X7_rate_144, X7_rate_145, X7_rate_148, X7_rate_151, X7_rate_152, X7_rate_153, X7_rate_154, X7_rate_157, show nI 1 = (1 : Int32) from rfl, if_neg (show ¬ (1 : Int32) = 0 from by decide), if_true, g8_0 hq h32, g8_1 hq h32, g8_2 hq h32, f5, f6, f7, u1, u2, his, hbc, Option.bind_some, Option.toList_none, List.nil_append]
    rfl
  · have u1 : (nI (F 7) * nI (F 7) - nI (F 6) * nI (F 6)).toInt64 = lN (rUpN F 2) := by rw [pk_mul, pk_mul, pk_sub s5]; exact nI_l (show rUpN F 2 < 2 ^ 31 by omega)
    have u2 : (nI (F 7) * nI (F 6)).toInt64 = lN (rLoN F 2) := by rw [pk_mul]; exact nI_l (show rLoN F 2 < 2 ^ 31 by omega)
    simp only [X7_rate_E, X7_rate_0, X7_rate_1, X7_rate_32, X7_rate_33, X7_rate_34, X7_rate_37, X7_rate_38, X7_rate_41, X7_rate_42, X7_rate_45, X7_rate_46, X7_rate_47, X7_rate_48, X7_rate_49, X7_rate_50, X7_rate_53, X7_rate_54, X7_rate_55, X7_rate_58, X7_rate_61, X7_rate_62, X7_rate_63, X7_rate_66, X7_rate_67, X7_rate_70, X7_rate_71, X7_rate_74, X7_rate_75, X7_rate_76, X7_rate_77, X7_rate_78, X7_rate_79, X7_rate_82, X7_rate_83, X7_rate_84, X7_rate_87, X7_rate_90, X7_rate_91, X7_rate_92, X7_rate_95, X7_rate_96, X7_rate_99, X7_rate_100, X7_rate_101, X7_rate_104, X7_rate_105, X7_rate_108, X7_rate_109, X7_rate_110, X7_rate_111, X7_rate_112, X7_rate_115, X7_rate_116, X7_rate_119, X7_rate_120, X7_rate_121, X7_rate_124, X7_rate_127, X7_rate_128, X7_rate_129, X7_rate_132, X7_rate_133, X7_rate_136, X7_rate_137, X7_rate_138, X7_rate_139, X7_rate_140, X7_rate_143, X7_rate_144, X7_rate_145, X7_rate_148, X7_rate_151, X7_rate_152, X7_rate_153, X7_rate_154, X7_rate_157, show nI 2 = (2 : Int32) from rfl, if_neg (show ¬ (2 : Int32) = 0 from by decide), if_neg (show ¬ (2 : Int32) = 1 from by decide), if_true, g8_0 hq h32, g8_1 hq h32, g8_2 hq h32, f5, f6, f7, u1, u2, his, hbc, Option.bind_some, Option.toList_none, List.nil_append]
    rfl
  · have u1 : (nI (F 7) - nI (F 6)).toInt64 = lN (rUpN F 3) := by rw [pk_sub (by omega)]; exact nI_l (show rUpN F 3 < 2 ^ 31 by omega)
    have u2 : ((2 : Int32) * nI (F 7)).toInt64 = lN (rLoN F 3) := by rw [show (2 : Int32) = nI 2 from rfl, pk_mul]; exact nI_l (show rLoN F 3 < 2 ^ 31 by omega)
    simp only [X7_rate_E, X7_rate_0, X7_rate_1, X7_rate_32, X7_rate_33, X7_rate_34, X7_rate_37, X7_rate_38, X7_rate_41, X7_rate_42, X7_rate_45, X7_rate_46, X7_rate_47, X7_rate_48, X7_rate_49, X7_rate_50, X7_rate_53, X7_rate_54, X7_rate_55, X7_rate_58, X7_rate_61, X7_rate_62, X7_rate_63, X7_rate_66, X7_rate_67, X7_rate_70, X7_rate_71, X7_rate_74, X7_rate_75, X7_rate_76, X7_rate_77, X7_rate_78, X7_rate_79, X7_rate_82, X7_rate_83, X7_rate_84, X7_rate_87, X7_rate_90, X7_rate_91, X7_rate_92, X7_rate_95, X7_rate_96, X7_rate_99, X7_rate_100, X7_rate_101, X7_rate_104, X7_rate_105, X7_rate_108, X7_rate_109, X7_rate_110, X7_rate_111, X7_rate_112, X7_rate_115, X7_rate_116, X7_rate_119, X7_rate_120, X7_rate_121, X7_rate_124, X7_rate_127, X7_rate_128, X7_rate_129, X7_rate_132, X7_rate_133, X7_rate_136, X7_rate_137, X7_rate_138, X7_rate_139, X7_rate_140, X7_rate_143, X7_rate_144, X7_rate_145, X7_rate_148, X7_rate_151, X7_rate_152, X7_rate_153, X7_rate_154, X7_rate_157, show nI 3 = (3 : Int32) from rfl, if_neg (show ¬ (3 : Int32) = 0 from by decide), if_neg (show ¬ (3 : Int32) = 1 from by decide), if_neg (show ¬ (3 : Int32) = 2 from by decide), if_true, g8_0 hq h32, g8_1 hq h32, g8_2 hq h32, f5, f6, f7, u1, u2, his, hbc, Option.bind_some, Option.toList_none, List.nil_append]
    rfl
  · have hb4 : rn (d + 2) mX5_become [.ref r, .long 1, .long 1] (mH h i l I J nw df P) = some (none, mH h i (ku2 (ku2 l r 0 (lN (rUp F 4))) r 1 (lN (rLo F 4))) I J nw df P) := hbc
    simp only [X7_rate_E, X7_rate_0, X7_rate_1, X7_rate_32, X7_rate_33, X7_rate_34, X7_rate_37, X7_rate_38, X7_rate_41, X7_rate_42, X7_rate_45, X7_rate_46, X7_rate_47, X7_rate_48, X7_rate_49, X7_rate_50, X7_rate_53, X7_rate_54, X7_rate_55, X7_rate_58, X7_rate_61, X7_rate_62, X7_rate_63, X7_rate_66, X7_rate_67, X7_rate_70, X7_rate_71, X7_rate_74, X7_rate_75, X7_rate_76, X7_rate_77, X7_rate_78, X7_rate_79, X7_rate_82, X7_rate_83, X7_rate_84, X7_rate_87, X7_rate_90, X7_rate_91, X7_rate_92, X7_rate_95, X7_rate_96, X7_rate_99, X7_rate_100, X7_rate_101, X7_rate_104, X7_rate_105, X7_rate_108, X7_rate_109, X7_rate_110, X7_rate_111, X7_rate_112, X7_rate_115, X7_rate_116, X7_rate_119, X7_rate_120, X7_rate_121, X7_rate_124, X7_rate_127, X7_rate_128, X7_rate_129, X7_rate_132, X7_rate_133, X7_rate_136, X7_rate_137, X7_rate_138, X7_rate_139, X7_rate_140, X7_rate_143, X7_rate_144, X7_rate_145, X7_rate_148, X7_rate_151, X7_rate_152, X7_rate_153, X7_rate_154, X7_rate_157, show nI 4 = (4 : Int32) from rfl, if_neg (show ¬ (4 : Int32) = 0 from by decide), if_neg (show ¬ (4 : Int32) = 1 from by decide), if_neg (show ¬ (4 : Int32) = 2 from by decide), if_neg (show ¬ (4 : Int32) = 3 from by decide), his, hb4, if_true, Option.bind_some, Option.toList_none, List.nil_append]
end CR
