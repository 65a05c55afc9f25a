/-! OWN: filters: the mathematics, the reference -/
/-- one knock x, the k-th, comes to those that stayed so far, by a step c b -/
def fs (c b k : Nat) (acc : List (Nat × Nat)) (x : Nat × Nat) : List (Nat × Nat) :=
  if c = 97 then (if b ≤ x.2 then acc ++ [x] else acc)
  else if c = 98 then (if x.2 ≤ b then acc ++ [x] else acc)
  else if c = 107 then (if k % b = 0 then acc ++ [x] else acc)
  else if c = 114 then (if b ≤ k then acc ++ [x] else acc)
  else if c = 119 then (if k < b then acc ++ [x] else acc)
  else if c = 120 then acc ++ [(x.1, max 1 (min 99 (x.2 * b / 10)))]
  else if c = 121 then acc ++ [(x.1 + b, x.2)]
  else match acc.getLast? with
    | none => acc ++ [x]
    | some y => if b ≤ x.1 - y.1 then acc ++ [x] else acc.dropLast ++ [(y.1, min 99 (y.2 + x.2))]
def fgo (c b : Nat) : List (Nat × Nat) → Nat → List (Nat × Nat) → List (Nat × Nat)
  | [], _, acc => acc
  | x :: r, k, acc => fgo c b r (k + 1) (fs c b k acc x)
/-- rows hold a list from a place on -/
def kRw (T S : Nat → Int32) (k : Nat) (r : List (Nat × Nat)) : Prop := ∀ j y, r[j]? = some y → T (k + j) = nI y.1 ∧ S (k + j) = nI y.2
theorem kRw_app {T S : Nat → Int32} {acc : List (Nat × Nat)} {x : Nat × Nat} (h : kRw T S 0 acc) : kRw (upd T acc.length (nI x.1)) (upd S acc.length (nI x.2)) 0 (acc ++ [x]) := by
  intro j y hj
  rw [Nat.zero_add]
  rcases Nat.lt_or_ge j acc.length with z | z
  · rw [List.getElem?_append_left z] at hj
    have := h j y hj
    rw [Nat.zero_add] at this
    unfold upd
    rw [if_neg (by omega), if_neg (by omega)]
    exact this
  · rw [List.getElem?_append_right z] at hj
    have hz : j - acc.length < 1 := (List.getElem?_eq_some_iff.mp hj).1
    have e : j = acc.length := by omega
    subst e
    simp at hj
    subst hj
    unfold upd
    rw [if_pos rfl, if_pos rfl]
    exact ⟨rfl, rfl⟩
theorem fs_len (c b k : Nat) (acc : List (Nat × Nat)) (x : Nat × Nat) : (fs c b k acc x).length ≤ acc.length + 1 := by
  unfold fs
  repeat' split
  all_goals simp
  all_goals omega
section RF
variable {d : Nat} {h : kH} {i : Nat → Nat → Int32} {l : Nat → Nat → Int64} {I : Nat → Nat → Int32} {J : Nat → Nat → Int64} {nw df : Nat} {P : Nat → Nat}
theorem kup_two {T S : Nat → Int32} (h1 : T = I 226) (h2 : S = I 227) : va_up (va_up I 226 T) 227 S = I := by
  subst h1
  subst h2
  funext a
  unfold va_up
  split
  · rename_i e; rw [e]
  · split
    · rename_i e; rw [e]
    · rfl
theorem r_keeps {n k : Nat} (hn : n < 200) (hk : k < 200) : rn (d + 1) mX12_keepsKnock [.ref 217, .int (nI n), .int (nI k)] (mH h i l I J nw df P) = some (none, mH h i l (va_up (va_up I 226 (upd (I 226) n (I 226 k))) 227 (upd (I 227) n (I 227 k))) J nw df P) := by
  rw [X12_keepsKnock_E]
  simp (disch := omega) only [X12_keepsKnock_0, X12_keepsKnock_1, X12_keepsKnock_4, X12_keepsKnock_5, X12_keepsKnock_6, X12_keepsKnock_9, X12_keepsKnock_10, X12_keepsKnock_11, X12_keepsKnock_12, X12_keepsKnock_13, X12_keepsKnock_16, X12_keepsKnock_17, X12_keepsKnock_18, X12_keepsKnock_21, X12_keepsKnock_22, X12_keepsKnock_23, X12_keepsKnock_24, g13_19, g13_20, ln_226, sn_226, ln_227, sn_227, kup_In (show (227 : Nat) ≠ 226 by decide), Option.bind_some]
theorem r_st_a {b k s : Nat} {n : Int32} (hk : k < 200) (hs : I 227 k = nI s) (hb : b < 100) (hs2 : s < 1000) : rn (d + 1) mX12_stays [.ref 217, .int 97, .int (nI b), .int (nI k), .int n] (mH h i l I J nw df P) = some (some (.int (if b ≤ s then 1 else 0)), mH h i l I J nw df P) := by
  rw [X12_stays_E]
  simp (disch := omega) only [X12_stays_0, X12_stays_1, X12_stays_60, X12_stays_61, X12_stays_64, X12_stays_65, X12_stays_66, X12_stays_67, X12_stays_70, X12_stays_71, X12_stays_74, X12_stays_75_0, X12_stays_75_1, X12_stays_76, X12_stays_77, X12_stays_80, X12_stays_81, X12_stays_82, X12_stays_83, X12_stays_86, X12_stays_87, X12_stays_90, X12_stays_91_0, X12_stays_91_1, X12_stays_92, X12_stays_94, X12_stays_97, X12_stays_98, X12_stays_101, X12_stays_102, X12_stays_103, X12_stays_104, X12_stays_107, X12_stays_109, X12_stays_110, X12_stays_111, X12_stays_112, X12_stays_113, X12_stays_114, X12_stays_117, X12_stays_118, X12_stays_121, X12_stays_122_0, X12_stays_122_1, X12_stays_123, X12_stays_124, X12_stays_125, X12_stays_126, X12_stays_129, X12_stays_130, X12_stays_133, X12_stays_134_0, X12_stays_134_1, X12_stays_135, X12_stays_136, X12_stays_137, X12_stays_140, X12_stays_141, X12_stays_144, X12_stays_145_0, X12_stays_145_1, X12_stays_146, X12_stays_147, X12_stays_148, X12_stays_151, X12_stays_152, X12_stays_155, X12_stays_156_0, X12_stays_156_1, X12_stays_157, X12_stays_158_0, X12_stays_158_1, if_true, g13_20, ln_227, hs, Option.bind_some]
  by_cases h1 : b ≤ s
  · rw [if_neg (nI_nlt h1 (by omega)), if_pos h1]
  · rw [if_pos (nI_lt (by omega) (by omega)), if_neg h1]
theorem r_st_b {b k s : Nat} {n : Int32} (hk : k < 200) (hs : I 227 k = nI s) (hb : b < 100) (hs2 : s < 1000) : rn (d + 1) mX12_stays [.ref 217, .int 98, .int (nI b), .int (nI k), .int n] (mH h i l I J nw df P) = some (some (.int (if s ≤ b then 1 else 0)), mH h i l I J nw df P) := by
  rw [X12_stays_E]
  simp (disch := omega) only [X12_stays_0, X12_stays_1, X12_stays_60, X12_stays_61, X12_stays_64, X12_stays_65, X12_stays_66, X12_stays_67, X12_stays_70, X12_stays_71, X12_stays_74, X12_stays_75_0, X12_stays_75_1, X12_stays_76, X12_stays_77, X12_stays_80, X12_stays_81, X12_stays_82, X12_stays_83, X12_stays_86, X12_stays_87, X12_stays_90, X12_stays_91_0, X12_stays_91_1, X12_stays_92, X12_stays_94, X12_stays_97, X12_stays_98, X12_stays_101, X12_stays_102, X12_stays_103, X12_stays_104, X12_stays_107, X12_stays_109, X12_stays_110, X12_stays_111, X12_stays_112, X12_stays_113, X12_stays_114, X12_stays_117, X12_stays_118, X12_stays_121, X12_stays_122_0, X12_stays_122_1, X12_stays_123, X12_stays_124, X12_stays_125, X12_stays_126, X12_stays_129, X12_stays_130, X12_stays_133, X12_stays_134_0, X12_stays_134_1, X12_stays_135, X12_stays_136, X12_stays_137, X12_stays_140, X12_stays_141, X12_stays_144, X12_stays_145_0, X12_stays_145_1, X12_stays_146, X12_stays_147, X12_stays_148, X12_stays_151, X12_stays_152, X12_stays_155, X12_stays_156_0, X12_stays_156_1, X12_stays_157, X12_stays_158_0, X12_stays_158_1, if_true, if_neg (show ¬ (98 : Int32) = 97 from by decide), g13_20, ln_227, hs, Option.bind_some]
  by_cases h1 : s ≤ b
  · rw [if_neg (nI_nlt h1 (by omega)), if_pos h1]
  · rw [if_pos (nI_lt (by omega) (by omega)), if_neg h1]
theorem r_st_k {b k : Nat} {n : Int32} (hk : k < 200) (hb : b < 100) (hb0 : 0 < b) : rn (d + 1) mX12_stays [.ref 217, .int 107, .int (nI b), .int (nI k), .int n] (mH h i l I J nw df P) = some (some (.int (if k % b = 0 then 1 else 0)), mH h i l I J nw df P) := by
  have e1 : ¬ nI b = (0 : Int32) := nI_ne0 hb0 (by omega)
  rw [X12_stays_E]
  simp (disch := omega) only [X12_stays_0, X12_stays_1, X12_stays_60, X12_stays_61, X12_stays_64, X12_stays_65, X12_stays_66, X12_stays_67, X12_stays_70, X12_stays_71, X12_stays_74, X12_stays_75_0, X12_stays_75_1, X12_stays_76, X12_stays_77, X12_stays_80, X12_stays_81, X12_stays_82, X12_stays_83, X12_stays_86, X12_stays_87, X12_stays_90, X12_stays_91_0, X12_stays_91_1, X12_stays_92, X12_stays_94, X12_stays_97, X12_stays_98, X12_stays_101, X12_stays_102, X12_stays_103, X12_stays_104, X12_stays_107, X12_stays_109, X12_stays_110, X12_stays_111, X12_stays_112, X12_stays_113, X12_stays_114, X12_stays_117, X12_stays_118, X12_stays_121, X12_stays_122_0, X12_stays_122_1, X12_stays_123, X12_stays_124, X12_stays_125, X12_stays_126, X12_stays_129, X12_stays_130, X12_stays_133, X12_stays_134_0, X12_stays_134_1, X12_stays_135, X12_stays_136, X12_stays_137, X12_stays_140, X12_stays_141, X12_stays_144, X12_stays_145_0, X12_stays_145_1, X12_stays_146, X12_stays_147, X12_stays_148, X12_stays_151, X12_stays_152, X12_stays_155, X12_stays_156_0, X12_stays_156_1, X12_stays_157, X12_stays_158_0, X12_stays_158_1, if_true, if_neg (show ¬ (107 : Int32) = 97 from by decide), if_neg (show ¬ (107 : Int32) = 98 from by decide), if_neg e1, pk_rem (show k < 2 ^ 31 by omega) hb0 (show b < 2 ^ 31 by omega)]
  have hm := Nat.mod_lt k hb0
  by_cases h1 : k % b = 0
  · rw [if_neg (fun z => z (by rw [h1]; rfl)), if_pos h1]
  · rw [if_pos (nI_ne0 (by omega) (by omega)), if_neg h1]
theorem r_st_r {b k : Nat} {n : Int32} (hk : k < 200) (hb : b < 100) : rn (d + 1) mX12_stays [.ref 217, .int 114, .int (nI b), .int (nI k), .int n] (mH h i l I J nw df P) = some (some (.int (if b ≤ k then 1 else 0)), mH h i l I J nw df P) := by
  rw [X12_stays_E]
  simp (disch := omega) only [X12_stays_0, X12_stays_1, X12_stays_60, X12_stays_61, X12_stays_64, X12_stays_65, X12_stays_66, X12_stays_67, X12_stays_70, X12_stays_71, X12_stays_74, X12_stays_75_0, X12_stays_75_1, X12_stays_76, X12_stays_77, X12_stays_80, X12_stays_81, X12_stays_82, X12_stays_83, X12_stays_86, X12_stays_87, X12_stays_90, X12_stays_91_0, X12_stays_91_1, X12_stays_92, X12_stays_94, X12_stays_97, X12_stays_98, X12_stays_101, X12_stays_102, X12_stays_103, X12_stays_104, X12_stays_107, X12_stays_109, X12_stays_110, X12_stays_111, X12_stays_112, X12_stays_113, X12_stays_114, X12_stays_117, X12_stays_118, X12_stays_121, X12_stays_122_0, X12_stays_122_1, X12_stays_123, X12_stays_124, X12_stays_125, X12_stays_126, X12_stays_129, X12_stays_130, X12_stays_133, X12_stays_134_0, X12_stays_134_1, X12_stays_135, X12_stays_136, X12_stays_137, X12_stays_140, X12_stays_141, X12_stays_144, X12_stays_145_0, X12_stays_145_1, X12_stays_146, X12_stays_147, X12_stays_148, X12_stays_151, X12_stays_152, X12_stays_155, X12_stays_156_0, X12_stays_156_1, X12_stays_157, X12_stays_158_0, X12_stays_158_1, if_true, if_neg (show ¬ (114 : Int32) = 97 from by decide), if_neg (show ¬ (114 : Int32) = 98 from by decide), if_neg (show ¬ (114 : Int32) = 107 from by decide), if_neg (show ¬ (114 : Int32) = 109 from by decide)]
  by_cases h1 : b ≤ k
  · rw [if_neg (nI_nlt h1 (by omega)), if_pos h1]
  · rw [if_pos (nI_lt (by omega) (by omega)), if_neg h1]
theorem r_st_w {b k : Nat} {n : Int32} (hk : k < 200) (hb : b < 100) : rn (d + 1) mX12_stays [.ref 217, .int 119, .int (nI b), .int (nI k), .int n] (mH h i l I J nw df P) = some (some (.int (if k < b then 1 else 0)), mH h i l I J nw df P) := by
  rw [X12_stays_E]
  simp (disch := omega) only [X12_stays_0, X12_stays_1, X12_stays_60, X12_stays_61, X12_stays_64, X12_stays_65, X12_stays_66, X12_stays_67, X12_stays_70, X12_stays_71, X12_stays_74, X12_stays_75_0, X12_stays_75_1, X12_stays_76, X12_stays_77, X12_stays_80, X12_stays_81, X12_stays_82, X12_stays_83, X12_stays_86, X12_stays_87, X12_stays_90, X12_stays_91_0, X12_stays_91_1, X12_stays_92, X12_stays_94, X12_stays_97, X12_stays_98, X12_stays_101, X12_stays_102, X12_stays_103, X12_stays_104, X12_stays_107, X12_stays_109, X12_stays_110, X12_stays_111, X12_stays_112, X12_stays_113, X12_stays_114, X12_stays_117, X12_stays_118, X12_stays_121, X12_stays_122_0, X12_stays_122_1, X12_stays_123, X12_stays_124, X12_stays_125, X12_stays_126, X12_stays_129, X12_stays_130, X12_stays_133, X12_stays_134_0, X12_stays_134_1, X12_stays_135, X12_stays_136, X12_stays_137, X12_stays_140, X12_stays_141, X12_stays_144, X12_stays_145_0, X12_stays_145_1, X12_stays_146, X12_stays_147, X12_stays_148, X12_stays_151, X12_stays_152, X12_stays_155, X12_stays_156_0, X12_stays_156_1, X12_stays_157, X12_stays_158_0, X12_stays_158_1, if_true, if_neg (show ¬ (119 : Int32) = 97 from by decide), if_neg (show ¬ (119 : Int32) = 98 from by decide), if_neg (show ¬ (119 : Int32) = 107 from by decide), if_neg (show ¬ (119 : Int32) = 109 from by decide), if_neg (show ¬ (119 : Int32) = 114 from by decide)]
  by_cases h1 : k < b
  · rw [if_neg (nI_ge h1 (by omega)), if_pos h1]
  · rw [if_pos (nI_le (by omega) (by omega)), if_neg h1]
theorem r_st_x {b k n : Int32} : rn (d + 1) mX12_stays [.ref 217, .int 120, .int b, .int k, .int n] (mH h i l I J nw df P) = some (some (.int 1), mH h i l I J nw df P) := by
  rw [X12_stays_E]
  simp only [X12_stays_0, X12_stays_1, X12_stays_60, X12_stays_61, X12_stays_64, X12_stays_65, X12_stays_66, X12_stays_67, X12_stays_70, X12_stays_71, X12_stays_74, X12_stays_75_0, X12_stays_75_1, X12_stays_76, X12_stays_77, X12_stays_80, X12_stays_81, X12_stays_82, X12_stays_83, X12_stays_86, X12_stays_87, X12_stays_90, X12_stays_91_0, X12_stays_91_1, X12_stays_92, X12_stays_94, X12_stays_97, X12_stays_98, X12_stays_101, X12_stays_102, X12_stays_103, X12_stays_104, X12_stays_107, X12_stays_109, X12_stays_110, X12_stays_111, X12_stays_112, X12_stays_113, X12_stays_114, X12_stays_117, X12_stays_118, X12_stays_121, X12_stays_122_0, X12_stays_122_1, X12_stays_123, X12_stays_124, X12_stays_125, X12_stays_126, X12_stays_129, X12_stays_130, X12_stays_133, X12_stays_134_0, X12_stays_134_1, X12_stays_135, X12_stays_136, X12_stays_137, X12_stays_140, X12_stays_141, X12_stays_144, X12_stays_145_0, X12_stays_145_1, X12_stays_146, X12_stays_147, X12_stays_148, X12_stays_151, X12_stays_152, X12_stays_155, X12_stays_156_0, X12_stays_156_1, X12_stays_157, X12_stays_158_0, X12_stays_158_1, if_neg (show ¬ (120 : Int32) = 97 from by decide), if_neg (show ¬ (120 : Int32) = 98 from by decide), if_neg (show ¬ (120 : Int32) = 107 from by decide), if_neg (show ¬ (120 : Int32) = 109 from by decide), if_neg (show ¬ (120 : Int32) = 114 from by decide), if_neg (show ¬ (120 : Int32) = 119 from by decide)]
theorem r_st_y {b k n : Int32} : rn (d + 1) mX12_stays [.ref 217, .int 121, .int b, .int k, .int n] (mH h i l I J nw df P) = some (some (.int 1), mH h i l I J nw df P) := by
  rw [X12_stays_E]
  simp only [X12_stays_0, X12_stays_1, X12_stays_60, X12_stays_61, X12_stays_64, X12_stays_65, X12_stays_66, X12_stays_67, X12_stays_70, X12_stays_71, X12_stays_74, X12_stays_75_0, X12_stays_75_1, X12_stays_76, X12_stays_77, X12_stays_80, X12_stays_81, X12_stays_82, X12_stays_83, X12_stays_86, X12_stays_87, X12_stays_90, X12_stays_91_0, X12_stays_91_1, X12_stays_92, X12_stays_94, X12_stays_97, X12_stays_98, X12_stays_101, X12_stays_102, X12_stays_103, X12_stays_104, X12_stays_107, X12_stays_109, X12_stays_110, X12_stays_111, X12_stays_112, X12_stays_113, X12_stays_114, X12_stays_117, X12_stays_118, X12_stays_121, X12_stays_122_0, X12_stays_122_1, X12_stays_123, X12_stays_124, X12_stays_125, X12_stays_126, X12_stays_129, X12_stays_130, X12_stays_133, X12_stays_134_0, X12_stays_134_1, X12_stays_135, X12_stays_136, X12_stays_137, X12_stays_140, X12_stays_141, X12_stays_144, X12_stays_145_0, X12_stays_145_1, X12_stays_146, X12_stays_147, X12_stays_148, X12_stays_151, X12_stays_152, X12_stays_155, X12_stays_156_0, X12_stays_156_1, X12_stays_157, X12_stays_158_0, X12_stays_158_1, if_neg (show ¬ (121 : Int32) = 97 from by decide), if_neg (show ¬ (121 : Int32) = 98 from by decide), if_neg (show ¬ (121 : Int32) = 107 from by decide), if_neg (show ¬ (121 : Int32) = 109 from by decide), if_neg (show ¬ (121 : Int32) = 114 from by decide), if_neg (show ¬ (121 : Int32) = 119 from by decide)]
theorem r_st_m0 {b k : Int32} : rn (d + 1) mX12_stays [.ref 217, .int 109, .int b, .int k, .int (nI 0)] (mH h i l I J nw df P) = some (some (.int 1), mH h i l I J nw df P) := by
  rw [X12_stays_E]
  simp only [X12_stays_0, X12_stays_1, X12_stays_60, X12_stays_61, X12_stays_64, X12_stays_65, X12_stays_66, X12_stays_67, X12_stays_70, X12_stays_71, X12_stays_74, X12_stays_75_0, X12_stays_75_1, X12_stays_76, X12_stays_77, X12_stays_80, X12_stays_81, X12_stays_82, X12_stays_83, X12_stays_86, X12_stays_87, X12_stays_90, X12_stays_91_0, X12_stays_91_1, X12_stays_92, X12_stays_94, X12_stays_97, X12_stays_98, X12_stays_101, X12_stays_102, X12_stays_103, X12_stays_104, X12_stays_107, X12_stays_109, X12_stays_110, X12_stays_111, X12_stays_112, X12_stays_113, X12_stays_114, X12_stays_117, X12_stays_118, X12_stays_121, X12_stays_122_0, X12_stays_122_1, X12_stays_123, X12_stays_124, X12_stays_125, X12_stays_126, X12_stays_129, X12_stays_130, X12_stays_133, X12_stays_134_0, X12_stays_134_1, X12_stays_135, X12_stays_136, X12_stays_137, X12_stays_140, X12_stays_141, X12_stays_144, X12_stays_145_0, X12_stays_145_1, X12_stays_146, X12_stays_147, X12_stays_148, X12_stays_151, X12_stays_152, X12_stays_155, X12_stays_156_0, X12_stays_156_1, X12_stays_157, X12_stays_158_0, X12_stays_158_1, if_neg (show ¬ (109 : Int32) = 97 from by decide), if_neg (show ¬ (109 : Int32) = 98 from by decide), if_neg (show ¬ (109 : Int32) = 107 from by decide), if_true, show nI 0 = (0 : Int32) from rfl]
theorem r_st_m {b k n t u : Nat} (hk : k < 200) (hn : 0 < n) (hn2 : n < 200) (ht : I 226 k = nI t) (hu : I 226 (n - 1) = nI u) (htu : u ≤ t) (ht2 : t < 1000000) (hb : b < 100) : rn (d + 1) mX12_stays [.ref 217, .int 109, .int (nI b), .int (nI k), .int (nI n)] (mH h i l I J nw df P) = some (some (.int (if b ≤ t - u then 1 else 0)), mH h i l I J nw df P) := by
  have e1 : ¬ nI n = (0 : Int32) := nI_ne0 hn (by omega)
  have e2 : nI n - (1 : Int32) = nI (n - 1) := pk_sub (a := n) (b := 1) (by omega)
  rw [X12_stays_E]
  simp (disch := omega) only [X12_stays_0, X12_stays_1, X12_stays_60, X12_stays_61, X12_stays_64, X12_stays_65, X12_stays_66, X12_stays_67, X12_stays_70, X12_stays_71, X12_stays_74, X12_stays_75_0, X12_stays_75_1, X12_stays_76, X12_stays_77, X12_stays_80, X12_stays_81, X12_stays_82, X12_stays_83, X12_stays_86, X12_stays_87, X12_stays_90, X12_stays_91_0, X12_stays_91_1, X12_stays_92, X12_stays_94, X12_stays_97, X12_stays_98, X12_stays_101, X12_stays_102, X12_stays_103, X12_stays_104, X12_stays_107, X12_stays_109, X12_stays_110, X12_stays_111, X12_stays_112, X12_stays_113, X12_stays_114, X12_stays_117, X12_stays_118, X12_stays_121, X12_stays_122_0, X12_stays_122_1, X12_stays_123, X12_stays_124, X12_stays_125, X12_stays_126, X12_stays_129, X12_stays_130, X12_stays_133, X12_stays_134_0, X12_stays_134_1, X12_stays_135, X12_stays_136, X12_stays_137, X12_stays_140, X12_stays_141, X12_stays_144, X12_stays_145_0, X12_stays_145_1, X12_stays_146, X12_stays_147, X12_stays_148, X12_stays_151, X12_stays_152, X12_stays_155, X12_stays_156_0, X12_stays_156_1, X12_stays_157, X12_stays_158_0, X12_stays_158_1, if_neg (show ¬ (109 : Int32) = 97 from by decide), if_neg (show ¬ (109 : Int32) = 98 from by decide), if_neg (show ¬ (109 : Int32) = 107 from by decide), if_true, if_neg e1, g13_19, e2, ln_226, ht, hu, pk_sub htu, Option.bind_some]
  by_cases h1 : b ≤ t - u
  · rw [if_neg (nI_nlt h1 (by omega)), if_pos h1]
  · rw [if_pos (nI_lt (by omega) (by omega)), if_neg h1]
end RF
