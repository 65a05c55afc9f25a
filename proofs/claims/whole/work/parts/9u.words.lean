/-! OWN: words: Strings that were there before, and what is asked of them -/
/-- the texts of String constants -/
def ktxt : List (List Int32) := [[97, 98, 109, 107, 114, 119, 120, 121], [111, 117, 116, 101, 114], [105, 110, 110, 101, 114], [98, 97, 108, 108], [99, 97, 103, 101], [115, 104, 97, 102, 116]]
def ktl : List Nat := [8, 5, 5, 4, 4, 5]
def kbt (i j : Nat) : Int32 := (ktxt.getD i []).getD j 0
def ktens (j : Nat) : Int32 := Int32.ofNat (48 + j / 10)
def kones (j : Nat) : Int32 := Int32.ofNat (48 + j % 10)
/-- the Strings, their bytes, the digits: there before -/
def hStr (X : kH) : Prop := (∀ k, k < 6 → X.1 (k + 3) = some (.inr (14, [.ref (k + 9), .int 0])) ∧ X.1 (k + 9) = some (.inl (.byte, ktl.getD k 0, .inl (kbt k)))) ∧ X.1 15 = some (.inl (.byte, 100, .inl ktens)) ∧ X.1 16 = some (.inl (.byte, 100, .inl kones))
theorem nI_sh0 (x : Int32) : x >>> (nI 0 &&& 31) = x := by
  show x >>> (0 : Int32) = x
  simp
theorem nI_sl0 (x : Int32) : x <<< (nI 0 &&& 31) = x := by
  show x <<< (0 : Int32) = x
  simp
/-- the letters of steps -/
def lts : List Nat := [97, 98, 109, 107, 114, 119, 120, 121]
def ixN (c : Nat) : List Nat → Nat → Int32
  | [], _ => mI 1
  | b :: r, j => if b = c then nI j else ixN c r (j + 1)
theorem ixN_t {c : Nat} (hc : isLt c) : ∃ k, k < 8 ∧ ixN c lts 0 = nI k := by
  rcases hc with rfl | rfl | rfl | rfl | rfl | rfl | rfl | rfl
  · exact ⟨0, by decide, rfl⟩
  · exact ⟨1, by decide, rfl⟩
  · exact ⟨2, by decide, rfl⟩
  · exact ⟨3, by decide, rfl⟩
  · exact ⟨4, by decide, rfl⟩
  · exact ⟨5, by decide, rfl⟩
  · exact ⟨6, by decide, rfl⟩
  · exact ⟨7, by decide, rfl⟩
theorem ixN_f {c : Nat} (hc : ¬ isLt c) : ixN c lts 0 = mI 1 := by
  unfold isLt at hc
  simp only [lts, ixN]
  rw [if_neg (by omega), if_neg (by omega), if_neg (by omega), if_neg (by omega), if_neg (by omega), if_neg (by omega), if_neg (by omega), if_neg (by omega)]
theorem i8c : ∀ b, b ∈ lts → ∀ c, c < 256 → ((nI b = (nI c).toInt8.toInt32) ↔ b = c) := by decide +kernel
theorem ltk : ∀ j, j < 8 → kbt 0 j = nI (lts.getD j 0) := by decide
section WRA
variable {d : Nat} {X : kH} {q v n a : Nat} {f : Nat → Int32}
theorem w_f0 (h : X.1 q = some (.inr (14, [.ref v, .int 0]))) : kfld X 14 q 0 = some (.ref v) := by simp only [kfld, h]; rfl
theorem w_f1 (h : X.1 q = some (.inr (14, [.ref v, .int 0]))) : kfld X 14 q 1 = some (.int (nI 0)) := by simp only [kfld, h]; rfl
theorem w_is (h : X.1 q = some (.inr (14, [.ref v, .int 0]))) : kis X 14 q = true := by simp only [kis, h]; rfl
theorem w_ln (h : X.1 v = some (.inl (.byte, n, .inl f))) : klen X v = some (nI n) := by simp only [klen, h]; rfl
theorem w_bl (h : X.1 v = some (.inl (.byte, n, .inl f))) (ha : a < n) (hn : n < 2147483648) : kbl X v (nI a) = some (f a) := by
  simp only [kbl, h]
  rw [if_pos (nI_kin ha hn), nI_clamp (by omega)]
theorem w_lat (h : X.1 q = some (.inr (14, [.ref v, .int 0]))) : rn (d + 1) mJ0_isLatin1_aae02 [.ref q] X = some (some (.int (nI 1)), X) := by
  rw [J0_isLatin1_aae02_E]
  conv => lhs; simp (disch := first | assumption | omega | decide | exact bI_or _) only [w_f1 h, J0_isLatin1_aae02_0, J0_isLatin1_aae02_3, J0_isLatin1_aae02_6, J0_isLatin1_aae02_7, J0_isLatin1_aae02_10, J0_isLatin1_aae02_13, J0_isLatin1_aae02_14, J0_isLatin1_aae02_17, J0_isLatin1_aae02_18_0, J0_isLatin1_aae02_18_1, show (0 : Int32) = nI 0 from rfl, show (1 : Int32) = nI 1 from rfl, show (1 : Int32) = nI 1 from rfl, kieq_t, kieq_f, kine_t, kine_f, kilt_t, kilt_f, kile_t, kile_f, kim_eq, kmi_eq, kim_ne, kmi_ne, kim_le, kim_lt, kmi_le, kmi_lt, kmm_eq, kleq_t, kleq_f, klne_t, klne_f, kllt_t, kllt_f, klge_t, klge_f, klgt_t, klgt_f, klle_t, klle_f, klz_f, klz_g, kdivL, kdivI, kmodL, kmodI, knIL, lN_i, nI_add, pk_mul, pk_sub, lN_add, lN_mul, lN_sub, bI_eq0, bI_ne0, kkl_i, kkl_l, kkl_r, kkl_0, Option.bind_some, Option.toList_some, Option.toList_none, List.cons_append, List.nil_append, if_true, if_false, eq_self, not_true_eq_false, not_false_eq_true, ku2_eq, pk_us, pk_uLs, kup_Is, kup_Js, ku2_ku2, kup_I, kup_J, nI_sh0, nI_sl0, pk_subm, kad1, kad2]
  exact J0_isLatin1_aae02_18_1
theorem w_cod (h : X.1 q = some (.inr (14, [.ref v, .int 0]))) : rn (d + 1) mJ0_coder_7d493 [.ref q] X = some (some (.int (nI 0)), X) := by
  rw [J0_coder_7d493_E]
  conv => lhs; simp (disch := first | assumption | omega | decide | exact bI_or _) only [w_f1 h, J0_coder_7d493_0, J0_coder_7d493_3, J0_coder_7d493_6, J0_coder_7d493_7, J0_coder_7d493_10, J0_coder_7d493_13, J0_coder_7d493_14, show (0 : Int32) = nI 0 from rfl, show (1 : Int32) = nI 1 from rfl, show (1 : Int32) = nI 1 from rfl, kieq_t, kieq_f, kine_t, kine_f, kilt_t, kilt_f, kile_t, kile_f, kim_eq, kmi_eq, kim_ne, kmi_ne, kim_le, kim_lt, kmi_le, kmi_lt, kmm_eq, kleq_t, kleq_f, klne_t, klne_f, kllt_t, kllt_f, klge_t, klge_f, klgt_t, klgt_f, klle_t, klle_f, klz_f, klz_g, kdivL, kdivI, kmodL, kmodI, knIL, lN_i, nI_add, pk_mul, pk_sub, lN_add, lN_mul, lN_sub, bI_eq0, bI_ne0, kkl_i, kkl_l, kkl_r, kkl_0, Option.bind_some, Option.toList_some, Option.toList_none, List.cons_append, List.nil_append, if_true, if_false, eq_self, not_true_eq_false, not_false_eq_true, ku2_eq, pk_us, pk_uLs, kup_Is, kup_Js, ku2_ku2, kup_I, kup_J, nI_sh0, nI_sl0, pk_subm, kad1, kad2]
theorem w_len (h : X.1 q = some (.inr (14, [.ref v, .int 0]))) (h2 : X.1 v = some (.inl (.byte, n, .inl f))) : rn (d + 2) mJ0_length_8abf5 [.ref q] X = some (some (.int (nI n)), X) := by
  rw [J0_length_8abf5_E]
  conv => lhs; simp (disch := first | assumption | omega | decide | exact bI_or _) only [w_f0 h, w_ln h2, w_is h, w_cod h, J0_length_8abf5_0, J0_length_8abf5_1, J0_length_8abf5_4, J0_length_8abf5_5, J0_length_8abf5_6, J0_length_8abf5_9, J0_length_8abf5_10, show (1 : Int32) = nI 1 from rfl, kieq_t, kieq_f, kine_t, kine_f, kilt_t, kilt_f, kile_t, kile_f, kim_eq, kmi_eq, kim_ne, kmi_ne, kim_le, kim_lt, kmi_le, kmi_lt, kmm_eq, kleq_t, kleq_f, klne_t, klne_f, kllt_t, kllt_f, klge_t, klge_f, klgt_t, klgt_f, klle_t, klle_f, klz_f, klz_g, kdivL, kdivI, kmodL, kmodI, knIL, lN_i, nI_add, pk_mul, pk_sub, lN_add, lN_mul, lN_sub, bI_eq0, bI_ne0, kkl_i, kkl_l, kkl_r, kkl_0, Option.bind_some, Option.toList_some, Option.toList_none, List.cons_append, List.nil_append, if_true, if_false, eq_self, not_true_eq_false, not_false_eq_true, ku2_eq, pk_us, pk_uLs, kup_Is, kup_Js, ku2_ku2, kup_I, kup_J, nI_sh0, nI_sl0, pk_subm, kad1, kad2]
theorem w_can {c : Nat} (hc : c < 256) : rn (d + 1) mJ1_canEncode_9a6ad [.int (nI c)] X = some (some (.int (nI 1)), X) := by
  rw [J1_canEncode_9a6ad_E]
  conv => lhs; simp (disch := first | assumption | omega | decide | exact bI_or _) only [J1_canEncode_9a6ad_0, J1_canEncode_9a6ad_1, J1_canEncode_9a6ad_4, J1_canEncode_9a6ad_5, J1_canEncode_9a6ad_8, J1_canEncode_9a6ad_11, J1_canEncode_9a6ad_12, J1_canEncode_9a6ad_15, J1_canEncode_9a6ad_16_0, J1_canEncode_9a6ad_16_1, show (0 : Int32) = nI 0 from rfl, show (255 : Int32) = nI 255 from rfl, show (1 : Int32) = nI 1 from rfl, show (1 : Int32) = nI 1 from rfl, kieq_t, kieq_f, kine_t, kine_f, kilt_t, kilt_f, kile_t, kile_f, kim_eq, kmi_eq, kim_ne, kmi_ne, kim_le, kim_lt, kmi_le, kmi_lt, kmm_eq, kleq_t, kleq_f, klne_t, klne_f, kllt_t, kllt_f, klge_t, klge_f, klgt_t, klgt_f, klle_t, klle_f, klz_f, klz_g, kdivL, kdivI, kmodL, kmodI, knIL, lN_i, nI_add, pk_mul, pk_sub, lN_add, lN_mul, lN_sub, bI_eq0, bI_ne0, kkl_i, kkl_l, kkl_r, kkl_0, Option.bind_some, Option.toList_some, Option.toList_none, List.cons_append, List.nil_append, if_true, if_false, eq_self, not_true_eq_false, not_false_eq_true, ku2_eq, pk_us, pk_uLs, kup_Is, kup_Js, ku2_ku2, kup_I, kup_J, nI_sh0, nI_sl0, pk_subm, kad1, kad2]
  exact J1_canEncode_9a6ad_16_1
theorem w_ixl {c : Nat} (hc : c < 256) (hv : X.1 9 = some (.inl (.byte, 8, .inl (kbt 0)))) : ∀ (r : List Nat) (j : Nat), j ≤ 8 → lts.drop j = r → ex d mJ1_indexOfChar_4cfef 7 [some (.ref 9), some (.int (nI c)), some (.int (nI 0)), some (.int (nI 8)), some (.int (nI c).toInt8.toInt32), some (.int (nI j))] [] X = some (some (.int (ixN c r j)), X)
  | [], j, hj, e => by
    have h8 : j = 8 := by
      have := congrArg List.length e
      simp [lts] at this
      omega
    subst h8
    rw [J1_indexOfChar_4cfef_7]
    conv => lhs; simp (disch := first | assumption | omega | decide | exact bI_or _) only [J1_indexOfChar_4cfef_0, J1_indexOfChar_4cfef_1, J1_indexOfChar_4cfef_2, J1_indexOfChar_4cfef_4, J1_indexOfChar_4cfef_5, J1_indexOfChar_4cfef_9, J1_indexOfChar_4cfef_10, J1_indexOfChar_4cfef_13, J1_indexOfChar_4cfef_14, J1_indexOfChar_4cfef_16, J1_indexOfChar_4cfef_17, J1_indexOfChar_4cfef_19, J1_indexOfChar_4cfef_22, J1_indexOfChar_4cfef_24, J1_indexOfChar_4cfef_25, J1_indexOfChar_4cfef_28, J1_indexOfChar_4cfef_31, J1_indexOfChar_4cfef_32, show (1 : Int32) = nI 1 from rfl, ↓(show (-1 : Int32) = mI 1 from rfl), show (1 : Int32) = nI 1 from rfl, kieq_t, kieq_f, kine_t, kine_f, kilt_t, kilt_f, kile_t, kile_f, kim_eq, kmi_eq, kim_ne, kmi_ne, kim_le, kim_lt, kmi_le, kmi_lt, kmm_eq, kleq_t, kleq_f, klne_t, klne_f, kllt_t, kllt_f, klge_t, klge_f, klgt_t, klgt_f, klle_t, klle_f, klz_f, klz_g, kdivL, kdivI, kmodL, kmodI, knIL, lN_i, nI_add, pk_mul, pk_sub, lN_add, lN_mul, lN_sub, bI_eq0, bI_ne0, kkl_i, kkl_l, kkl_r, kkl_0, Option.bind_some, Option.toList_some, Option.toList_none, List.cons_append, List.nil_append, if_true, if_false, eq_self, not_true_eq_false, not_false_eq_true, ku2_eq, pk_us, pk_uLs, kup_Is, kup_Js, ku2_ku2, kup_I, kup_J, nI_sh0, nI_sl0, pk_subm, kad1, kad2]
    rfl
  | b :: r, j, hj, e => by
    have j8 : j < 8 := by
      have := congrArg List.length e
      simp [lts] at this
      omega
    have hb : lts.getD j 0 = b ∧ lts.drop (j + 1) = r := by
      have : lts.drop j = lts[j]'(by simpa [lts] using j8) :: lts.drop (j + 1) := List.drop_eq_getElem_cons (by simpa [lts] using j8)
      rw [this] at e
      cases e
      exact ⟨by rw [List.getD_eq_getElem?_getD, List.getElem?_eq_getElem (by simpa [lts] using j8)]; rfl, rfl⟩
    have hm : b ∈ lts := by
      rw [← hb.1, List.getD_eq_getElem?_getD, List.getElem?_eq_getElem (by simpa [lts] using j8)]
      exact List.getElem_mem _
    have hk := ltk j j8
    rw [hb.1] at hk
    rw [J1_indexOfChar_4cfef_7]
    conv => lhs; simp (disch := first | assumption | omega | decide | exact bI_or _) only [w_bl hv j8 (by decide), hk, J1_indexOfChar_4cfef_0, J1_indexOfChar_4cfef_1, J1_indexOfChar_4cfef_2, J1_indexOfChar_4cfef_4, J1_indexOfChar_4cfef_5, J1_indexOfChar_4cfef_9, J1_indexOfChar_4cfef_10, J1_indexOfChar_4cfef_13, J1_indexOfChar_4cfef_14, J1_indexOfChar_4cfef_16, J1_indexOfChar_4cfef_17, J1_indexOfChar_4cfef_22, J1_indexOfChar_4cfef_24, J1_indexOfChar_4cfef_25, J1_indexOfChar_4cfef_28, J1_indexOfChar_4cfef_31, J1_indexOfChar_4cfef_32, show (1 : Int32) = nI 1 from rfl, ↓(show (-1 : Int32) = mI 1 from rfl), show (1 : Int32) = nI 1 from rfl, kieq_t, kieq_f, kine_t, kine_f, kilt_t, kilt_f, kile_t, kile_f, kim_eq, kmi_eq, kim_ne, kmi_ne, kim_le, kim_lt, kmi_le, kmi_lt, kmm_eq, kleq_t, kleq_f, klne_t, klne_f, kllt_t, kllt_f, klge_t, klge_f, klgt_t, klgt_f, klle_t, klle_f, klz_f, klz_g, kdivL, kdivI, kmodL, kmodI, knIL, lN_i, nI_add, pk_mul, pk_sub, lN_add, lN_mul, lN_sub, bI_eq0, bI_ne0, kkl_i, kkl_l, kkl_r, kkl_0, Option.bind_some, Option.toList_some, Option.toList_none, List.cons_append, List.nil_append, if_true, if_false, eq_self, not_true_eq_false, not_false_eq_true, ku2_eq, pk_us, pk_uLs, kup_Is, kup_Js, ku2_ku2, kup_I, kup_J, nI_sh0, nI_sl0, pk_subm, kad1, kad2]
    rw [J1_indexOfChar_4cfef_19, ixN]
    by_cases z : b = c
    · rw [if_pos z, if_neg (fun y => y ((i8c b hm c hc).mpr z))]
      conv => lhs; simp (disch := first | assumption | omega | decide | exact bI_or _) only [J1_indexOfChar_4cfef_0, J1_indexOfChar_4cfef_1, J1_indexOfChar_4cfef_2, J1_indexOfChar_4cfef_4, J1_indexOfChar_4cfef_5, J1_indexOfChar_4cfef_9, J1_indexOfChar_4cfef_10, J1_indexOfChar_4cfef_13, J1_indexOfChar_4cfef_14, J1_indexOfChar_4cfef_16, J1_indexOfChar_4cfef_17, J1_indexOfChar_4cfef_19, J1_indexOfChar_4cfef_22, J1_indexOfChar_4cfef_24, J1_indexOfChar_4cfef_25, J1_indexOfChar_4cfef_28, J1_indexOfChar_4cfef_31, J1_indexOfChar_4cfef_32, show (1 : Int32) = nI 1 from rfl, ↓(show (-1 : Int32) = mI 1 from rfl), show (1 : Int32) = nI 1 from rfl, kieq_t, kieq_f, kine_t, kine_f, kilt_t, kilt_f, kile_t, kile_f, kim_eq, kmi_eq, kim_ne, kmi_ne, kim_le, kim_lt, kmi_le, kmi_lt, kmm_eq, kleq_t, kleq_f, klne_t, klne_f, kllt_t, kllt_f, klge_t, klge_f, klgt_t, klgt_f, klle_t, klle_f, klz_f, klz_g, kdivL, kdivI, kmodL, kmodI, knIL, lN_i, nI_add, pk_mul, pk_sub, lN_add, lN_mul, lN_sub, bI_eq0, bI_ne0, kkl_i, kkl_l, kkl_r, kkl_0, Option.bind_some, Option.toList_some, Option.toList_none, List.cons_append, List.nil_append, if_true, if_false, eq_self, not_true_eq_false, not_false_eq_true, ku2_eq, pk_us, pk_uLs, kup_Is, kup_Js, ku2_ku2, kup_I, kup_J, nI_sh0, nI_sl0, pk_subm, kad1, kad2]
    · rw [if_neg z, if_pos (fun y => z ((i8c b hm c hc).mp y))]
      conv => lhs; simp (disch := first | assumption | omega | decide | exact bI_or _) only [J1_indexOfChar_4cfef_0, J1_indexOfChar_4cfef_1, J1_indexOfChar_4cfef_2, J1_indexOfChar_4cfef_4, J1_indexOfChar_4cfef_5, J1_indexOfChar_4cfef_9, J1_indexOfChar_4cfef_10, J1_indexOfChar_4cfef_13, J1_indexOfChar_4cfef_14, J1_indexOfChar_4cfef_16, J1_indexOfChar_4cfef_17, J1_indexOfChar_4cfef_19, J1_indexOfChar_4cfef_22, J1_indexOfChar_4cfef_24, J1_indexOfChar_4cfef_25, J1_indexOfChar_4cfef_28, J1_indexOfChar_4cfef_31, J1_indexOfChar_4cfef_32, show (1 : Int32) = nI 1 from rfl, ↓(show (-1 : Int32) = mI 1 from rfl), show (1 : Int32) = nI 1 from rfl, kieq_t, kieq_f, kine_t, kine_f, kilt_t, kilt_f, kile_t, kile_f, kim_eq, kmi_eq, kim_ne, kmi_ne, kim_le, kim_lt, kmi_le, kmi_lt, kmm_eq, kleq_t, kleq_f, klne_t, klne_f, kllt_t, kllt_f, klge_t, klge_f, klgt_t, klgt_f, klle_t, klle_f, klz_f, klz_g, kdivL, kdivI, kmodL, kmodI, knIL, lN_i, nI_add, pk_mul, pk_sub, lN_add, lN_mul, lN_sub, bI_eq0, bI_ne0, kkl_i, kkl_l, kkl_r, kkl_0, Option.bind_some, Option.toList_some, Option.toList_none, List.cons_append, List.nil_append, if_true, if_false, eq_self, not_true_eq_false, not_false_eq_true, ku2_eq, pk_us, pk_uLs, kup_Is, kup_Js, ku2_ku2, kup_I, kup_J, nI_sh0, nI_sl0, pk_subm, kad1, kad2]
      exact w_ixl hc hv r (j + 1) (by omega) hb.2
theorem w_ix1 {c : Nat} (hc : c < 256) (hv : X.1 9 = some (.inl (.byte, 8, .inl (kbt 0)))) : rn (d + 1) mJ1_indexOfChar_4cfef [.ref 9, .int (nI c), .int (nI 0), .int (nI 8)] X = some (some (.int (ixN c lts 0)), X) := by
  rw [J1_indexOfChar_4cfef_E]
  conv => lhs; simp (disch := first | assumption | omega | decide | exact bI_or _) only [J1_indexOfChar_4cfef_0, J1_indexOfChar_4cfef_1, J1_indexOfChar_4cfef_2, J1_indexOfChar_4cfef_4, J1_indexOfChar_4cfef_5, J1_indexOfChar_4cfef_9, J1_indexOfChar_4cfef_10, J1_indexOfChar_4cfef_13, J1_indexOfChar_4cfef_14, J1_indexOfChar_4cfef_16, J1_indexOfChar_4cfef_17, J1_indexOfChar_4cfef_19, J1_indexOfChar_4cfef_22, J1_indexOfChar_4cfef_24, J1_indexOfChar_4cfef_25, J1_indexOfChar_4cfef_28, J1_indexOfChar_4cfef_31, J1_indexOfChar_4cfef_32, show (1 : Int32) = nI 1 from rfl, ↓(show (-1 : Int32) = mI 1 from rfl), show (1 : Int32) = nI 1 from rfl, kieq_t, kieq_f, kine_t, kine_f, kilt_t, kilt_f, kile_t, kile_f, kim_eq, kmi_eq, kim_ne, kmi_ne, kim_le, kim_lt, kmi_le, kmi_lt, kmm_eq, kleq_t, kleq_f, klne_t, klne_f, kllt_t, kllt_f, klge_t, klge_f, klgt_t, klgt_f, klle_t, klle_f, klz_f, klz_g, kdivL, kdivI, kmodL, kmodI, knIL, lN_i, nI_add, pk_mul, pk_sub, lN_add, lN_mul, lN_sub, bI_eq0, bI_ne0, kkl_i, kkl_l, kkl_r, kkl_0, Option.bind_some, Option.toList_some, Option.toList_none, List.cons_append, List.nil_append, if_true, if_false, eq_self, not_true_eq_false, not_false_eq_true, ku2_eq, pk_us, pk_uLs, kup_Is, kup_Js, ku2_ku2, kup_I, kup_J, nI_sh0, nI_sl0, pk_subm, kad1, kad2]
  exact w_ixl hc hv lts 0 (by decide) rfl
theorem w_ix2 {c : Nat} (hc : c < 256) (hv : X.1 9 = some (.inl (.byte, 8, .inl (kbt 0)))) : rn (d + 2) mJ1_indexOf_4cfef [.ref 9, .int (nI c), .int (nI 0), .int (nI 8)] X = some (some (.int (ixN c lts 0)), X) := by
  rw [J1_indexOf_4cfef_E]
  conv => lhs; simp (disch := first | assumption | omega | decide | exact bI_or _) only [w_can hc, w_ln hv, j_maxN, j_minN, Nat.max_self, Nat.min_self, w_ix1 hc hv, J1_indexOf_4cfef_0, J1_indexOf_4cfef_1, J1_indexOf_4cfef_4, J1_indexOf_4cfef_7, J1_indexOf_4cfef_8, J1_indexOf_4cfef_9, J1_indexOf_4cfef_10, J1_indexOf_4cfef_11, J1_indexOf_4cfef_14, J1_indexOf_4cfef_15, J1_indexOf_4cfef_16, J1_indexOf_4cfef_17, J1_indexOf_4cfef_18, J1_indexOf_4cfef_21, J1_indexOf_4cfef_22, J1_indexOf_4cfef_23, J1_indexOf_4cfef_24, J1_indexOf_4cfef_27, J1_indexOf_4cfef_28, J1_indexOf_4cfef_29, J1_indexOf_4cfef_30, J1_indexOf_4cfef_31, J1_indexOf_4cfef_32, J1_indexOf_4cfef_33, J1_indexOf_4cfef_36, show (0 : Int32) = nI 0 from rfl, ↓(show (-1 : Int32) = mI 1 from rfl), show (1 : Int32) = nI 1 from rfl, kieq_t, kieq_f, kine_t, kine_f, kilt_t, kilt_f, kile_t, kile_f, kim_eq, kmi_eq, kim_ne, kmi_ne, kim_le, kim_lt, kmi_le, kmi_lt, kmm_eq, kleq_t, kleq_f, klne_t, klne_f, kllt_t, kllt_f, klge_t, klge_f, klgt_t, klgt_f, klle_t, klle_f, klz_f, klz_g, kdivL, kdivI, kmodL, kmodI, knIL, lN_i, nI_add, pk_mul, pk_sub, lN_add, lN_mul, lN_sub, bI_eq0, bI_ne0, kkl_i, kkl_l, kkl_r, kkl_0, Option.bind_some, Option.toList_some, Option.toList_none, List.cons_append, List.nil_append, if_true, if_false, eq_self, not_true_eq_false, not_false_eq_true, ku2_eq, pk_us, pk_uLs, kup_Is, kup_Js, ku2_ku2, kup_I, kup_J, nI_sh0, nI_sl0, pk_subm, kad1, kad2]
theorem w_ix {c : Nat} (hs : hStr X) (hc : c < 256) : rn (d + 4) mJ0_indexOf_0f7a4 [.ref 3, .int (nI c)] X = some (some (.int (ixN c lts 0)), X) := by
  have h0 := (hs.1 0 (by decide)).1
  have h1 := (hs.1 0 (by decide)).2
  have h0 : X.1 3 = some (.inr (14, [.ref 9, .int 0])) := h0
  have h1 : X.1 9 = some (.inl (.byte, 8, .inl (kbt 0))) := h1
  have e2 : rn (d + 3) mJ0_indexOf_7cf53 [.ref 3, .int (nI c), .int (nI 0)] X = some (some (.int (ixN c lts 0)), X) := by
    rw [J0_indexOf_7cf53_E]
    conv => lhs; simp (disch := first | assumption | omega | decide | exact bI_or _) only [w_is h0, w_lat h0, w_f0 h0, w_len h0 h1, w_ix2 hc h1, J0_indexOf_7cf53_0, J0_indexOf_7cf53_1, J0_indexOf_7cf53_4, J0_indexOf_7cf53_7, J0_indexOf_7cf53_8, J0_indexOf_7cf53_11, J0_indexOf_7cf53_12, J0_indexOf_7cf53_13, J0_indexOf_7cf53_14, J0_indexOf_7cf53_17, J0_indexOf_7cf53_20, J0_indexOf_7cf53_23, J0_indexOf_7cf53_24, J0_indexOf_7cf53_27, J0_indexOf_7cf53_28, J0_indexOf_7cf53_29, J0_indexOf_7cf53_30, J0_indexOf_7cf53_36, show (0 : Int32) = nI 0 from rfl, show (1 : Int32) = nI 1 from rfl, kieq_t, kieq_f, kine_t, kine_f, kilt_t, kilt_f, kile_t, kile_f, kim_eq, kmi_eq, kim_ne, kmi_ne, kim_le, kim_lt, kmi_le, kmi_lt, kmm_eq, kleq_t, kleq_f, klne_t, klne_f, kllt_t, kllt_f, klge_t, klge_f, klgt_t, klgt_f, klle_t, klle_f, klz_f, klz_g, kdivL, kdivI, kmodL, kmodI, knIL, lN_i, nI_add, pk_mul, pk_sub, lN_add, lN_mul, lN_sub, bI_eq0, bI_ne0, kkl_i, kkl_l, kkl_r, kkl_0, Option.bind_some, Option.toList_some, Option.toList_none, List.cons_append, List.nil_append, if_true, if_false, eq_self, not_true_eq_false, not_false_eq_true, ku2_eq, pk_us, pk_uLs, kup_Is, kup_Js, ku2_ku2, kup_I, kup_J, nI_sh0, nI_sl0, pk_subm, kad1, kad2]
  rw [J0_indexOf_0f7a4_E]
  conv => lhs; simp (disch := first | assumption | omega | decide | exact bI_or _) only [w_is h0, e2, J0_indexOf_0f7a4_0, J0_indexOf_0f7a4_1, J0_indexOf_0f7a4_2, J0_indexOf_0f7a4_3, J0_indexOf_0f7a4_6, show (0 : Int32) = nI 0 from rfl, show (1 : Int32) = nI 1 from rfl, kieq_t, kieq_f, kine_t, kine_f, kilt_t, kilt_f, kile_t, kile_f, kim_eq, kmi_eq, kim_ne, kmi_ne, kim_le, kim_lt, kmi_le, kmi_lt, kmm_eq, kleq_t, kleq_f, klne_t, klne_f, kllt_t, kllt_f, klge_t, klge_f, klgt_t, klgt_f, klle_t, klle_f, klz_f, klz_g, kdivL, kdivI, kmodL, kmodI, knIL, lN_i, nI_add, pk_mul, pk_sub, lN_add, lN_mul, lN_sub, bI_eq0, bI_ne0, kkl_i, kkl_l, kkl_r, kkl_0, Option.bind_some, Option.toList_some, Option.toList_none, List.cons_append, List.nil_append, if_true, if_false, eq_self, not_true_eq_false, not_false_eq_true, ku2_eq, pk_us, pk_uLs, kup_Is, kup_Js, ku2_ku2, kup_I, kup_J, nI_sh0, nI_sl0, pk_subm, kad1, kad2]
end WRA
