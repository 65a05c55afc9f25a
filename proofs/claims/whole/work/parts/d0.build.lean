/-! OWN: words: a builder of text (room for 16 bytes, then 34) -/
/-- below 242 nothing has changed -/
def Fw (X Y : kH) : Prop := ∀ q, q < 242 → Y.1 q = X.1 q
theorem Fw.rf (X : kH) : Fw X X := fun _ _ => rfl
theorem Fw.tr {X Y Z : kH} (a : Fw X Y) (b : Fw Y Z) : Fw X Z := fun q hq => (b q hq).trans (a q hq)
theorem Fw.up {X Y : kH} {a : Nat} {e : kE} (h : Fw X Y) (ha : 242 ≤ a) : Fw X (kup Y a e) := fun q hq => by
  show (if q = a then some e else Y.1 q) = X.1 q
  rw [if_neg (by omega)]
  exact h q hq
theorem Fw.nw {X Y : kH} {e : kE} {n : Nat} (h : Fw X Y) (ha : 242 ≤ Y.2.1) : Fw X (knew Y e n) := fun q hq => by
  show (if q = Y.2.1 then some e else Y.1 q) = X.1 q
  rw [if_neg (by omega)]
  exact h q hq
/-- a builder at a, its bytes at v (m of them: f), n of them its text -/
def SBy (X : kH) (a v m : Nat) (f : Nat → Int32) (n : Nat) : Prop := X.1 a = some (.inr (0, [.ref v, .int 0, .int 0, .int (nI n)])) ∧ X.1 v = some (.inl (.byte, m, .inl f)) ∧ (∀ j, (f j).toInt8.toInt32 = f j) ∧ n ≤ m ∧ 242 ≤ a ∧ 242 ≤ v ∧ a ≠ v ∧ v < X.2.1 ∧ a < X.2.1
def SBc (X : kH) (b1 b2 m : Nat) : Prop := (m = 16 ∧ X.2.1 = b1 ∧ X.2.2 = b2) ∨ (m = 34 ∧ X.2.1 = b1 + 1 ∧ X.2.2 = b2 + 34)
def SBx (X : kH) (a b1 b2 : Nat) (T : List Nat) : Prop := ∃ (v m : Nat) (f : Nat → Int32), SBy X a v m f T.length ∧ (∀ j, j < T.length → f j = nI (T.getD j 0)) ∧ SBc X b1 b2 m
theorem kup_at (X : kH) (a : Nat) (e : kE) : (kup X a e).1 a = some e := if_pos rfl
theorem kupn {X : kH} {a q : Nat} {e : kE} (h : q ≠ a) : (kup X a e).1 q = X.1 q := if_neg h
theorem kup_up (X : kH) (a : Nat) (e e' : kE) : kup (kup X a e) a e' = kup X a e' := by
  refine Prod.ext (funext fun q => ?_) rfl
  show (if q = a then some e' else if q = a then some e else X.1 q) = if q = a then some e' else X.1 q
  by_cases h : q = a
  · rw [if_pos h, if_pos h]
  · rw [if_neg h, if_neg h, if_neg h]
theorem nI_lt_iff {a b : Nat} (ha : a < 2147483648) (hb : b < 2147483648) : nI a < nI b ↔ a < b := by
  rw [Int32.lt_iff_toInt_lt, nI_toInt ha, nI_toInt hb]
  omega
theorem and255 : ∀ c, c < 128 → nI c &&& nI 255 = nI c := by decide +kernel
theorem w_na {n : Nat} (hn : n ≤ 100000) : (0 ≤ (nI n).toInt ∧ (nI n).toInt ≤ 100000) = True := eq_true (by rw [nI_toInt (by omega)]; omega)
section WBA
variable {d : Nat} {X : kH} {a v m n : Nat} {f : Nat → Int32} {w0 w1 w2 w3 : Value}
theorem b_f0 (h : X.1 a = some (.inr (0, [w0, w1, w2, w3]))) : kfld X 0 a 0 = some w0 := by simp only [kfld, h]; rfl
theorem b_f1 (h : X.1 a = some (.inr (0, [w0, .int 0, w2, w3]))) : kfld X 0 a 1 = some (.int (nI 0)) := by simp only [kfld, h]; rfl
theorem b_f3 (h : X.1 a = some (.inr (0, [w0, w1, w2, w3]))) : kfld X 0 a 3 = some w3 := by simp only [kfld, h]; rfl
theorem b_is (h : X.1 a = some (.inr (0, [w0, w1, w2, w3]))) : kis X 0 a = true := by simp only [kis, h]; rfl
theorem b_p0 (h : X.1 a = some (.inr (0, [w0, w1, w2, w3]))) (h32 : 32 ≤ a) (v : Nat) : kput X 0 a 0 (kty 0 0) (.ref v) = some (kup X a (.inr (0, [.ref v, w1, w2, w3]))) := by
  simp only [kput, h]
  rw [if_pos ⟨trivial, by simp, h32, rfl⟩]
  rfl
theorem b_p1 (h : X.1 a = some (.inr (0, [w0, w1, w2, w3]))) (h32 : 32 ≤ a) : kput X 0 a 1 (kty 0 1) (.int (nI 0)) = some (kup X a (.inr (0, [w0, .int (nI 0), w2, w3]))) := by
  simp only [kput, h]
  rw [if_pos ⟨trivial, by simp, h32, rfl⟩]
  rfl
theorem b_p3 (h : X.1 a = some (.inr (0, [w0, w1, w2, w3]))) (h32 : 32 ≤ a) (x : Int32) : kput X 0 a 3 (kty 0 3) (.int x) = some (kup X a (.inr (0, [w0, w1, w2, .int x]))) := by
  simp only [kput, h]
  rw [if_pos ⟨trivial, by simp, h32, rfl⟩]
  rfl
theorem b_bs {k : Nat} {x : Int32} (h : X.1 v = some (.inl (.byte, m, .inl f))) (hk : k < m) (hm : m < 2147483648) (h32 : 32 ≤ v) (hx : x.toInt8.toInt32 = x) : kbs X v (nI k) x = some (kup X v (.inl (.byte, m, .inl (upd f k x)))) := by
  simp only [kbs, h]
  rw [if_pos ⟨nI_kin hk hm, h32⟩, nI_clamp (by omega)]
  have : vp_nar .byte x = x := by rw [← hx]; exact pk_vb _
  rw [this]
theorem b_cp {p r n1 x y k : Nat} {g : Nat → Int32} (hp : X.1 p = some (.inl (.byte, m, .inl f))) (hr : X.1 r = some (.inl (.byte, n1, .inl g))) (h32 : 32 ≤ r) (h1 : x + k ≤ m) (h2 : y + k ≤ n1) (hm : m < 2147483648) (hn : n1 < 2147483648) (hf : ∀ j, (f j).toInt8.toInt32 = f j) : kcopy X p (nI x) r (nI y) (nI k) = some (kup X r (.inl (.byte, n1, .inl (va_cpy f g x y k)))) := by
  simp only [kcopy, hp, hr]
  have e1 : (nI x).toInt = (x : Int) := nI_toInt (by omega)
  have e2 : (nI y).toInt = (y : Int) := nI_toInt (by omega)
  have e3 : (nI k).toInt = (k : Int) := nI_toInt (by omega)
  rw [if_pos ⟨by omega, by omega, by omega, by omega, by omega, h32, fun z _ => hf _⟩, nI_clamp (n := x) (by omega), nI_clamp (n := y) (by omega), nI_clamp (n := k) (by omega)]
theorem fit_c {g : Nat → Int32} {x y k : Nat} (hf : ∀ j, (f j).toInt8.toInt32 = f j) (hg : ∀ j, (g j).toInt8.toInt32 = g j) (j : Nat) : (va_cpy f g x y k j).toInt8.toInt32 = va_cpy f g x y k j := by
  unfold va_cpy
  split
  · exact hf _
  · exact hg _
theorem fit_u {k : Nat} {x : Int32} (hf : ∀ j, (f j).toInt8.toInt32 = f j) (hx : x.toInt8.toInt32 = x) (j : Nat) : (upd f k x j).toInt8.toInt32 = upd f k x j := by
  unfold upd
  split
  · exact hx
  · exact hf _
theorem b_lat (h : X.1 a = some (.inr (0, [w0, .int 0, w2, w3]))) : rn (d + 1) mJ5_isLatin1_aae02 [.ref a] X = some (some (.int (nI 1)), X) := by
  rw [J5_isLatin1_aae02_E]
  conv => lhs; simp (disch := first | assumption | omega | decide | exact bI_or _) only [b_f1 h, J5_isLatin1_aae02_0, J5_isLatin1_aae02_3, J5_isLatin1_aae02_6, J5_isLatin1_aae02_7, J5_isLatin1_aae02_10, J5_isLatin1_aae02_13, J5_isLatin1_aae02_14, J5_isLatin1_aae02_17, J5_isLatin1_aae02_18_0, J5_isLatin1_aae02_18_1, show (0 : Int32) = nI 0 from rfl, show (1 : Int32) = nI 1 from rfl, show (1 : Int32) = nI 1 from rfl, kieq_t, kieq_f, kine_t, kine_f, kilt_t, kilt_f, kile_t, kile_f, kim_eq, kmi_eq, kim_ne, kmi_ne, kim_le, kim_lt, kmi_le, kmi_lt, kmm_eq, kleq_t, kleq_f, klne_t, klne_f, kllt_t, kllt_f, klge_t, klge_f, klgt_t, klgt_f, klle_t, klle_f, klz_f, klz_g, kdivL, kdivI, kmodL, kmodI, knIL, lN_i, nI_add, pk_mul, pk_sub, lN_add, lN_mul, lN_sub, bI_eq0, bI_ne0, kkl_i, kkl_l, kkl_r, kkl_0, Option.bind_some, Option.toList_some, Option.toList_none, List.cons_append, List.nil_append, if_true, if_false, eq_self, not_true_eq_false, not_false_eq_true, ku2_eq, pk_us, pk_uLs, kup_Is, kup_Js, ku2_ku2, kup_I, kup_J, nI_sh0, nI_sl0, pk_subm, kad1, kad2]
  exact J5_isLatin1_aae02_18_1
theorem b_can {c : Nat} (hc : c < 128) : rn (d + 1) mJ1_canEncode_fc78d [.int (nI c)] X = some (some (.int (nI 1)), X) := by
  rw [J1_canEncode_fc78d_E]
  conv => lhs; simp (disch := first | assumption | omega | decide | exact bI_or _) only [J1_canEncode_fc78d_0, J1_canEncode_fc78d_1, J1_canEncode_fc78d_4, J1_canEncode_fc78d_7, J1_canEncode_fc78d_8, J1_canEncode_fc78d_11, J1_canEncode_fc78d_12_0, J1_canEncode_fc78d_12_1, show (255 : Int32) = nI 255 from rfl, show (1 : Int32) = nI 1 from rfl, show (0 : Int32) = nI 0 from rfl, show (1 : Int32) = nI 1 from rfl, kieq_t, kieq_f, kine_t, kine_f, kilt_t, kilt_f, kile_t, kile_f, kim_eq, kmi_eq, kim_ne, kmi_ne, kim_le, kim_lt, kmi_le, kmi_lt, kmm_eq, kleq_t, kleq_f, klne_t, klne_f, kllt_t, kllt_f, klge_t, klge_f, klgt_t, klgt_f, klle_t, klle_f, klz_f, klz_g, kdivL, kdivI, kmodL, kmodI, knIL, lN_i, nI_add, pk_mul, pk_sub, lN_add, lN_mul, lN_sub, bI_eq0, bI_ne0, kkl_i, kkl_l, kkl_r, kkl_0, Option.bind_some, Option.toList_some, Option.toList_none, List.cons_append, List.nil_append, if_true, if_false, eq_self, not_true_eq_false, not_false_eq_true, ku2_eq, pk_us, pk_uLs, kup_Is, kup_Js, ku2_ku2, kup_I, kup_J, nI_sh0, nI_sl0, pk_subm, kad1, kad2]
  exact J1_canEncode_fc78d_12_1
theorem b_nl {g : Nat} (hg : g ≤ 18) : rn (d + 2) mJ8_newLength_cabcc [.int (nI 16), .int (nI g), .int (nI 18)] X = some (some (.int (nI 34)), X) := by
  rw [J8_newLength_cabcc_E]
  conv => lhs; simp (disch := first | assumption | omega | decide | exact bI_or _) only [j_maxN1 hg (by decide), J8_newLength_cabcc_0, J8_newLength_cabcc_1, J8_newLength_cabcc_2, J8_newLength_cabcc_3, J8_newLength_cabcc_6, J8_newLength_cabcc_7, J8_newLength_cabcc_8, J8_newLength_cabcc_9, J8_newLength_cabcc_10, J8_newLength_cabcc_13, J8_newLength_cabcc_14, J8_newLength_cabcc_16, J8_newLength_cabcc_19, J8_newLength_cabcc_20, J8_newLength_cabcc_21, J8_newLength_cabcc_22, show (0 : Int32) = nI 0 from rfl, show (2147483639 : Int32) = nI 2147483639 from rfl, show (1 : Int32) = nI 1 from rfl, kieq_t, kieq_f, kine_t, kine_f, kilt_t, kilt_f, kile_t, kile_f, kim_eq, kmi_eq, kim_ne, kmi_ne, kim_le, kim_lt, kmi_le, kmi_lt, kmm_eq, kleq_t, kleq_f, klne_t, klne_f, kllt_t, kllt_f, klge_t, klge_f, klgt_t, klgt_f, klle_t, klle_f, klz_f, klz_g, kdivL, kdivI, kmodL, kmodI, knIL, lN_i, nI_add, pk_mul, pk_sub, lN_add, lN_mul, lN_sub, bI_eq0, bI_ne0, kkl_i, kkl_l, kkl_r, kkl_0, Option.bind_some, Option.toList_some, Option.toList_none, List.cons_append, List.nil_append, if_true, if_false, eq_self, not_true_eq_false, not_false_eq_true, ku2_eq, pk_us, pk_uLs, kup_Is, kup_Js, ku2_ku2, kup_I, kup_J, nI_sh0, nI_sl0, pk_subm, kad1, kad2]
theorem b_nc {q : Nat} (h : X.1 a = some (.inr (0, [.ref v, .int 0, w2, w3]))) (hv : X.1 v = some (.inl (.byte, 16, .inl f))) (h1 : 16 < q) (h2 : q ≤ 34) : rn (d + 3) mJ5_newCapacity_0f7a4 [.ref a, .int (nI q)] X = some (some (.int (nI 34)), X) := by
  rw [J5_newCapacity_0f7a4_E]
  conv => lhs; simp (disch := first | assumption | omega | decide | exact bI_or _) only [b_f0 h, b_f1 h, w_ln hv, nI_sl0, nI_sh0, b_nl (show q - 16 ≤ 18 by omega), J5_newCapacity_0f7a4_0, J5_newCapacity_0f7a4_1, J5_newCapacity_0f7a4_4, J5_newCapacity_0f7a4_5, J5_newCapacity_0f7a4_6, J5_newCapacity_0f7a4_7, J5_newCapacity_0f7a4_8, J5_newCapacity_0f7a4_11, J5_newCapacity_0f7a4_12, J5_newCapacity_0f7a4_13, J5_newCapacity_0f7a4_14, J5_newCapacity_0f7a4_15, J5_newCapacity_0f7a4_16, J5_newCapacity_0f7a4_18, J5_newCapacity_0f7a4_19, J5_newCapacity_0f7a4_21, J5_newCapacity_0f7a4_22, J5_newCapacity_0f7a4_23, J5_newCapacity_0f7a4_24, J5_newCapacity_0f7a4_27, J5_newCapacity_0f7a4_28, J5_newCapacity_0f7a4_29, J5_newCapacity_0f7a4_32, J5_newCapacity_0f7a4_34, J5_newCapacity_0f7a4_36, J5_newCapacity_0f7a4_38, J5_newCapacity_0f7a4_51, J5_newCapacity_0f7a4_53, J5_newCapacity_0f7a4_54, J5_newCapacity_0f7a4_57, J5_newCapacity_0f7a4_58, show (2 : Int32) = nI 2 from rfl, show (2147483647 : Int32) = nI 2147483647 from rfl, show (1 : Int32) = nI 1 from rfl, kieq_t, kieq_f, kine_t, kine_f, kilt_t, kilt_f, kile_t, kile_f, kim_eq, kmi_eq, kim_ne, kmi_ne, kim_le, kim_lt, kmi_le, kmi_lt, kmm_eq, kleq_t, kleq_f, klne_t, klne_f, kllt_t, kllt_f, klge_t, klge_f, klgt_t, klgt_f, klle_t, klle_f, klz_f, klz_g, kdivL, kdivI, kmodL, kmodI, knIL, lN_i, nI_add, pk_mul, pk_sub, lN_add, lN_mul, lN_sub, bI_eq0, bI_ne0, kkl_i, kkl_l, kkl_r, kkl_0, Option.bind_some, Option.toList_some, Option.toList_none, List.cons_append, List.nil_append, if_true, if_false, eq_self, not_true_eq_false, not_false_eq_true, ku2_eq, pk_us, pk_uLs, kup_Is, kup_Js, ku2_ku2, kup_I, kup_J, nI_sh0, nI_sl0, pk_subm, kad1, kad2]
theorem b_co (hv : X.1 v = some (.inl (.byte, 16, .inl f))) (ht : 242 ≤ X.2.1) (hlt : v < X.2.1) (hf : ∀ j, (f j).toInt8.toInt32 = f j) : rn (d + 2) mJ7_copyOf_9075b [.ref v, .int (nI 34)] X = some (some (.ref X.2.1), kup (knew X (.inl (.byte, 34, .inl fun _ => nI 0)) 34) X.2.1 (.inl (.byte, 34, .inl (va_cpy f (fun _ => nI 0) 0 0 16)))) := by
  have hv2 : (knew X (.inl (.byte, 34, .inl fun _ => nI 0)) 34).1 v = some (.inl (.byte, 16, .inl f)) := by
    show (if v = X.2.1 then _ else X.1 v) = _
    rw [if_neg (by omega)]
    exact hv
  have ht2 : (knew X (.inl (.byte, 34, .inl fun _ => nI 0)) 34).1 X.2.1 = some (.inl (.byte, 34, .inl fun _ => nI 0)) := if_pos rfl
  have hc := b_cp (x := 0) (y := 0) (k := 16) hv2 ht2 (by omega) (by decide) (by decide) (by decide) (by decide) hf
  rw [J7_copyOf_9075b_E]
  conv => lhs; simp (disch := first | assumption | omega | decide | exact bI_or _) only [w_ln hv, w_ln hv2, w_na (n := 34) (by decide), nI_clamp (n := 34) (by decide), j_minN, show min 16 34 = 16 from rfl, hc, J7_copyOf_9075b_0, J7_copyOf_9075b_1, J7_copyOf_9075b_2, J7_copyOf_9075b_3, J7_copyOf_9075b_6, J7_copyOf_9075b_14, J7_copyOf_9075b_15, J7_copyOf_9075b_17, J7_copyOf_9075b_18, J7_copyOf_9075b_19, J7_copyOf_9075b_20, J7_copyOf_9075b_21, J7_copyOf_9075b_22, J7_copyOf_9075b_23, J7_copyOf_9075b_24, J7_copyOf_9075b_25, J7_copyOf_9075b_28, J7_copyOf_9075b_31, J7_copyOf_9075b_32, show (0 : Int32) = nI 0 from rfl, show (1 : Int32) = nI 1 from rfl, kieq_t, kieq_f, kine_t, kine_f, kilt_t, kilt_f, kile_t, kile_f, kim_eq, kmi_eq, kim_ne, kmi_ne, kim_le, kim_lt, kmi_le, kmi_lt, kmm_eq, kleq_t, kleq_f, klne_t, klne_f, kllt_t, kllt_f, klge_t, klge_f, klgt_t, klgt_f, klle_t, klle_f, klz_f, klz_g, kdivL, kdivI, kmodL, kmodI, knIL, lN_i, nI_add, pk_mul, pk_sub, lN_add, lN_mul, lN_sub, bI_eq0, bI_ne0, kkl_i, kkl_l, kkl_r, kkl_0, Option.bind_some, Option.toList_some, Option.toList_none, List.cons_append, List.nil_append, if_true, if_false, eq_self, not_true_eq_false, not_false_eq_true, ku2_eq, pk_us, pk_uLs, kup_Is, kup_Js, ku2_ku2, kup_I, kup_J, nI_sh0, nI_sl0, pk_subm, kad1, kad2]
theorem b_ens {b1 b2 q : Nat} (hS : SBy X a v m f n) (hC : SBc X b1 b2 m) (hq : q ≤ 34) : ∃ (X' : kH) (v' m' : Nat) (f' : Nat → Int32), rn (d + 4) mJ5_ensureCapacityInternal_d00df [.ref a, .int (nI q)] X = some (none, X') ∧ SBy X' a v' m' f' n ∧ SBc X' b1 b2 m' ∧ q ≤ m' ∧ (∀ j, j < n → f' j = f j) ∧ Fw X X' := by
  obtain ⟨h1, h2, h3, h4, h5, h6, h7, h8, h9⟩ := id hS
  have hm : m ≤ 34 := by rcases hC with z | z <;> omega
  by_cases c : q ≤ m
  · refine ⟨X, v, m, f, ?_, hS, hC, c, fun _ _ => rfl, Fw.rf X⟩
    have e0 : nI q - nI m ≤ (0 : Int32) := by
      rw [Int32.le_iff_toInt_le, pk_sub_toInt (by omega) (by omega)]
      show (q : Int) - m ≤ 0
      omega
    rw [J5_ensureCapacityInternal_d00df_E]
    conv => lhs; simp only [J5_ensureCapacityInternal_d00df_0, J5_ensureCapacityInternal_d00df_1, J5_ensureCapacityInternal_d00df_4, J5_ensureCapacityInternal_d00df_5, J5_ensureCapacityInternal_d00df_6, J5_ensureCapacityInternal_d00df_9, J5_ensureCapacityInternal_d00df_10, J5_ensureCapacityInternal_d00df_11, J5_ensureCapacityInternal_d00df_12, J5_ensureCapacityInternal_d00df_13, J5_ensureCapacityInternal_d00df_17, J5_ensureCapacityInternal_d00df_18, J5_ensureCapacityInternal_d00df_19, J5_ensureCapacityInternal_d00df_22, J5_ensureCapacityInternal_d00df_23, J5_ensureCapacityInternal_d00df_24, J5_ensureCapacityInternal_d00df_27, J5_ensureCapacityInternal_d00df_28, J5_ensureCapacityInternal_d00df_31, J5_ensureCapacityInternal_d00df_32, J5_ensureCapacityInternal_d00df_35, J5_ensureCapacityInternal_d00df_38, b_f0 h1, b_f1 h1, w_ln h2, nI_sh0, Option.bind_some, kkl_i, kkl_r, kkl_0]
    rw [J5_ensureCapacityInternal_d00df_14, if_pos e0, J5_ensureCapacityInternal_d00df_38]
  · rcases hC with ⟨rfl, hc1, hc2⟩ | ⟨rfl, _⟩
    · have e0 : ¬ nI q - nI 16 ≤ (0 : Int32) := by
        rw [Int32.le_iff_toInt_le, pk_sub_toInt (by omega) (by omega)]
        show ¬ (q : Int) - (16 : Nat) ≤ 0
        omega
      have hco := b_co (d := d + 1) h2 (by omega) h8 h3
      obtain ⟨Y, hY⟩ : ∃ Y, kup (knew X (.inl (.byte, 34, .inl fun _ => nI 0)) 34) X.2.1 (.inl (.byte, 34, .inl (va_cpy f (fun _ => nI 0) 0 0 16))) = Y := ⟨_, rfl⟩
      have ya : Y.1 a = some (.inr (0, [.ref v, .int 0, .int 0, .int (nI n)])) := by
        rw [← hY, kupn (by omega)]
        show (if a = X.2.1 then _ else X.1 a) = _
        rw [if_neg (by omega)]
        exact h1
      have yv : Y.1 X.2.1 = some (.inl (.byte, 34, .inl (va_cpy f (fun _ => nI 0) 0 0 16))) := by rw [← hY, kup_at]
      have yt : Y.2 = (X.2.1 + 1, X.2.2 + 34) := by rw [← hY]; rfl
      rw [hY] at hco
      refine ⟨kup Y a (.inr (0, [.ref X.2.1, .int 0, .int 0, .int (nI n)])), X.2.1, 34, va_cpy f (fun _ => nI 0) 0 0 16, ?_, ⟨kup_at _ _ _, ?_, fit_c h3 (fun _ => rfl), by omega, h5, by omega, by omega, ?_, ?_⟩, Or.inr ⟨rfl, ?_, ?_⟩, hq, fun j hj => ?_, ?_⟩
      · rw [J5_ensureCapacityInternal_d00df_E]
        conv => lhs; simp only [J5_ensureCapacityInternal_d00df_0, J5_ensureCapacityInternal_d00df_1, J5_ensureCapacityInternal_d00df_4, J5_ensureCapacityInternal_d00df_5, J5_ensureCapacityInternal_d00df_6, J5_ensureCapacityInternal_d00df_9, J5_ensureCapacityInternal_d00df_10, J5_ensureCapacityInternal_d00df_11, J5_ensureCapacityInternal_d00df_12, J5_ensureCapacityInternal_d00df_13, J5_ensureCapacityInternal_d00df_17, J5_ensureCapacityInternal_d00df_18, J5_ensureCapacityInternal_d00df_19, J5_ensureCapacityInternal_d00df_22, J5_ensureCapacityInternal_d00df_23, J5_ensureCapacityInternal_d00df_24, J5_ensureCapacityInternal_d00df_27, J5_ensureCapacityInternal_d00df_28, J5_ensureCapacityInternal_d00df_31, J5_ensureCapacityInternal_d00df_32, J5_ensureCapacityInternal_d00df_35, J5_ensureCapacityInternal_d00df_38, b_f0 h1, b_f1 h1, w_ln h2, nI_sh0, Option.bind_some, kkl_i, kkl_r, kkl_0]
        rw [J5_ensureCapacityInternal_d00df_14, if_neg e0]
        conv => lhs; simp only [J5_ensureCapacityInternal_d00df_0, J5_ensureCapacityInternal_d00df_1, J5_ensureCapacityInternal_d00df_4, J5_ensureCapacityInternal_d00df_5, J5_ensureCapacityInternal_d00df_6, J5_ensureCapacityInternal_d00df_9, J5_ensureCapacityInternal_d00df_10, J5_ensureCapacityInternal_d00df_11, J5_ensureCapacityInternal_d00df_12, J5_ensureCapacityInternal_d00df_13, J5_ensureCapacityInternal_d00df_14, J5_ensureCapacityInternal_d00df_17, J5_ensureCapacityInternal_d00df_18, J5_ensureCapacityInternal_d00df_19, J5_ensureCapacityInternal_d00df_22, J5_ensureCapacityInternal_d00df_23, J5_ensureCapacityInternal_d00df_24, J5_ensureCapacityInternal_d00df_27, J5_ensureCapacityInternal_d00df_28, J5_ensureCapacityInternal_d00df_31, J5_ensureCapacityInternal_d00df_32, J5_ensureCapacityInternal_d00df_35, J5_ensureCapacityInternal_d00df_38, b_f0 h1, b_f1 h1, b_is h1, if_true, b_nc (d := d) h1 h2 (Nat.lt_of_not_le c) hq, nI_sl0, hco, b_p0 ya (by omega), Option.bind_some, Option.toList_some, List.cons_append, List.nil_append]
      · rw [kupn (by omega)]; exact yv
      · show X.2.1 < Y.2.1
        rw [yt]; show X.2.1 < X.2.1 + 1; omega
      · show a < Y.2.1
        rw [yt]; show a < X.2.1 + 1; omega
      · show Y.2.1 = _
        rw [yt, ← hc1]
      · show Y.2.2 = _
        rw [yt, ← hc2]
      · unfold va_cpy
        rw [if_pos (by omega)]
        congr 1
        omega
      · rw [← hY]
        exact (((Fw.rf X).nw (by omega)).up (by omega)).up h5
    · omega
/-- a letter -/
theorem b_chr {b1 b2 c : Nat} {T : List Nat} (hS : SBx X a b1 b2 T) (hc : c < 128) (hT : T.length < 34) : ∃ X', rn (d + 6) mJ4_append_cf468 [.ref a, .int (nI c)] X = some (some (.ref a), X') ∧ SBx X' a b1 b2 (T ++ [c]) ∧ Fw X X' := by
  obtain ⟨v, m, f, hy, ht, hC⟩ := hS
  obtain ⟨Y, v', m', f', he, hy', hC', hq, hk, hw⟩ := b_ens (d := d) (q := T.length + 1) hy hC (by omega)
  obtain ⟨h1, h2, h3, h4, h5, h6, h7, h8, h9⟩ := id hy'
  have hm : m' ≤ 34 := by rcases hC' with z | z <;> omega
  obtain ⟨Z, hZ⟩ : ∃ Z, kup Y a (.inr (0, [.ref v', .int 0, .int 0, .int (nI (T.length + 1))])) = Z := ⟨_, rfl⟩
  have zv : Z.1 v' = some (.inl (.byte, m', .inl f')) := by rw [← hZ, kupn (fun z => h7 z.symm)]; exact h2
  have za : Z.1 a = some (.inr (0, [.ref v', .int 0, .int 0, .int (nI (T.length + 1))])) := by rw [← hZ, kup_at]
  have zt : Z.2 = Y.2 := by rw [← hZ]; rfl
  have hp := b_p3 h1 (by omega) (nI (T.length + 1))
  rw [hZ] at hp
  have hb := b_bs (k := T.length) (x := nI c) zv (by omega) (by omega) (by omega) (i8n c hc)
  have e5 : rn (d + 5) mJ5_append_3fe6f [.ref a, .int (nI c)] X = some (some (.ref a), kup Z v' (.inl (.byte, m', .inl (upd f' T.length (nI c))))) := by
    rw [J5_append_3fe6f_E]
    conv => lhs; simp (disch := first | assumption | omega | decide | exact bI_or _) only [b_f0 h1, b_f3 h1, b_f3 hy.1, b_is h1, b_is hy.1, he, b_lat h1, b_can hc, hp, i8n c hc, hb, J5_append_3fe6f_0, J5_append_3fe6f_1, J5_append_3fe6f_2, J5_append_3fe6f_5, J5_append_3fe6f_6, J5_append_3fe6f_7, J5_append_3fe6f_10, J5_append_3fe6f_11, J5_append_3fe6f_14, J5_append_3fe6f_17, J5_append_3fe6f_18, J5_append_3fe6f_21, J5_append_3fe6f_24, J5_append_3fe6f_25, J5_append_3fe6f_28, J5_append_3fe6f_29, J5_append_3fe6f_30, J5_append_3fe6f_33, J5_append_3fe6f_34, J5_append_3fe6f_35, J5_append_3fe6f_36, J5_append_3fe6f_39, J5_append_3fe6f_40, J5_append_3fe6f_41, J5_append_3fe6f_42, J5_append_3fe6f_45, J5_append_3fe6f_46, J5_append_3fe6f_49, J5_append_3fe6f_52, J5_append_3fe6f_56, J5_append_3fe6f_57, J5_append_3fe6f_60, J5_append_3fe6f_61, J5_append_3fe6f_62, J5_append_3fe6f_65, J5_append_3fe6f_66, J5_append_3fe6f_67, J5_append_3fe6f_68, J5_append_3fe6f_71, J5_append_3fe6f_75, J5_append_3fe6f_76, show (1 : Int32) = nI 1 from rfl, show (0 : Int32) = nI 0 from rfl, show (1 : Int32) = nI 1 from rfl, kieq_t, kieq_f, kine_t, kine_f, kilt_t, kilt_f, kile_t, kile_f, kim_eq, kmi_eq, kim_ne, kmi_ne, kim_le, kim_lt, kmi_le, kmi_lt, kmm_eq, kleq_t, kleq_f, klne_t, klne_f, kllt_t, kllt_f, klge_t, klge_f, klgt_t, klgt_f, klle_t, klle_f, klz_f, klz_g, kdivL, kdivI, kmodL, kmodI, knIL, lN_i, nI_add, pk_mul, pk_sub, lN_add, lN_mul, lN_sub, bI_eq0, bI_ne0, kkl_i, kkl_l, kkl_r, kkl_0, Option.bind_some, Option.toList_some, Option.toList_none, List.cons_append, List.nil_append, if_true, if_false, eq_self, not_true_eq_false, not_false_eq_true, ku2_eq, pk_us, pk_uLs, kup_Is, kup_Js, ku2_ku2, kup_I, kup_J, nI_sh0, nI_sl0, pk_subm, kad1, kad2]
  refine ⟨kup Z v' (.inl (.byte, m', .inl (upd f' T.length (nI c)))), ?_, ⟨v', m', upd f' T.length (nI c), ⟨?_, kup_at _ _ _, fit_u h3 (i8n c hc), by simp; omega, h5, h6, h7, ?_, ?_⟩, fun j hj => ?_, ?_⟩, ?_⟩
  · rw [J4_append_cf468_E]
    conv => lhs; simp (disch := first | assumption | omega | decide | exact bI_or _) only [b_is hy.1, e5, J4_append_cf468_0, J4_append_cf468_1, J4_append_cf468_2, J4_append_cf468_5, J4_append_cf468_6, J4_append_cf468_7, show (1 : Int32) = nI 1 from rfl, kieq_t, kieq_f, kine_t, kine_f, kilt_t, kilt_f, kile_t, kile_f, kim_eq, kmi_eq, kim_ne, kmi_ne, kim_le, kim_lt, kmi_le, kmi_lt, kmm_eq, kleq_t, kleq_f, klne_t, klne_f, kllt_t, kllt_f, klge_t, klge_f, klgt_t, klgt_f, klle_t, klle_f, klz_f, klz_g, kdivL, kdivI, kmodL, kmodI, knIL, lN_i, nI_add, pk_mul, pk_sub, lN_add, lN_mul, lN_sub, bI_eq0, bI_ne0, kkl_i, kkl_l, kkl_r, kkl_0, Option.bind_some, Option.toList_some, Option.toList_none, List.cons_append, List.nil_append, if_true, if_false, eq_self, not_true_eq_false, not_false_eq_true, ku2_eq, pk_us, pk_uLs, kup_Is, kup_Js, ku2_ku2, kup_I, kup_J, nI_sh0, nI_sl0, pk_subm, kad1, kad2]
  · rw [kupn h7, za]
    simp
  · show v' < Z.2.1
    rw [zt]; exact h8
  · show a < Z.2.1
    rw [zt]; exact h9
  · rw [List.length_append, List.length_singleton] at hj
    unfold upd
    by_cases z : j = T.length
    · rw [if_pos z, z]
      simp [List.getD_eq_getElem?_getD]
    · rw [if_neg z, hk j (by omega), ht j (by omega)]
      congr 1
      simp only [List.getD_eq_getElem?_getD]
      rw [List.getElem?_append_left (by omega)]
  · unfold SBc at *
    show (m' = 16 ∧ Z.2.1 = b1 ∧ Z.2.2 = b2) ∨ _
    rw [show (kup Z v' (.inl (.byte, m', .inl (upd f' T.length (nI c))))).2 = Y.2 from zt, zt]
    exact hC'
  · refine Fw.up ?_ h6
    rw [← hZ]
    exact hw.up h5
end WBA
