/-! OWN: words: a builder takes a String, a number; its letters -/
theorem mI_le_iff {a b : Nat} (ha : a < 2147483648) (hb : b < 2147483648) : mI a ≤ mI b ↔ b ≤ a := by
  rw [Int32.le_iff_toInt_le, mI_toInt ha, mI_toInt hb]
  omega
theorem mI_lt_iff {a b : Nat} (ha : a < 2147483648) (hb : b < 2147483648) : mI a < mI b ↔ b < a := by
  rw [Int32.lt_iff_toInt_lt, mI_toInt ha, mI_toInt hb]
  omega
theorem neg_mI (a : Nat) : -(mI a) = nI a := by unfold mI; rw [Int32.neg_neg]
theorem nI_mulm (a b : Nat) : nI a * mI b = mI (a * b) := by unfold mI; rw [Int32.mul_neg, pk_mul]
theorem mI_muln (a b : Nat) : mI a * nI b = mI (a * b) := by unfold mI; rw [Int32.neg_mul, pk_mul]
theorem mI_subm {a b : Nat} (h : a ≤ b) : mI a - mI b = nI (b - a) := by
  unfold mI
  rw [Int32.sub_eq_add_neg, Int32.neg_neg, Int32.add_comm, ← Int32.sub_eq_add_neg]
  exact pk_sub h
theorem mI_div {a b : Nat} (ha : a < 2147483648) (hb : 0 < b) (hb2 : b < 2147483648) : mI a / nI b = mI (a / b) := by
  have h1 : a / b ≤ a := Nat.div_le_self a b
  refine Int32.toInt_inj.mp ?_
  rw [mI_toInt (by omega), Int32.toInt_div_of_ne_right _ _ (fun z => by
    have := congrArg Int32.toInt z
    rw [nI_toInt hb2] at this
    have : (b : Int) = -1 := this
    omega), mI_toInt ha, nI_toInt hb2, Int.neg_tdiv]
  rfl
/-- the texts -/
def txN : List (List Nat) := [[97, 98, 109, 107, 114, 119, 120, 121], [111, 117, 116, 101, 114], [105, 110, 110, 101, 114], [98, 97, 108, 108], [99, 97, 103, 101], [115, 104, 97, 102, 116]]
theorem txN_l : ∀ k, k < 6 → (txN.getD k []).length = ktl.getD k 0 := by decide
theorem txN_k : ∀ k, k < 6 → ∀ j, j < ktl.getD k 0 → kbt k j = nI ((txN.getD k []).getD j 0) := by decide
theorem kbt_fit (k j : Nat) : (kbt k j).toInt8.toInt32 = kbt k j := by
  have hall : ∀ l ∈ ktxt, ∀ x ∈ l, x.toInt8.toInt32 = x := by decide +kernel
  unfold kbt
  rw [List.getD_eq_getElem?_getD (l := ktxt)]
  cases h1 : ktxt[k]? with
  | none => simp
  | some l =>
    show (l.getD j 0).toInt8.toInt32 = l.getD j 0
    rw [List.getD_eq_getElem?_getD]
    cases h2 : l[j]? with
    | none => rfl
    | some x => exact hall l (List.mem_of_getElem? h1) x (List.mem_of_getElem? h2)
theorem hStr.w {X Y : kH} (h : hStr X) (w : Fw X Y) : hStr Y := by
  refine ⟨fun k hk => ?_, ?_, ?_⟩
  · rw [w (k + 3) (by omega), w (k + 9) (by omega)]
    exact h.1 k hk
  · rw [w 15 (by omega)]; exact h.2.1
  · rw [w 16 (by omega)]; exact h.2.2
theorem dgL_at (v : Nat) : ∀ (m j : Nat), j ≤ m → (dgL v m).getD j 0 = 48 + v / 10 ^ (m - j) % 10
  | 0, j, h => by
    obtain rfl : j = 0 := by omega
    simp [dgL]
  | m + 1, 0, h => by simp [dgL]
  | m + 1, j + 1, h => by
    rw [dgL, show m + 1 - (j + 1) = m - j by omega, ← dgL_at v m j (by omega)]
    simp [List.getD_eq_getElem?_getD]
theorem dgM_100 {x : Nat} (h : 100 ≤ x) (hx : x < 10000000) : dgM x = dgM (x / 100) + 2 := by
  unfold dgM
  repeat' split
  all_goals omega
theorem dgM_1 {x : Nat} (h : x < 10) : dgM x = 0 := if_pos h
theorem dgM_2 {x : Nat} (h : 10 ≤ x) (h2 : x < 100) : dgM x = 1 := by
  unfold dgM
  rw [if_neg (by omega), if_pos h2]
theorem kones_fit : ∀ j, j < 100 → (kones j).toInt8.toInt32 = kones j ∧ (ktens j).toInt8.toInt32 = ktens j := by decide +kernel
section WBB
variable {d : Nat} {X : kH} {a v m n : Nat} {f : Nat → Int32}
theorem b_gb {s p k : Nat} {g : Nat → Int32} (hs : X.1 s = some (.inr (14, [.ref p, .int 0]))) (hp : X.1 p = some (.inl (.byte, k, .inl g))) (hg : ∀ j, (g j).toInt8.toInt32 = g j) (hv : X.1 v = some (.inl (.byte, m, .inl f))) (h32 : 32 ≤ v) (hm : m < 1000) (hk : k < 1000) (hn : n + k ≤ m) : rn (d + 2) mJ0_getBytes_840e7 [.ref s, .ref v, .int (nI n), .int (nI 0)] X = some (none, kup X v (.inl (.byte, m, .inl (va_cpy g f 0 n k)))) := by
  have hc := b_cp (x := 0) (y := n) (k := k) hp hv h32 (by omega) hn (by omega) (by omega) hg
  rw [J0_getBytes_840e7_E]
  conv => lhs; simp (disch := first | assumption | omega | decide | exact bI_or _) only [w_is hs, w_cod hs, w_f0 hs, w_ln hp, nI_sl0, hc, J0_getBytes_840e7_0, J0_getBytes_840e7_1, J0_getBytes_840e7_4, J0_getBytes_840e7_5, J0_getBytes_840e7_8, J0_getBytes_840e7_9, J0_getBytes_840e7_12, J0_getBytes_840e7_13, J0_getBytes_840e7_14, J0_getBytes_840e7_15, J0_getBytes_840e7_16, J0_getBytes_840e7_17, J0_getBytes_840e7_18, J0_getBytes_840e7_21, J0_getBytes_840e7_22, J0_getBytes_840e7_25, J0_getBytes_840e7_28, J0_getBytes_840e7_29, J0_getBytes_840e7_32, J0_getBytes_840e7_33, J0_getBytes_840e7_34, J0_getBytes_840e7_35, J0_getBytes_840e7_36, J0_getBytes_840e7_39, J0_getBytes_840e7_43, show (0 : Int32) = nI 0 from rfl, show (1 : Int32) = nI 1 from rfl, kieq_t, kieq_f, kine_t, kine_f, kilt_t, kilt_f, kile_t, kile_f, kim_eq, kmi_eq, kim_ne, kmi_ne, kim_le, kim_lt, kmi_le, kmi_lt, kmm_eq, kleq_t, kleq_f, klne_t, klne_f, kllt_t, kllt_f, klge_t, klge_f, klgt_t, klgt_f, klle_t, klle_f, klz_f, klz_g, kdivL, kdivI, kmodL, kmodI, knIL, lN_i, nI_add, pk_mul, pk_sub, lN_add, lN_mul, lN_sub, bI_eq0, bI_ne0, kkl_i, kkl_l, kkl_r, kkl_0, Option.bind_some, Option.toList_some, Option.toList_none, List.cons_append, List.nil_append, if_true, if_false, eq_self, not_true_eq_false, not_false_eq_true, ku2_eq, pk_us, pk_uLs, kup_Is, kup_Js, ku2_ku2, kup_I, kup_J, nI_sh0, nI_sl0, pk_subm, kad1, kad2]
theorem b_inf {s p : Nat} {w0 w2 w3 : Value} (h1 : X.1 a = some (.inr (0, [w0, .int 0, w2, w3]))) (hs : X.1 s = some (.inr (14, [.ref p, .int 0]))) : rn (d + 2) mJ5_inflateIfNeededFor_a7421 [.ref a, .ref s] X = some (none, X) := by
  rw [J5_inflateIfNeededFor_a7421_E]
  conv => lhs; simp (disch := first | assumption | omega | decide | exact bI_or _) only [b_f1 h1, w_is hs, w_cod hs, J5_inflateIfNeededFor_a7421_0, J5_inflateIfNeededFor_a7421_3, J5_inflateIfNeededFor_a7421_6, J5_inflateIfNeededFor_a7421_7, J5_inflateIfNeededFor_a7421_10, J5_inflateIfNeededFor_a7421_11, J5_inflateIfNeededFor_a7421_14, J5_inflateIfNeededFor_a7421_17, J5_inflateIfNeededFor_a7421_21, show (0 : Int32) = nI 0 from rfl, show (1 : Int32) = nI 1 from rfl, kieq_t, kieq_f, kine_t, kine_f, kilt_t, kilt_f, kile_t, kile_f, kim_eq, kmi_eq, kim_ne, kmi_ne, kim_le, kim_lt, kmi_le, kmi_lt, kmm_eq, kleq_t, kleq_f, klne_t, klne_f, kllt_t, kllt_f, klge_t, klge_f, klgt_t, klgt_f, klle_t, klle_f, klz_f, klz_g, kdivL, kdivI, kmodL, kmodI, knIL, lN_i, nI_add, pk_mul, pk_sub, lN_add, lN_mul, lN_sub, bI_eq0, bI_ne0, kkl_i, kkl_l, kkl_r, kkl_0, Option.bind_some, Option.toList_some, Option.toList_none, List.cons_append, List.nil_append, if_true, if_false, eq_self, not_true_eq_false, not_false_eq_true, ku2_eq, pk_us, pk_uLs, kup_Is, kup_Js, ku2_ku2, kup_I, kup_J, nI_sh0, nI_sl0, pk_subm, kad1, kad2]
theorem b_str {b1 b2 k : Nat} {T : List Nat} (hs : hStr X) (hk : k < 6) (hS : SBx X a b1 b2 T) (hT : T.length + ktl.getD k 0 ≤ 34) : ∃ X', rn (d + 6) mJ4_append_15ec4 [.ref a, .ref (k + 3)] X = some (some (.ref a), X') ∧ SBx X' a b1 b2 (T ++ txN.getD k []) ∧ Fw X X' := by
  obtain ⟨v, m, f, hy, ht, hC⟩ := hS
  obtain ⟨ln, hln⟩ : ∃ ln, ktl.getD k 0 = ln := ⟨_, rfl⟩
  have htl := txN_l k hk
  have htk := txN_k k hk
  have s1 := (hs.1 k hk).1
  have s2 := (hs.1 k hk).2
  rw [hln] at hT htl htk s2
  obtain ⟨Y, v', m', f', he, hy', hC', hq, hkp, hw⟩ := b_ens (d := d) (q := T.length + ln) hy hC hT
  obtain ⟨h1, h2, h3, h4, h5, h6, h7, h8, h9⟩ := id hy'
  have t1 : Y.1 (k + 3) = some (.inr (14, [.ref (k + 9), .int 0])) := by rw [hw _ (by omega)]; exact s1
  have t2 : Y.1 (k + 9) = some (.inl (.byte, ln, .inl (kbt k))) := by rw [hw _ (by omega)]; exact s2
  have hm : m' ≤ 34 := by rcases hC' with z | z <;> omega
  obtain ⟨Z, hZ⟩ : ∃ Z, kup Y v' (.inl (.byte, m', .inl (va_cpy (kbt k) f' 0 T.length ln))) = Z := ⟨_, rfl⟩
  have hgb := b_gb (d := d + 1) (n := T.length) t1 t2 (kbt_fit k) h2 (by omega) (by omega) (by omega) hq
  rw [hZ] at hgb
  have za : Z.1 a = some (.inr (0, [.ref v', .int 0, .int 0, .int (nI T.length)])) := by rw [← hZ, kupn h7]; exact h1
  have zv : Z.1 v' = some (.inl (.byte, m', .inl (va_cpy (kbt k) f' 0 T.length ln))) := by rw [← hZ, kup_at]
  have zt : Z.2 = Y.2 := by rw [← hZ]; rfl
  have hp := b_p3 za (by omega) (nI (T.length + ln))
  have hps : rn (d + 4) mJ5_putStringAt_47b60 [.ref a, .int (nI T.length), .ref (k + 3)] Y = some (none, Z) := by
    rw [J5_putStringAt_47b60_E]
    conv => lhs; simp (disch := first | assumption | omega | decide | exact bI_or _) only [b_is h1, w_is t1, b_inf (d := d + 1) h1 t1, b_f0 h1, b_f1 h1, hgb, J5_putStringAt_47b60_0, J5_putStringAt_47b60_1, J5_putStringAt_47b60_2, J5_putStringAt_47b60_5, J5_putStringAt_47b60_6, J5_putStringAt_47b60_7, J5_putStringAt_47b60_10, J5_putStringAt_47b60_11, J5_putStringAt_47b60_12, J5_putStringAt_47b60_15, J5_putStringAt_47b60_18, show (1 : Int32) = nI 1 from rfl, kieq_t, kieq_f, kine_t, kine_f, kilt_t, kilt_f, kile_t, kile_f, kim_eq, kmi_eq, kim_ne, kmi_ne, kim_le, kim_lt, kmi_le, kmi_lt, kmm_eq, kleq_t, kleq_f, klne_t, klne_f, kllt_t, kllt_f, klge_t, klge_f, klgt_t, klgt_f, klle_t, klle_f, klz_f, klz_g, kdivL, kdivI, kmodL, kmodI, knIL, lN_i, nI_add, pk_mul, pk_sub, lN_add, lN_mul, lN_sub, bI_eq0, bI_ne0, kkl_i, kkl_l, kkl_r, kkl_0, Option.bind_some, Option.toList_some, Option.toList_none, List.cons_append, List.nil_append, if_true, if_false, eq_self, not_true_eq_false, not_false_eq_true, ku2_eq, pk_us, pk_uLs, kup_Is, kup_Js, ku2_ku2, kup_I, kup_J, nI_sh0, nI_sl0, pk_subm, kad1, kad2]
  have e5 : rn (d + 5) mJ5_append_cf1ce [.ref a, .ref (k + 3)] X = some (some (.ref a), kup Z a (.inr (0, [.ref v', .int 0, .int 0, .int (nI (T.length + ln))]))) := by
    rw [J5_append_cf1ce_E]
    conv => lhs; simp (disch := first | assumption | omega | decide | exact bI_or _) only [w_is s1, w_len (d := d + 2) s1 s2, b_f3 hy.1, b_is hy.1, he, b_is h1, b_f3 h1, hps, b_f3 za, hp, J5_append_cf1ce_0, J5_append_cf1ce_1, J5_append_cf1ce_4, J5_append_cf1ce_9, J5_append_cf1ce_10, J5_append_cf1ce_13, J5_append_cf1ce_14, J5_append_cf1ce_15, J5_append_cf1ce_16, J5_append_cf1ce_19, J5_append_cf1ce_20, J5_append_cf1ce_21, J5_append_cf1ce_24, J5_append_cf1ce_25, J5_append_cf1ce_26, J5_append_cf1ce_29, J5_append_cf1ce_30, J5_append_cf1ce_33, J5_append_cf1ce_34, J5_append_cf1ce_35, J5_append_cf1ce_38, J5_append_cf1ce_39, J5_append_cf1ce_40, J5_append_cf1ce_43, J5_append_cf1ce_44, show (1 : Int32) = nI 1 from rfl, kieq_t, kieq_f, kine_t, kine_f, kilt_t, kilt_f, kile_t, kile_f, kim_eq, kmi_eq, kim_ne, kmi_ne, kim_le, kim_lt, kmi_le, kmi_lt, kmm_eq, kleq_t, kleq_f, klne_t, klne_f, kllt_t, kllt_f, klge_t, klge_f, klgt_t, klgt_f, klle_t, klle_f, klz_f, klz_g, kdivL, kdivI, kmodL, kmodI, knIL, lN_i, nI_add, pk_mul, pk_sub, lN_add, lN_mul, lN_sub, bI_eq0, bI_ne0, kkl_i, kkl_l, kkl_r, kkl_0, Option.bind_some, Option.toList_some, Option.toList_none, List.cons_append, List.nil_append, if_true, if_false, eq_self, not_true_eq_false, not_false_eq_true, ku2_eq, pk_us, pk_uLs, kup_Is, kup_Js, ku2_ku2, kup_I, kup_J, nI_sh0, nI_sl0, pk_subm, kad1, kad2]
  refine ⟨kup Z a (.inr (0, [.ref v', .int 0, .int 0, .int (nI (T.length + ln))])), ?_, ⟨v', m', va_cpy (kbt k) f' 0 T.length ln, ⟨?_, ?_, fit_c (kbt_fit k) h3, ?_, h5, h6, h7, ?_, ?_⟩, fun j hj => ?_, ?_⟩, ?_⟩
  · rw [J4_append_15ec4_E]
    conv => lhs; simp (disch := first | assumption | omega | decide | exact bI_or _) only [b_is hy.1, e5, J4_append_15ec4_0, J4_append_15ec4_1, J4_append_15ec4_2, J4_append_15ec4_5, J4_append_15ec4_6, J4_append_15ec4_7, show (1 : Int32) = nI 1 from rfl, kieq_t, kieq_f, kine_t, kine_f, kilt_t, kilt_f, kile_t, kile_f, kim_eq, kmi_eq, kim_ne, kmi_ne, kim_le, kim_lt, kmi_le, kmi_lt, kmm_eq, kleq_t, kleq_f, klne_t, klne_f, kllt_t, kllt_f, klge_t, klge_f, klgt_t, klgt_f, klle_t, klle_f, klz_f, klz_g, kdivL, kdivI, kmodL, kmodI, knIL, lN_i, nI_add, pk_mul, pk_sub, lN_add, lN_mul, lN_sub, bI_eq0, bI_ne0, kkl_i, kkl_l, kkl_r, kkl_0, Option.bind_some, Option.toList_some, Option.toList_none, List.cons_append, List.nil_append, if_true, if_false, eq_self, not_true_eq_false, not_false_eq_true, ku2_eq, pk_us, pk_uLs, kup_Is, kup_Js, ku2_ku2, kup_I, kup_J, nI_sh0, nI_sl0, pk_subm, kad1, kad2]
  · rw [kup_at, List.length_append, htl]
  · rw [kupn (fun z => h7 z.symm)]; exact zv
  · rw [List.length_append, htl]; exact hq
  · show v' < Z.2.1
    rw [zt]; exact h8
  · show a < Z.2.1
    rw [zt]; exact h9
  · rw [List.length_append, htl] at hj
    unfold va_cpy
    by_cases z : j < T.length
    · rw [if_neg (by omega), hkp j z, ht j z]
      congr 1
      simp only [List.getD_eq_getElem?_getD]
      rw [List.getElem?_append_left z]
    · rw [if_pos (by omega), htk _ (by omega)]
      congr 1
      simp only [List.getD_eq_getElem?_getD]
      rw [List.getElem?_append_right (by omega), Nat.zero_add]
  · unfold SBc at *
    rw [show (kup Z a (.inr (0, [.ref v', .int 0, .int 0, .int (nI (T.length + ln))]))).2 = Y.2 from zt]
    exact hC'
  · refine Fw.up ?_ h5
    rw [← hZ]
    exact hw.up h6
theorem b_sst {i p x : Nat} (hi : i < 10) (hp : p ≤ 100000000) (hx : x < 10000000) : ex d mJ6_stringSize_0f7a4 16 [some (.int (mI x)), some (.int (nI 0)), some (.int (mI p)), some (.int (nI i))] [] X = if x < p then some (some (.int (nI i)), X) else ex d mJ6_stringSize_0f7a4 16 [some (.int (mI x)), some (.int (nI 0)), some (.int (mI (10 * p))), some (.int (nI (i + 1)))] [] X := by
  rw [J6_stringSize_0f7a4_16]
  conv => lhs; simp (disch := first | assumption | omega | decide | exact bI_or _) only [J6_stringSize_0f7a4_0, J6_stringSize_0f7a4_1, J6_stringSize_0f7a4_2, J6_stringSize_0f7a4_3, J6_stringSize_0f7a4_6, J6_stringSize_0f7a4_7, J6_stringSize_0f7a4_8, J6_stringSize_0f7a4_9, J6_stringSize_0f7a4_10, J6_stringSize_0f7a4_11, J6_stringSize_0f7a4_13, J6_stringSize_0f7a4_14, J6_stringSize_0f7a4_15, J6_stringSize_0f7a4_17, J6_stringSize_0f7a4_19, J6_stringSize_0f7a4_22, J6_stringSize_0f7a4_23, J6_stringSize_0f7a4_27, J6_stringSize_0f7a4_28, J6_stringSize_0f7a4_29, J6_stringSize_0f7a4_30, J6_stringSize_0f7a4_31, J6_stringSize_0f7a4_33, J6_stringSize_0f7a4_34, J6_stringSize_0f7a4_35, J6_stringSize_0f7a4_36, J6_stringSize_0f7a4_39, J6_stringSize_0f7a4_42, J6_stringSize_0f7a4_44, J6_stringSize_0f7a4_45, J6_stringSize_0f7a4_46, show (1 : Int32) = nI 1 from rfl, show (0 : Int32) = nI 0 from rfl, ↓(show (-10 : Int32) = mI 10 from rfl), show (10 : Int32) = nI 10 from rfl, show (1 : Int32) = nI 1 from rfl, kieq_t, kieq_f, kine_t, kine_f, kilt_t, kilt_f, kile_t, kile_f, kim_eq, kmi_eq, kim_ne, kmi_ne, kim_le, kim_lt, kmi_le, kmi_lt, kmm_eq, kleq_t, kleq_f, klne_t, klne_f, kllt_t, kllt_f, klge_t, klge_f, klgt_t, klgt_f, klle_t, klle_f, klz_f, klz_g, kdivL, kdivI, kmodL, kmodI, knIL, lN_i, nI_add, pk_mul, pk_sub, lN_add, lN_mul, lN_sub, bI_eq0, bI_ne0, kkl_i, kkl_l, kkl_r, kkl_0, Option.bind_some, Option.toList_some, Option.toList_none, List.cons_append, List.nil_append, if_true, if_false, eq_self, not_true_eq_false, not_false_eq_true, ku2_eq, pk_us, pk_uLs, kup_Is, kup_Js, ku2_ku2, kup_I, kup_J, nI_sh0, nI_sl0, pk_subm, kad1, kad2]
  rw [J6_stringSize_0f7a4_24]
  by_cases c : x < p
  · rw [if_pos c, if_neg (fun z => by rw [mI_le_iff (by omega) (by omega)] at z; omega)]
    conv => lhs; simp (disch := first | assumption | omega | decide | exact bI_or _) only [Nat.add_zero, J6_stringSize_0f7a4_0, J6_stringSize_0f7a4_1, J6_stringSize_0f7a4_2, J6_stringSize_0f7a4_3, J6_stringSize_0f7a4_6, J6_stringSize_0f7a4_7, J6_stringSize_0f7a4_8, J6_stringSize_0f7a4_9, J6_stringSize_0f7a4_10, J6_stringSize_0f7a4_11, J6_stringSize_0f7a4_13, J6_stringSize_0f7a4_14, J6_stringSize_0f7a4_15, J6_stringSize_0f7a4_17, J6_stringSize_0f7a4_19, J6_stringSize_0f7a4_22, J6_stringSize_0f7a4_23, J6_stringSize_0f7a4_24, J6_stringSize_0f7a4_27, J6_stringSize_0f7a4_28, J6_stringSize_0f7a4_29, J6_stringSize_0f7a4_30, J6_stringSize_0f7a4_31, J6_stringSize_0f7a4_33, J6_stringSize_0f7a4_34, J6_stringSize_0f7a4_35, J6_stringSize_0f7a4_36, J6_stringSize_0f7a4_39, J6_stringSize_0f7a4_42, J6_stringSize_0f7a4_44, J6_stringSize_0f7a4_45, J6_stringSize_0f7a4_46, show (1 : Int32) = nI 1 from rfl, show (0 : Int32) = nI 0 from rfl, ↓(show (-10 : Int32) = mI 10 from rfl), show (10 : Int32) = nI 10 from rfl, show (1 : Int32) = nI 1 from rfl, kieq_t, kieq_f, kine_t, kine_f, kilt_t, kilt_f, kile_t, kile_f, kim_eq, kmi_eq, kim_ne, kmi_ne, kim_le, kim_lt, kmi_le, kmi_lt, kmm_eq, kleq_t, kleq_f, klne_t, klne_f, kllt_t, kllt_f, klge_t, klge_f, klgt_t, klgt_f, klle_t, klle_f, klz_f, klz_g, kdivL, kdivI, kmodL, kmodI, knIL, lN_i, nI_add, pk_mul, pk_sub, lN_add, lN_mul, lN_sub, bI_eq0, bI_ne0, kkl_i, kkl_l, kkl_r, kkl_0, Option.bind_some, Option.toList_some, Option.toList_none, List.cons_append, List.nil_append, if_true, if_false, eq_self, not_true_eq_false, not_false_eq_true, ku2_eq, pk_us, pk_uLs, kup_Is, kup_Js, ku2_ku2, kup_I, kup_J, nI_sh0, nI_sl0, pk_subm, kad1, kad2]
  · rw [if_neg c, if_pos ((mI_le_iff (by omega) (by omega)).mpr (by omega))]
    conv => lhs; simp (disch := first | assumption | omega | decide | exact bI_or _) only [nI_mulm, J6_stringSize_0f7a4_0, J6_stringSize_0f7a4_1, J6_stringSize_0f7a4_2, J6_stringSize_0f7a4_3, J6_stringSize_0f7a4_6, J6_stringSize_0f7a4_7, J6_stringSize_0f7a4_8, J6_stringSize_0f7a4_9, J6_stringSize_0f7a4_10, J6_stringSize_0f7a4_11, J6_stringSize_0f7a4_13, J6_stringSize_0f7a4_14, J6_stringSize_0f7a4_15, J6_stringSize_0f7a4_17, J6_stringSize_0f7a4_19, J6_stringSize_0f7a4_22, J6_stringSize_0f7a4_23, J6_stringSize_0f7a4_24, J6_stringSize_0f7a4_27, J6_stringSize_0f7a4_28, J6_stringSize_0f7a4_29, J6_stringSize_0f7a4_30, J6_stringSize_0f7a4_31, J6_stringSize_0f7a4_33, J6_stringSize_0f7a4_34, J6_stringSize_0f7a4_35, J6_stringSize_0f7a4_36, J6_stringSize_0f7a4_39, J6_stringSize_0f7a4_42, J6_stringSize_0f7a4_44, J6_stringSize_0f7a4_45, J6_stringSize_0f7a4_46, show (1 : Int32) = nI 1 from rfl, show (0 : Int32) = nI 0 from rfl, ↓(show (-10 : Int32) = mI 10 from rfl), show (10 : Int32) = nI 10 from rfl, show (1 : Int32) = nI 1 from rfl, kieq_t, kieq_f, kine_t, kine_f, kilt_t, kilt_f, kile_t, kile_f, kim_eq, kmi_eq, kim_ne, kmi_ne, kim_le, kim_lt, kmi_le, kmi_lt, kmm_eq, kleq_t, kleq_f, klne_t, klne_f, kllt_t, kllt_f, klge_t, klge_f, klgt_t, klgt_f, klle_t, klle_f, klz_f, klz_g, kdivL, kdivI, kmodL, kmodI, knIL, lN_i, nI_add, pk_mul, pk_sub, lN_add, lN_mul, lN_sub, bI_eq0, bI_ne0, kkl_i, kkl_l, kkl_r, kkl_0, Option.bind_some, Option.toList_some, Option.toList_none, List.cons_append, List.nil_append, if_true, if_false, eq_self, not_true_eq_false, not_false_eq_true, ku2_eq, pk_us, pk_uLs, kup_Is, kup_Js, ku2_ku2, kup_I, kup_J, nI_sh0, nI_sl0, pk_subm, kad1, kad2]
theorem b_ss {x : Nat} (hx : x < 10000000) : rn (d + 1) mJ6_stringSize_0f7a4 [.int (nI x)] X = some (some (.int (nI (dgM x + 1))), X) := by
  rw [J6_stringSize_0f7a4_E]
  conv => lhs; simp (disch := first | assumption | omega | decide | exact bI_or _) only [show -nI x = mI x from rfl, J6_stringSize_0f7a4_0, J6_stringSize_0f7a4_1, J6_stringSize_0f7a4_2, J6_stringSize_0f7a4_3, J6_stringSize_0f7a4_6, J6_stringSize_0f7a4_7, J6_stringSize_0f7a4_8, J6_stringSize_0f7a4_9, J6_stringSize_0f7a4_10, J6_stringSize_0f7a4_11, J6_stringSize_0f7a4_13, J6_stringSize_0f7a4_14, J6_stringSize_0f7a4_15, J6_stringSize_0f7a4_17, J6_stringSize_0f7a4_19, J6_stringSize_0f7a4_22, J6_stringSize_0f7a4_23, J6_stringSize_0f7a4_24, J6_stringSize_0f7a4_27, J6_stringSize_0f7a4_28, J6_stringSize_0f7a4_29, J6_stringSize_0f7a4_30, J6_stringSize_0f7a4_31, J6_stringSize_0f7a4_33, J6_stringSize_0f7a4_34, J6_stringSize_0f7a4_35, J6_stringSize_0f7a4_36, J6_stringSize_0f7a4_39, J6_stringSize_0f7a4_42, J6_stringSize_0f7a4_44, J6_stringSize_0f7a4_45, J6_stringSize_0f7a4_46, show (1 : Int32) = nI 1 from rfl, show (0 : Int32) = nI 0 from rfl, ↓(show (-10 : Int32) = mI 10 from rfl), show (10 : Int32) = nI 10 from rfl, show (1 : Int32) = nI 1 from rfl, kieq_t, kieq_f, kine_t, kine_f, kilt_t, kilt_f, kile_t, kile_f, kim_eq, kmi_eq, kim_ne, kmi_ne, kim_le, kim_lt, kmi_le, kmi_lt, kmm_eq, kleq_t, kleq_f, klne_t, klne_f, kllt_t, kllt_f, klge_t, klge_f, klgt_t, klgt_f, klle_t, klle_f, klz_f, klz_g, kdivL, kdivI, kmodL, kmodI, knIL, lN_i, nI_add, pk_mul, pk_sub, lN_add, lN_mul, lN_sub, bI_eq0, bI_ne0, kkl_i, kkl_l, kkl_r, kkl_0, Option.bind_some, Option.toList_some, Option.toList_none, List.cons_append, List.nil_append, if_true, if_false, eq_self, not_true_eq_false, not_false_eq_true, ku2_eq, pk_us, pk_uLs, kup_Is, kup_Js, ku2_ku2, kup_I, kup_J, nI_sh0, nI_sl0, pk_subm, kad1, kad2]
  rw [b_sst (by decide) (by decide) hx, b_sst (by decide) (by decide) hx, b_sst (by decide) (by decide) hx, b_sst (by decide) (by decide) hx, b_sst (by decide) (by decide) hx, b_sst (by decide) (by decide) hx, b_sst (by decide) (by decide) hx]
  unfold dgM
  repeat' split
  all_goals first | rfl | (exfalso; omega)
theorem b_gcs {e : Nat} (hs : hStr X) (h32 : 242 ≤ v) (hm : m < 1000) (x pos : Nat) (f : Nat → Int32) (A3 A4 : Option Value) (hx : x < 100) (hA : kkl A4 = A4) (hp : pos = n + dgM x + 1) (hpm : pos ≤ m) (hf : ∀ j, (f j).toInt8.toInt32 = f j) : ∃ f' : Nat → Int32, ex d mJ6_getChars_ba4f3 22 [some (.int (mI x)), some (.int (nI e)), some (.ref v), A3, A4, some (.int (nI pos)), some (.int (nI 0))] [] (kup X v (.inl (.byte, m, .inl f))) = some (some (.int (nI n)), kup X v (.inl (.byte, m, .inl f'))) ∧ (∀ j, (f' j).toInt8.toInt32 = f' j) ∧ (∀ j, j < n → f' j = f j) ∧ (∀ j, pos ≤ j → f' j = f j) ∧ ∀ j, n ≤ j → j < pos → f' j = nI (48 + x / 10 ^ (pos - 1 - j) % 10) := by
  have fit := kones_fit x hx
  have g1 : (kup X v (.inl (.byte, m, .inl f))).1 16 = some (.inl (.byte, 100, .inl kones)) := by rw [kupn (by omega)]; exact hs.2.2
  have g2 : (kup X v (.inl (.byte, m, .inl (upd f (pos - 1) (kones x))))).1 15 = some (.inl (.byte, 100, .inl ktens)) := by rw [kupn (by omega)]; exact hs.2.1
  have b1 := b_bs (X := kup X v (.inl (.byte, m, .inl f))) (k := pos - 1) (kup_at _ _ _) (by omega) (by omega) (by omega) fit.1
  rw [kup_up] at b1
  by_cases c : x < 10
  · rw [dgM_1 c] at hp
    refine ⟨upd f (pos - 1) (kones x), ?_, fit_u hf fit.1, fun j hj => ?_, fun j hj => ?_, fun j h1 h2 => ?_⟩
    · have q1 : pos - 1 = n := by omega
      rw [J6_getChars_ba4f3_22]
      conv => lhs; simp only [J6_getChars_ba4f3_23, ↓(show (-100 : Int32) = mI 100 from rfl)]
      rw [J6_getChars_ba4f3_25, if_pos ((mI_lt_iff (by decide) (by omega)).mpr (by omega))]
      conv => lhs; simp (disch := first | assumption | omega | decide | exact bI_or _) only [hA, neg_mI, w_bl g1 hx (by decide), b1, J6_getChars_ba4f3_0, J6_getChars_ba4f3_1, J6_getChars_ba4f3_3, J6_getChars_ba4f3_4, J6_getChars_ba4f3_7, J6_getChars_ba4f3_8, J6_getChars_ba4f3_11, J6_getChars_ba4f3_12, J6_getChars_ba4f3_14, J6_getChars_ba4f3_16, J6_getChars_ba4f3_19, J6_getChars_ba4f3_20, J6_getChars_ba4f3_21, J6_getChars_ba4f3_23, J6_getChars_ba4f3_25, J6_getChars_ba4f3_28, J6_getChars_ba4f3_29, J6_getChars_ba4f3_31, J6_getChars_ba4f3_32, J6_getChars_ba4f3_33, J6_getChars_ba4f3_34, J6_getChars_ba4f3_36, J6_getChars_ba4f3_37, J6_getChars_ba4f3_38, J6_getChars_ba4f3_39, J6_getChars_ba4f3_41, J6_getChars_ba4f3_42, J6_getChars_ba4f3_43, J6_getChars_ba4f3_44, J6_getChars_ba4f3_47, J6_getChars_ba4f3_49, J6_getChars_ba4f3_52, J6_getChars_ba4f3_54, J6_getChars_ba4f3_55, J6_getChars_ba4f3_56, J6_getChars_ba4f3_57, J6_getChars_ba4f3_60, J6_getChars_ba4f3_62, J6_getChars_ba4f3_65, J6_getChars_ba4f3_67, J6_getChars_ba4f3_68, J6_getChars_ba4f3_69, J6_getChars_ba4f3_72, J6_getChars_ba4f3_73, J6_getChars_ba4f3_76, J6_getChars_ba4f3_78, J6_getChars_ba4f3_81, J6_getChars_ba4f3_82, J6_getChars_ba4f3_83, J6_getChars_ba4f3_84, J6_getChars_ba4f3_85, J6_getChars_ba4f3_86, J6_getChars_ba4f3_91, J6_getChars_ba4f3_92, J6_getChars_ba4f3_95, J6_getChars_ba4f3_97, J6_getChars_ba4f3_100, J6_getChars_ba4f3_101, J6_getChars_ba4f3_102, J6_getChars_ba4f3_103, J6_getChars_ba4f3_104, J6_getChars_ba4f3_106, J6_getChars_ba4f3_109, J6_getChars_ba4f3_110, J6_getChars_ba4f3_113, J6_getChars_ba4f3_115, J6_getChars_ba4f3_117, J6_getChars_ba4f3_118, J6_getChars_ba4f3_120, show (0 : Int32) = nI 0 from rfl, show (1 : Int32) = nI 1 from rfl, ↓(show (-100 : Int32) = mI 100 from rfl), show (100 : Int32) = nI 100 from rfl, ↓(show (-1 : Int32) = mI 1 from rfl), ↓(show (-9 : Int32) = mI 9 from rfl), show (45 : Int32) = nI 45 from rfl, show (1 : Int32) = nI 1 from rfl, kieq_t, kieq_f, kine_t, kine_f, kilt_t, kilt_f, kile_t, kile_f, kim_eq, kmi_eq, kim_ne, kmi_ne, kim_le, kim_lt, kmi_le, kmi_lt, kmm_eq, kleq_t, kleq_f, klne_t, klne_f, kllt_t, kllt_f, klge_t, klge_f, klgt_t, klgt_f, klle_t, klle_f, klz_f, klz_g, kdivL, kdivI, kmodL, kmodI, knIL, lN_i, nI_add, pk_mul, pk_sub, lN_add, lN_mul, lN_sub, bI_eq0, bI_ne0, kkl_i, kkl_l, kkl_r, kkl_0, Option.bind_some, Option.toList_some, Option.toList_none, List.cons_append, List.nil_append, if_true, if_false, eq_self, not_true_eq_false, not_false_eq_true, ku2_eq, pk_us, pk_uLs, kup_Is, kup_Js, ku2_ku2, kup_I, kup_J, nI_sh0, nI_sl0, pk_subm, kad1, kad2]
      rw [J6_getChars_ba4f3_88, if_pos ((mI_le_iff (by decide) (by omega)).mpr (by omega))]
      conv => lhs; simp (disch := first | assumption | omega | decide | exact bI_or _) only [J6_getChars_ba4f3_0, J6_getChars_ba4f3_1, J6_getChars_ba4f3_3, J6_getChars_ba4f3_4, J6_getChars_ba4f3_7, J6_getChars_ba4f3_8, J6_getChars_ba4f3_11, J6_getChars_ba4f3_12, J6_getChars_ba4f3_14, J6_getChars_ba4f3_16, J6_getChars_ba4f3_19, J6_getChars_ba4f3_20, J6_getChars_ba4f3_21, J6_getChars_ba4f3_23, J6_getChars_ba4f3_25, J6_getChars_ba4f3_28, J6_getChars_ba4f3_29, J6_getChars_ba4f3_31, J6_getChars_ba4f3_32, J6_getChars_ba4f3_33, J6_getChars_ba4f3_34, J6_getChars_ba4f3_36, J6_getChars_ba4f3_37, J6_getChars_ba4f3_38, J6_getChars_ba4f3_39, J6_getChars_ba4f3_41, J6_getChars_ba4f3_42, J6_getChars_ba4f3_43, J6_getChars_ba4f3_44, J6_getChars_ba4f3_47, J6_getChars_ba4f3_49, J6_getChars_ba4f3_52, J6_getChars_ba4f3_54, J6_getChars_ba4f3_55, J6_getChars_ba4f3_56, J6_getChars_ba4f3_57, J6_getChars_ba4f3_60, J6_getChars_ba4f3_62, J6_getChars_ba4f3_65, J6_getChars_ba4f3_67, J6_getChars_ba4f3_68, J6_getChars_ba4f3_69, J6_getChars_ba4f3_72, J6_getChars_ba4f3_73, J6_getChars_ba4f3_76, J6_getChars_ba4f3_78, J6_getChars_ba4f3_81, J6_getChars_ba4f3_82, J6_getChars_ba4f3_83, J6_getChars_ba4f3_84, J6_getChars_ba4f3_85, J6_getChars_ba4f3_86, J6_getChars_ba4f3_88, J6_getChars_ba4f3_91, J6_getChars_ba4f3_92, J6_getChars_ba4f3_95, J6_getChars_ba4f3_97, J6_getChars_ba4f3_100, J6_getChars_ba4f3_101, J6_getChars_ba4f3_102, J6_getChars_ba4f3_103, J6_getChars_ba4f3_104, J6_getChars_ba4f3_106, J6_getChars_ba4f3_109, J6_getChars_ba4f3_110, J6_getChars_ba4f3_113, J6_getChars_ba4f3_115, J6_getChars_ba4f3_117, J6_getChars_ba4f3_118, J6_getChars_ba4f3_120, show (0 : Int32) = nI 0 from rfl, show (1 : Int32) = nI 1 from rfl, ↓(show (-100 : Int32) = mI 100 from rfl), show (100 : Int32) = nI 100 from rfl, ↓(show (-1 : Int32) = mI 1 from rfl), ↓(show (-9 : Int32) = mI 9 from rfl), show (45 : Int32) = nI 45 from rfl, show (1 : Int32) = nI 1 from rfl, kieq_t, kieq_f, kine_t, kine_f, kilt_t, kilt_f, kile_t, kile_f, kim_eq, kmi_eq, kim_ne, kmi_ne, kim_le, kim_lt, kmi_le, kmi_lt, kmm_eq, kleq_t, kleq_f, klne_t, klne_f, kllt_t, kllt_f, klge_t, klge_f, klgt_t, klgt_f, klle_t, klle_f, klz_f, klz_g, kdivL, kdivI, kmodL, kmodI, knIL, lN_i, nI_add, pk_mul, pk_sub, lN_add, lN_mul, lN_sub, bI_eq0, bI_ne0, kkl_i, kkl_l, kkl_r, kkl_0, Option.bind_some, Option.toList_some, Option.toList_none, List.cons_append, List.nil_append, if_true, if_false, eq_self, not_true_eq_false, not_false_eq_true, ku2_eq, pk_us, pk_uLs, kup_Is, kup_Js, ku2_ku2, kup_I, kup_J, nI_sh0, nI_sl0, pk_subm, kad1, kad2]
      rw [q1]
    · unfold upd; rw [if_neg (by omega)]
    · unfold upd; rw [if_neg (by omega)]
    · unfold upd
      rw [if_pos (by omega), show pos - 1 - j = 0 by omega, Nat.pow_zero, Nat.div_one]
      rfl
  · rw [dgM_2 (by omega) hx] at hp
    have b2 := b_bs (X := kup X v (.inl (.byte, m, .inl (upd f (pos - 1) (kones x))))) (k := pos - 2) (kup_at _ _ _) (by omega) (by omega) (by omega) fit.2
    rw [kup_up] at b2
    refine ⟨upd (upd f (pos - 1) (kones x)) (pos - 2) (ktens x), ?_, fit_u (fit_u hf fit.1) fit.2, fun j hj => ?_, fun j hj => ?_, fun j h1 h2 => ?_⟩
    · have q1 : pos - 2 = n := by omega
      have q2 : pos - 1 - 1 = pos - 2 := by omega
      rw [J6_getChars_ba4f3_22]
      conv => lhs; simp only [J6_getChars_ba4f3_23, ↓(show (-100 : Int32) = mI 100 from rfl)]
      rw [J6_getChars_ba4f3_25, if_pos ((mI_lt_iff (by decide) (by omega)).mpr (by omega))]
      conv => lhs; simp (disch := first | assumption | omega | decide | exact bI_or _) only [hA, neg_mI, w_bl g1 hx (by decide), b1, J6_getChars_ba4f3_0, J6_getChars_ba4f3_1, J6_getChars_ba4f3_3, J6_getChars_ba4f3_4, J6_getChars_ba4f3_7, J6_getChars_ba4f3_8, J6_getChars_ba4f3_11, J6_getChars_ba4f3_12, J6_getChars_ba4f3_14, J6_getChars_ba4f3_16, J6_getChars_ba4f3_19, J6_getChars_ba4f3_20, J6_getChars_ba4f3_21, J6_getChars_ba4f3_23, J6_getChars_ba4f3_25, J6_getChars_ba4f3_28, J6_getChars_ba4f3_29, J6_getChars_ba4f3_31, J6_getChars_ba4f3_32, J6_getChars_ba4f3_33, J6_getChars_ba4f3_34, J6_getChars_ba4f3_36, J6_getChars_ba4f3_37, J6_getChars_ba4f3_38, J6_getChars_ba4f3_39, J6_getChars_ba4f3_41, J6_getChars_ba4f3_42, J6_getChars_ba4f3_43, J6_getChars_ba4f3_44, J6_getChars_ba4f3_47, J6_getChars_ba4f3_49, J6_getChars_ba4f3_52, J6_getChars_ba4f3_54, J6_getChars_ba4f3_55, J6_getChars_ba4f3_56, J6_getChars_ba4f3_57, J6_getChars_ba4f3_60, J6_getChars_ba4f3_62, J6_getChars_ba4f3_65, J6_getChars_ba4f3_67, J6_getChars_ba4f3_68, J6_getChars_ba4f3_69, J6_getChars_ba4f3_72, J6_getChars_ba4f3_73, J6_getChars_ba4f3_76, J6_getChars_ba4f3_78, J6_getChars_ba4f3_81, J6_getChars_ba4f3_82, J6_getChars_ba4f3_83, J6_getChars_ba4f3_84, J6_getChars_ba4f3_85, J6_getChars_ba4f3_86, J6_getChars_ba4f3_91, J6_getChars_ba4f3_92, J6_getChars_ba4f3_95, J6_getChars_ba4f3_97, J6_getChars_ba4f3_100, J6_getChars_ba4f3_101, J6_getChars_ba4f3_102, J6_getChars_ba4f3_103, J6_getChars_ba4f3_104, J6_getChars_ba4f3_106, J6_getChars_ba4f3_109, J6_getChars_ba4f3_110, J6_getChars_ba4f3_113, J6_getChars_ba4f3_115, J6_getChars_ba4f3_117, J6_getChars_ba4f3_118, J6_getChars_ba4f3_120, show (0 : Int32) = nI 0 from rfl, show (1 : Int32) = nI 1 from rfl, ↓(show (-100 : Int32) = mI 100 from rfl), show (100 : Int32) = nI 100 from rfl, ↓(show (-1 : Int32) = mI 1 from rfl), ↓(show (-9 : Int32) = mI 9 from rfl), show (45 : Int32) = nI 45 from rfl, show (1 : Int32) = nI 1 from rfl, kieq_t, kieq_f, kine_t, kine_f, kilt_t, kilt_f, kile_t, kile_f, kim_eq, kmi_eq, kim_ne, kmi_ne, kim_le, kim_lt, kmi_le, kmi_lt, kmm_eq, kleq_t, kleq_f, klne_t, klne_f, kllt_t, kllt_f, klge_t, klge_f, klgt_t, klgt_f, klle_t, klle_f, klz_f, klz_g, kdivL, kdivI, kmodL, kmodI, knIL, lN_i, nI_add, pk_mul, pk_sub, lN_add, lN_mul, lN_sub, bI_eq0, bI_ne0, kkl_i, kkl_l, kkl_r, kkl_0, Option.bind_some, Option.toList_some, Option.toList_none, List.cons_append, List.nil_append, if_true, if_false, eq_self, not_true_eq_false, not_false_eq_true, ku2_eq, pk_us, pk_uLs, kup_Is, kup_Js, ku2_ku2, kup_I, kup_J, nI_sh0, nI_sl0, pk_subm, kad1, kad2]
      rw [J6_getChars_ba4f3_88, if_neg (fun z => by rw [mI_le_iff (by decide) (by omega)] at z; omega)]
      conv => lhs; simp (disch := first | assumption | omega | decide | exact bI_or _) only [hA, neg_mI, q2, w_bl g2 hx (by decide), b2, J6_getChars_ba4f3_0, J6_getChars_ba4f3_1, J6_getChars_ba4f3_3, J6_getChars_ba4f3_4, J6_getChars_ba4f3_7, J6_getChars_ba4f3_8, J6_getChars_ba4f3_11, J6_getChars_ba4f3_12, J6_getChars_ba4f3_14, J6_getChars_ba4f3_16, J6_getChars_ba4f3_19, J6_getChars_ba4f3_20, J6_getChars_ba4f3_21, J6_getChars_ba4f3_23, J6_getChars_ba4f3_25, J6_getChars_ba4f3_28, J6_getChars_ba4f3_29, J6_getChars_ba4f3_31, J6_getChars_ba4f3_32, J6_getChars_ba4f3_33, J6_getChars_ba4f3_34, J6_getChars_ba4f3_36, J6_getChars_ba4f3_37, J6_getChars_ba4f3_38, J6_getChars_ba4f3_39, J6_getChars_ba4f3_41, J6_getChars_ba4f3_42, J6_getChars_ba4f3_43, J6_getChars_ba4f3_44, J6_getChars_ba4f3_47, J6_getChars_ba4f3_49, J6_getChars_ba4f3_52, J6_getChars_ba4f3_54, J6_getChars_ba4f3_55, J6_getChars_ba4f3_56, J6_getChars_ba4f3_57, J6_getChars_ba4f3_60, J6_getChars_ba4f3_62, J6_getChars_ba4f3_65, J6_getChars_ba4f3_67, J6_getChars_ba4f3_68, J6_getChars_ba4f3_69, J6_getChars_ba4f3_72, J6_getChars_ba4f3_73, J6_getChars_ba4f3_76, J6_getChars_ba4f3_78, J6_getChars_ba4f3_81, J6_getChars_ba4f3_82, J6_getChars_ba4f3_83, J6_getChars_ba4f3_84, J6_getChars_ba4f3_85, J6_getChars_ba4f3_86, J6_getChars_ba4f3_88, J6_getChars_ba4f3_91, J6_getChars_ba4f3_92, J6_getChars_ba4f3_95, J6_getChars_ba4f3_97, J6_getChars_ba4f3_100, J6_getChars_ba4f3_101, J6_getChars_ba4f3_102, J6_getChars_ba4f3_103, J6_getChars_ba4f3_104, J6_getChars_ba4f3_106, J6_getChars_ba4f3_109, J6_getChars_ba4f3_110, J6_getChars_ba4f3_113, J6_getChars_ba4f3_115, J6_getChars_ba4f3_117, J6_getChars_ba4f3_118, J6_getChars_ba4f3_120, show (0 : Int32) = nI 0 from rfl, show (1 : Int32) = nI 1 from rfl, ↓(show (-100 : Int32) = mI 100 from rfl), show (100 : Int32) = nI 100 from rfl, ↓(show (-1 : Int32) = mI 1 from rfl), ↓(show (-9 : Int32) = mI 9 from rfl), show (45 : Int32) = nI 45 from rfl, show (1 : Int32) = nI 1 from rfl, kieq_t, kieq_f, kine_t, kine_f, kilt_t, kilt_f, kile_t, kile_f, kim_eq, kmi_eq, kim_ne, kmi_ne, kim_le, kim_lt, kmi_le, kmi_lt, kmm_eq, kleq_t, kleq_f, klne_t, klne_f, kllt_t, kllt_f, klge_t, klge_f, klgt_t, klgt_f, klle_t, klle_f, klz_f, klz_g, kdivL, kdivI, kmodL, kmodI, knIL, lN_i, nI_add, pk_mul, pk_sub, lN_add, lN_mul, lN_sub, bI_eq0, bI_ne0, kkl_i, kkl_l, kkl_r, kkl_0, Option.bind_some, Option.toList_some, Option.toList_none, List.cons_append, List.nil_append, if_true, if_false, eq_self, not_true_eq_false, not_false_eq_true, ku2_eq, pk_us, pk_uLs, kup_Is, kup_Js, ku2_ku2, kup_I, kup_J, nI_sh0, nI_sl0, pk_subm, kad1, kad2]
      rw [q1]
    · unfold upd; rw [if_neg (by omega), if_neg (by omega)]
    · unfold upd; rw [if_neg (by omega), if_neg (by omega)]
    · unfold upd
      by_cases z : j = pos - 2
      · rw [if_pos z, show pos - 1 - j = 1 by omega]
        show Int32.ofNat _ = Int32.ofNat _
        congr 1
        omega
      · rw [if_neg z, if_pos (by omega), show pos - 1 - j = 0 by omega, Nat.pow_zero, Nat.div_one]
        rfl
theorem b_gcl {e : Nat} (hs : hStr X) (h32 : 242 ≤ v) (hm : m < 1000) : ∀ (k x pos : Nat) (f : Nat → Int32) (A3 A4 : Option Value), x ≤ k → kkl A4 = A4 → pos = n + dgM x + 1 → pos ≤ m → x < 10000000 → (∀ j, (f j).toInt8.toInt32 = f j) → ∃ f' : Nat → Int32, ex d mJ6_getChars_ba4f3 22 [some (.int (mI x)), some (.int (nI e)), some (.ref v), A3, A4, some (.int (nI pos)), some (.int (nI 0))] [] (kup X v (.inl (.byte, m, .inl f))) = some (some (.int (nI n)), kup X v (.inl (.byte, m, .inl f'))) ∧ (∀ j, (f' j).toInt8.toInt32 = f' j) ∧ (∀ j, j < n → f' j = f j) ∧ (∀ j, pos ≤ j → f' j = f j) ∧ ∀ j, n ≤ j → j < pos → f' j = nI (48 + x / 10 ^ (pos - 1 - j) % 10) := by
  intro k
  induction k with
  | zero => exact fun x pos f A3 A4 hx hA hp hpm h7 hf => b_gcs hs h32 hm x pos f A3 A4 (by omega) hA hp hpm hf
  | succ k ih =>
    intro x pos f A3 A4 hx hA hp hpm h7 hf
    by_cases c : x < 100
    · exact b_gcs hs h32 hm x pos f A3 A4 c hA hp hpm hf
    · have hd := dgM_100 (by omega) h7
      have hr : x % 100 < 100 := Nat.mod_lt _ (by decide)
      have fit := kones_fit _ hr
      obtain ⟨f', e1, e2, e3, e4, e5⟩ := ih (x / 100) (pos - 2) (upd (upd f (pos - 1) (kones (x % 100))) (pos - 2) (ktens (x % 100))) (some (.int (mI (x / 100)))) (some (.int (nI (x % 100)))) (by omega) rfl (by omega) (by omega) (by omega) (fit_u (fit_u hf fit.1) fit.2)
      refine ⟨f', ?_, e2, fun j hj => ?_, fun j hj => ?_, fun j h1 h2 => ?_⟩
      · have g1 : (kup X v (.inl (.byte, m, .inl f))).1 16 = some (.inl (.byte, 100, .inl kones)) := by rw [kupn (by omega)]; exact hs.2.2
        have g2 : (kup X v (.inl (.byte, m, .inl (upd f (pos - 1) (kones (x % 100)))))).1 15 = some (.inl (.byte, 100, .inl ktens)) := by rw [kupn (by omega)]; exact hs.2.1
        have b1 := b_bs (X := kup X v (.inl (.byte, m, .inl f))) (k := pos - 1) (kup_at _ _ _) (by omega) (by omega) (by omega) fit.1
        have b2 := b_bs (X := kup X v (.inl (.byte, m, .inl (upd f (pos - 1) (kones (x % 100)))))) (k := pos - 2) (kup_at _ _ _) (by omega) (by omega) (by omega) fit.2
        rw [kup_up] at b1 b2
        have q1 : x - 100 * (x / 100) = x % 100 := by omega
        have q2 : pos - 1 - 1 = pos - 2 := by omega
        rw [J6_getChars_ba4f3_22]
        conv => lhs; simp only [J6_getChars_ba4f3_23, ↓(show (-100 : Int32) = mI 100 from rfl)]
        rw [J6_getChars_ba4f3_25, if_neg (fun z => by rw [mI_lt_iff (by decide) (by omega)] at z; omega)]
        conv => lhs; simp (disch := first | assumption | omega | decide | exact bI_or _) only [mI_div (a := x) (b := 100) (by omega) (by decide) (by decide), mI_muln, Nat.mul_comm (x / 100) 100, mI_subm (show 100 * (x / 100) ≤ x by omega), q1, q2, w_bl g1 hr (by decide), w_bl g2 hr (by decide), b1, b2, J6_getChars_ba4f3_0, J6_getChars_ba4f3_1, J6_getChars_ba4f3_3, J6_getChars_ba4f3_4, J6_getChars_ba4f3_7, J6_getChars_ba4f3_8, J6_getChars_ba4f3_11, J6_getChars_ba4f3_12, J6_getChars_ba4f3_14, J6_getChars_ba4f3_16, J6_getChars_ba4f3_19, J6_getChars_ba4f3_20, J6_getChars_ba4f3_21, J6_getChars_ba4f3_23, J6_getChars_ba4f3_25, J6_getChars_ba4f3_28, J6_getChars_ba4f3_29, J6_getChars_ba4f3_31, J6_getChars_ba4f3_32, J6_getChars_ba4f3_33, J6_getChars_ba4f3_34, J6_getChars_ba4f3_36, J6_getChars_ba4f3_37, J6_getChars_ba4f3_38, J6_getChars_ba4f3_39, J6_getChars_ba4f3_41, J6_getChars_ba4f3_42, J6_getChars_ba4f3_43, J6_getChars_ba4f3_44, J6_getChars_ba4f3_47, J6_getChars_ba4f3_49, J6_getChars_ba4f3_52, J6_getChars_ba4f3_54, J6_getChars_ba4f3_55, J6_getChars_ba4f3_56, J6_getChars_ba4f3_57, J6_getChars_ba4f3_60, J6_getChars_ba4f3_62, J6_getChars_ba4f3_65, J6_getChars_ba4f3_67, J6_getChars_ba4f3_68, J6_getChars_ba4f3_69, J6_getChars_ba4f3_72, J6_getChars_ba4f3_73, J6_getChars_ba4f3_76, J6_getChars_ba4f3_78, J6_getChars_ba4f3_81, J6_getChars_ba4f3_82, J6_getChars_ba4f3_83, J6_getChars_ba4f3_84, J6_getChars_ba4f3_85, J6_getChars_ba4f3_86, J6_getChars_ba4f3_88, J6_getChars_ba4f3_91, J6_getChars_ba4f3_92, J6_getChars_ba4f3_95, J6_getChars_ba4f3_97, J6_getChars_ba4f3_100, J6_getChars_ba4f3_101, J6_getChars_ba4f3_102, J6_getChars_ba4f3_103, J6_getChars_ba4f3_104, J6_getChars_ba4f3_106, J6_getChars_ba4f3_109, J6_getChars_ba4f3_110, J6_getChars_ba4f3_113, J6_getChars_ba4f3_115, J6_getChars_ba4f3_117, J6_getChars_ba4f3_118, J6_getChars_ba4f3_120, show (0 : Int32) = nI 0 from rfl, show (1 : Int32) = nI 1 from rfl, ↓(show (-100 : Int32) = mI 100 from rfl), show (100 : Int32) = nI 100 from rfl, ↓(show (-1 : Int32) = mI 1 from rfl), ↓(show (-9 : Int32) = mI 9 from rfl), show (45 : Int32) = nI 45 from rfl, show (1 : Int32) = nI 1 from rfl, kieq_t, kieq_f, kine_t, kine_f, kilt_t, kilt_f, kile_t, kile_f, kim_eq, kmi_eq, kim_ne, kmi_ne, kim_le, kim_lt, kmi_le, kmi_lt, kmm_eq, kleq_t, kleq_f, klne_t, klne_f, kllt_t, kllt_f, klge_t, klge_f, klgt_t, klgt_f, klle_t, klle_f, klz_f, klz_g, kdivL, kdivI, kmodL, kmodI, knIL, lN_i, nI_add, pk_mul, pk_sub, lN_add, lN_mul, lN_sub, bI_eq0, bI_ne0, kkl_i, kkl_l, kkl_r, kkl_0, Option.bind_some, Option.toList_some, Option.toList_none, List.cons_append, List.nil_append, if_true, if_false, eq_self, not_true_eq_false, not_false_eq_true, ku2_eq, pk_us, pk_uLs, kup_Is, kup_Js, ku2_ku2, kup_I, kup_J, nI_sh0, nI_sl0, pk_subm, kad1, kad2]
        exact e1
      · rw [e3 j hj]
        unfold upd
        rw [if_neg (by omega), if_neg (by omega)]
      · rw [e4 j (by omega)]
        unfold upd
        rw [if_neg (by omega), if_neg (by omega)]
      · by_cases z1 : j < pos - 2
        · rw [e5 j h1 z1, show pos - 1 - j = (pos - 2 - 1 - j) + 2 by omega, Nat.pow_add, Nat.mul_comm, ← Nat.div_div_eq_div_mul]
        · rw [e4 j (by omega)]
          unfold upd
          by_cases z2 : j = pos - 2
          · rw [if_pos z2, z2, show pos - 1 - (pos - 2) = 1 by omega]
            show Int32.ofNat _ = Int32.ofNat _
            congr 1
            omega
          · rw [if_neg z2, if_pos (by omega), show pos - 1 - j = 0 by omega]
            show Int32.ofNat _ = Int32.ofNat _
            congr 1
            rw [Nat.pow_zero, Nat.div_one]
            omega
end WBB
