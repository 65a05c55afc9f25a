/-! OWN: the class: lines through notes -/
theorem x_neg {x y : Int64} (hy : 0 ≤ y.toInt) : x ^^^ y < 0 ↔ x.toInt < 0 := by
  have h0 : (0 : Int64).toInt = 0 := by decide
  rw [Int64.lt_iff_toInt_lt, h0]
  have e : ∀ z : Int64, (z.toInt < 0) ↔ z.toBitVec.msb = true := fun z => by
    rw [BitVec.msb_eq_toInt]
    exact ⟨fun h => decide_eq_true h, fun h => of_decide_eq_true h⟩
  have ey : y.toBitVec.msb = false := by
    cases h : y.toBitVec.msb
    · rfl
    · have := (e y).mpr h; omega
  rw [e, e, Int64.toBitVec_xor, BitVec.msb_xor, ey, Bool.xor_false]
section CMD
variable {d : Nat} {h : kH} {i : tI} {l : tL} {I : tI} {J : tL} {nw df : Nat} {P : Nat → Nat}
theorem j_floorDiv {a : Int} {b : Nat} (ha : a.natAbs < 4611686018427387904) (hb : 0 < b) (hb2 : b < 4611686018427387904) : rn (d + 1) mJ9_floorDiv_f86c9 [.long (zL a), .long (lN b)] h = some (some (.long (zL (flz a b))), h) := by
  have ta : (zL a).toInt = a := zL_toInt (by omega) (by omega)
  have tb : (lN b).toInt = b := by rw [← zL_N]; exact zL_toInt (by omega) (by omega)
  have hx := x_neg (x := zL a) (y := lN b) (by rw [tb]; omega)
  rw [ta] at hx
  unfold flz
  rw [J9_floorDiv_f86c9_E]
  by_cases c : 0 ≤ a
  · rw [if_pos c]
    have e1 : zL a = lN a.toNat := zL_nat c
    have e2 : ∀ (p q : Nat) (L : kL) (S : List Value), exLtL (lN a.toNat ^^^ lN b) (lN 0) d mJ9_floorDiv_f86c9 p q L S h = ex d mJ9_floorDiv_f86c9 q L S h := fun p q L S => if_neg (fun z => by rw [← e1] at z; have := hx.mp z; omega)
    rw [e1, zL_N]
    conv => lhs; simp (disch := first | assumption | omega | decide | exact bI_or _) only [e2, J9_floorDiv_f86c9_0, J9_floorDiv_f86c9_1, J9_floorDiv_f86c9_2, J9_floorDiv_f86c9_3, J9_floorDiv_f86c9_5, J9_floorDiv_f86c9_6, J9_floorDiv_f86c9_7, J9_floorDiv_f86c9_8, J9_floorDiv_f86c9_9, J9_floorDiv_f86c9_10b, J9_floorDiv_f86c9_13, J9_floorDiv_f86c9_15, J9_floorDiv_f86c9_16, J9_floorDiv_f86c9_17, J9_floorDiv_f86c9_18, J9_floorDiv_f86c9_19b, J9_floorDiv_f86c9_22, J9_floorDiv_f86c9_24, J9_floorDiv_f86c9_25, J9_floorDiv_f86c9_26, J9_floorDiv_f86c9_27, J9_floorDiv_f86c9_29, show (0 : Int64) = lN 0 from rfl, show (0 : Int32) = nI 0 from rfl, show (1 : Int64) = lN 1 from rfl, exLt_c1, exLt_c2, exEq_c, exLt_t, exLt_f, exEq_s, exEq_t, exEq_f, exLt_mn, exLt_nm, exEq_mn, exEq_nm, exEq_mm, exEq_xf, exLtL_t, exLtL_f, exEqL_t, exEqL_f, exB_t, exB_f, exSw_t, exSw_f, exSw_0, klz_f, klz_g, kieq_f, kdivL, kdivI, kmodL, kmodI, knIL, lN_i, nI_add, pk_mul, pk_sub, pk_subm, kad1, kad2, lN_add, lN_mul, lN_sub, kkl_i, kkl_l, kkl_r, kkl_0, Option.bind_some, Option.toList_some, Option.toList_none, List.cons_append, List.nil_append, if_true, if_false, eq_self, not_true_eq_false, not_false_eq_true, ku2_eq, ku2_ne, pk_us, pk_un, pk_uLs, pk_uLn, kup_Is, kup_In, kup_Js, kup_Jn, ku2_ku2, kup_I, kup_J, knar1, knar0]
  · rw [if_neg c]
    obtain ⟨n, hn, rfl⟩ : ∃ n : Nat, 0 < n ∧ a = -(n : Int) := ⟨(-a).toNat, by omega, by omega⟩
    have hn2 : n < 4611686018427387904 := by omega
    have e2 : ∀ (p q : Nat) (L : kL) (S : List Value), exLtL (zL (-(n : Int)) ^^^ lN b) (lN 0) d mJ9_floorDiv_f86c9 p q L S h = ex d mJ9_floorDiv_f86c9 p L S h := fun p q L S => if_pos (hx.mpr (by omega))
    have e3 := zL_divN (n := n) (g := b) hb hb2 hn2
    have e4 : zL (-((n / b : Nat) : Int)) * lN b = zL (-((n / b * b : Nat) : Int)) := by
      rw [← zL_N b, zL_mul, Int.natCast_mul, Int.neg_mul]
    have hdm : n / b * b + n % b = n := by rw [Nat.mul_comm]; exact Nat.div_add_mod n b
    have et : (- -(n : Int)).toNat = n := by omega
    rw [et]
    have nz : ∀ z : Prop, (if lN b = (0 : Int64) then z else True) → True := fun _ _ => trivial
    by_cases c1 : n % b = 0
    · rw [if_pos c1]
      have e5 : ∀ (p q : Nat) (L : kL) (S : List Value), exEqL (zL (-((n / b * b : Nat) : Int))) (zL (-(n : Int))) d mJ9_floorDiv_f86c9 p q L S h = ex d mJ9_floorDiv_f86c9 p L S h := fun p q L S => if_pos (by rw [show n / b * b = n by omega])
      conv => lhs; simp (disch := first | assumption | omega | decide | exact bI_or _) only [e2, e3, e4, e5, J9_floorDiv_f86c9_0, J9_floorDiv_f86c9_1, J9_floorDiv_f86c9_2, J9_floorDiv_f86c9_3, J9_floorDiv_f86c9_5, J9_floorDiv_f86c9_6, J9_floorDiv_f86c9_7, J9_floorDiv_f86c9_8, J9_floorDiv_f86c9_9, J9_floorDiv_f86c9_10b, J9_floorDiv_f86c9_13, J9_floorDiv_f86c9_15, J9_floorDiv_f86c9_16, J9_floorDiv_f86c9_17, J9_floorDiv_f86c9_18, J9_floorDiv_f86c9_19b, J9_floorDiv_f86c9_22, J9_floorDiv_f86c9_24, J9_floorDiv_f86c9_25, J9_floorDiv_f86c9_26, J9_floorDiv_f86c9_27, J9_floorDiv_f86c9_29, show (0 : Int64) = lN 0 from rfl, show (0 : Int32) = nI 0 from rfl, show (1 : Int64) = lN 1 from rfl, exLt_c1, exLt_c2, exEq_c, exLt_t, exLt_f, exEq_s, exEq_t, exEq_f, exLt_mn, exLt_nm, exEq_mn, exEq_nm, exEq_mm, exEq_xf, exLtL_t, exLtL_f, exEqL_t, exEqL_f, exB_t, exB_f, exSw_t, exSw_f, exSw_0, klz_f, klz_g, kieq_f, kdivL, kdivI, kmodL, kmodI, knIL, lN_i, nI_add, pk_mul, pk_sub, pk_subm, kad1, kad2, lN_add, lN_mul, lN_sub, kkl_i, kkl_l, kkl_r, kkl_0, Option.bind_some, Option.toList_some, Option.toList_none, List.cons_append, List.nil_append, if_true, if_false, eq_self, not_true_eq_false, not_false_eq_true, ku2_eq, ku2_ne, pk_us, pk_un, pk_uLs, pk_uLn, kup_Is, kup_In, kup_Js, kup_Jn, ku2_ku2, kup_I, kup_J, knar1, knar0]
    · rw [if_neg c1]
      have e5 : ∀ (p q : Nat) (L : kL) (S : List Value), exEqL (zL (-((n / b * b : Nat) : Int))) (zL (-(n : Int))) d mJ9_floorDiv_f86c9 p q L S h = ex d mJ9_floorDiv_f86c9 q L S h := fun p q L S => if_neg (fun z => by
        have := congrArg Int64.toInt z
        rw [zL_toInt (by omega) (by omega), zL_toInt (by omega) (by omega)] at this
        omega)
      conv => lhs; simp (disch := first | assumption | omega | decide | exact bI_or _) only [e2, e3, e4, e5, J9_floorDiv_f86c9_0, J9_floorDiv_f86c9_1, J9_floorDiv_f86c9_2, J9_floorDiv_f86c9_3, J9_floorDiv_f86c9_5, J9_floorDiv_f86c9_6, J9_floorDiv_f86c9_7, J9_floorDiv_f86c9_8, J9_floorDiv_f86c9_9, J9_floorDiv_f86c9_10b, J9_floorDiv_f86c9_13, J9_floorDiv_f86c9_15, J9_floorDiv_f86c9_16, J9_floorDiv_f86c9_17, J9_floorDiv_f86c9_18, J9_floorDiv_f86c9_19b, J9_floorDiv_f86c9_22, J9_floorDiv_f86c9_24, J9_floorDiv_f86c9_25, J9_floorDiv_f86c9_26, J9_floorDiv_f86c9_27, J9_floorDiv_f86c9_29, show (0 : Int64) = lN 0 from rfl, show (0 : Int32) = nI 0 from rfl, show (1 : Int64) = lN 1 from rfl, exLt_c1, exLt_c2, exEq_c, exLt_t, exLt_f, exEq_s, exEq_t, exEq_f, exLt_mn, exLt_nm, exEq_mn, exEq_nm, exEq_mm, exEq_xf, exLtL_t, exLtL_f, exEqL_t, exEqL_f, exB_t, exB_f, exSw_t, exSw_f, exSw_0, klz_f, klz_g, kieq_f, kdivL, kdivI, kmodL, kmodI, knIL, lN_i, nI_add, pk_mul, pk_sub, pk_subm, kad1, kad2, lN_add, lN_mul, lN_sub, kkl_i, kkl_l, kkl_r, kkl_0, Option.bind_some, Option.toList_some, Option.toList_none, List.cons_append, List.nil_append, if_true, if_false, eq_self, not_true_eq_false, not_false_eq_true, ku2_eq, ku2_ne, pk_us, pk_un, pk_uLs, pk_uLn, kup_Is, kup_In, kup_Js, kup_Jn, ku2_ku2, kup_I, kup_J, knar1, knar0]
      rw [← zL_N 1, zL_sub]
      rfl
end CMD
