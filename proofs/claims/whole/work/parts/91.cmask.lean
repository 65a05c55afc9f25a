/-! OWN: the class: masks of combs -/
theorem lN_toU (X : Nat) : (lN X).toUInt64.toNat = X % 18446744073709551616 := by
  show (lN X).toBitVec.toNat = _
  simp [lN, Int64.toBitVec_ofNat']
theorem lN_ush {X n : Nat} {c : UInt64} (hX : X < 18446744073709551616) (hc : c.toNat = n) (hn : n < 64) : ((lN X).toUInt64 >>> c).toInt64 = lN (X / 2 ^ n) := by
  apply Int64.toBitVec_inj.mp
  apply BitVec.eq_of_toNat_eq
  show ((lN X).toUInt64 >>> c).toNat = (lN (X / 2 ^ n)).toUInt64.toNat
  rw [lN_toU, UInt64.toNat_shiftRight, lN_toU, hc, Nat.mod_eq_of_lt hX, Nat.mod_eq_of_lt hn, Nat.shiftRight_eq_div_pow, Nat.mod_eq_of_lt (Nat.lt_of_le_of_lt (Nat.div_le_self _ _) hX)]
theorem us_1 {X : Nat} (hX : X < 18446744073709551616) : ((lN X).toUInt64 >>> ((lN 1).toUInt64 &&& Int64.toUInt64 63)).toInt64 = lN (X / 2) := lN_ush (n := 1) hX (by decide) (by decide)
theorem us_2 {X : Nat} (hX : X < 18446744073709551616) : ((lN X).toUInt64 >>> ((lN 2).toUInt64 &&& Int64.toUInt64 63)).toInt64 = lN (X / 4) := lN_ush (n := 2) hX (by decide) (by decide)
theorem us_4 {X : Nat} (hX : X < 18446744073709551616) : ((lN X).toUInt64 >>> ((lN 4).toUInt64 &&& Int64.toUInt64 63)).toInt64 = lN (X / 16) := lN_ush (n := 4) hX (by decide) (by decide)
theorem us_8 {X : Nat} (hX : X < 18446744073709551616) : ((lN X).toUInt64 >>> ((lN 8).toUInt64 &&& Int64.toUInt64 63)).toInt64 = lN (X / 256) := lN_ush (n := 8) hX (by decide) (by decide)
theorem us_16 {X : Nat} (hX : X < 18446744073709551616) : ((lN X).toUInt64 >>> ((lN 16).toUInt64 &&& Int64.toUInt64 63)).toInt64 = lN (X / 65536) := lN_ush (n := 16) hX (by decide) (by decide)
theorem us_32 {X : Nat} (hX : X < 18446744073709551616) : ((lN X).toUInt64 >>> ((lN 32).toUInt64 &&& Int64.toUInt64 63)).toInt64 = lN (X / 4294967296) := lN_ush (n := 32) hX (by decide) (by decide)
theorem nI_127 (Z : Nat) : nI Z &&& nI 127 = nI (Z % 128) := by
  apply Int32.toBitVec_inj.mp
  rw [← Nat.and_two_pow_sub_one_eq_mod Z 7]
  simp [nI, Int32.toBitVec_and, Int32.toBitVec_ofNat', BitVec.ofNat_and]
section CMA
variable {d : Nat} {h : kH} {i : tI} {l : tL} {I : tI} {J : tL} {nw df : Nat} {P : Nat → Nat}
theorem j_bitCount {X : Nat} (hX : X < 18446744073709551616) : rn (d + 1) mJ13_bitCount_95d88 [.long (lN X)] h = some (some (.int (nI (pcR 64 X))), h) := by
  obtain ⟨A, B, C, e1, e2, e3, e4, e5, e6, e7⟩ := bc_eq hX
  have hA : A < 18446744073709551616 := by omega
  have hB : B < 18446744073709551616 := by omega
  have hC : C < 18446744073709551616 := by omega
  rw [J13_bitCount_95d88_E]
  conv => lhs; simp (disch := first | assumption | omega | decide | exact bI_or _) only [us_1, us_2, us_4, us_8, us_16, us_32, lN_and, e1, e3, e4, nI_127, e7, J13_bitCount_95d88_0, J13_bitCount_95d88_1, J13_bitCount_95d88_2, J13_bitCount_95d88_3, J13_bitCount_95d88_4, J13_bitCount_95d88_7, J13_bitCount_95d88_8, J13_bitCount_95d88_9, J13_bitCount_95d88_10, J13_bitCount_95d88_11, J13_bitCount_95d88_14, J13_bitCount_95d88_15, J13_bitCount_95d88_16, J13_bitCount_95d88_17, J13_bitCount_95d88_18, J13_bitCount_95d88_21, J13_bitCount_95d88_22, J13_bitCount_95d88_23, J13_bitCount_95d88_24, J13_bitCount_95d88_25, J13_bitCount_95d88_26, J13_bitCount_95d88_27, J13_bitCount_95d88_28, J13_bitCount_95d88_29, J13_bitCount_95d88_32, J13_bitCount_95d88_33, J13_bitCount_95d88_34, J13_bitCount_95d88_35, J13_bitCount_95d88_36, J13_bitCount_95d88_38, J13_bitCount_95d88_39, J13_bitCount_95d88_40, J13_bitCount_95d88_41, J13_bitCount_95d88_42, J13_bitCount_95d88_43, J13_bitCount_95d88_45, J13_bitCount_95d88_46, J13_bitCount_95d88_47, J13_bitCount_95d88_48, J13_bitCount_95d88_49, J13_bitCount_95d88_50, J13_bitCount_95d88_52, J13_bitCount_95d88_53, J13_bitCount_95d88_54, J13_bitCount_95d88_55, J13_bitCount_95d88_56, J13_bitCount_95d88_57, J13_bitCount_95d88_59, J13_bitCount_95d88_60, show (1 : Int32) = nI 1 from rfl, show (6148914691236517205 : Int64) = lN 6148914691236517205 from rfl, show (3689348814741910323 : Int64) = lN 3689348814741910323 from rfl, show (2 : Int32) = nI 2 from rfl, show (4 : Int32) = nI 4 from rfl, show (1085102592571150095 : Int64) = lN 1085102592571150095 from rfl, show (8 : Int32) = nI 8 from rfl, show (16 : Int32) = nI 16 from rfl, show (32 : Int32) = nI 32 from rfl, show (127 : Int32) = nI 127 from rfl, exLt_c1, exLt_c2, exEq_c, exLt_t, exLt_f, exEq_s, exEq_t, exEq_f, exLt_mn, exLt_nm, exEq_mn, exEq_nm, exEq_mm, exEq_xf, exLtL_t, exLtL_f, exEqL_t, exEqL_f, exB_t, exB_f, exSw_t, exSw_f, exSw_0, klz_f, klz_g, kieq_f, kdivL, kdivI, kmodL, kmodI, knIL, lN_i, nI_add, pk_mul, pk_sub, pk_subm, kad1, kad2, lN_add, lN_mul, lN_sub, kkl_i, kkl_l, kkl_r, kkl_0, Option.bind_some, Option.toList_some, Option.toList_none, List.cons_append, List.nil_append, if_true, if_false, eq_self, not_true_eq_false, not_false_eq_true, ku2_eq, ku2_ne, pk_us, pk_un, pk_uLs, pk_uLn, kup_Is, kup_In, kup_Js, kup_Jn, ku2_ku2, kup_I, kup_J, knar1, knar0]
end CMA
