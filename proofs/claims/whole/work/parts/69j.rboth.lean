/-! OWN: sets of bits: the mathematics; the reference: both -/
def pcR : Nat → Nat → Nat
  | 0, _ => 0
  | m + 1, X => X % 2 + pcR m (X / 2)
def wl (p : Nat → Bool) : Nat → Nat → Nat
  | _, 0 => 0
  | s, m + 1 => (if p s = true then 1 else 0) + 2 * wl p (s + 1) m
theorem wl_pc (p : Nat → Bool) : ∀ (m s : Nat), pcR m (wl p s m) = cntF p m s
  | 0, s => rfl
  | m + 1, s => by
    rw [pcR, wl, cntF]
    by_cases c : p s = true
    · rw [if_pos c, show (1 + 2 * wl p (s + 1) m) % 2 = 1 by omega, show (1 + 2 * wl p (s + 1) m) / 2 = wl p (s + 1) m by omega, wl_pc p m (s + 1)]
    · rw [if_neg c, show (0 + 2 * wl p (s + 1) m) % 2 = 0 by omega, show (0 + 2 * wl p (s + 1) m) / 2 = wl p (s + 1) m by omega, wl_pc p m (s + 1)]
theorem wl_lt (p : Nat → Bool) : ∀ (m s : Nat), wl p s m < 2 ^ m
  | 0, s => by simp [wl]
  | m + 1, s => by
    have := wl_lt p m (s + 1)
    rw [wl, Nat.pow_succ]
    split <;> omega
theorem nat2 {a b : Nat} (h1 : a % 2 = b % 2) (h2 : a / 2 = b / 2) : a = b := by omega
theorem wl_m2 (p : Nat → Bool) (s m : Nat) : (wl p s (m + 1)) / 2 = wl p (s + 1) m ∧ ((wl p s (m + 1)) % 2 = 1 ↔ p s = true) := by
  rw [wl]
  by_cases c : p s = true
  · rw [if_pos c]; exact ⟨by omega, ⟨fun _ => c, fun _ => by omega⟩⟩
  · rw [if_neg c]; exact ⟨by omega, ⟨fun z => by omega, fun z => absurd z c⟩⟩
theorem wl_or (p q : Nat → Bool) : ∀ (m s : Nat), wl p s m ||| wl q s m = wl (fun j => p j || q j) s m
  | 0, s => by simp [wl]
  | m + 1, s => by
    have ih := wl_or p q m (s + 1)
    have h1 := Nat.or_mod_two_eq_one (a := wl p s (m + 1)) (b := wl q s (m + 1))
    rw [(wl_m2 p s m).2, (wl_m2 q s m).2] at h1
    have h2 := (wl_m2 (fun j => p j || q j) s m).2
    have h3 : (p s || q s) = true ↔ (p s = true ∨ q s = true) := Bool.or_eq_true_iff
    refine nat2 ?_ (by rw [Nat.or_div_two, (wl_m2 p s m).1, (wl_m2 q s m).1, (wl_m2 _ s m).1, ih])
    have h4 : (wl p s (m + 1) ||| wl q s (m + 1)) % 2 = 1 ↔ (wl (fun j => p j || q j) s (m + 1)) % 2 = 1 := by rw [h1, h2]; exact h3.symm
    omega
theorem wl_no {p : Nat → Bool} : ∀ (m s : Nat), (∀ j, s ≤ j → j < s + m → p j = false) → wl p s m = 0
  | 0, s, _ => rfl
  | m + 1, s, h => by
    rw [wl, h s (Nat.le_refl _) (by omega), wl_no m (s + 1) (fun j h1 h2 => h j (by omega) (by omega))]
    simp
theorem wl_bit : ∀ (m s k : Nat), k < m → wl (fun q => q == s + k) s m = 2 ^ k
  | 0, s, k, h => by omega
  | m + 1, s, 0, h => by
    rw [wl, wl_no m (s + 1) (fun j h1 h2 => by simp; omega)]
    simp
  | m + 1, s, k + 1, h => by
    have ih := wl_bit m (s + 1) k (by omega)
    rw [wl, if_neg (by simp), show (fun q => q == s + (k + 1)) = (fun q => q == s + 1 + k) by funext q; congr 1; omega, ih, Nat.pow_succ]
    omega
theorem wl_cong {p q : Nat → Bool} : ∀ (m s : Nat), (∀ j, s ≤ j → j < s + m → p j = q j) → wl p s m = wl q s m
  | 0, s, _ => rfl
  | m + 1, s, h => by rw [wl, wl, h s (Nat.le_refl _) (by omega), wl_cong m (s + 1) (fun j h1 h2 => h j (by omega) (by omega))]
theorem pc_down : ∀ (m X : Nat), 0 < X → X < 2 ^ m → pcR m (X &&& (X - 1)) + 1 = pcR m X
  | 0, X, h, h2 => by simp at h2; omega
  | m + 1, X, h, h2 => by
    rw [pcR, pcR, Nat.and_div_two]
    have h1 := Nat.and_mod_two_eq_one (a := X) (b := X - 1)
    have h3 : (X &&& (X - 1)) % 2 < 2 := Nat.mod_lt _ (by decide)
    rw [Nat.pow_succ] at h2
    by_cases c : X % 2 = 1
    · have e1 : (X - 1) / 2 = X / 2 := by omega
      have e2 : (X &&& (X - 1)) % 2 = 0 := by omega
      rw [e1, Nat.and_self, e2]
      omega
    · have e1 : (X - 1) / 2 = X / 2 - 1 := by omega
      have e2 : (X &&& (X - 1)) % 2 = 0 := by omega
      have ih := pc_down m (X / 2) (by omega) (by omega)
      rw [e1, e2]
      omega
theorem pcR_0 : ∀ m, pcR m 0 = 0
  | 0 => rfl
  | m + 1 => by rw [pcR, pcR_0 m]
theorem lN_z {X : Nat} (h : X < 18446744073709551616) : lN X = lN 0 ↔ X = 0 := by
  constructor
  · intro z
    have h1 := congrArg (fun y => y.toBitVec.toNat) z
    have e : ∀ n : Nat, (lN n).toBitVec.toNat = n % 18446744073709551616 := fun n => by simp [lN, Int64.toBitVec_ofNat']
    simp only [e] at h1
    omega
  · intro z; rw [z]
theorem lN_or (a b : Nat) : lN a ||| lN b = lN (a ||| b) := by
  apply Int64.toBitVec_inj.mp
  simp [lN, Int64.toBitVec_or, Int64.toBitVec_ofNat', BitVec.ofNat_or]
theorem lN_and (a b : Nat) : lN a &&& lN b = lN (a &&& b) := by
  apply Int64.toBitVec_inj.mp
  simp [lN, Int64.toBitVec_and, Int64.toBitVec_ofNat', BitVec.ofNat_and]
theorem lN_shl : ∀ m, m < 64 → (lN 1) <<< ((lN m) &&& 63) = lN (2 ^ m) := by decide +kernel
theorem cntF_split (p : Nat → Bool) : ∀ (a b j : Nat), cntF p (a + b) j = cntF p a j + cntF p b (j + a)
  | 0, b, j => by rw [Nat.zero_add, cntF, Nat.zero_add]; rfl
  | a + 1, b, j => by
    have := cntF_split p a b (j + 1)
    rw [show j + 1 + a = j + (a + 1) by omega] at this
    rw [show a + 1 + b = (a + b) + 1 by omega, cntF, cntF, this]
    omega
theorem cntF_c {p q : Nat → Bool} : ∀ (c j : Nat), (∀ k, j ≤ k → k < j + c → p k = q k) → cntF p c j = cntF q c j
  | 0, j, h => rfl
  | c + 1, j, h => by rw [cntF, cntF, h j (Nat.le_refl _) (by omega), cntF_c c (j + 1) (fun k h1 h2 => h k (by omega) (by omega))]
section RBB
variable {d : Nat} {h : kH} {i : tI} {l : tL} {I : tI} {J : tL} {nw df : Nat} {P : Nat → Nat}
theorem r_bits1 {l0 : Option Value} : ∀ (f n X : Nat), X < 18446744073709551616 → pcR 64 X ≤ f → n + f ≤ 1000 → ex d mX12_bits 4 [l0, none, some (.int (nI n)), some (.long (lN X)), none] [] h = some (some (.int (nI (n + pcR 64 X))), h) := by
  intro f
  induction f with
  | zero =>
    intro n X hX hf hn
    have h0 : X = 0 := by
      rcases Nat.eq_zero_or_pos X with z | z
      · exact z
      · have := pc_down 64 X z hX; omega
    subst h0
    rw [X12_bits_4, pcR_0]
    conv => lhs; simp (disch := first | assumption | omega | decide | exact bI_or _) only [X12_bits_0, X12_bits_1, X12_bits_2, X12_bits_3, X12_bits_5, X12_bits_6, X12_bits_7b, X12_bits_10, X12_bits_11, X12_bits_12, X12_bits_13, X12_bits_14, X12_bits_15, X12_bits_16, X12_bits_17, X12_bits_18, X12_bits_19, X12_bits_20, X12_bits_23, X12_bits_24, show (0 : Int32) = nI 0 from rfl, show (0 : Int64) = lN 0 from rfl, show (1 : Int32) = nI 1 from rfl, show (1 : Int64) = lN 1 from rfl, exLt_c1, exLt_c2, exEq_c, exLt_t, exLt_f, exEq_s, exEq_t, exEq_f, exLt_mn, exLt_nm, exEq_mn, exEq_nm, exEq_mm, exEq_xf, exLtL_t, exLtL_f, exEqL_t, exEqL_f, exB_t, exB_f, exSw_t, exSw_f, exSw_0, klz_f, klz_g, kieq_f, kdivL, kdivI, kmodL, kmodI, knIL, lN_i, nI_add, pk_mul, pk_sub, pk_subm, kad1, kad2, lN_add, lN_mul, lN_sub, kkl_i, kkl_l, kkl_r, kkl_0, Option.bind_some, Option.toList_some, Option.toList_none, List.cons_append, List.nil_append, if_true, if_false, eq_self, not_true_eq_false, not_false_eq_true, ku2_eq, ku2_ne, pk_us, pk_un, pk_uLs, pk_uLn, kup_Is, kup_In, kup_Js, kup_Jn, ku2_ku2, kup_I, kup_J, knar1, knar0]
    rfl
  | succ f ih =>
    intro n X hX hf hn
    rw [X12_bits_4]
    by_cases h0 : X = 0
    · subst h0
      rw [pcR_0]
      conv => lhs; simp (disch := first | assumption | omega | decide | exact bI_or _) only [X12_bits_0, X12_bits_1, X12_bits_2, X12_bits_3, X12_bits_5, X12_bits_6, X12_bits_7b, X12_bits_10, X12_bits_11, X12_bits_12, X12_bits_13, X12_bits_14, X12_bits_15, X12_bits_16, X12_bits_17, X12_bits_18, X12_bits_19, X12_bits_20, X12_bits_23, X12_bits_24, show (0 : Int32) = nI 0 from rfl, show (0 : Int64) = lN 0 from rfl, show (1 : Int32) = nI 1 from rfl, show (1 : Int64) = lN 1 from rfl, exLt_c1, exLt_c2, exEq_c, exLt_t, exLt_f, exEq_s, exEq_t, exEq_f, exLt_mn, exLt_nm, exEq_mn, exEq_nm, exEq_mm, exEq_xf, exLtL_t, exLtL_f, exEqL_t, exEqL_f, exB_t, exB_f, exSw_t, exSw_f, exSw_0, klz_f, klz_g, kieq_f, kdivL, kdivI, kmodL, kmodI, knIL, lN_i, nI_add, pk_mul, pk_sub, pk_subm, kad1, kad2, lN_add, lN_mul, lN_sub, kkl_i, kkl_l, kkl_r, kkl_0, Option.bind_some, Option.toList_some, Option.toList_none, List.cons_append, List.nil_append, if_true, if_false, eq_self, not_true_eq_false, not_false_eq_true, ku2_eq, ku2_ne, pk_us, pk_un, pk_uLs, pk_uLn, kup_Is, kup_In, kup_Js, kup_Jn, ku2_ku2, kup_I, kup_J, knar1, knar0]
      rfl
    · have hd := pc_down 64 X (by omega) hX
      have hle : X &&& (X - 1) ≤ X := Nat.and_le_left
      have e1 : ∀ (p q : Nat) (L : kL) (S : List Value), exEqL (lN X) (lN 0) d mX12_bits p q L S h = ex d mX12_bits q L S h := fun p q L S => if_neg (fun z => h0 ((lN_z hX).mp z))
      conv => lhs; simp (disch := first | assumption | omega | decide | exact bI_or _) only [e1, lN_and, X12_bits_0, X12_bits_1, X12_bits_2, X12_bits_3, X12_bits_5, X12_bits_6, X12_bits_7b, X12_bits_10, X12_bits_11, X12_bits_12, X12_bits_13, X12_bits_14, X12_bits_15, X12_bits_16, X12_bits_17, X12_bits_18, X12_bits_19, X12_bits_20, X12_bits_23, X12_bits_24, show (0 : Int32) = nI 0 from rfl, show (0 : Int64) = lN 0 from rfl, show (1 : Int32) = nI 1 from rfl, show (1 : Int64) = lN 1 from rfl, exLt_c1, exLt_c2, exEq_c, exLt_t, exLt_f, exEq_s, exEq_t, exEq_f, exLt_mn, exLt_nm, exEq_mn, exEq_nm, exEq_mm, exEq_xf, exLtL_t, exLtL_f, exEqL_t, exEqL_f, exB_t, exB_f, exSw_t, exSw_f, exSw_0, klz_f, klz_g, kieq_f, kdivL, kdivI, kmodL, kmodI, knIL, lN_i, nI_add, pk_mul, pk_sub, pk_subm, kad1, kad2, lN_add, lN_mul, lN_sub, kkl_i, kkl_l, kkl_r, kkl_0, Option.bind_some, Option.toList_some, Option.toList_none, List.cons_append, List.nil_append, if_true, if_false, eq_self, not_true_eq_false, not_false_eq_true, ku2_eq, ku2_ne, pk_us, pk_un, pk_uLs, pk_uLn, kup_Is, kup_In, kup_Js, kup_Jn, ku2_ku2, kup_I, kup_J, knar1, knar0]
      rw [ih (n + 1) (X &&& (X - 1)) (by omega) (by omega) (by omega), show n + 1 + pcR 64 (X &&& (X - 1)) = n + pcR 64 X by omega]
theorem pcR_le : ∀ (m X : Nat), pcR m X ≤ m
  | 0, X => Nat.le_refl _
  | m + 1, X => by rw [pcR]; have := pcR_le m (X / 2); omega
theorem r_bits {X : Nat} (hX : X < 18446744073709551616) : rn (d + 1) mX12_bits [.long (lN X)] h = some (some (.int (nI (pcR 64 X))), h) := by
  have := pcR_le 64 X
  rw [X12_bits_E]
  conv => lhs; simp (disch := first | assumption | omega | decide | exact bI_or _) only [X12_bits_0, X12_bits_1, X12_bits_2, X12_bits_3, X12_bits_5, X12_bits_6, X12_bits_7b, X12_bits_10, X12_bits_11, X12_bits_12, X12_bits_13, X12_bits_14, X12_bits_15, X12_bits_16, X12_bits_17, X12_bits_18, X12_bits_19, X12_bits_20, X12_bits_23, X12_bits_24, show (0 : Int32) = nI 0 from rfl, show (0 : Int64) = lN 0 from rfl, show (1 : Int32) = nI 1 from rfl, show (1 : Int64) = lN 1 from rfl, exLt_c1, exLt_c2, exEq_c, exLt_t, exLt_f, exEq_s, exEq_t, exEq_f, exLt_mn, exLt_nm, exEq_mn, exEq_nm, exEq_mm, exEq_xf, exLtL_t, exLtL_f, exEqL_t, exEqL_f, exB_t, exB_f, exSw_t, exSw_f, exSw_0, klz_f, klz_g, kieq_f, kdivL, kdivI, kmodL, kmodI, knIL, lN_i, nI_add, pk_mul, pk_sub, pk_subm, kad1, kad2, lN_add, lN_mul, lN_sub, kkl_i, kkl_l, kkl_r, kkl_0, Option.bind_some, Option.toList_some, Option.toList_none, List.cons_append, List.nil_append, if_true, if_false, eq_self, not_true_eq_false, not_false_eq_true, ku2_eq, ku2_ne, pk_us, pk_un, pk_uLs, pk_uLn, kup_Is, kup_In, kup_Js, kup_Jn, ku2_ku2, kup_I, kup_J, knar1, knar0]
  rw [r_bits1 64 0 X hX this (by omega), Nat.zero_add]
end RBB
