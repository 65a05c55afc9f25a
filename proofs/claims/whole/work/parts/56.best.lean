/-! OWN: the best comb: the mathematics, the reference -/
def hsK (F : Nat → Nat) (L : List (Nat × Nat)) (u w k : Nat) : List cT := cH (AL F L) L.length u w (F 0) (F 1) k
def mkK (F : Nat → Nat) (L : List (Nat × Nat)) (u w k : Nat) : Nat := cK (AL F L) L.length u w k
def scK (F : Nat → Nat) (L : List (Nat × Nat)) (u w k : Nat) : Nat := (hsK F L u w k).length * 1000 / mkK F L u w k
abbrev bLess (F : Nat → Nat) (L : List (Nat × Nat)) (u w k : Nat) (s : Nat × Nat × Nat) : Prop := mkK F L u w k < 2 ∨ (hsK F L u w k).length < s.2.1 ∨ ((hsK F L u w k).length = s.2.1 ∧ scK F L u w k ≤ s.2.2)
/-- the best so far (0: none, else knock + 1; its hits, its score); c knocks are left, from k on -/
def bsF (F : Nat → Nat) (L : List (Nat × Nat)) (u w : Nat) : Nat → Nat → Nat × Nat × Nat → Nat × Nat × Nat
  | 0, _, s => s
  | c + 1, k, s => bsF F L u w c (k + 1) (if bLess F L u w k s then s else (k + 1, (hsK F L u w k).length, scK F L u w k))
def bst (F : Nat → Nat) (L : List (Nat × Nat)) (u w : Nat) : Nat × Nat × Nat := bsF F L u w L.length 0 (0, 0, 0)
/-- a number that may be none -/
def oN (b : Nat) : Int32 := if b = 0 then mI 1 else nI (b - 1)
/-- what holds of a best one -/
def bOk (F : Nat → Nat) (L : List (Nat × Nat)) (u w n : Nat) (s : Nat × Nat × Nat) : Prop := (s.1 = 0 ∧ s.2.1 = 0 ∧ s.2.2 = 0) ∨ (0 < s.1 ∧ s.1 ≤ n ∧ 2 ≤ mkK F L u w (s.1 - 1) ∧ s.2.1 = (hsK F L u w (s.1 - 1)).length ∧ s.2.2 = scK F L u w (s.1 - 1))
theorem bsF_ok {F : Nat → Nat} {L : List (Nat × Nat)} {u w : Nat} : ∀ (c k : Nat) (s : Nat × Nat × Nat), bOk F L u w k s → bOk F L u w (k + c) (bsF F L u w c k s)
  | 0, k, s, h => h
  | c + 1, k, s, h => by
    rw [bsF, show k + (c + 1) = k + 1 + c by omega]
    refine bsF_ok c (k + 1) _ ?_
    by_cases hb : bLess F L u w k s
    · rw [if_pos hb]
      rcases h with z | z
      · exact Or.inl z
      · exact Or.inr ⟨z.1, by omega, z.2.2⟩
    · rw [if_neg hb]
      exact Or.inr ⟨Nat.succ_pos _, Nat.le_refl _, by have := fun z => hb (Or.inl z); show 2 ≤ mkK F L u w k; omega, rfl, rfl⟩
theorem bst_ok (F : Nat → Nat) (L : List (Nat × Nat)) (u w : Nat) : bOk F L u w L.length (bst F L u w) := by
  have := bsF_ok (F := F) (L := L) (u := u) (w := w) L.length 0 (0, 0, 0) (Or.inl ⟨rfl, rfl, rfl⟩)
  rw [Nat.zero_add] at this
  exact this
theorem hsK_I {F : Nat → Nat} {L : List (Nat × Nat)} {u w k : Nat} (hk : k ≤ L.length) : cI w k (mkK F L u w k) L.length (hsK F L u w k) := cH_I hk
theorem hsK_len {F : Nat → Nat} {L : List (Nat × Nat)} {u w k : Nat} (hk : k ≤ L.length) : (hsK F L u w k).length ≤ L.length := cI_len (hsK_I hk)
theorem mkK_pos (F : Nat → Nat) (L : List (Nat × Nat)) (u w k : Nat) : 0 < mkK F L u w k := Nat.succ_pos _
theorem scK_b {F : Nat → Nat} {L : List (Nat × Nat)} {u w k : Nat} (hk : k ≤ L.length) : scK F L u w k ≤ L.length * 1000 := Nat.le_trans (Nat.div_le_self _ _) (Nat.mul_le_mul_right _ (hsK_len hk))
theorem bOk_b {F : Nat → Nat} {L : List (Nat × Nat)} {u w n : Nat} {s : Nat × Nat × Nat} (h : bOk F L u w n s) (hn : n ≤ L.length) : s.1 ≤ L.length ∧ s.2.1 ≤ L.length ∧ s.2.2 ≤ L.length * 1000 := by
  rcases h with z | z
  · omega
  · have h1 := hsK_len (F := F) (L := L) (u := u) (w := w) (k := s.1 - 1) (by omega)
    have h2 := scK_b (F := F) (L := L) (u := u) (w := w) (k := s.1 - 1) (by omega)
    refine ⟨by omega, by omega, by omega⟩
/-- what is told of a comb -/
def tld (L : List (Nat × Nat)) (w k K : Nat) (hs : List cT) (what : Nat) : Nat := if what = 0 then hs.length else if what = 1 then K else if what = 2 then hs.length * 1000 / K else if what = 3 then sumS (stOf L) hs else if what = 4 then tkOf L (laK k hs) else maxO hs / (1000 * w)
theorem rUp_b {F : Nat → Nat} (ok : okB F) {k : Nat} (hk : k < 5) : 1 ≤ rUp F k ∧ rUp F k ≤ 999 * rLo F k ∧ 1 ≤ rLo F k ∧ rLo F k ≤ 97902 ∧ rUp F k ≤ 998001 := by
  have b1 := rUpN_b ok hk
  have b2 := rLoN_b ok hk
  have h3 : rUpN F k ≤ 999 * rLoN F k := by
    obtain ⟨h1, h2, h3, h4, h5, h6⟩ := ok
    have a1 : F 5 * (F 7 - F 6) ≤ 30 * F 7 := Nat.mul_le_mul h2 (by omega)
    have a3 : F 5 * (F 7 + F 6) ≤ 30 * (2 * F 7) := Nat.mul_le_mul h2 (by omega)
    have a5 : F 7 * F 7 ≤ F 7 * 999 := Nat.mul_le_mul_left _ h6
    have a6 : F 7 * 1 ≤ F 7 * F 6 := Nat.mul_le_mul_left _ h3
    unfold rUpN rLoN
    rcases (show k = 0 ∨ k = 1 ∨ k = 2 ∨ k = 3 ∨ k = 4 by omega) with rfl | rfl | rfl | rfl | rfl <;> simp <;> omega
  unfold rUp rLo
  obtain ⟨u, hu⟩ := Nat.gcd_dvd_left (rUpN F k) (rLoN F k)
  obtain ⟨w, hw⟩ := Nat.gcd_dvd_right (rUpN F k) (rLoN F k)
  have hg : 0 < Nat.gcd (rUpN F k) (rLoN F k) := Nat.gcd_pos_of_pos_left _ (by omega)
  generalize Nat.gcd (rUpN F k) (rLoN F k) = g at *
  rw [hu, hw, Nat.mul_div_cancel_left _ hg, Nat.mul_div_cancel_left _ hg]
  rw [hu, hw] at h3
  rw [hu] at b1
  rw [hw] at b2
  have h4 : u ≤ 999 * w := Nat.le_of_mul_le_mul_left (c := g) (by rw [Nat.mul_left_comm]; exact h3) hg
  have h5 : 1 * w ≤ g * w := Nat.mul_le_mul_right _ hg
  have h7 : 1 * u ≤ g * u := Nat.mul_le_mul_right _ hg
  have h6 : 0 < u := by
    rcases Nat.eq_zero_or_pos u with z | z
    · rw [z] at b1; omega
    · exact z
  have h8 : 0 < w := by
    rcases Nat.eq_zero_or_pos w with z | z
    · rw [z] at b2; omega
    · exact z
  omega
theorem okR_k {F : Nat → Nat} (ok : okB F) {k : Nat} (hk : k < 5) : okR (rUp F k) (rLo F k) := by
  have := rUp_b ok hk
  exact ⟨this.1, by omega, this.2.2.1, by omega⟩
/-- questions keep the file, what is past, the tape -/
def Kq (i i' : tI) (l l' : tL) (I I' : tI) (J J' : tL) : Prop := (∀ q k, q ≠ 217 → i' q k = i q k) ∧ i' 217 3 = i 217 3 ∧ i' 217 5 = i 217 5 ∧ (∀ q k, q ≠ 217 → l' q k = l q k) ∧ (∀ q, (q < 217 ∨ q = 218 ∨ q = 220 ∨ q = 221 ∨ q = 241) → I' q = I q) ∧ ∀ q, q < 217 → J' q = J q
theorem Kq_of {ks ls : List (Nat × Nat)} {qs : List Nat} {i i' : tI} {l l' : tL} {I I' : tI} {J J' : tL} (k : Kp ks ls qs i i' l l' I I' J J') (h1 : ∀ z ∈ ks, z.1 = 217 ∧ z.2 ≠ 3 ∧ z.2 ≠ 5) (h2 : ∀ z ∈ ls, z.1 = 217) (h3 : ∀ z ∈ qs, 218 < z ∧ z ≠ 220 ∧ z ≠ 221 ∧ z ≠ 241) : Kq i i' l l' I I' J J' :=
  ⟨fun q m hq => k.1 q m (fun z => hq (h1 _ z).1), k.1 _ _ (fun z => (h1 _ z).2.1 rfl), k.1 _ _ (fun z => (h1 _ z).2.2 rfl), fun q m hq => k.2.1 q m (fun z => hq (h2 _ z)), fun q hq => k.2.2.1 q (fun z => by have := h3 _ z; omega), fun q hq => k.2.2.2 q (fun z => by have := h3 _ z; omega)⟩
theorem Kq_refl {i : tI} {l : tL} {I : tI} {J : tL} : Kq i i l l I I J J := ⟨fun _ _ _ => rfl, rfl, rfl, fun _ _ _ => rfl, fun _ _ => rfl, fun _ _ => rfl⟩
theorem Kq_trans {i i' i2 : tI} {l l' l2 : tL} {I I' I2 : tI} {J J' J2 : tL} (a : Kq i i' l l' I I' J J') (b : Kq i' i2 l' l2 I' I2 J' J2) : Kq i i2 l l2 I I2 J J2 :=
  ⟨fun q m hq => (b.1 q m hq).trans (a.1 q m hq), b.2.1.trans a.2.1, b.2.2.1.trans a.2.2.1, fun q m hq => (b.2.2.2.1 q m hq).trans (a.2.2.2.1 q m hq), fun q hq => (b.2.2.2.2.1 q hq).trans (a.2.2.2.2.1 q hq), fun q hq => (b.2.2.2.2.2 q hq).trans (a.2.2.2.2.2 q hq)⟩
theorem rFile.kq {i i' : tI} {l l' : tL} {I I' : tI} {J J' : tL} {F : Nat → Nat} (h : rFile I F) (k : Kq i i' l l' I I' J J') : rFile I' F := fun j hj => by rw [k.2.2.2.2.1 218 (by omega)]; exact h j hj
section RB
variable {d : Nat} {h : kH} {i : tI} {l : tL} {I : tI} {J : tL} {nw df : Nat} {P : Nat → Nat}
theorem r_inI {a b : Nat} {y : Int32} (ha : a < 9223372036854775808) (hb : b < 9223372036854775808) : rn (d + 1) mX12_in [.long y.toInt64, .long (lN a), .long (lN b)] h = some (some (.int (bI ((a : Int) ≤ y.toInt ∧ y.toInt ≤ b))), h) := by
  rw [r_in]
  have e : (lN a ≤ y.toInt64 ∧ y.toInt64 ≤ lN b) ↔ ((a : Int) ≤ y.toInt ∧ y.toInt ≤ b) := by
    rw [Int64.le_iff_toInt_le, Int64.le_iff_toInt_le, Int32.toInt_toInt64, pk_lT ha, pk_lT hb]
  exact congrArg (fun z => some (some (Value.int z), h)) (bI_c e)
theorem r_inN {a b v : Nat} (ha : a < 9223372036854775808) (hb : b < 9223372036854775808) (hv : v < 9223372036854775808) : rn (d + 1) mX12_in [.long (lN v), .long (lN a), .long (lN b)] h = some (some (.int (bI (a ≤ v ∧ v ≤ b))), h) := by
  rw [r_in]
  have e : (lN a ≤ lN v ∧ lN v ≤ lN b) ↔ (a ≤ v ∧ v ≤ b) := by
    rw [Int64.le_iff_toInt_le, Int64.le_iff_toInt_le, pk_lT hv, pk_lT ha, pk_lT hb]
    omega
  exact congrArg (fun z => some (some (Value.int z), h)) (bI_c e)
theorem r_inK {n : Nat} {y : Int32} (hn : n < 1073741824) : rn (d + 1) mX12_in [.long y.toInt64, .long (lN 0), .long (nI n - nI 1).toInt64] h = some (some (.int (bI (0 ≤ y.toInt ∧ y.toInt < n))), h) := by
  rw [r_in]
  have e : (lN 0 ≤ y.toInt64 ∧ y.toInt64 ≤ (nI n - nI 1).toInt64) ↔ (0 ≤ y.toInt ∧ y.toInt < n) := by
    rw [Int64.le_iff_toInt_le, Int64.le_iff_toInt_le, Int32.toInt_toInt64, Int32.toInt_toInt64, pk_lT (by omega), pk_sub_toInt (by omega) (by omega)]
    omega
  exact congrArg (fun z => some (some (Value.int z), h)) (bI_c e)
theorem r_isKindB (a : Int32) : rn (d + 2) mX12_isKind [.int a] h = some (some (.int (bI (0 ≤ a.toInt ∧ a.toInt ≤ 4))), h) := r_isKind a
theorem r_laysG {F : Nat → Nat} {L : List (Nat × Nat)} {u w k : Nat} (hF : rFile I F) (ok : okF F) (hat : rKn i I J F L) (hL : okK 100989 L) (hra : rRa l u w) (hr : okR u w) (hk : k < L.length) : Gd (rn (d + 1) mX12_lays_ [.ref 217, .int (nI k)] (mH h i l I J nw df P)) (Rt h nw df P none fun i' l' I' J' => Kp [(217, 25), (217, 26), (217, 27), (217, 28)] [(217, 29), (217, 30)] [229, 230] i i' l l' I I' J J' ∧ rLd i' l' I' L.length (stOf L) k (mkK F L u w k) (hsK F L u w k)) := by
  obtain ⟨i', l', I', J', e, q1, q2⟩ := r_lays (d := d) (h := h) (nw := nw) (df := df) (P := P) hF ok.2.2.2.2.1.1 ok.2.2.2.2.1.2.1 (hat.at hL) hra hL.1 hk (AL_ok ok.1 hL) hr
  exact Gd_of e ⟨i', l', I', J', rfl, q1, q2⟩
theorem r_lb1 {F : Nat → Nat} {L : List (Nat × Nat)} {u w : Nat} {Q : kR → Prop} {i0 : tI} {l0 : tL} {I0 : tI} {J0 : tL} (hF : rFile I0 F) (ok : okF F) (hat : rKn i0 I0 J0 F L) (hL : okK 100989 L) (hra : rRa l0 u w) (hr : okR u w) : ∀ (c k : Nat) (s : Nat × Nat × Nat) (i : tI) (l : tL) (I : tI) (J : tL), k + c = L.length → bOk F L u w k s → Kp [(217, 25), (217, 26), (217, 27), (217, 28)] [(217, 29), (217, 30)] [229, 230] i0 i l0 l I0 I J0 J →
    (∀ (i : tI) (l : tL) (I : tI) (J : tL), Kp [(217, 25), (217, 26), (217, 27), (217, 28)] [(217, 29), (217, 30)] [229, 230] i0 i l0 l I0 I J0 J → Gd (ex (d + 1) mX12_laysBest 81 [some (.ref 217), some (.int (oN (bsF F L u w c k s).1)), some (.int (nI (bsF F L u w c k s).2.1)), some (.int (nI (bsF F L u w c k s).2.2)), some (.int (nI L.length))] [] (mH h i l I J nw df P)) Q) →
    Gd (ex (d + 1) mX12_laysBest 9 [some (.ref 217), some (.int (oN s.1)), some (.int (nI s.2.1)), some (.int (nI s.2.2)), some (.int (nI k))] [] (mH h i l I J nw df P)) Q
  | 0, k, s, i, l, I, J, hk, hs, k1, hQ => by
    have hk : k = L.length := hk
    subst hk
    have hm := hat.1
    have hl := hL.1
    rw [X12_laysBest_9]
    conv => arg 1; simp (disch := first | assumption | omega | decide | exact bI_or _) only [k1.1, k1.2.1, k1.2.2.1, k1.2.2.2, hm, X12_laysBest_0, X12_laysBest_1, X12_laysBest_2, X12_laysBest_3, X12_laysBest_4, X12_laysBest_5, X12_laysBest_6, X12_laysBest_7, X12_laysBest_11, X12_laysBest_12, X12_laysBest_15b, X12_laysBest_18, X12_laysBest_19, X12_laysBest_21, X12_laysBest_24, X12_laysBest_25, X12_laysBest_28, X12_laysBest_31, X12_laysBest_32b, X12_laysBest_35, X12_laysBest_36, X12_laysBest_39, X12_laysBest_40b, X12_laysBest_43, X12_laysBest_44, X12_laysBest_47, X12_laysBest_48b, X12_laysBest_51, X12_laysBest_52, X12_laysBest_55, X12_laysBest_56b, X12_laysBest_59, X12_laysBest_62, X12_laysBest_64, X12_laysBest_65, X12_laysBest_66, X12_laysBest_69, X12_laysBest_70, X12_laysBest_71, X12_laysBest_74, X12_laysBest_75, X12_laysBest_78, X12_laysBest_82, X12_laysBest_83b, X12_laysBest_86, X12_laysBest_87, X12_laysBest_88, X12_laysBest_91, X12_laysBest_92, ↓(show (-1 : Int32) = mI 1 from rfl), show (0 : Int32) = nI 0 from rfl, g13_22, is_217, g13_29, show (2 : Int64) = lN 2 from rfl, g13_25, g13_26, show (1 : Int32) = nI 1 from rfl, exLt_c1, exLt_c2, exEq_c, exLt_t, exLt_f, exEq_s, exEq_t, exEq_f, exLt_mn, exLt_nm, exEq_mn, exEq_nm, exEq_mm, exEq_xf, exLtL_t, exLtL_f, exEqL_t, exEqL_f, exB_t, exB_f, exSw_t, exSw_f, exSw_0, klz_f, klz_g, kieq_f, kdivL, kdivI, kmodL, kmodI, knIL, lN_i, nI_add, pk_mul, pk_sub, pk_subm, kad1, kad2, lN_add, lN_mul, lN_sub, kkl_i, kkl_l, kkl_r, kkl_0, Option.bind_some, Option.toList_some, Option.toList_none, List.cons_append, List.nil_append, if_true, if_false, eq_self, not_true_eq_false, not_false_eq_true, ku2_eq, ku2_ne, pk_us, pk_un, pk_uLs, pk_uLn, kup_Is, kup_In, kup_Js, kup_Jn, ku2_ku2, kup_I, kup_J, knar1, knar0]
    exact hQ i l I J k1
  | c + 1, k, s, i, l, I, J, hk, hs, k1, hQ => by
    have hm := hat.1
    have hl := hL.1
    have hsb := bOk_b hs (by omega)
    have hKb : mkK F L u w k ≤ 5100501 := cK_b (AL_ok ok.1 hL) hr (by omega)
    have hlen := hsK_len (F := F) (L := L) (u := u) (w := w) (k := k) (by omega)
    have hsc := scK_b (F := F) (L := L) (u := u) (w := w) (k := k) (by omega)
    rw [X12_laysBest_9]
    conv => arg 1; simp (disch := first | assumption | omega | decide | exact bI_or _) only [k1.1, k1.2.1, k1.2.2.1, k1.2.2.2, hm, X12_laysBest_0, X12_laysBest_1, X12_laysBest_2, X12_laysBest_3, X12_laysBest_4, X12_laysBest_5, X12_laysBest_6, X12_laysBest_7, X12_laysBest_11, X12_laysBest_12, X12_laysBest_15b, X12_laysBest_18, X12_laysBest_19, X12_laysBest_21, X12_laysBest_24, X12_laysBest_25, X12_laysBest_28, X12_laysBest_31, X12_laysBest_32b, X12_laysBest_35, X12_laysBest_36, X12_laysBest_39, X12_laysBest_40b, X12_laysBest_43, X12_laysBest_44, X12_laysBest_47, X12_laysBest_48b, X12_laysBest_51, X12_laysBest_52, X12_laysBest_55, X12_laysBest_56b, X12_laysBest_59, X12_laysBest_62, X12_laysBest_64, X12_laysBest_65, X12_laysBest_66, X12_laysBest_69, X12_laysBest_70, X12_laysBest_71, X12_laysBest_74, X12_laysBest_75, X12_laysBest_78, X12_laysBest_82, X12_laysBest_83b, X12_laysBest_86, X12_laysBest_87, X12_laysBest_88, X12_laysBest_91, X12_laysBest_92, ↓(show (-1 : Int32) = mI 1 from rfl), show (0 : Int32) = nI 0 from rfl, g13_22, is_217, g13_29, show (2 : Int64) = lN 2 from rfl, g13_25, g13_26, show (1 : Int32) = nI 1 from rfl, exLt_c1, exLt_c2, exEq_c, exLt_t, exLt_f, exEq_s, exEq_t, exEq_f, exLt_mn, exLt_nm, exEq_mn, exEq_nm, exEq_mm, exEq_xf, exLtL_t, exLtL_f, exEqL_t, exEqL_f, exB_t, exB_f, exSw_t, exSw_f, exSw_0, klz_f, klz_g, kieq_f, kdivL, kdivI, kmodL, kmodI, knIL, lN_i, nI_add, pk_mul, pk_sub, pk_subm, kad1, kad2, lN_add, lN_mul, lN_sub, kkl_i, kkl_l, kkl_r, kkl_0, Option.bind_some, Option.toList_some, Option.toList_none, List.cons_append, List.nil_append, if_true, if_false, eq_self, not_true_eq_false, not_false_eq_true, ku2_eq, ku2_ne, pk_us, pk_un, pk_uLs, pk_uLn, kup_Is, kup_In, kup_Js, kup_Jn, ku2_ku2, kup_I, kup_J, knar1, knar0]
    refine Gd_call (r_laysG (hF.kp k1 (by decide)) ok (hat.kp k1 (by decide) (by decide) (by decide) (by decide)) hL ⟨(k1.2.1 _ _ (by decide)).trans hra.1, (k1.2.1 _ _ (by decide)).trans hra.2⟩ hr (by omega)) ?_
    intro i1 l1 I1 J1 ⟨k2, d1, d2, d3, d4, d5, d6, d7⟩
    have d2 : i1 217 26 = nI (scK F L u w k) := d2
    have k3 := Kp_trans k1 k2
    have IH := r_lb1 hF ok hat hL hra hr c (k + 1) (if bLess F L u w k s then s else (k + 1, (hsK F L u w k).length, scK F L u w k)) i1 l1 I1 J1 (by omega) (by have := bsF_ok 1 k s hs; exact this) k3 hQ
    by_cases c1 : mkK F L u w k < 2
    · rw [if_pos (Or.inl c1)] at IH
      conv => arg 1; simp (disch := first | assumption | omega | decide | exact bI_or _) only [d1, d2, d5, X12_laysBest_0, X12_laysBest_1, X12_laysBest_2, X12_laysBest_3, X12_laysBest_4, X12_laysBest_5, X12_laysBest_6, X12_laysBest_7, X12_laysBest_11, X12_laysBest_12, X12_laysBest_15b, X12_laysBest_18, X12_laysBest_19, X12_laysBest_21, X12_laysBest_24, X12_laysBest_25, X12_laysBest_28, X12_laysBest_31, X12_laysBest_32b, X12_laysBest_35, X12_laysBest_36, X12_laysBest_39, X12_laysBest_40b, X12_laysBest_43, X12_laysBest_44, X12_laysBest_47, X12_laysBest_48b, X12_laysBest_51, X12_laysBest_52, X12_laysBest_55, X12_laysBest_56b, X12_laysBest_59, X12_laysBest_62, X12_laysBest_64, X12_laysBest_65, X12_laysBest_66, X12_laysBest_69, X12_laysBest_70, X12_laysBest_71, X12_laysBest_74, X12_laysBest_75, X12_laysBest_78, X12_laysBest_82, X12_laysBest_83b, X12_laysBest_86, X12_laysBest_87, X12_laysBest_88, X12_laysBest_91, X12_laysBest_92, ↓(show (-1 : Int32) = mI 1 from rfl), show (0 : Int32) = nI 0 from rfl, g13_22, is_217, g13_29, show (2 : Int64) = lN 2 from rfl, g13_25, g13_26, show (1 : Int32) = nI 1 from rfl, exLt_c1, exLt_c2, exEq_c, exLt_t, exLt_f, exEq_s, exEq_t, exEq_f, exLt_mn, exLt_nm, exEq_mn, exEq_nm, exEq_mm, exEq_xf, exLtL_t, exLtL_f, exEqL_t, exEqL_f, exB_t, exB_f, exSw_t, exSw_f, exSw_0, klz_f, klz_g, kieq_f, kdivL, kdivI, kmodL, kmodI, knIL, lN_i, nI_add, pk_mul, pk_sub, pk_subm, kad1, kad2, lN_add, lN_mul, lN_sub, kkl_i, kkl_l, kkl_r, kkl_0, Option.bind_some, Option.toList_some, Option.toList_none, List.cons_append, List.nil_append, if_true, if_false, eq_self, not_true_eq_false, not_false_eq_true, ku2_eq, ku2_ne, pk_us, pk_un, pk_uLs, pk_uLn, kup_Is, kup_In, kup_Js, kup_Jn, ku2_ku2, kup_I, kup_J, knar1, knar0]
      exact IH
    by_cases c2 : (hsK F L u w k).length < s.2.1
    · rw [if_pos (Or.inr (Or.inl c2))] at IH
      conv => arg 1; simp (disch := first | assumption | omega | decide | exact bI_or _) only [d1, d2, d5, X12_laysBest_0, X12_laysBest_1, X12_laysBest_2, X12_laysBest_3, X12_laysBest_4, X12_laysBest_5, X12_laysBest_6, X12_laysBest_7, X12_laysBest_11, X12_laysBest_12, X12_laysBest_15b, X12_laysBest_18, X12_laysBest_19, X12_laysBest_21, X12_laysBest_24, X12_laysBest_25, X12_laysBest_28, X12_laysBest_31, X12_laysBest_32b, X12_laysBest_35, X12_laysBest_36, X12_laysBest_39, X12_laysBest_40b, X12_laysBest_43, X12_laysBest_44, X12_laysBest_47, X12_laysBest_48b, X12_laysBest_51, X12_laysBest_52, X12_laysBest_55, X12_laysBest_56b, X12_laysBest_59, X12_laysBest_62, X12_laysBest_64, X12_laysBest_65, X12_laysBest_66, X12_laysBest_69, X12_laysBest_70, X12_laysBest_71, X12_laysBest_74, X12_laysBest_75, X12_laysBest_78, X12_laysBest_82, X12_laysBest_83b, X12_laysBest_86, X12_laysBest_87, X12_laysBest_88, X12_laysBest_91, X12_laysBest_92, ↓(show (-1 : Int32) = mI 1 from rfl), show (0 : Int32) = nI 0 from rfl, g13_22, is_217, g13_29, show (2 : Int64) = lN 2 from rfl, g13_25, g13_26, show (1 : Int32) = nI 1 from rfl, exLt_c1, exLt_c2, exEq_c, exLt_t, exLt_f, exEq_s, exEq_t, exEq_f, exLt_mn, exLt_nm, exEq_mn, exEq_nm, exEq_mm, exEq_xf, exLtL_t, exLtL_f, exEqL_t, exEqL_f, exB_t, exB_f, exSw_t, exSw_f, exSw_0, klz_f, klz_g, kieq_f, kdivL, kdivI, kmodL, kmodI, knIL, lN_i, nI_add, pk_mul, pk_sub, pk_subm, kad1, kad2, lN_add, lN_mul, lN_sub, kkl_i, kkl_l, kkl_r, kkl_0, Option.bind_some, Option.toList_some, Option.toList_none, List.cons_append, List.nil_append, if_true, if_false, eq_self, not_true_eq_false, not_false_eq_true, ku2_eq, ku2_ne, pk_us, pk_un, pk_uLs, pk_uLn, kup_Is, kup_In, kup_Js, kup_Jn, ku2_ku2, kup_I, kup_J, knar1, knar0]
      exact IH
    by_cases c3 : (hsK F L u w k).length = s.2.1 ∧ scK F L u w k ≤ s.2.2
    · rw [if_pos (Or.inr (Or.inr c3))] at IH
      have c4 := c3.1
      have c5 := c3.2
      conv => arg 1; simp (disch := first | assumption | omega | decide | exact bI_or _) only [d1, d2, d5, X12_laysBest_0, X12_laysBest_1, X12_laysBest_2, X12_laysBest_3, X12_laysBest_4, X12_laysBest_5, X12_laysBest_6, X12_laysBest_7, X12_laysBest_11, X12_laysBest_12, X12_laysBest_15b, X12_laysBest_18, X12_laysBest_19, X12_laysBest_21, X12_laysBest_24, X12_laysBest_25, X12_laysBest_28, X12_laysBest_31, X12_laysBest_32b, X12_laysBest_35, X12_laysBest_36, X12_laysBest_39, X12_laysBest_40b, X12_laysBest_43, X12_laysBest_44, X12_laysBest_47, X12_laysBest_48b, X12_laysBest_51, X12_laysBest_52, X12_laysBest_55, X12_laysBest_56b, X12_laysBest_59, X12_laysBest_62, X12_laysBest_64, X12_laysBest_65, X12_laysBest_66, X12_laysBest_69, X12_laysBest_70, X12_laysBest_71, X12_laysBest_74, X12_laysBest_75, X12_laysBest_78, X12_laysBest_82, X12_laysBest_83b, X12_laysBest_86, X12_laysBest_87, X12_laysBest_88, X12_laysBest_91, X12_laysBest_92, ↓(show (-1 : Int32) = mI 1 from rfl), show (0 : Int32) = nI 0 from rfl, g13_22, is_217, g13_29, show (2 : Int64) = lN 2 from rfl, g13_25, g13_26, show (1 : Int32) = nI 1 from rfl, exLt_c1, exLt_c2, exEq_c, exLt_t, exLt_f, exEq_s, exEq_t, exEq_f, exLt_mn, exLt_nm, exEq_mn, exEq_nm, exEq_mm, exEq_xf, exLtL_t, exLtL_f, exEqL_t, exEqL_f, exB_t, exB_f, exSw_t, exSw_f, exSw_0, klz_f, klz_g, kieq_f, kdivL, kdivI, kmodL, kmodI, knIL, lN_i, nI_add, pk_mul, pk_sub, pk_subm, kad1, kad2, lN_add, lN_mul, lN_sub, kkl_i, kkl_l, kkl_r, kkl_0, Option.bind_some, Option.toList_some, Option.toList_none, List.cons_append, List.nil_append, if_true, if_false, eq_self, not_true_eq_false, not_false_eq_true, ku2_eq, ku2_ne, pk_us, pk_un, pk_uLs, pk_uLn, kup_Is, kup_In, kup_Js, kup_Jn, ku2_ku2, kup_I, kup_J, knar1, knar0]
      exact IH
    · rw [if_neg (fun z => by omega)] at IH
      by_cases c4 : (hsK F L u w k).length = s.2.1
      · have c5 : s.2.2 < scK F L u w k := by omega
        conv => arg 1; simp (disch := first | assumption | omega | decide | exact bI_or _) only [d1, d2, d5, X12_laysBest_0, X12_laysBest_1, X12_laysBest_2, X12_laysBest_3, X12_laysBest_4, X12_laysBest_5, X12_laysBest_6, X12_laysBest_7, X12_laysBest_11, X12_laysBest_12, X12_laysBest_15b, X12_laysBest_18, X12_laysBest_19, X12_laysBest_21, X12_laysBest_24, X12_laysBest_25, X12_laysBest_28, X12_laysBest_31, X12_laysBest_32b, X12_laysBest_35, X12_laysBest_36, X12_laysBest_39, X12_laysBest_40b, X12_laysBest_43, X12_laysBest_44, X12_laysBest_47, X12_laysBest_48b, X12_laysBest_51, X12_laysBest_52, X12_laysBest_55, X12_laysBest_56b, X12_laysBest_59, X12_laysBest_62, X12_laysBest_64, X12_laysBest_65, X12_laysBest_66, X12_laysBest_69, X12_laysBest_70, X12_laysBest_71, X12_laysBest_74, X12_laysBest_75, X12_laysBest_78, X12_laysBest_82, X12_laysBest_83b, X12_laysBest_86, X12_laysBest_87, X12_laysBest_88, X12_laysBest_91, X12_laysBest_92, ↓(show (-1 : Int32) = mI 1 from rfl), show (0 : Int32) = nI 0 from rfl, g13_22, is_217, g13_29, show (2 : Int64) = lN 2 from rfl, g13_25, g13_26, show (1 : Int32) = nI 1 from rfl, exLt_c1, exLt_c2, exEq_c, exLt_t, exLt_f, exEq_s, exEq_t, exEq_f, exLt_mn, exLt_nm, exEq_mn, exEq_nm, exEq_mm, exEq_xf, exLtL_t, exLtL_f, exEqL_t, exEqL_f, exB_t, exB_f, exSw_t, exSw_f, exSw_0, klz_f, klz_g, kieq_f, kdivL, kdivI, kmodL, kmodI, knIL, lN_i, nI_add, pk_mul, pk_sub, pk_subm, kad1, kad2, lN_add, lN_mul, lN_sub, kkl_i, kkl_l, kkl_r, kkl_0, Option.bind_some, Option.toList_some, Option.toList_none, List.cons_append, List.nil_append, if_true, if_false, eq_self, not_true_eq_false, not_false_eq_true, ku2_eq, ku2_ne, pk_us, pk_un, pk_uLs, pk_uLn, kup_Is, kup_In, kup_Js, kup_Jn, ku2_ku2, kup_I, kup_J, knar1, knar0]
        exact IH
      · conv => arg 1; simp (disch := first | assumption | omega | decide | exact bI_or _) only [d1, d2, d5, X12_laysBest_0, X12_laysBest_1, X12_laysBest_2, X12_laysBest_3, X12_laysBest_4, X12_laysBest_5, X12_laysBest_6, X12_laysBest_7, X12_laysBest_11, X12_laysBest_12, X12_laysBest_15b, X12_laysBest_18, X12_laysBest_19, X12_laysBest_21, X12_laysBest_24, X12_laysBest_25, X12_laysBest_28, X12_laysBest_31, X12_laysBest_32b, X12_laysBest_35, X12_laysBest_36, X12_laysBest_39, X12_laysBest_40b, X12_laysBest_43, X12_laysBest_44, X12_laysBest_47, X12_laysBest_48b, X12_laysBest_51, X12_laysBest_52, X12_laysBest_55, X12_laysBest_56b, X12_laysBest_59, X12_laysBest_62, X12_laysBest_64, X12_laysBest_65, X12_laysBest_66, X12_laysBest_69, X12_laysBest_70, X12_laysBest_71, X12_laysBest_74, X12_laysBest_75, X12_laysBest_78, X12_laysBest_82, X12_laysBest_83b, X12_laysBest_86, X12_laysBest_87, X12_laysBest_88, X12_laysBest_91, X12_laysBest_92, ↓(show (-1 : Int32) = mI 1 from rfl), show (0 : Int32) = nI 0 from rfl, g13_22, is_217, g13_29, show (2 : Int64) = lN 2 from rfl, g13_25, g13_26, show (1 : Int32) = nI 1 from rfl, exLt_c1, exLt_c2, exEq_c, exLt_t, exLt_f, exEq_s, exEq_t, exEq_f, exLt_mn, exLt_nm, exEq_mn, exEq_nm, exEq_mm, exEq_xf, exLtL_t, exLtL_f, exEqL_t, exEqL_f, exB_t, exB_f, exSw_t, exSw_f, exSw_0, klz_f, klz_g, kieq_f, kdivL, kdivI, kmodL, kmodI, knIL, lN_i, nI_add, pk_mul, pk_sub, pk_subm, kad1, kad2, lN_add, lN_mul, lN_sub, kkl_i, kkl_l, kkl_r, kkl_0, Option.bind_some, Option.toList_some, Option.toList_none, List.cons_append, List.nil_append, if_true, if_false, eq_self, not_true_eq_false, not_false_eq_true, ku2_eq, ku2_ne, pk_us, pk_un, pk_uLs, pk_uLn, kup_Is, kup_In, kup_Js, kup_Jn, ku2_ku2, kup_I, kup_J, knar1, knar0]
        exact IH
end RB
