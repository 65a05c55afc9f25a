/-! OWN: lines through notes: the mathematics, the reference -/
def smN (f : Nat → Nat) : Nat → Nat
  | 0 => 0
  | n + 1 => smN f n + f n
theorem smN_le {f : Nat → Nat} {B : Nat} : ∀ (n : Nat), (∀ j, j < n → f j ≤ B) → smN f n ≤ n * B
  | 0, _ => by simp [smN]
  | n + 1, h => by
    have h1 := smN_le (f := f) (B := B) n (fun j hj => h j (by omega))
    have h2 := h n (by omega)
    rw [smN, Nat.add_mul]
    omega
theorem sq2 {f d : Nat} (h : f < d) : 2 * (f * d) + 1 ≤ f * f + d * d := by
  obtain ⟨e, rfl⟩ : ∃ e, d = f + e := ⟨d - f, by omega⟩
  have he : 1 ≤ e * e := Nat.mul_pos (by omega) (by omega)
  rw [Nat.mul_add, Nat.add_mul, Nat.mul_add, Nat.mul_add, Nat.mul_add, Nat.mul_comm e f]
  omega
theorem cs1 {f : Nat → Nat} {d : Nat} : ∀ (n : Nat), (∀ j, j < n → f j < d) → 2 * (smN f n * d) + n ≤ smN (fun j => f j * f j) n + n * (d * d)
  | 0, _ => by simp [smN]
  | n + 1, h => by
    have h1 := cs1 (f := f) (d := d) n (fun j hj => h j (by omega))
    have h2 := sq2 (h n (by omega))
    rw [smN, smN, Nat.add_mul, Nat.add_mul]
    omega
theorem cs2 {f : Nat → Nat} : ∀ (n : Nat), (∀ j k, j < k → k < n → f j < f k) → 1 ≤ n → smN f n * smN f n + (n - 1) ≤ n * smN (fun j => f j * f j) n
  | 0, _, h => by omega
  | n + 1, h, _ => by
    rcases Nat.eq_zero_or_pos n with z | z
    · subst z; simp [smN]
    · have h1 := cs2 (f := f) n (fun j k a b => h j k a (by omega)) z
      have h2 := cs1 (f := f) (d := f n) n (fun j hj => h j n hj (by omega))
      rw [smN, smN, Nat.add_mul, Nat.mul_add, Nat.mul_add, Nat.mul_add, Nat.add_mul, Nat.add_mul]
      rw [Nat.mul_comm (f n) (smN f n)]
      omega
def nDy (F : Nat → Nat) (j : Nat) : Nat := F (56 + 11 * j)
def nSt (F : Nat → Nat) (k j : Nat) : Nat := F (62 + 11 * j + k)
def nD (F : Nat → Nat) : Nat := smN (nDy F) (F 12)
def nS (F : Nat → Nat) (k : Nat) : Nat := smN (nSt F k) (F 12)
def nP (F : Nat → Nat) (k : Nat) : Nat := smN (fun j => nDy F j * nSt F k j) (F 12)
def nQ (F : Nat → Nat) : Nat := smN (fun j => nDy F j * nDy F j) (F 12)
def rise0 (F : Nat → Nat) (k : Nat) : Int := (F 12 * nP F k : Nat) - (nD F * nS F k : Nat)
def run0 (F : Nat → Nat) : Nat := F 12 * nQ F - nD F * nD F
def lnGc (F : Nat → Nat) (k : Nat) : Nat := Nat.gcd (rise0 F k).natAbs (run0 F)
/-- what the line rises in so many days -/
def lnR (F : Nat → Nat) (k : Nat) : Int := rise0 F k / (lnGc F k : Int)
def lnN (F : Nat → Nat) (k : Nat) : Nat := run0 F / lnGc F k
/-- where the line is on a day, times notes and run -/
def lnA (F : Nat → Nat) (k : Nat) (day : Int) : Int := (nS F k * lnN F k : Nat) + lnR F k * (F 12 * day - nD F)
/-- rounded down -/
def flz (a : Int) (b : Nat) : Int := if 0 ≤ a then ((a.toNat / b : Nat) : Int) else if (-a).toNat % b = 0 then -(((-a).toNat / b : Nat) : Int) else -(((-a).toNat / b : Nat) : Int) - 1
theorem run0_pos {F : Nat → Nat} (ok : okN F) (h2 : 2 ≤ F 12) : 0 < run0 F ∧ nD F * nD F ≤ F 12 * nQ F ∧ run0 F ≤ 40000000000 := by
  have h := cs2 (f := nDy F) (F 12) (fun j k a b => ok.2.2 j k a b) (by omega)
  have hq : nQ F ≤ F 12 * 99980001 := smN_le (F 12) (fun j hj => Nat.mul_le_mul (ok.2.1 j hj).1 (ok.2.1 j hj).1)
  have h20 := ok.1
  have hq2 : F 12 * nQ F ≤ 20 * (20 * 99980001) := Nat.mul_le_mul h20 (Nat.le_trans hq (Nat.mul_le_mul_right _ h20))
  have h : nD F * nD F + (F 12 - 1) ≤ F 12 * nQ F := h
  unfold run0
  omega
theorem ln_b {F : Nat → Nat} (ok : okN F) (h2 : 2 ≤ F 12) {k : Nat} (hk : k < 5) : nD F ≤ 199980 ∧ nS F k ≤ 396000 ∧ F 12 * nP F k ≤ 80000000000 ∧ nD F * nS F k ≤ 80000000000 := by
  have h20 := ok.1
  have h1 : nD F ≤ F 12 * 9999 := smN_le (F 12) (fun j hj => (ok.2.1 j hj).1)
  have h3 : nS F k ≤ F 12 * 19800 := smN_le (F 12) (fun j hj => ((ok.2.1 j hj).2 k hk).2)
  have h4 : nP F k ≤ F 12 * (9999 * 19800) := smN_le (F 12) (fun j hj => Nat.mul_le_mul (ok.2.1 j hj).1 ((ok.2.1 j hj).2 k hk).2)
  have h5 : F 12 * nP F k ≤ 20 * (20 * (9999 * 19800)) := Nat.mul_le_mul h20 (Nat.le_trans h4 (Nat.mul_le_mul_right _ h20))
  have h6 : nD F * nS F k ≤ 199980 * 396000 := Nat.mul_le_mul (by omega) (by omega)
  omega
theorem lnGc_pos {F : Nat → Nat} (ok : okN F) (h2 : 2 ≤ F 12) (k : Nat) : 0 < lnGc F k ∧ lnGc F k ≤ 40000000000 := by
  have := run0_pos ok h2
  exact ⟨Nat.gcd_pos_of_pos_right _ this.1, Nat.le_trans (Nat.gcd_le_right _ this.1) this.2.2⟩
theorem lnR_b {F : Nat → Nat} (ok : okN F) (h2 : 2 ≤ F 12) {k : Nat} (hk : k < 5) : (lnR F k).natAbs ≤ 80000000000 ∧ 0 < lnN F k ∧ lnN F k ≤ 40000000000 ∧ rise0 F k = lnGc F k * lnR F k := by
  have hb := ln_b ok h2 hk
  have hr := run0_pos ok h2
  have hg := lnGc_pos ok h2 k
  have hd : (lnGc F k : Int) ∣ rise0 F k := Int.ofNat_dvd_left.mpr (Nat.gcd_dvd_left _ _)
  have hn : (rise0 F k).natAbs ≤ 80000000000 := by unfold rise0; omega
  obtain ⟨w, hw⟩ := hd
  have e : lnR F k = w := by unfold lnR; rw [hw]; exact Int.mul_ediv_cancel_left _ (by omega)
  refine ⟨?_, Nat.div_pos (Nat.gcd_le_right _ hr.1) hg.1, Nat.le_trans (Nat.div_le_self _ _) hr.2.2, by rw [e]; exact hw⟩
  rw [e]
  have h1 : (rise0 F k).natAbs = lnGc F k * w.natAbs := by rw [hw, Int.natAbs_mul]; rfl
  have h2 : 1 * w.natAbs ≤ lnGc F k * w.natAbs := Nat.mul_le_mul_right _ hg.1
  omega
theorem lnA_b {F : Nat → Nat} (ok : okN F) (h2 : 2 ≤ F 12) {k : Nat} (hk : k < 5) {day : Nat} (hd : day ≤ 100000) : -1000000000000000000 ≤ lnA F k day ∧ lnA F k day ≤ 1000000000000000000 := by
  have hb := ln_b ok h2 hk
  have hr := lnR_b ok h2 hk
  have h20 := ok.1
  have h1 : nS F k * lnN F k ≤ 396000 * 40000000000 := Nat.mul_le_mul hb.2.1 hr.2.2.1
  have hnd : F 12 * day ≤ 20 * 100000 := Nat.mul_le_mul h20 hd
  have h3 : (F 12 * (day : Int) - nD F).natAbs ≤ 2200000 := by
    have : ((F 12 * day : Nat) : Int) = F 12 * (day : Int) := by push_cast; rfl
    omega
  have h4 : (lnR F k * (F 12 * (day : Int) - nD F)).natAbs ≤ 80000000000 * 2200000 := by rw [Int.natAbs_mul]; exact Nat.mul_le_mul hr.1 h3
  unfold lnA
  omega
def NOL : Int64 := -9223372036854775808
def sp_line (F : Nat → Nat) (x z : Int32) : Int64 := if inR x 5 ∧ inR z 3 ∧ 2 ≤ F 12 then (if tN z = 0 then zL (lnR F (tN x)) else if tN z = 1 then lN (lnN F (tN x)) else zL (flz (lnA F (tN x) (nDy F (F 12 - 1))) (F 12 * lnN F (tN x)))) else NOL
/-- the first day from one on on which the line is at a limit (0: none, else day + 1) -/
def duG (F : Nat → Nat) (k lim : Nat) : Nat → Nat → Nat
  | 0, _ => 0
  | c + 1, day => if ((lim * F 12 * lnN F k : Nat) : Int) ≤ lnA F k day then day + 1 else duG F k lim c (day + 1)
def duK (F : Nat → Nat) (k lim : Nat) : Nat := duG F k lim (100000 - nDy F (F 12 - 1)) (nDy F (F 12 - 1))
def sp_due (F : Nat → Nat) (x z : Int32) : Int32 := if inR x 5 ∧ inR z 100000 then (if F 12 < 2 then mI 3 else oT (duK F (tN x) (tN z)) (duK F (tN x) (tN z) - 1)) else mI 1
section ZY
variable {a : Int} {b : Nat} {d m p q : Nat} {L : kL} {S : List Value} {h : kH}
theorem exLtZN_t (hc : a < b) (h1 : -9223372036854775808 ≤ a) (h2 : b < 9223372036854775808) : exLtL (zL a) (lN b) d m p q L S h = ex d m p L S h := by rw [← zL_N]; exact exLtZ_t hc h1 (by omega)
theorem exLtZN_f (hc : (b : Int) ≤ a) (h2 : a < 9223372036854775808) : exLtL (zL a) (lN b) d m p q L S h = ex d m q L S h := by rw [← zL_N]; exact exLtZ_f hc (by omega) h2
theorem zL_divE {g : Nat} {w : Int} (hg : 0 < g) (hg2 : g < 4611686018427387904) (h : ((g : Int) * w).natAbs < 4611686018427387904) : zL (g * w) / lN g = zL w := by
  apply Int64.toInt_inj.mp
  have hw : w.natAbs < 4611686018427387904 := by
    have h1 : ((g : Int) * w).natAbs = g * w.natAbs := by rw [Int.natAbs_mul]; rfl
    have h2 : 1 * w.natAbs ≤ g * w.natAbs := Nat.mul_le_mul_right _ hg
    omega
  rw [Int64.toInt_div_of_ne_right _ _ (fun z => by
    have := congrArg Int64.toInt z
    rw [pk_lT (by omega)] at this
    have e : (-1 : Int64).toInt = -1 := rfl
    omega), zL_toInt (by omega) (by omega), pk_lT (by omega), zL_toInt (by omega) (by omega)]
  exact Int.mul_tdiv_cancel_left _ (by omega)
theorem zL_divN {n g : Nat} (hg : 0 < g) (hg2 : g < 4611686018427387904) (hn : n < 4611686018427387904) : zL (-(n : Int)) / lN g = zL (-((n / g : Nat) : Int)) := by
  apply Int64.toInt_inj.mp
  have hd : n / g ≤ n := Nat.div_le_self _ _
  have key : (-(n : Int)).tdiv (g : Int) = -((n / g : Nat) : Int) := by rw [Int.neg_tdiv]; rfl
  rw [Int64.toInt_div_of_ne_right _ _ (fun z => by
    have := congrArg Int64.toInt z
    rw [pk_lT (by omega)] at this
    have e : (-1 : Int64).toInt = -1 := rfl
    omega), zL_toInt (by omega) (by omega), pk_lT (by omega), key]
  generalize n / g = q at hd ⊢
  rw [zL_toInt (by omega) (by omega)]
end ZY
section RY1
variable {d : Nat} {h : kH} {i : tI} {l : tL} {I : tI} {J : tL} {nw df : Nat} {P : Nat → Nat}
theorem r_sizeZ {v : Int} (hv : v.natAbs < 4611686018427387904) : rn (d + 1) mX12_size [.long (zL v)] h = some (some (.long (lN v.natAbs)), h) := by
  rw [r_size]
  have e0 : (0 : Int64) = zL 0 := rfl
  rw [e0]
  by_cases c : v < 0
  · rw [if_pos ((zL_lt ⟨by omega, by omega⟩ ⟨by omega, by omega⟩).mpr c), zL_neg, zL_nat (by omega), show (-v).toNat = v.natAbs by omega]
  · rw [if_neg (fun z => c ((zL_lt ⟨by omega, by omega⟩ ⟨by omega, by omega⟩).mp z)), zL_nat (by omega), show v.toNat = v.natAbs by omega]
theorem r_commonZ {v : Int} {b : Nat} (hv : v.natAbs < 4611686018427387904) (hb : b < 4611686018427387904) : rn (d + 2) mX12_common [.long (zL v), .long (lN b)] h = some (some (.long (lN (Nat.gcd v.natAbs b))), h) := by
  have e1 : rn (d + 1) mX12_size [.long (lN b)] h = some (some (.long (lN b)), h) := by
    have := r_sizeZ (d := d) (h := h) (v := (b : Int)) (by omega)
    rw [zL_N] at this
    exact this
  rw [X12_common_E]
  conv => lhs; simp (disch := first | assumption | omega | decide | exact bI_or _) only [r_sizeZ hv, e1, X12_common_0, X12_common_1, X12_common_4, X12_common_6, X12_common_7, X12_common_10, X12_common_14, X12_common_15, X12_common_16b, X12_common_19, X12_common_21, X12_common_23, X12_common_24, X12_common_26, X12_common_28, X12_common_30, X12_common_32, X12_common_34, X12_common_37, X12_common_39, show (0 : Int64) = lN 0 from rfl, show (0 : Int32) = nI 0 from rfl, exLt_c1, exLt_c2, exEq_c, exLt_t, exLt_f, exEq_s, exEq_t, exEq_f, exLt_mn, exLt_nm, exEq_mn, exEq_nm, exEq_mm, exEq_xf, exLtL_t, exLtL_f, exEqL_t, exEqL_f, exB_t, exB_f, exSw_t, exSw_f, exSw_0, klz_f, klz_g, kieq_f, kdivL, kdivI, kmodL, kmodI, knIL, lN_i, nI_add, pk_mul, pk_sub, pk_subm, kad1, kad2, lN_add, lN_mul, lN_sub, kkl_i, kkl_l, kkl_r, kkl_0, Option.bind_some, Option.toList_some, Option.toList_none, List.cons_append, List.nil_append, if_true, if_false, eq_self, not_true_eq_false, not_false_eq_true, ku2_eq, ku2_ne, pk_us, pk_un, pk_uLs, pk_uLn, kup_Is, kup_In, kup_Js, kup_Jn, ku2_ku2, kup_I, kup_J, knar1, knar0]
  exact r_gcd b v.natAbs b none (Nat.le_refl _) (by omega) (by omega)
theorem r_floored {a : Int} {b : Nat} (ha : a.natAbs < 4611686018427387904) (hb : 0 < b) (hb2 : b < 4611686018427387904) : rn (d + 1) mX12_floored [.long (zL a), .long (lN b)] h = some (some (.long (zL (flz a b))), h) := by
  rw [X12_floored_E]
  unfold flz
  by_cases c : 0 ≤ a
  · rw [if_pos c, zL_N]
    have e := zL_nat c
    rw [e]
    have hd : a.toNat / b ≤ a.toNat := Nat.div_le_self _ _
    have hm := Nat.mod_lt a.toNat hb
    conv => lhs; simp (disch := first | assumption | omega | decide | exact bI_or _) only [X12_floored_0, X12_floored_1, X12_floored_2, X12_floored_3, X12_floored_5, X12_floored_6, X12_floored_7, X12_floored_8, X12_floored_9, X12_floored_10b, X12_floored_13, X12_floored_15, X12_floored_16, X12_floored_17, X12_floored_20, X12_floored_22, show (0 : Int64) = lN 0 from rfl, show (0 : Int32) = nI 0 from rfl, show (1 : Int64) = lN 1 from rfl, exLt_c1, exLt_c2, exEq_c, exLt_t, exLt_f, exEq_s, exEq_t, exEq_f, exLt_mn, exLt_nm, exEq_mn, exEq_nm, exEq_mm, exEq_xf, exLtL_t, exLtL_f, exEqL_t, exEqL_f, exB_t, exB_f, exSw_t, exSw_f, exSw_0, klz_f, klz_g, kieq_f, kdivL, kdivI, kmodL, kmodI, knIL, lN_i, nI_add, pk_mul, pk_sub, pk_subm, kad1, kad2, lN_add, lN_mul, lN_sub, kkl_i, kkl_l, kkl_r, kkl_0, Option.bind_some, Option.toList_some, Option.toList_none, List.cons_append, List.nil_append, if_true, if_false, eq_self, not_true_eq_false, not_false_eq_true, ku2_eq, ku2_ne, pk_us, pk_un, pk_uLs, pk_uLn, kup_Is, kup_In, kup_Js, kup_Jn, ku2_ku2, kup_I, kup_J, knar1, knar0]
  · rw [if_neg c]
    obtain ⟨n, rfl⟩ : ∃ n : Nat, a = -(n : Int) := ⟨a.natAbs, by omega⟩
    have e2 : (-(-(n : Int))).toNat = n := by omega
    rw [e2]
    have hd := zL_divN (n := n) (g := b) hb hb2 (by omega)
    have hmm := Nat.mod_add_div n b
    have hml := Nat.mod_lt n hb
    have hdl : n / b ≤ n := Nat.div_le_self _ _
    have e3 : zL (-(n : Int)) - zL (-((n / b : Nat) : Int)) * lN b = zL (-((n % b : Nat) : Int)) := by
      rw [← zL_N, zL_mul, zL_sub]
      congr 1
      have : ((n % b + b * (n / b) : Nat) : Int) = n := by rw [hmm]
      rw [Int.natCast_add, Int.natCast_mul] at this
      rw [Int.neg_mul, Int.mul_comm ((n / b : Nat) : Int)]
      omega
    have e0 : lN 0 = zL 0 := rfl
    by_cases c2 : n % b = 0
    · rw [if_pos c2]
      rw [c2] at e3
      have e4 : zL (-((0 : Nat) : Int)) = lN 0 := rfl
      rw [e4] at e3
      conv => lhs; simp (disch := first | assumption | omega | decide | exact bI_or _) only [hd, e3, X12_floored_0, X12_floored_1, X12_floored_2, X12_floored_3, X12_floored_5, X12_floored_6, X12_floored_7, X12_floored_8, X12_floored_9, X12_floored_10b, X12_floored_13, X12_floored_15, X12_floored_16, X12_floored_17, X12_floored_20, X12_floored_22, show (0 : Int64) = lN 0 from rfl, show (0 : Int32) = nI 0 from rfl, show (1 : Int64) = lN 1 from rfl, exLt_c1, exLt_c2, exEq_c, exLt_t, exLt_f, exEq_s, exEq_t, exEq_f, exLt_mn, exLt_nm, exEq_mn, exEq_nm, exEq_mm, exEq_xf, exLtL_t, exLtL_f, exEqL_t, exEqL_f, exB_t, exB_f, exSw_t, exSw_f, exSw_0, klz_f, klz_g, kieq_f, kdivL, kdivI, kmodL, kmodI, knIL, lN_i, nI_add, pk_mul, pk_sub, pk_subm, kad1, kad2, lN_add, lN_mul, lN_sub, kkl_i, kkl_l, kkl_r, kkl_0, Option.bind_some, Option.toList_some, Option.toList_none, List.cons_append, List.nil_append, if_true, if_false, eq_self, not_true_eq_false, not_false_eq_true, ku2_eq, ku2_ne, pk_us, pk_un, pk_uLs, pk_uLn, kup_Is, kup_In, kup_Js, kup_Jn, ku2_ku2, kup_I, kup_J, knar1, knar0]
    · rw [if_neg c2]
      have e5 : zL (-((n / b : Nat) : Int)) - lN 1 = zL (-((n / b : Nat) : Int) - 1) := by rw [← zL_N, zL_sub]; rfl
      conv => lhs; simp (disch := first | assumption | omega | decide | exact bI_or _) only [hd, e3, exLtZN_t, e5, X12_floored_0, X12_floored_1, X12_floored_2, X12_floored_3, X12_floored_5, X12_floored_6, X12_floored_7, X12_floored_8, X12_floored_9, X12_floored_10b, X12_floored_13, X12_floored_15, X12_floored_16, X12_floored_17, X12_floored_20, X12_floored_22, show (0 : Int64) = lN 0 from rfl, show (0 : Int32) = nI 0 from rfl, show (1 : Int64) = lN 1 from rfl, exLt_c1, exLt_c2, exEq_c, exLt_t, exLt_f, exEq_s, exEq_t, exEq_f, exLt_mn, exLt_nm, exEq_mn, exEq_nm, exEq_mm, exEq_xf, exLtL_t, exLtL_f, exEqL_t, exEqL_f, exB_t, exB_f, exSw_t, exSw_f, exSw_0, klz_f, klz_g, kieq_f, kdivL, kdivI, kmodL, kmodI, knIL, lN_i, nI_add, pk_mul, pk_sub, pk_subm, kad1, kad2, lN_add, lN_mul, lN_sub, kkl_i, kkl_l, kkl_r, kkl_0, Option.bind_some, Option.toList_some, Option.toList_none, List.cons_append, List.nil_append, if_true, if_false, eq_self, not_true_eq_false, not_false_eq_true, ku2_eq, ku2_ne, pk_us, pk_un, pk_uLs, pk_uLn, kup_Is, kup_In, kup_Js, kup_Jn, ku2_ku2, kup_I, kup_J, knar1, knar0]
theorem r_fl1 {F : Nat → Nat} {k : Nat} {i0 : tI} (hF : rFile I F) (ok : okN F) (hk : k < 5) : ∀ (c j : Nat) (l : tL) (a7 a8 a9 a10 : Option Value), j + c = F 12 → l 217 49 = lN (F 12) → l 217 50 = lN (smN (nDy F) j) → l 217 51 = lN (smN (nSt F k) j) → ∃ (l1 : tL) (b7 b8 b9 b10 : Option Value), ex (d + 2) mX12_findsLine 30 [some (.ref 217), some (.int (nI k)), some (.long (lN (smN (fun j => nDy F j * nSt F k j) j))), none, some (.long (lN (smN (fun j => nDy F j * nDy F j) j))), none, some (.int (nI j)), a7, a8, a9, a10] [] (mH h i l I J nw df P) = ex (d + 2) mX12_findsLine 110 [some (.ref 217), some (.int (nI k)), some (.long (lN (nP F k))), none, some (.long (lN (nQ F))), none, some (.int (nI (F 12))), b7, b8, b9, b10] [] (mH h i l1 I J nw df P) ∧ Kp [] [(217, 50), (217, 51)] [] i i l l1 I I J J ∧ l1 217 50 = lN (nD F) ∧ l1 217 51 = lN (nS F k)
  | 0, j, l, a7, a8, a9, a10, hj, h49, h50, h51 => by
    have hj : j = F 12 := hj
    subst hj
    have h20 := ok.1
    refine ⟨l, a7, a8, a9, a10, ?_, Kp_refl, h50, h51⟩
    rw [X12_findsLine_30]
    conv => lhs; simp (disch := first | assumption | omega | decide | exact bI_or _) only [h49, X12_findsLine_0, X12_findsLine_1, X12_findsLine_2, X12_findsLine_5, X12_findsLine_7, X12_findsLine_8, X12_findsLine_9, X12_findsLine_12, X12_findsLine_13, X12_findsLine_14, X12_findsLine_17, X12_findsLine_18, X12_findsLine_19, X12_findsLine_22, X12_findsLine_23, X12_findsLine_24, X12_findsLine_25, X12_findsLine_27, X12_findsLine_28, X12_findsLine_32, X12_findsLine_33, X12_findsLine_34, X12_findsLine_37, X12_findsLine_38b, X12_findsLine_41, X12_findsLine_42, X12_findsLine_44, X12_findsLine_45, X12_findsLine_48, X12_findsLine_49, X12_findsLine_51, X12_findsLine_52, X12_findsLine_54, X12_findsLine_56, X12_findsLine_57, X12_findsLine_58, X12_findsLine_61, X12_findsLine_62, X12_findsLine_64, X12_findsLine_65, X12_findsLine_66, X12_findsLine_69, X12_findsLine_71, X12_findsLine_72, X12_findsLine_75, X12_findsLine_76, X12_findsLine_77, X12_findsLine_80, X12_findsLine_82, X12_findsLine_83, X12_findsLine_86, X12_findsLine_87, X12_findsLine_89, X12_findsLine_91, X12_findsLine_92, X12_findsLine_93, X12_findsLine_94, X12_findsLine_96, X12_findsLine_98, X12_findsLine_100, X12_findsLine_101, X12_findsLine_102, X12_findsLine_104, X12_findsLine_107, X12_findsLine_111, X12_findsLine_112, X12_findsLine_115, X12_findsLine_116, X12_findsLine_117, X12_findsLine_118, X12_findsLine_121, X12_findsLine_122, X12_findsLine_125, X12_findsLine_126, X12_findsLine_127, X12_findsLine_130, X12_findsLine_131, X12_findsLine_132, X12_findsLine_135, X12_findsLine_137, X12_findsLine_138, X12_findsLine_139, X12_findsLine_142, X12_findsLine_143, X12_findsLine_146, X12_findsLine_147, X12_findsLine_148, X12_findsLine_151, X12_findsLine_152, X12_findsLine_155, X12_findsLine_156, X12_findsLine_159, X12_findsLine_162, X12_findsLine_164, X12_findsLine_165, X12_findsLine_166, X12_findsLine_169, X12_findsLine_171, X12_findsLine_172, X12_findsLine_175, X12_findsLine_176, X12_findsLine_177, X12_findsLine_180, X12_findsLine_182, X12_findsLine_183, X12_findsLine_186, g13_0, ln_218, sn_218, show (12 : Int32) = nI 12 from rfl, p13_49, show (0 : Int64) = lN 0 from rfl, p13_50, p13_51, show (0 : Int32) = nI 0 from rfl, g13_49, is_217, show (6 : Int32) = nI 6 from rfl, g13_50, g13_51, show (1 : Int32) = nI 1 from rfl, p13_52, p13_53, g13_52, g13_53, exLt_c1, exLt_c2, exEq_c, exLt_t, exLt_f, exEq_s, exEq_t, exEq_f, exLt_mn, exLt_nm, exEq_mn, exEq_nm, exEq_mm, exEq_xf, exLtL_t, exLtL_f, exEqL_t, exEqL_f, exB_t, exB_f, exSw_t, exSw_f, exSw_0, klz_f, klz_g, kieq_f, kdivL, kdivI, kmodL, kmodI, knIL, lN_i, nI_add, pk_mul, pk_sub, pk_subm, kad1, kad2, lN_add, lN_mul, lN_sub, kkl_i, kkl_l, kkl_r, kkl_0, Option.bind_some, Option.toList_some, Option.toList_none, List.cons_append, List.nil_append, if_true, if_false, eq_self, not_true_eq_false, not_false_eq_true, ku2_eq, ku2_ne, pk_us, pk_un, pk_uLs, pk_uLn, kup_Is, kup_In, kup_Js, kup_Jn, ku2_ku2, kup_I, kup_J, knar1, knar0]
    rfl
  | c + 1, j, l, a7, a8, a9, a10, hj, h49, h50, h51 => by
    have hf : ∀ j, j < 676 → I 218 j = nI (F j) := hF
    have h20 := ok.1
    have hb := ok.2.1 j (by omega)
    have hb1 := hb.1
    have hb2 := (hb.2 k hk).2
    have e1 : 56 + 11 * j + 0 = 56 + 11 * j := rfl
    have e2 : 56 + 11 * j + (6 + k) = 62 + 11 * j + k := by omega
    have b0 : F (56 + 11 * j) < 2147483648 := by omega
    have b1 : F (62 + 11 * j + k) < 2147483648 := by omega
    obtain ⟨l1, b7, b8, b9, b10, e, q1, q2⟩ := r_fl1 (i0 := i0) hF ok hk c (j + 1) (ku2 (ku2 l 217 50 (lN (smN (nDy F) j + F (56 + 11 * j)))) 217 51 (lN (smN (nSt F k) j + F (62 + 11 * j + k)))) (some (.long (lN (F (56 + 11 * j))))) none (some (.long (lN (F (62 + 11 * j + k))))) none (by omega) (by simp (disch := first | assumption | omega | decide | exact bI_or _) only [h49, exLt_c1, exLt_c2, exEq_c, exLt_t, exLt_f, exEq_s, exEq_t, exEq_f, exLt_mn, exLt_nm, exEq_mn, exEq_nm, exEq_mm, exEq_xf, exLtL_t, exLtL_f, exEqL_t, exEqL_f, exB_t, exB_f, exSw_t, exSw_f, exSw_0, klz_f, klz_g, kieq_f, kdivL, kdivI, kmodL, kmodI, knIL, lN_i, nI_add, pk_mul, pk_sub, pk_subm, kad1, kad2, lN_add, lN_mul, lN_sub, kkl_i, kkl_l, kkl_r, kkl_0, Option.bind_some, Option.toList_some, Option.toList_none, List.cons_append, List.nil_append, if_true, if_false, eq_self, not_true_eq_false, not_false_eq_true, ku2_eq, ku2_ne, pk_us, pk_un, pk_uLs, pk_uLn, kup_Is, kup_In, kup_Js, kup_Jn, ku2_ku2, kup_I, kup_J, knar1, knar0]) (by simp (disch := first | assumption | omega | decide | exact bI_or _) only [exLt_c1, exLt_c2, exEq_c, exLt_t, exLt_f, exEq_s, exEq_t, exEq_f, exLt_mn, exLt_nm, exEq_mn, exEq_nm, exEq_mm, exEq_xf, exLtL_t, exLtL_f, exEqL_t, exEqL_f, exB_t, exB_f, exSw_t, exSw_f, exSw_0, klz_f, klz_g, kieq_f, kdivL, kdivI, kmodL, kmodI, knIL, lN_i, nI_add, pk_mul, pk_sub, pk_subm, kad1, kad2, lN_add, lN_mul, lN_sub, kkl_i, kkl_l, kkl_r, kkl_0, Option.bind_some, Option.toList_some, Option.toList_none, List.cons_append, List.nil_append, if_true, if_false, eq_self, not_true_eq_false, not_false_eq_true, ku2_eq, ku2_ne, pk_us, pk_un, pk_uLs, pk_uLn, kup_Is, kup_In, kup_Js, kup_Jn, ku2_ku2, kup_I, kup_J, knar1, knar0]; rfl) (by simp (disch := first | assumption | omega | decide | exact bI_or _) only [exLt_c1, exLt_c2, exEq_c, exLt_t, exLt_f, exEq_s, exEq_t, exEq_f, exLt_mn, exLt_nm, exEq_mn, exEq_nm, exEq_mm, exEq_xf, exLtL_t, exLtL_f, exEqL_t, exEqL_f, exB_t, exB_f, exSw_t, exSw_f, exSw_0, klz_f, klz_g, kieq_f, kdivL, kdivI, kmodL, kmodI, knIL, lN_i, nI_add, pk_mul, pk_sub, pk_subm, kad1, kad2, lN_add, lN_mul, lN_sub, kkl_i, kkl_l, kkl_r, kkl_0, Option.bind_some, Option.toList_some, Option.toList_none, List.cons_append, List.nil_append, if_true, if_false, eq_self, not_true_eq_false, not_false_eq_true, ku2_eq, ku2_ne, pk_us, pk_un, pk_uLs, pk_uLn, kup_Is, kup_In, kup_Js, kup_Jn, ku2_ku2, kup_I, kup_J, knar1, knar0]; rfl)
    refine ⟨l1, b7, b8, b9, b10, ?_, Kp_trans (Kp_l (Kp_l Kp_refl (by decide)) (by decide)) q1, q2⟩
    rw [← e, X12_findsLine_30]
    conv => lhs; simp (disch := first | assumption | omega | decide | exact bI_or _) only [h49, h50, h51, r_noteOf hf, e1, e2, X12_findsLine_0, X12_findsLine_1, X12_findsLine_2, X12_findsLine_5, X12_findsLine_7, X12_findsLine_8, X12_findsLine_9, X12_findsLine_12, X12_findsLine_13, X12_findsLine_14, X12_findsLine_17, X12_findsLine_18, X12_findsLine_19, X12_findsLine_22, X12_findsLine_23, X12_findsLine_24, X12_findsLine_25, X12_findsLine_27, X12_findsLine_28, X12_findsLine_32, X12_findsLine_33, X12_findsLine_34, X12_findsLine_37, X12_findsLine_38b, X12_findsLine_41, X12_findsLine_42, X12_findsLine_44, X12_findsLine_45, X12_findsLine_48, X12_findsLine_49, X12_findsLine_51, X12_findsLine_52, X12_findsLine_54, X12_findsLine_56, X12_findsLine_57, X12_findsLine_58, X12_findsLine_61, X12_findsLine_62, X12_findsLine_64, X12_findsLine_65, X12_findsLine_66, X12_findsLine_69, X12_findsLine_71, X12_findsLine_72, X12_findsLine_75, X12_findsLine_76, X12_findsLine_77, X12_findsLine_80, X12_findsLine_82, X12_findsLine_83, X12_findsLine_86, X12_findsLine_87, X12_findsLine_89, X12_findsLine_91, X12_findsLine_92, X12_findsLine_93, X12_findsLine_94, X12_findsLine_96, X12_findsLine_98, X12_findsLine_100, X12_findsLine_101, X12_findsLine_102, X12_findsLine_104, X12_findsLine_107, X12_findsLine_111, X12_findsLine_112, X12_findsLine_115, X12_findsLine_116, X12_findsLine_117, X12_findsLine_118, X12_findsLine_121, X12_findsLine_122, X12_findsLine_125, X12_findsLine_126, X12_findsLine_127, X12_findsLine_130, X12_findsLine_131, X12_findsLine_132, X12_findsLine_135, X12_findsLine_137, X12_findsLine_138, X12_findsLine_139, X12_findsLine_142, X12_findsLine_143, X12_findsLine_146, X12_findsLine_147, X12_findsLine_148, X12_findsLine_151, X12_findsLine_152, X12_findsLine_155, X12_findsLine_156, X12_findsLine_159, X12_findsLine_162, X12_findsLine_164, X12_findsLine_165, X12_findsLine_166, X12_findsLine_169, X12_findsLine_171, X12_findsLine_172, X12_findsLine_175, X12_findsLine_176, X12_findsLine_177, X12_findsLine_180, X12_findsLine_182, X12_findsLine_183, X12_findsLine_186, g13_0, ln_218, sn_218, show (12 : Int32) = nI 12 from rfl, p13_49, show (0 : Int64) = lN 0 from rfl, p13_50, p13_51, show (0 : Int32) = nI 0 from rfl, g13_49, is_217, show (6 : Int32) = nI 6 from rfl, g13_50, g13_51, show (1 : Int32) = nI 1 from rfl, p13_52, p13_53, g13_52, g13_53, exLt_c1, exLt_c2, exEq_c, exLt_t, exLt_f, exEq_s, exEq_t, exEq_f, exLt_mn, exLt_nm, exEq_mn, exEq_nm, exEq_mm, exEq_xf, exLtL_t, exLtL_f, exEqL_t, exEqL_f, exB_t, exB_f, exSw_t, exSw_f, exSw_0, klz_f, klz_g, kieq_f, kdivL, kdivI, kmodL, kmodI, knIL, lN_i, nI_add, pk_mul, pk_sub, pk_subm, kad1, kad2, lN_add, lN_mul, lN_sub, kkl_i, kkl_l, kkl_r, kkl_0, Option.bind_some, Option.toList_some, Option.toList_none, List.cons_append, List.nil_append, if_true, if_false, eq_self, not_true_eq_false, not_false_eq_true, ku2_eq, ku2_ne, pk_us, pk_un, pk_uLs, pk_uLn, kup_Is, kup_In, kup_Js, kup_Jn, ku2_ku2, kup_I, kup_J, knar1, knar0]
    rfl
theorem r_findsLine {F : Nat → Nat} {k : Nat} (hF : rFile I F) (ok : okN F) (h2 : 2 ≤ F 12) (hk : k < 5) : Gd (rn (d + 3) mX12_findsLine [.ref 217, .int (nI k)] (mH h i l I J nw df P)) (Rt h nw df P none fun i' l' I' J' => Kp [] [(217, 49), (217, 50), (217, 51), (217, 52), (217, 53)] [] i i' l l' I I' J J' ∧ l' 217 49 = lN (F 12) ∧ l' 217 50 = lN (nD F) ∧ l' 217 51 = lN (nS F k) ∧ l' 217 52 = zL (lnR F k) ∧ l' 217 53 = lN (lnN F k)) := by
  have hf : ∀ j, j < 676 → I 218 j = nI (F j) := hF
  have h20 := ok.1
  obtain ⟨l1, b7, b8, b9, b10, e, k1, q1, q2⟩ := r_fl1 (d := d) (h := h) (i := i) (J := J) (nw := nw) (df := df) (P := P) (i0 := i) hF ok hk (F 12) 0 (ku2 (ku2 (ku2 l 217 49 (lN (F 12))) 217 50 (lN 0)) 217 51 (lN 0)) none none none none (by omega) (by simp (disch := first | assumption | omega | decide | exact bI_or _) only [exLt_c1, exLt_c2, exEq_c, exLt_t, exLt_f, exEq_s, exEq_t, exEq_f, exLt_mn, exLt_nm, exEq_mn, exEq_nm, exEq_mm, exEq_xf, exLtL_t, exLtL_f, exEqL_t, exEqL_f, exB_t, exB_f, exSw_t, exSw_f, exSw_0, klz_f, klz_g, kieq_f, kdivL, kdivI, kmodL, kmodI, knIL, lN_i, nI_add, pk_mul, pk_sub, pk_subm, kad1, kad2, lN_add, lN_mul, lN_sub, kkl_i, kkl_l, kkl_r, kkl_0, Option.bind_some, Option.toList_some, Option.toList_none, List.cons_append, List.nil_append, if_true, if_false, eq_self, not_true_eq_false, not_false_eq_true, ku2_eq, ku2_ne, pk_us, pk_un, pk_uLs, pk_uLn, kup_Is, kup_In, kup_Js, kup_Jn, ku2_ku2, kup_I, kup_J, knar1, knar0]) (by simp (disch := first | assumption | omega | decide | exact bI_or _) only [exLt_c1, exLt_c2, exEq_c, exLt_t, exLt_f, exEq_s, exEq_t, exEq_f, exLt_mn, exLt_nm, exEq_mn, exEq_nm, exEq_mm, exEq_xf, exLtL_t, exLtL_f, exEqL_t, exEqL_f, exB_t, exB_f, exSw_t, exSw_f, exSw_0, klz_f, klz_g, kieq_f, kdivL, kdivI, kmodL, kmodI, knIL, lN_i, nI_add, pk_mul, pk_sub, pk_subm, kad1, kad2, lN_add, lN_mul, lN_sub, kkl_i, kkl_l, kkl_r, kkl_0, Option.bind_some, Option.toList_some, Option.toList_none, List.cons_append, List.nil_append, if_true, if_false, eq_self, not_true_eq_false, not_false_eq_true, ku2_eq, ku2_ne, pk_us, pk_un, pk_uLs, pk_uLn, kup_Is, kup_In, kup_Js, kup_Jn, ku2_ku2, kup_I, kup_J, knar1, knar0]; rfl) (by simp (disch := first | assumption | omega | decide | exact bI_or _) only [exLt_c1, exLt_c2, exEq_c, exLt_t, exLt_f, exEq_s, exEq_t, exEq_f, exLt_mn, exLt_nm, exEq_mn, exEq_nm, exEq_mm, exEq_xf, exLtL_t, exLtL_f, exEqL_t, exEqL_f, exB_t, exB_f, exSw_t, exSw_f, exSw_0, klz_f, klz_g, kieq_f, kdivL, kdivI, kmodL, kmodI, knIL, lN_i, nI_add, pk_mul, pk_sub, pk_subm, kad1, kad2, lN_add, lN_mul, lN_sub, kkl_i, kkl_l, kkl_r, kkl_0, Option.bind_some, Option.toList_some, Option.toList_none, List.cons_append, List.nil_append, if_true, if_false, eq_self, not_true_eq_false, not_false_eq_true, ku2_eq, ku2_ne, pk_us, pk_un, pk_uLs, pk_uLn, kup_Is, kup_In, kup_Js, kup_Jn, ku2_ku2, kup_I, kup_J, knar1, knar0]; rfl)
  have e : ex (d + 2) mX12_findsLine 30 [some (.ref 217), some (.int (nI k)), some (.long (lN 0)), none, some (.long (lN 0)), none, some (.int (nI 0)), none, none, none, none] [] (mH h i (ku2 (ku2 (ku2 l 217 49 (lN (F 12))) 217 50 (lN 0)) 217 51 (lN 0)) I J nw df P) = _ := e
  have e49 : l1 217 49 = lN (F 12) := by rw [k1.2.1 _ _ (by decide)]; simp (disch := first | assumption | omega | decide | exact bI_or _) only [exLt_c1, exLt_c2, exEq_c, exLt_t, exLt_f, exEq_s, exEq_t, exEq_f, exLt_mn, exLt_nm, exEq_mn, exEq_nm, exEq_mm, exEq_xf, exLtL_t, exLtL_f, exEqL_t, exEqL_f, exB_t, exB_f, exSw_t, exSw_f, exSw_0, klz_f, klz_g, kieq_f, kdivL, kdivI, kmodL, kmodI, knIL, lN_i, nI_add, pk_mul, pk_sub, pk_subm, kad1, kad2, lN_add, lN_mul, lN_sub, kkl_i, kkl_l, kkl_r, kkl_0, Option.bind_some, Option.toList_some, Option.toList_none, List.cons_append, List.nil_append, if_true, if_false, eq_self, not_true_eq_false, not_false_eq_true, ku2_eq, ku2_ne, pk_us, pk_un, pk_uLs, pk_uLn, kup_Is, kup_In, kup_Js, kup_Jn, ku2_ku2, kup_I, kup_J, knar1, knar0]
  have hb := ln_b ok h2 hk
  have hr := run0_pos ok h2
  have hR := lnR_b ok h2 hk
  have hg := lnGc_pos ok h2 k
  have e1 : lN (F 12 * nP F k) - lN (nD F * nS F k) = zL (rise0 F k) := by rw [← zL_N, ← zL_N, zL_sub]; rfl
  have e2 : lN (F 12 * nQ F) - lN (nD F * nD F) = lN (run0 F) := lN_sub hr.2.1
  have hn : (rise0 F k).natAbs ≤ 80000000000 := by unfold rise0; omega
  have e3 := fun hh => r_commonZ (d := d) (h := hh) (v := rise0 F k) (b := run0 F) (by omega) (by omega)
  have e3 : ∀ hh, rn (d + 2) mX12_common [.long (zL (rise0 F k)), .long (lN (run0 F))] hh = some (some (.long (lN (lnGc F k))), hh) := e3
  have e4 : zL (rise0 F k) / lN (lnGc F k) = zL (lnR F k) := by rw [hR.2.2.2]; exact zL_divE hg.1 (by omega) (by rw [← hR.2.2.2]; omega)
  have e5 : run0 F / lnGc F k = lnN F k := rfl
  rw [X12_findsLine_E]
  conv => arg 1; simp (disch := first | assumption | omega | decide | exact bI_or _) only [hf, X12_findsLine_0, X12_findsLine_1, X12_findsLine_2, X12_findsLine_5, X12_findsLine_7, X12_findsLine_8, X12_findsLine_9, X12_findsLine_12, X12_findsLine_13, X12_findsLine_14, X12_findsLine_17, X12_findsLine_18, X12_findsLine_19, X12_findsLine_22, X12_findsLine_23, X12_findsLine_24, X12_findsLine_25, X12_findsLine_27, X12_findsLine_28, X12_findsLine_32, X12_findsLine_33, X12_findsLine_34, X12_findsLine_37, X12_findsLine_38b, X12_findsLine_41, X12_findsLine_42, X12_findsLine_44, X12_findsLine_45, X12_findsLine_48, X12_findsLine_49, X12_findsLine_51, X12_findsLine_52, X12_findsLine_54, X12_findsLine_56, X12_findsLine_57, X12_findsLine_58, X12_findsLine_61, X12_findsLine_62, X12_findsLine_64, X12_findsLine_65, X12_findsLine_66, X12_findsLine_69, X12_findsLine_71, X12_findsLine_72, X12_findsLine_75, X12_findsLine_76, X12_findsLine_77, X12_findsLine_80, X12_findsLine_82, X12_findsLine_83, X12_findsLine_86, X12_findsLine_87, X12_findsLine_89, X12_findsLine_91, X12_findsLine_92, X12_findsLine_93, X12_findsLine_94, X12_findsLine_96, X12_findsLine_98, X12_findsLine_100, X12_findsLine_101, X12_findsLine_102, X12_findsLine_104, X12_findsLine_107, X12_findsLine_110, X12_findsLine_111, X12_findsLine_112, X12_findsLine_115, X12_findsLine_116, X12_findsLine_117, X12_findsLine_118, X12_findsLine_121, X12_findsLine_122, X12_findsLine_125, X12_findsLine_126, X12_findsLine_127, X12_findsLine_130, X12_findsLine_131, X12_findsLine_132, X12_findsLine_135, X12_findsLine_137, X12_findsLine_138, X12_findsLine_139, X12_findsLine_142, X12_findsLine_143, X12_findsLine_146, X12_findsLine_147, X12_findsLine_148, X12_findsLine_151, X12_findsLine_152, X12_findsLine_155, X12_findsLine_156, X12_findsLine_159, X12_findsLine_162, X12_findsLine_164, X12_findsLine_165, X12_findsLine_166, X12_findsLine_169, X12_findsLine_171, X12_findsLine_172, X12_findsLine_175, X12_findsLine_176, X12_findsLine_177, X12_findsLine_180, X12_findsLine_182, X12_findsLine_183, X12_findsLine_186, g13_0, ln_218, sn_218, show (12 : Int32) = nI 12 from rfl, p13_49, show (0 : Int64) = lN 0 from rfl, p13_50, p13_51, show (0 : Int32) = nI 0 from rfl, g13_49, is_217, show (6 : Int32) = nI 6 from rfl, g13_50, g13_51, show (1 : Int32) = nI 1 from rfl, p13_52, p13_53, g13_52, g13_53, exLt_c1, exLt_c2, exEq_c, exLt_t, exLt_f, exEq_s, exEq_t, exEq_f, exLt_mn, exLt_nm, exEq_mn, exEq_nm, exEq_mm, exEq_xf, exLtL_t, exLtL_f, exEqL_t, exEqL_f, exB_t, exB_f, exSw_t, exSw_f, exSw_0, klz_f, klz_g, kieq_f, kdivL, kdivI, kmodL, kmodI, knIL, lN_i, nI_add, pk_mul, pk_sub, pk_subm, kad1, kad2, lN_add, lN_mul, lN_sub, kkl_i, kkl_l, kkl_r, kkl_0, Option.bind_some, Option.toList_some, Option.toList_none, List.cons_append, List.nil_append, if_true, if_false, eq_self, not_true_eq_false, not_false_eq_true, ku2_eq, ku2_ne, pk_us, pk_un, pk_uLs, pk_uLn, kup_Is, kup_In, kup_Js, kup_Jn, ku2_ku2, kup_I, kup_J, knar1, knar0]
  rw [e]
  obtain ⟨A, hA⟩ : ∃ A, F 12 * nP F k = A := ⟨_, rfl⟩
  obtain ⟨B, hB⟩ : ∃ B, nD F * nS F k = B := ⟨_, rfl⟩
  obtain ⟨C, hC⟩ : ∃ C, F 12 * nQ F = C := ⟨_, rfl⟩
  obtain ⟨E, hE⟩ : ∃ E, nD F * nD F = E := ⟨_, rfl⟩
  rw [hA, hB] at e1
  rw [hC, hE] at e2
  clear hb
  have hr1 := hr.1
  have hr3 := hr.2.2
  clear hr
  conv => arg 1; simp (disch := first | assumption | omega | decide | exact bI_or _) only [e49, q1, q2, hA, hB, hC, hE, e1, e2, e3, e4, e5, X12_findsLine_0, X12_findsLine_1, X12_findsLine_2, X12_findsLine_5, X12_findsLine_7, X12_findsLine_8, X12_findsLine_9, X12_findsLine_12, X12_findsLine_13, X12_findsLine_14, X12_findsLine_17, X12_findsLine_18, X12_findsLine_19, X12_findsLine_22, X12_findsLine_23, X12_findsLine_24, X12_findsLine_25, X12_findsLine_27, X12_findsLine_28, X12_findsLine_32, X12_findsLine_33, X12_findsLine_34, X12_findsLine_37, X12_findsLine_38b, X12_findsLine_41, X12_findsLine_42, X12_findsLine_44, X12_findsLine_45, X12_findsLine_48, X12_findsLine_49, X12_findsLine_51, X12_findsLine_52, X12_findsLine_54, X12_findsLine_56, X12_findsLine_57, X12_findsLine_58, X12_findsLine_61, X12_findsLine_62, X12_findsLine_64, X12_findsLine_65, X12_findsLine_66, X12_findsLine_69, X12_findsLine_71, X12_findsLine_72, X12_findsLine_75, X12_findsLine_76, X12_findsLine_77, X12_findsLine_80, X12_findsLine_82, X12_findsLine_83, X12_findsLine_86, X12_findsLine_87, X12_findsLine_89, X12_findsLine_91, X12_findsLine_92, X12_findsLine_93, X12_findsLine_94, X12_findsLine_96, X12_findsLine_98, X12_findsLine_100, X12_findsLine_101, X12_findsLine_102, X12_findsLine_104, X12_findsLine_107, X12_findsLine_110, X12_findsLine_111, X12_findsLine_112, X12_findsLine_115, X12_findsLine_116, X12_findsLine_117, X12_findsLine_118, X12_findsLine_121, X12_findsLine_122, X12_findsLine_125, X12_findsLine_126, X12_findsLine_127, X12_findsLine_130, X12_findsLine_131, X12_findsLine_132, X12_findsLine_135, X12_findsLine_137, X12_findsLine_138, X12_findsLine_139, X12_findsLine_142, X12_findsLine_143, X12_findsLine_146, X12_findsLine_147, X12_findsLine_148, X12_findsLine_151, X12_findsLine_152, X12_findsLine_155, X12_findsLine_156, X12_findsLine_159, X12_findsLine_162, X12_findsLine_164, X12_findsLine_165, X12_findsLine_166, X12_findsLine_169, X12_findsLine_171, X12_findsLine_172, X12_findsLine_175, X12_findsLine_176, X12_findsLine_177, X12_findsLine_180, X12_findsLine_182, X12_findsLine_183, X12_findsLine_186, g13_0, ln_218, sn_218, show (12 : Int32) = nI 12 from rfl, p13_49, show (0 : Int64) = lN 0 from rfl, p13_50, p13_51, show (0 : Int32) = nI 0 from rfl, g13_49, is_217, show (6 : Int32) = nI 6 from rfl, g13_50, g13_51, show (1 : Int32) = nI 1 from rfl, p13_52, p13_53, g13_52, g13_53, exLt_c1, exLt_c2, exEq_c, exLt_t, exLt_f, exEq_s, exEq_t, exEq_f, exLt_mn, exLt_nm, exEq_mn, exEq_nm, exEq_mm, exEq_xf, exLtL_t, exLtL_f, exEqL_t, exEqL_f, exB_t, exB_f, exSw_t, exSw_f, exSw_0, klz_f, klz_g, kieq_f, kdivL, kdivI, kmodL, kmodI, knIL, lN_i, nI_add, pk_mul, pk_sub, pk_subm, kad1, kad2, lN_add, lN_mul, lN_sub, kkl_i, kkl_l, kkl_r, kkl_0, Option.bind_some, Option.toList_some, Option.toList_none, List.cons_append, List.nil_append, if_true, if_false, eq_self, not_true_eq_false, not_false_eq_true, ku2_eq, ku2_ne, pk_us, pk_un, pk_uLs, pk_uLn, kup_Is, kup_In, kup_Js, kup_Jn, ku2_ku2, kup_I, kup_J, knar1, knar0]
  refine Gd_rt ⟨?_, ?_, ?_, ?_, ?_, ?_⟩
  · refine Kp_trans (Kp_trans (Kp_l (Kp_l (Kp_l Kp_refl (by decide)) (by decide)) (by decide)) (Kp_mono k1 (by decide) (by decide) (by decide))) ?_
    (repeat (first | exact Kp_refl | refine Kp_i ?_ (by decide) | refine Kp_l ?_ (by decide) | refine Kp_I ?_ (by decide) | refine Kp_J ?_ (by decide) | exact Kp_refl))
  · simp (disch := first | assumption | omega | decide | exact bI_or _) only [e49, exLt_c1, exLt_c2, exEq_c, exLt_t, exLt_f, exEq_s, exEq_t, exEq_f, exLt_mn, exLt_nm, exEq_mn, exEq_nm, exEq_mm, exEq_xf, exLtL_t, exLtL_f, exEqL_t, exEqL_f, exB_t, exB_f, exSw_t, exSw_f, exSw_0, klz_f, klz_g, kieq_f, kdivL, kdivI, kmodL, kmodI, knIL, lN_i, nI_add, pk_mul, pk_sub, pk_subm, kad1, kad2, lN_add, lN_mul, lN_sub, kkl_i, kkl_l, kkl_r, kkl_0, Option.bind_some, Option.toList_some, Option.toList_none, List.cons_append, List.nil_append, if_true, if_false, eq_self, not_true_eq_false, not_false_eq_true, ku2_eq, ku2_ne, pk_us, pk_un, pk_uLs, pk_uLn, kup_Is, kup_In, kup_Js, kup_Jn, ku2_ku2, kup_I, kup_J, knar1, knar0]
  · simp (disch := first | assumption | omega | decide | exact bI_or _) only [q1, exLt_c1, exLt_c2, exEq_c, exLt_t, exLt_f, exEq_s, exEq_t, exEq_f, exLt_mn, exLt_nm, exEq_mn, exEq_nm, exEq_mm, exEq_xf, exLtL_t, exLtL_f, exEqL_t, exEqL_f, exB_t, exB_f, exSw_t, exSw_f, exSw_0, klz_f, klz_g, kieq_f, kdivL, kdivI, kmodL, kmodI, knIL, lN_i, nI_add, pk_mul, pk_sub, pk_subm, kad1, kad2, lN_add, lN_mul, lN_sub, kkl_i, kkl_l, kkl_r, kkl_0, Option.bind_some, Option.toList_some, Option.toList_none, List.cons_append, List.nil_append, if_true, if_false, eq_self, not_true_eq_false, not_false_eq_true, ku2_eq, ku2_ne, pk_us, pk_un, pk_uLs, pk_uLn, kup_Is, kup_In, kup_Js, kup_Jn, ku2_ku2, kup_I, kup_J, knar1, knar0]
  · simp (disch := first | assumption | omega | decide | exact bI_or _) only [q2, exLt_c1, exLt_c2, exEq_c, exLt_t, exLt_f, exEq_s, exEq_t, exEq_f, exLt_mn, exLt_nm, exEq_mn, exEq_nm, exEq_mm, exEq_xf, exLtL_t, exLtL_f, exEqL_t, exEqL_f, exB_t, exB_f, exSw_t, exSw_f, exSw_0, klz_f, klz_g, kieq_f, kdivL, kdivI, kmodL, kmodI, knIL, lN_i, nI_add, pk_mul, pk_sub, pk_subm, kad1, kad2, lN_add, lN_mul, lN_sub, kkl_i, kkl_l, kkl_r, kkl_0, Option.bind_some, Option.toList_some, Option.toList_none, List.cons_append, List.nil_append, if_true, if_false, eq_self, not_true_eq_false, not_false_eq_true, ku2_eq, ku2_ne, pk_us, pk_un, pk_uLs, pk_uLn, kup_Is, kup_In, kup_Js, kup_Jn, ku2_ku2, kup_I, kup_J, knar1, knar0]
  · simp (disch := first | assumption | omega | decide | exact bI_or _) only [exLt_c1, exLt_c2, exEq_c, exLt_t, exLt_f, exEq_s, exEq_t, exEq_f, exLt_mn, exLt_nm, exEq_mn, exEq_nm, exEq_mm, exEq_xf, exLtL_t, exLtL_f, exEqL_t, exEqL_f, exB_t, exB_f, exSw_t, exSw_f, exSw_0, klz_f, klz_g, kieq_f, kdivL, kdivI, kmodL, kmodI, knIL, lN_i, nI_add, pk_mul, pk_sub, pk_subm, kad1, kad2, lN_add, lN_mul, lN_sub, kkl_i, kkl_l, kkl_r, kkl_0, Option.bind_some, Option.toList_some, Option.toList_none, List.cons_append, List.nil_append, if_true, if_false, eq_self, not_true_eq_false, not_false_eq_true, ku2_eq, ku2_ne, pk_us, pk_un, pk_uLs, pk_uLn, kup_Is, kup_In, kup_Js, kup_Jn, ku2_ku2, kup_I, kup_J, knar1, knar0]
  · simp (disch := first | assumption | omega | decide | exact bI_or _) only [exLt_c1, exLt_c2, exEq_c, exLt_t, exLt_f, exEq_s, exEq_t, exEq_f, exLt_mn, exLt_nm, exEq_mn, exEq_nm, exEq_mm, exEq_xf, exLtL_t, exLtL_f, exEqL_t, exEqL_f, exB_t, exB_f, exSw_t, exSw_f, exSw_0, klz_f, klz_g, kieq_f, kdivL, kdivI, kmodL, kmodI, knIL, lN_i, nI_add, pk_mul, pk_sub, pk_subm, kad1, kad2, lN_add, lN_mul, lN_sub, kkl_i, kkl_l, kkl_r, kkl_0, Option.bind_some, Option.toList_some, Option.toList_none, List.cons_append, List.nil_append, if_true, if_false, eq_self, not_true_eq_false, not_false_eq_true, ku2_eq, ku2_ne, pk_us, pk_un, pk_uLs, pk_uLn, kup_Is, kup_In, kup_Js, kup_Jn, ku2_ku2, kup_I, kup_J, knar1, knar0]
end RY1
