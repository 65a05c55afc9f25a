/-! OWN: chains: the mathematics, the reference -/
def dst (a b : Nat) : Nat := (a - b) + (b - a)
/-- how far knock j is from so many periods behind k -/
def cnO (A : Nat → Nat) (u w k g j : Nat) : Nat := dst ((A j - A k) * u) (g * (1000000 * w))
def nxG (A : Nat → Nat) (u w k g : Nat) : Nat → Nat → Nat × Nat → Nat × Nat
  | 0, _, s => s
  | c + 1, j, s => nxG A u w k g c (j + 1) (if s.1 ≠ 0 ∧ s.2 ≤ cnO A u w k g j then s else (j + 1, cnO A u w k g j))
/-- the next knock of a chain by so many periods (0: none, else knock + 1) -/
def nxO (A : Nat → Nat) (n u w sl k g : Nat) : Nat := if (nxG A u w k g (n - (k + 1)) (k + 1) (0, 0)).1 = 0 ∨ 1000 * w * min 490 (g * sl) < (nxG A u w k g (n - (k + 1)) (k + 1) (0, 0)).2 then 0 else (nxG A u w k g (n - (k + 1)) (k + 1) (0, 0)).1
def lnkG (A : Nat → Nat) (n u w sl k : Nat) : Nat → Nat → Nat × Nat
  | 0, _ => (0, 0)
  | c + 1, g => if nxO A n u w sl k g = 0 then lnkG A n u w sl k c (g + 1) else (nxO A n u w sl k g, g)
def lnk (A : Nat → Nat) (n u w sl ms k : Nat) : Nat × Nat := lnkG A n u w sl k (ms + 1) 1
/-- a chain: how many, the last one, the periods -/
def chR (A : Nat → Nat) (n u w sl ms : Nat) : Nat → Nat → Nat × Nat × Nat
  | 0, k => (1, k, 0)
  | f + 1, k => if (lnk A n u w sl ms k).1 = 0 then (1, k, 0) else ((chR A n u w sl ms f ((lnk A n u w sl ms k).1 - 1)).1 + 1, (chR A n u w sl ms f ((lnk A n u w sl ms k).1 - 1)).2.1, (chR A n u w sl ms f ((lnk A n u w sl ms k).1 - 1)).2.2 + (lnk A n u w sl ms k).2)
theorem nxG_b {A : Nat → Nat} {u w k g : Nat} : ∀ (c j : Nat) (s : Nat × Nat), (s.1 = 0 ∨ (k + 1 < s.1 ∧ s.1 ≤ j)) → k < j → ((nxG A u w k g c j s).1 = 0 ∨ (k + 1 < (nxG A u w k g c j s).1 ∧ (nxG A u w k g c j s).1 ≤ j + c))
  | 0, j, s, h, hk => h
  | c + 1, j, s, h, hk => by
    rw [nxG, show j + (c + 1) = j + 1 + c by omega]
    refine nxG_b c (j + 1) _ ?_ (by omega)
    split
    · omega
    · right
      exact ⟨by show k + 1 < j + 1; omega, Nat.le_refl _⟩
theorem nxO_b {A : Nat → Nat} {n u w sl k g : Nat} (hk : k < n) : nxO A n u w sl k g = 0 ∨ (k + 1 < nxO A n u w sl k g ∧ nxO A n u w sl k g ≤ n) := by
  have := nxG_b (A := A) (u := u) (w := w) (k := k) (g := g) (n - (k + 1)) (k + 1) (0, 0) (Or.inl rfl) (by omega)
  rw [show k + 1 + (n - (k + 1)) = n by omega] at this
  unfold nxO
  split
  · exact Or.inl rfl
  · exact this
theorem lnkG_b {A : Nat → Nat} {n u w sl k : Nat} (hk : k < n) : ∀ (c g : Nat), (lnkG A n u w sl k c g).1 = 0 ∨ (k + 1 < (lnkG A n u w sl k c g).1 ∧ (lnkG A n u w sl k c g).1 ≤ n ∧ (lnkG A n u w sl k c g).2 < g + c)
  | 0, g => Or.inl rfl
  | c + 1, g => by
    rw [lnkG]
    split
    · have := lnkG_b (A := A) (u := u) (w := w) (sl := sl) hk c (g + 1)
      rw [show g + (c + 1) = g + 1 + c by omega]
      exact this
    · rename_i h0
      have := nxO_b (A := A) (u := u) (w := w) (sl := sl) (g := g) hk
      right
      refine ⟨by show k + 1 < nxO A n u w sl k g; omega, by show nxO A n u w sl k g ≤ n; omega, ?_⟩
      show g < g + (c + 1)
      omega
theorem lnk_b {A : Nat → Nat} {n u w sl ms k : Nat} (hk : k < n) : (lnk A n u w sl ms k).1 = 0 ∨ (k + 1 < (lnk A n u w sl ms k).1 ∧ (lnk A n u w sl ms k).1 ≤ n ∧ (lnk A n u w sl ms k).2 ≤ ms + 1) := by
  have := lnkG_b (A := A) (u := u) (w := w) (sl := sl) hk (ms + 1) 1
  unfold lnk
  omega
theorem chR_b {A : Nat → Nat} {n u w sl ms : Nat} : ∀ (f k : Nat), k < n → 1 ≤ (chR A n u w sl ms f k).1 ∧ (chR A n u w sl ms f k).1 ≤ n - k ∧ (chR A n u w sl ms f k).2.1 < n ∧ (chR A n u w sl ms f k).2.2 ≤ (n - k) * (ms + 1)
  | 0, k, hk => ⟨Nat.le_refl _, by show 1 ≤ n - k; omega, hk, Nat.zero_le _⟩
  | f + 1, k, hk => by
    rw [chR]
    rcases lnk_b (A := A) (u := u) (w := w) (sl := sl) (ms := ms) hk with h0 | ⟨h1, h2, h3⟩
    · rw [if_pos h0]
      exact ⟨Nat.le_refl _, by show 1 ≤ n - k; omega, hk, Nat.zero_le _⟩
    · rw [if_neg (by omega)]
      have ih := chR_b (A := A) (n := n) (u := u) (w := w) (sl := sl) (ms := ms) f ((lnk A n u w sl ms k).1 - 1) (by omega)
      have hm : (n - ((lnk A n u w sl ms k).1 - 1)) * (ms + 1) + (ms + 1) ≤ (n - k) * (ms + 1) := by
        have : (n - ((lnk A n u w sl ms k).1 - 1) + 1) * (ms + 1) ≤ (n - k) * (ms + 1) := Nat.mul_le_mul_right _ (by omega)
        rw [Nat.add_mul, Nat.one_mul] at this
        exact this
      refine ⟨by show 1 ≤ _ + 1; omega, by show _ + 1 ≤ n - k; omega, ih.2.2.1, ?_⟩
      show _ + (lnk A n u w sl ms k).2 ≤ _
      omega
/-- more rounds than knocks change nothing -/
theorem chR_f {A : Nat → Nat} {n u w sl ms : Nat} : ∀ (f e k : Nat), k < n → n - k ≤ f → n - k ≤ e → chR A n u w sl ms f k = chR A n u w sl ms e k
  | 0, e, k, hk, h1, h2 => by omega
  | f + 1, 0, k, hk, h1, h2 => by omega
  | f + 1, e + 1, k, hk, h1, h2 => by
    rw [chR, chR]
    rcases lnk_b (A := A) (u := u) (w := w) (sl := sl) (ms := ms) hk with h0 | ⟨h3, h4, h5⟩
    · rw [if_pos h0, if_pos h0]
    · rw [if_neg (by omega), if_neg (by omega), chR_f f e ((lnk A n u w sl ms k).1 - 1) (by omega) (by omega) (by omega)]
/-- the chain of a kind from a knock -/
def chK (F : Nat → Nat) (L : List (Nat × Nat)) (kind k : Nat) : Nat × Nat × Nat := chR (AL F L) L.length (rUp F kind) (rLo F kind) (F 0) (F 2) L.length k
def toldC (r : Nat × Nat × Nat) (z : Nat) : Nat := if z = 0 then r.1 else if z = 1 then r.2.1 else r.2.2
def sp_chain (F : Nat → Nat) (x y z : Int32) : Int32 := if inR x 5 ∧ inR y (seenL F).length ∧ inR z 3 then nI (toldC (chK F (seenL F) (tN x) (tN y)) (tN z)) else mI 1
/-- the first of the longest: (knock, length) -/
def lgG (f : Nat → Nat) : Nat → Nat → Nat × Nat → Nat × Nat
  | 0, _, s => s
  | c + 1, j, s => lgG f c (j + 1) (if s.2 < f j then (j, f j) else s)
def lgK (F : Nat → Nat) (L : List (Nat × Nat)) (kind : Nat) : Nat := (lgG (fun k => (chK F L kind k).1) L.length 0 (0, 0)).1
def sp_longest (F : Nat → Nat) (x z : Int32) : Int32 := if inR x 5 ∧ inR z 4 then (if (seenL F).length = 0 then mI 2 else if tN z = 3 then nI (lgK F (seenL F) (tN x)) else nI (toldC (chK F (seenL F) (tN x) (lgK F (seenL F) (tN x))) (tN z))) else mI 1
theorem lgG_b (f : Nat → Nat) {n : Nat} : ∀ (c j : Nat) (s : Nat × Nat), j + c = n → s.1 < n → (lgG f c j s).1 < n
  | 0, j, s, hj, hs => hs
  | c + 1, j, s, hj, hs => by
    rw [lgG]
    refine lgG_b f c (j + 1) _ (by omega) ?_
    split
    · show j < n; omega
    · exact hs
section RJ
variable {d : Nat} {h : kH} {i : tI} {l : tL} {I : tI} {J : tL} {nw df : Nat} {P : Nat → Nat}
theorem r_minN {a b : Nat} (ha : a < 2147483648) (hb : b < 2147483648) : rn (d + 1) mX12_min [.int (nI a), .int (nI b)] h = some (some (.int (nI (min a b))), h) := by
  rw [r_min]
  by_cases c : a < b
  · rw [if_pos (nI_lt c hb), Nat.min_eq_left (by omega)]
  · rw [if_neg (nI_nlt (by omega) ha), Nat.min_eq_right (by omega)]
theorem r_maxN {a b : Nat} (ha : a < 2147483648) (hb : b < 2147483648) : rn (d + 1) mX12_max [.int (nI a), .int (nI b)] h = some (some (.int (nI (max a b))), h) := by
  rw [r_max]
  by_cases c : b < a
  · rw [if_pos (nI_lt c ha), Nat.max_eq_left (by omega)]
  · rw [if_neg (nI_nlt (by omega) hb), Nat.max_eq_right (by omega)]
theorem r_sizeD {a b : Nat} (ha : a < 4611686018427387904) (hb : b < 4611686018427387904) : rn (d + 1) mX12_size [.long (lN a - lN b)] h = some (some (.long (lN (dst a b))), h) := by
  rw [r_size, ← zL_N, ← zL_N, zL_sub]
  have e0 : (0 : Int64) = zL 0 := rfl
  rw [e0]
  by_cases c : a < b
  · rw [if_pos ((zL_lt ⟨by omega, by omega⟩ ⟨by omega, by omega⟩).mpr (by omega)), zL_neg, zL_nat (by omega), show (-((a : Int) - b)).toNat = dst a b by unfold dst; omega]
  · rw [if_neg (fun z => by have := (zL_lt ⟨by omega, by omega⟩ ⟨by omega, by omega⟩).mp z; omega), zL_nat (by omega), show ((a : Int) - b).toNat = dst a b by unfold dst; omega]
theorem r_nx1 {A : Nat → Nat} {n u w k g : Nat} (hn : n ≤ 200) (hm : i 217 22 = nI n) (hJ : ∀ j, j < n → J 228 j = lN (A j)) (hu : l 217 13 = lN u) (hA : okA A n) (hr : okR u w) (hk : k < n) (hg : g ≤ 6) : ∀ (c j : Nat) (s : Nat × Nat) (a9 a10 : Option Value), j + c = n → k < j → (s.1 = 0 ∨ (k + 1 < s.1 ∧ s.1 ≤ j)) → s.2 < 4611686018427387904 → ∃ b9 b10 : Option Value, ex (d + 1) mX12_nextOf 20 [some (.ref 217), some (.int (nI k)), some (.int (nI g)), some (.long (lN (1000000 * w))), none, some (.int (oN s.1)), some (.long (lN s.2)), none, some (.int (nI j)), a9, a10] [] (mH h i l I J nw df P) = ex (d + 1) mX12_nextOf 89 [some (.ref 217), some (.int (nI k)), some (.int (nI g)), some (.long (lN (1000000 * w))), none, some (.int (oN (nxG A u w k g c j s).1)), some (.long (lN (nxG A u w k g c j s).2)), none, some (.int (nI n)), b9, b10] [] (mH h i l I J nw df P) ∧ (nxG A u w k g c j s).2 < 4611686018427387904
  | 0, j, s, a9, a10, hj, hkj, hs, hs2 => by
    have hj : j = n := hj
    subst hj
    refine ⟨a9, a10, ?_, hs2⟩
    rw [X12_nextOf_20, nxG]
    conv => lhs; simp (disch := first | assumption | omega | decide | exact bI_or _) only [hm, X12_nextOf_0, X12_nextOf_3, X12_nextOf_4, X12_nextOf_7, X12_nextOf_8, X12_nextOf_9, X12_nextOf_10, X12_nextOf_12, X12_nextOf_13, X12_nextOf_15, X12_nextOf_16, X12_nextOf_17, X12_nextOf_18, X12_nextOf_22, X12_nextOf_23, X12_nextOf_26b, X12_nextOf_29, X12_nextOf_30, X12_nextOf_33, X12_nextOf_35, X12_nextOf_36, X12_nextOf_37, X12_nextOf_40, X12_nextOf_41, X12_nextOf_42, X12_nextOf_43, X12_nextOf_44, X12_nextOf_47, X12_nextOf_48, X12_nextOf_49, X12_nextOf_50, X12_nextOf_51, X12_nextOf_52, X12_nextOf_53, X12_nextOf_56, X12_nextOf_58, X12_nextOf_60, X12_nextOf_61b, X12_nextOf_64, X12_nextOf_66, X12_nextOf_68, X12_nextOf_69b, X12_nextOf_72, X12_nextOf_75, X12_nextOf_77, X12_nextOf_79, X12_nextOf_81, X12_nextOf_83, X12_nextOf_86, X12_nextOf_91, X12_nextOf_92b, X12_nextOf_95, X12_nextOf_97, X12_nextOf_100, X12_nextOf_101, X12_nextOf_104, X12_nextOf_105, X12_nextOf_108, X12_nextOf_109, X12_nextOf_110, X12_nextOf_113, X12_nextOf_114, X12_nextOf_115, X12_nextOf_116, X12_nextOf_119, X12_nextOf_120, X12_nextOf_121, X12_nextOf_122b, X12_nextOf_125, X12_nextOf_126, X12_nextOf_129, X12_nextOf_131, show (1000000 : Int64) = lN 1000000 from rfl, g13_14, ↓(show (-1 : Int32) = mI 1 from rfl), show (0 : Int64) = lN 0 from rfl, show (1 : Int32) = nI 1 from rfl, g13_22, g13_21, ln_228, sn_228, g13_13, show (0 : Int32) = nI 0 from rfl, show (1000 : Int64) = lN 1000 from rfl, show (490 : Int32) = nI 490 from rfl, g13_0, ln_218, sn_218, exLt_c1, exLt_c2, exEq_c, exLt_t, exLt_f, exEq_s, exEq_t, exEq_f, exLt_mn, exLt_nm, exEq_mn, exEq_nm, exEq_mm, exEq_xf, exLtL_t, exLtL_f, exEqL_t, exEqL_f, exB_t, exB_f, exSw_t, exSw_f, exSw_0, klz_f, klz_g, kieq_f, kdivL, kdivI, kmodL, kmodI, knIL, lN_i, nI_add, pk_mul, pk_sub, pk_subm, kad1, kad2, lN_add, lN_mul, lN_sub, kkl_i, kkl_l, kkl_r, kkl_0, Option.bind_some, Option.toList_some, Option.toList_none, List.cons_append, List.nil_append, if_true, if_false, eq_self, not_true_eq_false, not_false_eq_true, ku2_eq, ku2_ne, pk_us, pk_un, pk_uLs, pk_uLn, kup_Is, kup_In, kup_Js, kup_Jn, ku2_ku2, kup_I, kup_J, knar1, knar0]
  | c + 1, j, s, a9, a10, hj, hkj, hs, hs2 => by
    have hjn : j < n := by omega
    have hAk := hA.1 k j (by omega) hjn
    have hJj := hJ j hjn
    have hJk := hJ k hk
    have hxb : (A j - A k) * u ≤ 5100500000000 * w := cX_b (k := k) hA hr hjn
    obtain ⟨r1, r2, r3, r4⟩ := hr
    have hgb : g * (1000000 * w) ≤ 6 * (1000000 * w) := Nat.mul_le_mul_right _ hg
    have hob : cnO A u w k g j < 4611686018427387904 := by unfold cnO dst; omega
    have ho : dst ((A j - A k) * u) (g * (1000000 * w)) = cnO A u w k g j := rfl
    have hsz : rn (d + 1) mX12_size [.long (lN ((A j - A k) * u) - lN (g * (1000000 * w)))] (mH h i l I J nw df P) = some (some (.long (lN (cnO A u w k g j))), (mH h i l I J nw df P)) := r_sizeD (by omega) (by omega)
    obtain ⟨x, hx⟩ : ∃ x, (A j - A k) * u = x := ⟨_, rfl⟩
    obtain ⟨y, hy⟩ : ∃ y, g * (1000000 * w) = y := ⟨_, rfl⟩
    have hsz1 : rn (d + 1) mX12_size [.long (lN (x - y))] (mH h i l I J nw df P) = some (some (.long (lN (cnO A u w k g j))), (mH h i l I J nw df P)) ∨ ¬ y ≤ x := by
      by_cases c : y ≤ x
      · left
        rw [← lN_sub c, ← hx, ← hy]
        exact hsz
      · exact Or.inr c
    rw [X12_nextOf_20, nxG]
    have IH := fun s' b9 b10 h1 h2 => r_nx1 hn hm hJ hu hA ⟨r1, r2, r3, r4⟩ hk hg c (j + 1) s' b9 b10 (by omega) (by omega) h1 h2
    rw [hx, hy] at hsz
    clear hxb hgb
    by_cases c0 : s.1 = 0
    · obtain ⟨b9, b10, e, q⟩ := IH (j + 1, cnO A u w k g j) (some (.long (lN (cnO A u w k g j)))) none (Or.inr ⟨by show k + 1 < j + 1; omega, Nat.le_refl _⟩) hob
      rw [if_neg (fun z => z.1 c0)]
      refine ⟨b9, b10, ?_, q⟩
      rw [← e]
      conv => lhs; simp (disch := first | assumption | omega | decide | exact bI_or _) only [hm, hu, hJj, hJk, hx, hy, hsz, oN_0 c0, X12_nextOf_0, X12_nextOf_3, X12_nextOf_4, X12_nextOf_7, X12_nextOf_8, X12_nextOf_9, X12_nextOf_10, X12_nextOf_12, X12_nextOf_13, X12_nextOf_15, X12_nextOf_16, X12_nextOf_17, X12_nextOf_18, X12_nextOf_22, X12_nextOf_23, X12_nextOf_26b, X12_nextOf_29, X12_nextOf_30, X12_nextOf_33, X12_nextOf_35, X12_nextOf_36, X12_nextOf_37, X12_nextOf_40, X12_nextOf_41, X12_nextOf_42, X12_nextOf_43, X12_nextOf_44, X12_nextOf_47, X12_nextOf_48, X12_nextOf_49, X12_nextOf_50, X12_nextOf_51, X12_nextOf_52, X12_nextOf_53, X12_nextOf_56, X12_nextOf_58, X12_nextOf_60, X12_nextOf_61b, X12_nextOf_64, X12_nextOf_66, X12_nextOf_68, X12_nextOf_69b, X12_nextOf_72, X12_nextOf_75, X12_nextOf_77, X12_nextOf_79, X12_nextOf_81, X12_nextOf_83, X12_nextOf_86, X12_nextOf_91, X12_nextOf_92b, X12_nextOf_95, X12_nextOf_97, X12_nextOf_100, X12_nextOf_101, X12_nextOf_104, X12_nextOf_105, X12_nextOf_108, X12_nextOf_109, X12_nextOf_110, X12_nextOf_113, X12_nextOf_114, X12_nextOf_115, X12_nextOf_116, X12_nextOf_119, X12_nextOf_120, X12_nextOf_121, X12_nextOf_122b, X12_nextOf_125, X12_nextOf_126, X12_nextOf_129, X12_nextOf_131, show (1000000 : Int64) = lN 1000000 from rfl, g13_14, ↓(show (-1 : Int32) = mI 1 from rfl), show (0 : Int64) = lN 0 from rfl, show (1 : Int32) = nI 1 from rfl, g13_22, g13_21, ln_228, sn_228, g13_13, show (0 : Int32) = nI 0 from rfl, show (1000 : Int64) = lN 1000 from rfl, show (490 : Int32) = nI 490 from rfl, g13_0, ln_218, sn_218, exLt_c1, exLt_c2, exEq_c, exLt_t, exLt_f, exEq_s, exEq_t, exEq_f, exLt_mn, exLt_nm, exEq_mn, exEq_nm, exEq_mm, exEq_xf, exLtL_t, exLtL_f, exEqL_t, exEqL_f, exB_t, exB_f, exSw_t, exSw_f, exSw_0, klz_f, klz_g, kieq_f, kdivL, kdivI, kmodL, kmodI, knIL, lN_i, nI_add, pk_mul, pk_sub, pk_subm, kad1, kad2, lN_add, lN_mul, lN_sub, kkl_i, kkl_l, kkl_r, kkl_0, Option.bind_some, Option.toList_some, Option.toList_none, List.cons_append, List.nil_append, if_true, if_false, eq_self, not_true_eq_false, not_false_eq_true, ku2_eq, ku2_ne, pk_us, pk_un, pk_uLs, pk_uLn, kup_Is, kup_In, kup_Js, kup_Jn, ku2_ku2, kup_I, kup_J, knar1, knar0]
      rfl
    · by_cases c1 : s.2 ≤ cnO A u w k g j
      · obtain ⟨b9, b10, e, q⟩ := IH s (some (.long (lN (cnO A u w k g j)))) none (by omega) hs2
        rw [if_pos ⟨c0, c1⟩]
        refine ⟨b9, b10, ?_, q⟩
        rw [← e]
        have e5 : oN s.1 = nI (s.1 - 1) := oN_1 c0
        rw [e5]
        conv => lhs; simp (disch := first | assumption | omega | decide | exact bI_or _) only [hm, hu, hJj, hJk, hx, hy, hsz, X12_nextOf_0, X12_nextOf_3, X12_nextOf_4, X12_nextOf_7, X12_nextOf_8, X12_nextOf_9, X12_nextOf_10, X12_nextOf_12, X12_nextOf_13, X12_nextOf_15, X12_nextOf_16, X12_nextOf_17, X12_nextOf_18, X12_nextOf_22, X12_nextOf_23, X12_nextOf_26b, X12_nextOf_29, X12_nextOf_30, X12_nextOf_33, X12_nextOf_35, X12_nextOf_36, X12_nextOf_37, X12_nextOf_40, X12_nextOf_41, X12_nextOf_42, X12_nextOf_43, X12_nextOf_44, X12_nextOf_47, X12_nextOf_48, X12_nextOf_49, X12_nextOf_50, X12_nextOf_51, X12_nextOf_52, X12_nextOf_53, X12_nextOf_56, X12_nextOf_58, X12_nextOf_60, X12_nextOf_61b, X12_nextOf_64, X12_nextOf_66, X12_nextOf_68, X12_nextOf_69b, X12_nextOf_72, X12_nextOf_75, X12_nextOf_77, X12_nextOf_79, X12_nextOf_81, X12_nextOf_83, X12_nextOf_86, X12_nextOf_91, X12_nextOf_92b, X12_nextOf_95, X12_nextOf_97, X12_nextOf_100, X12_nextOf_101, X12_nextOf_104, X12_nextOf_105, X12_nextOf_108, X12_nextOf_109, X12_nextOf_110, X12_nextOf_113, X12_nextOf_114, X12_nextOf_115, X12_nextOf_116, X12_nextOf_119, X12_nextOf_120, X12_nextOf_121, X12_nextOf_122b, X12_nextOf_125, X12_nextOf_126, X12_nextOf_129, X12_nextOf_131, show (1000000 : Int64) = lN 1000000 from rfl, g13_14, ↓(show (-1 : Int32) = mI 1 from rfl), show (0 : Int64) = lN 0 from rfl, show (1 : Int32) = nI 1 from rfl, g13_22, g13_21, ln_228, sn_228, g13_13, show (0 : Int32) = nI 0 from rfl, show (1000 : Int64) = lN 1000 from rfl, show (490 : Int32) = nI 490 from rfl, g13_0, ln_218, sn_218, exLt_c1, exLt_c2, exEq_c, exLt_t, exLt_f, exEq_s, exEq_t, exEq_f, exLt_mn, exLt_nm, exEq_mn, exEq_nm, exEq_mm, exEq_xf, exLtL_t, exLtL_f, exEqL_t, exEqL_f, exB_t, exB_f, exSw_t, exSw_f, exSw_0, klz_f, klz_g, kieq_f, kdivL, kdivI, kmodL, kmodI, knIL, lN_i, nI_add, pk_mul, pk_sub, pk_subm, kad1, kad2, lN_add, lN_mul, lN_sub, kkl_i, kkl_l, kkl_r, kkl_0, Option.bind_some, Option.toList_some, Option.toList_none, List.cons_append, List.nil_append, if_true, if_false, eq_self, not_true_eq_false, not_false_eq_true, ku2_eq, ku2_ne, pk_us, pk_un, pk_uLs, pk_uLn, kup_Is, kup_In, kup_Js, kup_Jn, ku2_ku2, kup_I, kup_J, knar1, knar0]
      · obtain ⟨b9, b10, e, q⟩ := IH (j + 1, cnO A u w k g j) (some (.long (lN (cnO A u w k g j)))) none (Or.inr ⟨by show k + 1 < j + 1; omega, Nat.le_refl _⟩) hob
        rw [if_neg (fun z => c1 z.2)]
        refine ⟨b9, b10, ?_, q⟩
        rw [← e]
        conv => lhs; simp (disch := first | assumption | omega | decide | exact bI_or _) only [hm, hu, hJj, hJk, hx, hy, hsz, oN_1 c0, X12_nextOf_0, X12_nextOf_3, X12_nextOf_4, X12_nextOf_7, X12_nextOf_8, X12_nextOf_9, X12_nextOf_10, X12_nextOf_12, X12_nextOf_13, X12_nextOf_15, X12_nextOf_16, X12_nextOf_17, X12_nextOf_18, X12_nextOf_22, X12_nextOf_23, X12_nextOf_26b, X12_nextOf_29, X12_nextOf_30, X12_nextOf_33, X12_nextOf_35, X12_nextOf_36, X12_nextOf_37, X12_nextOf_40, X12_nextOf_41, X12_nextOf_42, X12_nextOf_43, X12_nextOf_44, X12_nextOf_47, X12_nextOf_48, X12_nextOf_49, X12_nextOf_50, X12_nextOf_51, X12_nextOf_52, X12_nextOf_53, X12_nextOf_56, X12_nextOf_58, X12_nextOf_60, X12_nextOf_61b, X12_nextOf_64, X12_nextOf_66, X12_nextOf_68, X12_nextOf_69b, X12_nextOf_72, X12_nextOf_75, X12_nextOf_77, X12_nextOf_79, X12_nextOf_81, X12_nextOf_83, X12_nextOf_86, X12_nextOf_91, X12_nextOf_92b, X12_nextOf_95, X12_nextOf_97, X12_nextOf_100, X12_nextOf_101, X12_nextOf_104, X12_nextOf_105, X12_nextOf_108, X12_nextOf_109, X12_nextOf_110, X12_nextOf_113, X12_nextOf_114, X12_nextOf_115, X12_nextOf_116, X12_nextOf_119, X12_nextOf_120, X12_nextOf_121, X12_nextOf_122b, X12_nextOf_125, X12_nextOf_126, X12_nextOf_129, X12_nextOf_131, show (1000000 : Int64) = lN 1000000 from rfl, g13_14, ↓(show (-1 : Int32) = mI 1 from rfl), show (0 : Int64) = lN 0 from rfl, show (1 : Int32) = nI 1 from rfl, g13_22, g13_21, ln_228, sn_228, g13_13, show (0 : Int32) = nI 0 from rfl, show (1000 : Int64) = lN 1000 from rfl, show (490 : Int32) = nI 490 from rfl, g13_0, ln_218, sn_218, exLt_c1, exLt_c2, exEq_c, exLt_t, exLt_f, exEq_s, exEq_t, exEq_f, exLt_mn, exLt_nm, exEq_mn, exEq_nm, exEq_mm, exEq_xf, exLtL_t, exLtL_f, exEqL_t, exEqL_f, exB_t, exB_f, exSw_t, exSw_f, exSw_0, klz_f, klz_g, kieq_f, kdivL, kdivI, kmodL, kmodI, knIL, lN_i, nI_add, pk_mul, pk_sub, pk_subm, kad1, kad2, lN_add, lN_mul, lN_sub, kkl_i, kkl_l, kkl_r, kkl_0, Option.bind_some, Option.toList_some, Option.toList_none, List.cons_append, List.nil_append, if_true, if_false, eq_self, not_true_eq_false, not_false_eq_true, ku2_eq, ku2_ne, pk_us, pk_un, pk_uLs, pk_uLn, kup_Is, kup_In, kup_Js, kup_Jn, ku2_ku2, kup_I, kup_J, knar1, knar0]
        rfl
theorem r_nextOf {F A : Nat → Nat} {n u w k g : Nat} (hF : rFile I F) (h0 : F 0 ≤ 490) (hn : n ≤ 200) (hm : i 217 22 = nI n) (hJ : ∀ j, j < n → J 228 j = lN (A j)) (hra : rRa l u w) (hA : okA A n) (hr : okR u w) (hk : k < n) (hg : g ≤ 6) : rn (d + 2) mX12_nextOf [.ref 217, .int (nI k), .int (nI g)] (mH h i l I J nw df P) = some (some (.int (oN (nxO A n u w (F 0) k g))), (mH h i l I J nw df P)) := by
  have hf : ∀ j, j < 676 → I 218 j = nI (F j) := hF
  have hu := hra.1
  have hw := hra.2
  obtain ⟨b9, b10, e, q⟩ := r_nx1 (d := d) (h := h) (I := I) (nw := nw) (df := df) (P := P) hn hm hJ hra.1 hA hr hk hg (n - (k + 1)) (k + 1) (0, 0) none none (by omega) (by omega) (Or.inl rfl) (by decide)
  have hb := nxG_b (A := A) (u := u) (w := w) (k := k) (g := g) (n - (k + 1)) (k + 1) (0, 0) (Or.inl rfl) (by omega)
  obtain ⟨r1, r2, r3, r4⟩ := hr
  have hgb : g * F 0 ≤ 6 * 490 := Nat.mul_le_mul hg h0
  have hwb : 1000 * w * min 490 (g * F 0) ≤ 1000 * w * 490 := Nat.mul_le_mul_left _ (Nat.min_le_left _ _)
  rw [X12_nextOf_E]
  conv => lhs; simp (disch := first | assumption | omega | decide | exact bI_or _) only [hw, X12_nextOf_0, X12_nextOf_3, X12_nextOf_4, X12_nextOf_7, X12_nextOf_8, X12_nextOf_9, X12_nextOf_10, X12_nextOf_12, X12_nextOf_13, X12_nextOf_15, X12_nextOf_16, X12_nextOf_17, X12_nextOf_18, X12_nextOf_22, X12_nextOf_23, X12_nextOf_26b, X12_nextOf_29, X12_nextOf_30, X12_nextOf_33, X12_nextOf_35, X12_nextOf_36, X12_nextOf_37, X12_nextOf_40, X12_nextOf_41, X12_nextOf_42, X12_nextOf_43, X12_nextOf_44, X12_nextOf_47, X12_nextOf_48, X12_nextOf_49, X12_nextOf_50, X12_nextOf_51, X12_nextOf_52, X12_nextOf_53, X12_nextOf_56, X12_nextOf_58, X12_nextOf_60, X12_nextOf_61b, X12_nextOf_64, X12_nextOf_66, X12_nextOf_68, X12_nextOf_69b, X12_nextOf_72, X12_nextOf_75, X12_nextOf_77, X12_nextOf_79, X12_nextOf_81, X12_nextOf_83, X12_nextOf_86, X12_nextOf_91, X12_nextOf_92b, X12_nextOf_95, X12_nextOf_97, X12_nextOf_100, X12_nextOf_101, X12_nextOf_104, X12_nextOf_105, X12_nextOf_108, X12_nextOf_109, X12_nextOf_110, X12_nextOf_113, X12_nextOf_114, X12_nextOf_115, X12_nextOf_116, X12_nextOf_119, X12_nextOf_120, X12_nextOf_121, X12_nextOf_122b, X12_nextOf_125, X12_nextOf_126, X12_nextOf_129, X12_nextOf_131, show (1000000 : Int64) = lN 1000000 from rfl, g13_14, ↓(show (-1 : Int32) = mI 1 from rfl), show (0 : Int64) = lN 0 from rfl, show (1 : Int32) = nI 1 from rfl, g13_22, g13_21, ln_228, sn_228, g13_13, show (0 : Int32) = nI 0 from rfl, show (1000 : Int64) = lN 1000 from rfl, show (490 : Int32) = nI 490 from rfl, g13_0, ln_218, sn_218, exLt_c1, exLt_c2, exEq_c, exLt_t, exLt_f, exEq_s, exEq_t, exEq_f, exLt_mn, exLt_nm, exEq_mn, exEq_nm, exEq_mm, exEq_xf, exLtL_t, exLtL_f, exEqL_t, exEqL_f, exB_t, exB_f, exSw_t, exSw_f, exSw_0, klz_f, klz_g, kieq_f, kdivL, kdivI, kmodL, kmodI, knIL, lN_i, nI_add, pk_mul, pk_sub, pk_subm, kad1, kad2, lN_add, lN_mul, lN_sub, kkl_i, kkl_l, kkl_r, kkl_0, Option.bind_some, Option.toList_some, Option.toList_none, List.cons_append, List.nil_append, if_true, if_false, eq_self, not_true_eq_false, not_false_eq_true, ku2_eq, ku2_ne, pk_us, pk_un, pk_uLs, pk_uLn, kup_Is, kup_In, kup_Js, kup_Jn, ku2_ku2, kup_I, kup_J, knar1, knar0]
  rw [show (some (Value.int (mI 1)) : Option Value) = some (.int (oN ((0 : Nat), (0 : Nat)).1)) from rfl, show (some (Value.long (lN 0)) : Option Value) = some (.long (lN ((0 : Nat), (0 : Nat)).2)) from rfl, e]
  unfold nxO
  generalize nxG A u w k g (n - (k + 1)) (k + 1) (0, 0) = s at *
  by_cases c0 : s.1 = 0
  · rw [if_pos (Or.inl c0)]
    conv => lhs; simp (disch := first | assumption | omega | decide | exact bI_or _) only [hw, oN_0 c0, X12_nextOf_0, X12_nextOf_3, X12_nextOf_4, X12_nextOf_7, X12_nextOf_8, X12_nextOf_9, X12_nextOf_10, X12_nextOf_12, X12_nextOf_13, X12_nextOf_15, X12_nextOf_16, X12_nextOf_17, X12_nextOf_18, X12_nextOf_22, X12_nextOf_23, X12_nextOf_26b, X12_nextOf_29, X12_nextOf_30, X12_nextOf_33, X12_nextOf_35, X12_nextOf_36, X12_nextOf_37, X12_nextOf_40, X12_nextOf_41, X12_nextOf_42, X12_nextOf_43, X12_nextOf_44, X12_nextOf_47, X12_nextOf_48, X12_nextOf_49, X12_nextOf_50, X12_nextOf_51, X12_nextOf_52, X12_nextOf_53, X12_nextOf_56, X12_nextOf_58, X12_nextOf_60, X12_nextOf_61b, X12_nextOf_64, X12_nextOf_66, X12_nextOf_68, X12_nextOf_69b, X12_nextOf_72, X12_nextOf_75, X12_nextOf_77, X12_nextOf_79, X12_nextOf_81, X12_nextOf_83, X12_nextOf_86, X12_nextOf_89, X12_nextOf_91, X12_nextOf_92b, X12_nextOf_95, X12_nextOf_97, X12_nextOf_100, X12_nextOf_101, X12_nextOf_104, X12_nextOf_105, X12_nextOf_108, X12_nextOf_109, X12_nextOf_110, X12_nextOf_113, X12_nextOf_114, X12_nextOf_115, X12_nextOf_116, X12_nextOf_119, X12_nextOf_120, X12_nextOf_121, X12_nextOf_122b, X12_nextOf_125, X12_nextOf_126, X12_nextOf_129, X12_nextOf_131, show (1000000 : Int64) = lN 1000000 from rfl, g13_14, ↓(show (-1 : Int32) = mI 1 from rfl), show (0 : Int64) = lN 0 from rfl, show (1 : Int32) = nI 1 from rfl, g13_22, g13_21, ln_228, sn_228, g13_13, show (0 : Int32) = nI 0 from rfl, show (1000 : Int64) = lN 1000 from rfl, show (490 : Int32) = nI 490 from rfl, g13_0, ln_218, sn_218, exLt_c1, exLt_c2, exEq_c, exLt_t, exLt_f, exEq_s, exEq_t, exEq_f, exLt_mn, exLt_nm, exEq_mn, exEq_nm, exEq_mm, exEq_xf, exLtL_t, exLtL_f, exEqL_t, exEqL_f, exB_t, exB_f, exSw_t, exSw_f, exSw_0, klz_f, klz_g, kieq_f, kdivL, kdivI, kmodL, kmodI, knIL, lN_i, nI_add, pk_mul, pk_sub, pk_subm, kad1, kad2, lN_add, lN_mul, lN_sub, kkl_i, kkl_l, kkl_r, kkl_0, Option.bind_some, Option.toList_some, Option.toList_none, List.cons_append, List.nil_append, if_true, if_false, eq_self, not_true_eq_false, not_false_eq_true, ku2_eq, ku2_ne, pk_us, pk_un, pk_uLs, pk_uLn, kup_Is, kup_In, kup_Js, kup_Jn, ku2_ku2, kup_I, kup_J, knar1, knar0]
    rfl
  · by_cases c1 : 1000 * w * min 490 (g * F 0) < s.2
    · rw [if_pos (Or.inr c1)]
      conv => lhs; simp (disch := first | assumption | omega | decide | exact bI_or _) only [hw, hf, oN_1 c0, r_minN, X12_nextOf_0, X12_nextOf_3, X12_nextOf_4, X12_nextOf_7, X12_nextOf_8, X12_nextOf_9, X12_nextOf_10, X12_nextOf_12, X12_nextOf_13, X12_nextOf_15, X12_nextOf_16, X12_nextOf_17, X12_nextOf_18, X12_nextOf_22, X12_nextOf_23, X12_nextOf_26b, X12_nextOf_29, X12_nextOf_30, X12_nextOf_33, X12_nextOf_35, X12_nextOf_36, X12_nextOf_37, X12_nextOf_40, X12_nextOf_41, X12_nextOf_42, X12_nextOf_43, X12_nextOf_44, X12_nextOf_47, X12_nextOf_48, X12_nextOf_49, X12_nextOf_50, X12_nextOf_51, X12_nextOf_52, X12_nextOf_53, X12_nextOf_56, X12_nextOf_58, X12_nextOf_60, X12_nextOf_61b, X12_nextOf_64, X12_nextOf_66, X12_nextOf_68, X12_nextOf_69b, X12_nextOf_72, X12_nextOf_75, X12_nextOf_77, X12_nextOf_79, X12_nextOf_81, X12_nextOf_83, X12_nextOf_86, X12_nextOf_89, X12_nextOf_91, X12_nextOf_92b, X12_nextOf_95, X12_nextOf_97, X12_nextOf_100, X12_nextOf_101, X12_nextOf_104, X12_nextOf_105, X12_nextOf_108, X12_nextOf_109, X12_nextOf_110, X12_nextOf_113, X12_nextOf_114, X12_nextOf_115, X12_nextOf_116, X12_nextOf_119, X12_nextOf_120, X12_nextOf_121, X12_nextOf_122b, X12_nextOf_125, X12_nextOf_126, X12_nextOf_129, X12_nextOf_131, show (1000000 : Int64) = lN 1000000 from rfl, g13_14, ↓(show (-1 : Int32) = mI 1 from rfl), show (0 : Int64) = lN 0 from rfl, show (1 : Int32) = nI 1 from rfl, g13_22, g13_21, ln_228, sn_228, g13_13, show (0 : Int32) = nI 0 from rfl, show (1000 : Int64) = lN 1000 from rfl, show (490 : Int32) = nI 490 from rfl, g13_0, ln_218, sn_218, exLt_c1, exLt_c2, exEq_c, exLt_t, exLt_f, exEq_s, exEq_t, exEq_f, exLt_mn, exLt_nm, exEq_mn, exEq_nm, exEq_mm, exEq_xf, exLtL_t, exLtL_f, exEqL_t, exEqL_f, exB_t, exB_f, exSw_t, exSw_f, exSw_0, klz_f, klz_g, kieq_f, kdivL, kdivI, kmodL, kmodI, knIL, lN_i, nI_add, pk_mul, pk_sub, pk_subm, kad1, kad2, lN_add, lN_mul, lN_sub, kkl_i, kkl_l, kkl_r, kkl_0, Option.bind_some, Option.toList_some, Option.toList_none, List.cons_append, List.nil_append, if_true, if_false, eq_self, not_true_eq_false, not_false_eq_true, ku2_eq, ku2_ne, pk_us, pk_un, pk_uLs, pk_uLn, kup_Is, kup_In, kup_Js, kup_Jn, ku2_ku2, kup_I, kup_J, knar1, knar0]
      rfl
    · rw [if_neg (fun z => by omega), oN_1 c0]
      conv => lhs; simp (disch := first | assumption | omega | decide | exact bI_or _) only [hw, hf, r_minN, X12_nextOf_0, X12_nextOf_3, X12_nextOf_4, X12_nextOf_7, X12_nextOf_8, X12_nextOf_9, X12_nextOf_10, X12_nextOf_12, X12_nextOf_13, X12_nextOf_15, X12_nextOf_16, X12_nextOf_17, X12_nextOf_18, X12_nextOf_22, X12_nextOf_23, X12_nextOf_26b, X12_nextOf_29, X12_nextOf_30, X12_nextOf_33, X12_nextOf_35, X12_nextOf_36, X12_nextOf_37, X12_nextOf_40, X12_nextOf_41, X12_nextOf_42, X12_nextOf_43, X12_nextOf_44, X12_nextOf_47, X12_nextOf_48, X12_nextOf_49, X12_nextOf_50, X12_nextOf_51, X12_nextOf_52, X12_nextOf_53, X12_nextOf_56, X12_nextOf_58, X12_nextOf_60, X12_nextOf_61b, X12_nextOf_64, X12_nextOf_66, X12_nextOf_68, X12_nextOf_69b, X12_nextOf_72, X12_nextOf_75, X12_nextOf_77, X12_nextOf_79, X12_nextOf_81, X12_nextOf_83, X12_nextOf_86, X12_nextOf_89, X12_nextOf_91, X12_nextOf_92b, X12_nextOf_95, X12_nextOf_97, X12_nextOf_100, X12_nextOf_101, X12_nextOf_104, X12_nextOf_105, X12_nextOf_108, X12_nextOf_109, X12_nextOf_110, X12_nextOf_113, X12_nextOf_114, X12_nextOf_115, X12_nextOf_116, X12_nextOf_119, X12_nextOf_120, X12_nextOf_121, X12_nextOf_122b, X12_nextOf_125, X12_nextOf_126, X12_nextOf_129, X12_nextOf_131, show (1000000 : Int64) = lN 1000000 from rfl, g13_14, ↓(show (-1 : Int32) = mI 1 from rfl), show (0 : Int64) = lN 0 from rfl, show (1 : Int32) = nI 1 from rfl, g13_22, g13_21, ln_228, sn_228, g13_13, show (0 : Int32) = nI 0 from rfl, show (1000 : Int64) = lN 1000 from rfl, show (490 : Int32) = nI 490 from rfl, g13_0, ln_218, sn_218, exLt_c1, exLt_c2, exEq_c, exLt_t, exLt_f, exEq_s, exEq_t, exEq_f, exLt_mn, exLt_nm, exEq_mn, exEq_nm, exEq_mm, exEq_xf, exLtL_t, exLtL_f, exEqL_t, exEqL_f, exB_t, exB_f, exSw_t, exSw_f, exSw_0, klz_f, klz_g, kieq_f, kdivL, kdivI, kmodL, kmodI, knIL, lN_i, nI_add, pk_mul, pk_sub, pk_subm, kad1, kad2, lN_add, lN_mul, lN_sub, kkl_i, kkl_l, kkl_r, kkl_0, Option.bind_some, Option.toList_some, Option.toList_none, List.cons_append, List.nil_append, if_true, if_false, eq_self, not_true_eq_false, not_false_eq_true, ku2_eq, ku2_ne, pk_us, pk_un, pk_uLs, pk_uLn, kup_Is, kup_In, kup_Js, kup_Jn, ku2_ku2, kup_I, kup_J, knar1, knar0]
theorem r_ch1 {F A : Nat → Nat} {n u w k0 : Nat} (hF : rFile I F) (ok : okO F) (hn : n ≤ 200) (hJ : ∀ j, j < n → J 228 j = lN (A j)) (hra : rRa l u w) (hA : okA A n) (hr : okR u w) : ∀ (f c g k m p : Nat) (i0 i : tI) (a3 : Option Value), g + c = F 2 + 2 → 1 ≤ g → k < n → n - k ≤ f → m + (n - k) ≤ 201 → p + (n - k) * (F 2 + 1) ≤ 1200 → lnk A n u w (F 0) (F 2) k = lnkG A n u w (F 0) k c g → i 217 22 = nI n → i 217 35 = nI m → i 217 36 = nI k → i 217 37 = nI p → Kp [(217, 35), (217, 36), (217, 37)] [] [] i0 i l l I I J J → Gd (ex (d + 2) mX12_chains 17 [some (.ref 217), some (.int (nI k0)), some (.int (nI g)), a3] [] (mH h i l I J nw df P)) (Rt h nw df P none fun i' l' I' J' => Kp [(217, 35), (217, 36), (217, 37)] [] [] i0 i' l l' I I' J J' ∧ i' 217 35 = nI (m + (chR A n u w (F 0) (F 2) f k).1 - 1) ∧ i' 217 36 = nI (chR A n u w (F 0) (F 2) f k).2.1 ∧ i' 217 37 = nI (p + (chR A n u w (F 0) (F 2) f k).2.2)) := by
  intro f
  have hf : ∀ j, j < 676 → I 218 j = nI (F j) := hF
  obtain ⟨o0, o1, o2, o3, o4, o5⟩ := ok
  induction f with
  | zero => intro c g k m p i0 i a3 h1 h2 h3 h4; omega
  | succ f ihf =>
    intro c
    induction c with
    | zero =>
      intro g k m p i0 i a3 h1 h2 h3 h4 h5 h6 hl hm h35 h36 h37 k1
      rw [X12_chains_17]
      conv => arg 1; simp (disch := first | assumption | omega | decide | exact bI_or _) only [hf, X12_chains_0, X12_chains_1, X12_chains_2, X12_chains_5, X12_chains_6, X12_chains_7, X12_chains_10, X12_chains_11, X12_chains_12, X12_chains_15, X12_chains_16, X12_chains_18, X12_chains_19, X12_chains_22, X12_chains_23, X12_chains_24, X12_chains_25, X12_chains_26b, X12_chains_29, X12_chains_30, X12_chains_31, X12_chains_34, X12_chains_35, X12_chains_38, X12_chains_39, X12_chains_40, X12_chains_41b, X12_chains_44, X12_chains_45, X12_chains_46, X12_chains_47, X12_chains_48, X12_chains_51, X12_chains_52, X12_chains_53, X12_chains_56, X12_chains_57, X12_chains_58, X12_chains_61, X12_chains_62, X12_chains_63, X12_chains_66, X12_chains_67, X12_chains_68, X12_chains_71, X12_chains_72, X12_chains_73, X12_chains_76, X12_chains_77, X12_chains_78, X12_chains_81, show (1 : Int32) = nI 1 from rfl, p13_35, p13_36, show (0 : Int32) = nI 0 from rfl, p13_37, g13_0, ln_218, sn_218, show (2 : Int32) = nI 2 from rfl, g13_36, is_217, ↓(show (-1 : Int32) = mI 1 from rfl), g13_35, g13_37, exLt_c1, exLt_c2, exEq_c, exLt_t, exLt_f, exEq_s, exEq_t, exEq_f, exLt_mn, exLt_nm, exEq_mn, exEq_nm, exEq_mm, exEq_xf, exLtL_t, exLtL_f, exEqL_t, exEqL_f, exB_t, exB_f, exSw_t, exSw_f, exSw_0, klz_f, klz_g, kieq_f, kdivL, kdivI, kmodL, kmodI, knIL, lN_i, nI_add, pk_mul, pk_sub, pk_subm, kad1, kad2, lN_add, lN_mul, lN_sub, kkl_i, kkl_l, kkl_r, kkl_0, Option.bind_some, Option.toList_some, Option.toList_none, List.cons_append, List.nil_append, if_true, if_false, eq_self, not_true_eq_false, not_false_eq_true, ku2_eq, ku2_ne, pk_us, pk_un, pk_uLs, pk_uLn, kup_Is, kup_In, kup_Js, kup_Jn, ku2_ku2, kup_I, kup_J, knar1, knar0]
      have e : chR A n u w (F 0) (F 2) (f + 1) k = (1, k, 0) := by rw [chR, if_pos (by rw [hl]; rfl)]
      rw [e]
      exact Gd_rt ⟨k1, h35, h36, h37⟩
    | succ c ihc =>
      intro g k m p i0 i a3 h1 h2 h3 h4 h5 h6 hl hm h35 h36 h37 k1
      have enx := r_nextOf (d := d) (h := h) (I := I) (i := i) (nw := nw) (df := df) (P := P) hF o0 hn hm hJ hra hA hr h3 (show g ≤ 6 by omega)
      have hb := nxO_b (A := A) (u := u) (w := w) (sl := F 0) (g := g) h3
      rw [X12_chains_17]
      by_cases c0 : nxO A n u w (F 0) k g = 0
      · conv => arg 1; simp (disch := first | assumption | omega | decide | exact bI_or _) only [hf, h36, enx, oN_0 c0, X12_chains_0, X12_chains_1, X12_chains_2, X12_chains_5, X12_chains_6, X12_chains_7, X12_chains_10, X12_chains_11, X12_chains_12, X12_chains_15, X12_chains_16, X12_chains_18, X12_chains_19, X12_chains_22, X12_chains_23, X12_chains_24, X12_chains_25, X12_chains_26b, X12_chains_29, X12_chains_30, X12_chains_31, X12_chains_34, X12_chains_35, X12_chains_38, X12_chains_39, X12_chains_40, X12_chains_41b, X12_chains_44, X12_chains_45, X12_chains_46, X12_chains_47, X12_chains_48, X12_chains_51, X12_chains_52, X12_chains_53, X12_chains_56, X12_chains_57, X12_chains_58, X12_chains_61, X12_chains_62, X12_chains_63, X12_chains_66, X12_chains_67, X12_chains_68, X12_chains_71, X12_chains_72, X12_chains_73, X12_chains_76, X12_chains_77, X12_chains_78, X12_chains_81, show (1 : Int32) = nI 1 from rfl, p13_35, p13_36, show (0 : Int32) = nI 0 from rfl, p13_37, g13_0, ln_218, sn_218, show (2 : Int32) = nI 2 from rfl, g13_36, is_217, ↓(show (-1 : Int32) = mI 1 from rfl), g13_35, g13_37, exLt_c1, exLt_c2, exEq_c, exLt_t, exLt_f, exEq_s, exEq_t, exEq_f, exLt_mn, exLt_nm, exEq_mn, exEq_nm, exEq_mm, exEq_xf, exLtL_t, exLtL_f, exEqL_t, exEqL_f, exB_t, exB_f, exSw_t, exSw_f, exSw_0, klz_f, klz_g, kieq_f, kdivL, kdivI, kmodL, kmodI, knIL, lN_i, nI_add, pk_mul, pk_sub, pk_subm, kad1, kad2, lN_add, lN_mul, lN_sub, kkl_i, kkl_l, kkl_r, kkl_0, Option.bind_some, Option.toList_some, Option.toList_none, List.cons_append, List.nil_append, if_true, if_false, eq_self, not_true_eq_false, not_false_eq_true, ku2_eq, ku2_ne, pk_us, pk_un, pk_uLs, pk_uLn, kup_Is, kup_In, kup_Js, kup_Jn, ku2_ku2, kup_I, kup_J, knar1, knar0]
        exact ihc (g + 1) k m p i0 i _ (by omega) (by omega) h3 h4 h5 h6 (by rw [hl, lnkG, if_pos c0]) hm h35 h36 h37 k1
      · have hlk : lnk A n u w (F 0) (F 2) k = (nxO A n u w (F 0) k g, g) := by rw [hl, lnkG, if_neg c0]
        have e : chR A n u w (F 0) (F 2) (f + 1) k = ((chR A n u w (F 0) (F 2) f (nxO A n u w (F 0) k g - 1)).1 + 1, (chR A n u w (F 0) (F 2) f (nxO A n u w (F 0) k g - 1)).2.1, (chR A n u w (F 0) (F 2) f (nxO A n u w (F 0) k g - 1)).2.2 + g) := by rw [chR, hlk, if_neg c0]
        have hmu : (n - (nxO A n u w (F 0) k g - 1)) * (F 2 + 1) + (F 2 + 1) ≤ (n - k) * (F 2 + 1) := by
          have : (n - (nxO A n u w (F 0) k g - 1) + 1) * (F 2 + 1) ≤ (n - k) * (F 2 + 1) := Nat.mul_le_mul_right _ (by omega)
          rw [Nat.add_mul, Nat.one_mul] at this
          exact this
        conv => arg 1; simp (disch := first | assumption | omega | decide | exact bI_or _) only [hf, h35, h36, h37, enx, oN_1 c0, X12_chains_0, X12_chains_1, X12_chains_2, X12_chains_5, X12_chains_6, X12_chains_7, X12_chains_10, X12_chains_11, X12_chains_12, X12_chains_15, X12_chains_16, X12_chains_18, X12_chains_19, X12_chains_22, X12_chains_23, X12_chains_24, X12_chains_25, X12_chains_26b, X12_chains_29, X12_chains_30, X12_chains_31, X12_chains_34, X12_chains_35, X12_chains_38, X12_chains_39, X12_chains_40, X12_chains_41b, X12_chains_44, X12_chains_45, X12_chains_46, X12_chains_47, X12_chains_48, X12_chains_51, X12_chains_52, X12_chains_53, X12_chains_56, X12_chains_57, X12_chains_58, X12_chains_61, X12_chains_62, X12_chains_63, X12_chains_66, X12_chains_67, X12_chains_68, X12_chains_71, X12_chains_72, X12_chains_73, X12_chains_76, X12_chains_77, X12_chains_78, X12_chains_81, show (1 : Int32) = nI 1 from rfl, p13_35, p13_36, show (0 : Int32) = nI 0 from rfl, p13_37, g13_0, ln_218, sn_218, show (2 : Int32) = nI 2 from rfl, g13_36, is_217, ↓(show (-1 : Int32) = mI 1 from rfl), g13_35, g13_37, exLt_c1, exLt_c2, exEq_c, exLt_t, exLt_f, exEq_s, exEq_t, exEq_f, exLt_mn, exLt_nm, exEq_mn, exEq_nm, exEq_mm, exEq_xf, exLtL_t, exLtL_f, exEqL_t, exEqL_f, exB_t, exB_f, exSw_t, exSw_f, exSw_0, klz_f, klz_g, kieq_f, kdivL, kdivI, kmodL, kmodI, knIL, lN_i, nI_add, pk_mul, pk_sub, pk_subm, kad1, kad2, lN_add, lN_mul, lN_sub, kkl_i, kkl_l, kkl_r, kkl_0, Option.bind_some, Option.toList_some, Option.toList_none, List.cons_append, List.nil_append, if_true, if_false, eq_self, not_true_eq_false, not_false_eq_true, ku2_eq, ku2_ne, pk_us, pk_un, pk_uLs, pk_uLn, kup_Is, kup_In, kup_Js, kup_Jn, ku2_ku2, kup_I, kup_J, knar1, knar0]
        refine Gd_tail (ihf (F 2 + 1) 1 (nxO A n u w (F 0) k g - 1) (m + 1) (p + g) i0 _ _ (by omega) (Nat.le_refl _) (by omega) (by omega) (by omega) (by omega) rfl (by simp (disch := first | assumption | omega | decide | exact bI_or _) only [hm, exLt_c1, exLt_c2, exEq_c, exLt_t, exLt_f, exEq_s, exEq_t, exEq_f, exLt_mn, exLt_nm, exEq_mn, exEq_nm, exEq_mm, exEq_xf, exLtL_t, exLtL_f, exEqL_t, exEqL_f, exB_t, exB_f, exSw_t, exSw_f, exSw_0, klz_f, klz_g, kieq_f, kdivL, kdivI, kmodL, kmodI, knIL, lN_i, nI_add, pk_mul, pk_sub, pk_subm, kad1, kad2, lN_add, lN_mul, lN_sub, kkl_i, kkl_l, kkl_r, kkl_0, Option.bind_some, Option.toList_some, Option.toList_none, List.cons_append, List.nil_append, if_true, if_false, eq_self, not_true_eq_false, not_false_eq_true, ku2_eq, ku2_ne, pk_us, pk_un, pk_uLs, pk_uLn, kup_Is, kup_In, kup_Js, kup_Jn, ku2_ku2, kup_I, kup_J, knar1, knar0]) (by simp (disch := first | assumption | omega | decide | exact bI_or _) only [exLt_c1, exLt_c2, exEq_c, exLt_t, exLt_f, exEq_s, exEq_t, exEq_f, exLt_mn, exLt_nm, exEq_mn, exEq_nm, exEq_mm, exEq_xf, exLtL_t, exLtL_f, exEqL_t, exEqL_f, exB_t, exB_f, exSw_t, exSw_f, exSw_0, klz_f, klz_g, kieq_f, kdivL, kdivI, kmodL, kmodI, knIL, lN_i, nI_add, pk_mul, pk_sub, pk_subm, kad1, kad2, lN_add, lN_mul, lN_sub, kkl_i, kkl_l, kkl_r, kkl_0, Option.bind_some, Option.toList_some, Option.toList_none, List.cons_append, List.nil_append, if_true, if_false, eq_self, not_true_eq_false, not_false_eq_true, ku2_eq, ku2_ne, pk_us, pk_un, pk_uLs, pk_uLn, kup_Is, kup_In, kup_Js, kup_Jn, ku2_ku2, kup_I, kup_J, knar1, knar0]) (by simp (disch := first | assumption | omega | decide | exact bI_or _) only [exLt_c1, exLt_c2, exEq_c, exLt_t, exLt_f, exEq_s, exEq_t, exEq_f, exLt_mn, exLt_nm, exEq_mn, exEq_nm, exEq_mm, exEq_xf, exLtL_t, exLtL_f, exEqL_t, exEqL_f, exB_t, exB_f, exSw_t, exSw_f, exSw_0, klz_f, klz_g, kieq_f, kdivL, kdivI, kmodL, kmodI, knIL, lN_i, nI_add, pk_mul, pk_sub, pk_subm, kad1, kad2, lN_add, lN_mul, lN_sub, kkl_i, kkl_l, kkl_r, kkl_0, Option.bind_some, Option.toList_some, Option.toList_none, List.cons_append, List.nil_append, if_true, if_false, eq_self, not_true_eq_false, not_false_eq_true, ku2_eq, ku2_ne, pk_us, pk_un, pk_uLs, pk_uLn, kup_Is, kup_In, kup_Js, kup_Jn, ku2_ku2, kup_I, kup_J, knar1, knar0]) (by simp (disch := first | assumption | omega | decide | exact bI_or _) only [exLt_c1, exLt_c2, exEq_c, exLt_t, exLt_f, exEq_s, exEq_t, exEq_f, exLt_mn, exLt_nm, exEq_mn, exEq_nm, exEq_mm, exEq_xf, exLtL_t, exLtL_f, exEqL_t, exEqL_f, exB_t, exB_f, exSw_t, exSw_f, exSw_0, klz_f, klz_g, kieq_f, kdivL, kdivI, kmodL, kmodI, knIL, lN_i, nI_add, pk_mul, pk_sub, pk_subm, kad1, kad2, lN_add, lN_mul, lN_sub, kkl_i, kkl_l, kkl_r, kkl_0, Option.bind_some, Option.toList_some, Option.toList_none, List.cons_append, List.nil_append, if_true, if_false, eq_self, not_true_eq_false, not_false_eq_true, ku2_eq, ku2_ne, pk_us, pk_un, pk_uLs, pk_uLn, kup_Is, kup_In, kup_Js, kup_Jn, ku2_ku2, kup_I, kup_J, knar1, knar0]) (by (repeat (first | exact k1 | refine Kp_i ?_ (by decide) | refine Kp_l ?_ (by decide) | refine Kp_I ?_ (by decide) | refine Kp_J ?_ (by decide) | exact Kp_refl)))) ?_
        intro i1 l1 I1 J1 ⟨k2, q1, q2, q3⟩
        refine ⟨k2, ?_, ?_, ?_⟩
        · rw [q1, e]
          congr 1
          show m + 1 + _ - 1 = m + (_ + 1) - 1
          omega
        · rw [q2, e]
        · rw [q3, e]
          congr 1
          show p + g + _ = p + (_ + g)
          omega
theorem r_chains {F A : Nat → Nat} {n u w k : Nat} (hF : rFile I F) (ok : okO F) (hn : n ≤ 200) (hm : i 217 22 = nI n) (hJ : ∀ j, j < n → J 228 j = lN (A j)) (hra : rRa l u w) (hA : okA A n) (hr : okR u w) (hk : k < n) : Gd (rn (d + 3) mX12_chains [.ref 217, .int (nI k)] (mH h i l I J nw df P)) (Rt h nw df P none fun i' l' I' J' => Kp [(217, 35), (217, 36), (217, 37)] [] [] i i' l l' I I' J J' ∧ i' 217 35 = nI (chR A n u w (F 0) (F 2) n k).1 ∧ i' 217 36 = nI (chR A n u w (F 0) (F 2) n k).2.1 ∧ i' 217 37 = nI (chR A n u w (F 0) (F 2) n k).2.2) := by
  have o2 := ok.2.2.1
  have hmu : (n - k) * (F 2 + 1) ≤ 200 * 6 := Nat.mul_le_mul (by omega) (by omega)
  rw [X12_chains_E]
  conv => arg 1; simp (disch := first | assumption | omega | decide | exact bI_or _) only [X12_chains_0, X12_chains_1, X12_chains_2, X12_chains_5, X12_chains_6, X12_chains_7, X12_chains_10, X12_chains_11, X12_chains_12, X12_chains_15, X12_chains_16, X12_chains_18, X12_chains_19, X12_chains_22, X12_chains_23, X12_chains_24, X12_chains_25, X12_chains_26b, X12_chains_29, X12_chains_30, X12_chains_31, X12_chains_34, X12_chains_35, X12_chains_38, X12_chains_39, X12_chains_40, X12_chains_41b, X12_chains_44, X12_chains_45, X12_chains_46, X12_chains_47, X12_chains_48, X12_chains_51, X12_chains_52, X12_chains_53, X12_chains_56, X12_chains_57, X12_chains_58, X12_chains_61, X12_chains_62, X12_chains_63, X12_chains_66, X12_chains_67, X12_chains_68, X12_chains_71, X12_chains_72, X12_chains_73, X12_chains_76, X12_chains_77, X12_chains_78, X12_chains_81, show (1 : Int32) = nI 1 from rfl, p13_35, p13_36, show (0 : Int32) = nI 0 from rfl, p13_37, g13_0, ln_218, sn_218, show (2 : Int32) = nI 2 from rfl, g13_36, is_217, ↓(show (-1 : Int32) = mI 1 from rfl), g13_35, g13_37, exLt_c1, exLt_c2, exEq_c, exLt_t, exLt_f, exEq_s, exEq_t, exEq_f, exLt_mn, exLt_nm, exEq_mn, exEq_nm, exEq_mm, exEq_xf, exLtL_t, exLtL_f, exEqL_t, exEqL_f, exB_t, exB_f, exSw_t, exSw_f, exSw_0, klz_f, klz_g, kieq_f, kdivL, kdivI, kmodL, kmodI, knIL, lN_i, nI_add, pk_mul, pk_sub, pk_subm, kad1, kad2, lN_add, lN_mul, lN_sub, kkl_i, kkl_l, kkl_r, kkl_0, Option.bind_some, Option.toList_some, Option.toList_none, List.cons_append, List.nil_append, if_true, if_false, eq_self, not_true_eq_false, not_false_eq_true, ku2_eq, ku2_ne, pk_us, pk_un, pk_uLs, pk_uLn, kup_Is, kup_In, kup_Js, kup_Jn, ku2_ku2, kup_I, kup_J, knar1, knar0]
  refine Gd_tail (r_ch1 (A := A) (n := n) (u := u) (w := w) hF ok hn hJ hra hA hr n (F 2 + 1) 1 k 1 0 i _ _ (by omega) (Nat.le_refl _) hk (by omega) (by omega) (by omega) rfl (by simp (disch := first | assumption | omega | decide | exact bI_or _) only [hm, exLt_c1, exLt_c2, exEq_c, exLt_t, exLt_f, exEq_s, exEq_t, exEq_f, exLt_mn, exLt_nm, exEq_mn, exEq_nm, exEq_mm, exEq_xf, exLtL_t, exLtL_f, exEqL_t, exEqL_f, exB_t, exB_f, exSw_t, exSw_f, exSw_0, klz_f, klz_g, kieq_f, kdivL, kdivI, kmodL, kmodI, knIL, lN_i, nI_add, pk_mul, pk_sub, pk_subm, kad1, kad2, lN_add, lN_mul, lN_sub, kkl_i, kkl_l, kkl_r, kkl_0, Option.bind_some, Option.toList_some, Option.toList_none, List.cons_append, List.nil_append, if_true, if_false, eq_self, not_true_eq_false, not_false_eq_true, ku2_eq, ku2_ne, pk_us, pk_un, pk_uLs, pk_uLn, kup_Is, kup_In, kup_Js, kup_Jn, ku2_ku2, kup_I, kup_J, knar1, knar0]) (by simp (disch := first | assumption | omega | decide | exact bI_or _) only [exLt_c1, exLt_c2, exEq_c, exLt_t, exLt_f, exEq_s, exEq_t, exEq_f, exLt_mn, exLt_nm, exEq_mn, exEq_nm, exEq_mm, exEq_xf, exLtL_t, exLtL_f, exEqL_t, exEqL_f, exB_t, exB_f, exSw_t, exSw_f, exSw_0, klz_f, klz_g, kieq_f, kdivL, kdivI, kmodL, kmodI, knIL, lN_i, nI_add, pk_mul, pk_sub, pk_subm, kad1, kad2, lN_add, lN_mul, lN_sub, kkl_i, kkl_l, kkl_r, kkl_0, Option.bind_some, Option.toList_some, Option.toList_none, List.cons_append, List.nil_append, if_true, if_false, eq_self, not_true_eq_false, not_false_eq_true, ku2_eq, ku2_ne, pk_us, pk_un, pk_uLs, pk_uLn, kup_Is, kup_In, kup_Js, kup_Jn, ku2_ku2, kup_I, kup_J, knar1, knar0]) (by simp (disch := first | assumption | omega | decide | exact bI_or _) only [exLt_c1, exLt_c2, exEq_c, exLt_t, exLt_f, exEq_s, exEq_t, exEq_f, exLt_mn, exLt_nm, exEq_mn, exEq_nm, exEq_mm, exEq_xf, exLtL_t, exLtL_f, exEqL_t, exEqL_f, exB_t, exB_f, exSw_t, exSw_f, exSw_0, klz_f, klz_g, kieq_f, kdivL, kdivI, kmodL, kmodI, knIL, lN_i, nI_add, pk_mul, pk_sub, pk_subm, kad1, kad2, lN_add, lN_mul, lN_sub, kkl_i, kkl_l, kkl_r, kkl_0, Option.bind_some, Option.toList_some, Option.toList_none, List.cons_append, List.nil_append, if_true, if_false, eq_self, not_true_eq_false, not_false_eq_true, ku2_eq, ku2_ne, pk_us, pk_un, pk_uLs, pk_uLn, kup_Is, kup_In, kup_Js, kup_Jn, ku2_ku2, kup_I, kup_J, knar1, knar0]) (by simp (disch := first | assumption | omega | decide | exact bI_or _) only [exLt_c1, exLt_c2, exEq_c, exLt_t, exLt_f, exEq_s, exEq_t, exEq_f, exLt_mn, exLt_nm, exEq_mn, exEq_nm, exEq_mm, exEq_xf, exLtL_t, exLtL_f, exEqL_t, exEqL_f, exB_t, exB_f, exSw_t, exSw_f, exSw_0, klz_f, klz_g, kieq_f, kdivL, kdivI, kmodL, kmodI, knIL, lN_i, nI_add, pk_mul, pk_sub, pk_subm, kad1, kad2, lN_add, lN_mul, lN_sub, kkl_i, kkl_l, kkl_r, kkl_0, Option.bind_some, Option.toList_some, Option.toList_none, List.cons_append, List.nil_append, if_true, if_false, eq_self, not_true_eq_false, not_false_eq_true, ku2_eq, ku2_ne, pk_us, pk_un, pk_uLs, pk_uLn, kup_Is, kup_In, kup_Js, kup_Jn, ku2_ku2, kup_I, kup_J, knar1, knar0]) (by (repeat (first | exact Kp_refl | refine Kp_i ?_ (by decide) | refine Kp_l ?_ (by decide) | refine Kp_I ?_ (by decide) | refine Kp_J ?_ (by decide) | exact Kp_refl)))) ?_
  intro i1 l1 I1 J1 ⟨k2, q1, q2, q3⟩
  refine ⟨k2, ?_, q2, ?_⟩
  · rw [q1]; congr 1; omega
  · rw [q3, Nat.zero_add]
end RJ
