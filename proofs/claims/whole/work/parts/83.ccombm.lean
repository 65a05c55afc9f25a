/-! OWN: the class's combs: the mathematics; longs compared -/
theorem dm_sub {x y p : Nat} (hp : 0 < p) (h : x ≤ y) : (y % p < x % p → (y - x) / p + 1 + x / p = y / p ∧ (y - x) % p + x % p = y % p + p) ∧ (x % p ≤ y % p → (y - x) / p + x / p = y / p ∧ (y - x) % p + x % p = y % p) := by
  have e1 := Nat.div_add_mod y p
  have e2 := Nat.div_add_mod x p
  have l1 := Nat.mod_lt y hp
  have l2 := Nat.mod_lt x hp
  generalize y / p = Y at *
  generalize x / p = X at *
  generalize y % p = ry at *
  generalize x % p = rx at *
  refine ⟨fun c => ?_, fun c => ?_⟩
  · have hXY : X < Y := by
      refine Nat.lt_of_not_le (fun z => ?_)
      have := Nat.mul_le_mul_left p z
      omega
    obtain ⟨t, rfl⟩ : ∃ t, Y = X + 1 + t := ⟨Y - X - 1, by omega⟩
    rw [Nat.mul_add, Nat.mul_add, Nat.mul_one] at e1
    have e : y - x = (ry + p - rx) + p * t := by omega
    rw [e, Nat.add_mul_div_left _ _ hp, Nat.add_mul_mod_self_left, Nat.div_eq_of_lt (by omega), Nat.mod_eq_of_lt (by omega)]
    omega
  · have hXY : X ≤ Y := by
      refine Nat.le_of_not_lt (fun z => ?_)
      have := Nat.mul_le_mul_left p (show Y + 1 ≤ X from z)
      rw [Nat.mul_add, Nat.mul_one] at this
      omega
    obtain ⟨t, rfl⟩ : ∃ t, Y = X + t := ⟨Y - X, by omega⟩
    rw [Nat.mul_add] at e1
    have e : y - x = (ry - rx) + p * t := by omega
    rw [e, Nat.add_mul_div_left _ _ hp, Nat.add_mul_mod_self_left, Nat.div_eq_of_lt (by omega), Nat.mod_eq_of_lt (by omega)]
    omega
theorem cM_mono {w x y : Nat} (h : x ≤ y) : cM w x ≤ cM w y := by
  have h1 := Nat.div_le_div_right (c := 1000000 * w) h
  unfold cM
  have e1 := Nat.div_add_mod y (1000000 * w)
  have e2 := Nat.div_add_mod x (1000000 * w)
  generalize 1000000 * w = p at *
  by_cases c : x / p < y / p
  · split <;> split <;> omega
  · have e : x / p = y / p := by omega
    rw [e] at e2 ⊢
    split <;> split <;> omega
theorem cS_md {hs : List cT} {j m o : Nat} (hp : hs.Pairwise fun a b => b.2.1 < a.2.1) (hj : ∀ e ∈ hs, e.2.1 ≤ m) : ((cS hs j m o).Pairwise fun a b => b.2.1 < a.2.1) := by
  unfold cS
  split
  · exact List.pairwise_singleton _ _
  · rename_i e t
    have h2 := List.pairwise_cons.mp hp
    split
    · rename_i c
      split
      · exact List.pairwise_cons.mpr ⟨fun x hx => by have := h2.1 x hx; show x.2.1 < m; omega, h2.2⟩
      · exact hp
    · rename_i c
      have h3 := hj e List.mem_cons_self
      refine List.pairwise_cons.mpr ⟨fun x hx => ?_, hp⟩
      show x.2.1 < m
      rcases List.mem_cons.mp hx with z | z
      · subst z; omega
      · have := h2.1 x z; omega
theorem cG_md {A : Nat → Nat} {n u w sl dr k K : Nat} (hA : ∀ a b, a ≤ b → b < n → A a ≤ A b) : ∀ (c j : Nat) (hs : List cT), j + c = n → (hs.Pairwise fun a b => b.2.1 < a.2.1) → (∀ a, j ≤ a → a < n → ∀ e ∈ hs, e.2.1 ≤ cM w (cX A u k a)) → ((cG A u w sl dr k K c j hs).Pairwise fun a b => b.2.1 < a.2.1)
  | 0, _, _, _, h, _ => h
  | c + 1, j, hs, hj, h, hm => by
    rw [cG]
    refine cG_md hA c (j + 1) _ (by omega) ?_ ?_
    · unfold cT1
      split
      · exact cS_md h (hm j (Nat.le_refl _) (by omega))
      · exact h
    · intro a h1 h2 e he
      unfold cT1 at he
      split at he
      · rcases cS_mem he with z | z
        · subst z
          exact cM_mono (Nat.mul_le_mul_right _ (Nat.sub_le_sub_right (hA j a (by omega) h2) _))
        · exact hm a (by omega) h2 e z
      · exact hm a (by omega) h2 e he
theorem pw_len {f : cT → Nat} {k : Nat} : ∀ {hs : List cT} {n : Nat}, k ≤ n → (hs.Pairwise fun a b => f b < f a) → (∀ e ∈ hs, k ≤ f e ∧ f e < n) → hs.length + k ≤ n
  | [], n, h, _, _ => by simpa using h
  | e :: t, n, h, hp, he => by
    have h2 := List.pairwise_cons.mp hp
    have h1 := he e List.mem_cons_self
    have := pw_len (f := f) (k := k) (hs := t) (n := f e) h1.1 h2.2 (fun x hx => ⟨(he x (List.mem_cons_of_mem _ hx)).1, h2.1 x hx⟩)
    rw [List.length_cons]
    omega
section CBM
variable {F : Nat → Nat} {L : List (Nat × Nat)} {u w : Nat}
theorem hsK_md {k : Nat} (hA : okA (AL F L) L.length) (hk : k ≤ L.length) : (hsK F L u w k).Pairwise fun a b => b.2.1 < a.2.1 := cG_md (n := L.length) hA.1 _ _ _ (by omega) List.Pairwise.nil (fun a _ _ e he => by cases he)
theorem hsK_b {k : Nat} (hA : okA (AL F L) L.length) (hk : k ≤ L.length) : (hsK F L u w k).length ≤ mkK F L u w k ∧ (hsK F L u w k).length + k ≤ L.length := by
  have h1 := hsK_I (F := F) (L := L) (u := u) (w := w) hk
  exact ⟨pw_len (f := fun e => e.2.1) (k := 0) (by omega) (hsK_md hA hk) (fun e he => ⟨Nat.zero_le _, (h1.2 e he).2.2.1⟩), pw_len (f := fun e => e.1) (k := k) hk h1.1 (fun e he => ⟨(h1.2 e he).1, (h1.2 e he).2.1⟩)⟩
theorem mkK_mono {k k' : Nat} (hA : okA (AL F L) L.length) (h1 : k ≤ k') (h2 : k' < L.length) : mkK F L u w k' ≤ mkK F L u w k := Nat.add_le_add_right (Nat.div_le_div_right (Nat.mul_le_mul_right _ (Nat.sub_le_sub_left (hA.1 k k' h1 h2) _))) 1
theorem bsF_stop : ∀ (c k : Nat) (s : Nat × Nat × Nat), k + c = L.length → (∀ k', k ≤ k' → k' < L.length → bLess F L u w k' s) → bsF F L u w c k s = s
  | 0, k, s, _, _ => by rw [bsF]
  | c + 1, k, s, hk, h => by
    rw [bsF, if_pos (h k (Nat.le_refl _) (by omega))]
    exact bsF_stop c (k + 1) s (by omega) (fun k' a b => h k' (by omega) b)
theorem bsF_brk {c k : Nat} {s : Nat × Nat × Nat} (hA : okA (AL F L) L.length) (hk : k + c = L.length) (h : mkK F L u w k < 2 ∨ mkK F L u w k < s.2.1 ∨ L.length < s.2.1 + k) : bsF F L u w c k s = s := by
  refine bsF_stop _ k s hk (fun k' a b => ?_)
  have h1 := mkK_mono (u := u) (w := w) hA a b
  have h2 := hsK_b (u := u) (w := w) hA (Nat.le_of_lt b)
  unfold bLess
  omega
end CBM
section CBL
variable {d : Nat} {h : kH} {a b : Nat}
theorem j_maxlN (ha : a < 9223372036854775808) (hb : b < 9223372036854775808) : rn (d + 1) mJ9_max_f86c9 [.long (lN a), .long (lN b)] h = some (some (.long (lN (max a b))), h) := by
  rw [j_maxl]
  by_cases c : a < b
  · rw [if_pos ((pk_lLT ha hb).mpr c), show max a b = b by omega]
  · rw [if_neg (fun z => c ((pk_lLT ha hb).mp z)), show max a b = a by omega]
theorem j_maxl1 (hc : a ≤ b) (hb : b < 9223372036854775808) : rn (d + 1) mJ9_max_f86c9 [.long (lN a), .long (lN b)] h = some (some (.long (lN b)), h) := by
  rw [j_maxlN (by omega) hb, show max a b = b by omega]
theorem j_maxN1 (hc : a ≤ b) (hb : b < 2147483648) : rn (d + 1) mJ9_max_7cf53 [.int (nI a), .int (nI b)] h = some (some (.int (nI b)), h) := by
  rw [j_max]
  by_cases c : a < b
  · rw [if_pos (nI_lt c hb)]
  · rw [if_neg (nI_nlt (by omega) (by omega)), show a = b by omega]
theorem j_minlN (ha : a < 9223372036854775808) (hb : b < 9223372036854775808) : rn (d + 1) mJ9_min_f86c9 [.long (lN a), .long (lN b)] h = some (some (.long (lN (min a b))), h) := by
  rw [J9_min_f86c9_E]
  by_cases c : b < a
  · rw [show min a b = b by omega]
    conv => lhs; simp (disch := first | assumption | omega | decide | exact bI_or _) only [J9_min_f86c9_0, J9_min_f86c9_1, J9_min_f86c9_2, J9_min_f86c9_3b, J9_min_f86c9_6, J9_min_f86c9_7, J9_min_f86c9_10, J9_min_f86c9_11, show (0 : Int32) = nI 0 from rfl, exLt_c1, exLt_c2, exEq_c, exLt_t, exLt_f, exEq_s, exEq_t, exEq_f, exLt_mn, exLt_nm, exEq_mn, exEq_nm, exEq_mm, exEq_xf, exLtL_t, exLtL_f, exEqL_t, exEqL_f, exB_t, exB_f, exSw_t, exSw_f, exSw_0, klz_f, klz_g, kieq_f, kdivL, kdivI, kmodL, kmodI, knIL, lN_i, nI_add, pk_mul, pk_sub, pk_subm, kad1, kad2, lN_add, lN_mul, lN_sub, kkl_i, kkl_l, kkl_r, kkl_0, Option.bind_some, Option.toList_some, Option.toList_none, List.cons_append, List.nil_append, if_true, if_false, eq_self, not_true_eq_false, not_false_eq_true, ku2_eq, ku2_ne, pk_us, pk_un, pk_uLs, pk_uLn, kup_Is, kup_In, kup_Js, kup_Jn, ku2_ku2, kup_I, kup_J, knar1, knar0]
  · rw [show min a b = a by omega]
    conv => lhs; simp (disch := first | assumption | omega | decide | exact bI_or _) only [J9_min_f86c9_0, J9_min_f86c9_1, J9_min_f86c9_2, J9_min_f86c9_3b, J9_min_f86c9_6, J9_min_f86c9_7, J9_min_f86c9_10, J9_min_f86c9_11, show (0 : Int32) = nI 0 from rfl, exLt_c1, exLt_c2, exEq_c, exLt_t, exLt_f, exEq_s, exEq_t, exEq_f, exLt_mn, exLt_nm, exEq_mn, exEq_nm, exEq_mm, exEq_xf, exLtL_t, exLtL_f, exEqL_t, exEqL_f, exB_t, exB_f, exSw_t, exSw_f, exSw_0, klz_f, klz_g, kieq_f, kdivL, kdivI, kmodL, kmodI, knIL, lN_i, nI_add, pk_mul, pk_sub, pk_subm, kad1, kad2, lN_add, lN_mul, lN_sub, kkl_i, kkl_l, kkl_r, kkl_0, Option.bind_some, Option.toList_some, Option.toList_none, List.cons_append, List.nil_append, if_true, if_false, eq_self, not_true_eq_false, not_false_eq_true, ku2_eq, ku2_ne, pk_us, pk_un, pk_uLs, pk_uLn, kup_Is, kup_In, kup_Js, kup_Jn, ku2_ku2, kup_I, kup_J, knar1, knar0]
end CBL
