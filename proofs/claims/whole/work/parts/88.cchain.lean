/-! OWN: the class's chains -/
theorem nxG_stay {A : Nat → Nat} {u w k g : Nat} : ∀ (c j : Nat) (s : Nat × Nat), s.1 ≠ 0 → (∀ q, j ≤ q → q < j + c → s.2 ≤ cnO A u w k g q) → nxG A u w k g c j s = s
  | 0, j, s, _, _ => rfl
  | c + 1, j, s, h0, h => by
    rw [nxG, if_pos ⟨h0, h j (Nat.le_refl _) (by omega)⟩]
    exact nxG_stay c (j + 1) s h0 (fun q h1 h2 => h q (by omega) (by omega))
theorem nxG_min {A : Nat → Nat} {u w k g m : Nat} : ∀ (c j : Nat) (s : Nat × Nat), j ≤ m → m < j + c → (∀ q, j ≤ q → q < m → cnO A u w k g m < cnO A u w k g q) → (∀ q, m < q → q < j + c → cnO A u w k g m ≤ cnO A u w k g q) → (s.1 = 0 ∨ cnO A u w k g m < s.2) → nxG A u w k g c j s = (m + 1, cnO A u w k g m)
  | 0, j, s, h1, h2, _, _, _ => by omega
  | c + 1, j, s, h1, h2, h3, h4, h5 => by
    rw [nxG]
    by_cases e : j = m
    · subst e
      rw [if_neg (fun z => by omega)]
      exact nxG_stay c (j + 1) _ (Nat.succ_ne_zero _) (fun q a b => h4 q (by omega) (by omega))
    · refine nxG_min c (j + 1) _ (by omega) (by omega) (fun q a b => h3 q (by omega) b) (fun q a b => h4 q a (by omega)) ?_
      split
      · exact h5
      · exact Or.inr (h3 j (Nat.le_refl _) (by omega))
theorem nxG_0 {A : Nat → Nat} {u w k g j : Nat} {s : Nat × Nat} : nxG A u w k g 0 j s = s := rfl
section NXA
variable {A : Nat → Nat} {u w k g n b : Nat}
/-- how far a knock is from a target: by places -/
theorem cnO_p {j T : Nat} (hj : A k * u ≤ A j * u) (hT : T = A k * u + g * (1000000 * w)) : cnO A u w k g j = (A j * u - T) + (T - A j * u) := by
  unfold cnO dst
  rw [Nat.sub_mul]
  generalize g * (1000000 * w) = G at *
  omega
/-- the nearest one, as the class finds it: b is the first one not ahead of the target -/
def nrC (A : Nat → Nat) (n u k b T : Nat) : Nat := if b ≤ k + 1 then (if b < n then b + 1 else 0) else if n ≤ b then b else if T - A (b - 1) * u ≤ A b * u - T then b else b + 1
theorem nx_nr {T : Nat} (hmono : ∀ a c, k ≤ a → a < c → c < n → A a * u < A c * u) (hT : T = A k * u + g * (1000000 * w)) (hkb : k + 1 ≤ b) (hbn : b ≤ n) (h1 : ∀ j, k < j → j < b → A j * u < T) (h2 : ∀ j, b ≤ j → j < n → T ≤ A j * u) : (nxG A u w k g (n - (k + 1)) (k + 1) (0, 0)).1 = nrC A n u k b T ∧ (nrC A n u k b T ≠ 0 → (k + 1 < nrC A n u k b T ∧ nrC A n u k b T ≤ n) ∧ (nxG A u w k g (n - (k + 1)) (k + 1) (0, 0)).2 = (A (nrC A n u k b T - 1) * u - T) + (T - A (nrC A n u k b T - 1) * u)) := by
  have hd : ∀ j, k < j → j < n → cnO A u w k g j = (A j * u - T) + (T - A j * u) := fun j a c => cnO_p (Nat.le_of_lt (hmono k j (Nat.le_refl _) a c)) hT
  have hd1 : ∀ j, k < j → j < b → cnO A u w k g j = T - A j * u := fun j a c => by rw [hd j a (by omega)]; have := h1 j a c; omega
  have hd2 : ∀ j, b ≤ j → j < n → cnO A u w k g j = A j * u - T := fun j a c => by rw [hd j (by omega) c]; have := h2 j a c; omega
  have key : ∀ m, k < m → m < n → (∀ q, k < q → q < m → cnO A u w k g m < cnO A u w k g q) → (∀ q, m < q → q < n → cnO A u w k g m ≤ cnO A u w k g q) → nxG A u w k g (n - (k + 1)) (k + 1) (0, 0) = (m + 1, (A m * u - T) + (T - A m * u)) := fun m a c e1 e2 => by
    rw [nxG_min (m := m) (n - (k + 1)) (k + 1) (0, 0) (by omega) (by omega) (fun q x y => e1 q (by omega) y) (fun q x y => e2 q x (by omega)) (Or.inl rfl), hd m a c]
  unfold nrC
  by_cases c1 : b ≤ k + 1
  · rw [if_pos c1]
    by_cases c2 : b < n
    · rw [if_pos c2, key b (by omega) c2 (fun q x y => by omega) (fun q x y => by
        rw [hd2 b (Nat.le_refl _) c2, hd2 q (by omega) y]
        have := hmono b q (by omega) x y
        omega)]
      exact ⟨rfl, fun _ => ⟨by omega, rfl⟩⟩
    · rw [if_neg c2, show n - (k + 1) = 0 by omega]
      exact ⟨rfl, fun z => absurd rfl z⟩
  · rw [if_neg c1]
    by_cases c2 : n ≤ b
    · rw [if_pos c2, key (b - 1) (by omega) (by omega) (fun q x y => by
        rw [hd1 (b - 1) (by omega) (by omega), hd1 q (by omega) (by omega)]
        have := hmono q (b - 1) (by omega) y (by omega)
        have := h1 (b - 1) (by omega) (by omega)
        omega) (fun q x y => by omega)]
      exact ⟨by show b - 1 + 1 = b; omega, fun _ => ⟨by omega, rfl⟩⟩
    · rw [if_neg c2]
      have a1 := h1 (b - 1) (by omega) (by omega)
      have a2 := h2 b (Nat.le_refl _) (by omega)
      by_cases c3 : T - A (b - 1) * u ≤ A b * u - T
      · rw [if_pos c3, key (b - 1) (by omega) (by omega) (fun q x y => by
          rw [hd1 (b - 1) (by omega) (by omega), hd1 q (by omega) (by omega)]
          have := hmono q (b - 1) (by omega) y (by omega)
          omega) (fun q x y => by
          rw [hd1 (b - 1) (by omega) (by omega), hd2 q (by omega) (by omega)]
          by_cases e : q = b
          · rw [e]; exact c3
          · have := hmono b q (by omega) (by omega) y
            omega)]
        exact ⟨by show b - 1 + 1 = b; omega, fun _ => ⟨by omega, rfl⟩⟩
      · rw [if_neg c3, key b (by omega) (by omega) (fun q x y => by
          rw [hd2 b (Nat.le_refl _) (by omega), hd1 q (by omega) (by omega)]
          by_cases e : q = b - 1
          · rw [e]; omega
          · have := hmono q (b - 1) (by omega) (by omega) (by omega)
            omega) (fun q x y => by
          rw [hd2 b (Nat.le_refl _) (by omega), hd2 q (by omega) y]
          have := hmono b q (by omega) x y
          omega)]
        exact ⟨rfl, fun _ => ⟨by omega, rfl⟩⟩
end NXA
/-- chains made ready: places; chains from knock a on -/
def cPl (i : tI) (J : tL) (n : Nat) (A : Nat → Nat) (u : Nat) : Prop := i 80 0 = nI n ∧ ∀ j, j < n → J 84 j = lN (A j * u)
def cCh (I : tI) (n : Nat) (C : Nat → Nat × Nat × Nat) (a : Nat) : Prop := ∀ j, a ≤ j → j < n → I 81 j = nI (C j).1 ∧ I 82 j = nI (C j).2.1 ∧ I 83 j = nI (C j).2.2
section CCN
variable {d : Nat} {h : kH} {i : tI} {l : tL} {I : tI} {J : tL} {nw df : Nat} {P : Nat → Nat}
theorem c1_80 : isC1 80 := by decide
theorem c_nearestTo {A : Nat → Nat} {n u k b T : Nat} (hp : cPl i J n A u) (hn : n ≤ 200) (hb : ∀ j, j < n → A j * u ≤ 600000000000000000) (hT : T ≤ 1200000000000000000) (hkb : k + 1 ≤ b) (hbn : b ≤ n) (h1 : ∀ j, k < j → j < b → A j * u < T) (h2 : ∀ j, b ≤ j → j < n → T ≤ A j * u) : rn (d + 1) mX0_nearestTo [.ref 80, .long (lN T), .int (nI k), .int (nI b)] (mH h i l I J nw df P) = some (some (.int (oN (nrC A n u k b T))), (mH h i l I J nw df P)) := by
  have c1 := c1_80
  obtain ⟨p0, p1⟩ := hp
  rw [X0_nearestTo_E]
  unfold nrC
  by_cases c1' : b ≤ k + 1
  · rw [if_pos c1']
    by_cases c2 : b < n
    · rw [if_pos c2]
      conv => lhs; simp (disch := first | assumption | omega | decide | exact bI_or _) only [p0, X0_nearestTo_0, X0_nearestTo_2, X0_nearestTo_3, X0_nearestTo_4, X0_nearestTo_6, X0_nearestTo_8, X0_nearestTo_9b, X0_nearestTo_12, X0_nearestTo_14, X0_nearestTo_15, X0_nearestTo_18b, X0_nearestTo_21, X0_nearestTo_23, X0_nearestTo_26, X0_nearestTo_27, X0_nearestTo_28, X0_nearestTo_30, X0_nearestTo_31, X0_nearestTo_34b, X0_nearestTo_37, X0_nearestTo_39, X0_nearestTo_40, X0_nearestTo_41, X0_nearestTo_42, X0_nearestTo_45, X0_nearestTo_47, X0_nearestTo_48, X0_nearestTo_49, X0_nearestTo_50, X0_nearestTo_53, X0_nearestTo_55, X0_nearestTo_56, X0_nearestTo_57, X0_nearestTo_58, X0_nearestTo_59b, X0_nearestTo_62, X0_nearestTo_64, X0_nearestTo_67, X0_nearestTo_69, show (1 : Int32) = nI 1 from rfl, kg1_0, ↓(show (-1 : Int32) = mI 1 from rfl), kg1_4, kl1_4, ks1_4, show (0 : Int32) = nI 0 from rfl, exLt_c1, exLt_c2, exEq_c, exLt_t, exLt_f, exEq_s, exEq_t, exEq_f, exLt_mn, exLt_nm, exEq_mn, exEq_nm, exEq_mm, exEq_xf, exLtL_t, exLtL_f, exEqL_t, exEqL_f, exB_t, exB_f, exSw_t, exSw_f, exSw_0, klz_f, klz_g, kieq_f, kdivL, kdivI, kmodL, kmodI, knIL, lN_i, nI_add, pk_mul, pk_sub, pk_subm, kad1, kad2, lN_add, lN_mul, lN_sub, kkl_i, kkl_l, kkl_r, kkl_0, Option.bind_some, Option.toList_some, Option.toList_none, List.cons_append, List.nil_append, if_true, if_false, eq_self, not_true_eq_false, not_false_eq_true, ku2_eq, ku2_ne, pk_us, pk_un, pk_uLs, pk_uLn, kup_Is, kup_In, kup_Js, kup_Jn, ku2_ku2, kup_I, kup_J, knar1, knar0]
      rfl
    · rw [if_neg c2]
      conv => lhs; simp (disch := first | assumption | omega | decide | exact bI_or _) only [p0, X0_nearestTo_0, X0_nearestTo_2, X0_nearestTo_3, X0_nearestTo_4, X0_nearestTo_6, X0_nearestTo_8, X0_nearestTo_9b, X0_nearestTo_12, X0_nearestTo_14, X0_nearestTo_15, X0_nearestTo_18b, X0_nearestTo_21, X0_nearestTo_23, X0_nearestTo_26, X0_nearestTo_27, X0_nearestTo_28, X0_nearestTo_30, X0_nearestTo_31, X0_nearestTo_34b, X0_nearestTo_37, X0_nearestTo_39, X0_nearestTo_40, X0_nearestTo_41, X0_nearestTo_42, X0_nearestTo_45, X0_nearestTo_47, X0_nearestTo_48, X0_nearestTo_49, X0_nearestTo_50, X0_nearestTo_53, X0_nearestTo_55, X0_nearestTo_56, X0_nearestTo_57, X0_nearestTo_58, X0_nearestTo_59b, X0_nearestTo_62, X0_nearestTo_64, X0_nearestTo_67, X0_nearestTo_69, show (1 : Int32) = nI 1 from rfl, kg1_0, ↓(show (-1 : Int32) = mI 1 from rfl), kg1_4, kl1_4, ks1_4, show (0 : Int32) = nI 0 from rfl, exLt_c1, exLt_c2, exEq_c, exLt_t, exLt_f, exEq_s, exEq_t, exEq_f, exLt_mn, exLt_nm, exEq_mn, exEq_nm, exEq_mm, exEq_xf, exLtL_t, exLtL_f, exEqL_t, exEqL_f, exB_t, exB_f, exSw_t, exSw_f, exSw_0, klz_f, klz_g, kieq_f, kdivL, kdivI, kmodL, kmodI, knIL, lN_i, nI_add, pk_mul, pk_sub, pk_subm, kad1, kad2, lN_add, lN_mul, lN_sub, kkl_i, kkl_l, kkl_r, kkl_0, Option.bind_some, Option.toList_some, Option.toList_none, List.cons_append, List.nil_append, if_true, if_false, eq_self, not_true_eq_false, not_false_eq_true, ku2_eq, ku2_ne, pk_us, pk_un, pk_uLs, pk_uLn, kup_Is, kup_In, kup_Js, kup_Jn, ku2_ku2, kup_I, kup_J, knar1, knar0]
      rfl
  · rw [if_neg c1']
    by_cases c2 : n ≤ b
    · rw [if_pos c2, oN_1 (by omega)]
      conv => lhs; simp (disch := first | assumption | omega | decide | exact bI_or _) only [p0, X0_nearestTo_0, X0_nearestTo_2, X0_nearestTo_3, X0_nearestTo_4, X0_nearestTo_6, X0_nearestTo_8, X0_nearestTo_9b, X0_nearestTo_12, X0_nearestTo_14, X0_nearestTo_15, X0_nearestTo_18b, X0_nearestTo_21, X0_nearestTo_23, X0_nearestTo_26, X0_nearestTo_27, X0_nearestTo_28, X0_nearestTo_30, X0_nearestTo_31, X0_nearestTo_34b, X0_nearestTo_37, X0_nearestTo_39, X0_nearestTo_40, X0_nearestTo_41, X0_nearestTo_42, X0_nearestTo_45, X0_nearestTo_47, X0_nearestTo_48, X0_nearestTo_49, X0_nearestTo_50, X0_nearestTo_53, X0_nearestTo_55, X0_nearestTo_56, X0_nearestTo_57, X0_nearestTo_58, X0_nearestTo_59b, X0_nearestTo_62, X0_nearestTo_64, X0_nearestTo_67, X0_nearestTo_69, show (1 : Int32) = nI 1 from rfl, kg1_0, ↓(show (-1 : Int32) = mI 1 from rfl), kg1_4, kl1_4, ks1_4, show (0 : Int32) = nI 0 from rfl, exLt_c1, exLt_c2, exEq_c, exLt_t, exLt_f, exEq_s, exEq_t, exEq_f, exLt_mn, exLt_nm, exEq_mn, exEq_nm, exEq_mm, exEq_xf, exLtL_t, exLtL_f, exEqL_t, exEqL_f, exB_t, exB_f, exSw_t, exSw_f, exSw_0, klz_f, klz_g, kieq_f, kdivL, kdivI, kmodL, kmodI, knIL, lN_i, nI_add, pk_mul, pk_sub, pk_subm, kad1, kad2, lN_add, lN_mul, lN_sub, kkl_i, kkl_l, kkl_r, kkl_0, Option.bind_some, Option.toList_some, Option.toList_none, List.cons_append, List.nil_append, if_true, if_false, eq_self, not_true_eq_false, not_false_eq_true, ku2_eq, ku2_ne, pk_us, pk_un, pk_uLs, pk_uLn, kup_Is, kup_In, kup_Js, kup_Jn, ku2_ku2, kup_I, kup_J, knar1, knar0]
    · rw [if_neg c2]
      have a1 := h1 (b - 1) (by omega) (by omega)
      have a2 := h2 b (Nat.le_refl _) (by omega)
      have b1 := hb (b - 1) (by omega)
      have b2 := hb b (by omega)
      have e1 := p1 (b - 1) (by omega)
      have e2 := p1 b (by omega)
      generalize A (b - 1) * u = x at *
      generalize A b * u = y at *
      by_cases c3 : T - x ≤ y - T
      · rw [if_pos c3, oN_1 (by omega)]
        conv => lhs; simp (disch := first | assumption | omega | decide | exact bI_or _) only [p0, e1, e2, X0_nearestTo_0, X0_nearestTo_2, X0_nearestTo_3, X0_nearestTo_4, X0_nearestTo_6, X0_nearestTo_8, X0_nearestTo_9b, X0_nearestTo_12, X0_nearestTo_14, X0_nearestTo_15, X0_nearestTo_18b, X0_nearestTo_21, X0_nearestTo_23, X0_nearestTo_26, X0_nearestTo_27, X0_nearestTo_28, X0_nearestTo_30, X0_nearestTo_31, X0_nearestTo_34b, X0_nearestTo_37, X0_nearestTo_39, X0_nearestTo_40, X0_nearestTo_41, X0_nearestTo_42, X0_nearestTo_45, X0_nearestTo_47, X0_nearestTo_48, X0_nearestTo_49, X0_nearestTo_50, X0_nearestTo_53, X0_nearestTo_55, X0_nearestTo_56, X0_nearestTo_57, X0_nearestTo_58, X0_nearestTo_59b, X0_nearestTo_62, X0_nearestTo_64, X0_nearestTo_67, X0_nearestTo_69, show (1 : Int32) = nI 1 from rfl, kg1_0, ↓(show (-1 : Int32) = mI 1 from rfl), kg1_4, kl1_4, ks1_4, show (0 : Int32) = nI 0 from rfl, exLt_c1, exLt_c2, exEq_c, exLt_t, exLt_f, exEq_s, exEq_t, exEq_f, exLt_mn, exLt_nm, exEq_mn, exEq_nm, exEq_mm, exEq_xf, exLtL_t, exLtL_f, exEqL_t, exEqL_f, exB_t, exB_f, exSw_t, exSw_f, exSw_0, klz_f, klz_g, kieq_f, kdivL, kdivI, kmodL, kmodI, knIL, lN_i, nI_add, pk_mul, pk_sub, pk_subm, kad1, kad2, lN_add, lN_mul, lN_sub, kkl_i, kkl_l, kkl_r, kkl_0, Option.bind_some, Option.toList_some, Option.toList_none, List.cons_append, List.nil_append, if_true, if_false, eq_self, not_true_eq_false, not_false_eq_true, ku2_eq, ku2_ne, pk_us, pk_un, pk_uLs, pk_uLn, kup_Is, kup_In, kup_Js, kup_Jn, ku2_ku2, kup_I, kup_J, knar1, knar0]
      · rw [if_neg c3, oN_1 (by omega)]
        conv => lhs; simp (disch := first | assumption | omega | decide | exact bI_or _) only [p0, e1, e2, X0_nearestTo_0, X0_nearestTo_2, X0_nearestTo_3, X0_nearestTo_4, X0_nearestTo_6, X0_nearestTo_8, X0_nearestTo_9b, X0_nearestTo_12, X0_nearestTo_14, X0_nearestTo_15, X0_nearestTo_18b, X0_nearestTo_21, X0_nearestTo_23, X0_nearestTo_26, X0_nearestTo_27, X0_nearestTo_28, X0_nearestTo_30, X0_nearestTo_31, X0_nearestTo_34b, X0_nearestTo_37, X0_nearestTo_39, X0_nearestTo_40, X0_nearestTo_41, X0_nearestTo_42, X0_nearestTo_45, X0_nearestTo_47, X0_nearestTo_48, X0_nearestTo_49, X0_nearestTo_50, X0_nearestTo_53, X0_nearestTo_55, X0_nearestTo_56, X0_nearestTo_57, X0_nearestTo_58, X0_nearestTo_59b, X0_nearestTo_62, X0_nearestTo_64, X0_nearestTo_67, X0_nearestTo_69, show (1 : Int32) = nI 1 from rfl, kg1_0, ↓(show (-1 : Int32) = mI 1 from rfl), kg1_4, kl1_4, ks1_4, show (0 : Int32) = nI 0 from rfl, exLt_c1, exLt_c2, exEq_c, exLt_t, exLt_f, exEq_s, exEq_t, exEq_f, exLt_mn, exLt_nm, exEq_mn, exEq_nm, exEq_mm, exEq_xf, exLtL_t, exLtL_f, exEqL_t, exEqL_f, exB_t, exB_f, exSw_t, exSw_f, exSw_0, klz_f, klz_g, kieq_f, kdivL, kdivI, kmodL, kmodI, knIL, lN_i, nI_add, pk_mul, pk_sub, pk_subm, kad1, kad2, lN_add, lN_mul, lN_sub, kkl_i, kkl_l, kkl_r, kkl_0, Option.bind_some, Option.toList_some, Option.toList_none, List.cons_append, List.nil_append, if_true, if_false, eq_self, not_true_eq_false, not_false_eq_true, ku2_eq, ku2_ne, pk_us, pk_un, pk_uLs, pk_uLn, kup_Is, kup_In, kup_Js, kup_Jn, ku2_ku2, kup_I, kup_J, knar1, knar0]
        rfl
end CCN
