/-! OWN: filters: a whole step, the reference -/
def okLet (c b : Nat) : Prop := (c = 97 ∨ c = 98 ∨ c = 107 ∨ c = 114 ∨ c = 119 ∨ c = 120 ∨ c = 121 ∨ c = 109) ∧ b < 100 ∧ (c = 107 → 0 < b)
theorem fs_m {b k : Nat} {acc : List (Nat × Nat)} {x y' : Nat × Nat} (h : y' ∈ fs 109 b k acc x) : (∃ y ∈ acc, y'.1 = y.1 ∧ (y'.2 = y.2 ∨ y'.2 ≤ 99)) ∨ y' = x := by
  rcases List.eq_nil_or_concat acc with h0 | ⟨ac, y, h0⟩
  · subst h0
    have : y' ∈ [x] := h
    exact Or.inr (List.mem_singleton.mp this)
  · rw [List.concat_eq_append] at h0
    subst h0
    have hfs : fs 109 b k (ac ++ [y]) x = if b ≤ x.1 - y.1 then (ac ++ [y]) ++ [x] else ac ++ [(y.1, min 99 (y.2 + x.2))] := by simp [fs]
    rw [hfs] at h
    split at h
    · rcases List.mem_append.mp h with z | z
      · exact Or.inl ⟨y', z, rfl, Or.inl rfl⟩
      · exact Or.inr (List.mem_singleton.mp z)
    · rcases List.mem_append.mp h with z | z
      · exact Or.inl ⟨y', List.mem_append_left _ z, rfl, Or.inl rfl⟩
      · rw [List.mem_singleton.mp z]
        exact Or.inl ⟨y, by simp, rfl, Or.inr (by show min 99 (y.2 + x.2) ≤ 99; omega)⟩
section RF3
variable {d : Nat} {h : kH} {i : Nat → Nat → Int32} {l : Nat → Nat → Int64} {J : Nat → Nat → Int64} {nw df : Nat} {P : Nat → Nat}
theorem r_goL {c b n : Nat} (hc : okLet c b) (hn : n ≤ 200) (hm : i 217 22 = nI n) : ∀ (r : List (Nat × Nat)) (k : Nat) (acc : List (Nat × Nat)) (I : Nat → Nat → Int32), k + r.length = n → acc.length ≤ k → kRw (I 226) (I 227) 0 acc → kRw (I 226) (I 227) k r → (∀ x ∈ r, x.1 < 1000000 ∧ x.2 < 1000) → r.Pairwise (fun x y => x.1 ≤ y.1) → (c = 109 → ∀ y ∈ acc, (∀ x ∈ r, y.1 ≤ x.1) ∧ y.2 < 1000) →
    ∃ T S : Nat → Int32, ex (d + 1) mX12_goesThrough 5 [some (.ref 217), some (.int (nI c)), some (.int (nI b)), some (.int (nI acc.length)), some (.int (nI k))] [] (mH h i l I J nw df P) = ex (d + 1) mX12_goesThrough 137 [some (.ref 217), some (.int (nI c)), some (.int (nI b)), some (.int (nI (fgo c b r k acc).length)), some (.int (nI n))] [] (mH h i l (va_up (va_up I 226 T) 227 S) J nw df P) ∧ kRw T S 0 (fgo c b r k acc)
  | [], k, acc, I, hk, ha, hP, hR, hb, hs, hm9 => by
    have hk : k = n := hk
    subst hk
    refine ⟨I 226, I 227, ?_, hP⟩
    rw [kup_two rfl rfl, X12_goesThrough_5]
    simp only [X12_goesThrough_7, X12_goesThrough_8, X12_goesThrough_11, g13_22, hm, Option.bind_some, fgo]
    rw [if_pos (nI_le (Nat.le_refl k) (by omega))]
  | x :: r, k, acc, I, hk, ha, hP, hR, hb, hs, hm9 => by
    have hk : k + (r.length + 1) = n := hk
    have hx := hR 0 x rfl
    rw [Nat.add_zero] at hx
    have hxb := hb x List.mem_cons_self
    have hpre : rPre i I n b k acc x := ⟨hn, hm, by omega, hc.2.1, ha, hP, hx.1, hx.2, hxb.1, hxb.2⟩
    have hstep : rStep d h i l I J nw df P c b k acc x := by
      rcases hc.1 with rfl | rfl | rfl | rfl | rfl | rfl | rfl | rfl
      · exact r_go_a hpre
      · exact r_go_b hpre
      · exact r_go_k hpre (hc.2.2 rfl)
      · exact r_go_r hpre
      · exact r_go_w hpre
      · exact r_go_x hpre
      · exact r_go_y hpre
      · exact r_go_m hpre (fun y hy => ⟨(hm9 rfl y hy).1 x List.mem_cons_self, (hm9 rfl y hy).2⟩)
    obtain ⟨T1, S1, e1, q1, q2⟩ := hstep
    have hpw := List.pairwise_cons.mp hs
    obtain ⟨T, S, e2, q3⟩ := r_goL hc hn hm r (k + 1) (fs c b k acc x) (va_up (va_up I 226 T1) 227 S1) (by omega) (Nat.le_trans (fs_len c b k acc x) (by omega))
      (by rw [kup_Is, kup_In (by decide), kup_Is]; exact q1)
      (by
        intro j y hj
        rw [kup_Is, kup_In (by decide), kup_Is, (q2 (k + 1 + j) (by omega)).1, (q2 (k + 1 + j) (by omega)).2]
        have := hR (j + 1) y hj
        rw [show k + 1 + j = k + (j + 1) by omega]
        exact this)
      (fun y hy => hb y (List.mem_cons_of_mem _ hy)) hpw.2
      (by
        intro h9 y' hy'
        subst h9
        rcases fs_m hy' with ⟨y, hy, e, e2⟩ | e
        · have := hm9 rfl y hy
          refine ⟨fun z hz => by rw [e]; exact this.1 z (List.mem_cons_of_mem _ hz), ?_⟩
          rcases e2 with e2 | e2
          · rw [e2]; exact this.2
          · omega
        · rw [e]
          exact ⟨fun z hz => hpw.1 z hz, hxb.2⟩)
    refine ⟨T, S, ?_, q3⟩
    rw [e1, e2]
    congr 2
    rw [kup_com (va_up I 226 T1) S1 T (show (226 : Nat) ≠ 227 by decide), kup_I, kup_I]
theorem r_goesThrough {c b : Nat} {L : List (Nat × Nat)} {I : Nat → Nat → Int32} (hc : okLet c b) (hn : L.length ≤ 200) (hm : i 217 22 = nI L.length) (hR : kRw (I 226) (I 227) 0 L) (hb : ∀ x ∈ L, x.1 < 1000000 ∧ x.2 < 1000) (hs : L.Pairwise (fun x y => x.1 ≤ y.1)) : ∃ T S : Nat → Int32, rn (d + 2) mX12_goesThrough [.ref 217, .int (nI c), .int (nI b)] (mH h i l I J nw df P) = some (none, mH h (ku2 i 217 22 (nI (fgo c b L 0 []).length)) l (va_up (va_up I 226 T) 227 S) J nw df P) ∧ kRw T S 0 (fgo c b L 0 []) := by
  obtain ⟨T, S, e1, q1⟩ := r_goL (d := d) (h := h) (l := l) (J := J) (nw := nw) (df := df) (P := P) hc hn hm L 0 [] I (by omega) (Nat.le_refl _) (fun j y hj => by simp at hj) hR hb hs (fun _ y hy => by simp at hy)
  refine ⟨T, S, ?_, q1⟩
  rw [X12_goesThrough_E]
  conv => lhs; simp only [X12_goesThrough_0, X12_goesThrough_1, X12_goesThrough_2, X12_goesThrough_3, X12_goesThrough_7, X12_goesThrough_8, X12_goesThrough_11, X12_goesThrough_14, X12_goesThrough_15, X12_goesThrough_17, X12_goesThrough_20, X12_goesThrough_21, X12_goesThrough_24, X12_goesThrough_26, X12_goesThrough_27, X12_goesThrough_29, X12_goesThrough_30, X12_goesThrough_33, X12_goesThrough_35, X12_goesThrough_36, X12_goesThrough_37, X12_goesThrough_38, X12_goesThrough_40, X12_goesThrough_41, X12_goesThrough_44, X12_goesThrough_47, X12_goesThrough_48, X12_goesThrough_49, X12_goesThrough_51, X12_goesThrough_54, X12_goesThrough_55, X12_goesThrough_58, X12_goesThrough_60, X12_goesThrough_61, X12_goesThrough_64, X12_goesThrough_66, X12_goesThrough_67, X12_goesThrough_68, X12_goesThrough_69, X12_goesThrough_70, X12_goesThrough_71, X12_goesThrough_72, X12_goesThrough_73, X12_goesThrough_75, X12_goesThrough_76, X12_goesThrough_79, X12_goesThrough_82, X12_goesThrough_83, X12_goesThrough_84, X12_goesThrough_86, X12_goesThrough_89, X12_goesThrough_90, X12_goesThrough_91, X12_goesThrough_92, X12_goesThrough_93, X12_goesThrough_96, X12_goesThrough_97, X12_goesThrough_99, X12_goesThrough_102, X12_goesThrough_103, X12_goesThrough_106, X12_goesThrough_107, X12_goesThrough_108, X12_goesThrough_109, X12_goesThrough_111, X12_goesThrough_112, X12_goesThrough_115, X12_goesThrough_116, X12_goesThrough_117, X12_goesThrough_118, X12_goesThrough_119, X12_goesThrough_120, X12_goesThrough_123, X12_goesThrough_125, X12_goesThrough_126, X12_goesThrough_127, X12_goesThrough_130, X12_goesThrough_131, X12_goesThrough_134, X12_goesThrough_137, X12_goesThrough_138, X12_goesThrough_139, X12_goesThrough_142, kkl_i, kkl_r, k_lit0]
  rw [show (some (Value.int (nI 0)) : Option Value) = some (.int (nI ([] : List (Nat × Nat)).length)) from rfl]
  have e2 : ex (d + 1) mX12_goesThrough 5 [some (.ref 217), some (.int (nI c)), some (.int (nI b)), some (.int (nI ([] : List (Nat × Nat)).length)), some (.int (nI ([] : List (Nat × Nat)).length))] [] (mH h i l I J nw df P) = _ := e1
  rw [e2]
  simp only [X12_goesThrough_137, X12_goesThrough_138, X12_goesThrough_139, X12_goesThrough_142, p13_22, Option.bind_some]
/-- all steps of a file, one behind the other (m are left, from the k-th on) -/
def fAll (F : Nat → Nat) : Nat → Nat → List (Nat × Nat) → List (Nat × Nat)
  | 0, _, L => L
  | m + 1, k, L => fAll F m (k + 1) (fgo (F (36 + 2 * k)) (F (37 + 2 * k)) L 0 [])
end RF3
