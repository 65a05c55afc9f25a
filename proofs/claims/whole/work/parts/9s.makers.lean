/-! OWN: the makers of objects -/
section MKA
variable {d : Nat} {b : Nat → Option kE} {C : List kE} {s : Nat}
theorem hq_p0 {D : List kE} {ci k : Nat} {ty : FieldType} {v : Value} {fs : List Value} (hi : D[0]? = some (.inr (ci, fs))) (hk : k < fs.length) (hf : kFit ty v = true) : kput (hq b C D s) ci (32 + C.length) k ty v = some (hq b C (D.set 0 (.inr (ci, fs.set k v))) s) := hq_put (i := 0) hi hk hf
theorem hq_sp {D0 D1 : List kE} : hq b (C ++ D0) D1 s = hq b C (D0 ++ D1) s := by
  unfold hq
  rw [List.append_assoc]
theorem hq_1 {D : List kE} {i : Nat} {e : kE} (hi : D[i]? = some e) : (hq b C D s).1 (32 + C.length + i) = some e ∧ i < D.length := by
  refine ⟨?_, ?_⟩
  · unfold hq
    rw [hl_at (by omega), show 32 + C.length + i - 32 = C.length + i by omega, List.getElem?_append_right (by omega), show C.length + i - C.length = i by omega]
    exact hi
  · refine Nat.lt_of_not_le (fun z => ?_)
    rw [List.getElem?_eq_none z] at hi
    cases hi
theorem hq_u {D : List kE} {i : Nat} {e : kE} (h : i < D.length) : kup (hq b C D s) (32 + C.length + i) e = hq b C (D.set i e) s := by
  unfold hq
  rw [hl_up (by omega) (by rw [List.length_append]; omega), show 32 + C.length + i - 32 = C.length + i by omega, List.set_append_right _ _ (by omega), show C.length + i - C.length = i by omega]
theorem hq_g0 {D : List kE} {ci k : Nat} {v : Value} {fs : List Value} (hi : D[0]? = some (.inr (ci, fs))) (hv : fs[k]? = some v) : kfld (hq b C D s) ci (32 + C.length) k = some v := by
  have e : (hq b C D s).1 (32 + C.length) = some (.inr (ci, fs)) := (hq_1 (i := 0) hi).1
  unfold kfld
  rw [e]
  show (if ci = ci then fs[k]? else none) = some v
  rw [if_pos rfl, hv]
theorem hq_as {D : List kE} {i j n a : Nat} {f : Nat → Option Nat} {gs : List Value} (hi : D[i]? = some (.inl (.object "KnockFinder$State", n, .inr (.inr (.inr (.inr f)))))) (ha : a < n ∧ n < 2147483648) (hj : D[j]? = some (.inr (8, gs))) : kas (hq b C D s) 8 (32 + C.length + i) (nI a) (32 + C.length + j) = some (hq b C (D.set i (.inl (.object "KnockFinder$State", n, .inr (.inr (.inr (.inr (va_up f a (some (32 + C.length + j)))))))))  s) := by
  obtain ⟨e, hl⟩ := hq_1 (b := b) (C := C) (s := s) hi
  have e2 := (hq_1 (b := b) (C := C) (s := s) hj).1
  have ek : kis (hq b C D s) 8 (32 + C.length + j) = true := by
    unfold kis
    rw [e2]
    rfl
  unfold kas
  rw [e]
  show (if kin (nI a) n ∧ 32 ≤ 32 + C.length + i ∧ kis (hq b C D s) 8 (32 + C.length + j) = true ∧ "KnockFinder$State" = "KnockFinder$State" then some (kup (hq b C D s) (32 + C.length + i) (.inl (.object "KnockFinder$State", n, .inr (.inr (.inr (.inr (va_up f (nI a).toNatClampNeg (some (32 + C.length + j))))))))) else none) = _
  rw [if_pos ⟨nI_kin ha.1 ha.2, by omega, ek, rfl⟩, nI_clamp (by omega), hq_u hl]
theorem hq_bs {D : List kE} {i n a : Nat} {x : Int32} {f : Nat → Int32} (hi : D[i]? = some (.inl (.byte, n, .inl f))) (ha : a < n) (hn : n < 2147483648) : kbs (hq b C D s) (32 + C.length + i) (nI a) x = some (hq b C (D.set i (.inl (.byte, n, .inl (upd f a (vp_nar .byte x))))) s) := by
  obtain ⟨e, hl⟩ := hq_1 (b := b) (C := C) (s := s) hi
  unfold kbs
  rw [e]
  show (if kin (nI a) n ∧ 32 ≤ 32 + C.length + i then some (kup (hq b C D s) (32 + C.length + i) (.inl (.byte, n, .inl (upd f (nI a).toNatClampNeg (vp_nar .byte x))))) else none) = _
  rw [if_pos ⟨nI_kin ha hn, by omega⟩, nI_clamp (by omega), hq_u hl]
def cX6 (a : Nat) : List kE := [(.inr (7, [.ref (a + 1), .ref (a + 2), .int 0])), (.inl (.int, 10, .inl (fun _ => 0))), (.inl (.int, 10, .inl (fun _ => 0)))]
theorem i_X6 : rn (d + 1) mX6_init [.ref (32 + C.length)] (hq b C [(.inr (7, kdef 7))] s) = some (none, hq b C (cX6 (32 + C.length)) (s + 10 + 10)) := by
  rw [X6_init_E]
  rw [X6_init_0]
  rw [X6_init_1]
  rw [X6_init_4]
  rw [X6_init_5]
  rw [X6_init_7, if_pos (by decide), hq_top, hq_new]
  show ex d mX6_init 9 [some (.ref (32 + C.length))] [.ref (32 + C.length + 1), .ref (32 + C.length)] (hq b C [(.inr (7, kdef 7)), (.inl (.int, 10, .inl (fun _ => 0)))] (s + 10)) = _
  rw [X6_init_9, hq_p0 (fs := kdef 7) rfl (show 0 < 3 by decide) rfl]
  show ex d mX6_init 12 [some (.ref (32 + C.length))] [] (hq b C [(.inr (7, [.ref (32 + C.length + 1), .null, .int 0])), (.inl (.int, 10, .inl (fun _ => 0)))] (s + 10)) = _
  rw [X6_init_12]
  rw [X6_init_13]
  rw [X6_init_15, if_pos (by decide), hq_top, hq_new]
  show ex d mX6_init 17 [some (.ref (32 + C.length))] [.ref (32 + C.length + 2), .ref (32 + C.length)] (hq b C [(.inr (7, [.ref (32 + C.length + 1), .null, .int 0])), (.inl (.int, 10, .inl (fun _ => 0))), (.inl (.int, 10, .inl (fun _ => 0)))] (s + 10 + 10)) = _
  rw [X6_init_17, hq_p0 (fs := [.ref (32 + C.length + 1), .null, .int 0]) rfl (show 1 < 3 by decide) rfl]
  show ex d mX6_init 20 [some (.ref (32 + C.length))] [] (hq b C [(.inr (7, [.ref (32 + C.length + 1), .ref (32 + C.length + 2), .int 0])), (.inl (.int, 10, .inl (fun _ => 0))), (.inl (.int, 10, .inl (fun _ => 0)))] (s + 10 + 10)) = _
  rw [X6_init_20]
  rw [X6_init_21]
  rw [X6_init_22, hq_p0 (fs := [.ref (32 + C.length + 1), .ref (32 + C.length + 2), .int 0]) rfl (show 2 < 3 by decide) rfl]
  show ex d mX6_init 25 [some (.ref (32 + C.length))] [] (hq b C [(.inr (7, [.ref (32 + C.length + 1), .ref (32 + C.length + 2), .int 0])), (.inl (.int, 10, .inl (fun _ => 0))), (.inl (.int, 10, .inl (fun _ => 0)))] (s + 10 + 10)) = _
  rw [X6_init_25]
  rfl
theorem j_X6 {D0 : List kE} : rn (d + 1) mX6_init [.ref (32 + C.length + D0.length)] (hq b C (D0 ++ [(.inr (7, kdef 7))]) s) = some (none, hq b C (D0 ++ cX6 (32 + C.length + D0.length)) (s + 10 + 10)) := by
  have e := i_X6 (d := d) (b := b) (C := C ++ D0) (s := s)
  rw [hq_sp, hq_sp, List.length_append, ← Nat.add_assoc] at e
  exact e
def cX2 (a : Nat) : List kE := [(.inr (3, [.ref (a + 1), .ref (a + 2), .int 0])), (.inl (.int, 200, .inl (fun _ => 0))), (.inl (.int, 200, .inl (fun _ => 0)))]
theorem i_X2 : rn (d + 1) mX2_init [.ref (32 + C.length)] (hq b C [(.inr (3, kdef 3))] s) = some (none, hq b C (cX2 (32 + C.length)) (s + 200 + 200)) := by
  rw [X2_init_E]
  rw [X2_init_0]
  rw [X2_init_1]
  rw [X2_init_4]
  rw [X2_init_5]
  rw [X2_init_8, if_pos (by decide), hq_top, hq_new]
  show ex d mX2_init 10 [some (.ref (32 + C.length))] [.ref (32 + C.length + 1), .ref (32 + C.length)] (hq b C [(.inr (3, kdef 3)), (.inl (.int, 200, .inl (fun _ => 0)))] (s + 200)) = _
  rw [X2_init_10, hq_p0 (fs := kdef 3) rfl (show 0 < 3 by decide) rfl]
  show ex d mX2_init 13 [some (.ref (32 + C.length))] [] (hq b C [(.inr (3, [.ref (32 + C.length + 1), .null, .int 0])), (.inl (.int, 200, .inl (fun _ => 0)))] (s + 200)) = _
  rw [X2_init_13]
  rw [X2_init_14]
  rw [X2_init_17, if_pos (by decide), hq_top, hq_new]
  show ex d mX2_init 19 [some (.ref (32 + C.length))] [.ref (32 + C.length + 2), .ref (32 + C.length)] (hq b C [(.inr (3, [.ref (32 + C.length + 1), .null, .int 0])), (.inl (.int, 200, .inl (fun _ => 0))), (.inl (.int, 200, .inl (fun _ => 0)))] (s + 200 + 200)) = _
  rw [X2_init_19, hq_p0 (fs := [.ref (32 + C.length + 1), .null, .int 0]) rfl (show 1 < 3 by decide) rfl]
  show ex d mX2_init 22 [some (.ref (32 + C.length))] [] (hq b C [(.inr (3, [.ref (32 + C.length + 1), .ref (32 + C.length + 2), .int 0])), (.inl (.int, 200, .inl (fun _ => 0))), (.inl (.int, 200, .inl (fun _ => 0)))] (s + 200 + 200)) = _
  rw [X2_init_22]
  rw [X2_init_23]
  rw [X2_init_24, hq_p0 (fs := [.ref (32 + C.length + 1), .ref (32 + C.length + 2), .int 0]) rfl (show 2 < 3 by decide) rfl]
  show ex d mX2_init 27 [some (.ref (32 + C.length))] [] (hq b C [(.inr (3, [.ref (32 + C.length + 1), .ref (32 + C.length + 2), .int 0])), (.inl (.int, 200, .inl (fun _ => 0))), (.inl (.int, 200, .inl (fun _ => 0)))] (s + 200 + 200)) = _
  rw [X2_init_27]
  rfl
theorem j_X2 {D0 : List kE} : rn (d + 1) mX2_init [.ref (32 + C.length + D0.length)] (hq b C (D0 ++ [(.inr (3, kdef 3))]) s) = some (none, hq b C (D0 ++ cX2 (32 + C.length + D0.length)) (s + 200 + 200)) := by
  have e := i_X2 (d := d) (b := b) (C := C ++ D0) (s := s)
  rw [hq_sp, hq_sp, List.length_append, ← Nat.add_assoc] at e
  exact e
def cX8 (a : Nat) : List kE := [(.inr (9, [.ref (a + 1), .ref (a + 2), .int 0])), (.inl (.int, 10, .inl (fun _ => 0))), (.inl (.int, 10, .inl (fun _ => 0)))]
theorem i_X8 : rn (d + 1) mX8_init [.ref (32 + C.length)] (hq b C [(.inr (9, kdef 9))] s) = some (none, hq b C (cX8 (32 + C.length)) (s + 10 + 10)) := by
  rw [X8_init_E]
  rw [X8_init_0]
  rw [X8_init_1]
  rw [X8_init_4]
  rw [X8_init_5]
  rw [X8_init_7, if_pos (by decide), hq_top, hq_new]
  show ex d mX8_init 9 [some (.ref (32 + C.length))] [.ref (32 + C.length + 1), .ref (32 + C.length)] (hq b C [(.inr (9, kdef 9)), (.inl (.int, 10, .inl (fun _ => 0)))] (s + 10)) = _
  rw [X8_init_9, hq_p0 (fs := kdef 9) rfl (show 0 < 3 by decide) rfl]
  show ex d mX8_init 12 [some (.ref (32 + C.length))] [] (hq b C [(.inr (9, [.ref (32 + C.length + 1), .null, .int 0])), (.inl (.int, 10, .inl (fun _ => 0)))] (s + 10)) = _
  rw [X8_init_12]
  rw [X8_init_13]
  rw [X8_init_15, if_pos (by decide), hq_top, hq_new]
  show ex d mX8_init 17 [some (.ref (32 + C.length))] [.ref (32 + C.length + 2), .ref (32 + C.length)] (hq b C [(.inr (9, [.ref (32 + C.length + 1), .null, .int 0])), (.inl (.int, 10, .inl (fun _ => 0))), (.inl (.int, 10, .inl (fun _ => 0)))] (s + 10 + 10)) = _
  rw [X8_init_17, hq_p0 (fs := [.ref (32 + C.length + 1), .null, .int 0]) rfl (show 1 < 3 by decide) rfl]
  show ex d mX8_init 20 [some (.ref (32 + C.length))] [] (hq b C [(.inr (9, [.ref (32 + C.length + 1), .ref (32 + C.length + 2), .int 0])), (.inl (.int, 10, .inl (fun _ => 0))), (.inl (.int, 10, .inl (fun _ => 0)))] (s + 10 + 10)) = _
  rw [X8_init_20]
  rw [X8_init_21]
  rw [X8_init_22, hq_p0 (fs := [.ref (32 + C.length + 1), .ref (32 + C.length + 2), .int 0]) rfl (show 2 < 3 by decide) rfl]
  show ex d mX8_init 25 [some (.ref (32 + C.length))] [] (hq b C [(.inr (9, [.ref (32 + C.length + 1), .ref (32 + C.length + 2), .int 0])), (.inl (.int, 10, .inl (fun _ => 0))), (.inl (.int, 10, .inl (fun _ => 0)))] (s + 10 + 10)) = _
  rw [X8_init_25]
  rfl
theorem j_X8 {D0 : List kE} : rn (d + 1) mX8_init [.ref (32 + C.length + D0.length)] (hq b C (D0 ++ [(.inr (9, kdef 9))]) s) = some (none, hq b C (D0 ++ cX8 (32 + C.length + D0.length)) (s + 10 + 10)) := by
  have e := i_X8 (d := d) (b := b) (C := C ++ D0) (s := s)
  rw [hq_sp, hq_sp, List.length_append, ← Nat.add_assoc] at e
  exact e
def cX4 (a : Nat) : List kE := [(.inr (5, [.ref (a + 1), .ref (a + 2), .int 0])), (.inl (.int, 20, .inl (fun _ => 0))), (.inl (.int, 200, .inl (fun _ => 0)))]
theorem i_X4 : rn (d + 1) mX4_init [.ref (32 + C.length)] (hq b C [(.inr (5, kdef 5))] s) = some (none, hq b C (cX4 (32 + C.length)) (s + 20 + 200)) := by
  rw [X4_init_E]
  rw [X4_init_0]
  rw [X4_init_1]
  rw [X4_init_4]
  rw [X4_init_5]
  rw [X4_init_7, if_pos (by decide), hq_top, hq_new]
  show ex d mX4_init 9 [some (.ref (32 + C.length))] [.ref (32 + C.length + 1), .ref (32 + C.length)] (hq b C [(.inr (5, kdef 5)), (.inl (.int, 20, .inl (fun _ => 0)))] (s + 20)) = _
  rw [X4_init_9, hq_p0 (fs := kdef 5) rfl (show 0 < 3 by decide) rfl]
  show ex d mX4_init 12 [some (.ref (32 + C.length))] [] (hq b C [(.inr (5, [.ref (32 + C.length + 1), .null, .int 0])), (.inl (.int, 20, .inl (fun _ => 0)))] (s + 20)) = _
  rw [X4_init_12]
  rw [X4_init_13]
  rw [X4_init_16, if_pos (by decide), hq_top, hq_new]
  show ex d mX4_init 18 [some (.ref (32 + C.length))] [.ref (32 + C.length + 2), .ref (32 + C.length)] (hq b C [(.inr (5, [.ref (32 + C.length + 1), .null, .int 0])), (.inl (.int, 20, .inl (fun _ => 0))), (.inl (.int, 200, .inl (fun _ => 0)))] (s + 20 + 200)) = _
  rw [X4_init_18, hq_p0 (fs := [.ref (32 + C.length + 1), .null, .int 0]) rfl (show 1 < 3 by decide) rfl]
  show ex d mX4_init 21 [some (.ref (32 + C.length))] [] (hq b C [(.inr (5, [.ref (32 + C.length + 1), .ref (32 + C.length + 2), .int 0])), (.inl (.int, 20, .inl (fun _ => 0))), (.inl (.int, 200, .inl (fun _ => 0)))] (s + 20 + 200)) = _
  rw [X4_init_21]
  rw [X4_init_22]
  rw [X4_init_23, hq_p0 (fs := [.ref (32 + C.length + 1), .ref (32 + C.length + 2), .int 0]) rfl (show 2 < 3 by decide) rfl]
  show ex d mX4_init 26 [some (.ref (32 + C.length))] [] (hq b C [(.inr (5, [.ref (32 + C.length + 1), .ref (32 + C.length + 2), .int 0])), (.inl (.int, 20, .inl (fun _ => 0))), (.inl (.int, 200, .inl (fun _ => 0)))] (s + 20 + 200)) = _
  rw [X4_init_26]
  rfl
theorem j_X4 {D0 : List kE} : rn (d + 1) mX4_init [.ref (32 + C.length + D0.length)] (hq b C (D0 ++ [(.inr (5, kdef 5))]) s) = some (none, hq b C (D0 ++ cX4 (32 + C.length + D0.length)) (s + 20 + 200)) := by
  have e := i_X4 (d := d) (b := b) (C := C ++ D0) (s := s)
  rw [hq_sp, hq_sp, List.length_append, ← Nat.add_assoc] at e
  exact e
def cX5 (a : Nat) : List kE := [(.inr (6, [.long 1, .long 1]))]
theorem i_X5 : rn (d + 1) mX5_init [.ref (32 + C.length)] (hq b C [(.inr (6, kdef 6))] s) = some (none, hq b C (cX5 (32 + C.length)) (s)) := by
  rw [X5_init_E]
  rw [X5_init_0]
  rw [X5_init_1]
  rw [X5_init_4]
  rw [X5_init_5]
  rw [X5_init_6, hq_p0 (fs := kdef 6) rfl (show 0 < 2 by decide) rfl]
  show ex d mX5_init 9 [some (.ref (32 + C.length))] [] (hq b C [(.inr (6, [.long 1, .long 0]))] (s)) = _
  rw [X5_init_9]
  rw [X5_init_10]
  rw [X5_init_11, hq_p0 (fs := [.long 1, .long 0]) rfl (show 1 < 2 by decide) rfl]
  show ex d mX5_init 14 [some (.ref (32 + C.length))] [] (hq b C [(.inr (6, [.long 1, .long 1]))] (s)) = _
  rw [X5_init_14]
  rfl
theorem j_X5 {D0 : List kE} : rn (d + 1) mX5_init [.ref (32 + C.length + D0.length)] (hq b C (D0 ++ [(.inr (6, kdef 6))]) s) = some (none, hq b C (D0 ++ cX5 (32 + C.length + D0.length)) (s)) := by
  have e := i_X5 (d := d) (b := b) (C := C ++ D0) (s := s)
  rw [hq_sp, hq_sp, List.length_append, ← Nat.add_assoc] at e
  exact e
def cX9 (a : Nat) : List kE := [(.inr (10, [.ref (a + 1), .int 0, .int 0, .int 0, .int 0, .ref (a + 2), .ref (a + 3)])), (.inl (.int, 240, .inl (fun _ => 0))), (.inl (.int, 3, .inl (fun _ => 0))), (.inl (.int, 3, .inl (fun _ => 0)))]
theorem i_X9 : rn (d + 1) mX9_init [.ref (32 + C.length)] (hq b C [(.inr (10, kdef 10))] s) = some (none, hq b C (cX9 (32 + C.length)) (s + 240 + 3 + 3)) := by
  rw [X9_init_E]
  rw [X9_init_0]
  rw [X9_init_1]
  rw [X9_init_4]
  rw [X9_init_5]
  rw [X9_init_8, if_pos (by decide), hq_top, hq_new]
  show ex d mX9_init 10 [some (.ref (32 + C.length))] [.ref (32 + C.length + 1), .ref (32 + C.length)] (hq b C [(.inr (10, kdef 10)), (.inl (.int, 240, .inl (fun _ => 0)))] (s + 240)) = _
  rw [X9_init_10, hq_p0 (fs := kdef 10) rfl (show 0 < 7 by decide) rfl]
  show ex d mX9_init 13 [some (.ref (32 + C.length))] [] (hq b C [(.inr (10, [.ref (32 + C.length + 1), .int 0, .int 0, .int 0, .int 0, .null, .null])), (.inl (.int, 240, .inl (fun _ => 0)))] (s + 240)) = _
  rw [X9_init_13]
  rw [X9_init_14]
  rw [X9_init_15, hq_p0 (fs := [.ref (32 + C.length + 1), .int 0, .int 0, .int 0, .int 0, .null, .null]) rfl (show 1 < 7 by decide) rfl]
  show ex d mX9_init 18 [some (.ref (32 + C.length))] [] (hq b C [(.inr (10, [.ref (32 + C.length + 1), .int 0, .int 0, .int 0, .int 0, .null, .null])), (.inl (.int, 240, .inl (fun _ => 0)))] (s + 240)) = _
  rw [X9_init_18]
  rw [X9_init_19]
  rw [X9_init_20, hq_p0 (fs := [.ref (32 + C.length + 1), .int 0, .int 0, .int 0, .int 0, .null, .null]) rfl (show 2 < 7 by decide) rfl]
  show ex d mX9_init 23 [some (.ref (32 + C.length))] [] (hq b C [(.inr (10, [.ref (32 + C.length + 1), .int 0, .int 0, .int 0, .int 0, .null, .null])), (.inl (.int, 240, .inl (fun _ => 0)))] (s + 240)) = _
  rw [X9_init_23]
  rw [X9_init_24]
  rw [X9_init_25, hq_p0 (fs := [.ref (32 + C.length + 1), .int 0, .int 0, .int 0, .int 0, .null, .null]) rfl (show 3 < 7 by decide) rfl]
  show ex d mX9_init 28 [some (.ref (32 + C.length))] [] (hq b C [(.inr (10, [.ref (32 + C.length + 1), .int 0, .int 0, .int 0, .int 0, .null, .null])), (.inl (.int, 240, .inl (fun _ => 0)))] (s + 240)) = _
  rw [X9_init_28]
  rw [X9_init_29]
  rw [X9_init_30, hq_p0 (fs := [.ref (32 + C.length + 1), .int 0, .int 0, .int 0, .int 0, .null, .null]) rfl (show 4 < 7 by decide) rfl]
  show ex d mX9_init 33 [some (.ref (32 + C.length))] [] (hq b C [(.inr (10, [.ref (32 + C.length + 1), .int 0, .int 0, .int 0, .int 0, .null, .null])), (.inl (.int, 240, .inl (fun _ => 0)))] (s + 240)) = _
  rw [X9_init_33]
  rw [X9_init_34]
  rw [X9_init_35, if_pos (by decide), hq_top, hq_new]
  show ex d mX9_init 37 [some (.ref (32 + C.length))] [.ref (32 + C.length + 2), .ref (32 + C.length)] (hq b C [(.inr (10, [.ref (32 + C.length + 1), .int 0, .int 0, .int 0, .int 0, .null, .null])), (.inl (.int, 240, .inl (fun _ => 0))), (.inl (.int, 3, .inl (fun _ => 0)))] (s + 240 + 3)) = _
  rw [X9_init_37, hq_p0 (fs := [.ref (32 + C.length + 1), .int 0, .int 0, .int 0, .int 0, .null, .null]) rfl (show 5 < 7 by decide) rfl]
  show ex d mX9_init 40 [some (.ref (32 + C.length))] [] (hq b C [(.inr (10, [.ref (32 + C.length + 1), .int 0, .int 0, .int 0, .int 0, .ref (32 + C.length + 2), .null])), (.inl (.int, 240, .inl (fun _ => 0))), (.inl (.int, 3, .inl (fun _ => 0)))] (s + 240 + 3)) = _
  rw [X9_init_40]
  rw [X9_init_41]
  rw [X9_init_42, if_pos (by decide), hq_top, hq_new]
  show ex d mX9_init 44 [some (.ref (32 + C.length))] [.ref (32 + C.length + 3), .ref (32 + C.length)] (hq b C [(.inr (10, [.ref (32 + C.length + 1), .int 0, .int 0, .int 0, .int 0, .ref (32 + C.length + 2), .null])), (.inl (.int, 240, .inl (fun _ => 0))), (.inl (.int, 3, .inl (fun _ => 0))), (.inl (.int, 3, .inl (fun _ => 0)))] (s + 240 + 3 + 3)) = _
  rw [X9_init_44, hq_p0 (fs := [.ref (32 + C.length + 1), .int 0, .int 0, .int 0, .int 0, .ref (32 + C.length + 2), .null]) rfl (show 6 < 7 by decide) rfl]
  show ex d mX9_init 47 [some (.ref (32 + C.length))] [] (hq b C [(.inr (10, [.ref (32 + C.length + 1), .int 0, .int 0, .int 0, .int 0, .ref (32 + C.length + 2), .ref (32 + C.length + 3)])), (.inl (.int, 240, .inl (fun _ => 0))), (.inl (.int, 3, .inl (fun _ => 0))), (.inl (.int, 3, .inl (fun _ => 0)))] (s + 240 + 3 + 3)) = _
  rw [X9_init_47]
  rfl
theorem j_X9 {D0 : List kE} : rn (d + 1) mX9_init [.ref (32 + C.length + D0.length)] (hq b C (D0 ++ [(.inr (10, kdef 10))]) s) = some (none, hq b C (D0 ++ cX9 (32 + C.length + D0.length)) (s + 240 + 3 + 3)) := by
  have e := i_X9 (d := d) (b := b) (C := C ++ D0) (s := s)
  rw [hq_sp, hq_sp, List.length_append, ← Nat.add_assoc] at e
  exact e
def cX1 (a : Nat) : List kE := [(.inr (2, [.int 0, .long 1000000, .long 0, .long 0, .ref (a + 1), .ref (a + 2), .int 0, .int 0, .ref (a + 3), .ref (a + 4), .ref (a + 5), .int (-1), .int 0, .int 0])), (.inl (.long, 200, .inr (.inl (fun _ => 0)))), (.inl (.long, 200, .inr (.inl (fun _ => 0)))), (.inl (.int, 200, .inl (fun _ => 0))), (.inl (.long, 200, .inr (.inl (fun _ => 0)))), (.inl (.long, 200, .inr (.inl (fun _ => 0))))]
theorem i_X1 : rn (d + 1) mX1_init [.ref (32 + C.length)] (hq b C [(.inr (2, kdef 2))] s) = some (none, hq b C (cX1 (32 + C.length)) (s + 200 + 200 + 200 + 200 + 200)) := by
  rw [X1_init_E]
  rw [X1_init_0]
  rw [X1_init_1]
  rw [X1_init_4]
  rw [X1_init_5]
  rw [X1_init_6, hq_p0 (fs := kdef 2) rfl (show 0 < 14 by decide) rfl]
  show ex d mX1_init 9 [some (.ref (32 + C.length))] [] (hq b C [(.inr (2, [.int 0, .long 0, .long 0, .long 0, .null, .null, .int 0, .int 0, .null, .null, .null, .int 0, .int 0, .int 0]))] (s)) = _
  rw [X1_init_9]
  rw [X1_init_10]
  rw [X1_init_13, hq_p0 (fs := [.int 0, .long 0, .long 0, .long 0, .null, .null, .int 0, .int 0, .null, .null, .null, .int 0, .int 0, .int 0]) rfl (show 1 < 14 by decide) rfl]
  show ex d mX1_init 16 [some (.ref (32 + C.length))] [] (hq b C [(.inr (2, [.int 0, .long 1000000, .long 0, .long 0, .null, .null, .int 0, .int 0, .null, .null, .null, .int 0, .int 0, .int 0]))] (s)) = _
  rw [X1_init_16]
  rw [X1_init_17]
  rw [X1_init_18, hq_p0 (fs := [.int 0, .long 1000000, .long 0, .long 0, .null, .null, .int 0, .int 0, .null, .null, .null, .int 0, .int 0, .int 0]) rfl (show 2 < 14 by decide) rfl]
  show ex d mX1_init 21 [some (.ref (32 + C.length))] [] (hq b C [(.inr (2, [.int 0, .long 1000000, .long 0, .long 0, .null, .null, .int 0, .int 0, .null, .null, .null, .int 0, .int 0, .int 0]))] (s)) = _
  rw [X1_init_21]
  rw [X1_init_22]
  rw [X1_init_23, hq_p0 (fs := [.int 0, .long 1000000, .long 0, .long 0, .null, .null, .int 0, .int 0, .null, .null, .null, .int 0, .int 0, .int 0]) rfl (show 3 < 14 by decide) rfl]
  show ex d mX1_init 26 [some (.ref (32 + C.length))] [] (hq b C [(.inr (2, [.int 0, .long 1000000, .long 0, .long 0, .null, .null, .int 0, .int 0, .null, .null, .null, .int 0, .int 0, .int 0]))] (s)) = _
  rw [X1_init_26]
  rw [X1_init_27]
  rw [X1_init_30, if_pos (by decide), hq_top, hq_new]
  show ex d mX1_init 32 [some (.ref (32 + C.length))] [.ref (32 + C.length + 1), .ref (32 + C.length)] (hq b C [(.inr (2, [.int 0, .long 1000000, .long 0, .long 0, .null, .null, .int 0, .int 0, .null, .null, .null, .int 0, .int 0, .int 0])), (.inl (.long, 200, .inr (.inl (fun _ => 0))))] (s + 200)) = _
  rw [X1_init_32, hq_p0 (fs := [.int 0, .long 1000000, .long 0, .long 0, .null, .null, .int 0, .int 0, .null, .null, .null, .int 0, .int 0, .int 0]) rfl (show 4 < 14 by decide) rfl]
  show ex d mX1_init 35 [some (.ref (32 + C.length))] [] (hq b C [(.inr (2, [.int 0, .long 1000000, .long 0, .long 0, .ref (32 + C.length + 1), .null, .int 0, .int 0, .null, .null, .null, .int 0, .int 0, .int 0])), (.inl (.long, 200, .inr (.inl (fun _ => 0))))] (s + 200)) = _
  rw [X1_init_35]
  rw [X1_init_36]
  rw [X1_init_39, if_pos (by decide), hq_top, hq_new]
  show ex d mX1_init 41 [some (.ref (32 + C.length))] [.ref (32 + C.length + 2), .ref (32 + C.length)] (hq b C [(.inr (2, [.int 0, .long 1000000, .long 0, .long 0, .ref (32 + C.length + 1), .null, .int 0, .int 0, .null, .null, .null, .int 0, .int 0, .int 0])), (.inl (.long, 200, .inr (.inl (fun _ => 0)))), (.inl (.long, 200, .inr (.inl (fun _ => 0))))] (s + 200 + 200)) = _
  rw [X1_init_41, hq_p0 (fs := [.int 0, .long 1000000, .long 0, .long 0, .ref (32 + C.length + 1), .null, .int 0, .int 0, .null, .null, .null, .int 0, .int 0, .int 0]) rfl (show 5 < 14 by decide) rfl]
  show ex d mX1_init 44 [some (.ref (32 + C.length))] [] (hq b C [(.inr (2, [.int 0, .long 1000000, .long 0, .long 0, .ref (32 + C.length + 1), .ref (32 + C.length + 2), .int 0, .int 0, .null, .null, .null, .int 0, .int 0, .int 0])), (.inl (.long, 200, .inr (.inl (fun _ => 0)))), (.inl (.long, 200, .inr (.inl (fun _ => 0))))] (s + 200 + 200)) = _
  rw [X1_init_44]
  rw [X1_init_45]
  rw [X1_init_46, hq_p0 (fs := [.int 0, .long 1000000, .long 0, .long 0, .ref (32 + C.length + 1), .ref (32 + C.length + 2), .int 0, .int 0, .null, .null, .null, .int 0, .int 0, .int 0]) rfl (show 6 < 14 by decide) rfl]
  show ex d mX1_init 49 [some (.ref (32 + C.length))] [] (hq b C [(.inr (2, [.int 0, .long 1000000, .long 0, .long 0, .ref (32 + C.length + 1), .ref (32 + C.length + 2), .int 0, .int 0, .null, .null, .null, .int 0, .int 0, .int 0])), (.inl (.long, 200, .inr (.inl (fun _ => 0)))), (.inl (.long, 200, .inr (.inl (fun _ => 0))))] (s + 200 + 200)) = _
  rw [X1_init_49]
  rw [X1_init_50]
  rw [X1_init_51, hq_p0 (fs := [.int 0, .long 1000000, .long 0, .long 0, .ref (32 + C.length + 1), .ref (32 + C.length + 2), .int 0, .int 0, .null, .null, .null, .int 0, .int 0, .int 0]) rfl (show 7 < 14 by decide) rfl]
  show ex d mX1_init 54 [some (.ref (32 + C.length))] [] (hq b C [(.inr (2, [.int 0, .long 1000000, .long 0, .long 0, .ref (32 + C.length + 1), .ref (32 + C.length + 2), .int 0, .int 0, .null, .null, .null, .int 0, .int 0, .int 0])), (.inl (.long, 200, .inr (.inl (fun _ => 0)))), (.inl (.long, 200, .inr (.inl (fun _ => 0))))] (s + 200 + 200)) = _
  rw [X1_init_54]
  rw [X1_init_55]
  rw [X1_init_58, if_pos (by decide), hq_top, hq_new]
  show ex d mX1_init 60 [some (.ref (32 + C.length))] [.ref (32 + C.length + 3), .ref (32 + C.length)] (hq b C [(.inr (2, [.int 0, .long 1000000, .long 0, .long 0, .ref (32 + C.length + 1), .ref (32 + C.length + 2), .int 0, .int 0, .null, .null, .null, .int 0, .int 0, .int 0])), (.inl (.long, 200, .inr (.inl (fun _ => 0)))), (.inl (.long, 200, .inr (.inl (fun _ => 0)))), (.inl (.int, 200, .inl (fun _ => 0)))] (s + 200 + 200 + 200)) = _
  rw [X1_init_60, hq_p0 (fs := [.int 0, .long 1000000, .long 0, .long 0, .ref (32 + C.length + 1), .ref (32 + C.length + 2), .int 0, .int 0, .null, .null, .null, .int 0, .int 0, .int 0]) rfl (show 8 < 14 by decide) rfl]
  show ex d mX1_init 63 [some (.ref (32 + C.length))] [] (hq b C [(.inr (2, [.int 0, .long 1000000, .long 0, .long 0, .ref (32 + C.length + 1), .ref (32 + C.length + 2), .int 0, .int 0, .ref (32 + C.length + 3), .null, .null, .int 0, .int 0, .int 0])), (.inl (.long, 200, .inr (.inl (fun _ => 0)))), (.inl (.long, 200, .inr (.inl (fun _ => 0)))), (.inl (.int, 200, .inl (fun _ => 0)))] (s + 200 + 200 + 200)) = _
  rw [X1_init_63]
  rw [X1_init_64]
  rw [X1_init_67, if_pos (by decide), hq_top, hq_new]
  show ex d mX1_init 69 [some (.ref (32 + C.length))] [.ref (32 + C.length + 4), .ref (32 + C.length)] (hq b C [(.inr (2, [.int 0, .long 1000000, .long 0, .long 0, .ref (32 + C.length + 1), .ref (32 + C.length + 2), .int 0, .int 0, .ref (32 + C.length + 3), .null, .null, .int 0, .int 0, .int 0])), (.inl (.long, 200, .inr (.inl (fun _ => 0)))), (.inl (.long, 200, .inr (.inl (fun _ => 0)))), (.inl (.int, 200, .inl (fun _ => 0))), (.inl (.long, 200, .inr (.inl (fun _ => 0))))] (s + 200 + 200 + 200 + 200)) = _
  rw [X1_init_69, hq_p0 (fs := [.int 0, .long 1000000, .long 0, .long 0, .ref (32 + C.length + 1), .ref (32 + C.length + 2), .int 0, .int 0, .ref (32 + C.length + 3), .null, .null, .int 0, .int 0, .int 0]) rfl (show 9 < 14 by decide) rfl]
  show ex d mX1_init 72 [some (.ref (32 + C.length))] [] (hq b C [(.inr (2, [.int 0, .long 1000000, .long 0, .long 0, .ref (32 + C.length + 1), .ref (32 + C.length + 2), .int 0, .int 0, .ref (32 + C.length + 3), .ref (32 + C.length + 4), .null, .int 0, .int 0, .int 0])), (.inl (.long, 200, .inr (.inl (fun _ => 0)))), (.inl (.long, 200, .inr (.inl (fun _ => 0)))), (.inl (.int, 200, .inl (fun _ => 0))), (.inl (.long, 200, .inr (.inl (fun _ => 0))))] (s + 200 + 200 + 200 + 200)) = _
  rw [X1_init_72]
  rw [X1_init_73]
  rw [X1_init_76, if_pos (by decide), hq_top, hq_new]
  show ex d mX1_init 78 [some (.ref (32 + C.length))] [.ref (32 + C.length + 5), .ref (32 + C.length)] (hq b C [(.inr (2, [.int 0, .long 1000000, .long 0, .long 0, .ref (32 + C.length + 1), .ref (32 + C.length + 2), .int 0, .int 0, .ref (32 + C.length + 3), .ref (32 + C.length + 4), .null, .int 0, .int 0, .int 0])), (.inl (.long, 200, .inr (.inl (fun _ => 0)))), (.inl (.long, 200, .inr (.inl (fun _ => 0)))), (.inl (.int, 200, .inl (fun _ => 0))), (.inl (.long, 200, .inr (.inl (fun _ => 0)))), (.inl (.long, 200, .inr (.inl (fun _ => 0))))] (s + 200 + 200 + 200 + 200 + 200)) = _
  rw [X1_init_78, hq_p0 (fs := [.int 0, .long 1000000, .long 0, .long 0, .ref (32 + C.length + 1), .ref (32 + C.length + 2), .int 0, .int 0, .ref (32 + C.length + 3), .ref (32 + C.length + 4), .null, .int 0, .int 0, .int 0]) rfl (show 10 < 14 by decide) rfl]
  show ex d mX1_init 81 [some (.ref (32 + C.length))] [] (hq b C [(.inr (2, [.int 0, .long 1000000, .long 0, .long 0, .ref (32 + C.length + 1), .ref (32 + C.length + 2), .int 0, .int 0, .ref (32 + C.length + 3), .ref (32 + C.length + 4), .ref (32 + C.length + 5), .int 0, .int 0, .int 0])), (.inl (.long, 200, .inr (.inl (fun _ => 0)))), (.inl (.long, 200, .inr (.inl (fun _ => 0)))), (.inl (.int, 200, .inl (fun _ => 0))), (.inl (.long, 200, .inr (.inl (fun _ => 0)))), (.inl (.long, 200, .inr (.inl (fun _ => 0))))] (s + 200 + 200 + 200 + 200 + 200)) = _
  rw [X1_init_81]
  rw [X1_init_82]
  rw [X1_init_83, hq_p0 (fs := [.int 0, .long 1000000, .long 0, .long 0, .ref (32 + C.length + 1), .ref (32 + C.length + 2), .int 0, .int 0, .ref (32 + C.length + 3), .ref (32 + C.length + 4), .ref (32 + C.length + 5), .int 0, .int 0, .int 0]) rfl (show 11 < 14 by decide) rfl]
  show ex d mX1_init 86 [some (.ref (32 + C.length))] [] (hq b C [(.inr (2, [.int 0, .long 1000000, .long 0, .long 0, .ref (32 + C.length + 1), .ref (32 + C.length + 2), .int 0, .int 0, .ref (32 + C.length + 3), .ref (32 + C.length + 4), .ref (32 + C.length + 5), .int (-1), .int 0, .int 0])), (.inl (.long, 200, .inr (.inl (fun _ => 0)))), (.inl (.long, 200, .inr (.inl (fun _ => 0)))), (.inl (.int, 200, .inl (fun _ => 0))), (.inl (.long, 200, .inr (.inl (fun _ => 0)))), (.inl (.long, 200, .inr (.inl (fun _ => 0))))] (s + 200 + 200 + 200 + 200 + 200)) = _
  rw [X1_init_86]
  rw [X1_init_87]
  rw [X1_init_88, hq_p0 (fs := [.int 0, .long 1000000, .long 0, .long 0, .ref (32 + C.length + 1), .ref (32 + C.length + 2), .int 0, .int 0, .ref (32 + C.length + 3), .ref (32 + C.length + 4), .ref (32 + C.length + 5), .int (-1), .int 0, .int 0]) rfl (show 12 < 14 by decide) rfl]
  show ex d mX1_init 91 [some (.ref (32 + C.length))] [] (hq b C [(.inr (2, [.int 0, .long 1000000, .long 0, .long 0, .ref (32 + C.length + 1), .ref (32 + C.length + 2), .int 0, .int 0, .ref (32 + C.length + 3), .ref (32 + C.length + 4), .ref (32 + C.length + 5), .int (-1), .int 0, .int 0])), (.inl (.long, 200, .inr (.inl (fun _ => 0)))), (.inl (.long, 200, .inr (.inl (fun _ => 0)))), (.inl (.int, 200, .inl (fun _ => 0))), (.inl (.long, 200, .inr (.inl (fun _ => 0)))), (.inl (.long, 200, .inr (.inl (fun _ => 0))))] (s + 200 + 200 + 200 + 200 + 200)) = _
  rw [X1_init_91]
  rw [X1_init_92]
  rw [X1_init_93, hq_p0 (fs := [.int 0, .long 1000000, .long 0, .long 0, .ref (32 + C.length + 1), .ref (32 + C.length + 2), .int 0, .int 0, .ref (32 + C.length + 3), .ref (32 + C.length + 4), .ref (32 + C.length + 5), .int (-1), .int 0, .int 0]) rfl (show 13 < 14 by decide) rfl]
  show ex d mX1_init 96 [some (.ref (32 + C.length))] [] (hq b C [(.inr (2, [.int 0, .long 1000000, .long 0, .long 0, .ref (32 + C.length + 1), .ref (32 + C.length + 2), .int 0, .int 0, .ref (32 + C.length + 3), .ref (32 + C.length + 4), .ref (32 + C.length + 5), .int (-1), .int 0, .int 0])), (.inl (.long, 200, .inr (.inl (fun _ => 0)))), (.inl (.long, 200, .inr (.inl (fun _ => 0)))), (.inl (.int, 200, .inl (fun _ => 0))), (.inl (.long, 200, .inr (.inl (fun _ => 0)))), (.inl (.long, 200, .inr (.inl (fun _ => 0))))] (s + 200 + 200 + 200 + 200 + 200)) = _
  rw [X1_init_96]
  rfl
theorem j_X1 {D0 : List kE} : rn (d + 1) mX1_init [.ref (32 + C.length + D0.length)] (hq b C (D0 ++ [(.inr (2, kdef 2))]) s) = some (none, hq b C (D0 ++ cX1 (32 + C.length + D0.length)) (s + 200 + 200 + 200 + 200 + 200)) := by
  have e := i_X1 (d := d) (b := b) (C := C ++ D0) (s := s)
  rw [hq_sp, hq_sp, List.length_append, ← Nat.add_assoc] at e
  exact e
def cX0 (a : Nat) : List kE := [(.inr (1, [.int 0, .ref (a + 1), .ref (a + 2), .ref (a + 3), .ref (a + 4)])), (.inl (.int, 200, .inl (fun _ => 0))), (.inl (.int, 200, .inl (fun _ => 0))), (.inl (.int, 200, .inl (fun _ => 0))), (.inl (.long, 200, .inr (.inl (fun _ => 0))))]
theorem i_X0 : rn (d + 1) mX0_init [.ref (32 + C.length)] (hq b C [(.inr (1, kdef 1))] s) = some (none, hq b C (cX0 (32 + C.length)) (s + 200 + 200 + 200 + 200)) := by
  rw [X0_init_E]
  rw [X0_init_0]
  rw [X0_init_1]
  rw [X0_init_4]
  rw [X0_init_5]
  rw [X0_init_6, hq_p0 (fs := kdef 1) rfl (show 0 < 5 by decide) rfl]
  show ex d mX0_init 9 [some (.ref (32 + C.length))] [] (hq b C [(.inr (1, [.int 0, .null, .null, .null, .null]))] (s)) = _
  rw [X0_init_9]
  rw [X0_init_10]
  rw [X0_init_13, if_pos (by decide), hq_top, hq_new]
  show ex d mX0_init 15 [some (.ref (32 + C.length))] [.ref (32 + C.length + 1), .ref (32 + C.length)] (hq b C [(.inr (1, [.int 0, .null, .null, .null, .null])), (.inl (.int, 200, .inl (fun _ => 0)))] (s + 200)) = _
  rw [X0_init_15, hq_p0 (fs := [.int 0, .null, .null, .null, .null]) rfl (show 1 < 5 by decide) rfl]
  show ex d mX0_init 18 [some (.ref (32 + C.length))] [] (hq b C [(.inr (1, [.int 0, .ref (32 + C.length + 1), .null, .null, .null])), (.inl (.int, 200, .inl (fun _ => 0)))] (s + 200)) = _
  rw [X0_init_18]
  rw [X0_init_19]
  rw [X0_init_22, if_pos (by decide), hq_top, hq_new]
  show ex d mX0_init 24 [some (.ref (32 + C.length))] [.ref (32 + C.length + 2), .ref (32 + C.length)] (hq b C [(.inr (1, [.int 0, .ref (32 + C.length + 1), .null, .null, .null])), (.inl (.int, 200, .inl (fun _ => 0))), (.inl (.int, 200, .inl (fun _ => 0)))] (s + 200 + 200)) = _
  rw [X0_init_24, hq_p0 (fs := [.int 0, .ref (32 + C.length + 1), .null, .null, .null]) rfl (show 2 < 5 by decide) rfl]
  show ex d mX0_init 27 [some (.ref (32 + C.length))] [] (hq b C [(.inr (1, [.int 0, .ref (32 + C.length + 1), .ref (32 + C.length + 2), .null, .null])), (.inl (.int, 200, .inl (fun _ => 0))), (.inl (.int, 200, .inl (fun _ => 0)))] (s + 200 + 200)) = _
  rw [X0_init_27]
  rw [X0_init_28]
  rw [X0_init_31, if_pos (by decide), hq_top, hq_new]
  show ex d mX0_init 33 [some (.ref (32 + C.length))] [.ref (32 + C.length + 3), .ref (32 + C.length)] (hq b C [(.inr (1, [.int 0, .ref (32 + C.length + 1), .ref (32 + C.length + 2), .null, .null])), (.inl (.int, 200, .inl (fun _ => 0))), (.inl (.int, 200, .inl (fun _ => 0))), (.inl (.int, 200, .inl (fun _ => 0)))] (s + 200 + 200 + 200)) = _
  rw [X0_init_33, hq_p0 (fs := [.int 0, .ref (32 + C.length + 1), .ref (32 + C.length + 2), .null, .null]) rfl (show 3 < 5 by decide) rfl]
  show ex d mX0_init 36 [some (.ref (32 + C.length))] [] (hq b C [(.inr (1, [.int 0, .ref (32 + C.length + 1), .ref (32 + C.length + 2), .ref (32 + C.length + 3), .null])), (.inl (.int, 200, .inl (fun _ => 0))), (.inl (.int, 200, .inl (fun _ => 0))), (.inl (.int, 200, .inl (fun _ => 0)))] (s + 200 + 200 + 200)) = _
  rw [X0_init_36]
  rw [X0_init_37]
  rw [X0_init_40, if_pos (by decide), hq_top, hq_new]
  show ex d mX0_init 42 [some (.ref (32 + C.length))] [.ref (32 + C.length + 4), .ref (32 + C.length)] (hq b C [(.inr (1, [.int 0, .ref (32 + C.length + 1), .ref (32 + C.length + 2), .ref (32 + C.length + 3), .null])), (.inl (.int, 200, .inl (fun _ => 0))), (.inl (.int, 200, .inl (fun _ => 0))), (.inl (.int, 200, .inl (fun _ => 0))), (.inl (.long, 200, .inr (.inl (fun _ => 0))))] (s + 200 + 200 + 200 + 200)) = _
  rw [X0_init_42, hq_p0 (fs := [.int 0, .ref (32 + C.length + 1), .ref (32 + C.length + 2), .ref (32 + C.length + 3), .null]) rfl (show 4 < 5 by decide) rfl]
  show ex d mX0_init 45 [some (.ref (32 + C.length))] [] (hq b C [(.inr (1, [.int 0, .ref (32 + C.length + 1), .ref (32 + C.length + 2), .ref (32 + C.length + 3), .ref (32 + C.length + 4)])), (.inl (.int, 200, .inl (fun _ => 0))), (.inl (.int, 200, .inl (fun _ => 0))), (.inl (.int, 200, .inl (fun _ => 0))), (.inl (.long, 200, .inr (.inl (fun _ => 0))))] (s + 200 + 200 + 200 + 200)) = _
  rw [X0_init_45]
  rfl
theorem j_X0 {D0 : List kE} : rn (d + 1) mX0_init [.ref (32 + C.length + D0.length)] (hq b C (D0 ++ [(.inr (1, kdef 1))]) s) = some (none, hq b C (D0 ++ cX0 (32 + C.length + D0.length)) (s + 200 + 200 + 200 + 200)) := by
  have e := i_X0 (d := d) (b := b) (C := C ++ D0) (s := s)
  rw [hq_sp, hq_sp, List.length_append, ← Nat.add_assoc] at e
  exact e
def cX3 (a : Nat) : List kE := [(.inr (4, [.ref (a + 1), .ref (a + 2), .int 0, .int 0, .int 0, .int 0])), (.inl (.long, 800, .inr (.inl (fun _ => 0)))), (.inl (.int, 200, .inl (fun _ => 0)))]
theorem i_X3 : rn (d + 1) mX3_init [.ref (32 + C.length)] (hq b C [(.inr (4, kdef 4))] s) = some (none, hq b C (cX3 (32 + C.length)) (s + 800 + 200)) := by
  rw [X3_init_E]
  rw [X3_init_0]
  rw [X3_init_1]
  rw [X3_init_4]
  rw [X3_init_5]
  rw [X3_init_8, if_pos (by decide), hq_top, hq_new]
  show ex d mX3_init 10 [some (.ref (32 + C.length))] [.ref (32 + C.length + 1), .ref (32 + C.length)] (hq b C [(.inr (4, kdef 4)), (.inl (.long, 800, .inr (.inl (fun _ => 0))))] (s + 800)) = _
  rw [X3_init_10, hq_p0 (fs := kdef 4) rfl (show 0 < 6 by decide) rfl]
  show ex d mX3_init 13 [some (.ref (32 + C.length))] [] (hq b C [(.inr (4, [.ref (32 + C.length + 1), .null, .int 0, .int 0, .int 0, .int 0])), (.inl (.long, 800, .inr (.inl (fun _ => 0))))] (s + 800)) = _
  rw [X3_init_13]
  rw [X3_init_14]
  rw [X3_init_17, if_pos (by decide), hq_top, hq_new]
  show ex d mX3_init 19 [some (.ref (32 + C.length))] [.ref (32 + C.length + 2), .ref (32 + C.length)] (hq b C [(.inr (4, [.ref (32 + C.length + 1), .null, .int 0, .int 0, .int 0, .int 0])), (.inl (.long, 800, .inr (.inl (fun _ => 0)))), (.inl (.int, 200, .inl (fun _ => 0)))] (s + 800 + 200)) = _
  rw [X3_init_19, hq_p0 (fs := [.ref (32 + C.length + 1), .null, .int 0, .int 0, .int 0, .int 0]) rfl (show 1 < 6 by decide) rfl]
  show ex d mX3_init 22 [some (.ref (32 + C.length))] [] (hq b C [(.inr (4, [.ref (32 + C.length + 1), .ref (32 + C.length + 2), .int 0, .int 0, .int 0, .int 0])), (.inl (.long, 800, .inr (.inl (fun _ => 0)))), (.inl (.int, 200, .inl (fun _ => 0)))] (s + 800 + 200)) = _
  rw [X3_init_22]
  rw [X3_init_23]
  rw [X3_init_24, hq_p0 (fs := [.ref (32 + C.length + 1), .ref (32 + C.length + 2), .int 0, .int 0, .int 0, .int 0]) rfl (show 2 < 6 by decide) rfl]
  show ex d mX3_init 27 [some (.ref (32 + C.length))] [] (hq b C [(.inr (4, [.ref (32 + C.length + 1), .ref (32 + C.length + 2), .int 0, .int 0, .int 0, .int 0])), (.inl (.long, 800, .inr (.inl (fun _ => 0)))), (.inl (.int, 200, .inl (fun _ => 0)))] (s + 800 + 200)) = _
  rw [X3_init_27]
  rw [X3_init_28]
  rw [X3_init_29, hq_p0 (fs := [.ref (32 + C.length + 1), .ref (32 + C.length + 2), .int 0, .int 0, .int 0, .int 0]) rfl (show 3 < 6 by decide) rfl]
  show ex d mX3_init 32 [some (.ref (32 + C.length))] [] (hq b C [(.inr (4, [.ref (32 + C.length + 1), .ref (32 + C.length + 2), .int 0, .int 0, .int 0, .int 0])), (.inl (.long, 800, .inr (.inl (fun _ => 0)))), (.inl (.int, 200, .inl (fun _ => 0)))] (s + 800 + 200)) = _
  rw [X3_init_32]
  rw [X3_init_33]
  rw [X3_init_34, hq_p0 (fs := [.ref (32 + C.length + 1), .ref (32 + C.length + 2), .int 0, .int 0, .int 0, .int 0]) rfl (show 4 < 6 by decide) rfl]
  show ex d mX3_init 37 [some (.ref (32 + C.length))] [] (hq b C [(.inr (4, [.ref (32 + C.length + 1), .ref (32 + C.length + 2), .int 0, .int 0, .int 0, .int 0])), (.inl (.long, 800, .inr (.inl (fun _ => 0)))), (.inl (.int, 200, .inl (fun _ => 0)))] (s + 800 + 200)) = _
  rw [X3_init_37]
  rw [X3_init_38]
  rw [X3_init_39, hq_p0 (fs := [.ref (32 + C.length + 1), .ref (32 + C.length + 2), .int 0, .int 0, .int 0, .int 0]) rfl (show 5 < 6 by decide) rfl]
  show ex d mX3_init 42 [some (.ref (32 + C.length))] [] (hq b C [(.inr (4, [.ref (32 + C.length + 1), .ref (32 + C.length + 2), .int 0, .int 0, .int 0, .int 0])), (.inl (.long, 800, .inr (.inl (fun _ => 0)))), (.inl (.int, 200, .inl (fun _ => 0)))] (s + 800 + 200)) = _
  rw [X3_init_42]
  rfl
theorem j_X3 {D0 : List kE} : rn (d + 1) mX3_init [.ref (32 + C.length + D0.length)] (hq b C (D0 ++ [(.inr (4, kdef 4))]) s) = some (none, hq b C (D0 ++ cX3 (32 + C.length + D0.length)) (s + 800 + 200)) := by
  have e := i_X3 (d := d) (b := b) (C := C ++ D0) (s := s)
  rw [hq_sp, hq_sp, List.length_append, ← Nat.add_assoc] at e
  exact e
def cX10 (a : Nat) : List kE := [(.inr (11, [.ref (a + 1), .ref (a + 2), .ref (a + 3), .ref (a + 4), .int 0, .int 0, .int 0, .ref (a + 5)])), (.inl (.boolean, 5, .inl (fun _ => 0))), (.inl (.int, 5, .inl (fun _ => 0))), (.inl (.int, 5, .inl (fun _ => 0))), (.inl (.int, 5, .inl (fun _ => 0))), (.inl (.int, 30, .inl (fun _ => 0)))]
theorem i_X10 : rn (d + 1) mX10_init [.ref (32 + C.length)] (hq b C [(.inr (11, kdef 11))] s) = some (none, hq b C (cX10 (32 + C.length)) (s + 5 + 5 + 5 + 5 + 30)) := by
  rw [X10_init_E]
  rw [X10_init_0]
  rw [X10_init_1]
  rw [X10_init_4]
  rw [X10_init_5]
  rw [X10_init_6, if_pos (by decide), hq_top, hq_new]
  show ex d mX10_init 8 [some (.ref (32 + C.length))] [.ref (32 + C.length + 1), .ref (32 + C.length)] (hq b C [(.inr (11, kdef 11)), (.inl (.boolean, 5, .inl (fun _ => 0)))] (s + 5)) = _
  rw [X10_init_8, hq_p0 (fs := kdef 11) rfl (show 0 < 8 by decide) rfl]
  show ex d mX10_init 11 [some (.ref (32 + C.length))] [] (hq b C [(.inr (11, [.ref (32 + C.length + 1), .null, .null, .null, .int 0, .int 0, .int 0, .null])), (.inl (.boolean, 5, .inl (fun _ => 0)))] (s + 5)) = _
  rw [X10_init_11]
  rw [X10_init_12]
  rw [X10_init_13, if_pos (by decide), hq_top, hq_new]
  show ex d mX10_init 15 [some (.ref (32 + C.length))] [.ref (32 + C.length + 2), .ref (32 + C.length)] (hq b C [(.inr (11, [.ref (32 + C.length + 1), .null, .null, .null, .int 0, .int 0, .int 0, .null])), (.inl (.boolean, 5, .inl (fun _ => 0))), (.inl (.int, 5, .inl (fun _ => 0)))] (s + 5 + 5)) = _
  rw [X10_init_15, hq_p0 (fs := [.ref (32 + C.length + 1), .null, .null, .null, .int 0, .int 0, .int 0, .null]) rfl (show 1 < 8 by decide) rfl]
  show ex d mX10_init 18 [some (.ref (32 + C.length))] [] (hq b C [(.inr (11, [.ref (32 + C.length + 1), .ref (32 + C.length + 2), .null, .null, .int 0, .int 0, .int 0, .null])), (.inl (.boolean, 5, .inl (fun _ => 0))), (.inl (.int, 5, .inl (fun _ => 0)))] (s + 5 + 5)) = _
  rw [X10_init_18]
  rw [X10_init_19]
  rw [X10_init_20, if_pos (by decide), hq_top, hq_new]
  show ex d mX10_init 22 [some (.ref (32 + C.length))] [.ref (32 + C.length + 3), .ref (32 + C.length)] (hq b C [(.inr (11, [.ref (32 + C.length + 1), .ref (32 + C.length + 2), .null, .null, .int 0, .int 0, .int 0, .null])), (.inl (.boolean, 5, .inl (fun _ => 0))), (.inl (.int, 5, .inl (fun _ => 0))), (.inl (.int, 5, .inl (fun _ => 0)))] (s + 5 + 5 + 5)) = _
  rw [X10_init_22, hq_p0 (fs := [.ref (32 + C.length + 1), .ref (32 + C.length + 2), .null, .null, .int 0, .int 0, .int 0, .null]) rfl (show 2 < 8 by decide) rfl]
  show ex d mX10_init 25 [some (.ref (32 + C.length))] [] (hq b C [(.inr (11, [.ref (32 + C.length + 1), .ref (32 + C.length + 2), .ref (32 + C.length + 3), .null, .int 0, .int 0, .int 0, .null])), (.inl (.boolean, 5, .inl (fun _ => 0))), (.inl (.int, 5, .inl (fun _ => 0))), (.inl (.int, 5, .inl (fun _ => 0)))] (s + 5 + 5 + 5)) = _
  rw [X10_init_25]
  rw [X10_init_26]
  rw [X10_init_27, if_pos (by decide), hq_top, hq_new]
  show ex d mX10_init 29 [some (.ref (32 + C.length))] [.ref (32 + C.length + 4), .ref (32 + C.length)] (hq b C [(.inr (11, [.ref (32 + C.length + 1), .ref (32 + C.length + 2), .ref (32 + C.length + 3), .null, .int 0, .int 0, .int 0, .null])), (.inl (.boolean, 5, .inl (fun _ => 0))), (.inl (.int, 5, .inl (fun _ => 0))), (.inl (.int, 5, .inl (fun _ => 0))), (.inl (.int, 5, .inl (fun _ => 0)))] (s + 5 + 5 + 5 + 5)) = _
  rw [X10_init_29, hq_p0 (fs := [.ref (32 + C.length + 1), .ref (32 + C.length + 2), .ref (32 + C.length + 3), .null, .int 0, .int 0, .int 0, .null]) rfl (show 3 < 8 by decide) rfl]
  show ex d mX10_init 32 [some (.ref (32 + C.length))] [] (hq b C [(.inr (11, [.ref (32 + C.length + 1), .ref (32 + C.length + 2), .ref (32 + C.length + 3), .ref (32 + C.length + 4), .int 0, .int 0, .int 0, .null])), (.inl (.boolean, 5, .inl (fun _ => 0))), (.inl (.int, 5, .inl (fun _ => 0))), (.inl (.int, 5, .inl (fun _ => 0))), (.inl (.int, 5, .inl (fun _ => 0)))] (s + 5 + 5 + 5 + 5)) = _
  rw [X10_init_32]
  rw [X10_init_33]
  rw [X10_init_34, hq_p0 (fs := [.ref (32 + C.length + 1), .ref (32 + C.length + 2), .ref (32 + C.length + 3), .ref (32 + C.length + 4), .int 0, .int 0, .int 0, .null]) rfl (show 4 < 8 by decide) rfl]
  show ex d mX10_init 37 [some (.ref (32 + C.length))] [] (hq b C [(.inr (11, [.ref (32 + C.length + 1), .ref (32 + C.length + 2), .ref (32 + C.length + 3), .ref (32 + C.length + 4), .int 0, .int 0, .int 0, .null])), (.inl (.boolean, 5, .inl (fun _ => 0))), (.inl (.int, 5, .inl (fun _ => 0))), (.inl (.int, 5, .inl (fun _ => 0))), (.inl (.int, 5, .inl (fun _ => 0)))] (s + 5 + 5 + 5 + 5)) = _
  rw [X10_init_37]
  rw [X10_init_38]
  rw [X10_init_39, hq_p0 (fs := [.ref (32 + C.length + 1), .ref (32 + C.length + 2), .ref (32 + C.length + 3), .ref (32 + C.length + 4), .int 0, .int 0, .int 0, .null]) rfl (show 5 < 8 by decide) rfl]
  show ex d mX10_init 42 [some (.ref (32 + C.length))] [] (hq b C [(.inr (11, [.ref (32 + C.length + 1), .ref (32 + C.length + 2), .ref (32 + C.length + 3), .ref (32 + C.length + 4), .int 0, .int 0, .int 0, .null])), (.inl (.boolean, 5, .inl (fun _ => 0))), (.inl (.int, 5, .inl (fun _ => 0))), (.inl (.int, 5, .inl (fun _ => 0))), (.inl (.int, 5, .inl (fun _ => 0)))] (s + 5 + 5 + 5 + 5)) = _
  rw [X10_init_42]
  rw [X10_init_43]
  rw [X10_init_44, hq_p0 (fs := [.ref (32 + C.length + 1), .ref (32 + C.length + 2), .ref (32 + C.length + 3), .ref (32 + C.length + 4), .int 0, .int 0, .int 0, .null]) rfl (show 6 < 8 by decide) rfl]
  show ex d mX10_init 47 [some (.ref (32 + C.length))] [] (hq b C [(.inr (11, [.ref (32 + C.length + 1), .ref (32 + C.length + 2), .ref (32 + C.length + 3), .ref (32 + C.length + 4), .int 0, .int 0, .int 0, .null])), (.inl (.boolean, 5, .inl (fun _ => 0))), (.inl (.int, 5, .inl (fun _ => 0))), (.inl (.int, 5, .inl (fun _ => 0))), (.inl (.int, 5, .inl (fun _ => 0)))] (s + 5 + 5 + 5 + 5)) = _
  rw [X10_init_47]
  rw [X10_init_48]
  rw [X10_init_50, if_pos (by decide), hq_top, hq_new]
  show ex d mX10_init 52 [some (.ref (32 + C.length))] [.ref (32 + C.length + 5), .ref (32 + C.length)] (hq b C [(.inr (11, [.ref (32 + C.length + 1), .ref (32 + C.length + 2), .ref (32 + C.length + 3), .ref (32 + C.length + 4), .int 0, .int 0, .int 0, .null])), (.inl (.boolean, 5, .inl (fun _ => 0))), (.inl (.int, 5, .inl (fun _ => 0))), (.inl (.int, 5, .inl (fun _ => 0))), (.inl (.int, 5, .inl (fun _ => 0))), (.inl (.int, 30, .inl (fun _ => 0)))] (s + 5 + 5 + 5 + 5 + 30)) = _
  rw [X10_init_52, hq_p0 (fs := [.ref (32 + C.length + 1), .ref (32 + C.length + 2), .ref (32 + C.length + 3), .ref (32 + C.length + 4), .int 0, .int 0, .int 0, .null]) rfl (show 7 < 8 by decide) rfl]
  show ex d mX10_init 55 [some (.ref (32 + C.length))] [] (hq b C [(.inr (11, [.ref (32 + C.length + 1), .ref (32 + C.length + 2), .ref (32 + C.length + 3), .ref (32 + C.length + 4), .int 0, .int 0, .int 0, .ref (32 + C.length + 5)])), (.inl (.boolean, 5, .inl (fun _ => 0))), (.inl (.int, 5, .inl (fun _ => 0))), (.inl (.int, 5, .inl (fun _ => 0))), (.inl (.int, 5, .inl (fun _ => 0))), (.inl (.int, 30, .inl (fun _ => 0)))] (s + 5 + 5 + 5 + 5 + 30)) = _
  rw [X10_init_55]
  rfl
theorem j_X10 {D0 : List kE} : rn (d + 1) mX10_init [.ref (32 + C.length + D0.length)] (hq b C (D0 ++ [(.inr (11, kdef 11))]) s) = some (none, hq b C (D0 ++ cX10 (32 + C.length + D0.length)) (s + 5 + 5 + 5 + 5 + 30)) := by
  have e := i_X10 (d := d) (b := b) (C := C ++ D0) (s := s)
  rw [hq_sp, hq_sp, List.length_append, ← Nat.add_assoc] at e
  exact e
def cX7 (a : Nat) : List kE := (((([(.inr (8, [.int 8, .int 10, .int 40, .int 240, .ref (a + 1), .ref (a + 2), .ref (a + 5), .ref (a + 8), .ref (a + 11)])), (.inl (.int, 5, .inl (upd (upd (upd (upd (upd (fun _ => 0) 0 100) 1 0) 2 1) 3 4) 4 500)))] ++ cX6 (a + 2)) ++ cX2 (a + 5)) ++ cX8 (a + 8)) ++ cX4 (a + 11))
theorem i_X7 : rn (d + 2) mX7_init [.ref (32 + C.length)] (hq b C [(.inr (8, kdef 8))] s) = some (none, hq b C (cX7 (32 + C.length)) (s + 5 + 3 + 10 + 10 + 3 + 200 + 200 + 3 + 10 + 10 + 3 + 20 + 200)) := by
  rw [X7_init_E]
  rw [X7_init_0]
  rw [X7_init_1]
  rw [X7_init_4]
  rw [X7_init_5]
  rw [X7_init_7, hq_p0 (fs := kdef 8) rfl (show 0 < 9 by decide) rfl]
  show ex (d + 1) mX7_init 10 [some (.ref (32 + C.length))] [] (hq b C [(.inr (8, [.int 8, .int 0, .int 0, .int 0, .null, .null, .null, .null, .null]))] (s)) = _
  rw [X7_init_10]
  rw [X7_init_11]
  rw [X7_init_13, hq_p0 (fs := [.int 8, .int 0, .int 0, .int 0, .null, .null, .null, .null, .null]) rfl (show 1 < 9 by decide) rfl]
  show ex (d + 1) mX7_init 16 [some (.ref (32 + C.length))] [] (hq b C [(.inr (8, [.int 8, .int 10, .int 0, .int 0, .null, .null, .null, .null, .null]))] (s)) = _
  rw [X7_init_16]
  rw [X7_init_17]
  rw [X7_init_19, hq_p0 (fs := [.int 8, .int 10, .int 0, .int 0, .null, .null, .null, .null, .null]) rfl (show 2 < 9 by decide) rfl]
  show ex (d + 1) mX7_init 22 [some (.ref (32 + C.length))] [] (hq b C [(.inr (8, [.int 8, .int 10, .int 40, .int 0, .null, .null, .null, .null, .null]))] (s)) = _
  rw [X7_init_22]
  rw [X7_init_23]
  rw [X7_init_26, hq_p0 (fs := [.int 8, .int 10, .int 40, .int 0, .null, .null, .null, .null, .null]) rfl (show 3 < 9 by decide) rfl]
  show ex (d + 1) mX7_init 29 [some (.ref (32 + C.length))] [] (hq b C [(.inr (8, [.int 8, .int 10, .int 40, .int 240, .null, .null, .null, .null, .null]))] (s)) = _
  rw [X7_init_29]
  rw [X7_init_30]
  rw [X7_init_31, if_pos (by decide), hq_top, hq_new]
  show ex (d + 1) mX7_init 33 [some (.ref (32 + C.length))] [.ref (32 + C.length + 1), .ref (32 + C.length)] (hq b C [(.inr (8, [.int 8, .int 10, .int 40, .int 240, .null, .null, .null, .null, .null])), (.inl (.int, 5, .inl (fun _ => 0)))] (s + 5)) = _
  rw [X7_init_33]
  rw [X7_init_34]
  rw [X7_init_35]
  rw [X7_init_37, show kis_ (hq b C [(.inr (8, [.int 8, .int 10, .int 40, .int 240, .null, .null, .null, .null, .null])), (.inl (.int, 5, .inl (fun _ => 0)))] (s + 5)) (32 + C.length + 1) 0 100 = some (hq b C [(.inr (8, [.int 8, .int 10, .int 40, .int 240, .null, .null, .null, .null, .null])), (.inl (.int, 5, .inl (upd (fun _ => 0) 0 100)))] (s + 5)) from hq_is (i := 1) (a := 0) (f := fun _ => 0) rfl (by decide) (by decide)]
  show ex (d + 1) mX7_init 38 [some (.ref (32 + C.length))] [.ref (32 + C.length + 1), .ref (32 + C.length)] (hq b C [(.inr (8, [.int 8, .int 10, .int 40, .int 240, .null, .null, .null, .null, .null])), (.inl (.int, 5, .inl (upd (fun _ => 0) 0 100)))] (s + 5)) = _
  rw [X7_init_38]
  rw [X7_init_39]
  rw [X7_init_40]
  rw [X7_init_41, show kis_ (hq b C [(.inr (8, [.int 8, .int 10, .int 40, .int 240, .null, .null, .null, .null, .null])), (.inl (.int, 5, .inl (upd (fun _ => 0) 0 100)))] (s + 5)) (32 + C.length + 1) 1 0 = some (hq b C [(.inr (8, [.int 8, .int 10, .int 40, .int 240, .null, .null, .null, .null, .null])), (.inl (.int, 5, .inl (upd (upd (fun _ => 0) 0 100) 1 0)))] (s + 5)) from hq_is (i := 1) (a := 1) (f := upd (fun _ => 0) 0 100) rfl (by decide) (by decide)]
  show ex (d + 1) mX7_init 42 [some (.ref (32 + C.length))] [.ref (32 + C.length + 1), .ref (32 + C.length)] (hq b C [(.inr (8, [.int 8, .int 10, .int 40, .int 240, .null, .null, .null, .null, .null])), (.inl (.int, 5, .inl (upd (upd (fun _ => 0) 0 100) 1 0)))] (s + 5)) = _
  rw [X7_init_42]
  rw [X7_init_43]
  rw [X7_init_44]
  rw [X7_init_45, show kis_ (hq b C [(.inr (8, [.int 8, .int 10, .int 40, .int 240, .null, .null, .null, .null, .null])), (.inl (.int, 5, .inl (upd (upd (fun _ => 0) 0 100) 1 0)))] (s + 5)) (32 + C.length + 1) 2 1 = some (hq b C [(.inr (8, [.int 8, .int 10, .int 40, .int 240, .null, .null, .null, .null, .null])), (.inl (.int, 5, .inl (upd (upd (upd (fun _ => 0) 0 100) 1 0) 2 1)))] (s + 5)) from hq_is (i := 1) (a := 2) (f := upd (upd (fun _ => 0) 0 100) 1 0) rfl (by decide) (by decide)]
  show ex (d + 1) mX7_init 46 [some (.ref (32 + C.length))] [.ref (32 + C.length + 1), .ref (32 + C.length)] (hq b C [(.inr (8, [.int 8, .int 10, .int 40, .int 240, .null, .null, .null, .null, .null])), (.inl (.int, 5, .inl (upd (upd (upd (fun _ => 0) 0 100) 1 0) 2 1)))] (s + 5)) = _
  rw [X7_init_46]
  rw [X7_init_47]
  rw [X7_init_48]
  rw [X7_init_49, show kis_ (hq b C [(.inr (8, [.int 8, .int 10, .int 40, .int 240, .null, .null, .null, .null, .null])), (.inl (.int, 5, .inl (upd (upd (upd (fun _ => 0) 0 100) 1 0) 2 1)))] (s + 5)) (32 + C.length + 1) 3 4 = some (hq b C [(.inr (8, [.int 8, .int 10, .int 40, .int 240, .null, .null, .null, .null, .null])), (.inl (.int, 5, .inl (upd (upd (upd (upd (fun _ => 0) 0 100) 1 0) 2 1) 3 4)))] (s + 5)) from hq_is (i := 1) (a := 3) (f := upd (upd (upd (fun _ => 0) 0 100) 1 0) 2 1) rfl (by decide) (by decide)]
  show ex (d + 1) mX7_init 50 [some (.ref (32 + C.length))] [.ref (32 + C.length + 1), .ref (32 + C.length)] (hq b C [(.inr (8, [.int 8, .int 10, .int 40, .int 240, .null, .null, .null, .null, .null])), (.inl (.int, 5, .inl (upd (upd (upd (upd (fun _ => 0) 0 100) 1 0) 2 1) 3 4)))] (s + 5)) = _
  rw [X7_init_50]
  rw [X7_init_51]
  rw [X7_init_52]
  rw [X7_init_55, show kis_ (hq b C [(.inr (8, [.int 8, .int 10, .int 40, .int 240, .null, .null, .null, .null, .null])), (.inl (.int, 5, .inl (upd (upd (upd (upd (fun _ => 0) 0 100) 1 0) 2 1) 3 4)))] (s + 5)) (32 + C.length + 1) 4 500 = some (hq b C [(.inr (8, [.int 8, .int 10, .int 40, .int 240, .null, .null, .null, .null, .null])), (.inl (.int, 5, .inl (upd (upd (upd (upd (upd (fun _ => 0) 0 100) 1 0) 2 1) 3 4) 4 500)))] (s + 5)) from hq_is (i := 1) (a := 4) (f := upd (upd (upd (upd (fun _ => 0) 0 100) 1 0) 2 1) 3 4) rfl (by decide) (by decide)]
  show ex (d + 1) mX7_init 56 [some (.ref (32 + C.length))] [.ref (32 + C.length + 1), .ref (32 + C.length)] (hq b C [(.inr (8, [.int 8, .int 10, .int 40, .int 240, .null, .null, .null, .null, .null])), (.inl (.int, 5, .inl (upd (upd (upd (upd (upd (fun _ => 0) 0 100) 1 0) 2 1) 3 4) 4 500)))] (s + 5)) = _
  rw [X7_init_56, hq_p0 (fs := [.int 8, .int 10, .int 40, .int 240, .null, .null, .null, .null, .null]) rfl (show 4 < 9 by decide) rfl]
  show ex (d + 1) mX7_init 59 [some (.ref (32 + C.length))] [] (hq b C [(.inr (8, [.int 8, .int 10, .int 40, .int 240, .ref (32 + C.length + 1), .null, .null, .null, .null])), (.inl (.int, 5, .inl (upd (upd (upd (upd (upd (fun _ => 0) 0 100) 1 0) 2 1) 3 4) 4 500)))] (s + 5)) = _
  rw [X7_init_59]
  rw [X7_init_60, hq_top, hq_new]
  show ex (d + 1) mX7_init 63 [some (.ref (32 + C.length))] [.ref (32 + C.length + 2), .ref (32 + C.length)] (hq b C ([(.inr (8, [.int 8, .int 10, .int 40, .int 240, .ref (32 + C.length + 1), .null, .null, .null, .null])), (.inl (.int, 5, .inl (upd (upd (upd (upd (upd (fun _ => 0) 0 100) 1 0) 2 1) 3 4) 4 500)))] ++ [(.inr (7, kdef 7))]) (s + 5 + 3)) = _
  rw [X7_init_63]
  rw [X7_init_64, show rn (d + 1) mX6_init [.ref (32 + C.length + 2)] (hq b C ([(.inr (8, [.int 8, .int 10, .int 40, .int 240, .ref (32 + C.length + 1), .null, .null, .null, .null])), (.inl (.int, 5, .inl (upd (upd (upd (upd (upd (fun _ => 0) 0 100) 1 0) 2 1) 3 4) 4 500)))] ++ [(.inr (7, kdef 7))]) (s + 5 + 3)) = some (none, hq b C ([(.inr (8, [.int 8, .int 10, .int 40, .int 240, .ref (32 + C.length + 1), .null, .null, .null, .null])), (.inl (.int, 5, .inl (upd (upd (upd (upd (upd (fun _ => 0) 0 100) 1 0) 2 1) 3 4) 4 500)))] ++ cX6 (32 + C.length + 2)) (s + 5 + 3 + 10 + 10)) from j_X6 (D0 := [(.inr (8, [.int 8, .int 10, .int 40, .int 240, .ref (32 + C.length + 1), .null, .null, .null, .null])), (.inl (.int, 5, .inl (upd (upd (upd (upd (upd (fun _ => 0) 0 100) 1 0) 2 1) 3 4) 4 500)))])]
  show ex (d + 1) mX7_init 67 [some (.ref (32 + C.length))] [.ref (32 + C.length + 2), .ref (32 + C.length)] (hq b C ([(.inr (8, [.int 8, .int 10, .int 40, .int 240, .ref (32 + C.length + 1), .null, .null, .null, .null])), (.inl (.int, 5, .inl (upd (upd (upd (upd (upd (fun _ => 0) 0 100) 1 0) 2 1) 3 4) 4 500)))] ++ cX6 (32 + C.length + 2)) (s + 5 + 3 + 10 + 10)) = _
  rw [X7_init_67, hq_p0 (fs := [.int 8, .int 10, .int 40, .int 240, .ref (32 + C.length + 1), .null, .null, .null, .null]) rfl (show 5 < 9 by decide) rfl]
  show ex (d + 1) mX7_init 70 [some (.ref (32 + C.length))] [] (hq b C ([(.inr (8, [.int 8, .int 10, .int 40, .int 240, .ref (32 + C.length + 1), .ref (32 + C.length + 2), .null, .null, .null])), (.inl (.int, 5, .inl (upd (upd (upd (upd (upd (fun _ => 0) 0 100) 1 0) 2 1) 3 4) 4 500)))] ++ cX6 (32 + C.length + 2)) (s + 5 + 3 + 10 + 10)) = _
  rw [X7_init_70]
  rw [X7_init_71, hq_top, hq_new]
  show ex (d + 1) mX7_init 74 [some (.ref (32 + C.length))] [.ref (32 + C.length + 5), .ref (32 + C.length)] (hq b C (([(.inr (8, [.int 8, .int 10, .int 40, .int 240, .ref (32 + C.length + 1), .ref (32 + C.length + 2), .null, .null, .null])), (.inl (.int, 5, .inl (upd (upd (upd (upd (upd (fun _ => 0) 0 100) 1 0) 2 1) 3 4) 4 500)))] ++ cX6 (32 + C.length + 2)) ++ [(.inr (3, kdef 3))]) (s + 5 + 3 + 10 + 10 + 3)) = _
  rw [X7_init_74]
  rw [X7_init_75, show rn (d + 1) mX2_init [.ref (32 + C.length + 5)] (hq b C (([(.inr (8, [.int 8, .int 10, .int 40, .int 240, .ref (32 + C.length + 1), .ref (32 + C.length + 2), .null, .null, .null])), (.inl (.int, 5, .inl (upd (upd (upd (upd (upd (fun _ => 0) 0 100) 1 0) 2 1) 3 4) 4 500)))] ++ cX6 (32 + C.length + 2)) ++ [(.inr (3, kdef 3))]) (s + 5 + 3 + 10 + 10 + 3)) = some (none, hq b C (([(.inr (8, [.int 8, .int 10, .int 40, .int 240, .ref (32 + C.length + 1), .ref (32 + C.length + 2), .null, .null, .null])), (.inl (.int, 5, .inl (upd (upd (upd (upd (upd (fun _ => 0) 0 100) 1 0) 2 1) 3 4) 4 500)))] ++ cX6 (32 + C.length + 2)) ++ cX2 (32 + C.length + 5)) (s + 5 + 3 + 10 + 10 + 3 + 200 + 200)) from j_X2 (D0 := ([(.inr (8, [.int 8, .int 10, .int 40, .int 240, .ref (32 + C.length + 1), .ref (32 + C.length + 2), .null, .null, .null])), (.inl (.int, 5, .inl (upd (upd (upd (upd (upd (fun _ => 0) 0 100) 1 0) 2 1) 3 4) 4 500)))] ++ cX6 (32 + C.length + 2)))]
  show ex (d + 1) mX7_init 78 [some (.ref (32 + C.length))] [.ref (32 + C.length + 5), .ref (32 + C.length)] (hq b C (([(.inr (8, [.int 8, .int 10, .int 40, .int 240, .ref (32 + C.length + 1), .ref (32 + C.length + 2), .null, .null, .null])), (.inl (.int, 5, .inl (upd (upd (upd (upd (upd (fun _ => 0) 0 100) 1 0) 2 1) 3 4) 4 500)))] ++ cX6 (32 + C.length + 2)) ++ cX2 (32 + C.length + 5)) (s + 5 + 3 + 10 + 10 + 3 + 200 + 200)) = _
  rw [X7_init_78, hq_p0 (fs := [.int 8, .int 10, .int 40, .int 240, .ref (32 + C.length + 1), .ref (32 + C.length + 2), .null, .null, .null]) rfl (show 6 < 9 by decide) rfl]
  show ex (d + 1) mX7_init 81 [some (.ref (32 + C.length))] [] (hq b C (([(.inr (8, [.int 8, .int 10, .int 40, .int 240, .ref (32 + C.length + 1), .ref (32 + C.length + 2), .ref (32 + C.length + 5), .null, .null])), (.inl (.int, 5, .inl (upd (upd (upd (upd (upd (fun _ => 0) 0 100) 1 0) 2 1) 3 4) 4 500)))] ++ cX6 (32 + C.length + 2)) ++ cX2 (32 + C.length + 5)) (s + 5 + 3 + 10 + 10 + 3 + 200 + 200)) = _
  rw [X7_init_81]
  rw [X7_init_82, hq_top, hq_new]
  show ex (d + 1) mX7_init 85 [some (.ref (32 + C.length))] [.ref (32 + C.length + 8), .ref (32 + C.length)] (hq b C ((([(.inr (8, [.int 8, .int 10, .int 40, .int 240, .ref (32 + C.length + 1), .ref (32 + C.length + 2), .ref (32 + C.length + 5), .null, .null])), (.inl (.int, 5, .inl (upd (upd (upd (upd (upd (fun _ => 0) 0 100) 1 0) 2 1) 3 4) 4 500)))] ++ cX6 (32 + C.length + 2)) ++ cX2 (32 + C.length + 5)) ++ [(.inr (9, kdef 9))]) (s + 5 + 3 + 10 + 10 + 3 + 200 + 200 + 3)) = _
  rw [X7_init_85]
  rw [X7_init_86, show rn (d + 1) mX8_init [.ref (32 + C.length + 8)] (hq b C ((([(.inr (8, [.int 8, .int 10, .int 40, .int 240, .ref (32 + C.length + 1), .ref (32 + C.length + 2), .ref (32 + C.length + 5), .null, .null])), (.inl (.int, 5, .inl (upd (upd (upd (upd (upd (fun _ => 0) 0 100) 1 0) 2 1) 3 4) 4 500)))] ++ cX6 (32 + C.length + 2)) ++ cX2 (32 + C.length + 5)) ++ [(.inr (9, kdef 9))]) (s + 5 + 3 + 10 + 10 + 3 + 200 + 200 + 3)) = some (none, hq b C ((([(.inr (8, [.int 8, .int 10, .int 40, .int 240, .ref (32 + C.length + 1), .ref (32 + C.length + 2), .ref (32 + C.length + 5), .null, .null])), (.inl (.int, 5, .inl (upd (upd (upd (upd (upd (fun _ => 0) 0 100) 1 0) 2 1) 3 4) 4 500)))] ++ cX6 (32 + C.length + 2)) ++ cX2 (32 + C.length + 5)) ++ cX8 (32 + C.length + 8)) (s + 5 + 3 + 10 + 10 + 3 + 200 + 200 + 3 + 10 + 10)) from j_X8 (D0 := (([(.inr (8, [.int 8, .int 10, .int 40, .int 240, .ref (32 + C.length + 1), .ref (32 + C.length + 2), .ref (32 + C.length + 5), .null, .null])), (.inl (.int, 5, .inl (upd (upd (upd (upd (upd (fun _ => 0) 0 100) 1 0) 2 1) 3 4) 4 500)))] ++ cX6 (32 + C.length + 2)) ++ cX2 (32 + C.length + 5)))]
  show ex (d + 1) mX7_init 89 [some (.ref (32 + C.length))] [.ref (32 + C.length + 8), .ref (32 + C.length)] (hq b C ((([(.inr (8, [.int 8, .int 10, .int 40, .int 240, .ref (32 + C.length + 1), .ref (32 + C.length + 2), .ref (32 + C.length + 5), .null, .null])), (.inl (.int, 5, .inl (upd (upd (upd (upd (upd (fun _ => 0) 0 100) 1 0) 2 1) 3 4) 4 500)))] ++ cX6 (32 + C.length + 2)) ++ cX2 (32 + C.length + 5)) ++ cX8 (32 + C.length + 8)) (s + 5 + 3 + 10 + 10 + 3 + 200 + 200 + 3 + 10 + 10)) = _
  rw [X7_init_89, hq_p0 (fs := [.int 8, .int 10, .int 40, .int 240, .ref (32 + C.length + 1), .ref (32 + C.length + 2), .ref (32 + C.length + 5), .null, .null]) rfl (show 7 < 9 by decide) rfl]
  show ex (d + 1) mX7_init 92 [some (.ref (32 + C.length))] [] (hq b C ((([(.inr (8, [.int 8, .int 10, .int 40, .int 240, .ref (32 + C.length + 1), .ref (32 + C.length + 2), .ref (32 + C.length + 5), .ref (32 + C.length + 8), .null])), (.inl (.int, 5, .inl (upd (upd (upd (upd (upd (fun _ => 0) 0 100) 1 0) 2 1) 3 4) 4 500)))] ++ cX6 (32 + C.length + 2)) ++ cX2 (32 + C.length + 5)) ++ cX8 (32 + C.length + 8)) (s + 5 + 3 + 10 + 10 + 3 + 200 + 200 + 3 + 10 + 10)) = _
  rw [X7_init_92]
  rw [X7_init_93, hq_top, hq_new]
  show ex (d + 1) mX7_init 96 [some (.ref (32 + C.length))] [.ref (32 + C.length + 11), .ref (32 + C.length)] (hq b C (((([(.inr (8, [.int 8, .int 10, .int 40, .int 240, .ref (32 + C.length + 1), .ref (32 + C.length + 2), .ref (32 + C.length + 5), .ref (32 + C.length + 8), .null])), (.inl (.int, 5, .inl (upd (upd (upd (upd (upd (fun _ => 0) 0 100) 1 0) 2 1) 3 4) 4 500)))] ++ cX6 (32 + C.length + 2)) ++ cX2 (32 + C.length + 5)) ++ cX8 (32 + C.length + 8)) ++ [(.inr (5, kdef 5))]) (s + 5 + 3 + 10 + 10 + 3 + 200 + 200 + 3 + 10 + 10 + 3)) = _
  rw [X7_init_96]
  rw [X7_init_97, show rn (d + 1) mX4_init [.ref (32 + C.length + 11)] (hq b C (((([(.inr (8, [.int 8, .int 10, .int 40, .int 240, .ref (32 + C.length + 1), .ref (32 + C.length + 2), .ref (32 + C.length + 5), .ref (32 + C.length + 8), .null])), (.inl (.int, 5, .inl (upd (upd (upd (upd (upd (fun _ => 0) 0 100) 1 0) 2 1) 3 4) 4 500)))] ++ cX6 (32 + C.length + 2)) ++ cX2 (32 + C.length + 5)) ++ cX8 (32 + C.length + 8)) ++ [(.inr (5, kdef 5))]) (s + 5 + 3 + 10 + 10 + 3 + 200 + 200 + 3 + 10 + 10 + 3)) = some (none, hq b C (((([(.inr (8, [.int 8, .int 10, .int 40, .int 240, .ref (32 + C.length + 1), .ref (32 + C.length + 2), .ref (32 + C.length + 5), .ref (32 + C.length + 8), .null])), (.inl (.int, 5, .inl (upd (upd (upd (upd (upd (fun _ => 0) 0 100) 1 0) 2 1) 3 4) 4 500)))] ++ cX6 (32 + C.length + 2)) ++ cX2 (32 + C.length + 5)) ++ cX8 (32 + C.length + 8)) ++ cX4 (32 + C.length + 11)) (s + 5 + 3 + 10 + 10 + 3 + 200 + 200 + 3 + 10 + 10 + 3 + 20 + 200)) from j_X4 (D0 := ((([(.inr (8, [.int 8, .int 10, .int 40, .int 240, .ref (32 + C.length + 1), .ref (32 + C.length + 2), .ref (32 + C.length + 5), .ref (32 + C.length + 8), .null])), (.inl (.int, 5, .inl (upd (upd (upd (upd (upd (fun _ => 0) 0 100) 1 0) 2 1) 3 4) 4 500)))] ++ cX6 (32 + C.length + 2)) ++ cX2 (32 + C.length + 5)) ++ cX8 (32 + C.length + 8)))]
  show ex (d + 1) mX7_init 100 [some (.ref (32 + C.length))] [.ref (32 + C.length + 11), .ref (32 + C.length)] (hq b C (((([(.inr (8, [.int 8, .int 10, .int 40, .int 240, .ref (32 + C.length + 1), .ref (32 + C.length + 2), .ref (32 + C.length + 5), .ref (32 + C.length + 8), .null])), (.inl (.int, 5, .inl (upd (upd (upd (upd (upd (fun _ => 0) 0 100) 1 0) 2 1) 3 4) 4 500)))] ++ cX6 (32 + C.length + 2)) ++ cX2 (32 + C.length + 5)) ++ cX8 (32 + C.length + 8)) ++ cX4 (32 + C.length + 11)) (s + 5 + 3 + 10 + 10 + 3 + 200 + 200 + 3 + 10 + 10 + 3 + 20 + 200)) = _
  rw [X7_init_100, hq_p0 (fs := [.int 8, .int 10, .int 40, .int 240, .ref (32 + C.length + 1), .ref (32 + C.length + 2), .ref (32 + C.length + 5), .ref (32 + C.length + 8), .null]) rfl (show 8 < 9 by decide) rfl]
  show ex (d + 1) mX7_init 103 [some (.ref (32 + C.length))] [] (hq b C (((([(.inr (8, [.int 8, .int 10, .int 40, .int 240, .ref (32 + C.length + 1), .ref (32 + C.length + 2), .ref (32 + C.length + 5), .ref (32 + C.length + 8), .ref (32 + C.length + 11)])), (.inl (.int, 5, .inl (upd (upd (upd (upd (upd (fun _ => 0) 0 100) 1 0) 2 1) 3 4) 4 500)))] ++ cX6 (32 + C.length + 2)) ++ cX2 (32 + C.length + 5)) ++ cX8 (32 + C.length + 8)) ++ cX4 (32 + C.length + 11)) (s + 5 + 3 + 10 + 10 + 3 + 200 + 200 + 3 + 10 + 10 + 3 + 20 + 200)) = _
  rw [X7_init_103]
  rfl
theorem j_X7 {D0 : List kE} : rn (d + 2) mX7_init [.ref (32 + C.length + D0.length)] (hq b C (D0 ++ [(.inr (8, kdef 8))]) s) = some (none, hq b C (D0 ++ cX7 (32 + C.length + D0.length)) (s + 5 + 3 + 10 + 10 + 3 + 200 + 200 + 3 + 10 + 10 + 3 + 20 + 200)) := by
  have e := i_X7 (d := d) (b := b) (C := C ++ D0) (s := s)
  rw [hq_sp, hq_sp, List.length_append, ← Nat.add_assoc] at e
  exact e
end MKA
